def allF (f : Nat → Bool) : Nat → Bool
  | 0 => true
  | k + 1 => allF f k && f k
theorem allF_t {f : Nat → Bool} {k : Nat} (h : allF f k = true) (g : f k = true) : allF f (k + 1) = true := by show (allF f k && f k) = true; rw [h, g]; rfl
theorem allF_f1 {f : Nat → Bool} {k : Nat} (h : allF f k = false) : allF f (k + 1) = false := by show (allF f k && f k) = false; rw [h]; rfl
theorem allF_f2 {f : Nat → Bool} {k : Nat} (h : f k = false) : allF f (k + 1) = false := by show (allF f k && f k) = false; rw [h]; exact Bool.and_false _
theorem allF_iff (f : Nat → Bool) : ∀ k, allF f k = true ↔ ∀ i, i < k → f i = true
  | 0 => by simp [allF]
  | k + 1 => by
    show (allF f k && f k) = true ↔ _
    rw [Bool.and_eq_true, allF_iff f k]
    constructor
    · rintro ⟨h, g⟩ i hi
      by_cases e : i = k
      · subst e; exact g
      · exact h i (by omega)
    · intro h
      exact ⟨fun i hi => h i (by omega), h k (by omega)⟩
/-- that a tune of one's is taken by nobody, nobody's for it -/
def ownF (b : Nat → Int) (p tune q : Nat) : Bool := decide (q = p) || !clN b p tune q (tN b q)
def ownN (b : Nat → Int) (n p tune : Nat) : Bool := allF (ownF b p tune) n
/-- the first of so many numbers -/
def leF (f : Nat → Bool) (lo : Nat) : Nat → Int
  | 0 => -1
  | k + 1 => if f lo = true then (lo : Int) else leF f (lo + 1) k
theorem leF_t {f : Nat → Bool} {lo k : Nat} (hk : 0 < k) (h : f lo = true) : leF f lo k = (lo : Int) := by
  obtain ⟨k, rfl⟩ : ∃ j, k = j + 1 := ⟨k - 1, by omega⟩
  show (if f lo = true then _ else _) = _; rw [if_pos h]
theorem leF_f {f : Nat → Bool} {lo k : Nat} (hk : 0 < k) (h : f lo = false) : leF f lo k = leF f (lo + 1) (k - 1) := by
  obtain ⟨k, rfl⟩ : ∃ j, k = j + 1 := ⟨k - 1, by omega⟩
  show (if f lo = true then _ else _) = _; rw [if_neg (by rw [h]; decide)]; rfl
def brG (b : Nat → Int) (n p t : Nat) : Bool := decide (noteN t 0 = noteN (tN b p) 0) && ownN b n p t
def brN (b : Nat → Int) (n p : Nat) : Int := leF (brG b n p) (4 ^ notesN (tN b p)) (4 ^ notesN (tN b p))
def thG (b : Nat → Int) (n pl wind p m : Nat) : Bool := decide (calN b n pl (frontN (tN b p) m) wind = 2 ^ p)
def thN (b : Nat → Int) (n pl wind p : Nat) : Int := leF (thG b n pl wind p) 1 (notesN (tN b p))
def kB (n : Nat) (place wind p : Int) : Nat := if (0 ≤ place ∧ place ≤ 5) ∧ (0 ≤ wind ∧ wind ≤ 3) ∧ (0 ≤ p ∧ p < (n : Int)) then 0 else 1
theorem four_pow {k : Nat} (h : k ≤ 5) : 4 ^ k ≤ 1024 := Nat.le_trans (Nat.pow_le_pow_right (by decide) h) (Nat.le_refl _)
theorem each_vt {k t : Nat} (h1 : 1 ≤ k) (h5 : k ≤ 5) (h : 4 ^ k ≤ t) (h2 : t < 2 * 4 ^ k) : vt t := by
  have : k = 1 ∨ k = 2 ∨ k = 3 ∨ k = 4 ∨ k = 5 := by omega
  rcases this with rfl | rfl | rfl | rfl | rfl <;> (unfold vt; omega)
theorem each_notes_b : (List.range 2048).all (fun t => !vtb t || (Nat.ble (4 ^ notesN t) t && Nat.blt t (2 * 4 ^ notesN t))) = true := by decide +kernel
theorem each_notes {t : Nat} (hv : vt t) : 4 ^ notesN t ≤ t ∧ t < 2 * 4 ^ notesN t := by
  have h := all_r each_notes_b (vt_lt hv)
  rw [vtb_iff.mpr hv, Bool.not_true, Bool.false_or, Bool.and_eq_true, Nat.ble_eq, Nat.blt_eq] at h
  exact h
theorem each_notes_eq {k t : Nat} (h1 : 1 ≤ k) (h5 : k ≤ 5) (h : 4 ^ k ≤ t) (h2 : t < 2 * 4 ^ k) : notesN t = k := by
  have hv := each_vt h1 h5 h h2
  have h3 := each_notes hv
  have h4 := notes_vt t (vt_lt hv) hv
  rcases Nat.lt_trichotomy (notesN t) k with g | g | g
  · exfalso
    have : 4 ^ (notesN t + 1) ≤ 4 ^ k := Nat.pow_le_pow_right (by decide) g
    rw [Nat.pow_succ] at this; omega
  · exact g
  · exfalso
    have : 4 ^ (k + 1) ≤ 4 ^ notesN t := Nat.pow_le_pow_right (by decide) g
    rw [Nat.pow_succ] at this; omega
theorem front_vt {t m : Nat} (hv : vt t) (h1 : 1 ≤ m) (hm : m ≤ notesN t) : vt (frontN t m) := by
  have hn := notes_vt t (vt_lt hv) hv
  exact ((div_vt t (vt_lt hv) hv (notesN t - m) (by omega)).1 (by omega)).1
/-- of all numbers below one, how many, the first -/
def wsF (g : Nat → Bool) : Nat → Int × Int
  | 0 => (0, -1)
  | k + 1 => if g k = true then ((wsF g k).1 + 1, if (wsF g k).2 = -1 then (k : Int) else (wsF g k).2) else wsF g k
theorem wsF_f {g : Nat → Bool} {k : Nat} (h : g k = false) : wsF g (k + 1) = wsF g k := by show (if g k = true then _ else _) = _; rw [if_neg (by rw [h]; decide)]
theorem wsF_1 {g : Nat → Bool} {k : Nat} (h : g k = true) : (wsF g (k + 1)).1 = (wsF g k).1 + 1 := by show (if g k = true then _ else _ : Int × Int).1 = _; rw [if_pos h]
theorem wsF_2 {g : Nat → Bool} {k : Nat} (h : g k = true) : (wsF g (k + 1)).2 = if (wsF g k).2 = -1 then (k : Int) else (wsF g k).2 := by show (if g k = true then _ else _ : Int × Int).2 = _; rw [if_pos h]
theorem wsF_r (g : Nat → Bool) : ∀ k, 0 ≤ (wsF g k).1 ∧ (wsF g k).1 ≤ (k : Int) ∧ -1 ≤ (wsF g k).2 ∧ (wsF g k).2 < (k : Int) + 1
  | 0 => by show (0 : Int) ≤ 0 ∧ (0 : Int) ≤ ((0 : Nat) : Int) ∧ (-1 : Int) ≤ -1 ∧ (-1 : Int) < ((0 : Nat) : Int) + 1; omega
  | k + 1 => by
    have h := wsF_r g k
    cases hg : g k with
    | false => rw [wsF_f hg]; omega
    | true => rw [wsF_1 hg, wsF_2 hg]; split <;> omega
def whG (b : Nat → Int) (n pl wind : Nat) (who : Int) (t : Nat) : Bool := vtb t && decide ((calN b n pl t wind : Int) = who)
def whN (b : Nat → Int) (n pl wind : Nat) (who : Int) : Int × Int := wsF (whG b n pl wind who) 2048
def kV (s : Int × Int) (n : Nat) (place wind who what : Int) : Nat := if (0 ≤ place ∧ place ≤ 5) ∧ (0 ≤ wind ∧ wind ≤ 3) ∧ (0 ≤ who ∧ who < ((2 ^ n : Nat) : Int)) ∧ (0 ≤ what ∧ what ≤ 1) then (if what = 0 then 0 else if s.2 = -1 then 2 else 0) else 1
/-- the dead's tunes -/
def frS (b : Nat → Int) (n p : Nat) (year : Int) (k : Nat) (r : Int) : Int := if (b (46 + 2 * k + 1) + 9 ≤ year ∧ ownN b n p (b (46 + 2 * k)).toNat = true) ∧ (r = -1 ∨ b (46 + 2 * k) < r) then b (46 + 2 * k) else r
def frF (b : Nat → Int) (n p : Nat) (year : Int) : Nat → Int
  | 0 => -1
  | k + 1 => frS b n p year k (frF b n p year k)
def kF (n : Nat) (p year : Int) : Nat := if (0 ≤ p ∧ p < (n : Int)) ∧ (0 ≤ year ∧ year ≤ 99) then 0 else 1
theorem frF_r {b : Nat → Int} {n d c : Nat} (I : Inv b n d c) (p : Nat) (year : Int) : ∀ k, k ≤ d → -1 ≤ frF b n p year k ∧ frF b n p year k ≤ 2047
  | 0, _ => by show (-1 : Int) ≤ -1 ∧ (-1 : Int) ≤ 2047; omega
  | k + 1, hk => by
    have h := frF_r I p year k (by omega)
    have h1 := (I.dd (k := k) (by omega)).1
    unfold isT at h1
    rw [decide_eq_true_iff] at h1
    show -1 ≤ frS b n p year k (frF b n p year k) ∧ frS b n p year k (frF b n p year k) ≤ 2047
    unfold frS
    split <;> omega
/-- who must change -/
def pcN (s : Nat) : Nat := (List.range 7).foldl (fun a k => a + s / 2 ^ k % 2) 0
def pcF (s : Nat) : Nat → Nat
  | 0 => 0
  | k + 1 => pcF s k + s / 2 ^ k % 2
theorem pcF_le (s : Nat) : ∀ k, pcF s k ≤ k
  | 0 => Nat.le_refl 0
  | k + 1 => by have := pcF_le s k; show pcF s k + s / 2 ^ k % 2 ≤ k + 1; omega
def alI (b : Nat → Int) (s a j : Nat) : Bool := decide (s / 2 ^ a % 2 = 1) || (decide (s / 2 ^ (a + 1 + j) % 2 = 1) || !clP b a (a + 1 + j))
def alA (b : Nat → Int) (n s a : Nat) : Bool := allF (alI b s a) (n - (a + 1))
def alOk (b : Nat → Int) (n s : Nat) : Bool := allF (alA b n s) n
theorem alI_1 {b : Nat → Int} {s a j : Nat} (h : s / 2 ^ a % 2 = 1) : alI b s a j = true := by unfold alI; rw [decide_eq_true h]; rfl
theorem alI_2 {b : Nat → Int} {s a j : Nat} (h : s / 2 ^ (a + 1 + j) % 2 = 1) : alI b s a j = true := by unfold alI; rw [decide_eq_true h, Bool.true_or, Bool.or_true]
theorem alI_3 {b : Nat → Int} {s a j : Nat} (h : clP b a (a + 1 + j) = false) : alI b s a j = true := by unfold alI; rw [h, Bool.not_false, Bool.or_true, Bool.or_true]
theorem alI_0 {b : Nat → Int} {s a j : Nat} (h1 : s / 2 ^ a % 2 ≠ 1) (h2 : s / 2 ^ (a + 1 + j) % 2 ≠ 1) (h3 : clP b a (a + 1 + j) = true) : alI b s a j = false := by unfold alI; rw [decide_eq_false h1, decide_eq_false h2, h3]; rfl
def alS (ok : Nat → Bool) (s : Nat) (r : Int) : Int := if (r = -1 ∨ pcF s 7 < pcF r.toNat 7) ∧ ok s = true then (s : Int) else r
def alM (ok : Nat → Bool) : Nat → Int
  | 0 => -1
  | s + 1 => alS ok s (alM ok s)
theorem alM_r (ok : Nat → Bool) : ∀ s, -1 ≤ alM ok s ∧ alM ok s < (s : Int)  ∨ (s = 0 ∧ alM ok s = -1)
  | 0 => Or.inr ⟨rfl, rfl⟩
  | s + 1 => by
    have h := alM_r ok s
    left
    show -1 ≤ alS ok s (alM ok s) ∧ alS ok s (alM ok s) < ((s + 1 : Nat) : Int)
    unfold alS
    split <;> omega
def alN (b : Nat → Int) (n : Nat) : Int := alM (alOk b n) (2 ^ n)
/-- word -/
theorem clr_b : (List.range 128).all (fun m => (List.range 7).all (fun x => decide (zI ((m : Nat) : Int) &&& zI (-1 - ((2 ^ x : Nat) : Int)) = zI ((m &&& (127 - 2 ^ x) : Nat) : Int)))) = true := by decide +kernel
theorem clr_i {m x : Nat} (hm : m < 128) (hx : x < 7) : zI ((m : Nat) : Int) &&& zI (-1 - ((2 ^ x : Nat) : Int)) = zI ((m &&& (127 - 2 ^ x) : Nat) : Int) := of_decide_eq_true (all_r (all_r clr_b hm) hx)
theorem not_b : (List.range 7).all (fun x => decide (zI ((2 ^ x : Nat) : Int) ^^^ zI (-1) = zI (-1 - ((2 ^ x : Nat) : Int)))) = true := by decide +kernel
theorem not_i {x : Nat} (hx : x < 7) : zI ((2 ^ x : Nat) : Int) ^^^ zI (-1) = zI (-1 - ((2 ^ x : Nat) : Int)) := of_decide_eq_true (all_r not_b hx)
def cbN (b : Nat → Int) (n wind x y : Nat) : Bool := decide (x ≠ y) && decide (calN b n (plN b x) (tN b y) wind &&& (127 - 2 ^ x) = 2 ^ y)
def taN (b : Nat → Int) (n wind x y : Nat) : Nat := if cbN b n wind x y = true then notesN (tN b y) else 100000
def mxF (b : Nat → Int) (h : Int) (lo : Nat) : Nat → Int
  | 0 => h
  | k + 1 => 31 * mxF b h lo k + b (lo + k)
def dgN (b : Nat → Int) (n d c : Nat) (ty : Int) : Int := mxF b (mxF b (mxF b (mxF b (31 * (31 * (31 * (31 * 757 + (n : Int)) + (d : Int)) + (c : Int)) + ty) 0 15) 18 (4 * n)) 46 (2 * d)) 58 c
theorem andF_t {c : Bool} {g : Nat → Bool} {j : Nat} (h : (c && allF g j) = true) (h2 : g j = true) : (c && allF g (j + 1)) = true := by
  rw [Bool.and_eq_true] at h ⊢; exact ⟨h.1, allF_t h.2 h2⟩
theorem andF_f1 {c : Bool} {g : Nat → Bool} {j : Nat} (h : (c && allF g j) = false) : (c && allF g (j + 1)) = false := by
  cases c with
  | false => rfl
  | true => exact allF_f1 h
theorem andF_f2 {c : Bool} {g : Nat → Bool} {j : Nat} (h : g j = false) : (c && allF g (j + 1)) = false := by rw [allF_f2 h]; exact Bool.and_false _
theorem allF_mono {g : Nat → Bool} {j n : Nat} (h : j ≤ n) (hf : allF g j = false) : allF g n = false := by
  cases e : allF g n with
  | false => rfl
  | true =>
    rw [allF_iff] at e
    have : allF g j = true := (allF_iff g j).mpr (fun i hi => e i (by omega))
    rw [this] at hf; cases hf
theorem wsF_0 {g : Nat → Bool} : ∀ k, (∀ i, i < k → g i = false) → wsF g k = (0, -1)
  | 0, _ => rfl
  | k + 1, h => by rw [wsF_f (h k (by omega)), wsF_0 k (fun i hi => h i (by omega))]
def kS (what : Int) : Nat := if 0 ≤ what ∧ what ≤ 2 then 0 else 1
def kN4 (what : Int) : Nat := if 0 ≤ what ∧ what ≤ 3 then 0 else 1
def kG (i : Int) : Nat := if 0 ≤ i ∧ i ≤ 1 then 0 else 1
def kFr (kp : Nat → Bool) (i : Int) : Nat := if 0 ≤ i ∧ i ≤ 1 then (if kp i.toNat = true then 0 else 2) else 1
def imU (im b : Nat → Int) (i : Nat) : Nat → Int := fun j => if 66 * i ≤ j ∧ j < 66 * i + 66 then b (j - 66 * i) else im j
def bFr (im : Nat → Int) (i : Nat) : Nat → Int := fun j => im (66 * i + j)
def cntN (b : Nat → Int) (ty : Int) (what : Nat) : Int := if what = 3 then ty else b (15 + what)
theorem z32_pow {i : Nat} (h : i < 31) : Z32 ((2 ^ i : Nat) : Int) := by
  have h1 := pow31 h
  generalize 2 ^ i = q at h1
  omega
