/-! THE TEXT: runs of signs, tokens, items -/
def skF (P : Int → Bool) (tx : Nat → Int) (L : Nat) : Nat → Nat → Nat
  | 0, a => a
  | f + 1, a => if a < L ∧ P (tx a) = true then skF P tx L f (a + 1) else a
def runE (P : Int → Bool) (tx : Nat → Int) (L a : Nat) : Nat := skF P tx L (L - a) a
theorem runE_t {P : Int → Bool} {tx : Nat → Int} {L a : Nat} (h : a < L) (hp : P (tx a) = true) : runE P tx L a = runE P tx L (a + 1) := by
  unfold runE
  obtain ⟨f, hf⟩ : ∃ f, L - a = f + 1 := ⟨L - a - 1, by omega⟩
  rw [hf, show L - (a + 1) = f by omega]
  show (if a < L ∧ P (tx a) = true then skF P tx L f (a + 1) else a) = _
  rw [if_pos ⟨h, hp⟩]
theorem runE_f {P : Int → Bool} {tx : Nat → Int} {L a : Nat} (h : ¬ (a < L ∧ P (tx a) = true)) : runE P tx L a = a := by
  unfold runE
  cases hf : L - a with
  | zero => rfl
  | succ f => show (if a < L ∧ P (tx a) = true then _ else a) = a; rw [if_neg h]
theorem skF_ge (P : Int → Bool) (tx : Nat → Int) (L : Nat) : ∀ f a, a ≤ skF P tx L f a
  | 0, a => Nat.le_refl a
  | f + 1, a => by
    show a ≤ (if a < L ∧ P (tx a) = true then skF P tx L f (a + 1) else a)
    split
    · exact Nat.le_trans (Nat.le_succ a) (skF_ge P tx L f (a + 1))
    · exact Nat.le_refl a
theorem skF_le (P : Int → Bool) (tx : Nat → Int) (L : Nat) : ∀ f a, a ≤ L → skF P tx L f a ≤ L
  | 0, a, h => h
  | f + 1, a, h => by
    show (if a < L ∧ P (tx a) = true then skF P tx L f (a + 1) else a) ≤ L
    split
    · exact skF_le P tx L f (a + 1) (by omega)
    · exact h
theorem skF_in (P : Int → Bool) (tx : Nat → Int) (L : Nat) : ∀ f a j, a ≤ j → j < skF P tx L f a → j < L ∧ P (tx j) = true
  | 0, a, j, h, h2 => absurd h2 (by show ¬ j < a; omega)
  | f + 1, a, j, h, h2 => by
    have h3 : j < (if a < L ∧ P (tx a) = true then skF P tx L f (a + 1) else a) := h2
    split at h3
    · rename_i hc
      by_cases e : j = a
      · subst e; exact hc
      · exact skF_in P tx L f (a + 1) j (by omega) h3
    · omega
theorem skF_end (P : Int → Bool) (tx : Nat → Int) (L : Nat) : ∀ f a, L - a ≤ f → ¬ (skF P tx L f a < L ∧ P (tx (skF P tx L f a)) = true)
  | 0, a, h => fun hh => by have : a < L := hh.1; omega
  | f + 1, a, h => by
    have e : skF P tx L (f + 1) a = if a < L ∧ P (tx a) = true then skF P tx L f (a + 1) else a := rfl
    rw [e]
    split
    · exact skF_end P tx L f (a + 1) (by omega)
    · assumption
theorem runE_ge (P : Int → Bool) (tx : Nat → Int) (L a : Nat) : a ≤ runE P tx L a := skF_ge P tx L _ a
theorem runE_le (P : Int → Bool) (tx : Nat → Int) {L a : Nat} (h : a ≤ L) : runE P tx L a ≤ L := skF_le P tx L _ a h
theorem runE_in {P : Int → Bool} {tx : Nat → Int} {L a j : Nat} (h : a ≤ j) (h2 : j < runE P tx L a) : j < L ∧ P (tx j) = true := skF_in P tx L _ a j h h2
theorem runE_end (P : Int → Bool) (tx : Nat → Int) (L a : Nat) : ¬ (runE P tx L a < L ∧ P (tx (runE P tx L a)) = true) := skF_end P tx L _ a (Nat.le_refl _)
def blk (v : Int) : Bool := decide (v = 32)
def ltr (v : Int) : Bool := decide (97 ≤ v ∧ v ≤ 122)
def fig (v : Int) : Bool := decide (48 ≤ v ∧ v ≤ 57)
def nvN (tx : Nat → Int) (s : Nat) : Nat → Nat
  | 0 => 0
  | k + 1 => 10 * nvN tx s k + (tx (s + k) - 48).toNat
def wdK (tx : Nat → Int) (s e : Nat) : Nat :=
  if e = s + 5 ∧ tx s = 104 ∧ tx (s + 1) = 101 ∧ tx (s + 2) = 97 ∧ tx (s + 3) = 114 ∧ tx (s + 4) = 115 then 4
  else if e = s + 3 ∧ tx s = 111 ∧ tx (s + 1) = 110 ∧ tx (s + 2) = 101 then 5
  else if e = s + 4 ∧ tx s = 100 ∧ tx (s + 1) = 101 ∧ tx (s + 2) = 97 ∧ tx (s + 3) = 100 then 6 else 1
def tokS (tx : Nat → Int) (L a : Nat) : Nat := runE blk tx L a
/-- the token that begins at s: its end, its kind -/
def tkE (tx : Nat → Int) (L s : Nat) : Nat := if s = L then s else if ltr (tx s) = true then runE ltr tx L s else if fig (tx s) = true then runE fig tx L s else s + 1
def tkK (tx : Nat → Int) (L s : Nat) : Nat := if s = L then 0 else if ltr (tx s) = true then wdK tx s (runE ltr tx L s) else if fig (tx s) = true then (if runE fig tx L s - s ≤ 4 then 2 else 1) else if tx s = 59 then 3 else 1
def tokE (tx : Nat → Int) (L a : Nat) : Nat := tkE tx L (tokS tx L a)
def tokK (tx : Nat → Int) (L a : Nat) : Nat := tkK tx L (tokS tx L a)
def tokV (tx : Nat → Int) (L a : Nat) : Nat := nvN tx (tokS tx L a) (tokE tx L a - tokS tx L a)
/-- the model's hash of a word -/
def hvF (tx : Nat → Int) (s : Nat) : Nat → Int
  | 0 => 0
  | j + 1 => if 5 < j then 0 else 32 * hvF tx s j + tx (s + j) - 97 + 1
def vbN (v : Int) : Int := if v = 8554067 then 0 else if v = 15813 then 1 else if v = 136228 then 2 else -1
theorem hvF_r {tx : Nat → Int} {s : Nat} : ∀ j, (∀ i, i < j → 97 ≤ tx (s + i) ∧ tx (s + i) ≤ 122) → 0 ≤ hvF tx s j ∧ hvF tx s j < 32 ^ 6
  | 0, _ => by show (0 : Int) ≤ 0 ∧ (0 : Int) < 32 ^ 6; omega
  | j + 1, h => by
    have key : ∀ j, (∀ i, i < j → 97 ≤ tx (s + i) ∧ tx (s + i) ≤ 122) → j ≤ 6 → 0 ≤ hvF tx s j ∧ hvF tx s j < 32 ^ j := by
      intro j
      induction j with
      | zero => intro _ _; show (0 : Int) ≤ 0 ∧ (0 : Int) < 32 ^ 0; omega
      | succ j ih =>
        intro h hj
        have h1 := ih (fun i hi => h i (by omega)) (by omega)
        have h2 := h j (by omega)
        have e : hvF tx s (j + 1) = 32 * hvF tx s j + tx (s + j) - 97 + 1 := by show (if 5 < j then (0 : Int) else _) = _; rw [if_neg (by omega)]
        rw [e, Int.pow_succ]
        generalize (32 : Int) ^ j = q at h1
        omega
    by_cases h5 : 5 < j
    · have e : hvF tx s (j + 1) = 0 := by show (if 5 < j then (0 : Int) else _) = _; rw [if_pos h5]
      rw [e]; omega
    · have h1 := key (j + 1) h (by omega)
      refine ⟨h1.1, Int.lt_of_lt_of_le h1.2 ?_⟩
      have : (32 : Int) ^ (j + 1) ≤ 32 ^ 6 := by
        have h3 : j = 0 ∨ j = 1 ∨ j = 2 ∨ j = 3 ∨ j = 4 ∨ j = 5 := by omega
        rcases h3 with rfl | rfl | rfl | rfl | rfl | rfl <;> decide
      exact this
theorem wdK_vb {tx : Nat → Int} {s e : Nat} (hs : s < e) (h5 : e ≤ s + 5) (h : ∀ i, s ≤ i → i < e → 97 ≤ tx i ∧ tx i ≤ 122) : (wdK tx s e : Int) = if vbN (hvF tx s (e - s)) = -1 then 1 else 4 + vbN (hvF tx s (e - s)) := by
  obtain ⟨j, rfl⟩ : ∃ j, e = s + j := ⟨e - s, by omega⟩
  rw [show s + j - s = j by omega]
  have hj : j = 1 ∨ j = 2 ∨ j = 3 ∨ j = 4 ∨ j = 5 := by omega
  have d0 := h s (by omega) (by omega)
  have x1 : hvF tx s 1 = 32 * 0 + tx (s + 0) - 97 + 1 := rfl
  have x2 : hvF tx s 2 = 32 * hvF tx s 1 + tx (s + 1) - 97 + 1 := rfl
  have x3 : hvF tx s 3 = 32 * hvF tx s 2 + tx (s + 2) - 97 + 1 := rfl
  have x4 : hvF tx s 4 = 32 * hvF tx s 3 + tx (s + 3) - 97 + 1 := rfl
  have x5 : hvF tx s 5 = 32 * hvF tx s 4 + tx (s + 4) - 97 + 1 := rfl
  rw [Nat.add_zero] at x1
  rcases hj with rfl | rfl | rfl | rfl | rfl
  · have e1 : wdK tx s (s + 1) = 1 := by unfold wdK; rw [if_neg (by omega), if_neg (by omega), if_neg (by omega)]
    have e2 : vbN (hvF tx s 1) = -1 := by unfold vbN; rw [if_neg (by omega), if_neg (by omega), if_neg (by omega)]
    rw [e1, e2]; rfl
  · have d1 := h (s + 1) (by omega) (by omega)
    have e1 : wdK tx s (s + 2) = 1 := by unfold wdK; rw [if_neg (by omega), if_neg (by omega), if_neg (by omega)]
    have e2 : vbN (hvF tx s 2) = -1 := by unfold vbN; rw [if_neg (by omega), if_neg (by omega), if_neg (by omega)]
    rw [e1, e2]; rfl
  · have d1 := h (s + 1) (by omega) (by omega)
    have d2 := h (s + 2) (by omega) (by omega)
    by_cases q : hvF tx s 3 = 15813
    · have e1 : wdK tx s (s + 3) = 5 := by unfold wdK; rw [if_neg (by omega), if_pos (by omega)]
      have e2 : vbN (hvF tx s 3) = 1 := by unfold vbN; rw [if_neg (by omega), if_pos q]
      rw [e1, e2]; rfl
    · have e1 : wdK tx s (s + 3) = 1 := by unfold wdK; rw [if_neg (by omega), if_neg (by omega), if_neg (by omega)]
      have e2 : vbN (hvF tx s 3) = -1 := by unfold vbN; rw [if_neg (by omega), if_neg (by omega), if_neg (by omega)]
      rw [e1, e2]; rfl
  · have d1 := h (s + 1) (by omega) (by omega)
    have d2 := h (s + 2) (by omega) (by omega)
    have d3 := h (s + 3) (by omega) (by omega)
    by_cases q : hvF tx s 4 = 136228
    · have e1 : wdK tx s (s + 4) = 6 := by unfold wdK; rw [if_neg (by omega), if_neg (by omega), if_pos (by omega)]
      have e2 : vbN (hvF tx s 4) = 2 := by unfold vbN; rw [if_neg (by omega), if_neg (by omega), if_pos q]
      rw [e1, e2]; rfl
    · have e1 : wdK tx s (s + 4) = 1 := by unfold wdK; rw [if_neg (by omega), if_neg (by omega), if_neg (by omega)]
      have e2 : vbN (hvF tx s 4) = -1 := by unfold vbN; rw [if_neg (by omega), if_neg (by omega), if_neg (by omega)]
      rw [e1, e2]; rfl
  · have d1 := h (s + 1) (by omega) (by omega)
    have d2 := h (s + 2) (by omega) (by omega)
    have d3 := h (s + 3) (by omega) (by omega)
    have d4 := h (s + 4) (by omega) (by omega)
    by_cases q : hvF tx s 5 = 8554067
    · have e1 : wdK tx s (s + 5) = 4 := by unfold wdK; rw [if_pos (by omega)]
      have e2 : vbN (hvF tx s 5) = 0 := by unfold vbN; rw [if_pos q]
      rw [e1, e2]; rfl
    · have e1 : wdK tx s (s + 5) = 1 := by unfold wdK; rw [if_neg (by omega), if_neg (by omega), if_neg (by omega)]
      have e2 : vbN (hvF tx s 5) = -1 := by unfold vbN; rw [if_neg (by omega), if_neg (by omega), if_neg (by omega)]
      rw [e1, e2]; rfl
theorem wdK_r (tx : Nat → Int) (s e : Nat) : wdK tx s e = 4 ∨ wdK tx s e = 5 ∨ wdK tx s e = 6 ∨ wdK tx s e = 1 := by
  unfold wdK; (repeat' split) <;> omega
theorem nvN_r {tx : Nat → Int} {s : Nat} : ∀ k, k ≤ 4 → (∀ i, i < k → 48 ≤ tx (s + i) ∧ tx (s + i) ≤ 57) → nvN tx s k < 10 ^ k
  | 0, _, _ => by show 0 < 10 ^ 0; decide
  | k + 1, hk, h => by
    have h1 := nvN_r (tx := tx) (s := s) k (by omega) (fun i hi => h i (by omega))
    have h2 := h k (by omega)
    show 10 * nvN tx s k + (tx (s + k) - 48).toNat < 10 ^ (k + 1)
    rw [Nat.pow_succ]
    generalize 10 ^ k = q at h1
    omega
theorem ltr_t {v : Int} (h : 97 ≤ v ∧ v ≤ 122) : ltr v = true := decide_eq_true h
theorem ltr_f {v : Int} (h : ¬ (97 ≤ v ∧ v ≤ 122)) : ¬ ltr v = true := fun hh => h (of_decide_eq_true hh)
theorem fig_t {v : Int} (h : 48 ≤ v ∧ v ≤ 57) : fig v = true := decide_eq_true h
theorem fig_f {v : Int} (h : ¬ (48 ≤ v ∧ v ≤ 57)) : ¬ fig v = true := fun hh => h (of_decide_eq_true hh)
