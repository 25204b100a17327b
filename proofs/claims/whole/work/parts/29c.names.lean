/-! NAMES: rows of tunes as digits to the base 20; the first of the fewest notes -/
def cN (k : Nat) : Nat := if k < 4 then 1 else 2
def knB (b : Nat → Int) (q p k j : Nat) : Bool := decide (kN b q ≠ kN b p) || decide (noteN (tuneOfN k) 0 = noteN (tuneOfN j) 0)
def cpN (b : Nat → Int) (q p k j : Nat) : Bool := knB b q p k j && !clN b q (tuneOfN k) p (tuneOfN j)
theorem tuneOf_b : (List.range 20).all (fun k => vtb (tuneOfN k) && Nat.beq (notesN (tuneOfN k)) (if k < 4 then 1 else 2)) = true := by decide +kernel
theorem tuneOf_vt {k : Nat} (h : k < 20) : vt (tuneOfN k) := by
  have h1 := all_r tuneOf_b h
  rw [Bool.and_eq_true] at h1
  exact vtb_iff.mp h1.1
theorem tuneOf_n {k : Nat} (h : k < 20) : notesN (tuneOfN k) = if k < 4 then 1 else 2 := by
  have h1 := all_r tuneOf_b h
  rw [Bool.and_eq_true] at h1
  exact Nat.eq_of_beq_eq_true h1.2
theorem allF_congr {f g : Nat → Bool} : ∀ k, (∀ i, i < k → f i = g i) → allF f k = allF g k
  | 0, _ => rfl
  | k + 1, h => by
    show (allF f k && f k) = (allF g k && g k)
    rw [h k (by omega), allF_congr k (fun i hi => h i (by omega))]
def dgt (p A j : Nat) : Nat := A / 20 ^ (p - 1 - j) % 20
def okA (cp : Nat → Nat → Nat → Nat → Bool) : Nat → Nat → Bool
  | 0, _ => true
  | p + 1, A => okA cp p (A / 20) && allF (fun q => cp q p (dgt (p + 1) A q) (A % 20)) p
def cA : Nat → Nat → Nat
  | 0, _ => 0
  | p + 1, A => cA p (A / 20) + cN (A % 20)
def nmS (cp : Nat → Nat → Nat → Nat → Bool) (n e : Nat) (s : Int) : Int := if (s = -1 ∨ cA n e < cA n s.toNat) ∧ okA cp n e = true then (e : Int) else s
def nmF (cp : Nat → Nat → Nat → Nat → Bool) (n : Nat) : Nat → Int
  | 0 => -1
  | e + 1 => nmS cp n e (nmF cp n e)
theorem cN_r (k : Nat) : 1 ≤ cN k ∧ cN k ≤ 2 := by unfold cN; split <;> omega
theorem dgt_lt (p A j : Nat) : dgt p A j < 20 := Nat.mod_lt _ (by decide)
theorem dgt_s {p A j : Nat} (h : j < p) : dgt (p + 1) A j = dgt p (A / 20) j := by
  unfold dgt
  rw [Nat.div_div_eq_div_mul, show p + 1 - 1 - j = (p - 1 - j) + 1 by omega, Nat.pow_succ, Nat.mul_comm]
theorem dgt_e (p A : Nat) : dgt (p + 1) A p = A % 20 := by
  unfold dgt
  rw [show p + 1 - 1 - p = 0 by omega, Nat.pow_zero, Nat.div_one]
theorem dgt_app {p A u j : Nat} (hu : u < 20) (h : j < p) : dgt (p + 1) (A * 20 + u) j = dgt p A j := by
  rw [dgt_s h, show (A * 20 + u) / 20 = A by omega]
theorem dgt_app_e {p A u : Nat} (hu : u < 20) : dgt (p + 1) (A * 20 + u) p = u := by rw [dgt_e]; omega
theorem cA_app {p A u : Nat} (hu : u < 20) : cA (p + 1) (A * 20 + u) = cA p A + cN u := by
  show cA p ((A * 20 + u) / 20) + cN ((A * 20 + u) % 20) = _
  rw [show (A * 20 + u) / 20 = A by omega, show (A * 20 + u) % 20 = u by omega]
theorem okA_app {cp : Nat → Nat → Nat → Nat → Bool} {p A u : Nat} (hu : u < 20) : okA cp (p + 1) (A * 20 + u) = (okA cp p A && allF (fun q => cp q p (dgt p A q) u) p) := by
  show (okA cp p ((A * 20 + u) / 20) && allF (fun q => cp q p (dgt (p + 1) (A * 20 + u) q) ((A * 20 + u) % 20)) p) = _
  rw [show (A * 20 + u) / 20 = A by omega, show (A * 20 + u) % 20 = u by omega]
  congr 1
  have : ∀ k, k ≤ p → allF (fun q => cp q p (dgt (p + 1) (A * 20 + u) q) u) k = allF (fun q => cp q p (dgt p A q) u) k := by
    intro k
    induction k with
    | zero => intro _; rfl
    | succ k ih =>
      intro hk
      show (allF _ k && cp k p (dgt (p + 1) (A * 20 + u) k) u) = (allF _ k && cp k p (dgt p A k) u)
      rw [ih (by omega), dgt_app hu (by omega)]
  exact this p (Nat.le_refl p)
theorem okA_pre {cp : Nat → Nat → Nat → Nat → Bool} {p : Nat} : ∀ m e, okA cp (p + m) e = true → okA cp p (e / 20 ^ m) = true
  | 0, e, h => by rw [Nat.pow_zero, Nat.div_one]; exact h
  | m + 1, e, h => by
    have h1 : (okA cp (p + m) (e / 20) && allF (fun q => cp q (p + m) (dgt (p + m + 1) e q) (e % 20)) (p + m)) = true := h
    rw [Bool.and_eq_true] at h1
    have h2 := okA_pre m (e / 20) h1.1
    rw [Nat.div_div_eq_div_mul, Nat.mul_comm, ← Nat.pow_succ] at h2
    exact h2
theorem cA_pre {p : Nat} : ∀ m e, cA p (e / 20 ^ m) + m ≤ cA (p + m) e
  | 0, e => by rw [Nat.pow_zero, Nat.div_one]; exact Nat.le_refl _
  | m + 1, e => by
    have h := cA_pre (p := p) m (e / 20)
    rw [Nat.div_div_eq_div_mul, Nat.mul_comm 20, ← Nat.pow_succ] at h
    have h' : cA p (e / 20 ^ (m + 1)) + m ≤ cA (p + m) (e / 20) := h
    have := cN_r (e % 20)
    show cA p (e / 20 ^ (m + 1)) + (m + 1) ≤ cA (p + m) (e / 20) + cN (e % 20)
    omega
theorem cA_le : ∀ p e, cA p e ≤ 2 * p
  | 0, _ => Nat.le_refl 0
  | p + 1, e => by
    have := cA_le p (e / 20)
    have := cN_r (e % 20)
    show cA p (e / 20) + cN (e % 20) ≤ 2 * (p + 1)
    omega
theorem cA_ge : ∀ p e, p ≤ cA p e
  | 0, _ => Nat.le_refl 0
  | p + 1, e => by
    have := cA_ge p (e / 20)
    have := cN_r (e % 20)
    show p + 1 ≤ cA p (e / 20) + cN (e % 20)
    omega
theorem nm_skip {cp : Nat → Nat → Nat → Nat → Bool} {n E : Nat} : ∀ k, (∀ e, E ≤ e → e < E + k → okA cp n e = true → nmF cp n E ≠ -1 ∧ cA n (nmF cp n E).toNat ≤ cA n e) → nmF cp n (E + k) = nmF cp n E
  | 0, _ => rfl
  | k + 1, h => by
    have h1 := nm_skip k (fun e h1 h2 => h e h1 (by omega))
    show nmS cp n (E + k) (nmF cp n (E + k)) = _
    rw [h1]
    unfold nmS
    rw [if_neg]
    rintro ⟨h2, h3⟩
    have h4 := h (E + k) (by omega) (by omega) h3
    rcases h2 with h2 | h2
    · exact h4.1 h2
    · omega
theorem nm_rng {cp : Nat → Nat → Nat → Nat → Bool} {n p m B : Nat} (hn : n = p + 1 + m) (h : okA cp (p + 1) B = true → nmF cp n (B * 20 ^ m) ≠ -1 ∧ cA n (nmF cp n (B * 20 ^ m)).toNat ≤ cA (p + 1) B + m) : nmF cp n ((B + 1) * 20 ^ m) = nmF cp n (B * 20 ^ m) := by
  rw [Nat.succ_mul]
  refine nm_skip (20 ^ m) (fun e h1 h2 h3 => ?_)
  have e1 : e / 20 ^ m = B := by
    rw [← Nat.succ_mul] at h2
    exact Nat.div_eq_of_lt_le h1 h2
  subst hn
  have h4 := okA_pre (p := p + 1) m e h3
  have h5 := cA_pre (p := p + 1) m e
  rw [e1] at h4 h5
  have h6 := h h4
  exact ⟨h6.1, by omega⟩
/-- the best so far -/
def BS (cp : Nat → Nat → Nat → Nat → Bool) (n E : Nat) (least : Int) (best : Nat → Int) : Prop := (nmF cp n E = -1 ∧ least = -1) ∨ ∃ e : Nat, nmF cp n E = (e : Int) ∧ least = ((cA n e : Nat) : Int) ∧ ∀ i, i < n → best i = ((dgt n e i : Nat) : Int)
theorem BS.eqE {cp : Nat → Nat → Nat → Nat → Bool} {n E E' : Nat} {l : Int} {best : Nat → Int} (h : BS cp n E l best) (e : nmF cp n E' = nmF cp n E) : BS cp n E' l best := by unfold BS; rw [e]; exact h
theorem BS.r {cp : Nat → Nat → Nat → Nat → Bool} {n E : Nat} {l : Int} {best : Nat → Int} (h : BS cp n E l best) : -1 ≤ l ∧ l ≤ ((2 * n : Nat) : Int) := by
  rcases h with ⟨_, h⟩ | ⟨e, _, h, _⟩
  · omega
  · have := cA_le n e; omega
theorem BS.skip {cp : Nat → Nat → Nat → Nat → Bool} {n p m B : Nat} {l : Int} {best : Nat → Int} (hn : n = p + 1 + m) (h : BS cp n (B * 20 ^ m) l best) (hc : okA cp (p + 1) B = true → l ≠ -1 ∧ l ≤ ((cA (p + 1) B + m : Nat) : Int)) : BS cp n ((B + 1) * 20 ^ m) l best := by
  refine h.eqE (nm_rng hn (fun ho => ?_))
  have h1 := hc ho
  rcases h with ⟨h2, h3⟩ | ⟨e, h2, h3, _⟩
  · exact absurd h3 h1.1
  · rw [h2, Int.toNat_natCast]; exact ⟨by omega, by omega⟩
theorem BS.leaf {cp : Nat → Nat → Nat → Nat → Bool} {n B : Nat} {l : Int} {best best' : Nat → Int} (h : BS cp n B l best) (ho : okA cp n B = true) (hc : l = -1 ∨ ((cA n B : Nat) : Int) < l) (hb : ∀ i, i < n → best' i = ((dgt n B i : Nat) : Int)) : BS cp n (B + 1) ((cA n B : Nat) : Int) best' := by
  right
  refine ⟨B, ?_, rfl, hb⟩
  show nmS cp n B (nmF cp n B) = _
  unfold nmS
  rw [if_pos]
  refine ⟨?_, ho⟩
  rcases h with ⟨h2, _⟩ | ⟨e, h2, h3, _⟩
  · exact Or.inl h2
  · right
    rw [h2, Int.toNat_natCast]
    omega
/-! the model's way through them -/
def QA : Nat → Nat → Nat
  | 0, _ => 0
  | p + 1, A => 42 * QA p (A / 20) + 2 * (A % 20) + 1
theorem QA_lt : ∀ p A, QA p A < 42 ^ p
  | 0, _ => by show 0 < 42 ^ 0; decide
  | p + 1, A => by
    have h := QA_lt p (A / 20)
    show 42 * QA p (A / 20) + 2 * (A % 20) + 1 < 42 ^ (p + 1)
    rw [Nat.pow_succ]
    have := Nat.mod_lt A (show 20 > 0 by decide)
    generalize 42 ^ p = w at h
    omega
def muN (n P A u : Nat) : Nat := if P = 0 then 0 else 1 + (42 ^ n - (42 * QA (P - 1) A + 2 * u) * 42 ^ (n - P))
theorem mu_top {n P A u : Nat} (h1 : 1 ≤ P) (hP : P ≤ n) (hu : u ≤ 20) : (42 * QA (P - 1) A + 2 * u + 1) * 42 ^ (n - P) ≤ 42 ^ n := by
  have h := QA_lt (P - 1) A
  have e : 42 ^ n = 42 ^ (P - 1 + 1) * 42 ^ (n - P) := by rw [← Nat.pow_add]; congr 1; omega
  rw [e]
  refine Nat.mul_le_mul_right _ ?_
  rw [Nat.pow_succ]
  generalize 42 ^ (P - 1) = w at h
  omega
theorem mu_next {n P A u : Nat} (h1 : 1 ≤ P) (hP : P ≤ n) (hu : u < 20) : muN n P A (u + 1) < muN n P A u := by
  have ht := mu_top (A := A) h1 hP (show u + 1 ≤ 20 by omega)
  unfold muN
  rw [if_neg (by omega), if_neg (by omega)]
  have hw : 0 < 42 ^ (n - P) := Nat.pow_pos (by decide)
  have e1 : (42 * QA (P - 1) A + 2 * (u + 1) + 1) * 42 ^ (n - P) = (42 * QA (P - 1) A + 2 * u) * 42 ^ (n - P) + 3 * 42 ^ (n - P) := by rw [← Nat.add_mul]; congr 1
  have e2 : (42 * QA (P - 1) A + 2 * (u + 1)) * 42 ^ (n - P) = (42 * QA (P - 1) A + 2 * u) * 42 ^ (n - P) + 2 * 42 ^ (n - P) := by rw [← Nat.add_mul]; congr 1
  generalize (42 * QA (P - 1) A + 2 * u) * 42 ^ (n - P) = x at *
  generalize 42 ^ (n - P) = w at *
  omega
theorem mu_up {n P A : Nat} (h1 : 1 ≤ P) (hP : P ≤ n) : muN n (P - 1) (A / 20) (A % 20 + 1) < muN n P A 20 := by
  unfold muN
  rw [if_neg (show ¬ P = 0 by omega)]
  by_cases h : P - 1 = 0
  · rw [if_pos h]; omega
  · rw [if_neg h]
    have ht := mu_top (A := A / 20) (P := P - 1) (n := n) (u := A % 20 + 1) (by omega) (by omega) (by have := Nat.mod_lt A (show 20 > 0 by decide); omega)
    have e : QA (P - 1) A = 42 * QA (P - 1 - 1) (A / 20) + 2 * (A % 20) + 1 := by
      obtain ⟨k, hk⟩ : ∃ k, P - 1 = k + 1 := ⟨P - 2, by omega⟩
      rw [hk]; rfl
    have ew : 42 ^ (n - (P - 1)) = 42 * 42 ^ (n - P) := by rw [show n - (P - 1) = (n - P) + 1 by omega, Nat.pow_succ, Nat.mul_comm]
    rw [ew] at ht ⊢
    have hw : 0 < 42 ^ (n - P) := Nat.pow_pos (by decide)
    generalize 42 ^ (n - P) = w at *
    rw [e]
    rw [show 42 * QA (P - 1 - 1) (A / 20) + 2 * (A % 20 + 1) = (42 * QA (P - 1 - 1) (A / 20) + 2 * (A % 20)) + 2 by omega] at ht ⊢
    generalize 42 * QA (P - 1 - 1) (A / 20) + 2 * (A % 20) = z at *
    have e3 : (42 * (z + 1) + 2 * 20) * w = 42 * z * w + 82 * w := by rw [← Nat.add_mul]; congr 1
    have e5 : (z + 2) * (42 * w) = 42 * z * w + 84 * w := by rw [Nat.mul_left_comm, ← Nat.mul_assoc, Nat.mul_add, Nat.add_mul]
    have e6 : (z + 2 + 1) * (42 * w) = 42 * z * w + 126 * w := by rw [Nat.mul_left_comm, ← Nat.mul_assoc, Nat.add_assoc, Nat.mul_add, Nat.add_mul]
    rw [e3, e5]
    rw [e6] at ht
    generalize 42 * z * w = x at *
    omega
theorem mu_down {n P A u : Nat} (h1 : 1 ≤ P) (hP : P < n) (hu : u < 20) : muN n (P + 1) (A * 20 + u) 0 < muN n P A u := by
  have ht := mu_top (A := A * 20 + u) (P := P + 1) (n := n) (u := 0) (by omega) (by omega) (by omega)
  unfold muN
  rw [if_neg (by omega), if_neg (by omega)]
  have e : QA (P + 1 - 1) (A * 20 + u) = 42 * QA (P - 1) A + 2 * u + 1 := by
    obtain ⟨k, rfl⟩ : ∃ k, P = k + 1 := ⟨P - 1, by omega⟩
    show 42 * QA k ((A * 20 + u) / 20) + 2 * ((A * 20 + u) % 20) + 1 = _
    rw [show (A * 20 + u) / 20 = A by omega, show (A * 20 + u) % 20 = u by omega]; rfl
  rw [e] at ht ⊢
  have ew : 42 ^ (n - P) = 42 * 42 ^ (n - (P + 1)) := by rw [show n - P = (n - (P + 1)) + 1 by omega, Nat.pow_succ, Nat.mul_comm]
  rw [ew]
  have hw : 0 < 42 ^ (n - (P + 1)) := Nat.pow_pos (by decide)
  generalize 42 ^ (n - (P + 1)) = w at *
  generalize 42 * QA (P - 1) A + 2 * u = z at *
  have e3 : z * (42 * w) = 42 * z * w := by rw [Nat.mul_comm 42 z, Nat.mul_assoc]
  have e5 : (42 * (z + 1) + 2 * 0) * w = 42 * z * w + 42 * w := by rw [← Nat.add_mul]; congr 1
  have e6 : (42 * (z + 1) + 2 * 0 + 1) * w = 42 * z * w + 43 * w := by rw [← Nat.add_mul]; congr 1
  rw [e3, e5]
  rw [e6] at ht
  generalize 42 * z * w = x at *
  omega
/-! what is told of them -/
def nmB (b : Nat → Int) (n : Nat) : Int := nmF (cpN b) n (20 ^ n)
def nmV (b : Nat → Int) (n : Nat) : Int := if nmB b n = -1 then -1 else ((cA n (nmB b n).toNat : Nat) : Int)
def nmR (b : Nat → Int) (n : Nat) (p : Int) : Int := if nmB b n = -1 then -1 else if p = -1 then ((cA n (nmB b n).toNat : Nat) : Int) else ((tuneOfN (dgt n (nmB b n).toNat p.toNat) : Nat) : Int)
def kZ (n : Nat) (p : Int) : Nat := if ¬ (p = -1 ∨ (0 ≤ p ∧ p < (n : Int))) then 1 else if 5 < n then 2 else 0
def rZ (b : Nat → Int) (n : Nat) (p : Int) : Int := if kZ n p = 1 then -10 else if kZ n p = 2 then -20 else nmR b n p
theorem E_up {n p A : Nat} (hp : p + 1 ≤ n) (hA : A < 20 ^ p) : (if p = 0 then 20 ^ n else (A / 20 * 20 + (A % 20 + 1)) * 20 ^ (n - p)) = (A * 20 + 20) * 20 ^ (n - (p + 1)) := by
  by_cases h : p = 0
  · subst h
    rw [if_pos rfl]
    have : A = 0 := by rw [Nat.pow_zero] at hA; omega
    subst this
    rw [Nat.zero_mul, Nat.zero_add, show n - (0 + 1) = n - 1 by omega, Nat.mul_comm, ← Nat.pow_succ]
    congr 1; omega
  · rw [if_neg h, show A / 20 * 20 + (A % 20 + 1) = A + 1 by omega, show n - p = (n - (p + 1)) + 1 by omega, Nat.pow_succ, ← Nat.mul_assoc, Nat.mul_right_comm, Nat.add_mul]
theorem E_down {n p B : Nat} (hp : p + 2 ≤ n) : (B * 20 + 0) * 20 ^ (n - (p + 2)) = B * 20 ^ (n - (p + 1)) := by
  rw [Nat.add_zero, show n - (p + 1) = (n - (p + 2)) + 1 by omega, Nat.pow_succ, Nat.mul_assoc, Nat.mul_comm 20]
theorem A_up {p A : Nat} (h : A < 20 ^ p) (hp : 1 ≤ p) : A / 20 < 20 ^ (p - 1) := by
  obtain ⟨k, rfl⟩ : ∃ k, p = k + 1 := ⟨p - 1, by omega⟩
  rw [Nat.pow_succ] at h
  show A / 20 < 20 ^ k
  exact Nat.div_lt_of_lt_mul (by rw [Nat.mul_comm]; exact h)
theorem A_down {p A u : Nat} (h : A < 20 ^ p) (hu : u < 20) : A * 20 + u < 20 ^ (p + 1) := by
  rw [Nat.pow_succ]; generalize 20 ^ p = w at h; omega
theorem BS.fin {b : Nat → Int} {n : Nat} {l : Int} {be : Nat → Int} (h : BS (cpN b) n (20 ^ n) l be) : nmV b n = l ∧ ∀ e : Nat, nmB b n = ((e : Nat) : Int) → ∀ i, i < n → be i = ((dgt n e i : Nat) : Int) := by
  unfold nmV nmB
  rcases h with ⟨h1, h2⟩ | ⟨e, h1, h2, h3⟩
  · rw [if_pos h1]
    exact ⟨h2.symm, fun e he => by omega⟩
  · rw [if_neg (by omega), h1]
    refine ⟨h2.symm, fun e' he => ?_⟩
    have : e' = e := by omega
    rw [this]; exact h3
