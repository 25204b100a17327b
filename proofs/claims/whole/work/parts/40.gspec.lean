/-! THE CLASS'S GORGE beside the book -/
def GR (b : Nat → Int) (n d c : Nat) (gf : Nat → Nat → Int) : Prop :=
  (∀ i j, i < 6 → j < 6 → gf 0 (i * 6 + j) = upN b i j) ∧ (∀ i, i < n → gf 1 i = b (18 + 4 * i + 0) ∧ gf 2 i = b (18 + 4 * i + 1) ∧ gf 3 i = b (18 + 4 * i + 2) ∧ gf 4 i = b (18 + 4 * i + 3)) ∧ (∀ i, i < d → gf 5 i = b (46 + 2 * i) ∧ gf 6 i = b (46 + 2 * i + 1)) ∧ ∀ i, i < c → gf 7 i = b (58 + i)
theorem GR.w {b : Nat → Int} {n d c : Nat} {gf : Nat → Nat → Int} (h : GR b n d c gf) {i j : Nat} (hi : i < 6) (hj : j < 6) : gf 0 (i * 6 + j) = upN b i j := h.1 i j hi hj
theorem GR.e {b : Nat → Int} {n d c : Nat} {gf : Nat → Nat → Int} (h : GR b n d c gf) (I : Inv b n d c) {i : Nat} (hi : i < n) : gf 1 i = ((eN b i : Nat) : Int) := by rw [(h.2.1 i hi).1]; exact (I.e hi).1
theorem GR.t {b : Nat → Int} {n d c : Nat} {gf : Nat → Nat → Int} (h : GR b n d c gf) (I : Inv b n d c) {i : Nat} (hi : i < n) : gf 2 i = ((tN b i : Nat) : Int) := by rw [(h.2.1 i hi).2.1]; exact (I.t hi).1
theorem GR.p {b : Nat → Int} {n d c : Nat} {gf : Nat → Nat → Int} (h : GR b n d c gf) (I : Inv b n d c) {i : Nat} (hi : i < n) : gf 3 i = ((plN b i : Nat) : Int) := by rw [(h.2.1 i hi).2.2.1]; exact (I.p hi).1
theorem GR.k {b : Nat → Int} {n d c : Nat} {gf : Nat → Nat → Int} (h : GR b n d c gf) (I : Inv b n d c) {i : Nat} (hi : i < n) : gf 4 i = ((kN b i : Nat) : Int) := by rw [(h.2.1 i hi).2.2.2]; exact (I.k hi).1
theorem hIx_b : (List.range 6).all (fun p => (List.range 6).all (fun q => (List.range 6).all (fun i => (List.range 6).all (fun j => decide (p ≠ q → i ≠ j → (hIx i j = hIx p q ↔ (i = p ∧ j = q) ∨ (i = q ∧ j = p))))))) = true := by decide +kernel
theorem hIx_inj {p q i j : Nat} (hp : p < 6) (hq : q < 6) (h : p ≠ q) (hi : i < 6) (hj : j < 6) (h2 : i ≠ j) : hIx i j = hIx p q ↔ (i = p ∧ j = q) ∨ (i = q ∧ j = p) := by
  have e := all_r (all_r (all_r (all_r hIx_b hp) hq) hi) hj
  rw [decide_eq_true_iff] at e
  exact e h h2
theorem upN_set {b : Nat → Int} {p q i j : Nat} (w : Int) (hp : p < 6) (hq : q < 6) (h : p ≠ q) (hi : i < 6) (hj : j < 6) : upN (zup b (hIx p q) w) i j = if (i = p ∧ j = q) ∨ (i = q ∧ j = p) then w else upN b i j := by
  by_cases e : i = j
  · subst e
    rw [if_neg (by omega)]
    unfold upN; rw [if_pos rfl, if_pos rfl]
  · rw [upN_ix e, upN_ix e]
    by_cases e2 : (i = p ∧ j = q) ∨ (i = q ∧ j = p)
    · rw [if_pos e2, (hIx_inj hp hq h hi hj e).mpr e2, zup_s]
    · rw [if_neg e2, zup_n _ _ (fun hh => e2 ((hIx_inj hp hq h hi hj e).mp hh))]
theorem upN_far {b b' : Nat → Int} (h : ∀ k, k < 15 → b' k = b k) {i j : Nat} (hi : i < 6) (hj : j < 6) : upN b' i j = upN b i j := by
  by_cases e : i = j
  · subst e; unfold upN; rw [if_pos rfl, if_pos rfl]
  · rw [upN_ix e, upN_ix e]; exact h _ (hIx_lt hi hj e)
def rW (b : Nat → Int) (p q w : Int) : Int := if kH p q w = 0 then upN b p.toNat q.toNat else -2
