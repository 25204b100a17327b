/-! what of a tune comes, its lisp, its half, its beginning -/
def lfN : Nat → Nat → Nat → Nat
  | 0, _, _ => 1
  | f + 1, t, w => if t ≤ 3 then 1 else if 3 < t % 4 + w then lfN f (t / 4) w else 4 * lfN f (t / 4) w + t % 4
def leftN (t w : Nat) : Nat := lfN 6 t w
def lpN : Nat → Nat → Nat
  | 0, _ => 1
  | f + 1, t => if t ≤ 3 then 1 else 4 * lpN f (t / 4) + (if t % 4 = 2 then 1 else t % 4)
def lispN (t : Nat) : Nat := lpN 6 t
def halfN (t : Nat) : Nat := t / 4 ^ (notesN t / 2)
def frontN (t n : Nat) : Nat := t / 4 ^ (notesN t - n)
def turnsN (ear own tune wind : Nat) : Bool :=
  if ear = 4 then decide (own = tune)
  else if leftN tune wind = 1 ∨ leftN (if ear = 2 ∨ ear = 5 then halfN own else own) wind = 1 ∨ (ear = 5 ∧ 1 < wind) then false
  else if ear = 2 ∨ ear = 5 then decide (notesN (leftN (halfN own) wind) ≤ notesN (leftN tune wind) ∧ frontN (leftN tune wind) (notesN (leftN (halfN own) wind)) = leftN (halfN own) wind)
  else if ear = 0 then decide (leftN tune wind = leftN own wind)
  else decide (lispN (leftN tune wind) = lispN (leftN own wind) ∨ (ear = 3 ∧ notesN (leftN tune wind) = notesN (leftN own wind) ∧ leftN tune wind % 4 = leftN own wind % 4))
theorem left_step : ∀ q : Nat, q < 2048 → ∀ w : Nat, w < 4 → 4 ≤ q → leftN q w = if 3 < q % 4 + w then leftN (q / 4) w else 4 * leftN (q / 4) w + q % 4 := by decide +kernel
theorem lisp_step : ∀ q : Nat, q < 2048 → 4 ≤ q → lispN q = 4 * lispN (q / 4) + (if q % 4 = 2 then 1 else q % 4) := by decide +kernel
theorem left_0 : ∀ t : Nat, t < 2048 → vt t → leftN t 0 = t := by decide +kernel
theorem left_1 (w : Nat) : leftN 1 w = 1 := rfl
theorem lisp_1 : lispN 1 = 1 := rfl
def vtb (t : Nat) : Bool := (Nat.ble 4 t && Nat.ble t 7) || (Nat.ble 16 t && Nat.ble t 31) || (Nat.ble 64 t && Nat.ble t 127) || (Nat.ble 256 t && Nat.ble t 511) || (Nat.ble 1024 t && Nat.ble t 2047)
theorem vtb_iff {t : Nat} : vtb t = true ↔ vt t := by
  unfold vtb vt
  simp only [Bool.or_eq_true, Bool.and_eq_true, Nat.ble_eq]
  omega
theorem all_r {N : Nat} {f : Nat → Bool} (h : (List.range N).all f = true) {i : Nat} (hi : i < N) : f i = true := List.all_eq_true.mp h i (List.mem_range.mpr hi)
theorem left_vt_b : (List.range 2048).all (fun t => !vtb t || (List.range 4).all (fun w => Nat.beq (leftN t w) 1 || vtb (leftN t w))) = true := by decide +kernel
theorem left_vt (t : Nat) (ht : t < 2048) (hv : vt t) (w : Nat) (hw : w < 4) : leftN t w = 1 ∨ vt (leftN t w) := by
  have h := all_r left_vt_b ht
  rw [vtb_iff.mpr hv, Bool.not_true, Bool.false_or] at h
  have h2 := all_r h hw
  rw [Bool.or_eq_true, vtb_iff] at h2
  exact h2.imp Nat.eq_of_beq_eq_true id
theorem half_vt_b : (List.range 2048).all (fun t => !vtb t || vtb (halfN t)) = true := by decide +kernel
theorem half_vt (t : Nat) (ht : t < 2048) (hv : vt t) : vt (halfN t) := by
  have h := all_r half_vt_b ht
  rw [vtb_iff.mpr hv] at h
  exact vtb_iff.mp (by simpa using h)
theorem div_vt_b : (List.range 2048).all (fun c => !vtb c || (List.range 6).all (fun k => (!Nat.blt k (notesN c) || (vtb (c / 4 ^ k) && Nat.beq (notesN (c / 4 ^ k)) (notesN c - k))) && ((!Nat.beq k (notesN c) || Nat.beq (c / 4 ^ k) 1) && (!Nat.blt (notesN c) k || Nat.beq (c / 4 ^ k) 0)))) = true := by decide +kernel
theorem div_vt (c : Nat) (ht : c < 2048) (hv : vt c) (k : Nat) (hk : k < 6) : (k < notesN c → vt (c / 4 ^ k) ∧ notesN (c / 4 ^ k) = notesN c - k) ∧ (k = notesN c → c / 4 ^ k = 1) ∧ (notesN c < k → c / 4 ^ k = 0) := by
  have h := all_r div_vt_b ht
  rw [vtb_iff.mpr hv, Bool.not_true, Bool.false_or] at h
  have h2 := all_r h hk
  simp only [Bool.and_eq_true, Bool.or_eq_true, Bool.not_eq_true', Nat.beq_eq, ← Bool.not_eq_true, Nat.blt_eq] at h2
  obtain ⟨a, b, c⟩ := h2
  refine ⟨fun h => ?_, fun h => ?_, fun h => ?_⟩
  · rcases a with a | ⟨a, d⟩
    · exact absurd h a
    · exact ⟨vtb_iff.mp a, d⟩
  · rcases b with b | b
    · exact absurd h b
    · exact b
  · rcases c with c | c
    · exact absurd h c
    · exact c
theorem notes_le3 : ∀ t : Nat, t ≤ 3 → notesN t = 0 := by decide +kernel
theorem ns_fuel : ∀ (f t : Nat), t < 4 ^ f → ∀ g : Nat, f ≤ g → nsN g t = nsN f t
  | 0, t, h, g, _ => by
    have : t = 0 := by omega
    subst this
    cases g <;> rfl
  | f + 1, t, h, 0, hg => absurd hg (by omega)
  | f + 1, t, h, g + 1, hg => by
    unfold nsN
    split
    · rfl
    · rw [ns_fuel f (t / 4) (by rw [Nat.pow_succ] at h; omega) g (by omega)]
theorem notes_step {t : Nat} (h : 3 < t) (hb : t < 2147483648) : notesN t = notesN (t / 4) + 1 := by
  show nsN 16 t = nsN 16 (t / 4) + 1
  rw [ns_fuel 15 (t / 4) (by omega) 16 (by omega)]
  conv => lhs; unfold nsN
  rw [if_neg (by omega)]
theorem notes_lt {t : Nat} (hb : t < 2147483648) : notesN t ≤ 16 := by
  have : ∀ (f t : Nat), nsN f t ≤ f := by
    intro f
    induction f with
    | zero => intro t; exact Nat.le_refl 0
    | succ f ih =>
      intro t
      unfold nsN
      split
      · omega
      · have := ih (t / 4)
        omega
  exact this 16 t
theorem div4s (t j : Nat) : t / 4 ^ (j + 1) = t / 4 ^ j / 4 := by rw [Nat.pow_succ, Nat.div_div_eq_div_mul]
theorem pow4 (k : Nat) : 2 ^ (2 * k) = 4 ^ k := by rw [Nat.pow_mul]
theorem zI_shr4 {t k : Nat} {z : Int} (ht : t < 2147483648) (hz : z = 2 * (k : Int)) (hk : k < 16) : zI (t : Int) >>> (zI z &&& 31) = zI ((t / 4 ^ k : Nat) : Int) := by
  have e : z = ((2 * k : Nat) : Int) := by omega
  rw [e, zI_shr ht (by omega), pow4]
/-- lisped, by its bits -/
theorem lx1 : ∀ t : Nat, t < 2048 → zI (t : Int) ^^^ zI (-1) = zI (-1 - (t : Int)) := by decide +kernel
theorem lx2 : ∀ t : Nat, t < 2048 → zI ((t / 2 ^ 1 : Nat) : Int) &&& zI (-1 - (t : Int)) = zI ((t / 2 ^ 1 &&& (4095 - t) : Nat) : Int) := by decide +kernel
theorem lx3 : ∀ t : Nat, t < 2048 → t / 2 ^ 1 &&& (4095 - t) < 4096 := by decide +kernel
theorem lx4 : ∀ t : Nat, t < 2048 → vt t → (t : Int) - (((t / 2 ^ 1 &&& (4095 - t)) &&& 1365 : Nat) : Int) = (lispN t : Int) := by decide +kernel
theorem lisp_lt : ∀ t : Nat, t < 2048 → lispN t < 2048 := by decide +kernel
