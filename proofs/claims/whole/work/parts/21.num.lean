/-! numbers: shifts, masks, quotients of zI
-/
theorem sm31 : ∀ i : Nat, i < 32 → ((nI i &&& 31).toBitVec.smod 32).toNat = i := by decide +kernel
theorem zI_shr {t i : Nat} (ht : t < 2147483648) (hi : i < 32) : zI (t : Int) >>> (zI (i : Int) &&& 31) = zI ((t / 2 ^ i : Nat) : Int) := by
  rw [zI_nat, zI_nat, zI_nat]
  exact pk_shrN (by omega) _ i (sm31 i hi)
theorem zI_shrI {z : Int} (hz : Z32 z) (i : Nat) (d : Int) (hi : i < 32) (hd : ((2 ^ i : Nat) : Int) = d) : zI z >>> (zI (i : Int) &&& 31) = zI (z / d) := by
  have h := pk_shr (zI z) (zI (i : Int) &&& 31) i (by rw [zI_nat]; exact sm31 i hi)
  rw [zI_toInt hz, Int.shiftRight_eq_div_pow, hd] at h
  rw [← h]
  exact (Int32.ofInt_toInt _).symm
theorem zI_shl {a i : Nat} (h : a * 2 ^ i < 4294967296) (hi : i < 32) : zI (a : Int) <<< (zI (i : Int) &&& 31) = zI ((a * 2 ^ i : Nat) : Int) := by
  rw [zI_nat, zI_nat, zI_nat]
  exact pk_shlN _ i (sm31 i hi) h
theorem pow31 {i : Nat} (h : i < 31) : 2 ^ i < 2147483648 := Nat.lt_of_lt_of_le (Nat.pow_lt_pow_right (by decide) h) (Nat.le_refl _)
theorem zI_shl1 {i : Nat} (hi : i < 31) : zI 1 <<< (zI (i : Int) &&& 31) = zI ((2 ^ i : Nat) : Int) := by
  have h := zI_shl (a := 1) (i := i) (by have := pow31 hi; omega) (by omega)
  rw [Nat.one_mul] at h
  exact h
theorem zI_and3 {t : Nat} (h : t < 4294967296) : zI (t : Int) &&& zI 3 = zI ((t % 4 : Nat) : Int) := by
  rw [zI_nat, zI_nat]
  exact pk_andN h 2 (by decide)
theorem zI_and1 {t : Nat} (h : t < 4294967296) : zI (t : Int) &&& zI 1 = zI ((t % 2 : Nat) : Int) := by
  rw [zI_nat, zI_nat]
  exact pk_andN h 1 (by decide)
theorem nI_bv {n : Nat} : (nI n).toBitVec = BitVec.ofNat 32 n := rfl
theorem zI_and {a b : Nat} (_ : a < 4294967296) (_ : b < 4294967296) : zI (a : Int) &&& zI (b : Int) = zI ((a &&& b : Nat) : Int) := by
  rw [zI_nat, zI_nat, zI_nat]
  apply Int32.toBitVec_inj.mp
  rw [Int32.toBitVec_and, nI_bv, nI_bv, nI_bv, BitVec.ofNat_and]
theorem zI_or {a b : Nat} (_ : a < 4294967296) (_ : b < 4294967296) : zI (a : Int) ||| zI (b : Int) = zI ((a ||| b : Nat) : Int) := by
  rw [zI_nat, zI_nat, zI_nat]
  apply Int32.toBitVec_inj.mp
  rw [Int32.toBitVec_or, nI_bv, nI_bv, nI_bv, BitVec.ofNat_or]
theorem zI_div {a d : Nat} (ha : a < 2147483648) (h0 : 0 < d) (hd : d < 2147483648) : zI (a : Int) / zI (d : Int) = zI ((a / d : Nat) : Int) := by
  rw [zI_nat, zI_nat, zI_nat]; exact pk_div ha h0 hd
theorem zI_rem {a d : Nat} (ha : a < 2147483648) (h0 : 0 < d) (hd : d < 2147483648) : zI (a : Int) - zI (a : Int) / zI (d : Int) * zI (d : Int) = zI ((a % d : Nat) : Int) := by
  rw [zI_nat, zI_nat, zI_nat]; exact pk_rem ha h0 hd
theorem zI_i2l {z : Int} (hz : Z32 z) : (zI z).toInt64 = zL z := by
  show Int64.ofInt (zI z).toInt = Int64.ofInt z
  rw [zI_toInt hz]
theorem zB_nar (b : Bool) : narrow .boolean (.int (zB b)) = .int (zB b) := by cases b <;> rfl
theorem zB_fit (b : Bool) : fits .boolean (.int (zB b)) = true := by cases b <;> rfl
theorem zL_toInt {z : Int} (h : -9223372036854775808 ≤ z ∧ z ≤ 9223372036854775807) : (zL z).toInt = z := by
  have h1 : -2 ^ 63 ≤ z := by omega
  have h2 : z < 2 ^ 63 := by omega
  exact Int64.toInt_ofInt_of_le h1 h2
def cmZ (a b : Int) : Int := if a < b then -1 else if a = b then 0 else 1
theorem zL_cmp {a b : Int} (ha : Z32 a) (hb : Z32 b) : lg_cmp (zL a) (zL b) = zI (cmZ a b) := by
  have h1 := zL_toInt (z := a) (by omega)
  have h2 := zL_toInt (z := b) (by omega)
  have e1 : zL a < zL b ↔ a < b := by rw [Int64.lt_iff_toInt_lt, h1, h2]
  have e2 : zL a = zL b ↔ a = b := by
    constructor
    · intro h; rw [← h1, ← h2, h]
    · intro h; rw [h]
  have e3 : zL b < zL a ↔ b < a := by rw [Int64.lt_iff_toInt_lt, h1, h2]
  unfold lg_cmp cmZ
  by_cases c1 : a < b
  · simp only [gt_iff_lt, e1, e2, e3, c1, if_true]
    rw [if_neg (by omega), if_neg (by omega)]; rfl
  · by_cases c2 : a = b
    · subst c2; simp [e1]; rfl
    · have c3 : b < a := by omega
      simp only [gt_iff_lt, e3, c1, c2, if_false]
      rw [if_pos c3]; rfl
/-! tunes: a 1, then digits to the base 4 -/
def nsN : Nat → Nat → Nat
  | 0, _ => 0
  | f + 1, t => if t ≤ 3 then 0 else nsN f (t / 4) + 1
def notesN (t : Nat) : Nat := nsN 16 t
def cnN (z : Int) : Int := if z / 4 = 1 then 1 else if z / 16 = 1 then 2 else if z / 64 = 1 then 3 else if z / 256 = 1 then 4 else if z / 1024 = 1 then 5 else 0
theorem cnN_of (z k : Int) (h : (k = 1 ∧ z / 4 = 1) ∨ (k = 2 ∧ z / 16 = 1) ∨ (k = 3 ∧ z / 64 = 1) ∨ (k = 4 ∧ z / 256 = 1) ∨ (k = 5 ∧ z / 1024 = 1) ∨ (k = 0 ∧ z / 4 ≠ 1 ∧ z / 16 ≠ 1 ∧ z / 64 ≠ 1 ∧ z / 256 ≠ 1 ∧ z / 1024 ≠ 1)) : cnN z = k := by
  unfold cnN
  (repeat' split) <;> omega
def isT (z : Int) : Bool := decide ((4 ≤ z ∧ z ≤ 7) ∨ (16 ≤ z ∧ z ≤ 31) ∨ (64 ≤ z ∧ z ≤ 127) ∨ (256 ≤ z ∧ z ≤ 511) ∨ (1024 ≤ z ∧ z ≤ 2047))
theorem cnN_pos (z : Int) : 0 < cnN z ↔ isT z = true := by
  unfold isT
  rw [decide_eq_true_iff]
  unfold cnN
  (repeat' split) <;> omega
theorem cnN_range (z : Int) : 0 ≤ cnN z ∧ cnN z ≤ 5 := by
  unfold cnN
  (repeat' split) <;> omega
/-- a tune, as a number -/
abbrev vt (t : Nat) : Prop := (4 ≤ t ∧ t ≤ 7) ∨ (16 ≤ t ∧ t ≤ 31) ∨ (64 ≤ t ∧ t ≤ 127) ∨ (256 ≤ t ∧ t ≤ 511) ∨ (1024 ≤ t ∧ t ≤ 2047)
theorem isT_nat {t : Nat} : isT (t : Int) = true ↔ vt t := by unfold isT vt; rw [decide_eq_true_iff]; omega
theorem isT_of {z : Int} (h : isT z = true) : ∃ t : Nat, z = (t : Int) ∧ vt t := by
  unfold isT at h; rw [decide_eq_true_iff] at h
  exact ⟨z.toNat, by omega, by unfold vt; omega⟩
theorem vt_lt {t : Nat} (h : vt t) : t < 2048 := by unfold vt at h; omega
theorem cn_notes : ∀ t : Nat, t < 2048 → vt t → cnN (t : Int) = (notesN t : Int) := by decide +kernel
theorem notes_vt : ∀ t : Nat, t < 2048 → vt t → 1 ≤ notesN t ∧ notesN t ≤ 5 := by decide +kernel
