/-! THE BOOK: one row of 66 ints, as the reference keeps it; what is asked of it -/
def upN (b : Nat → Int) (p q : Nat) : Int := if p = q then 3 else if q < p then b (p * (p - 1) / 2 + q) else b (q * (q - 1) / 2 + p)
def hIx (p q : Nat) : Nat := if q < p then p * (p - 1) / 2 + q else q * (q - 1) / 2 + p
def eN (b : Nat → Int) (p : Nat) : Nat := (b (18 + 4 * p + 0)).toNat
def tN (b : Nat → Int) (p : Nat) : Nat := (b (18 + 4 * p + 1)).toNat
def plN (b : Nat → Int) (p : Nat) : Nat := (b (18 + 4 * p + 2)).toNat
def kN (b : Nat → Int) (p : Nat) : Nat := (b (18 + 4 * p + 3)).toNat
def Inv (b : Nat → Int) (n d c : Nat) : Prop := b 15 = (n : Int) ∧ n ≤ 7 ∧ b 16 = (d : Int) ∧ d ≤ 6 ∧ b 17 = (c : Int) ∧ c ≤ 8 ∧ (∀ k, k < 15 → -1 ≤ b k ∧ b k ≤ 3) ∧ (∀ p, p < n → (0 ≤ b (18 + 4 * p + 0) ∧ b (18 + 4 * p + 0) ≤ 5) ∧ isT (b (18 + 4 * p + 1)) = true ∧ (0 ≤ b (18 + 4 * p + 2) ∧ b (18 + 4 * p + 2) ≤ 5) ∧ (0 ≤ b (18 + 4 * p + 3) ∧ b (18 + 4 * p + 3) ≤ 3)) ∧ (∀ k, k < d → isT (b (46 + 2 * k)) = true ∧ 0 ≤ b (46 + 2 * k + 1) ∧ b (46 + 2 * k + 1) ≤ 99) ∧ ∀ k, k < c → 0 ≤ b (58 + k) ∧ b (58 + k) ≤ 127
section IN
variable {b : Nat → Int} {n d c : Nat}
theorem Inv.n1 (h : Inv b n d c) : b 15 = (n : Int) := h.1
theorem Inv.n7 (h : Inv b n d c) : n ≤ 7 := h.2.1
theorem Inv.d1 (h : Inv b n d c) : b 16 = (d : Int) := h.2.2.1
theorem Inv.d6 (h : Inv b n d c) : d ≤ 6 := h.2.2.2.1
theorem Inv.c1 (h : Inv b n d c) : b 17 = (c : Int) := h.2.2.2.2.1
theorem Inv.c8 (h : Inv b n d c) : c ≤ 8 := h.2.2.2.2.2.1
theorem Inv.w (h : Inv b n d c) {k : Nat} (hk : k < 15) : -1 ≤ b k ∧ b k ≤ 3 := h.2.2.2.2.2.2.1 k hk
theorem Inv.e (h : Inv b n d c) {p : Nat} (hp : p < n) : b (18 + 4 * p + 0) = (eN b p : Int) ∧ eN b p < 6 := by
  have := (h.2.2.2.2.2.2.2.1 p hp).1
  unfold eN; omega
theorem Inv.t (h : Inv b n d c) {p : Nat} (hp : p < n) : b (18 + 4 * p + 1) = (tN b p : Int) ∧ vt (tN b p) := by
  obtain ⟨t, h1, h2⟩ := isT_of (h.2.2.2.2.2.2.2.1 p hp).2.1
  have e : tN b p = t := by unfold tN; rw [h1]; rfl
  rw [e]; exact ⟨h1, h2⟩
theorem Inv.p (h : Inv b n d c) {p : Nat} (hp : p < n) : b (18 + 4 * p + 2) = (plN b p : Int) ∧ plN b p < 6 := by
  have := (h.2.2.2.2.2.2.2.1 p hp).2.2.1
  unfold plN; omega
theorem Inv.k (h : Inv b n d c) {p : Nat} (hp : p < n) : b (18 + 4 * p + 3) = (kN b p : Int) ∧ kN b p < 4 := by
  have := (h.2.2.2.2.2.2.2.1 p hp).2.2.2
  unfold kN; omega
theorem Inv.dd (h : Inv b n d c) {k : Nat} (hk : k < d) : isT (b (46 + 2 * k)) = true ∧ 0 ≤ b (46 + 2 * k + 1) ∧ b (46 + 2 * k + 1) ≤ 99 := h.2.2.2.2.2.2.2.2.1 k hk
theorem Inv.cc (h : Inv b n d c) {k : Nat} (hk : k < c) : 0 ≤ b (58 + k) ∧ b (58 + k) ≤ 127 := h.2.2.2.2.2.2.2.2.2 k hk
end IN
theorem tri_lt {p q : Nat} (hp : p < 6) (hq : q < p) : p * (p - 1) / 2 + q < 15 := by
  have : p = 0 ∨ p = 1 ∨ p = 2 ∨ p = 3 ∨ p = 4 ∨ p = 5 := by omega
  rcases this with rfl | rfl | rfl | rfl | rfl | rfl <;> simp <;> omega
theorem hIx_lt {p q : Nat} (hp : p < 6) (hq : q < 6) (h : p ≠ q) : hIx p q < 15 := by
  unfold hIx
  split
  · exact tri_lt hp ‹_›
  · exact tri_lt hq (by omega)
theorem upN_ix {b : Nat → Int} {p q : Nat} (h : p ≠ q) : upN b p q = b (hIx p q) := by
  unfold upN hIx
  rw [if_neg h]
  split <;> rfl
theorem upN_r {b : Nat → Int} {n d c : Nat} (I : Inv b n d c) {p q : Nat} (hp : p < 6) (hq : q < 6) : -1 ≤ upN b p q ∧ upN b p q ≤ 3 := by
  by_cases h : p = q
  · subst h; unfold upN; rw [if_pos rfl]; omega
  · rw [upN_ix h]; exact I.w (hIx_lt hp hq h)
theorem upN_sym (b : Nat → Int) (p q : Nat) : upN b p q = upN b q p := by
  by_cases h : p = q
  · subst h; rfl
  · rw [upN_ix h, upN_ix (Ne.symm h)]
    unfold hIx
    rcases Nat.lt_or_gt_of_ne h with g | g
    · rw [if_neg (by omega), if_pos g]
    · rw [if_pos g, if_neg (by omega)]
/-! who is refused, and how it counts: 0 fine, 1 BAD, 2 NO, 3 FULL -/
def rfU (qt : Bool) (rf : Nat → Int) (k : Nat) : Nat → Int := zup rf k (rf k + (if qt = true then 0 else 1))
def rfC (qt : Bool) (rf : Nat → Int) (k : Nat) : Nat → Int := if k = 0 then rf else rfU qt rf (k - 1)
theorem rfC_0 (qt : Bool) (rf : Nat → Int) : rfC qt rf 0 = rf := rfl
theorem rfC_s (qt : Bool) (rf : Nat → Int) (k : Nat) : rfC qt rf (k + 1) = rfU qt rf k := rfl
/-! bits -/
def bitF (f : Nat → Bool) : Nat → Nat
  | 0 => 0
  | k + 1 => if f k = true then bitF f k ||| 2 ^ k else bitF f k
theorem bitF_t {f : Nat → Bool} {k : Nat} (h : f k = true) : bitF f (k + 1) = bitF f k ||| 2 ^ k := by show (if f k = true then _ else _) = _; rw [if_pos h]
theorem bitF_f {f : Nat → Bool} {k : Nat} (h : f k = false) : bitF f (k + 1) = bitF f k := by show (if f k = true then _ else _) = _; rw [if_neg (by rw [h]; decide)]
theorem bitF_lt (f : Nat → Bool) : ∀ k, bitF f k < 2 ^ k
  | 0 => show 0 < 2 ^ 0 by decide
  | k + 1 => by
    have h := bitF_lt f k
    have e : 2 ^ (k + 1) = 2 ^ k + 2 ^ k := by rw [Nat.pow_succ]; omega
    cases hf : f k with
    | true => rw [bitF_t hf]; exact Nat.or_lt_two_pow (by omega) (by rw [e]; have := Nat.two_pow_pos k; omega)
    | false => rw [bitF_f hf]; omega
theorem bitF_test (f : Nat → Bool) : ∀ k i, (bitF f k).testBit i = (decide (i < k) && f i)
  | 0, i => by simp [bitF]
  | k + 1, i => by
    cases hf : f k with
    | true =>
      rw [bitF_t hf, Nat.testBit_or, bitF_test f k i, Nat.testBit_two_pow]
      by_cases h : i = k
      · subst h; simp [hf]
      · have e : (i < k + 1) ↔ i < k := by omega
        have e2 : ¬ k = i := fun h2 => h h2.symm
        simp [e, e2]
    | false =>
      rw [bitF_f hf, bitF_test f k i]
      by_cases h : i = k
      · subst h; simp [hf]
      · have e : (i < k + 1) ↔ i < k := by omega
        simp [e]
theorem bitF_congr {f g : Nat → Bool} : ∀ k, (∀ i, i < k → f i = g i) → bitF f k = bitF g k
  | 0, _ => rfl
  | k + 1, h => by
    show (if f k = true then bitF f k ||| 2 ^ k else bitF f k) = (if g k = true then bitF g k ||| 2 ^ k else bitF g k)
    rw [h k (by omega), bitF_congr k (fun i hi => h i (by omega))]
/-- whether one turns at a call -/
def tb (b : Nat → Int) (pl tune wind : Nat) (k : Nat) : Bool := decide ((wind : Int) ≤ upN b pl (plN b k)) && turnsN (eN b k) (tN b k) tune wind
def calN (b : Nat → Int) (n pl tune wind : Nat) : Nat := bitF (tb b pl tune wind) n
theorem tb_t {b : Nat → Int} {pl tune wind k : Nat} (h : (wind : Int) ≤ upN b pl (plN b k)) (g : turnsN (eN b k) (tN b k) tune wind = true) : tb b pl tune wind k = true := by unfold tb; rw [decide_eq_true h, g]; rfl
theorem tb_f1 {b : Nat → Int} {pl tune wind k : Nat} (h : upN b pl (plN b k) < (wind : Int)) : tb b pl tune wind k = false := by unfold tb; rw [decide_eq_false (by omega)]; rfl
theorem tb_f2 {b : Nat → Int} {pl tune wind k : Nat} (g : turnsN (eN b k) (tN b k) tune wind = false) : tb b pl tune wind k = false := by unfold tb; rw [g]; exact Bool.and_false _
theorem calN_lt {b : Nat → Int} {n d c : Nat} (I : Inv b n d c) (pl tune wind : Nat) : calN b n pl tune wind ≤ 127 := by
  have h := bitF_lt (tb b pl tune wind) n
  have h2 : 2 ^ n ≤ 2 ^ 7 := Nat.pow_le_pow_right (by decide) I.n7
  unfold calN; omega
/-! objects, by the addresses of what they hold -/
abbrev moE (ad : Nat → Nat) (qt : Bool) (sc : Nat → Int) : va_E := .inr (6, [.ref (ad 0), .ref (ad 1), .ref (ad 2), .ref (ad 3), .ref (ad 4), .int (zB qt), .ref (ad 5), .int (zI (sc 0)), .int (zI (sc 1)), .int (zI (sc 2)), .int (zI (sc 3)), .int (zI (sc 4)), .ref (ad 6), .int (zI (sc 5)), .ref (ad 7), .ref (ad 8), .ref (ad 9), .ref (ad 10)])
abbrev goE (ga : Nat → Nat) (n d c : Int) : va_E := .inr (0, [.int (zI n), .int (zI d), .int (zI c), .ref (ga 0), .ref (ga 1), .ref (ga 2), .ref (ga 3), .ref (ga 4), .ref (ga 5), .ref (ga 6), .ref (ga 7)])
abbrev txE (ta : Nat → Nat) (sc : Nat → Int) : va_E := .inr (3, [.int (zI (sc 0)), .int (zI (sc 1)), .int (zI (sc 2)), .ref (ta 0), .ref (ta 1), .int (zI (sc 3)), .int (zI (sc 4)), .int (zI (sc 5)), .int (zI (sc 6))])
abbrev whE (wa : Nat → Nat) (fo le : Int) : va_E := .inr (4, [.ref (wa 0), .ref (wa 1), .ref (wa 2), .ref (wa 3), .ref (wa 4), .int (zI fo), .int (zI le)])
abbrev nmE (na : Nat → Nat) (rd : Bool) (fe : Int) : va_E := .inr (2, [.int (zB rd), .ref (na 0), .ref (na 1), .ref (na 2), .ref (na 3), .ref (na 4), .ref (na 5), .ref (na 6), .ref (na 7), .int (zI fe)])
abbrev wnE (xa : Nat → Nat) (nw sp : Nat) : va_E := .inr (5, [.ref nw, .ref sp, .ref (xa 0), .ref (xa 1), .ref (xa 2), .ref (xa 3), .ref (xa 4), .ref (xa 5)])
