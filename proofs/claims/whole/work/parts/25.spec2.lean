/-! winds shared; whose tune is taken for whose -/
def wdF (b : Nat → Int) (x y : Nat) : Nat → Int
  | 0 => -1
  | k + 1 => max (wdF b x y k) (min (upN b k (plN b x)) (upN b k (plN b y)))
def wdN (b : Nat → Int) (x y : Nat) : Int := wdF b x y 6
def anyF (f : Nat → Bool) : Nat → Bool
  | 0 => false
  | k + 1 => anyF f k || f k
theorem anyF_iff (f : Nat → Bool) : ∀ k, anyF f k = true ↔ ∃ i, i < k ∧ f i = true
  | 0 => by simp [anyF]
  | k + 1 => by
    show (anyF f k || f k) = true ↔ _
    rw [Bool.or_eq_true, anyF_iff f k]
    constructor
    · rintro (⟨i, h, g⟩ | h)
      · exact ⟨i, by omega, g⟩
      · exact ⟨k, by omega, h⟩
    · rintro ⟨i, h, g⟩
      by_cases e : i = k
      · subst e; exact Or.inr g
      · exact Or.inl ⟨i, by omega, g⟩
theorem anyF_t1 {f : Nat → Bool} {k : Nat} (h : anyF f k = true) : anyF f (k + 1) = true := by show (anyF f k || f k) = true; rw [h]; rfl
theorem anyF_t2 {f : Nat → Bool} {k : Nat} (h : f k = true) : anyF f (k + 1) = true := by show (anyF f k || f k) = true; rw [h]; exact Bool.or_true _
theorem anyF_f {f : Nat → Bool} {k : Nat} (h : anyF f k = false) (g : f k = false) : anyF f (k + 1) = false := by show (anyF f k || f k) = false; rw [h, g]; rfl
theorem wdF_r {b : Nat → Int} {n d c : Nat} (I : Inv b n d c) {x y : Nat} (hx : x < n) (hy : y < n) : ∀ k, k ≤ 6 → -1 ≤ wdF b x y k ∧ wdF b x y k ≤ 3
  | 0, _ => by show (-1 : Int) ≤ -1 ∧ (-1 : Int) ≤ 3; omega
  | k + 1, hk => by
    have h := wdF_r I hx hy k (by omega)
    have h1 := upN_r I (p := k) (q := plN b x) (by omega) (I.p hx).2
    have h2 := upN_r I (p := k) (q := plN b y) (by omega) (I.p hy).2
    show -1 ≤ max (wdF b x y k) (min (upN b k (plN b x)) (upN b k (plN b y))) ∧ max (wdF b x y k) (min (upN b k (plN b x)) (upN b k (plN b y))) ≤ 3
    omega
theorem wdN_r {b : Nat → Int} {n d c : Nat} (I : Inv b n d c) {x y : Nat} (hx : x < n) (hy : y < n) : -1 ≤ wdN b x y ∧ wdN b x y ≤ 3 := wdF_r I hx hy 6 (Nat.le_refl 6)
theorem wdF_sym (b : Nat → Int) (x y : Nat) : ∀ k, wdF b x y k = wdF b y x k
  | 0 => rfl
  | k + 1 => by
    show max (wdF b x y k) (min (upN b k (plN b x)) (upN b k (plN b y))) = max (wdF b y x k) (min (upN b k (plN b y)) (upN b k (plN b x)))
    rw [wdF_sym b x y k, Int.min_comm]
theorem wdN_sym (b : Nat → Int) (x y : Nat) : wdN b x y = wdN b y x := wdF_sym b x y 6
/-- whether, by winds up to m less one, one of that ear and tune turns at a tune -/
def tkW (m : Nat) (ear own tune : Nat) : Bool := anyF (fun w => turnsN ear own tune w) m
def wdM (b : Nat → Int) (x y : Nat) : Nat := (wdN b x y + 1).toNat
theorem wdM_r {b : Nat → Int} {n d c : Nat} (I : Inv b n d c) {x y : Nat} (hx : x < n) (hy : y < n) : (wdM b x y : Int) = wdN b x y + 1 ∧ wdM b x y ≤ 4 := by
  have := wdN_r I hx hy
  unfold wdM; omega
theorem wdM_sym (b : Nat → Int) (x y : Nat) : wdM b x y = wdM b y x := by unfold wdM; rw [wdN_sym]
/-- a tune of x's is taken for y's, whose own it is -/
def tkN (b : Nat → Int) (x tune y own : Nat) : Bool := tkW (wdM b x y) (eN b y) own tune
def clN (b : Nat → Int) (x tune y own : Nat) : Bool := tkN b x tune y own || tkN b y own x tune
