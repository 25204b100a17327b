/-! THE CALLS: how each counts (0 fine, 1 BAD, 2 NO, 3 FULL), what it answers, what the book is behind it -/
def rC (k : Nat) (r : Int) : Int := if k = 0 then r else if k = 1 then -2 else if k = 2 then -3 else -4
def kH (p q w : Int) : Nat := if (0 ≤ p ∧ p ≤ 5) ∧ (0 ≤ q ∧ q ≤ 5) ∧ p ≠ q ∧ (-1 ≤ w ∧ w ≤ 3) then 0 else 1
def rH (b : Nat → Int) (p q w : Int) : Int := if kH p q w = 0 then upN b p.toNat q.toNat else -10
def bH (b : Nat → Int) (p q w : Int) : Nat → Int := if kH p q w = 0 then zup b (hIx p.toNat q.toNat) w else b
def kO (n : Nat) (ear tune place kin : Int) : Nat := if (0 ≤ ear ∧ ear ≤ 5) ∧ isT tune = true ∧ (0 ≤ place ∧ place ≤ 5) ∧ (0 ≤ kin ∧ kin ≤ 3) then (if n = 7 then 3 else 0) else 1
def oneB (b : Nat → Int) (n : Nat) (ear tune place kin : Int) : Nat → Int := zup (zup (zup (zup (zup b (18 + 4 * n) ear) (18 + 4 * n + 1) tune) (18 + 4 * n + 2) place) (18 + 4 * n + 3) kin) 15 ((n + 1 : Nat) : Int)
def bO (b : Nat → Int) (n : Nat) (ear tune place kin : Int) : Nat → Int := if kO n ear tune place kin = 0 then oneB b n ear tune place kin else b
def kR (n : Nat) (p tune : Int) : Nat := if (0 ≤ p ∧ p < (n : Int)) ∧ isT tune = true then 0 else 1
def bR (b : Nat → Int) (n : Nat) (p tune : Int) : Nat → Int := if kR n p tune = 0 then zup b (18 + 4 * p.toNat + 1) tune else b
def kM (n : Nat) (p place : Int) : Nat := if (0 ≤ p ∧ p < (n : Int)) ∧ (0 ≤ place ∧ place ≤ 5) then 0 else 1
def bM (b : Nat → Int) (n : Nat) (p place : Int) : Nat → Int := if kM n p place = 0 then zup b (18 + 4 * p.toNat + 2) place else b
def kD (d : Nat) (tune year : Int) : Nat := if isT tune = true ∧ (0 ≤ year ∧ year ≤ 99) then (if d = 6 then 3 else 0) else 1
def deadB (b : Nat → Int) (d : Nat) (tune year : Int) : Nat → Int := zup (zup (zup b (46 + 2 * d) tune) (46 + 2 * d + 1) year) 16 ((d + 1 : Nat) : Int)
def bD (b : Nat → Int) (d : Nat) (tune year : Int) : Nat → Int := if kD d tune year = 0 then deadB b d tune year else b
def kC (tune wind : Int) : Nat := if isT tune = true ∧ (0 ≤ wind ∧ wind ≤ 3) then 0 else 1
def kL (place tune wind : Int) : Nat := if (0 ≤ place ∧ place ≤ 5) ∧ isT tune = true ∧ (0 ≤ wind ∧ wind ≤ 3) then 0 else 1
def kW (c : Nat) (place tune wind : Int) : Nat := if (0 ≤ place ∧ place ≤ 5) ∧ isT tune = true ∧ (0 ≤ wind ∧ wind ≤ 3) then (if c = 8 then 3 else 0) else 1
def bW (b : Nat → Int) (n c : Nat) (place tune wind : Int) : Nat → Int := if kW c place tune wind = 0 then zup (zup b (58 + c) ((calN b n place.toNat tune.toNat wind.toNat : Nat) : Int)) 17 ((c + 1 : Nat) : Int) else b
def kT (c : Nat) (call : Int) : Nat := if 0 ≤ call ∧ call < (c : Int) then 0 else 1
def kI (n : Nat) (p : Int) : Nat := if 0 ≤ p ∧ p < (n : Int) then 0 else 1
def hrd (b : Nat → Int) (p : Nat) : Nat → Nat
  | 0 => 0
  | k + 1 => hrd b p k + (b (58 + k)).toNat / 2 ^ p % 2
def kU (c : Nat) : Nat := if c = 0 then 2 else 0
def bU (b : Nat → Int) (c : Nat) : Nat → Int := if kU c = 0 then zup b 17 ((c - 1 : Nat) : Int) else b
def kK (n : Nat) (x y : Int) : Nat := if (0 ≤ x ∧ x < (n : Int)) ∧ (0 ≤ y ∧ y < (n : Int)) ∧ x ≠ y then 0 else 1
def oneIf (b : Bool) : Int := if b = true then 1 else 0
def tkP (b : Nat → Int) (x y : Nat) : Bool := tkN b x (tN b x) y (tN b y)
def clP (b : Nat → Int) (x y : Nat) : Bool := clN b x (tN b x) y (tN b y)
/-- pairs, how many and the first -/
def csS (f : Nat → Nat → Bool) (a e : Nat) (r : Int × Int) : Int × Int := if f a e = true then (r.1 + 1, if r.2 = -1 then 10 * (a : Int) + (e : Int) else r.2) else r
def csI (f : Nat → Nat → Bool) (a : Nat) (s : Int × Int) : Nat → Int × Int
  | 0 => s
  | k + 1 => csS f a (a + 1 + k) (csI f a s k)
def csO (f : Nat → Nat → Bool) (n : Nat) : Nat → Int × Int
  | 0 => (0, -1)
  | a + 1 => csI f a (csO f n a) (n - (a + 1))
def csN (b : Nat → Int) (n : Nat) : Int × Int := csO (clP b) n n
def kQ (s : Int × Int) (what : Int) : Nat := if 0 ≤ what ∧ what ≤ 1 then (if what = 0 then 0 else if s.2 = -1 then 2 else 0) else 1
theorem csS_r {f : Nat → Nat → Bool} {a e : Nat} {r : Int × Int} {m : Nat} (ha : a < 7) (he : e < 7) (h : 0 ≤ r.1 ∧ r.1 ≤ m ∧ -1 ≤ r.2 ∧ r.2 ≤ 66) : 0 ≤ (csS f a e r).1 ∧ (csS f a e r).1 ≤ ((m + 1 : Nat) : Int) ∧ -1 ≤ (csS f a e r).2 ∧ (csS f a e r).2 ≤ 66 := by
  unfold csS
  split
  · dsimp only
    split <;> omega
  · omega
theorem csI_r {f : Nat → Nat → Bool} {a : Nat} {s : Int × Int} {m : Nat} (ha : a < 7) (h : 0 ≤ s.1 ∧ s.1 ≤ m ∧ -1 ≤ s.2 ∧ s.2 ≤ 66) : ∀ k, a + k < 7 → 0 ≤ (csI f a s k).1 ∧ (csI f a s k).1 ≤ ((m + k : Nat) : Int) ∧ -1 ≤ (csI f a s k).2 ∧ (csI f a s k).2 ≤ 66
  | 0, _ => h
  | k + 1, hk => csS_r ha (by omega) (csI_r ha h k (by omega))
theorem csO_r {f : Nat → Nat → Bool} {n : Nat} (hn : n ≤ 7) : ∀ a, a ≤ n → 0 ≤ (csO f n a).1 ∧ (csO f n a).1 ≤ ((7 * a : Nat) : Int) ∧ -1 ≤ (csO f n a).2 ∧ (csO f n a).2 ≤ 66
  | 0, _ => by show (0 : Int) ≤ 0 ∧ (0 : Int) ≤ ((7 * 0 : Nat) : Int) ∧ (-1 : Int) ≤ -1 ∧ (-1 : Int) ≤ 66; omega
  | a + 1, h => by
    have h1 := csO_r (f := f) hn a (by omega)
    have h2 := csI_r (f := f) (a := a) (m := 7 * a) (by omega) h1 (n - (a + 1)) (by omega)
    show 0 ≤ (csI f a (csO f n a) (n - (a + 1))).1 ∧ _
    refine ⟨h2.1, ?_, h2.2.2⟩
    show (csI f a (csO f n a) (n - (a + 1))).1 ≤ _
    omega
