/-! items of the text, and what they tell -/
def lsN (g : Nat → Bool) : Nat → Nat → Nat
  | 0, k => k
  | f + 1, k => if g k = true then lsN g f (k + 1) else k
theorem lsN_eq {g : Nat → Bool} {m : Nat} : ∀ f k, k ≤ m → m ≤ k + f → (∀ j, k ≤ j → j < m → g j = true) → (m < k + f → g m = false) → lsN g f k = m
  | 0, k, h1, h2, _, _ => by show k = m; omega
  | f + 1, k, h1, h2, h3, h4 => by
    show (if g k = true then lsN g f (k + 1) else k) = m
    by_cases e : k = m
    · subst e; rw [if_neg (by rw [h4 (by omega)]; decide)]
    · rw [if_pos (h3 k (Nat.le_refl k) (by omega))]
      exact lsN_eq f (k + 1) (by omega) (by omega) (fun j a b => h3 j (by omega) b) (fun h => h4 (by omega))
theorem lsN_le (g : Nat → Bool) : ∀ f k, k ≤ lsN g f k ∧ lsN g f k ≤ k + f
  | 0, k => ⟨Nat.le_refl k, Nat.le_refl k⟩
  | f + 1, k => by
    show k ≤ (if g k = true then lsN g f (k + 1) else k) ∧ (if g k = true then lsN g f (k + 1) else k) ≤ k + (f + 1)
    have := lsN_le g f (k + 1)
    split <;> omega
theorem lsN_in (g : Nat → Bool) : ∀ f k j, k ≤ j → j < lsN g f k → g j = true
  | 0, k, j, h, h2 => absurd h2 (by show ¬ j < k; omega)
  | f + 1, k, j, h, h2 => by
    have h3 : j < (if g k = true then lsN g f (k + 1) else k) := h2
    split at h3
    · rename_i hc
      by_cases e : j = k
      · subst e; exact hc
      · exact lsN_in g f (k + 1) j (by omega) h3
    · omega
theorem lsN_end (g : Nat → Bool) : ∀ f k, lsN g f k < k + f → g (lsN g f k) = false
  | 0, k, h => absurd h (by show ¬ k < k + 0; omega)
  | f + 1, k, h => by
    have e : lsN g (f + 1) k = if g k = true then lsN g f (k + 1) else k := rfl
    rw [e] at h ⊢
    split at h
    · rename_i hc; rw [if_pos hc]; exact lsN_end g f (k + 1) (by omega)
    · rename_i hc; rw [if_neg hc]; exact Bool.eq_false_iff.mpr hc
theorem tokS_ge (tx : Nat → Int) (L a : Nat) : a ≤ tokS tx L a := runE_ge _ _ _ _
theorem tokS_le (tx : Nat → Int) {L a : Nat} (h : a ≤ L) : tokS tx L a ≤ L := runE_le _ _ h
theorem tkE_b (tx : Nat → Int) {L s : Nat} (h : s ≤ L) : s ≤ tkE tx L s ∧ tkE tx L s ≤ L ∧ (tkK tx L s ≠ 0 → s < tkE tx L s) ∧ (4 ≤ tkK tx L s → s + 3 ≤ tkE tx L s) := by
  unfold tkE tkK
  by_cases e : s = L
  · rw [if_pos e, if_pos e]; exact ⟨Nat.le_refl s, h, fun h => absurd rfl h, fun h => absurd h (by omega)⟩
  · rw [if_neg e, if_neg e]
    have hs : s < L := by omega
    by_cases e1 : ltr (tx s) = true
    · rw [if_pos e1, if_pos e1]
      have h1 : runE ltr tx L s = runE ltr tx L (s + 1) := runE_t hs e1
      have h2 := runE_ge ltr tx L (s + 1)
      have h3 := runE_le ltr tx (a := s) (L := L) h
      refine ⟨by omega, h3, fun _ => by omega, fun hw => ?_⟩
      have h4 := wdK_r tx s (runE ltr tx L s)
      generalize runE ltr tx L s = q at *
      unfold wdK at hw
      split at hw
      · omega
      · split at hw
        · omega
        · split at hw <;> omega
    · rw [if_neg e1, if_neg e1]
      by_cases e2 : fig (tx s) = true
      · rw [if_pos e2, if_pos e2]
        have h1 : runE fig tx L s = runE fig tx L (s + 1) := runE_t hs e2
        have h2 := runE_ge fig tx L (s + 1)
        have h3 := runE_le fig tx (a := s) (L := L) h
        refine ⟨by omega, h3, fun _ => by omega, fun hw => ?_⟩
        split at hw <;> omega
      · rw [if_neg e2, if_neg e2]
        refine ⟨by omega, by omega, fun _ => by omega, fun hw => ?_⟩
        split at hw <;> omega
theorem tokE_b (tx : Nat → Int) {L a : Nat} (h : a ≤ L) : a ≤ tokE tx L a ∧ tokE tx L a ≤ L ∧ (tokK tx L a ≠ 0 → a < tokE tx L a) ∧ (4 ≤ tokK tx L a → a + 3 ≤ tokE tx L a) := by
  have h1 := tokS_ge tx L a
  have h2 := tokS_le tx h
  have h3 := tkE_b tx h2
  show a ≤ tkE tx L (tokS tx L a) ∧ tkE tx L (tokS tx L a) ≤ L ∧ (tkK tx L (tokS tx L a) ≠ 0 → a < tkE tx L (tokS tx L a)) ∧ (4 ≤ tkK tx L (tokS tx L a) → a + 3 ≤ tkE tx L (tokS tx L a))
  exact ⟨by omega, h3.2.1, fun h => by have := h3.2.2.1 h; omega, fun h => by have := h3.2.2.2 h; omega⟩
theorem tokK_r (tx : Nat → Int) (L a : Nat) : tokK tx L a ≤ 6 := by
  unfold tokK tkK
  have := wdK_r tx (tokS tx L a) (runE ltr tx L (tokS tx L a))
  (repeat' split) <;> omega
def posF (tx : Nat → Int) (L a : Nat) : Nat → Nat
  | 0 => a
  | k + 1 => tokE tx L (posF tx L a k)
theorem posF_le (tx : Nat → Int) {L a : Nat} (h : a ≤ L) : ∀ k, posF tx L a k ≤ L
  | 0 => h
  | k + 1 => (tokE_b tx (posF_le tx h k)).2.1
def nKw (w : Nat) : Nat := if w = 4 then 3 else if w = 5 then 4 else 2
theorem nKw_r (w : Nat) : 2 ≤ nKw w ∧ nKw w ≤ 4 ∧ (w = 4 → nKw w = 3) ∧ (w = 5 → nKw w = 4) ∧ (w = 6 → nKw w = 2) := by unfold nKw; (repeat' split) <;> omega
def isNum (tx : Nat → Int) (L a k : Nat) : Bool := decide (tokK tx L (posF tx L a (k + 1)) = 2)
def gdI (tx : Nat → Int) (L a : Nat) : Bool := decide (4 ≤ tokK tx L a) && (allF (isNum tx L a) (nKw (tokK tx L a)) && decide (tokK tx L (posF tx L a (nKw (tokK tx L a) + 1)) = 3))
def aF (tx : Nat → Int) (L : Nat) : Nat → Nat
  | 0 => 0
  | m + 1 => posF tx L (aF tx L m) (nKw (tokK tx L (aF tx L m)) + 2)
def ftI (tx : Nat → Int) (L a : Nat) : Nat := if tokK tx L a < 4 then tokS tx L a else tokS tx L (posF tx L a (lsN (isNum tx L a) (nKw (tokK tx L a)) 0 + 1))
def mN (tx : Nat → Int) (L : Nat) : Nat := lsN (fun m => gdI tx L (aF tx L m)) 41 0
theorem aF_le (tx : Nat → Int) (L : Nat) : ∀ m, aF tx L m ≤ L
  | 0 => Nat.zero_le L
  | m + 1 => posF_le tx (aF_le tx L m) _
theorem gd_step {tx : Nat → Int} {L a : Nat} (ha : a ≤ L) (h : gdI tx L a = true) : a + 5 ≤ posF tx L a (nKw (tokK tx L a) + 2) := by
  unfold gdI at h
  rw [Bool.and_eq_true, Bool.and_eq_true, decide_eq_true_iff, decide_eq_true_iff, allF_iff] at h
  obtain ⟨h1, h2, h3⟩ := h
  have hk := nKw_r (tokK tx L a)
  have key : ∀ k, k ≤ nKw (tokK tx L a) → a + 3 + k ≤ posF tx L a (k + 1) := by
    intro k
    induction k with
    | zero => intro _; exact (tokE_b tx ha).2.2.2 h1
    | succ k ih =>
      intro hk2
      have h4 := ih (by omega)
      have h5 := h2 k (by omega)
      unfold isNum at h5
      rw [decide_eq_true_iff] at h5
      have h6 := (tokE_b tx (posF_le tx ha (k + 1))).2.2.1 (by rw [h5]; decide)
      show a + 3 + (k + 1) ≤ tokE tx L (posF tx L a (k + 1))
      omega
  have h4 := key (nKw (tokK tx L a)) (Nat.le_refl _)
  have h6 := (tokE_b tx (posF_le tx ha (nKw (tokK tx L a) + 1))).2.2.1 (by rw [h3]; decide)
  show a + 5 ≤ tokE tx L (posF tx L a (nKw (tokK tx L a) + 1))
  omega
theorem aF_ge {tx : Nat → Int} {L : Nat} : ∀ m, (∀ j, j < m → gdI tx L (aF tx L j) = true) → 5 * m ≤ aF tx L m
  | 0, _ => Nat.zero_le _
  | m + 1, h => by
    have h1 := aF_ge m (fun j hj => h j (by omega))
    have h2 := gd_step (aF_le tx L m) (h m (by omega))
    show 5 * (m + 1) ≤ posF tx L (aF tx L m) (nKw (tokK tx L (aF tx L m)) + 2)
    omega
theorem mN_eq {tx : Nat → Int} {L m : Nat} (hL : L ≤ 200) (h : ∀ j, j < m → gdI tx L (aF tx L j) = true) (h2 : gdI tx L (aF tx L m) = false) : mN tx L = m := by
  have h3 := aF_ge m h
  have h4 := aF_le tx L m
  exact lsN_eq 41 0 (Nat.zero_le m) (by omega) (fun j _ hj => h j hj) (fun _ => h2)
/-- a number, 0 the verb -/
def itV (tx : Nat → Int) (L m j : Nat) : Int := if j = 0 then ((tokK tx L (aF tx L m) - 4 : Nat) : Int) else ((tokV tx L (posF tx L (aF tx L m) j) : Nat) : Int)
theorem tokV_r {tx : Nat → Int} {L a : Nat} (ht : ∀ j, j < L → 0 ≤ tx j ∧ tx j ≤ 255) (h : tokK tx L a = 2) : tokV tx L a ≤ 9999 := by
  unfold tokK tkK at h
  split at h
  · omega
  · rename_i e
    split at h
    · have := wdK_r tx (tokS tx L a) (runE ltr tx L (tokS tx L a)); omega
    · rename_i e1
      split at h
      · rename_i e2
        split at h
        · rename_i e3
          have e4 : tokE tx L a = runE fig tx L (tokS tx L a) := by unfold tokE tkE; rw [if_neg e, if_neg e1, if_pos e2]
          unfold tokV
          rw [e4]
          have h5 := nvN_r (tx := tx) (s := tokS tx L a) (runE fig tx L (tokS tx L a) - tokS tx L a) e3 (fun i hi => by
            have h6 := (runE_in (P := fig) (tx := tx) (L := L) (a := tokS tx L a) (j := tokS tx L a + i) (by omega) (by omega)).2
            exact of_decide_eq_true h6)
          have h7 : 10 ^ (runE fig tx L (tokS tx L a) - tokS tx L a) ≤ 10 ^ 4 := Nat.pow_le_pow_right (by decide) e3
          omega
        · omega
      · split at h <;> omega
/-! telling an item -/
def teK (b : Nat → Int) (it : Nat → Int) : Nat := if it 0 = 0 then kH (it 1) (it 2) (it 3) else if it 0 = 1 then kO (b 15).toNat (it 1) (it 2) (it 3) (it 4) else kD (b 16).toNat (it 1) (it 2)
def teB (b : Nat → Int) (it : Nat → Int) : Nat → Int := if it 0 = 0 then bH b (it 1) (it 2) (it 3) else if it 0 = 1 then bO b (b 15).toNat (it 1) (it 2) (it 3) (it 4) else bD b (b 16).toNat (it 1) (it 2)
theorem Inv.of {b b' : Nat → Int} {n d c n' d' c' : Nat} (I : Inv b n d c) (h1 : b' 15 = (n' : Int)) (h2 : n' ≤ 7) (h3 : b' 16 = (d' : Int)) (h4 : d' ≤ 6) (h5 : b' 17 = (c' : Int)) (h6 : c' ≤ 8) (h7 : ∀ k, k < 15 → -1 ≤ b' k ∧ b' k ≤ 3)
    (h8 : ∀ p, p < n' → (0 ≤ b' (18 + 4 * p + 0) ∧ b' (18 + 4 * p + 0) ≤ 5) ∧ isT (b' (18 + 4 * p + 1)) = true ∧ (0 ≤ b' (18 + 4 * p + 2) ∧ b' (18 + 4 * p + 2) ≤ 5) ∧ (0 ≤ b' (18 + 4 * p + 3) ∧ b' (18 + 4 * p + 3) ≤ 3))
    (h9 : ∀ k, k < d' → isT (b' (46 + 2 * k)) = true ∧ 0 ≤ b' (46 + 2 * k + 1) ∧ b' (46 + 2 * k + 1) ≤ 99) (h10 : ∀ k, k < c' → 0 ≤ b' (58 + k) ∧ b' (58 + k) ≤ 127) : Inv b' n' d' c' := ⟨h1, h2, h3, h4, h5, h6, h7, h8, h9, h10⟩
theorem Inv_bH {b : Nat → Int} {n d c : Nat} (I : Inv b n d c) (p q w : Int) : Inv (bH b p q w) n d c := by
  unfold bH
  split
  · rename_i hk
    have hv : (0 ≤ p ∧ p ≤ 5) ∧ (0 ≤ q ∧ q ≤ 5) ∧ p ≠ q ∧ (-1 ≤ w ∧ w ≤ 3) := by
      unfold kH at hk; split at hk
      · assumption
      · cases hk
    have hx : hIx p.toNat q.toNat < 15 := hIx_lt (by omega) (by omega) (by omega)
    obtain ⟨i1, i2, i3, i4, i5, i6, i7, i8, i9, i10⟩ := I
    refine ⟨by rw [zup_n _ _ (by omega)]; exact i1, i2, by rw [zup_n _ _ (by omega)]; exact i3, i4, by rw [zup_n _ _ (by omega)]; exact i5, i6, fun k hk => ?_, fun p hp => ?_, fun k hk => ?_, fun k hk => ?_⟩
    · by_cases e : k = hIx p.toNat q.toNat
      · rw [e, zup_s]; omega
      · rw [zup_n _ _ e]; exact i7 k hk
    · rw [zup_n _ _ (by omega), zup_n _ _ (by omega), zup_n _ _ (by omega), zup_n _ _ (by omega)]; exact i8 p hp
    · rw [zup_n _ _ (by omega), zup_n _ _ (by omega)]; exact i9 k hk
    · rw [zup_n _ _ (by omega)]; exact i10 k hk
  · exact I
theorem Inv_bO {b : Nat → Int} {n d c : Nat} (I : Inv b n d c) (ear tune place kin : Int) : Inv (bO b n ear tune place kin) (if kO n ear tune place kin = 0 then n + 1 else n) d c := by
  unfold bO
  split
  · rename_i hk
    have hv : ((0 ≤ ear ∧ ear ≤ 5) ∧ isT tune = true ∧ (0 ≤ place ∧ place ≤ 5) ∧ (0 ≤ kin ∧ kin ≤ 3)) ∧ n ≠ 7 := by
      unfold kO at hk; split at hk
      · rename_i h; split at hk
        · cases hk
        · exact ⟨h, by assumption⟩
      · cases hk
    obtain ⟨i1, i2, i3, i4, i5, i6, i7, i8, i9, i10⟩ := I
    unfold oneB
    refine ⟨zup_s _ _ _, by omega, ?_, i4, ?_, i6, fun k hk => ?_, fun p hp => ?_, fun k hk => ?_, fun k hk => ?_⟩
    · rw [zup_n _ _ (by omega), zup_n _ _ (by omega), zup_n _ _ (by omega), zup_n _ _ (by omega), zup_n _ _ (by omega)]; exact i3
    · rw [zup_n _ _ (by omega), zup_n _ _ (by omega), zup_n _ _ (by omega), zup_n _ _ (by omega), zup_n _ _ (by omega)]; exact i5
    · rw [zup_n _ _ (by omega), zup_n _ _ (by omega), zup_n _ _ (by omega), zup_n _ _ (by omega), zup_n _ _ (by omega)]; exact i7 k hk
    · by_cases e : p = n
      · subst e
        refine ⟨?_, ?_, ?_, ?_⟩
        · rw [zup_n _ _ (by omega), zup_n _ _ (by omega), zup_n _ _ (by omega), zup_n _ _ (by omega), Nat.add_zero, zup_s]; omega
        · rw [zup_n _ _ (by omega), zup_n _ _ (by omega), zup_n _ _ (by omega), zup_s]; exact hv.1.2.1
        · rw [zup_n _ _ (by omega), zup_n _ _ (by omega), zup_s]; omega
        · rw [zup_n _ _ (by omega), zup_s]; omega
      · have := i8 p (by omega)
        refine ⟨?_, ?_, ?_, ?_⟩
        · rw [zup_n _ _ (by omega), zup_n _ _ (by omega), zup_n _ _ (by omega), zup_n _ _ (by omega), zup_n _ _ (by omega)]; exact this.1
        · rw [zup_n _ _ (by omega), zup_n _ _ (by omega), zup_n _ _ (by omega), zup_n _ _ (by omega), zup_n _ _ (by omega)]; exact this.2.1
        · rw [zup_n _ _ (by omega), zup_n _ _ (by omega), zup_n _ _ (by omega), zup_n _ _ (by omega), zup_n _ _ (by omega)]; exact this.2.2.1
        · rw [zup_n _ _ (by omega), zup_n _ _ (by omega), zup_n _ _ (by omega), zup_n _ _ (by omega), zup_n _ _ (by omega)]; exact this.2.2.2
    · have := i9 k hk
      rw [zup_n _ _ (by omega), zup_n _ _ (by omega), zup_n _ _ (by omega), zup_n _ _ (by omega), zup_n _ _ (by omega), zup_n _ _ (by omega), zup_n _ _ (by omega), zup_n _ _ (by omega), zup_n _ _ (by omega), zup_n _ _ (by omega)]; exact this
    · rw [zup_n _ _ (by omega), zup_n _ _ (by omega), zup_n _ _ (by omega), zup_n _ _ (by omega), zup_n _ _ (by omega)]; exact i10 k hk
  · exact I
theorem Inv_bD {b : Nat → Int} {n d c : Nat} (I : Inv b n d c) (tune year : Int) : Inv (bD b d tune year) n (if kD d tune year = 0 then d + 1 else d) c := by
  unfold bD
  split
  · rename_i hk
    have hv : (isT tune = true ∧ (0 ≤ year ∧ year ≤ 99)) ∧ d ≠ 6 := by
      unfold kD at hk; split at hk
      · rename_i h; split at hk
        · cases hk
        · exact ⟨h, by assumption⟩
      · cases hk
    obtain ⟨i1, i2, i3, i4, i5, i6, i7, i8, i9, i10⟩ := I
    unfold deadB
    refine ⟨?_, i2, zup_s _ _ _, by omega, ?_, i6, fun k hk => ?_, fun p hp => ?_, fun k hk => ?_, fun k hk => ?_⟩
    · rw [zup_n _ _ (by omega), zup_n _ _ (by omega), zup_n _ _ (by omega)]; exact i1
    · rw [zup_n _ _ (by omega), zup_n _ _ (by omega), zup_n _ _ (by omega)]; exact i5
    · rw [zup_n _ _ (by omega), zup_n _ _ (by omega), zup_n _ _ (by omega)]; exact i7 k hk
    · have := i8 p hp
      refine ⟨?_, ?_, ?_, ?_⟩
      · rw [zup_n _ _ (by omega), zup_n _ _ (by omega), zup_n _ _ (by omega)]; exact this.1
      · rw [zup_n _ _ (by omega), zup_n _ _ (by omega), zup_n _ _ (by omega)]; exact this.2.1
      · rw [zup_n _ _ (by omega), zup_n _ _ (by omega), zup_n _ _ (by omega)]; exact this.2.2.1
      · rw [zup_n _ _ (by omega), zup_n _ _ (by omega), zup_n _ _ (by omega)]; exact this.2.2.2
    · by_cases e : k = d
      · subst e
        refine ⟨?_, ?_⟩
        · rw [zup_n _ _ (by omega), zup_n _ _ (by omega), zup_s]; exact hv.1.1
        · rw [zup_n _ _ (by omega), zup_s]; omega
      · have := i9 k (by omega)
        rw [zup_n _ _ (by omega), zup_n _ _ (by omega), zup_n _ _ (by omega), zup_n _ _ (by omega), zup_n _ _ (by omega), zup_n _ _ (by omega)]; exact this
    · rw [zup_n _ _ (by omega), zup_n _ _ (by omega), zup_n _ _ (by omega)]; exact i10 k hk
  · exact I
theorem Inv.nat (b : Nat → Int) {n d c : Nat} (I : Inv b n d c) : (b 15).toNat = n ∧ (b 16).toNat = d := by rw [I.n1, I.d1]; exact ⟨rfl, rfl⟩
theorem Inv_teB {b : Nat → Int} {n d c : Nat} (I : Inv b n d c) (it : Nat → Int) : ∃ n' d', Inv (teB b it) n' d' c := by
  unfold teB
  rw [(I.nat b).1, (I.nat b).2]
  split
  · exact ⟨n, d, Inv_bH I _ _ _⟩
  · split
    · exact ⟨_, d, Inv_bO I _ _ _ _⟩
    · exact ⟨n, _, Inv_bD I _ _⟩
def empB : Nat → Int := fun k => if k < 15 then -1 else 0
theorem Inv_emp : Inv empB 0 0 0 := by
  refine ⟨rfl, by omega, rfl, by omega, rfl, by omega, fun k hk => ?_, fun p hp => absurd hp (Nat.not_lt_zero p), fun k hk => absurd hk (Nat.not_lt_zero k), fun k hk => absurd hk (Nat.not_lt_zero k)⟩
  unfold empB; rw [if_pos hk]; omega
def tbF (tx : Nat → Int) (L : Nat) : Nat → (Nat → Int)
  | 0 => empB
  | k + 1 => teB (tbF tx L k) (itV tx L k)
theorem Inv_tbF (tx : Nat → Int) (L : Nat) : ∀ k, ∃ n d, Inv (tbF tx L k) n d 0
  | 0 => ⟨0, 0, Inv_emp⟩
  | k + 1 => by
    obtain ⟨n, d, I⟩ := Inv_tbF tx L k
    exact Inv_teB I (itV tx L k)
def toN (tx : Nat → Int) (L : Nat) : Nat := lsN (fun k => decide (teK (tbF tx L k) (itV tx L k) = 0)) (mN tx L) 0
def okR (tx : Nat → Int) (L : Nat) : Bool := decide (tokK tx L (aF tx L (mN tx L)) = 0)
def rdR (tx : Nat → Int) (L : Nat) : Int := if okR tx L = true then (if toN tx L = mN tx L then (mN tx L : Int) else -1000 - (toN tx L : Int)) else -10 - (ftI tx L (aF tx L (mN tx L)) : Int)
def bRd (b tx : Nat → Int) (L : Nat) : Nat → Int := if okR tx L = true ∧ toN tx L = mN tx L then tbF tx L (mN tx L) else b
theorem zup_self {α : Type} (f : Nat → α) {k : Nat} {v : α} (h : f k = v) : zup f k v = f := by
  funext j; unfold zup; split
  · rename_i e; subst e; exact h.symm
  · rfl
theorem rfC_q (rf : Nat → Int) (k : Nat) : rfC true rf k = rf := by
  unfold rfC
  split
  · rfl
  · unfold rfU; rw [if_pos rfl]; exact zup_self rf (by omega)
theorem mN_good {tx : Nat → Int} {L : Nat} {j : Nat} (h : j < mN tx L) : gdI tx L (aF tx L j) = true := lsN_in _ 41 0 j (Nat.zero_le j) h
theorem mN_le {tx : Nat → Int} {L : Nat} (hL : L ≤ 200) : mN tx L ≤ 40 := by
  have h1 := aF_ge (tx := tx) (L := L) (mN tx L) (fun j hj => mN_good hj)
  have h2 := aF_le tx L (mN tx L)
  omega
theorem gd_parts {tx : Nat → Int} {L a : Nat} (h : gdI tx L a = true) : 4 ≤ tokK tx L a ∧ (∀ k, k < nKw (tokK tx L a) → tokK tx L (posF tx L a (k + 1)) = 2) := by
  unfold gdI at h
  rw [Bool.and_eq_true, Bool.and_eq_true, decide_eq_true_iff, decide_eq_true_iff, allF_iff] at h
  exact ⟨h.1, fun k hk => of_decide_eq_true (h.2.1 k hk)⟩
theorem itV_r {tx : Nat → Int} {L m j : Nat} (ht : ∀ j, j < L → 0 ≤ tx j ∧ tx j ≤ 255) (h : gdI tx L (aF tx L m) = true) (h1 : 1 ≤ j) (h2 : j ≤ nKw (tokK tx L (aF tx L m))) : 0 ≤ itV tx L m j ∧ itV tx L m j ≤ 9999 := by
  obtain ⟨k, rfl⟩ : ∃ k, j = k + 1 := ⟨j - 1, by omega⟩
  have h3 := (gd_parts h).2 k (by omega)
  have h4 := tokV_r ht h3
  unfold itV; rw [if_neg (by omega)]; omega
theorem itV_0 {tx : Nat → Int} {L m : Nat} (h : gdI tx L (aF tx L m) = true) : itV tx L m 0 = ((tokK tx L (aF tx L m) : Nat) : Int) - 4 ∧ 0 ≤ itV tx L m 0 ∧ itV tx L m 0 ≤ 2 ∧ nKw (tokK tx L (aF tx L m)) = (if itV tx L m 0 = 0 then 3 else if itV tx L m 0 = 1 then 4 else 2) := by
  have h1 := (gd_parts h).1
  have h2 := tokK_r tx L (aF tx L m)
  have h3 := nKw_r (tokK tx L (aF tx L m))
  have e : itV tx L m 0 = ((tokK tx L (aF tx L m) - 4 : Nat) : Int) := rfl
  rw [e]
  refine ⟨by omega, by omega, by omega, ?_⟩
  split
  · omega
  · split <;> omega
theorem te_congr {b : Nat → Int} {it it' : Nat → Int} (h : ∀ j, j ≤ (if it 0 = 0 then 3 else if it 0 = 1 then 4 else 2) → it j = it' j) : teK b it = teK b it' ∧ teB b it = teB b it' := by
  have h0 := h 0 (Nat.zero_le _)
  unfold teK teB
  by_cases e0 : it 0 = 0
  · rw [if_pos e0] at h
    rw [if_pos e0, if_pos (by omega), if_pos e0, if_pos (by omega), h 1 (by omega), h 2 (by omega), h 3 (by omega)]; exact ⟨rfl, rfl⟩
  · rw [if_neg e0] at h
    rw [if_neg e0, if_neg (c := it' 0 = 0) (by omega), if_neg e0, if_neg (c := it' 0 = 0) (by omega)]
    by_cases e1 : it 0 = 1
    · rw [if_pos e1] at h
      rw [if_pos e1, if_pos (by omega), if_pos e1, if_pos (by omega), h 1 (by omega), h 2 (by omega), h 3 (by omega), h 4 (by omega)]; exact ⟨rfl, rfl⟩
    · rw [if_neg e1] at h
      rw [if_neg e1, if_neg (by omega), if_neg e1, if_neg (by omega), h 1 (by omega), h 2 (by omega)]; exact ⟨rfl, rfl⟩
theorem teB_bad {b it : Nat → Int} (h : teK b it ≠ 0) : teB b it = b := by
  unfold teK at h
  unfold teB bH bO bD
  split at h
  · rename_i e; rw [if_pos e, if_neg h]
  · rename_i e; rw [if_neg e]
    split at h
    · rename_i e1; rw [if_pos e1, if_neg h]
    · rename_i e1; rw [if_neg e1, if_neg h]
/-! bytes that come to the text -/
def byI (v : Int64) (k : Nat) : Int := ((v >>> ((zI ((8 * k : Nat) : Int)).toInt64 &&& 63)) &&& zL 255).toInt32.toInt
theorem byI_z (v : Int64) (k : Nat) : ((v >>> ((zI ((8 * k : Nat) : Int)).toInt64 &&& 63)) &&& zL 255).toInt32 = zI (byI v k) := (Int32.ofInt_toInt _).symm
theorem byI_c (v : Int64) (k : Nat) : (v >>> ((zI ((8 * k : Nat) : Int)).toInt64 &&& 63)).toInt32 &&& zI 255 = zI (byI v k) := by
  rw [← byI_z, Int64.toInt32_and]; rfl
theorem byI_r (v : Int64) (k : Nat) : 0 ≤ byI v k ∧ byI v k ≤ 255 := by
  obtain ⟨j, hj, e⟩ := pk_andE ((v >>> ((zI ((8 * k : Nat) : Int)).toInt64 &&& 63)).toInt32) (m := 255) 8 (by decide)
  have h := byI_c v k
  rw [show zI 255 = (255 : Int32) from rfl, e] at h
  have h2 : (nI j).toInt = (zI (byI v k)).toInt := by rw [h]
  rw [nI_toInt (by omega)] at h2
  have h3 : (zI (byI v k)).toInt = byI v k := by unfold byI zI; rw [Int32.ofInt_toInt]
  omega
def tyT (tx : Nat → Int) (L : Nat) (v : Int64) (n : Nat) : Nat → Int := fun j => if L ≤ j ∧ j < L + n then byI v (n - 1 - (j - L)) else tx j
def kY (L : Nat) (n : Int) : Nat := if 1 ≤ n ∧ n ≤ 8 then (if 200 < (L : Int) + n then 3 else 0) else 1
