/-! WORD: relaxing every pair in turn, step by step; after enough rounds nothing changes -/
def gX (tk : Nat → Nat → Nat) (n : Nat) (F0 : Nat → Int) : Nat → (Nat → Int)
  | 0 => F0
  | t + 1 => zup (gX tk n F0 t) (t % n) (min (gX tk n F0 t (t / n % n) + (tk (t / n % n) (t % n) : Int)) (gX tk n F0 t (t % n)))
def wd0 (fr : Nat) : Nat → Int := fun p => if p = fr then 0 else 100000
theorem gX_y (tk : Nat → Nat → Nat) (n : Nat) (F0 : Nat → Int) (t : Nat) : gX tk n F0 (t + 1) (t % n) = min (gX tk n F0 t (t / n % n) + (tk (t / n % n) (t % n) : Int)) (gX tk n F0 t (t % n)) := zup_s _ _ _
theorem gX_o (tk : Nat → Nat → Nat) (n : Nat) (F0 : Nat → Int) (t : Nat) {z : Nat} (h : z ≠ t % n) : gX tk n F0 (t + 1) z = gX tk n F0 t z := zup_n _ _ h
theorem gX_le (tk : Nat → Nat → Nat) (n : Nat) (F0 : Nat → Int) (t z : Nat) : gX tk n F0 (t + 1) z ≤ gX tk n F0 t z := by
  by_cases h : z = t % n
  · subst h; rw [gX_y]; omega
  · rw [gX_o _ _ _ _ h]; exact Int.le_refl _
theorem gX_mono (tk : Nat → Nat → Nat) (n : Nat) (F0 : Nat → Int) (z s : Nat) : ∀ k, gX tk n F0 (s + k) z ≤ gX tk n F0 s z
  | 0 => Int.le_refl _
  | k + 1 => Int.le_trans (gX_le tk n F0 (s + k) z) (gX_mono tk n F0 z s k)
theorem gX_mono' (tk : Nat → Nat → Nat) (n : Nat) (F0 : Nat → Int) (z : Nat) {s t : Nat} (h : s ≤ t) : gX tk n F0 t z ≤ gX tk n F0 s z := by
  have := gX_mono tk n F0 z s (t - s)
  rwa [show s + (t - s) = t by omega] at this
theorem gX_rl (tk : Nat → Nat → Nat) (n : Nat) (F0 : Nat → Int) (t : Nat) : gX tk n F0 (t + 1) (t % n) ≤ gX tk n F0 t (t / n % n) + (tk (t / n % n) (t % n) : Int) := by rw [gX_y]; omega
/-- the last time that one changed -/
theorem gX_last (tk : Nat → Nat → Nat) (n : Nat) (F0 : Nat → Int) (x s : Nat) : ∀ k, gX tk n F0 (s + k) x < gX tk n F0 s x → ∃ u, s ≤ u ∧ u < s + k ∧ gX tk n F0 (u + 1) x < gX tk n F0 u x ∧ gX tk n F0 (u + 1) x = gX tk n F0 (s + k) x
  | 0, h => absurd h (Int.lt_irrefl _)
  | k + 1, h => by
    by_cases hc : gX tk n F0 (s + k + 1) x < gX tk n F0 (s + k) x
    · exact ⟨s + k, by omega, by omega, hc, rfl⟩
    · have e : gX tk n F0 (s + k + 1) x = gX tk n F0 (s + k) x := by have := gX_le tk n F0 (s + k) x; omega
      have h2 : gX tk n F0 (s + k) x < gX tk n F0 s x := by rw [← e]; exact h
      obtain ⟨u, h3, h4, h5, h6⟩ := gX_last tk n F0 x s k h2
      exact ⟨u, h3, by omega, h5, by rw [h6]; exact e.symm⟩
def cnF (P : Nat → Bool) : Nat → Nat
  | 0 => 0
  | k + 1 => cnF P k + (if P k = true then 1 else 0)
theorem cnF_mono {P Q : Nat → Bool} : ∀ k, (∀ z, z < k → P z = true → Q z = true) → cnF P k ≤ cnF Q k
  | 0, _ => Nat.le_refl 0
  | k + 1, h => by
    have h1 := cnF_mono (P := P) (Q := Q) k (fun z hz => h z (by omega))
    show cnF P k + (if P k = true then 1 else 0) ≤ cnF Q k + (if Q k = true then 1 else 0)
    by_cases hp : P k = true
    · rw [if_pos hp, if_pos (h k (by omega) hp)]; omega
    · rw [if_neg hp]; split <;> omega
theorem cnF_more {P Q : Nat → Bool} {y : Nat} : ∀ k, y < k → (∀ z, z < k → P z = true → Q z = true) → P y = false → Q y = true → cnF P k + 1 ≤ cnF Q k
  | 0, hy, _, _, _ => absurd hy (Nat.not_lt_zero _)
  | k + 1, hy, h, hp, hq => by
    show cnF P k + (if P k = true then 1 else 0) + 1 ≤ cnF Q k + (if Q k = true then 1 else 0)
    by_cases e : y = k
    · subst e
      have h1 := cnF_mono (P := P) (Q := Q) y (fun z hz => h z (by omega))
      rw [if_neg (by rw [hp]; decide), if_pos hq]; omega
    · have h1 := cnF_more (P := P) (Q := Q) (y := y) k (by omega) (fun z hz => h z (by omega)) hp hq
      by_cases hpk : P k = true
      · rw [if_pos hpk, if_pos (h k (by omega) hpk)]; omega
      · rw [if_neg hpk]; split <;> omega
theorem cnF_le (P : Nat → Bool) : ∀ k, cnF P k ≤ k
  | 0 => Nat.le_refl 0
  | k + 1 => by have := cnF_le P k; show cnF P k + (if P k = true then 1 else 0) ≤ k + 1; split <;> omega
theorem cnF_lt {P : Nat → Bool} {y k : Nat} (hy : y < k) (hp : P y = false) : cnF P k + 1 ≤ k := by
  have h := cnF_more (P := P) (Q := fun _ => true) (y := y) k hy (fun _ _ _ => rfl) hp rfl
  have := cnF_le (fun _ => true) k
  omega
section WD
variable {tk : Nat → Nat → Nat} {n fr : Nat}
theorem g_fr (ht : ∀ x y, 1 ≤ tk x y) : ∀ t, gX tk n (wd0 fr) t fr = 0 ∧ ∀ z, 0 ≤ gX tk n (wd0 fr) t z
  | 0 => ⟨by show (if fr = fr then (0 : Int) else 100000) = 0; rw [if_pos rfl], fun z => by show (0 : Int) ≤ (if z = fr then (0 : Int) else 100000); split <;> omega⟩
  | t + 1 => by
    obtain ⟨h1, h2⟩ := g_fr ht t
    have h3 : ∀ z, 0 ≤ gX tk n (wd0 fr) (t + 1) z := by
      intro z
      by_cases h : z = t % n
      · subst h; rw [gX_y]; have a := h2 (t / n % n); have b := h2 (t % n); omega
      · rw [gX_o _ _ _ _ h]; exact h2 z
    refine ⟨?_, h3⟩
    have a := gX_le tk n (wd0 fr) t fr
    have b := h3 fr
    omega
theorem g_far (t z : Nat) : gX tk n (wd0 fr) t z ≤ 100000 := by
  have h := gX_mono' tk n (wd0 fr) z (Nat.zero_le t)
  have : gX tk n (wd0 fr) 0 z ≤ 100000 := by show (if z = fr then (0 : Int) else 100000) ≤ 100000; split <;> omega
  omega
theorem g_count (hn : 0 < n) (ht : ∀ x y, 1 ≤ tk x y) : ∀ (s r : Nat), r * (n * n) ≤ s → gX tk n (wd0 fr) (s + 1) (s % n) < gX tk n (wd0 fr) s (s % n) → r + 1 ≤ cnF (fun z => decide (z ≠ fr) && decide (gX tk n (wd0 fr) (s + 1) z ≤ gX tk n (wd0 fr) (s + 1) (s % n))) n := by
  intro s
  induction s using Nat.strongRecOn with
  | ind s ih =>
  intro r hr hc
  have hy : s % n < n := Nat.mod_lt _ hn
  have hyf : s % n ≠ fr := by
    intro e
    rw [e] at hc
    have a := (g_fr (tk := tk) (n := n) (fr := fr) ht s).1
    have b := (g_fr (tk := tk) (n := n) (fr := fr) ht (s + 1)).1
    omega
  have hself : (fun z => decide (z ≠ fr) && decide (gX tk n (wd0 fr) (s + 1) z ≤ gX tk n (wd0 fr) (s + 1) (s % n))) (s % n) = true := by
    simp only [Bool.and_eq_true, decide_eq_true_eq]; exact ⟨hyf, Int.le_refl _⟩
  cases r with
  | zero =>
    have := cnF_more (P := fun _ => false) (Q := fun z => decide (z ≠ fr) && decide (gX tk n (wd0 fr) (s + 1) z ≤ gX tk n (wd0 fr) (s + 1) (s % n))) (y := s % n) n hy (fun z _ h => by cases h) rfl hself
    omega
  | succ r =>
    have e1 : (r + 1) * (n * n) = r * (n * n) + n * n := Nat.succ_mul _ _
    have hs : n * n ≤ s := by omega
    obtain ⟨s', rfl⟩ : ∃ s', s = s' + n * n := ⟨s - n * n, by omega⟩
    have m1 : (s' + n * n) % n = s' % n := Nat.add_mul_mod_self_left s' n n
    have m2 : (s' + n * n) / n = s' / n + n := Nat.add_mul_div_left s' n hn
    have m3 : (s' / n + n) % n = s' / n % n := Nat.add_mod_right _ _
    have h1 := gX_y tk n (wd0 fr) (s' + n * n)
    rw [m1, m2, m3] at h1
    have h2 := gX_rl tk n (wd0 fr) s'
    rw [m1] at hc hself hyf hy ⊢
    have h3 := gX_mono' tk n (wd0 fr) (s' % n) (show s' + 1 ≤ s' + n * n by have := Nat.mul_pos hn hn; omega)
    have h4 : gX tk n (wd0 fr) (s' + n * n) (s' / n % n) < gX tk n (wd0 fr) s' (s' / n % n) := by omega
    have h5 : gX tk n (wd0 fr) (s' + n * n + 1) (s' % n) = gX tk n (wd0 fr) (s' + n * n) (s' / n % n) + (tk (s' / n % n) (s' % n) : Int) := by omega
    have htk := ht (s' / n % n) (s' % n)
    obtain ⟨u, u1, u2, u3, u4⟩ := gX_last tk n (wd0 fr) (s' / n % n) s' (n * n) h4
    have hux : s' / n % n = u % n := by
      by_cases e : s' / n % n = u % n
      · exact e
      · rw [gX_o tk n (wd0 fr) u e] at u3; exact absurd u3 (Int.lt_irrefl _)
    have hih := ih u (by omega) r (by omega) (by rw [← hux]; exact u3)
    rw [← hux, u4] at hih
    refine Nat.le_trans (Nat.succ_le_succ hih) (cnF_more (y := s' % n) n hy (fun z hz hp => ?_) ?_ hself)
    · simp only [Bool.and_eq_true, decide_eq_true_eq] at hp ⊢
      have := gX_mono' tk n (wd0 fr) z (show u + 1 ≤ s' + n * n + 1 by omega)
      exact ⟨hp.1, by omega⟩
    · simp only [Bool.and_eq_false_iff, decide_eq_false_iff_not]
      right
      have := gX_mono' tk n (wd0 fr) (s' % n) (show u + 1 ≤ s' + n * n + 1 by omega)
      omega
theorem g_stable1 (hn : 0 < n) (hf : fr < n) (ht : ∀ x y, 1 ≤ tk x y) {s : Nat} (hs : (n - 1) * (n * n) ≤ s) (z : Nat) : gX tk n (wd0 fr) (s + 1) z = gX tk n (wd0 fr) s z := by
  by_cases h : z = s % n
  · subst h
    have h1 := gX_le tk n (wd0 fr) s (s % n)
    by_cases hc : gX tk n (wd0 fr) (s + 1) (s % n) < gX tk n (wd0 fr) s (s % n)
    · have h2 := g_count hn ht s (n - 1) hs hc
      have h3 := cnF_lt (P := fun z => decide (z ≠ fr) && decide (gX tk n (wd0 fr) (s + 1) z ≤ gX tk n (wd0 fr) (s + 1) (s % n))) (y := fr) (k := n) hf (by simp)
      omega
    · omega
  · exact gX_o tk n (wd0 fr) s h
theorem g_stable (hn : 0 < n) (hf : fr < n) (ht : ∀ x y, 1 ≤ tk x y) {s : Nat} (hs : (n - 1) * (n * n) ≤ s) (z : Nat) : ∀ k, gX tk n (wd0 fr) (s + k) z = gX tk n (wd0 fr) s z
  | 0 => rfl
  | k + 1 => by
    rw [← g_stable hn hf ht hs z k]
    exact g_stable1 hn hf ht (s := s + k) (by omega) z
theorem g_end (hn : 0 < n) (hf : fr < n) (ht : ∀ x y, 1 ≤ tk x y) {s t : Nat} (hs : (n - 1) * (n * n) ≤ s) (hst : (n - 1) * (n * n) ≤ t) (z : Nat) : gX tk n (wd0 fr) s z = gX tk n (wd0 fr) t z := by
  have h1 := g_stable hn hf ht (Nat.le_refl ((n - 1) * (n * n))) z (s - (n - 1) * (n * n))
  have h2 := g_stable hn hf ht (Nat.le_refl ((n - 1) * (n * n))) z (t - (n - 1) * (n * n))
  rw [show (n - 1) * (n * n) + (s - (n - 1) * (n * n)) = s by omega] at h1
  rw [show (n - 1) * (n * n) + (t - (n - 1) * (n * n)) = t by omega] at h2
  rw [h1, h2]
theorem g_fix (hn : 0 < n) (hf : fr < n) (ht : ∀ x y, 1 ≤ tk x y) {s : Nat} (hs : (n - 1) * (n * n) ≤ s) {x y : Nat} (hx : x < n) (hy : y < n) : gX tk n (wd0 fr) s y ≤ gX tk n (wd0 fr) s x + (tk x y : Int) := by
  have m1 : (((n - 1) * n + x) * n + y) % n = y := by rw [Nat.add_comm, Nat.add_mul_mod_self_right]; exact Nat.mod_eq_of_lt hy
  have m2 : (((n - 1) * n + x) * n + y) / n = (n - 1) * n + x := by rw [Nat.add_comm, Nat.add_mul_div_right _ _ hn, Nat.div_eq_of_lt hy, Nat.zero_add]
  have m3 : ((n - 1) * n + x) % n = x := by rw [Nat.add_comm, Nat.add_mul_mod_self_right]; exact Nat.mod_eq_of_lt hx
  have h := gX_rl tk n (wd0 fr) (((n - 1) * n + x) * n + y)
  rw [m1, m2, m3] at h
  have hb : (n - 1) * (n * n) ≤ ((n - 1) * n + x) * n + y := by
    rw [← Nat.mul_assoc, Nat.add_mul]; omega
  rw [g_end hn hf ht hs (Nat.le_succ_of_le hb) y, g_end hn hf ht hs hb x]
  exact h
/-- one who is reached has one ahead of him -/
theorem g_pred (hn : 0 < n) (ht : ∀ x y, 1 ≤ tk x y) (hd : ∀ x, tk x x = 100000) : ∀ t y, y < n → y ≠ fr → gX tk n (wd0 fr) t y < 100000 → ∃ x, x < n ∧ gX tk n (wd0 fr) t x + (tk x y : Int) ≤ gX tk n (wd0 fr) t y
  | 0, y, hy, hyf, h => by
    have : gX tk n (wd0 fr) 0 y = 100000 := by show (if y = fr then (0 : Int) else 100000) = 100000; rw [if_neg hyf]
    omega
  | t + 1, y, hy, hyf, h => by
    by_cases e : y = t % n
    · subst e
      by_cases hc : gX tk n (wd0 fr) (t + 1) (t % n) < gX tk n (wd0 fr) t (t % n)
      · refine ⟨t / n % n, Nat.mod_lt _ hn, ?_⟩
        have h1 := gX_y tk n (wd0 fr) t
        have h2 := gX_le tk n (wd0 fr) t (t / n % n)
        omega
      · have h1 := gX_le tk n (wd0 fr) t (t % n)
        obtain ⟨x, hx, h2⟩ := g_pred hn ht hd t (t % n) hy hyf (by omega)
        have h3 := gX_le tk n (wd0 fr) t x
        exact ⟨x, hx, by omega⟩
    · rw [gX_o tk n (wd0 fr) t e] at h ⊢
      obtain ⟨x, hx, h2⟩ := g_pred hn ht hd t y hy hyf h
      have h3 := gX_le tk n (wd0 fr) t x
      exact ⟨x, hx, by omega⟩
theorem g_last (hn : 0 < n) (hf : fr < n) (ht : ∀ x y, 1 ≤ tk x y) (hd : ∀ x, tk x x = 100000) {s y : Nat} (hs : (n - 1) * (n * n) ≤ s) (hy : y < n) (hyf : y ≠ fr) (h : gX tk n (wd0 fr) s y < 100000) : ∃ x, x < n ∧ gX tk n (wd0 fr) s x + (tk x y : Int) = gX tk n (wd0 fr) s y := by
  obtain ⟨x, hx, h1⟩ := g_pred hn ht hd s y hy hyf h
  have h2 := g_fix hn hf ht hs hx hy
  exact ⟨x, hx, by omega⟩
/-- what is reached is reached by few notes -/
theorem g_small (hn : 0 < n) (ht : ∀ x y, 1 ≤ tk x y) (h5 : ∀ x y, tk x y < 100000 → tk x y ≤ 5) : ∀ t z, gX tk n (wd0 fr) t z < 100000 → gX tk n (wd0 fr) t z ≤ 5 * (t : Int)
  | 0, z, h => by
    have e : gX tk n (wd0 fr) 0 z = if z = fr then (0 : Int) else 100000 := rfl
    rw [e] at h ⊢
    split at h <;> omega
  | t + 1, z, h => by
    by_cases e : z = t % n
    · subst e
      have h1 := gX_y tk n (wd0 fr) t
      by_cases hc : gX tk n (wd0 fr) t (t / n % n) + (tk (t / n % n) (t % n) : Int) < gX tk n (wd0 fr) t (t % n)
      · have h0 := (g_fr (tk := tk) (n := n) (fr := fr) ht t).2 (t / n % n)
        have h2 := g_small hn ht h5 t (t / n % n) (by have := ht (t / n % n) (t % n); omega)
        have h3 := h5 (t / n % n) (t % n) (by omega)
        omega
      · have h2 := g_small hn ht h5 t (t % n) (by omega)
        omega
    · rw [gX_o tk n (wd0 fr) t e] at h ⊢
      have := g_small hn ht h5 t z h
      omega
end WD
def taW (b : Nat → Int) (n wind x y : Nat) : Nat := if (x < n ∧ y < n) ∧ cbN b n wind x y = true then notesN (tN b y) else 100000
theorem taW_N {b : Nat → Int} {n wind x y : Nat} (hx : x < n) (hy : y < n) : taW b n wind x y = taN b n wind x y := by
  unfold taW taN
  by_cases h : cbN b n wind x y = true
  · rw [if_pos ⟨⟨hx, hy⟩, h⟩, if_pos h]
  · rw [if_neg (fun hh => h hh.2), if_neg h]
theorem taW_1 {b : Nat → Int} {n d c : Nat} (I : Inv b n d c) (wind x y : Nat) : 1 ≤ taW b n wind x y := by
  unfold taW
  split
  · rename_i h
    have := (I.t h.1.2).2
    exact (notes_vt _ (vt_lt this) this).1
  · omega
theorem taW_5 {b : Nat → Int} {n d c : Nat} (I : Inv b n d c) (wind x y : Nat) (h : taW b n wind x y < 100000) : taW b n wind x y ≤ 5 := by
  unfold taW at h ⊢
  split
  · rename_i h
    have := (I.t h.1.2).2
    exact (notes_vt _ (vt_lt this) this).2
  · rename_i h2; rw [if_neg h2] at h; omega
theorem taW_r {b : Nat → Int} {n d c : Nat} (I : Inv b n d c) (wind x y : Nat) : taW b n wind x y ≤ 100000 := by
  unfold taW
  split
  · rename_i h
    have := (I.t h.1.2).2
    have := (notes_vt _ (vt_lt this) this).2
    omega
  · omega
theorem taW_d (b : Nat → Int) (n wind x : Nat) : taW b n wind x x = 100000 := by
  unfold taW cbN
  rw [if_neg (fun hh => by have := hh.2; simp at this)]
def fwN (b : Nat → Int) (n wind fr t : Nat) : Nat → Int := gX (taW b n wind) n (wd0 fr) t
def kX (n : Nat) (fr to wind what : Int) : Nat := if (0 ≤ fr ∧ fr < (n : Int)) ∧ (0 ≤ to ∧ to < (n : Int)) ∧ fr ≠ to ∧ (0 ≤ wind ∧ wind ≤ 3) ∧ (0 ≤ what ∧ what ≤ 1) then 0 else 1
def lsG (b : Nat → Int) (n wind fr to x : Nat) : Bool := decide (fwN b n wind fr ((7 * n) * n) x + (taW b n wind x to : Int) = fwN b n wind fr ((7 * n) * n) to)
def wdR (b : Nat → Int) (n fr to wind : Nat) (what : Int) : Int := if 100000 ≤ fwN b n wind fr ((7 * n) * n) to then -1 else if what = 0 then fwN b n wind fr ((7 * n) * n) to else leF (lsG b n wind fr to) 0 n
section FW
variable {b : Nat → Int} {n d c : Nat}
theorem fw_r (I : Inv b n d c) (wind fr t z : Nat) : 0 ≤ fwN b n wind fr t z ∧ fwN b n wind fr t z ≤ 100000 := ⟨(g_fr (taW_1 I wind) t).2 z, g_far t z⟩
theorem fw_m1 {r x y : Nat} (hy : y < n) : ((r * n + x) * n + y) % n = y := by rw [Nat.add_comm, Nat.add_mul_mod_self_right]; exact Nat.mod_eq_of_lt hy
theorem fw_m2 {r x y : Nat} (hx : x < n) (hy : y < n) : ((r * n + x) * n + y) / n % n = x := by
  rw [Nat.add_comm, Nat.add_mul_div_right _ _ (by omega), Nat.div_eq_of_lt hy, Nat.zero_add, Nat.add_comm, Nat.add_mul_mod_self_right]; exact Nat.mod_eq_of_lt hx
theorem fw_s {wind fr r x y : Nat} (hx : x < n) (hy : y < n) (z : Nat) : fwN b n wind fr ((r * n + x) * n + (y + 1)) z = if z = y then min (fwN b n wind fr ((r * n + x) * n + y) x + (taW b n wind x y : Int)) (fwN b n wind fr ((r * n + x) * n + y) y) else fwN b n wind fr ((r * n + x) * n + y) z := by
  have h := gX_y (taW b n wind) n (wd0 fr) ((r * n + x) * n + y)
  rw [fw_m1 hy, fw_m2 hx hy] at h
  by_cases e : z = y
  · subst e; rw [if_pos rfl]; exact h
  · rw [if_neg e]; exact gX_o (taW b n wind) n (wd0 fr) ((r * n + x) * n + y) (by rw [fw_m1 hy]; exact e)
theorem seven_n (hn : n ≤ 7) : (n - 1) * (n * n) ≤ (7 * n) * n := by rw [Nat.mul_assoc]; exact Nat.mul_le_mul_right _ (by omega)
end FW
