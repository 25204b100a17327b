/-- one's ear, made ready -/
def tAt (ear own left : Nat) (asleep : Bool) (whistled came : Nat) : Bool :=
  if asleep = true then false
  else if ear = 4 then decide (whistled = own)
  else if came = 1 ∨ left = 1 then false
  else if ear = 1 then decide (lispN came = lispN left)
  else if ear = 3 then decide (lispN came = lispN left ∨ (came % 4 = left % 4 ∧ notesN came = notesN left))
  else if ear = 2 ∨ ear = 5 then decide (came = left ∨ came / 4 = left ∨ came / 16 = left ∨ came / 64 = left ∨ came / 256 = left)
  else decide (came = left)
theorem begins_front {c l : Nat} (hc : vt c) (hl : vt l) : (c = l ∨ c / 4 = l ∨ c / 16 = l ∨ c / 64 = l ∨ c / 256 = l) ↔ (notesN l ≤ notesN c ∧ frontN c (notesN l) = l) := by
  have hcn := notes_vt c (vt_lt hc) hc
  have hln := notes_vt l (vt_lt hl) hl
  have D := div_vt c (vt_lt hc) hc
  have key : ∀ k : Nat, k < 5 → c / 4 ^ k = l → notesN l ≤ notesN c ∧ frontN c (notesN l) = l := by
    intro k hk h
    obtain ⟨d1, d2, d3⟩ := D k (by omega)
    have hkn : k < notesN c := by
      rcases Nat.lt_trichotomy k (notesN c) with h1 | h1 | h1
      · exact h1
      · have := d2 h1; rw [h] at this; unfold vt at hl; omega
      · have := d3 h1; rw [h] at this; unfold vt at hl; omega
    have e := (d1 hkn).2
    rw [h] at e
    refine ⟨by omega, ?_⟩
    unfold frontN
    rw [e, show notesN c - (notesN c - k) = k by omega]
    exact h
  constructor
  · rintro (h | h | h | h | h)
    · exact key 0 (by omega) (by simpa using h)
    · exact key 1 (by omega) h
    · exact key 2 (by omega) h
    · exact key 3 (by omega) h
    · exact key 4 (by omega) h
  · rintro ⟨h1, h2⟩
    unfold frontN at h2
    have h3 : notesN c - notesN l < 5 := by omega
    generalize notesN c - notesN l = k at h2 h3
    match k, h3 with
    | 0, _ => exact Or.inl (by simpa using h2)
    | 1, _ => exact Or.inr (Or.inl h2)
    | 2, _ => exact Or.inr (Or.inr (Or.inl h2))
    | 3, _ => exact Or.inr (Or.inr (Or.inr (Or.inl h2)))
    | 4, _ => exact Or.inr (Or.inr (Or.inr (Or.inr h2)))
theorem tAt_turns {ear own tune wind : Nat} (he : ear < 6) (hown : vt own) (htune : vt tune) (hw : wind < 4) : tAt ear own (leftN (if ear = 2 ∨ ear = 5 then halfN own else own) wind) (decide (ear = 5 ∧ 1 < wind)) tune (leftN tune wind) = turnsN ear own tune wind := by
  have h1 := left_vt tune (vt_lt htune) htune wind hw
  have hh := half_vt own (vt_lt hown) hown
  have h2 := left_vt _ (vt_lt hh) hh wind hw
  have B : ∀ c l : Nat, (c = 1 ∨ vt c) → (l = 1 ∨ vt l) → ¬ (c = 1 ∨ l = 1) → (decide (c = l ∨ c / 4 = l ∨ c / 16 = l ∨ c / 64 = l ∨ c / 256 = l) = decide (notesN l ≤ notesN c ∧ frontN c (notesN l) = l)) := by
    intro c l a b n
    exact decide_eq_decide.mpr (begins_front (a.resolve_left (fun h => n (Or.inl h))) (b.resolve_left (fun h => n (Or.inr h))))
  have B' := B _ _ h1 h2
  unfold tAt turnsN
  rw [show leftN (if ear = 2 ∨ ear = 5 then halfN own else own) wind = if ear = 2 ∨ ear = 5 then leftN (halfN own) wind else leftN own wind by split <;> rfl]
  generalize leftN tune wind = c at *
  generalize leftN own wind = o at *
  generalize leftN (halfN own) wind = p at *
  have hcases : ear = 0 ∨ ear = 1 ∨ ear = 2 ∨ ear = 3 ∨ ear = 4 ∨ ear = 5 := by omega
  rcases hcases with rfl | rfl | rfl | rfl | rfl | rfl
  · simp
  · simp
  · by_cases n : c = 1 ∨ p = 1
    · simp [n]
    · simp only [n, if_false, false_or, or_false, if_true, true_or, Nat.reduceEqDiff, false_and, decide_false, Bool.false_eq_true]
      exact B' n
  · simp [and_comm]
  · simp [eq_comm]
  · by_cases w1 : 1 < wind
    · simp [w1]
    · by_cases n : c = 1 ∨ p = 1
      · simp [w1, n]
      · simp only [w1, n, if_false, false_or, or_false, if_true, or_true, Nat.reduceEqDiff, and_false, decide_false, Bool.false_eq_true]
        exact B' n
section TA
variable {ear own lf whi came : Nat} {asl : Bool}
theorem tAt_s (a : asl = true) : tAt ear own lf asl whi came = false := by subst a; rfl
theorem tAt_b (a : asl = false) (e : ear = 4) : tAt ear own lf asl whi came = decide (whi = own) := by subst a; subst e; rfl
theorem tAt_n (a : asl = false) (e : ear ≠ 4) (n : came = 1 ∨ lf = 1) : tAt ear own lf asl whi came = false := by subst a; simp [tAt, e, n]
theorem tAt_l (a : asl = false) (c1 : came ≠ 1) (l1 : lf ≠ 1) (e : ear = 1) : tAt ear own lf asl whi came = decide (lispN came = lispN lf) := by subst a; subst e; simp [tAt, c1, l1]
theorem tAt_m (a : asl = false) (c1 : came ≠ 1) (l1 : lf ≠ 1) (e : ear = 3) : tAt ear own lf asl whi came = decide (lispN came = lispN lf ∨ (came % 4 = lf % 4 ∧ notesN came = notesN lf)) := by subst a; subst e; simp [tAt, c1, l1]
theorem tAt_h (a : asl = false) (c1 : came ≠ 1) (l1 : lf ≠ 1) (e : ear = 2 ∨ ear = 5) : tAt ear own lf asl whi came = decide (came = lf ∨ came / 4 = lf ∨ came / 16 = lf ∨ came / 64 = lf ∨ came / 256 = lf) := by subst a; rcases e with rfl | rfl <;> simp [tAt, c1, l1]
theorem tAt_p (a : asl = false) (c1 : came ≠ 1) (l1 : lf ≠ 1) (e : ear = 0) : tAt ear own lf asl whi came = decide (came = lf) := by subst a; subst e; simp [tAt, c1, l1]
end TA
theorem notes_15 {t : Nat} (hb : t < 2147483648) : notesN t ≤ 15 := by
  have h := notes_lt hb
  by_cases h3 : 3 < t
  · have e : ∀ (f t : Nat), t < 4 ^ f → nsN f t ≤ f := by
      intro f
      induction f with
      | zero => intro t _; exact Nat.le_refl 0
      | succ f ih =>
        intro t h
        unfold nsN
        split
        · omega
        · have := ih (t / 4) (by rw [Nat.pow_succ] at h; omega)
          omega
    have e2 : ∀ (f t : Nat), 1 ≤ f → t < 2 * 4 ^ f → nsN f t ≤ f := fun f t _ _ => by
      have : ∀ (f t : Nat), nsN f t ≤ f := by
        intro f
        induction f with
        | zero => intro t; exact Nat.le_refl 0
        | succ f ih =>
          intro t
          unfold nsN
          split
          · omega
          · have := ih (t / 4)
            omega
      exact this f t
    have key : ∀ (f t : Nat), t < 2 * 4 ^ f → ∀ g, f ≤ g → nsN g t ≤ f := by
      intro f
      induction f with
      | zero =>
        intro t ht g _
        cases g with
        | zero => exact Nat.le_refl 0
        | succ g => unfold nsN; rw [if_pos (by omega)]; exact Nat.le_refl 0
      | succ f ih =>
        intro t ht g hg
        cases g with
        | zero => omega
        | succ g =>
          unfold nsN
          split
          · omega
          · have := ih (t / 4) (by rw [Nat.pow_succ] at ht; omega) g (by omega)
            omega
    exact key 15 t (by omega) 16 (by omega)
  · have := notes_le3 t (by omega); omega
/-! the model's: one note; of like rows -/
def noteN (t i : Nat) : Nat := t / 4 ^ (notesN t - 1 - i) % 4
def tuneOfN (k : Nat) : Nat := if k < 4 then 4 + k else 12 + k
theorem note_lt (t i : Nat) : noteN t i < 4 := Nat.mod_lt _ (by decide)
section TN
variable {ear own tune wind : Nat}
theorem tN_b (e : ear = 4) : turnsN ear own tune wind = decide (own = tune) := by subst e; rfl
theorem tN_n (e : ear ≠ 4) (n : leftN tune wind = 1 ∨ leftN (if ear = 2 ∨ ear = 5 then halfN own else own) wind = 1 ∨ (ear = 5 ∧ 1 < wind)) : turnsN ear own tune wind = false := by simp only [turnsN, e, if_false, n, if_true]
theorem tN_h (n : ¬ (leftN tune wind = 1 ∨ leftN (if ear = 2 ∨ ear = 5 then halfN own else own) wind = 1 ∨ (ear = 5 ∧ 1 < wind))) (e : ear = 2 ∨ ear = 5) : turnsN ear own tune wind = decide (notesN (leftN (halfN own) wind) ≤ notesN (leftN tune wind) ∧ frontN (leftN tune wind) (notesN (leftN (halfN own) wind)) = leftN (halfN own) wind) := by
  have h4 : ear ≠ 4 := by omega
  unfold turnsN; rw [if_neg h4, if_neg n, if_pos e]
theorem tN_p (n : ¬ (leftN tune wind = 1 ∨ leftN (if ear = 2 ∨ ear = 5 then halfN own else own) wind = 1 ∨ (ear = 5 ∧ 1 < wind))) (e : ear = 0) : turnsN ear own tune wind = decide (leftN tune wind = leftN own wind) := by
  have h4 : ear ≠ 4 := by omega
  have h2 : ¬ (ear = 2 ∨ ear = 5) := by omega
  unfold turnsN; rw [if_neg h4, if_neg n, if_neg h2, if_pos e]
theorem tN_l (n : ¬ (leftN tune wind = 1 ∨ leftN (if ear = 2 ∨ ear = 5 then halfN own else own) wind = 1 ∨ (ear = 5 ∧ 1 < wind))) (e4 : ear ≠ 4) (e2 : ¬ (ear = 2 ∨ ear = 5)) (e0 : ear ≠ 0) : turnsN ear own tune wind = decide (lispN (leftN tune wind) = lispN (leftN own wind) ∨ (ear = 3 ∧ notesN (leftN tune wind) = notesN (leftN own wind) ∧ leftN tune wind % 4 = leftN own wind % 4)) := by
  unfold turnsN; rw [if_neg e4, if_neg n, if_neg e2, if_neg e0]
end TN
