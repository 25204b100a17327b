/-! THE NAMER'S SEARCH -/
def rwG (b : Nat → Int) (x r i : Nat) : Bool := decide (i = x) || decide (goN b x r i ≠ 0)
def rwF (b : Nat → Int) (n x r : Nat) : Bool := allF (rwG b x r) n
def rwN (b : Nat → Int) (n x : Nat) : Nat := bitF (rwF b n x) 20
def opF (b : Nat → Int) (n p A i r : Nat) : Bool := rwF b n i r && allF (fun q => cpN b q i (dgt p A q) r) p
def opN (b : Nat → Int) (n p A i : Nat) : Nat := bitF (opF b n p A i) 20
def csum (f : Nat → Nat) (p : Nat) : Nat → Nat
  | 0 => 0
  | k + 1 => csum f p k + f (p + k)
def loN (g : Nat → Nat) (i : Nat) : Nat := if g i &&& 15 = 0 then 2 else 1
def lnR (g : Nat → Nat) (p k : Nat) : Nat := if anyF (fun j => decide (g (p + j) = 0)) k = true then 11 else csum (loN g) p k
theorem csum_le {f : Nat → Nat} {p m : Nat} (h : ∀ i, f i ≤ m) : ∀ k, csum f p k ≤ m * k
  | 0 => Nat.zero_le _
  | k + 1 => by
    have := csum_le (f := f) (p := p) h k
    have := h (p + k)
    show csum f p k + f (p + k) ≤ m * (k + 1)
    rw [Nat.mul_succ]; omega
theorem csum_mono {f g : Nat → Nat} {p : Nat} : ∀ k, (∀ j, j < k → f (p + j) ≤ g (p + j)) → csum f p k ≤ csum g p k
  | 0, _ => Nat.le_refl 0
  | k + 1, h => by
    have h1 := csum_mono (f := f) (g := g) (p := p) k (fun j hj => h j (by omega))
    have h2 := h k (by omega)
    show csum f p k + f (p + k) ≤ csum g p k + g (p + k)
    omega
theorem csum_congr {f g : Nat → Nat} {p : Nat} : ∀ k, (∀ j, j < k → f (p + j) = g (p + j)) → csum f p k = csum g p k
  | 0, _ => rfl
  | k + 1, h => by
    show csum f p k + f (p + k) = csum g p k + g (p + k)
    rw [csum_congr k (fun j hj => h j (by omega)), h k (by omega)]
theorem loN_r (g : Nat → Nat) (i : Nat) : 1 ≤ loN g i ∧ loN g i ≤ 2 := by unfold loN; split <;> omega
theorem cA_sum {p : Nat} : ∀ k e, cA (p + k) e = cA p (e / 20 ^ k) + csum (fun i => cN (dgt (p + k) e i)) p k
  | 0, e => by rw [Nat.pow_zero, Nat.div_one]; rfl
  | k + 1, e => by
    have h := cA_sum (p := p) k (e / 20)
    show cA (p + k) (e / 20) + cN (e % 20) = cA p (e / 20 ^ (k + 1)) + (csum (fun i => cN (dgt (p + k + 1) e i)) p k + cN (dgt (p + k + 1) e (p + k)))
    rw [h, dgt_e, Nat.div_div_eq_div_mul, Nat.pow_succ, Nat.mul_comm 20, csum_congr (f := fun i => cN (dgt (p + k) (e / 20) i)) (g := fun i => cN (dgt (p + k + 1) e i)) k (fun j hj => by show cN _ = cN _; rw [dgt_s (by omega)])]
    omega
theorem dgt_pre {n p e q : Nat} (hp : p ≤ n) (hq : q < p) : dgt p (e / 20 ^ (n - p)) q = dgt n e q := by
  unfold dgt
  rw [Nat.div_div_eq_div_mul, ← Nat.pow_add, show n - p + (p - 1 - q) = n - 1 - q by omega]
theorem okA_dig {cp : Nat → Nat → Nat → Nat → Bool} : ∀ n e, okA cp n e = true → ∀ q i, q < i → i < n → cp q i (dgt n e q) (dgt n e i) = true
  | 0, _, _, _, _, _, h => absurd h (Nat.not_lt_zero _)
  | p + 1, e, h, q, i, hq, hi => by
    have h1 : (okA cp p (e / 20) && allF (fun q => cp q p (dgt (p + 1) e q) (e % 20)) p) = true := h
    rw [Bool.and_eq_true] at h1
    by_cases c : i = p
    · subst c; rw [dgt_e]; exact (allF_iff _ _).mp h1.2 q hq
    · rw [dgt_s (by omega), dgt_s (by omega)]; exact okA_dig p (e / 20) h1.1 q i hq (by omega)
theorem ok_bit {b : Nat → Int} {n p A e i : Nat} (hp : p ≤ i) (hi : i < n) (hA : e / 20 ^ (n - p) = A) (h : okA (cpN b) n e = true) : opF b n p A i (dgt n e i) = true := by
  have D := okA_dig n e h
  unfold opF
  rw [Bool.and_eq_true]
  refine ⟨(allF_iff _ _).mpr (fun j hj => ?_), (allF_iff _ _).mpr (fun q hq => ?_)⟩
  · unfold rwG
    by_cases c : j = i
    · rw [decide_eq_true c]; rfl
    · rw [decide_eq_false c, Bool.false_or, decide_eq_true_iff]
      intro h0
      have h1 := bitF_0.mp h0 (dgt n e j) (dgt_lt _ _ _)
      rcases Nat.lt_or_gt_of_ne c with g | g
      · rw [cpN_sym, D j i g hi] at h1; cases h1
      · rw [D i j g hj] at h1; cases h1
  · show cpN b q i (dgt p A q) (dgt n e i) = true
    rw [← hA, dgt_pre (by omega) hq]
    exact D q i (by omega) hi
theorem lo_le {g : Nat → Nat} {i r : Nat} (h : (g i).testBit r = true) : loN g i ≤ cN r := by
  unfold loN cN
  by_cases c : r < 4
  · rw [if_pos c]
    by_cases z : g i &&& 15 = 0
    · exfalso
      have h1 : (g i &&& 15).testBit r = true := by
        rw [Nat.testBit_and, h, show (15 : Nat) = 2 ^ 4 - 1 from rfl, Nat.testBit_two_pow_sub_one, decide_eq_true c]; rfl
      rw [z, Nat.zero_testBit] at h1; cases h1
    · rw [if_neg z]; exact Nat.le_refl 1
  · rw [if_neg c]; split <;> omega
/-- the fewest notes of what is left -/
theorem ln_le {b : Nat → Int} {n p A e : Nat} (hp : p ≤ n) (hA : e / 20 ^ (n - p) = A) (h : okA (cpN b) n e = true) : cA p A + lnR (opN b n p A) p (n - p) ≤ cA n e := by
  have hb : ∀ j, j < n - p → (opN b n p A (p + j)).testBit (dgt n e (p + j)) = true := fun j hj => by
    unfold opN
    rw [bitF_test, decide_eq_true (dgt_lt _ _ _), ok_bit (by omega) (by omega) hA h]; rfl
  have h0 : anyF (fun j => decide (opN b n p A (p + j) = 0)) (n - p) = false := by
    cases q : anyF (fun j => decide (opN b n p A (p + j) = 0)) (n - p) with
    | false => rfl
    | true =>
      obtain ⟨j, hj, hz⟩ := (anyF_iff _ _).mp q
      have := hb j hj
      rw [of_decide_eq_true hz, Nat.zero_testBit] at this; cases this
  have hs := cA_sum (p := p) (n - p) e
  rw [show p + (n - p) = n by omega, hA] at hs
  unfold lnR
  rw [h0, if_neg (by decide), hs]
  exact Nat.add_le_add_left (csum_mono (f := loN (opN b n p A)) (g := fun i => cN (dgt n e i)) (p := p) (n - p) (fun j hj => lo_le (hb j hj))) _
theorem op_next {b : Nat → Int} {n p A u i : Nat} (hu : u < 20) : opN b n p A i &&& goN b p u i = opN b n (p + 1) (A * 20 + u) i := by
  refine bitF_and (fun r _ => ?_)
  show (rwF b n i r && (allF (fun q => cpN b q i (dgt (p + 1) (A * 20 + u) q) r) p && cpN b p i (dgt (p + 1) (A * 20 + u) p) r)) = ((rwF b n i r && allF (fun q => cpN b q i (dgt p A q) r) p) && cpN b p i u r)
  rw [dgt_app_e hu, allF_congr (f := fun q => cpN b q i (dgt (p + 1) (A * 20 + u) q) r) (g := fun q => cpN b q i (dgt p A q) r) p (fun q hq => by show cpN b q i _ r = cpN b q i _ r; rw [dgt_app hu hq]), Bool.and_assoc]
theorem op_0 (b : Nat → Int) (n i : Nat) : opN b n 0 0 i = rwN b n i := bitF_congr 20 (fun r _ => Bool.and_true _)
theorem op_bit {b : Nat → Int} {n p A i u : Nat} (hu : u < 20) : opN b n p A i / 2 ^ u % 2 = 1 ↔ opF b n p A i u = true := by
  unfold opN; rw [bit_1, bitF_test, decide_eq_true hu, Bool.true_and]
/-- the best so far, as the class holds it -/
def BSc (b : Nat → Int) (n E : Nat) (fe : Int) (be : Nat → Int) : Prop := ∃ l : Int, BS (cpN b) n E l be ∧ fe = if l = -1 then 11 else l
theorem BSc.r {b : Nat → Int} {n E : Nat} {fe : Int} {be : Nat → Int} (hn : n ≤ 5) (h : BSc b n E fe be) : 0 ≤ fe ∧ fe ≤ 11 := by
  obtain ⟨l, h1, h2⟩ := h
  have := h1.r
  split at h2 <;> omega
theorem BSc.yes {b : Nat → Int} {n B : Nat} {fe : Int} {be be' : Nat → Int} (h : BSc b n B fe be) (ho : okA (cpN b) n B = true) (hc : ((cA n B : Nat) : Int) < fe) (hb : ∀ i, i < n → be' i = ((dgt n B i : Nat) : Int)) : BSc b n (B + 1) ((cA n B : Nat) : Int) be' := by
  obtain ⟨l, h1, h2⟩ := h
  refine ⟨((cA n B : Nat) : Int), h1.leaf ho ?_ hb, (if_neg (by omega)).symm⟩
  by_cases e : l = -1
  · exact Or.inl e
  · rw [if_neg e] at h2; exact Or.inr (by omega)
theorem BSc.skip {b : Nat → Int} {n p A : Nat} {fe : Int} {be : Nat → Int} (hn : n ≤ 5) (h : BSc b n (A * 20 ^ (n - p)) fe be) (hc : ∀ e, e / 20 ^ (n - p) = A → okA (cpN b) n e = true → fe ≤ ((cA n e : Nat) : Int)) : BSc b n ((A + 1) * 20 ^ (n - p)) fe be := by
  obtain ⟨l, h1, h2⟩ := h
  refine ⟨l, h1.eqE ?_, h2⟩
  rw [Nat.succ_mul]
  refine nm_skip (20 ^ (n - p)) (fun e q1 q2 q3 => ?_)
  have e1 : e / 20 ^ (n - p) = A := by
    rw [← Nat.succ_mul] at q2
    exact Nat.div_eq_of_lt_le q1 q2
  have q4 := hc e e1 q3
  have q5 := cA_le n e
  have hl : l ≠ -1 := fun e => by rw [if_pos e] at h2; omega
  rw [if_neg hl] at h2
  rcases h1 with ⟨_, q6⟩ | ⟨e', q6, q7, _⟩
  · exact absurd q6 hl
  · rw [q6, Int.toNat_natCast]; exact ⟨by omega, by omega⟩
theorem E_0 {n p A : Nat} (h : p < n) : A * 20 ^ (n - p) = (A * 20 + 0) * 20 ^ (n - (p + 1)) := by
  rw [show n - p = (n - (p + 1)) + 1 by omega, Nat.pow_succ]
  show A * (20 ^ (n - (p + 1)) * 20) = A * 20 * 20 ^ (n - (p + 1))
  rw [Nat.mul_comm (20 ^ (n - (p + 1))) 20, Nat.mul_assoc]
theorem E_20 {n p A : Nat} (h : p < n) : (A * 20 + 20) * 20 ^ (n - (p + 1)) = (A + 1) * 20 ^ (n - p) := by
  rw [show n - p = (n - (p + 1)) + 1 by omega, Nat.pow_succ, ← Nat.succ_mul, Nat.mul_assoc, Nat.mul_comm 20]
theorem BSc.none {b : Nat → Int} {n p A u : Nat} {fe : Int} {be : Nat → Int} (hn : n ≤ 5) (hp : p < n) (hu : u < 20) (h : BSc b n ((A * 20 + u) * 20 ^ (n - (p + 1))) fe be) (hb : ¬ opF b n p A p u = true) : BSc b n ((A * 20 + (u + 1)) * 20 ^ (n - (p + 1))) fe be := by
  refine BSc.skip (A := A * 20 + u) hn h (fun e h1 h2 => ?_)
  exfalso
  have e1 : e / 20 ^ (n - p) = A := by
    rw [show n - p = (n - (p + 1)) + 1 by omega, Nat.pow_succ, ← Nat.div_div_eq_div_mul, h1]; omega
  have e2 : dgt n e p = u := by
    have := dgt_pre (e := e) (n := n) (p := p + 1) (q := p) (by omega) (by omega)
    rw [h1, dgt_app_e hu] at this
    exact this.symm
  have := ok_bit (Nat.le_refl p) hp e1 h2
  rw [e2] at this
  exact hb this
theorem BSc.end {b : Nat → Int} {n : Nat} {fe : Int} {be : Nat → Int} (h : BSc b n (20 ^ n) fe be) (hn : n ≤ 5) : (fe < 11 ↔ nmB b n ≠ -1) ∧ (nmB b n ≠ -1 → fe = nmV b n) ∧ ∀ e : Nat, nmB b n = ((e : Nat) : Int) → ∀ i, i < n → be i = ((dgt n e i : Nat) : Int) := by
  obtain ⟨l, h1, h2⟩ := h
  have h3 := h1.fin
  have h4 : nmB b n = -1 ↔ l = -1 := by
    rcases h1 with ⟨q1, q2⟩ | ⟨e, q1, q2, _⟩
    · exact ⟨fun _ => q2, fun _ => q1⟩
    · have q3 : nmB b n = (e : Int) := q1
      exact ⟨fun h => by omega, fun h => by omega⟩
  have h5 := h1.r
  refine ⟨?_, fun h => ?_, h3.2⟩
  · rw [Ne, h4]; split at h2 <;> omega
  · rw [Ne, h4] at h; rw [if_neg h] at h2; rw [h2, h3.1]
theorem rwG_1 {b : Nat → Int} {x r i : Nat} (h : i = x) : rwG b x r i = true := by unfold rwG; rw [decide_eq_true h]; rfl
theorem rwG_2 {b : Nat → Int} {x r i : Nat} (h : goN b x r i ≠ 0) : rwG b x r i = true := by unfold rwG; rw [decide_eq_true h, Bool.or_true]
theorem rwG_3 {b : Nat → Int} {x r i : Nat} (h : i ≠ x) (g : goN b x r i = 0) : rwG b x r i = false := by unfold rwG; rw [decide_eq_false h, decide_eq_false (fun hh => hh g)]; rfl
abbrev P_X2_rowsWithOthers (G : XG) (go : Nat) (ga : Nat → Nat) (b : Nat → Int) (n : Nat) (d : Nat) (c : Nat) (gf : Nat → Nat → Int) (nm : Nat) (na : Nat → Nat) (rd : Bool) (fe : Int) (f1 : Nat → Int) (f2 : Nat → Int) (sw : Nat → Int) (x : Nat) : Option Value → va_W → Prop := fun q ws => q = some (.int (zI ((rwN b n x : Nat) : Int))) ∧ ws = [(nm, nmE na rd fe), (na 0, aI G 480 f1), (na 1, aI G 480 f2), (na 4, aI G 25 sw), (go, goE ga ((n : Nat) : Int) ((d : Nat) : Int) ((c : Nat) : Int)), (ga 0, aI G 36 (gf 0)), (ga 1, aI G 7 (gf 1)), (ga 2, aI G 7 (gf 2)), (ga 3, aI G 7 (gf 3)), (ga 4, aI G 7 (gf 4)), (ga 5, aI G 6 (gf 5)), (ga 6, aI G 6 (gf 6)), (ga 7, aI G 8 (gf 7))]
abbrev W_X2_rowsWithOthers (G : XG) (E : XE) (go : Nat) (ga : Nat → Nat) (b : Nat → Int) (n : Nat) (d : Nat) (c : Nat) (gf : Nat → Nat → Int) (nm : Nat) (na : Nat → Nat) (rd : Bool) (fe : Int) (f1 : Nat → Int) (f2 : Nat → Int) (sw : Nat → Int) (x : Nat) (pc : Nat) (lv : List (Nat × Value)) (st : List Value) (ws : va_W) : Prop := Wx G E (rmL 2) cX2_rowsWithOthers 7 RX2 wsX2_rowsWithOthers (some .int) "rowsWithOthers" 0 0 (P_X2_rowsWithOthers G go ga b n d c gf nm na rd fe f1 f2 sw x) 0 0 pc lv st ws
theorem flX2_rowsWithOthers_40 : Cond.fieldLink RX2 40 (TX0 0).1 (TX0 0).2.1 (TX0 0).2.2.1 ∈ wsX2_rowsWithOthers := by decide +kernel
theorem inX2_rowsWithOthers_X0 : ∀ w ∈ u_ws RX0 TX0 11, w ∈ wsX2_rowsWithOthers := fun _ h => List.mem_cons_of_mem _ (List.mem_append_left _ (List.mem_append_right _ h))
set_option maxHeartbeats 4000000 in
set_option maxRecDepth 100000 in
/-- rowsWithOthers -/
theorem c_X2_rowsWithOthers (G : XG) (go : Nat) (ga : Nat → Nat) (b : Nat → Int) (n d c : Nat) (gf : Nat → Nat → Int) (I : Inv b n d c) (R : GR b n d c gf) (nm : Nat) (na : Nat → Nat) (rd : Bool) (fe : Int) (f1 f2 sw : Nat → Int) (x : Nat) (h5 : n ≤ 5) (hx : x < n) (hsw : ∀ i j, i < n → j < n → sw (i * 5 + j) = wdN b i j) (hT : TB f1 f2) : Con G yX2_rowsWithOthers wsX2_rowsWithOthers (rmL 2) 0 0 [.ref nm, .ref go, .int (zI ((x : Nat) : Int))] ([(nm, nmE na rd fe), (na 0, aI G 480 f1), (na 1, aI G 480 f2), (na 4, aI G 25 sw), (go, goE ga ((n : Nat) : Int) ((d : Nat) : Int) ((c : Nat) : Int)), (ga 0, aI G 36 (gf 0)), (ga 1, aI G 7 (gf 1)), (ga 2, aI G 7 (gf 2)), (ga 3, aI G 7 (gf 3)), (ga 4, aI G 7 (gf 4)), (ga 5, aI G 6 (gf 5)), (ga 6, aI G 6 (gf 6)), (ga 7, aI G 8 (gf 7))]) (P_X2_rowsWithOthers G go ga b n d c gf nm na rd fe f1 f2 sw x) := by
  refine x_start (cc := cX2_rowsWithOthers) (nL := 7) (ret := (some .int)) (by decide) rfl (Nat.le_of_ble_eq_true rfl) (fun E => ?_)
  show W_X2_rowsWithOthers G E go ga b n d c gf nm na rd fe f1 f2 sw x 0 [(0, .ref nm), (1, .ref go), (2, .int (zI ((x : Nat) : Int)))] [] ([(nm, nmE na rd fe), (na 0, aI G 480 f1), (na 1, aI G 480 f2), (na 4, aI G 25 sw), (go, goE ga ((n : Nat) : Int) ((d : Nat) : Int) ((c : Nat) : Int)), (ga 0, aI G 36 (gf 0)), (ga 1, aI G 7 (gf 1)), (ga 2, aI G 7 (gf 2)), (ga 3, aI G 7 (gf 3)), (ga 4, aI G 7 (gf 4)), (ga 5, aI G 6 (gf 5)), (ga 6, aI G 6 (gf 6)), (ga 7, aI G 8 (gf 7))])
  have hn7 := I.n7
  have hd6 := I.d6
  have hc8 := I.c8
  refine x_iconst 1 rfl dX2_rowsWithOthers_0 (z := 0) (by decide) ?_
  refine x_istore_n 2 rfl (lv' := [(3, .int (zI 0)), (0, .ref nm), (1, .ref go), (2, .int (zI ((x : Nat) : Int)))]) dX2_rowsWithOthers_1 (by decide) rfl ?_
  refine x_iconst 3 rfl dX2_rowsWithOthers_2 (z := 0) (by decide) ?_
  refine x_istore 5 rfl (lv' := [(4, .int (zI 0)), (3, .int (zI 0)), (0, .ref nm), (1, .ref go), (2, .int (zI ((x : Nat) : Int)))]) dX2_rowsWithOthers_3 (by decide) rfl ?_
  have L5 : ∀ (fz5 : Nat) (r : Nat) (hr : r ≤ 20), 20 - r < fz5 → W_X2_rowsWithOthers G E go ga b n d c gf nm na rd fe f1 f2 sw x 5 [(0, .ref nm), (1, .ref go), (2, .int (zI ((x : Nat) : Int))), (3, .int (zI ((bitF (rwF b n x) r : Nat) : Int))), (4, .int (zI ((r : Nat) : Int)))] [] ([(nm, nmE na rd fe), (na 0, aI G 480 f1), (na 1, aI G 480 f2), (na 4, aI G 25 sw), (go, goE ga ((n : Nat) : Int) ((d : Nat) : Int) ((c : Nat) : Int)), (ga 0, aI G 36 (gf 0)), (ga 1, aI G 7 (gf 1)), (ga 2, aI G 7 (gf 2)), (ga 3, aI G 7 (gf 3)), (ga 4, aI G 7 (gf 4)), (ga 5, aI G 6 (gf 5)), (ga 6, aI G 6 (gf 6)), (ga 7, aI G 8 (gf 7))]) := by
    intro fz5
    induction fz5 with
    | zero => intro r hr hf5; exact absurd hf5 (Nat.not_lt_zero _)
    | succ fz5 ih5 =>
      intro r hr hf5
      refine x_iload 7 rfl dX2_rowsWithOthers_5 4 rfl ?_
      refine x_bipush 9 rfl dX2_rowsWithOthers_7 (z := 20) (by decide) ?_
      refine x_icmp_ge 12 rfl (tgt := 86) dX2_rowsWithOthers_9 (by decide) (by omega) (by decide) (fun h9 => ?_) (fun h9 => ?_)
      · skip
        refine x_iload_n 87 rfl dX2_rowsWithOthers_86 3 rfl ?_
        refine x_iret rfl ?_ dX2_rowsWithOthers_87
        obtain rfl : r = 20 := by omega
        exact ⟨rfl, rfl⟩
      · skip
        refine x_iconst 13 rfl dX2_rowsWithOthers_12 (z := 1) (by decide) ?_
        refine x_istore 15 rfl (lv' := [(5, .int (zI 1)), (0, .ref nm), (1, .ref go), (2, .int (zI ((x : Nat) : Int))), (3, .int (zI ((bitF (rwF b n x) r : Nat) : Int))), (4, .int (zI ((r : Nat) : Int)))]) dX2_rowsWithOthers_13 (by decide) rfl ?_
        refine x_iconst 16 rfl dX2_rowsWithOthers_15 (z := 0) (by decide) ?_
        refine x_istore 18 rfl (lv' := [(6, .int (zI 0)), (5, .int (zI 1)), (0, .ref nm), (1, .ref go), (2, .int (zI ((x : Nat) : Int))), (3, .int (zI ((bitF (rwF b n x) r : Nat) : Int))), (4, .int (zI ((r : Nat) : Int)))]) dX2_rowsWithOthers_16 (by decide) rfl ?_
        have L18 : ∀ (fz18 : Nat) (i : Nat) (hi : i ≤ n), n - i < fz18 → W_X2_rowsWithOthers G E go ga b n d c gf nm na rd fe f1 f2 sw x 18 [(0, .ref nm), (1, .ref go), (2, .int (zI ((x : Nat) : Int))), (3, .int (zI ((bitF (rwF b n x) r : Nat) : Int))), (4, .int (zI ((r : Nat) : Int))), (5, .int (zB (allF (rwG b x r) i))), (6, .int (zI ((i : Nat) : Int)))] [] ([(nm, nmE na rd fe), (na 0, aI G 480 f1), (na 1, aI G 480 f2), (na 4, aI G 25 sw), (go, goE ga ((n : Nat) : Int) ((d : Nat) : Int) ((c : Nat) : Int)), (ga 0, aI G 36 (gf 0)), (ga 1, aI G 7 (gf 1)), (ga 2, aI G 7 (gf 2)), (ga 3, aI G 7 (gf 3)), (ga 4, aI G 7 (gf 4)), (ga 5, aI G 6 (gf 5)), (ga 6, aI G 6 (gf 6)), (ga 7, aI G 8 (gf 7))]) := by
          intro fz18
          induction fz18 with
          | zero => intro i hi hf18; exact absurd hf18 (Nat.not_lt_zero _)
          | succ fz18 ih18 =>
            intro i hi hf18
            refine x_iload 20 rfl dX2_rowsWithOthers_18 6 rfl ?_
            refine x_aload_n 21 rfl dX2_rowsWithOthers_20 1 rfl ?_
            refine x_get 24 rfl (v := .int (zI ((n : Nat) : Int))) 4 0 rfl rfl (by decide) inX2_rowsWithOthers_X0 flX2_rowsWithOthers_40 rfl dX2_rowsWithOthers_21 ?_
            refine x_icmp_ge 27 rfl (tgt := 64) dX2_rowsWithOthers_24 (by decide) (by omega) (by omega) (fun h24 => ?_) (fun h24 => ?_)
            · skip
              have hbl := bitF_lt (rwF b n x) r
              have hpr : 2 ^ r ≤ 2 ^ 19 := Nat.pow_le_pow_right (by decide) (by omega)
              have hin : i = n := by omega
              refine x_iload_n 65 rfl dX2_rowsWithOthers_64 3 rfl ?_
              refine x_iload 67 rfl dX2_rowsWithOthers_65 5 rfl ?_
              refine x_bif_eq 70 rfl (tgt := 77) dX2_rowsWithOthers_67 (by decide) (fun h67 => ?_) (fun h67 => ?_)
              · skip
                have h67 : rwF b n x r = false := by rw [hin] at h67; exact h67
                refine x_iconst 78 rfl dX2_rowsWithOthers_77 (z := 0) (by decide) ?_
                refine x_ior 79 rfl dX2_rowsWithOthers_78 (z := (((bitF (rwF b n x) r) ||| 0 : Nat) : Int)) (zI_or (a := (bitF (rwF b n x) r)) (b := 0) (by omega) (by omega)) ?_
                refine x_istore_n 80 rfl (lv' := [(3, .int (zI (((bitF (rwF b n x) r) ||| 0 : Nat) : Int))), (0, .ref nm), (1, .ref go), (2, .int (zI ((x : Nat) : Int))), (4, .int (zI ((r : Nat) : Int))), (5, .int (zB (allF (rwG b x r) i))), (6, .int (zI ((i : Nat) : Int)))]) dX2_rowsWithOthers_79 (by decide) rfl ?_
                refine x_iinc 83 rfl (lv' := [(4, .int (zI ((r + 1 : Nat) : Int))), (3, .int (zI (((bitF (rwF b n x) r) ||| 0 : Nat) : Int))), (0, .ref nm), (1, .ref go), (2, .int (zI ((x : Nat) : Int))), (5, .int (zB (allF (rwG b x r) i))), (6, .int (zI ((i : Nat) : Int)))]) dX2_rowsWithOthers_80 4 rfl (b := ((r + 1 : Nat) : Int)) (by omega) (by decide) rfl ?_
                refine x_goto dX2_rowsWithOthers_83 (tgt := 5) (by decide) ?_
                refine x_lve (congrArg (fun zz : Int => ([(4, .int (zI ((r + 1 : Nat) : Int))), (3, .int (zI zz)), (0, .ref nm), (1, .ref go), (2, .int (zI ((x : Nat) : Int))), (5, .int (zB (allF (rwG b x r) i))), (6, .int (zI ((i : Nat) : Int)))] : List (Nat × Value))) (by first | rw [bitF_t h67] | (rw [bitF_f h67, Nat.or_zero]) : (((bitF (rwF b n x) r) ||| 0 : Nat) : Int) = ((bitF (rwF b n x) (r + 1) : Nat) : Int))) ?_
                refine x_lv [2, 3, 4, 1, 0] rfl ?_
                exact ih5 (r + 1) (by omega) (by omega)
              · skip
                have h67 : rwF b n x r = true := by rw [hin] at h67; exact h67
                refine x_iconst 71 rfl dX2_rowsWithOthers_70 (z := 1) (by decide) ?_
                refine x_iload 73 rfl dX2_rowsWithOthers_71 4 rfl ?_
                refine x_ishl 74 rfl dX2_rowsWithOthers_73 (z := ((2 ^ r : Nat) : Int)) (zI_shl1 (i := r) (by omega)) ?_
                refine x_goto dX2_rowsWithOthers_74 (tgt := 78) (by decide) ?_
                refine x_ior 79 rfl dX2_rowsWithOthers_78 (z := (((bitF (rwF b n x) r) ||| (2 ^ r) : Nat) : Int)) (zI_or (a := (bitF (rwF b n x) r)) (b := (2 ^ r)) (by omega) (by omega)) ?_
                refine x_istore_n 80 rfl (lv' := [(3, .int (zI (((bitF (rwF b n x) r) ||| (2 ^ r) : Nat) : Int))), (0, .ref nm), (1, .ref go), (2, .int (zI ((x : Nat) : Int))), (4, .int (zI ((r : Nat) : Int))), (5, .int (zB (allF (rwG b x r) i))), (6, .int (zI ((i : Nat) : Int)))]) dX2_rowsWithOthers_79 (by decide) rfl ?_
                refine x_iinc 83 rfl (lv' := [(4, .int (zI ((r + 1 : Nat) : Int))), (3, .int (zI (((bitF (rwF b n x) r) ||| (2 ^ r) : Nat) : Int))), (0, .ref nm), (1, .ref go), (2, .int (zI ((x : Nat) : Int))), (5, .int (zB (allF (rwG b x r) i))), (6, .int (zI ((i : Nat) : Int)))]) dX2_rowsWithOthers_80 4 rfl (b := ((r + 1 : Nat) : Int)) (by omega) (by decide) rfl ?_
                refine x_goto dX2_rowsWithOthers_83 (tgt := 5) (by decide) ?_
                refine x_lve (congrArg (fun zz : Int => ([(4, .int (zI ((r + 1 : Nat) : Int))), (3, .int (zI zz)), (0, .ref nm), (1, .ref go), (2, .int (zI ((x : Nat) : Int))), (5, .int (zB (allF (rwG b x r) i))), (6, .int (zI ((i : Nat) : Int)))] : List (Nat × Value))) (by first | rw [bitF_t h67] | (rw [bitF_f h67, Nat.or_zero]) : (((bitF (rwF b n x) r) ||| (2 ^ r) : Nat) : Int) = ((bitF (rwF b n x) (r + 1) : Nat) : Int))) ?_
                refine x_lv [2, 3, 4, 1, 0] rfl ?_
                exact ih5 (r + 1) (by omega) (by omega)
            · skip
              refine x_iload 29 rfl dX2_rowsWithOthers_27 5 rfl ?_
              refine x_bif_eq 32 rfl (tgt := 55) dX2_rowsWithOthers_29 (by decide) (fun h29 => ?_) (fun h29 => ?_)
              · skip
                refine x_iconst 56 rfl dX2_rowsWithOthers_55 (z := 0) (by decide) ?_
                refine x_istore 58 rfl (lv' := [(5, .int (zI 0)), (0, .ref nm), (1, .ref go), (2, .int (zI ((x : Nat) : Int))), (3, .int (zI ((bitF (rwF b n x) r : Nat) : Int))), (4, .int (zI ((r : Nat) : Int))), (6, .int (zI ((i : Nat) : Int)))]) dX2_rowsWithOthers_56 (by decide) rfl ?_
                refine x_iinc 61 rfl (lv' := [(6, .int (zI ((i + 1 : Nat) : Int))), (5, .int (zI 0)), (0, .ref nm), (1, .ref go), (2, .int (zI ((x : Nat) : Int))), (3, .int (zI ((bitF (rwF b n x) r : Nat) : Int))), (4, .int (zI ((r : Nat) : Int)))]) dX2_rowsWithOthers_58 6 rfl (b := ((i + 1 : Nat) : Int)) (by omega) (by decide) rfl ?_
                refine x_goto dX2_rowsWithOthers_61 (tgt := 18) (by decide) ?_
                refine x_lve (congrArg (fun zz : Int32 => ([(6, .int (zI ((i + 1 : Nat) : Int))), (5, .int zz), (0, .ref nm), (1, .ref go), (2, .int (zI ((x : Nat) : Int))), (3, .int (zI ((bitF (rwF b n x) r : Nat) : Int))), (4, .int (zI ((r : Nat) : Int)))] : List (Nat × Value))) (zB_f (by first | exact allF_f1 h29 | exact allF_f2 (rwG_3 (by omega) (by omega))) : (zI 0) = (zB (allF (rwG b x r) (i + 1))))) ?_
                refine x_lv [2, 3, 4, 5, 6, 1, 0] rfl ?_
                exact ih18 (i + 1) (by omega) (by omega)
              · skip
                refine x_iload 34 rfl dX2_rowsWithOthers_32 6 rfl ?_
                refine x_iload_n 35 rfl dX2_rowsWithOthers_34 2 rfl ?_
                refine x_icmp_eq 38 rfl (tgt := 51) dX2_rowsWithOthers_35 (by decide) (by omega) (by omega) (fun h35 => ?_) (fun h35 => ?_)
                · skip
                  refine x_iconst 52 rfl dX2_rowsWithOthers_51 (z := 1) (by decide) ?_
                  refine x_goto dX2_rowsWithOthers_52 (tgt := 56) (by decide) ?_
                  refine x_istore 58 rfl (lv' := [(5, .int (zI 1)), (0, .ref nm), (1, .ref go), (2, .int (zI ((x : Nat) : Int))), (3, .int (zI ((bitF (rwF b n x) r : Nat) : Int))), (4, .int (zI ((r : Nat) : Int))), (6, .int (zI ((i : Nat) : Int)))]) dX2_rowsWithOthers_56 (by decide) rfl ?_
                  refine x_iinc 61 rfl (lv' := [(6, .int (zI ((i + 1 : Nat) : Int))), (5, .int (zI 1)), (0, .ref nm), (1, .ref go), (2, .int (zI ((x : Nat) : Int))), (3, .int (zI ((bitF (rwF b n x) r : Nat) : Int))), (4, .int (zI ((r : Nat) : Int)))]) dX2_rowsWithOthers_58 6 rfl (b := ((i + 1 : Nat) : Int)) (by omega) (by decide) rfl ?_
                  refine x_goto dX2_rowsWithOthers_61 (tgt := 18) (by decide) ?_
                  refine x_lve (congrArg (fun zz : Int32 => ([(6, .int (zI ((i + 1 : Nat) : Int))), (5, .int zz), (0, .ref nm), (1, .ref go), (2, .int (zI ((x : Nat) : Int))), (3, .int (zI ((bitF (rwF b n x) r : Nat) : Int))), (4, .int (zI ((r : Nat) : Int)))] : List (Nat × Value))) (zB_t (allF_t h29 (by first | exact rwG_1 (by omega) | exact rwG_2 (by omega))) : (zI 1) = (zB (allF (rwG b x r) (i + 1))))) ?_
                  refine x_lv [2, 3, 4, 5, 6, 1, 0] rfl ?_
                  exact ih18 (i + 1) (by omega) (by omega)
                · skip
                  refine x_aload_n 39 rfl dX2_rowsWithOthers_38 0 rfl ?_
                  refine x_aload_n 40 rfl dX2_rowsWithOthers_39 1 rfl ?_
                  refine x_iload_n 41 rfl dX2_rowsWithOthers_40 2 rfl ?_
                  refine x_iload 43 rfl dX2_rowsWithOthers_41 4 rfl ?_
                  refine x_iload 45 rfl dX2_rowsWithOthers_43 6 rfl ?_
                  refine x_callV 48 rfl (c_X2_rowsGoingWith G go ga b n d c gf I R nm na rd fe f1 f2 sw x r i (by omega) (by omega) (by omega) (by omega) hsw hT) [0, 1, 2, 3, 4, 5, 6, 7, 8, 9, 10, 11, 12] rfl (by decide) 0 rfl rfl gX2_rowsWithOthers_X2_rowsGoingWith rfl rfl rfl hd_X2_rowsGoingWith ⟨Nat.le_of_ble_eq_true rfl, Nat.le_of_ble_eq_true rfl⟩ (As := [.ref go, .int (zI ((x : Nat) : Int)), .int (zI ((r : Nat) : Int)), .int (zI ((i : Nat) : Int))]) (rest := []) rfl rfl (Nat.le_of_ble_eq_true rfl) dX2_rowsWithOthers_45 ⟨Nat.zero_le _, Nat.zero_le _⟩ (fun v w hq => ?_)
                  obtain ⟨rfl, rfl⟩ := hq
                  refine ⟨rfl, ?_⟩
                  refine x_ws (ws' := [(nm, nmE na rd fe), (na 0, aI G 480 f1), (na 1, aI G 480 f2), (na 4, aI G 25 sw), (go, goE ga ((n : Nat) : Int) ((d : Nat) : Int) ((c : Nat) : Int)), (ga 0, aI G 36 (gf 0)), (ga 1, aI G 7 (gf 1)), (ga 2, aI G 7 (gf 2)), (ga 3, aI G 7 (gf 3)), (ga 4, aI G 7 (gf 4)), (ga 5, aI G 6 (gf 5)), (ga 6, aI G 6 (gf 6)), (ga 7, aI G 8 (gf 7))]) (rfl) ?_
                  have hgl := bitF_20 (fun j => cpN b x i r j)
                  have hgl2 : goN b x r i < 1048576 := hgl
                  refine x_if_eq 51 rfl (tgt := 55) dX2_rowsWithOthers_48 (by decide) (by omega) (fun h48 => ?_) (fun h48 => ?_)
                  · skip
                    refine x_iconst 56 rfl dX2_rowsWithOthers_55 (z := 0) (by decide) ?_
                    refine x_istore 58 rfl (lv' := [(5, .int (zI 0)), (0, .ref nm), (1, .ref go), (2, .int (zI ((x : Nat) : Int))), (3, .int (zI ((bitF (rwF b n x) r : Nat) : Int))), (4, .int (zI ((r : Nat) : Int))), (6, .int (zI ((i : Nat) : Int)))]) dX2_rowsWithOthers_56 (by decide) rfl ?_
                    refine x_iinc 61 rfl (lv' := [(6, .int (zI ((i + 1 : Nat) : Int))), (5, .int (zI 0)), (0, .ref nm), (1, .ref go), (2, .int (zI ((x : Nat) : Int))), (3, .int (zI ((bitF (rwF b n x) r : Nat) : Int))), (4, .int (zI ((r : Nat) : Int)))]) dX2_rowsWithOthers_58 6 rfl (b := ((i + 1 : Nat) : Int)) (by omega) (by decide) rfl ?_
                    refine x_goto dX2_rowsWithOthers_61 (tgt := 18) (by decide) ?_
                    refine x_lve (congrArg (fun zz : Int32 => ([(6, .int (zI ((i + 1 : Nat) : Int))), (5, .int zz), (0, .ref nm), (1, .ref go), (2, .int (zI ((x : Nat) : Int))), (3, .int (zI ((bitF (rwF b n x) r : Nat) : Int))), (4, .int (zI ((r : Nat) : Int)))] : List (Nat × Value))) (zB_f (by first | exact allF_f1 h29 | exact allF_f2 (rwG_3 (by omega) (by omega))) : (zI 0) = (zB (allF (rwG b x r) (i + 1))))) ?_
                    refine x_lv [2, 3, 4, 5, 6, 1, 0] rfl ?_
                    exact ih18 (i + 1) (by omega) (by omega)
                  · skip
                    refine x_iconst 52 rfl dX2_rowsWithOthers_51 (z := 1) (by decide) ?_
                    refine x_goto dX2_rowsWithOthers_52 (tgt := 56) (by decide) ?_
                    refine x_istore 58 rfl (lv' := [(5, .int (zI 1)), (0, .ref nm), (1, .ref go), (2, .int (zI ((x : Nat) : Int))), (3, .int (zI ((bitF (rwF b n x) r : Nat) : Int))), (4, .int (zI ((r : Nat) : Int))), (6, .int (zI ((i : Nat) : Int)))]) dX2_rowsWithOthers_56 (by decide) rfl ?_
                    refine x_iinc 61 rfl (lv' := [(6, .int (zI ((i + 1 : Nat) : Int))), (5, .int (zI 1)), (0, .ref nm), (1, .ref go), (2, .int (zI ((x : Nat) : Int))), (3, .int (zI ((bitF (rwF b n x) r : Nat) : Int))), (4, .int (zI ((r : Nat) : Int)))]) dX2_rowsWithOthers_58 6 rfl (b := ((i + 1 : Nat) : Int)) (by omega) (by decide) rfl ?_
                    refine x_goto dX2_rowsWithOthers_61 (tgt := 18) (by decide) ?_
                    refine x_lve (congrArg (fun zz : Int32 => ([(6, .int (zI ((i + 1 : Nat) : Int))), (5, .int zz), (0, .ref nm), (1, .ref go), (2, .int (zI ((x : Nat) : Int))), (3, .int (zI ((bitF (rwF b n x) r : Nat) : Int))), (4, .int (zI ((r : Nat) : Int)))] : List (Nat × Value))) (zB_t (allF_t h29 (by first | exact rwG_1 (by omega) | exact rwG_2 (by omega))) : (zI 1) = (zB (allF (rwG b x r) (i + 1))))) ?_
                    refine x_lv [2, 3, 4, 5, 6, 1, 0] rfl ?_
                    exact ih18 (i + 1) (by omega) (by omega)
        refine x_lve (congrArg (fun zz : Int32 => ([(6, .int (zI 0)), (5, .int zz), (0, .ref nm), (1, .ref go), (2, .int (zI ((x : Nat) : Int))), (3, .int (zI ((bitF (rwF b n x) r : Nat) : Int))), (4, .int (zI ((r : Nat) : Int)))] : List (Nat × Value))) (rfl : (zI 1) = (zB (allF (rwG b x r) 0)))) ?_
        refine x_lv [2, 3, 4, 5, 6, 1, 0] rfl ?_
        exact L18 _ 0 (by omega) (Nat.lt_succ_self _)
  refine x_lve (congrArg (fun zz : Int => ([(4, .int (zI 0)), (3, .int (zI zz)), (0, .ref nm), (1, .ref go), (2, .int (zI ((x : Nat) : Int)))] : List (Nat × Value))) (rfl : 0 = ((bitF (rwF b n x) 0 : Nat) : Int))) ?_
  refine x_lv [2, 3, 4, 1, 0] rfl ?_
  exact L5 _ 0 (by omega) (Nat.lt_succ_self _)

abbrev P_X2_keepBest (G : XG) (nm : Nat) (na : Nat → Nat) (rd : Bool) (fe : Int) (ch : Nat → Int) (be : Nat → Int) (t : Nat) : Option Value → va_W → Prop := fun r ws => ∃ fe' : Int, ∃ be' : Nat → Int, r = none ∧ ws = [(nm, nmE na rd fe'), (na 6, aI G 5 ch), (na 7, aI G 5 be')] ∧ (((t : Nat) : Int) < fe → fe' = ((t : Nat) : Int) ∧ ∀ i, i < 5 → be' i = ch i) ∧ (fe ≤ ((t : Nat) : Int) → fe' = fe ∧ be' = be)
abbrev W_X2_keepBest (G : XG) (E : XE) (nm : Nat) (na : Nat → Nat) (rd : Bool) (fe : Int) (ch : Nat → Int) (be : Nat → Int) (t : Nat) (pc : Nat) (lv : List (Nat × Value)) (st : List Value) (ws : va_W) : Prop := Wx G E (rmL 1) cX2_keepBest 2 RX2 wsX2_keepBest none "keepBest" 0 0 (P_X2_keepBest G nm na rd fe ch be t) 0 0 pc lv st ws
theorem flX2_keepBest_34 : Cond.fieldLink RX2 34 (TX2 7).1 (TX2 7).2.1 (TX2 7).2.2.1 ∈ wsX2_keepBest := by decide +kernel
theorem flX2_keepBest_37 : Cond.fieldLink RX2 37 (TX2 8).1 (TX2 8).2.1 (TX2 8).2.2.1 ∈ wsX2_keepBest := by decide +kernel
theorem flX2_keepBest_61 : Cond.fieldLink RX2 61 (TX2 9).1 (TX2 9).2.1 (TX2 9).2.2.1 ∈ wsX2_keepBest := by decide +kernel
theorem inX2_keepBest_X2 : ∀ w ∈ u_ws RX2 TX2 10, w ∈ wsX2_keepBest := fun _ h => List.mem_cons_of_mem _ (List.mem_append_right _ h)
theorem wX2_keepBest_ai : Cond.initialized "java/lang/System" ∈ wsX2_keepBest := by decide +kernel
theorem wX2_keepBest_al102 : Cond.methodLink RX2 102 arraycopyName ∈ wsX2_keepBest := by decide +kernel
theorem wX2_keepBest_an : Cond.native arraycopyName ∈ wsX2_keepBest := by decide +kernel
theorem wX2_keepBest_as : Cond.static arraycopyName ∈ wsX2_keepBest := by decide +kernel
set_option maxHeartbeats 4000000 in
set_option maxRecDepth 100000 in
/-- keepBest -/
theorem c_X2_keepBest (G : XG) (nm : Nat) (na : Nat → Nat) (rd : Bool) (fe : Int) (ch be : Nat → Int) (t : Nat) (h1 : 0 ≤ fe ∧ fe ≤ 11) (h2 : t ≤ 100) : Con G yX2_keepBest wsX2_keepBest (rmL 1) 0 0 [.ref nm, .int (zI ((t : Nat) : Int))] ([(nm, nmE na rd fe), (na 6, aI G 5 ch), (na 7, aI G 5 be)]) (P_X2_keepBest G nm na rd fe ch be t) := by
  refine x_start (cc := cX2_keepBest) (nL := 2) (ret := none) (by decide) rfl (Nat.le_of_ble_eq_true rfl) (fun E => ?_)
  show W_X2_keepBest G E nm na rd fe ch be t 0 [(0, .ref nm), (1, .int (zI ((t : Nat) : Int)))] [] ([(nm, nmE na rd fe), (na 6, aI G 5 ch), (na 7, aI G 5 be)])
  refine x_iload_n 1 rfl dX2_keepBest_0 1 rfl ?_
  refine x_aload_n 2 rfl dX2_keepBest_1 0 rfl ?_
  refine x_get 5 rfl (v := .int (zI fe)) 0 9 rfl rfl (by decide) inX2_keepBest_X2 flX2_keepBest_61 rfl dX2_keepBest_2 ?_
  refine x_icmp_ge 8 rfl (tgt := 27) dX2_keepBest_5 (by decide) (by omega) (by omega) (fun h5 => ?_) (fun h5 => ?_)
  · skip
    refine x_vret rfl ?_ dX2_keepBest_27
    exact ⟨_, _, rfl, rfl, (fun h => by omega), (fun _ => ⟨rfl, rfl⟩)⟩
  · skip
    refine x_aload_n 9 rfl dX2_keepBest_8 0 rfl ?_
    refine x_iload_n 10 rfl dX2_keepBest_9 1 rfl ?_
    refine x_put 13 rfl 0 9 rfl rfl (by decide) inX2_keepBest_X2 flX2_keepBest_61 tyX2_ok nmX2 rfl rfl rfl rfl (Nat.le_of_ble_eq_true rfl) (ws' := [(nm, nmE na rd ((t : Nat) : Int)), (na 6, aI G 5 ch), (na 7, aI G 5 be)]) rfl dX2_keepBest_10 ?_
    refine x_aload_n 14 rfl dX2_keepBest_13 0 rfl ?_
    refine x_get 17 rfl (v := .ref (na 6)) 0 7 rfl rfl (by decide) inX2_keepBest_X2 flX2_keepBest_34 rfl dX2_keepBest_14 ?_
    refine x_iconst 18 rfl dX2_keepBest_17 (z := 0) (by decide) ?_
    refine x_aload_n 19 rfl dX2_keepBest_18 0 rfl ?_
    refine x_get 22 rfl (v := .ref (na 7)) 0 8 rfl rfl (by decide) inX2_keepBest_X2 flX2_keepBest_37 rfl dX2_keepBest_19 ?_
    refine x_iconst 23 rfl dX2_keepBest_22 (z := 0) (by decide) ?_
    refine x_iconst 24 rfl dX2_keepBest_23 (z := 5) (by decide) ?_
    refine x_copyi 27 rfl 1 2 0 0 5 rfl rfl ⟨by omega, by omega, by omega⟩ (by omega) (by omega) (by decide) (by decide) wX2_keepBest_al102 wX2_keepBest_an wX2_keepBest_as wX2_keepBest_ai (by decide) (by decide) (ws' := [(nm, nmE na rd ((t : Nat) : Int)), (na 6, aI G 5 ch), (na 7, aI G 5 (zcp ch be 0 0 5))]) rfl dX2_keepBest_24 ?_
    refine x_vret rfl ?_ dX2_keepBest_27
    exact ⟨_, _, rfl, rfl, (fun _ => ⟨rfl, fun i hi => zcp0 hi⟩), (fun h => by omega)⟩

abbrev P_X2_leastNotesFrom (G : XG) (nm : Nat) (na : Nat → Nat) (rd : Bool) (fe : Int) (op : Nat → Int) (g : Nat → Nat) (n : Nat) (p : Nat) : Option Value → va_W → Prop := fun r ws => r = some (.int (zI ((lnR g p (n - p) : Nat) : Int))) ∧ ws = [(nm, nmE na rd fe), (na 5, aI G 30 op)]
abbrev W_X2_leastNotesFrom (G : XG) (E : XE) (nm : Nat) (na : Nat → Nat) (rd : Bool) (fe : Int) (op : Nat → Int) (g : Nat → Nat) (n : Nat) (p : Nat) (pc : Nat) (lv : List (Nat × Value)) (st : List Value) (ws : va_W) : Prop := Wx G E (rmL 0) cX2_leastNotesFrom 6 RX2 wsX2_leastNotesFrom (some .int) "leastNotesFrom" 0 0 (P_X2_leastNotesFrom G nm na rd fe op g n p) 0 0 pc lv st ws
theorem flX2_leastNotesFrom_31 : Cond.fieldLink RX2 31 (TX2 6).1 (TX2 6).2.1 (TX2 6).2.2.1 ∈ wsX2_leastNotesFrom := by decide +kernel
theorem inX2_leastNotesFrom_X2 : ∀ w ∈ u_ws RX2 TX2 10, w ∈ wsX2_leastNotesFrom := fun _ h => List.mem_cons_of_mem _ (List.mem_append_right _ h)
set_option maxHeartbeats 4000000 in
set_option maxRecDepth 100000 in
/-- leastNotesFrom -/
theorem c_X2_leastNotesFrom (G : XG) (nm : Nat) (na : Nat → Nat) (rd : Bool) (fe : Int) (op : Nat → Int) (g : Nat → Nat) (n p : Nat) (h5 : n ≤ 5) (hp : p ≤ n) (hop : ∀ i, p ≤ i → i < n → op (p * 5 + i) = ((g i : Nat) : Int)) (hg : ∀ i, g i < 1048576) : Con G yX2_leastNotesFrom wsX2_leastNotesFrom (rmL 0) 0 0 [.ref nm, .int (zI ((n : Nat) : Int)), .int (zI ((p : Nat) : Int))] ([(nm, nmE na rd fe), (na 5, aI G 30 op)]) (P_X2_leastNotesFrom G nm na rd fe op g n p) := by
  refine x_start (cc := cX2_leastNotesFrom) (nL := 6) (ret := (some .int)) (by decide) rfl (Nat.le_of_ble_eq_true rfl) (fun E => ?_)
  show W_X2_leastNotesFrom G E nm na rd fe op g n p 0 [(0, .ref nm), (1, .int (zI ((n : Nat) : Int))), (2, .int (zI ((p : Nat) : Int)))] [] ([(nm, nmE na rd fe), (na 5, aI G 30 op)])
  refine x_iconst 1 rfl dX2_leastNotesFrom_0 (z := 0) (by decide) ?_
  refine x_istore_n 2 rfl (lv' := [(3, .int (zI 0)), (0, .ref nm), (1, .int (zI ((n : Nat) : Int))), (2, .int (zI ((p : Nat) : Int)))]) dX2_leastNotesFrom_1 (by decide) rfl ?_
  refine x_iload_n 3 rfl dX2_leastNotesFrom_2 3 rfl ?_
  refine x_istore 5 rfl (lv' := [(4, .int (zI ((p : Nat) : Int))), (3, .int (zI 0)), (0, .ref nm), (1, .int (zI ((n : Nat) : Int))), (2, .int (zI ((p : Nat) : Int)))]) dX2_leastNotesFrom_3 (by decide) rfl ?_
  have L5 : ∀ (fz5 : Nat) (j : Nat) (hj : p + j ≤ n) (hk : anyF (fun j => decide (g (p + j) = 0)) j = false), n - j < fz5 → W_X2_leastNotesFrom G E nm na rd fe op g n p 5 [(0, .ref nm), (1, .int (zI ((n : Nat) : Int))), (2, .int (zI ((p : Nat) : Int))), (3, .int (zI ((csum (loN g) p j : Nat) : Int))), (4, .int (zI ((p + j : Nat) : Int)))] [] ([(nm, nmE na rd fe), (na 5, aI G 30 op)]) := by
    intro fz5
    induction fz5 with
    | zero => intro j hj hk hf5; exact absurd hf5 (Nat.not_lt_zero _)
    | succ fz5 ih5 =>
      intro j hj hk hf5
      refine x_iload 7 rfl dX2_leastNotesFrom_5 4 rfl ?_
      refine x_iload_n 8 rfl dX2_leastNotesFrom_7 1 rfl ?_
      refine x_icmp_ge 11 rfl (tgt := 54) dX2_leastNotesFrom_8 (by decide) (by omega) (by omega) (fun h8 => ?_) (fun h8 => ?_)
      · skip
        refine x_iload_n 55 rfl dX2_leastNotesFrom_54 3 rfl ?_
        refine x_iret rfl ?_ dX2_leastNotesFrom_55
        obtain ⟨q, rfl⟩ : ∃ q, n = p + q := ⟨n - p, by omega⟩
        have e : p + q - p = j := by omega
        exact ⟨by rw [e, show lnR g p j = csum (loN g) p j from if_neg (by rw [hk]; decide)], rfl⟩
      · skip
        have hgj := hg (p + j)
        have hcs := csum_le (f := loN g) (p := p) (m := 2) (fun i => (loN_r g i).2) j
        have hal : g (p + j) &&& 15 ≤ 15 := Nat.and_le_right
        refine x_aload_n 12 rfl dX2_leastNotesFrom_11 0 rfl ?_
        refine x_get 15 rfl (v := .ref (na 5)) 0 6 rfl rfl (by decide) inX2_leastNotesFrom_X2 flX2_leastNotesFrom_31 rfl dX2_leastNotesFrom_12 ?_
        refine x_iload_n 16 rfl dX2_leastNotesFrom_15 2 rfl ?_
        refine x_iconst 17 rfl dX2_leastNotesFrom_16 (z := 5) (by decide) ?_
        refine x_imul 18 rfl dX2_leastNotesFrom_17 (z := ((p * 5 : Nat) : Int)) (by omega) ?_
        refine x_iload 20 rfl dX2_leastNotesFrom_18 4 rfl ?_
        refine x_iadd 21 rfl dX2_leastNotesFrom_20 (z := ((p * 5 + (p + j) : Nat) : Int)) (by omega) ?_
        refine x_iald 22 rfl 1 (p * 5 + (p + j)) rfl (⟨by omega, by omega⟩) (by decide) (v := ((g (p + j) : Nat) : Int)) (hop (p + j) (by omega) (by omega)) dX2_leastNotesFrom_21 ?_
        refine x_istore 24 rfl (lv' := [(5, .int (zI ((g (p + j) : Nat) : Int))), (0, .ref nm), (1, .int (zI ((n : Nat) : Int))), (2, .int (zI ((p : Nat) : Int))), (3, .int (zI ((csum (loN g) p j : Nat) : Int))), (4, .int (zI ((p + j : Nat) : Int)))]) dX2_leastNotesFrom_22 (by decide) rfl ?_
        refine x_iload 26 rfl dX2_leastNotesFrom_24 0 rfl ?_
        refine x_if_ne 29 rfl (tgt := 32) dX2_leastNotesFrom_26 (by decide) (by omega) (fun h26 => ?_) (fun h26 => ?_)
        · skip
          refine x_iload_n 33 rfl dX2_leastNotesFrom_32 4 rfl ?_
          refine x_iload 35 rfl dX2_leastNotesFrom_33 0 rfl ?_
          refine x_bipush 37 rfl dX2_leastNotesFrom_35 (z := 15) (by decide) ?_
          refine x_iand 38 rfl dX2_leastNotesFrom_37 (z := ((g (p + j) &&& 15 : Nat) : Int)) (zI_and (a := g (p + j)) (b := 15) (by omega) (by omega)) ?_
          refine x_if_eq 41 rfl (tgt := 45) dX2_leastNotesFrom_38 (by decide) (by omega) (fun h38 => ?_) (fun h38 => ?_)
          · skip
            refine x_iconst 46 rfl dX2_leastNotesFrom_45 (z := 2) (by decide) ?_
            refine x_iadd 47 rfl dX2_leastNotesFrom_46 (z := ((csum (loN g) p j + 2 : Nat) : Int)) (by omega) ?_
            refine x_istore_n 48 rfl (lv' := [(3, .int (zI ((csum (loN g) p j + 2 : Nat) : Int))), (5, .int (zI ((g (p + j) : Nat) : Int))), (0, .ref nm), (1, .int (zI ((n : Nat) : Int))), (2, .int (zI ((p : Nat) : Int))), (4, .int (zI ((p + j : Nat) : Int)))]) dX2_leastNotesFrom_47 (by decide) rfl ?_
            refine x_iinc 51 rfl (lv' := [(4, .int (zI ((p + j + 1 : Nat) : Int))), (3, .int (zI ((csum (loN g) p j + 2 : Nat) : Int))), (5, .int (zI ((g (p + j) : Nat) : Int))), (0, .ref nm), (1, .int (zI ((n : Nat) : Int))), (2, .int (zI ((p : Nat) : Int)))]) dX2_leastNotesFrom_48 5 rfl (b := ((p + j + 1 : Nat) : Int)) (by omega) (by decide) rfl ?_
            refine x_goto dX2_leastNotesFrom_51 (tgt := 5) (by decide) ?_
            refine x_lve (congrArg (fun zz : Int => ([(4, .int (zI ((p + j + 1 : Nat) : Int))), (3, .int (zI zz)), (5, .int (zI ((g (p + j) : Nat) : Int))), (0, .ref nm), (1, .int (zI ((n : Nat) : Int))), (2, .int (zI ((p : Nat) : Int)))] : List (Nat × Value))) (by show _ = ((csum (loN g) p j + loN g (p + j) : Nat) : Int); unfold loN; first | rw [if_pos (by omega)] | rw [if_neg (by omega)] : ((csum (loN g) p j + 2 : Nat) : Int) = ((csum (loN g) p (j + 1) : Nat) : Int))) ?_
            refine x_lve (congrArg (fun zz : Int => ([(4, .int (zI zz)), (3, .int (zI ((csum (loN g) p (j + 1) : Nat) : Int))), (5, .int (zI ((g (p + j) : Nat) : Int))), (0, .ref nm), (1, .int (zI ((n : Nat) : Int))), (2, .int (zI ((p : Nat) : Int)))] : List (Nat × Value))) (by omega : ((p + j + 1 : Nat) : Int) = ((p + (j + 1) : Nat) : Int))) ?_
            refine x_lv [3, 4, 5, 1, 0] rfl ?_
            exact ih5 (j + 1) (by omega) (anyF_f hk (decide_eq_false (by omega))) (by omega)
          · skip
            refine x_iconst 42 rfl dX2_leastNotesFrom_41 (z := 1) (by decide) ?_
            refine x_goto dX2_leastNotesFrom_42 (tgt := 46) (by decide) ?_
            refine x_iadd 47 rfl dX2_leastNotesFrom_46 (z := ((csum (loN g) p j + 1 : Nat) : Int)) (by omega) ?_
            refine x_istore_n 48 rfl (lv' := [(3, .int (zI ((csum (loN g) p j + 1 : Nat) : Int))), (5, .int (zI ((g (p + j) : Nat) : Int))), (0, .ref nm), (1, .int (zI ((n : Nat) : Int))), (2, .int (zI ((p : Nat) : Int))), (4, .int (zI ((p + j : Nat) : Int)))]) dX2_leastNotesFrom_47 (by decide) rfl ?_
            refine x_iinc 51 rfl (lv' := [(4, .int (zI ((p + j + 1 : Nat) : Int))), (3, .int (zI ((csum (loN g) p j + 1 : Nat) : Int))), (5, .int (zI ((g (p + j) : Nat) : Int))), (0, .ref nm), (1, .int (zI ((n : Nat) : Int))), (2, .int (zI ((p : Nat) : Int)))]) dX2_leastNotesFrom_48 5 rfl (b := ((p + j + 1 : Nat) : Int)) (by omega) (by decide) rfl ?_
            refine x_goto dX2_leastNotesFrom_51 (tgt := 5) (by decide) ?_
            refine x_lve (congrArg (fun zz : Int => ([(4, .int (zI ((p + j + 1 : Nat) : Int))), (3, .int (zI zz)), (5, .int (zI ((g (p + j) : Nat) : Int))), (0, .ref nm), (1, .int (zI ((n : Nat) : Int))), (2, .int (zI ((p : Nat) : Int)))] : List (Nat × Value))) (by show _ = ((csum (loN g) p j + loN g (p + j) : Nat) : Int); unfold loN; first | rw [if_pos (by omega)] | rw [if_neg (by omega)] : ((csum (loN g) p j + 1 : Nat) : Int) = ((csum (loN g) p (j + 1) : Nat) : Int))) ?_
            refine x_lve (congrArg (fun zz : Int => ([(4, .int (zI zz)), (3, .int (zI ((csum (loN g) p (j + 1) : Nat) : Int))), (5, .int (zI ((g (p + j) : Nat) : Int))), (0, .ref nm), (1, .int (zI ((n : Nat) : Int))), (2, .int (zI ((p : Nat) : Int)))] : List (Nat × Value))) (by omega : ((p + j + 1 : Nat) : Int) = ((p + (j + 1) : Nat) : Int))) ?_
            refine x_lv [3, 4, 5, 1, 0] rfl ?_
            exact ih5 (j + 1) (by omega) (anyF_f hk (decide_eq_false (by omega))) (by omega)
        · skip
          refine x_bipush 31 rfl dX2_leastNotesFrom_29 (z := 11) (by decide) ?_
          refine x_iret rfl ?_ dX2_leastNotesFrom_31
          exact ⟨by rw [show lnR g p (n - p) = 11 from if_pos ((anyF_iff _ _).mpr ⟨j, by omega, decide_eq_true (by omega)⟩)]; rfl, rfl⟩
  refine x_lve (congrArg (fun zz : Int => ([(4, .int (zI ((p : Nat) : Int))), (3, .int (zI zz)), (0, .ref nm), (1, .int (zI ((n : Nat) : Int))), (2, .int (zI ((p : Nat) : Int)))] : List (Nat × Value))) (rfl : 0 = ((csum (loN g) p 0 : Nat) : Int))) ?_
  refine x_lve (congrArg (fun zz : Int => ([(4, .int (zI zz)), (3, .int (zI ((csum (loN g) p 0 : Nat) : Int))), (0, .ref nm), (1, .int (zI ((n : Nat) : Int))), (2, .int (zI ((p : Nat) : Int)))] : List (Nat × Value))) (rfl : ((p : Nat) : Int) = ((p + 0 : Nat) : Int))) ?_
  refine x_lv [2, 3, 4, 1, 0] rfl ?_
  exact L5 _ 0 (by omega) (rfl) (Nat.lt_succ_self _)

abbrev P_X2_narrow (G : XG) (go : Nat) (ga : Nat → Nat) (b : Nat → Int) (n : Nat) (d : Nat) (c : Nat) (gf : Nat → Nat → Int) (nm : Nat) (na : Nat → Nat) (rd : Bool) (fe : Int) (f1 : Nat → Int) (f2 : Nat → Int) (sw : Nat → Int) (op : Nat → Int) (p : Nat) (A : Nat) (u : Nat) : Option Value → va_W → Prop := fun r ws => ∃ op' : Nat → Int, r = none ∧ ws = [(nm, nmE na rd fe), (na 0, aI G 480 f1), (na 1, aI G 480 f2), (na 4, aI G 25 sw), (na 5, aI G 30 op'), (go, goE ga ((n : Nat) : Int) ((d : Nat) : Int) ((c : Nat) : Int)), (ga 0, aI G 36 (gf 0)), (ga 1, aI G 7 (gf 1)), (ga 2, aI G 7 (gf 2)), (ga 3, aI G 7 (gf 3)), (ga 4, aI G 7 (gf 4)), (ga 5, aI G 6 (gf 5)), (ga 6, aI G 6 (gf 6)), (ga 7, aI G 8 (gf 7))] ∧ (∀ i, p + 1 ≤ i → i < n → op' ((p + 1) * 5 + i) = ((opN b n (p + 1) (A * 20 + u) i : Nat) : Int)) ∧ ∀ j, j < (p + 1) * 5 → op' j = op j
abbrev W_X2_narrow (G : XG) (E : XE) (go : Nat) (ga : Nat → Nat) (b : Nat → Int) (n : Nat) (d : Nat) (c : Nat) (gf : Nat → Nat → Int) (nm : Nat) (na : Nat → Nat) (rd : Bool) (fe : Int) (f1 : Nat → Int) (f2 : Nat → Int) (sw : Nat → Int) (op : Nat → Int) (p : Nat) (A : Nat) (u : Nat) (pc : Nat) (lv : List (Nat × Value)) (st : List Value) (ws : va_W) : Prop := Wx G E (rmL 2) cX2_narrow 6 RX2 wsX2_narrow none "narrow" 0 0 (P_X2_narrow G go ga b n d c gf nm na rd fe f1 f2 sw op p A u) 0 0 pc lv st ws
theorem flX2_narrow_31 : Cond.fieldLink RX2 31 (TX2 6).1 (TX2 6).2.1 (TX2 6).2.2.1 ∈ wsX2_narrow := by decide +kernel
theorem flX2_narrow_40 : Cond.fieldLink RX2 40 (TX0 0).1 (TX0 0).2.1 (TX0 0).2.2.1 ∈ wsX2_narrow := by decide +kernel
theorem inX2_narrow_X0 : ∀ w ∈ u_ws RX0 TX0 11, w ∈ wsX2_narrow := fun _ h => List.mem_cons_of_mem _ (List.mem_append_left _ (List.mem_append_right _ h))
theorem inX2_narrow_X2 : ∀ w ∈ u_ws RX2 TX2 10, w ∈ wsX2_narrow := fun _ h => List.mem_cons_of_mem _ (List.mem_append_right _ h)
set_option maxHeartbeats 4000000 in
set_option maxRecDepth 100000 in
/-- narrow -/
theorem c_X2_narrow (G : XG) (go : Nat) (ga : Nat → Nat) (b : Nat → Int) (n d c : Nat) (gf : Nat → Nat → Int) (I : Inv b n d c) (R : GR b n d c gf) (nm : Nat) (na : Nat → Nat) (rd : Bool) (fe : Int) (f1 f2 sw op : Nat → Int) (p A u : Nat) (h5 : n ≤ 5) (hp : p < n) (hu : u < 20) (hop : ∀ i, p ≤ i → i < n → op (p * 5 + i) = ((opN b n p A i : Nat) : Int)) (hsw : ∀ i j, i < n → j < n → sw (i * 5 + j) = wdN b i j) (hT : TB f1 f2) : Con G yX2_narrow wsX2_narrow (rmL 2) 0 0 [.ref nm, .ref go, .int (zI ((p : Nat) : Int)), .int (zI ((u : Nat) : Int))] ([(nm, nmE na rd fe), (na 0, aI G 480 f1), (na 1, aI G 480 f2), (na 4, aI G 25 sw), (na 5, aI G 30 op), (go, goE ga ((n : Nat) : Int) ((d : Nat) : Int) ((c : Nat) : Int)), (ga 0, aI G 36 (gf 0)), (ga 1, aI G 7 (gf 1)), (ga 2, aI G 7 (gf 2)), (ga 3, aI G 7 (gf 3)), (ga 4, aI G 7 (gf 4)), (ga 5, aI G 6 (gf 5)), (ga 6, aI G 6 (gf 6)), (ga 7, aI G 8 (gf 7))]) (P_X2_narrow G go ga b n d c gf nm na rd fe f1 f2 sw op p A u) := by
  refine x_start (cc := cX2_narrow) (nL := 6) (ret := none) (by decide) rfl (Nat.le_of_ble_eq_true rfl) (fun E => ?_)
  show W_X2_narrow G E go ga b n d c gf nm na rd fe f1 f2 sw op p A u 0 [(0, .ref nm), (1, .ref go), (2, .int (zI ((p : Nat) : Int))), (3, .int (zI ((u : Nat) : Int)))] [] ([(nm, nmE na rd fe), (na 0, aI G 480 f1), (na 1, aI G 480 f2), (na 4, aI G 25 sw), (na 5, aI G 30 op), (go, goE ga ((n : Nat) : Int) ((d : Nat) : Int) ((c : Nat) : Int)), (ga 0, aI G 36 (gf 0)), (ga 1, aI G 7 (gf 1)), (ga 2, aI G 7 (gf 2)), (ga 3, aI G 7 (gf 3)), (ga 4, aI G 7 (gf 4)), (ga 5, aI G 6 (gf 5)), (ga 6, aI G 6 (gf 6)), (ga 7, aI G 8 (gf 7))])
  have hn7 := I.n7
  have hd6 := I.d6
  have hc8 := I.c8
  refine x_iload_n 1 rfl dX2_narrow_0 2 rfl ?_
  refine x_iconst 2 rfl dX2_narrow_1 (z := 1) (by decide) ?_
  refine x_iadd 3 rfl dX2_narrow_2 (z := ((p + 1 : Nat) : Int)) (by omega) ?_
  refine x_istore 5 rfl (lv' := [(4, .int (zI ((p + 1 : Nat) : Int))), (0, .ref nm), (1, .ref go), (2, .int (zI ((p : Nat) : Int))), (3, .int (zI ((u : Nat) : Int)))]) dX2_narrow_3 (by decide) rfl ?_
  have L5 : ∀ (fz5 : Nat) (j : Nat) (o : Nat → Int) (hj : p + 1 + j ≤ n) (ho : ∀ i, p + 1 ≤ i → i < p + 1 + j → o ((p + 1) * 5 + i) = ((opN b n (p + 1) (A * 20 + u) i : Nat) : Int)) (ho2 : ∀ q, q < (p + 1) * 5 → o q = op q), n - j < fz5 → W_X2_narrow G E go ga b n d c gf nm na rd fe f1 f2 sw op p A u 5 [(0, .ref nm), (1, .ref go), (2, .int (zI ((p : Nat) : Int))), (3, .int (zI ((u : Nat) : Int))), (4, .int (zI ((p + 1 + j : Nat) : Int)))] [] ([(nm, nmE na rd fe), (na 0, aI G 480 f1), (na 1, aI G 480 f2), (na 4, aI G 25 sw), (na 5, aI G 30 o), (go, goE ga ((n : Nat) : Int) ((d : Nat) : Int) ((c : Nat) : Int)), (ga 0, aI G 36 (gf 0)), (ga 1, aI G 7 (gf 1)), (ga 2, aI G 7 (gf 2)), (ga 3, aI G 7 (gf 3)), (ga 4, aI G 7 (gf 4)), (ga 5, aI G 6 (gf 5)), (ga 6, aI G 6 (gf 6)), (ga 7, aI G 8 (gf 7))]) := by
    intro fz5
    induction fz5 with
    | zero => intro j o hj ho ho2 hf5; exact absurd hf5 (Nat.not_lt_zero _)
    | succ fz5 ih5 =>
      intro j o hj ho ho2 hf5
      refine x_iload 7 rfl dX2_narrow_5 4 rfl ?_
      refine x_aload_n 8 rfl dX2_narrow_7 1 rfl ?_
      refine x_get 11 rfl (v := .int (zI ((n : Nat) : Int))) 5 0 rfl rfl (by decide) inX2_narrow_X0 flX2_narrow_40 rfl dX2_narrow_8 ?_
      refine x_icmp_ge 14 rfl (tgt := 58) dX2_narrow_11 (by decide) (by omega) (by omega) (fun h11 => ?_) (fun h11 => ?_)
      · skip
        refine x_vret rfl ?_ dX2_narrow_58
        exact ⟨o, rfl, rfl, fun i h1 h2 => ho i h1 (by omega), ho2⟩
      · skip
        have hA := bitF_20 (opF b n p A (p + 1 + j))
        have hA2 : opN b n p A (p + 1 + j) < 1048576 := hA
        have hB := bitF_20 (fun r => cpN b p (p + 1 + j) u r)
        have hB2 : goN b p u (p + 1 + j) < 1048576 := hB
        refine x_aload_n 15 rfl dX2_narrow_14 0 rfl ?_
        refine x_get 18 rfl (v := .ref (na 5)) 0 6 rfl rfl (by decide) inX2_narrow_X2 flX2_narrow_31 rfl dX2_narrow_15 ?_
        refine x_iload_n 19 rfl dX2_narrow_18 2 rfl ?_
        refine x_iconst 20 rfl dX2_narrow_19 (z := 5) (by decide) ?_
        refine x_imul 21 rfl dX2_narrow_20 (z := ((p * 5 : Nat) : Int)) (by omega) ?_
        refine x_iload 23 rfl dX2_narrow_21 4 rfl ?_
        refine x_iadd 24 rfl dX2_narrow_23 (z := ((p * 5 + (p + 1 + j) : Nat) : Int)) (by omega) ?_
        refine x_iald 25 rfl 4 (p * 5 + (p + 1 + j)) rfl (⟨by omega, by omega⟩) (by decide) (v := ((opN b n p A (p + 1 + j) : Nat) : Int)) ((ho2 _ (by omega)).trans (hop (p + 1 + j) (by omega) (by omega))) dX2_narrow_24 ?_
        refine x_aload_n 26 rfl dX2_narrow_25 0 rfl ?_
        refine x_aload_n 27 rfl dX2_narrow_26 1 rfl ?_
        refine x_iload_n 28 rfl dX2_narrow_27 2 rfl ?_
        refine x_iload_n 29 rfl dX2_narrow_28 3 rfl ?_
        refine x_iload 31 rfl dX2_narrow_29 4 rfl ?_
        refine x_callV 34 rfl (c_X2_rowsGoingWith G go ga b n d c gf I R nm na rd fe f1 f2 sw p u (p + 1 + j) (by omega) (by omega) (by omega) (by omega) hsw hT) [0, 1, 2, 3, 5, 6, 7, 8, 9, 10, 11, 12, 13] rfl (by decide) 0 rfl rfl gX2_narrow_X2_rowsGoingWith rfl rfl rfl hd_X2_rowsGoingWith ⟨Nat.le_of_ble_eq_true rfl, Nat.le_of_ble_eq_true rfl⟩ (As := [.ref go, .int (zI ((p : Nat) : Int)), .int (zI ((u : Nat) : Int)), .int (zI ((p + 1 + j : Nat) : Int))]) (rest := [.int (zI ((opN b n p A (p + 1 + j) : Nat) : Int))]) rfl rfl (Nat.le_of_ble_eq_true rfl) dX2_narrow_31 ⟨Nat.zero_le _, Nat.zero_le _⟩ (fun v w hq => ?_)
        obtain ⟨rfl, rfl⟩ := hq
        refine ⟨rfl, ?_⟩
        refine x_ws (ws' := [(nm, nmE na rd fe), (na 0, aI G 480 f1), (na 1, aI G 480 f2), (na 4, aI G 25 sw), (na 5, aI G 30 o), (go, goE ga ((n : Nat) : Int) ((d : Nat) : Int) ((c : Nat) : Int)), (ga 0, aI G 36 (gf 0)), (ga 1, aI G 7 (gf 1)), (ga 2, aI G 7 (gf 2)), (ga 3, aI G 7 (gf 3)), (ga 4, aI G 7 (gf 4)), (ga 5, aI G 6 (gf 5)), (ga 6, aI G 6 (gf 6)), (ga 7, aI G 8 (gf 7))]) (rfl) ?_
        refine x_iand 35 rfl dX2_narrow_34 (z := (((opN b n p A (p + 1 + j)) &&& (goN b p u (p + 1 + j)) : Nat) : Int)) (zI_and (a := (opN b n p A (p + 1 + j))) (b := (goN b p u (p + 1 + j))) (by omega) (by omega)) ?_
        refine x_istore 37 rfl (lv' := [(5, .int (zI (((opN b n p A (p + 1 + j)) &&& (goN b p u (p + 1 + j)) : Nat) : Int))), (0, .ref nm), (1, .ref go), (2, .int (zI ((p : Nat) : Int))), (3, .int (zI ((u : Nat) : Int))), (4, .int (zI ((p + 1 + j : Nat) : Int)))]) dX2_narrow_35 (by decide) rfl ?_
        refine x_aload_n 38 rfl dX2_narrow_37 1 rfl ?_
        refine x_get 41 rfl (v := .ref (na 5)) 0 6 rfl rfl (by decide) inX2_narrow_X2 flX2_narrow_31 rfl dX2_narrow_38 ?_
        refine x_iload_n 42 rfl dX2_narrow_41 3 rfl ?_
        refine x_iconst 43 rfl dX2_narrow_42 (z := 1) (by decide) ?_
        refine x_iadd 44 rfl dX2_narrow_43 (z := ((p + 1 : Nat) : Int)) (by omega) ?_
        refine x_iconst 45 rfl dX2_narrow_44 (z := 5) (by decide) ?_
        refine x_imul 46 rfl dX2_narrow_45 (z := (((p + 1) * 5 : Nat) : Int)) (by omega) ?_
        refine x_iload 48 rfl dX2_narrow_46 5 rfl ?_
        refine x_iadd 49 rfl dX2_narrow_48 (z := (((p + 1) * 5 + (p + 1 + j) : Nat) : Int)) (by omega) ?_
        refine x_iload 51 rfl dX2_narrow_49 0 rfl ?_
        refine x_iast 52 rfl 4 ((p + 1) * 5 + (p + 1 + j)) rfl (⟨by omega, by omega⟩) (by decide) (ws' := [(nm, nmE na rd fe), (na 0, aI G 480 f1), (na 1, aI G 480 f2), (na 4, aI G 25 sw), (na 5, aI G 30 (zup o ((p + 1) * 5 + (p + 1 + j)) (((opN b n p A (p + 1 + j)) &&& (goN b p u (p + 1 + j)) : Nat) : Int))), (go, goE ga ((n : Nat) : Int) ((d : Nat) : Int) ((c : Nat) : Int)), (ga 0, aI G 36 (gf 0)), (ga 1, aI G 7 (gf 1)), (ga 2, aI G 7 (gf 2)), (ga 3, aI G 7 (gf 3)), (ga 4, aI G 7 (gf 4)), (ga 5, aI G 6 (gf 5)), (ga 6, aI G 6 (gf 6)), (ga 7, aI G 8 (gf 7))]) (rfl) dX2_narrow_51 ?_
        refine x_iinc 55 rfl (lv' := [(4, .int (zI ((p + 1 + j + 1 : Nat) : Int))), (5, .int (zI (((opN b n p A (p + 1 + j)) &&& (goN b p u (p + 1 + j)) : Nat) : Int))), (0, .ref nm), (1, .ref go), (2, .int (zI ((p : Nat) : Int))), (3, .int (zI ((u : Nat) : Int)))]) dX2_narrow_52 5 rfl (b := ((p + 1 + j + 1 : Nat) : Int)) (by omega) (by decide) rfl ?_
        refine x_goto dX2_narrow_55 (tgt := 5) (by decide) ?_
        refine x_lve (congrArg (fun zz : Int => ([(4, .int (zI zz)), (5, .int (zI (((opN b n p A (p + 1 + j)) &&& (goN b p u (p + 1 + j)) : Nat) : Int))), (0, .ref nm), (1, .ref go), (2, .int (zI ((p : Nat) : Int))), (3, .int (zI ((u : Nat) : Int)))] : List (Nat × Value))) (by omega : ((p + 1 + j + 1 : Nat) : Int) = ((p + 1 + (j + 1) : Nat) : Int))) ?_
        refine x_lv [2, 3, 4, 5, 0] rfl ?_
        exact ih5 (j + 1) (zup o ((p + 1) * 5 + (p + 1 + j)) (((opN b n p A (p + 1 + j)) &&& (goN b p u (p + 1 + j)) : Nat) : Int)) (by omega) (fun i h1 h2 => by
                    by_cases e : i = p + 1 + j
                    · subst e; rw [zup_s, op_next hu]
                    · rw [zup_n _ _ (by omega)]; exact ho i h1 (by omega)) (fun q hq => by rw [zup_n _ _ (by omega)]; exact ho2 q hq) (by omega)
  refine x_lve (congrArg (fun zz : Int => ([(4, .int (zI zz)), (0, .ref nm), (1, .ref go), (2, .int (zI ((p : Nat) : Int))), (3, .int (zI ((u : Nat) : Int)))] : List (Nat × Value))) (rfl : ((p + 1 : Nat) : Int) = ((p + 1 + 0 : Nat) : Int))) ?_
  refine x_lv [1, 2, 3, 4, 0] rfl ?_
  exact L5 _ 0 op (by omega) (fun i h1 h2 => absurd h1 (by omega)) (fun q _ => rfl) (Nat.lt_succ_self _)

abbrev P_X2_choose (G : XG) (go : Nat) (ga : Nat → Nat) (b : Nat → Int) (n : Nat) (d : Nat) (c : Nat) (gf : Nat → Nat → Int) (nm : Nat) (na : Nat → Nat) (rd : Bool) (fe : Int) (f1 : Nat → Int) (f2 : Nat → Int) (sw : Nat → Int) (op : Nat → Int) (ch : Nat → Int) (be : Nat → Int) (p : Nat) (A : Nat) : Option Value → va_W → Prop := fun r ws => ∃ fe' : Int, ∃ op' ch' be' : Nat → Int, r = none ∧ ws = [(nm, nmE na rd fe'), (na 0, aI G 480 f1), (na 1, aI G 480 f2), (na 4, aI G 25 sw), (na 5, aI G 30 op'), (na 6, aI G 5 ch'), (na 7, aI G 5 be'), (go, goE ga ((n : Nat) : Int) ((d : Nat) : Int) ((c : Nat) : Int)), (ga 0, aI G 36 (gf 0)), (ga 1, aI G 7 (gf 1)), (ga 2, aI G 7 (gf 2)), (ga 3, aI G 7 (gf 3)), (ga 4, aI G 7 (gf 4)), (ga 5, aI G 6 (gf 5)), (ga 6, aI G 6 (gf 6)), (ga 7, aI G 8 (gf 7))] ∧ BSc b n ((A + 1) * 20 ^ (n - p)) fe' be' ∧ (∀ j, j < (p + 1) * 5 → op' j = op j) ∧ ∀ q, q < p → ch' q = ch q
abbrev W_X2_choose (G : XG) (E : XE) (go : Nat) (ga : Nat → Nat) (b : Nat → Int) (n : Nat) (d : Nat) (c : Nat) (gf : Nat → Nat → Int) (nm : Nat) (na : Nat → Nat) (rd : Bool) (fe : Int) (f1 : Nat → Int) (f2 : Nat → Int) (sw : Nat → Int) (op : Nat → Int) (ch : Nat → Int) (be : Nat → Int) (p : Nat) (A : Nat) (k : Nat) (pc : Nat) (lv : List (Nat × Value)) (st : List Value) (ws : va_W) : Prop := Wx G E (rmL (k + 3)) cX2_choose 6 RX2 wsX2_choose none "choose" 0 0 (P_X2_choose G go ga b n d c gf nm na rd fe f1 f2 sw op ch be p A) 0 0 pc lv st ws
def ChP (G : XG) (k : Nat) : Prop := ∀ (go : Nat) (ga : Nat → Nat) (b : Nat → Int) (n d c : Nat) (gf : Nat → Nat → Int) (I : Inv b n d c) (R : GR b n d c gf) (nm : Nat) (na : Nat → Nat) (rd : Bool) (fe : Int) (f1 f2 sw op ch be : Nat → Int) (p A : Nat) (h5n : n ≤ 5) (hp : p ≤ n) (hok : okA (cpN b) p A = true) (hch : ∀ q, q < p → ch q = ((dgt p A q : Nat) : Int)) (hop : ∀ i, p ≤ i → i < n → op (p * 5 + i) = ((opN b n p A i : Nat) : Int)) (hsw : ∀ i j, i < n → j < n → sw (i * 5 + j) = wdN b i j) (hT : TB f1 f2) (hB : BSc b n (A * 20 ^ (n - p)) fe be)  (hk : n ≤ p + k), Con G yX2_choose wsX2_choose (rmL (k + 3)) 0 0 [.ref nm, .ref go, .int (zI ((p : Nat) : Int)), .int (zI ((cA p A : Nat) : Int))] ([(nm, nmE na rd fe), (na 0, aI G 480 f1), (na 1, aI G 480 f2), (na 4, aI G 25 sw), (na 5, aI G 30 op), (na 6, aI G 5 ch), (na 7, aI G 5 be), (go, goE ga ((n : Nat) : Int) ((d : Nat) : Int) ((c : Nat) : Int)), (ga 0, aI G 36 (gf 0)), (ga 1, aI G 7 (gf 1)), (ga 2, aI G 7 (gf 2)), (ga 3, aI G 7 (gf 3)), (ga 4, aI G 7 (gf 4)), (ga 5, aI G 6 (gf 5)), (ga 6, aI G 6 (gf 6)), (ga 7, aI G 8 (gf 7))]) (P_X2_choose G go ga b n d c gf nm na rd fe f1 f2 sw op ch be p A)
theorem flX2_choose_31 : Cond.fieldLink RX2 31 (TX2 6).1 (TX2 6).2.1 (TX2 6).2.2.1 ∈ wsX2_choose := by decide +kernel
theorem flX2_choose_34 : Cond.fieldLink RX2 34 (TX2 7).1 (TX2 7).2.1 (TX2 7).2.2.1 ∈ wsX2_choose := by decide +kernel
theorem flX2_choose_40 : Cond.fieldLink RX2 40 (TX0 0).1 (TX0 0).2.1 (TX0 0).2.2.1 ∈ wsX2_choose := by decide +kernel
theorem flX2_choose_61 : Cond.fieldLink RX2 61 (TX2 9).1 (TX2 9).2.1 (TX2 9).2.2.1 ∈ wsX2_choose := by decide +kernel
theorem inX2_choose_X0 : ∀ w ∈ u_ws RX0 TX0 11, w ∈ wsX2_choose := fun _ h => List.mem_cons_of_mem _ (List.mem_append_left _ (List.mem_append_right _ h))
theorem inX2_choose_X2 : ∀ w ∈ u_ws RX2 TX2 10, w ∈ wsX2_choose := fun _ h => List.mem_cons_of_mem _ (List.mem_append_right _ h)
set_option maxHeartbeats 4000000 in
set_option maxRecDepth 100000 in
/-- choose -/
theorem c_X2_choose (G : XG) (go : Nat) (ga : Nat → Nat) (b : Nat → Int) (n d c : Nat) (gf : Nat → Nat → Int) (I : Inv b n d c) (R : GR b n d c gf) (nm : Nat) (na : Nat → Nat) (rd : Bool) (fe : Int) (f1 f2 sw op ch be : Nat → Int) (p A : Nat) (h5n : n ≤ 5) (hp : p ≤ n) (hok : okA (cpN b) p A = true) (hch : ∀ q, q < p → ch q = ((dgt p A q : Nat) : Int)) (hop : ∀ i, p ≤ i → i < n → op (p * 5 + i) = ((opN b n p A i : Nat) : Int)) (hsw : ∀ i j, i < n → j < n → sw (i * 5 + j) = wdN b i j) (hT : TB f1 f2) (hB : BSc b n (A * 20 ^ (n - p)) fe be) (k : Nat) (hk : n ≤ p + k) (IH : ∀ k', k = k' + 1 → ChP G k') : Con G yX2_choose wsX2_choose (rmL (k + 3)) 0 0 [.ref nm, .ref go, .int (zI ((p : Nat) : Int)), .int (zI ((cA p A : Nat) : Int))] ([(nm, nmE na rd fe), (na 0, aI G 480 f1), (na 1, aI G 480 f2), (na 4, aI G 25 sw), (na 5, aI G 30 op), (na 6, aI G 5 ch), (na 7, aI G 5 be), (go, goE ga ((n : Nat) : Int) ((d : Nat) : Int) ((c : Nat) : Int)), (ga 0, aI G 36 (gf 0)), (ga 1, aI G 7 (gf 1)), (ga 2, aI G 7 (gf 2)), (ga 3, aI G 7 (gf 3)), (ga 4, aI G 7 (gf 4)), (ga 5, aI G 6 (gf 5)), (ga 6, aI G 6 (gf 6)), (ga 7, aI G 8 (gf 7))]) (P_X2_choose G go ga b n d c gf nm na rd fe f1 f2 sw op ch be p A) := by
  refine x_start (cc := cX2_choose) (nL := 6) (ret := none) (by decide) rfl (Nat.le_of_ble_eq_true rfl) (fun E => ?_)
  show W_X2_choose G E go ga b n d c gf nm na rd fe f1 f2 sw op ch be p A k 0 [(0, .ref nm), (1, .ref go), (2, .int (zI ((p : Nat) : Int))), (3, .int (zI ((cA p A : Nat) : Int)))] [] ([(nm, nmE na rd fe), (na 0, aI G 480 f1), (na 1, aI G 480 f2), (na 4, aI G 25 sw), (na 5, aI G 30 op), (na 6, aI G 5 ch), (na 7, aI G 5 be), (go, goE ga ((n : Nat) : Int) ((d : Nat) : Int) ((c : Nat) : Int)), (ga 0, aI G 36 (gf 0)), (ga 1, aI G 7 (gf 1)), (ga 2, aI G 7 (gf 2)), (ga 3, aI G 7 (gf 3)), (ga 4, aI G 7 (gf 4)), (ga 5, aI G 6 (gf 5)), (ga 6, aI G 6 (gf 6)), (ga 7, aI G 8 (gf 7))])
  have hn7 := I.n7
  have hd6 := I.d6
  have hc8 := I.c8
  have hfr := hB.r h5n
  have hcA := cA_le p A
  refine x_iload_n 1 rfl dX2_choose_0 2 rfl ?_
  refine x_aload_n 2 rfl dX2_choose_1 1 rfl ?_
  refine x_get 5 rfl (v := .int (zI ((n : Nat) : Int))) 7 0 rfl rfl (by decide) inX2_choose_X0 flX2_choose_40 rfl dX2_choose_2 ?_
  refine x_icmp_ge 8 rfl (tgt := 13) dX2_choose_5 (by decide) (by omega) (by omega) (fun h5 => ?_) (fun h5 => ?_)
  · skip
    refine x_aload_n 14 rfl dX2_choose_13 0 rfl ?_
    refine x_iload_n 15 rfl dX2_choose_14 3 rfl ?_
    refine x_callV 18 rfl (c_X2_keepBest G nm na rd fe ch be (cA p A) (hfr) (by omega)) [0, 5, 6] rfl (by decide) 0 rfl rfl gX2_choose_X2_keepBest rfl rfl rfl hd_X2_keepBest ⟨by show 1 + 1 ≤ k + 3; omega, by show 8 + (2 + 11) + 40 * (1) ≤ 40 * (k + 3); omega⟩ (As := [.int (zI ((cA p A : Nat) : Int))]) (rest := []) rfl rfl (Nat.le_of_ble_eq_true rfl) dX2_choose_15 ⟨Nat.zero_le _, Nat.zero_le _⟩ (fun v w hq => ?_)
    obtain ⟨fe9, be9, rfl, rfl, hk1, hk2⟩ := hq
    refine ⟨rfl, ?_⟩
    refine x_ws (ws' := [(nm, nmE na rd fe9), (na 0, aI G 480 f1), (na 1, aI G 480 f2), (na 4, aI G 25 sw), (na 5, aI G 30 op), (na 6, aI G 5 ch), (na 7, aI G 5 be9), (go, goE ga ((n : Nat) : Int) ((d : Nat) : Int) ((c : Nat) : Int)), (ga 0, aI G 36 (gf 0)), (ga 1, aI G 7 (gf 1)), (ga 2, aI G 7 (gf 2)), (ga 3, aI G 7 (gf 3)), (ga 4, aI G 7 (gf 4)), (ga 5, aI G 6 (gf 5)), (ga 6, aI G 6 (gf 6)), (ga 7, aI G 8 (gf 7))]) (rfl) ?_
    refine x_vret rfl ?_ dX2_choose_18
    obtain rfl : p = n := by omega
    have ep : A * 20 ^ (p - p) = A := by rw [Nat.sub_self, Nat.pow_zero, Nat.mul_one]
    have ep2 : (A + 1) * 20 ^ (p - p) = A + 1 := by rw [Nat.sub_self, Nat.pow_zero, Nat.mul_one]
    have hfin : BSc b p (A + 1) fe9 be9 := by
        rw [ep] at hB
        by_cases q : ((cA p A : Nat) : Int) < fe
        · obtain ⟨q1, q2⟩ := hk1 q; rw [q1]; exact hB.yes hok q (fun i hi => (q2 i (by omega)).trans (hch i hi))
        · obtain ⟨q1, q2⟩ := hk2 (by omega); rw [q1, q2]
          have hB' := hB; rw [← ep] at hB'
          have := BSc.skip h5n hB' (fun e h1 h2 => by rw [Nat.sub_self, Nat.pow_zero, Nat.div_one] at h1; rw [h1]; omega)
          rw [ep2] at this; exact this
    exact ⟨_, _, _, _, rfl, rfl, by rw [ep2]; exact hfin, fun _ _ => rfl, fun _ _ => rfl⟩
  · skip
    refine x_iload_n 9 rfl dX2_choose_8 2 rfl ?_
    refine x_iconst 10 rfl dX2_choose_9 (z := 5) (by decide) ?_
    refine x_icmp_lt 13 rfl (tgt := 19) dX2_choose_10 (by decide) (by omega) (by decide) (fun h10 => ?_) (fun h10 => ?_)
    · skip
      refine x_iload_n 20 rfl dX2_choose_19 3 rfl ?_
      refine x_aload_n 21 rfl dX2_choose_20 0 rfl ?_
      refine x_aload_n 22 rfl dX2_choose_21 1 rfl ?_
      refine x_get 25 rfl (v := .int (zI ((n : Nat) : Int))) 7 0 rfl rfl (by decide) inX2_choose_X0 flX2_choose_40 rfl dX2_choose_22 ?_
      refine x_iload_n 26 rfl dX2_choose_25 2 rfl ?_
      refine x_callV 29 rfl (c_X2_leastNotesFrom G nm na rd fe op (opN b n p A) n p h5n hp hop (fun i => bitF_20 _)) [0, 4] rfl (by decide) 0 rfl rfl gX2_choose_X2_leastNotesFrom rfl rfl rfl hd_X2_leastNotesFrom ⟨by show 0 + 1 ≤ k + 3; omega, by show 8 + (6 + 11) + 40 * (0) ≤ 40 * (k + 3); omega⟩ (As := [.int (zI ((n : Nat) : Int)), .int (zI ((p : Nat) : Int))]) (rest := [.int (zI ((cA p A : Nat) : Int))]) rfl rfl (Nat.le_of_ble_eq_true rfl) dX2_choose_26 ⟨Nat.zero_le _, Nat.zero_le _⟩ (fun v w hq => ?_)
      obtain ⟨rfl, rfl⟩ := hq
      refine ⟨rfl, ?_⟩
      refine x_ws (ws' := [(nm, nmE na rd fe), (na 0, aI G 480 f1), (na 1, aI G 480 f2), (na 4, aI G 25 sw), (na 5, aI G 30 op), (na 6, aI G 5 ch), (na 7, aI G 5 be), (go, goE ga ((n : Nat) : Int) ((d : Nat) : Int) ((c : Nat) : Int)), (ga 0, aI G 36 (gf 0)), (ga 1, aI G 7 (gf 1)), (ga 2, aI G 7 (gf 2)), (ga 3, aI G 7 (gf 3)), (ga 4, aI G 7 (gf 4)), (ga 5, aI G 6 (gf 5)), (ga 6, aI G 6 (gf 6)), (ga 7, aI G 8 (gf 7))]) (rfl) ?_
      obtain ⟨ln, hln⟩ : ∃ ln, ln = lnR (opN b n p A) p (n - p) := ⟨_, rfl⟩
      have hlr : ln ≤ 100 := by rw [hln]; unfold lnR; have := csum_le (f := loN (opN b n p A)) (p := p) (m := 2) (fun i => (loN_r _ i).2) (n - p); split <;> omega
      refine x_iadd 30 rfl dX2_choose_29 (z := ((cA p A + (lnR (opN b n p A) p (n - p)) : Nat) : Int)) (by omega) ?_
      refine x_aload_n 31 rfl dX2_choose_30 0 rfl ?_
      refine x_get 34 rfl (v := .int (zI fe)) 0 9 rfl rfl (by decide) inX2_choose_X2 flX2_choose_61 rfl dX2_choose_31 ?_
      refine x_icmp_lt 37 rfl (tgt := 38) dX2_choose_34 (by decide) (by omega) (by omega) (fun h34 => ?_) (fun h34 => ?_)
      · skip
        refine x_aload_n 39 rfl dX2_choose_38 0 rfl ?_
        have hA := bitF_20 (opF b n p A p)
        have hA2 : opN b n p A p < 1048576 := hA
        refine x_get 42 rfl (v := .ref (na 5)) 0 6 rfl rfl (by decide) inX2_choose_X2 flX2_choose_31 rfl dX2_choose_39 ?_
        refine x_iload_n 43 rfl dX2_choose_42 2 rfl ?_
        refine x_iconst 44 rfl dX2_choose_43 (z := 5) (by decide) ?_
        refine x_imul 45 rfl dX2_choose_44 (z := ((p * 5 : Nat) : Int)) (by omega) ?_
        refine x_iload_n 46 rfl dX2_choose_45 2 rfl ?_
        refine x_iadd 47 rfl dX2_choose_46 (z := ((p * 5 + p : Nat) : Int)) (by omega) ?_
        refine x_iald 48 rfl 4 (p * 5 + p) rfl (⟨by omega, by omega⟩) (by decide) (v := ((opN b n p A p : Nat) : Int)) (hop p (Nat.le_refl p) (by omega)) dX2_choose_47 ?_
        refine x_istore 50 rfl (lv' := [(4, .int (zI ((opN b n p A p : Nat) : Int))), (0, .ref nm), (1, .ref go), (2, .int (zI ((p : Nat) : Int))), (3, .int (zI ((cA p A : Nat) : Int)))]) dX2_choose_48 (by decide) rfl ?_
        refine x_iconst 51 rfl dX2_choose_50 (z := 0) (by decide) ?_
        refine x_istore 53 rfl (lv' := [(5, .int (zI 0)), (4, .int (zI ((opN b n p A p : Nat) : Int))), (0, .ref nm), (1, .ref go), (2, .int (zI ((p : Nat) : Int))), (3, .int (zI ((cA p A : Nat) : Int)))]) dX2_choose_51 (by decide) rfl ?_
        have L53 : ∀ (fz53 : Nat) (u : Nat) (fe1 : Int) (op1 : Nat → Int) (ch1 : Nat → Int) (be1 : Nat → Int) (hu : u ≤ 20) (hB1 : BSc b n ((A * 20 + u) * 20 ^ (n - (p + 1))) fe1 be1) (hop1 : ∀ j, j < (p + 1) * 5 → op1 j = op j) (hch1 : ∀ q, q < p → ch1 q = ch q), 20 - u < fz53 → W_X2_choose G E go ga b n d c gf nm na rd fe f1 f2 sw op ch be p A k 53 [(0, .ref nm), (1, .ref go), (2, .int (zI ((p : Nat) : Int))), (3, .int (zI ((cA p A : Nat) : Int))), (4, .int (zI ((opN b n p A p : Nat) : Int))), (5, .int (zI ((u : Nat) : Int)))] [] ([(nm, nmE na rd fe1), (na 0, aI G 480 f1), (na 1, aI G 480 f2), (na 4, aI G 25 sw), (na 5, aI G 30 op1), (na 6, aI G 5 ch1), (na 7, aI G 5 be1), (go, goE ga ((n : Nat) : Int) ((d : Nat) : Int) ((c : Nat) : Int)), (ga 0, aI G 36 (gf 0)), (ga 1, aI G 7 (gf 1)), (ga 2, aI G 7 (gf 2)), (ga 3, aI G 7 (gf 3)), (ga 4, aI G 7 (gf 4)), (ga 5, aI G 6 (gf 5)), (ga 6, aI G 6 (gf 6)), (ga 7, aI G 8 (gf 7))]) := by
          intro fz53
          induction fz53 with
          | zero => intro u fe1 op1 ch1 be1 hu hB1 hop1 hch1 hf53; exact absurd hf53 (Nat.not_lt_zero _)
          | succ fz53 ih53 =>
            intro u fe1 op1 ch1 be1 hu hB1 hop1 hch1 hf53
            refine x_iload 55 rfl dX2_choose_53 5 rfl ?_
            refine x_bipush 57 rfl dX2_choose_55 (z := 20) (by decide) ?_
            refine x_icmp_ge 60 rfl (tgt := 113) dX2_choose_57 (by decide) (by omega) (by decide) (fun h57 => ?_) (fun h57 => ?_)
            · skip
              refine x_vret rfl ?_ dX2_choose_113
              obtain rfl : u = 20 := by omega
              exact ⟨_, _, _, _, rfl, rfl, by rw [← E_20 (by omega)]; exact hB1, hop1, hch1⟩
            · skip
              have hu2 : u < 20 := by omega
              obtain ⟨v1, hv1⟩ : ∃ v, v = opN b n p A p / 2 ^ u := ⟨_, rfl⟩
              have hv2 : v1 ≤ opN b n p A p := by rw [hv1]; exact Nat.div_le_self _ _
              refine x_iload 62 rfl dX2_choose_60 4 rfl ?_
              refine x_iload 64 rfl dX2_choose_62 5 rfl ?_
              refine x_ishr 65 rfl dX2_choose_64 (z := (((opN b n p A p) / 2 ^ u : Nat) : Int)) (zI_shr (t := (opN b n p A p)) (i := u) (by omega) (by omega)) ?_
              refine x_iconst 66 rfl dX2_choose_65 (z := 1) (by decide) ?_
              refine x_iand 67 rfl dX2_choose_66 (z := ((opN b n p A p / 2 ^ u % 2 : Nat) : Int)) (zI_and1 (t := opN b n p A p / 2 ^ u) (by omega)) ?_
              refine x_if_eq 70 rfl (tgt := 107) dX2_choose_67 (by decide) (by omega) (fun h67 => ?_) (fun h67 => ?_)
              · skip
                have hnb : ¬ opF b n p A p u = true := fun hh => by have := (op_bit (p := p) (i := p) hu2).mpr hh; omega
                refine x_iinc 110 rfl (lv' := [(5, .int (zI ((u + 1 : Nat) : Int))), (0, .ref nm), (1, .ref go), (2, .int (zI ((p : Nat) : Int))), (3, .int (zI ((cA p A : Nat) : Int))), (4, .int (zI ((opN b n p A p : Nat) : Int)))]) dX2_choose_107 5 rfl (b := ((u + 1 : Nat) : Int)) (by omega) (by decide) rfl ?_
                refine x_goto dX2_choose_110 (tgt := 53) (by decide) ?_
                refine x_lv [1, 2, 3, 4, 5, 0] rfl ?_
                exact ih53 (u + 1) fe1 op1 ch1 be1 (by omega) (BSc.none h5n (by omega) (by omega) hB1 hnb) (hop1) (hch1) (by omega)
              · skip
                have hyb : opF b n p A p u = true := (op_bit hu2).mp (by omega)
                have hal : allF (fun q => cpN b q p (dgt p A q) u) p = true := by unfold opF at hyb; rw [Bool.and_eq_true] at hyb; exact hyb.2
                refine x_aload_n 71 rfl dX2_choose_70 0 rfl ?_
                refine x_get 74 rfl (v := .ref (na 6)) 0 7 rfl rfl (by decide) inX2_choose_X2 flX2_choose_34 rfl dX2_choose_71 ?_
                refine x_iload_n 75 rfl dX2_choose_74 2 rfl ?_
                refine x_iload 77 rfl dX2_choose_75 5 rfl ?_
                refine x_iast 78 rfl 5 p rfl (⟨by omega, by omega⟩) (by decide) (ws' := [(nm, nmE na rd fe1), (na 0, aI G 480 f1), (na 1, aI G 480 f2), (na 4, aI G 25 sw), (na 5, aI G 30 op1), (na 6, aI G 5 (zup ch1 p ((u : Nat) : Int))), (na 7, aI G 5 be1), (go, goE ga ((n : Nat) : Int) ((d : Nat) : Int) ((c : Nat) : Int)), (ga 0, aI G 36 (gf 0)), (ga 1, aI G 7 (gf 1)), (ga 2, aI G 7 (gf 2)), (ga 3, aI G 7 (gf 3)), (ga 4, aI G 7 (gf 4)), (ga 5, aI G 6 (gf 5)), (ga 6, aI G 6 (gf 6)), (ga 7, aI G 8 (gf 7))]) (rfl) dX2_choose_77 ?_
                refine x_aload_n 79 rfl dX2_choose_78 0 rfl ?_
                refine x_aload_n 80 rfl dX2_choose_79 1 rfl ?_
                refine x_iload_n 81 rfl dX2_choose_80 2 rfl ?_
                refine x_iload 83 rfl dX2_choose_81 5 rfl ?_
                refine x_callV 86 rfl (c_X2_narrow G go ga b n d c gf I R nm na rd fe1 f1 f2 sw op1 p A u h5n (by omega) (by omega) (fun i h1 h2 => by rw [hop1 _ (by omega)]; exact hop i h1 h2) hsw hT) [0, 1, 2, 3, 4, 7, 8, 9, 10, 11, 12, 13, 14, 15] rfl (by decide) 0 rfl rfl gX2_choose_X2_narrow rfl rfl rfl hd_X2_narrow ⟨by show 2 + 1 ≤ k + 3; omega, by show 8 + (6 + 11) + 40 * (2) ≤ 40 * (k + 3); omega⟩ (As := [.ref go, .int (zI ((p : Nat) : Int)), .int (zI ((u : Nat) : Int))]) (rest := []) rfl rfl (Nat.le_of_ble_eq_true rfl) dX2_choose_83 ⟨Nat.zero_le _, Nat.zero_le _⟩ (fun v w hq => ?_)
                obtain ⟨op2, rfl, rfl, hop2, hop3⟩ := hq
                refine ⟨rfl, ?_⟩
                refine x_ws (ws' := [(nm, nmE na rd fe1), (na 0, aI G 480 f1), (na 1, aI G 480 f2), (na 4, aI G 25 sw), (na 5, aI G 30 op2), (na 6, aI G 5 (zup ch1 p ((u : Nat) : Int))), (na 7, aI G 5 be1), (go, goE ga ((n : Nat) : Int) ((d : Nat) : Int) ((c : Nat) : Int)), (ga 0, aI G 36 (gf 0)), (ga 1, aI G 7 (gf 1)), (ga 2, aI G 7 (gf 2)), (ga 3, aI G 7 (gf 3)), (ga 4, aI G 7 (gf 4)), (ga 5, aI G 6 (gf 5)), (ga 6, aI G 6 (gf 6)), (ga 7, aI G 8 (gf 7))]) (rfl) ?_
                refine x_aload_n 87 rfl dX2_choose_86 0 rfl ?_
                refine x_aload_n 88 rfl dX2_choose_87 1 rfl ?_
                refine x_iload_n 89 rfl dX2_choose_88 2 rfl ?_
                refine x_iconst 90 rfl dX2_choose_89 (z := 1) (by decide) ?_
                refine x_iadd 91 rfl dX2_choose_90 (z := ((p + 1 : Nat) : Int)) (by omega) ?_
                refine x_iload_n 92 rfl dX2_choose_91 3 rfl ?_
                refine x_iload 94 rfl dX2_choose_92 5 rfl ?_
                refine x_iconst 95 rfl dX2_choose_94 (z := 4) (by decide) ?_
                refine x_icmp_ge 98 rfl (tgt := 102) dX2_choose_95 (by decide) (by omega) (by decide) (fun h95 => ?_) (fun h95 => ?_)
                · skip
                  refine x_iconst 103 rfl dX2_choose_102 (z := 2) (by decide) ?_
                  refine x_iadd 104 rfl dX2_choose_103 (z := ((cA p A + 2 : Nat) : Int)) (by omega) ?_
                  refine x_int (congrArg zI (by rw [cA_app hu2]; unfold cN; split <;> omega : ((cA p A + 2 : Nat) : Int) = ((cA (p + 1) (A * 20 + u) : Nat) : Int))) ?_
                  refine x_callS 107 rfl (IH (k - 1) (by omega) go ga b n d c gf I R nm na rd fe1 f1 f2 sw op2 (zup ch1 p ((u : Nat) : Int)) be1 (p + 1) (A * 20 + u) h5n (by omega) (by rw [okA_app hu2, hok, Bool.true_and]; exact hal) (fun q hq => by by_cases e : q = p; (rw [e, zup_s, dgt_app_e hu2]); (rw [zup_n _ _ e, hch1 q (by omega), hch q (by omega), dgt_app hu2 (by omega)])) hop2 hsw hT hB1 (by omega)) [0, 1, 2, 3, 4, 5, 6, 7, 8, 9, 10, 11, 12, 13, 14, 15] rfl (by decide) gX2_choose_X2_choose rfl rfl rfl hd_X2_choose ⟨by show k - 1 + 3 + 1 ≤ k + 3; omega, by show 8 + (6 + 11) + 40 * (k - 1 + 3) ≤ 40 * (k + 3); omega⟩ (As := [.ref nm, .ref go, .int (zI ((p + 1 : Nat) : Int)), .int (zI ((cA (p + 1) (A * 20 + u) : Nat) : Int))]) (rest := []) rfl rfl (Nat.le_of_ble_eq_true rfl) dX2_choose_104 ⟨Nat.zero_le _, Nat.zero_le _⟩ (fun v w hq => ?_)
                  obtain ⟨fe8, op8, ch8, be8, rfl, rfl, hB8, ho8, hc8'⟩ := hq
                  refine ⟨rfl, ?_⟩
                  refine x_ws (ws' := [(nm, nmE na rd fe8), (na 0, aI G 480 f1), (na 1, aI G 480 f2), (na 4, aI G 25 sw), (na 5, aI G 30 op8), (na 6, aI G 5 ch8), (na 7, aI G 5 be8), (go, goE ga ((n : Nat) : Int) ((d : Nat) : Int) ((c : Nat) : Int)), (ga 0, aI G 36 (gf 0)), (ga 1, aI G 7 (gf 1)), (ga 2, aI G 7 (gf 2)), (ga 3, aI G 7 (gf 3)), (ga 4, aI G 7 (gf 4)), (ga 5, aI G 6 (gf 5)), (ga 6, aI G 6 (gf 6)), (ga 7, aI G 8 (gf 7))]) (rfl) ?_
                  refine x_iinc 110 rfl (lv' := [(5, .int (zI ((u + 1 : Nat) : Int))), (0, .ref nm), (1, .ref go), (2, .int (zI ((p : Nat) : Int))), (3, .int (zI ((cA p A : Nat) : Int))), (4, .int (zI ((opN b n p A p : Nat) : Int)))]) dX2_choose_107 5 rfl (b := ((u + 1 : Nat) : Int)) (by omega) (by decide) rfl ?_
                  refine x_goto dX2_choose_110 (tgt := 53) (by decide) ?_
                  refine x_lv [1, 2, 3, 4, 5, 0] rfl ?_
                  exact ih53 (u + 1) fe8 op8 ch8 be8 (by omega) (hB8) (fun j hj => by rw [ho8 j (by omega), hop3 j hj]; exact hop1 j hj) (fun q hq => by rw [hc8' q (by omega), zup_n _ _ (by omega)]; exact hch1 q hq) (by omega)
                · skip
                  refine x_iconst 99 rfl dX2_choose_98 (z := 1) (by decide) ?_
                  refine x_goto dX2_choose_99 (tgt := 103) (by decide) ?_
                  refine x_iadd 104 rfl dX2_choose_103 (z := ((cA p A + 1 : Nat) : Int)) (by omega) ?_
                  refine x_int (congrArg zI (by rw [cA_app hu2]; unfold cN; split <;> omega : ((cA p A + 1 : Nat) : Int) = ((cA (p + 1) (A * 20 + u) : Nat) : Int))) ?_
                  refine x_callS 107 rfl (IH (k - 1) (by omega) go ga b n d c gf I R nm na rd fe1 f1 f2 sw op2 (zup ch1 p ((u : Nat) : Int)) be1 (p + 1) (A * 20 + u) h5n (by omega) (by rw [okA_app hu2, hok, Bool.true_and]; exact hal) (fun q hq => by by_cases e : q = p; (rw [e, zup_s, dgt_app_e hu2]); (rw [zup_n _ _ e, hch1 q (by omega), hch q (by omega), dgt_app hu2 (by omega)])) hop2 hsw hT hB1 (by omega)) [0, 1, 2, 3, 4, 5, 6, 7, 8, 9, 10, 11, 12, 13, 14, 15] rfl (by decide) gX2_choose_X2_choose rfl rfl rfl hd_X2_choose ⟨by show k - 1 + 3 + 1 ≤ k + 3; omega, by show 8 + (6 + 11) + 40 * (k - 1 + 3) ≤ 40 * (k + 3); omega⟩ (As := [.ref nm, .ref go, .int (zI ((p + 1 : Nat) : Int)), .int (zI ((cA (p + 1) (A * 20 + u) : Nat) : Int))]) (rest := []) rfl rfl (Nat.le_of_ble_eq_true rfl) dX2_choose_104 ⟨Nat.zero_le _, Nat.zero_le _⟩ (fun v w hq => ?_)
                  obtain ⟨fe8, op8, ch8, be8, rfl, rfl, hB8, ho8, hc8'⟩ := hq
                  refine ⟨rfl, ?_⟩
                  refine x_ws (ws' := [(nm, nmE na rd fe8), (na 0, aI G 480 f1), (na 1, aI G 480 f2), (na 4, aI G 25 sw), (na 5, aI G 30 op8), (na 6, aI G 5 ch8), (na 7, aI G 5 be8), (go, goE ga ((n : Nat) : Int) ((d : Nat) : Int) ((c : Nat) : Int)), (ga 0, aI G 36 (gf 0)), (ga 1, aI G 7 (gf 1)), (ga 2, aI G 7 (gf 2)), (ga 3, aI G 7 (gf 3)), (ga 4, aI G 7 (gf 4)), (ga 5, aI G 6 (gf 5)), (ga 6, aI G 6 (gf 6)), (ga 7, aI G 8 (gf 7))]) (rfl) ?_
                  refine x_iinc 110 rfl (lv' := [(5, .int (zI ((u + 1 : Nat) : Int))), (0, .ref nm), (1, .ref go), (2, .int (zI ((p : Nat) : Int))), (3, .int (zI ((cA p A : Nat) : Int))), (4, .int (zI ((opN b n p A p : Nat) : Int)))]) dX2_choose_107 5 rfl (b := ((u + 1 : Nat) : Int)) (by omega) (by decide) rfl ?_
                  refine x_goto dX2_choose_110 (tgt := 53) (by decide) ?_
                  refine x_lv [1, 2, 3, 4, 5, 0] rfl ?_
                  exact ih53 (u + 1) fe8 op8 ch8 be8 (by omega) (hB8) (fun j hj => by rw [ho8 j (by omega), hop3 j hj]; exact hop1 j hj) (fun q hq => by rw [hc8' q (by omega), zup_n _ _ (by omega)]; exact hch1 q hq) (by omega)
        refine x_lv [2, 3, 4, 5, 1, 0] rfl ?_
        exact L53 _ 0 fe op ch be (by omega) (by rw [← E_0 (by omega)]; exact hB) (fun _ _ => rfl) (fun _ _ => rfl) (Nat.lt_succ_self _)
      · skip
        refine x_vret rfl ?_ dX2_choose_37
        exact ⟨_, _, _, _, rfl, rfl, BSc.skip h5n hB (fun e h1 h2 => by have := ln_le hp h1 h2; omega), fun _ _ => rfl, fun _ _ => rfl⟩
    · skip
      refine x_aload_n 14 rfl dX2_choose_13 0 rfl ?_
      refine x_iload_n 15 rfl dX2_choose_14 3 rfl ?_
      refine x_callV 18 rfl (c_X2_keepBest G nm na rd fe ch be (cA p A) (hfr) (by omega)) [0, 5, 6] rfl (by decide) 0 rfl rfl gX2_choose_X2_keepBest rfl rfl rfl hd_X2_keepBest ⟨by show 1 + 1 ≤ k + 3; omega, by show 8 + (2 + 11) + 40 * (1) ≤ 40 * (k + 3); omega⟩ (As := [.int (zI ((cA p A : Nat) : Int))]) (rest := []) rfl rfl (Nat.le_of_ble_eq_true rfl) dX2_choose_15 ⟨Nat.zero_le _, Nat.zero_le _⟩ (fun v w hq => ?_)
      obtain ⟨fe9, be9, rfl, rfl, hk1, hk2⟩ := hq
      refine ⟨rfl, ?_⟩
      refine x_ws (ws' := [(nm, nmE na rd fe9), (na 0, aI G 480 f1), (na 1, aI G 480 f2), (na 4, aI G 25 sw), (na 5, aI G 30 op), (na 6, aI G 5 ch), (na 7, aI G 5 be9), (go, goE ga ((n : Nat) : Int) ((d : Nat) : Int) ((c : Nat) : Int)), (ga 0, aI G 36 (gf 0)), (ga 1, aI G 7 (gf 1)), (ga 2, aI G 7 (gf 2)), (ga 3, aI G 7 (gf 3)), (ga 4, aI G 7 (gf 4)), (ga 5, aI G 6 (gf 5)), (ga 6, aI G 6 (gf 6)), (ga 7, aI G 8 (gf 7))]) (rfl) ?_
      refine x_vret rfl ?_ dX2_choose_18
      obtain rfl : p = n := by omega
      have ep : A * 20 ^ (p - p) = A := by rw [Nat.sub_self, Nat.pow_zero, Nat.mul_one]
      have ep2 : (A + 1) * 20 ^ (p - p) = A + 1 := by rw [Nat.sub_self, Nat.pow_zero, Nat.mul_one]
      have hfin : BSc b p (A + 1) fe9 be9 := by
          rw [ep] at hB
          by_cases q : ((cA p A : Nat) : Int) < fe
          · obtain ⟨q1, q2⟩ := hk1 q; rw [q1]; exact hB.yes hok q (fun i hi => (q2 i (by omega)).trans (hch i hi))
          · obtain ⟨q1, q2⟩ := hk2 (by omega); rw [q1, q2]
            have hB' := hB; rw [← ep] at hB'
            have := BSc.skip h5n hB' (fun e h1 h2 => by rw [Nat.sub_self, Nat.pow_zero, Nat.div_one] at h1; rw [h1]; omega)
            rw [ep2] at this; exact this
      exact ⟨_, _, _, _, rfl, rfl, by rw [ep2]; exact hfin, fun _ _ => rfl, fun _ _ => rfl⟩

theorem choose_all (G : XG) : ∀ k, ChP G k := by
  intro k
  induction k with
  | zero => exact fun go ga b n d c gf I R nm na rd fe f1 f2 sw op ch be p A h5n hp hok hch hop hsw hT hB hk => c_X2_choose G go ga b n d c gf I R nm na rd fe f1 f2 sw op ch be p A h5n hp hok hch hop hsw hT hB 0 hk (fun k' h => absurd h (by omega))
  | succ k ih => exact fun go ga b n d c gf I R nm na rd fe f1 f2 sw op ch be p A h5n hp hok hch hop hsw hT hB hk => c_X2_choose G go ga b n d c gf I R nm na rd fe f1 f2 sw op ch be p A h5n hp hok hch hop hsw hT hB (k + 1) hk (fun k' h => by obtain rfl : k = k' := (by omega); exact ih)
abbrev P_X2_find (G : XG) (go : Nat) (ga : Nat → Nat) (b : Nat → Int) (n : Nat) (d : Nat) (c : Nat) (gf : Nat → Nat → Int) (nm : Nat) (na : Nat → Nat) (rd : Bool) (fe : Int) (f1 : Nat → Int) (f2 : Nat → Int) (cm : Nat → Int) (sw : Nat → Int) (op : Nat → Int) (ch : Nat → Int) (be : Nat → Int) (e0 : Int) (o0 : Int) (l0 : Int) (a0 : Bool) : Option Value → va_W → Prop := fun r ws => ∃ e1 o1 l1 : Int, ∃ a1 : Bool, ∃ g1 g2 cm' sw' op' ch' be' : Nat → Int, ∃ fe' : Int, r = some (.int (zB (decide (nmB b n ≠ -1)))) ∧ ws = [(nm, nmE na true fe'), (na 0, aI G 480 g1), (na 1, aI G 480 g2), (na 2, aI G 20 cm'), (na 3, .inr (1, [.int (zI e1), .int (zI o1), .int (zI l1), .int (zB a1)])), (na 4, aI G 25 sw'), (na 5, aI G 30 op'), (na 6, aI G 5 ch'), (na 7, aI G 5 be'), (go, goE ga ((n : Nat) : Int) ((d : Nat) : Int) ((c : Nat) : Int)), (ga 0, aI G 36 (gf 0)), (ga 1, aI G 7 (gf 1)), (ga 2, aI G 7 (gf 2)), (ga 3, aI G 7 (gf 3)), (ga 4, aI G 7 (gf 4)), (ga 5, aI G 6 (gf 5)), (ga 6, aI G 6 (gf 6)), (ga 7, aI G 8 (gf 7))] ∧ TB g1 g2 ∧ BSc b n (20 ^ n) fe' be'
abbrev W_X2_find (G : XG) (E : XE) (go : Nat) (ga : Nat → Nat) (b : Nat → Int) (n : Nat) (d : Nat) (c : Nat) (gf : Nat → Nat → Int) (nm : Nat) (na : Nat → Nat) (rd : Bool) (fe : Int) (f1 : Nat → Int) (f2 : Nat → Int) (cm : Nat → Int) (sw : Nat → Int) (op : Nat → Int) (ch : Nat → Int) (be : Nat → Int) (e0 : Int) (o0 : Int) (l0 : Int) (a0 : Bool) (pc : Nat) (lv : List (Nat × Value)) (st : List Value) (ws : va_W) : Prop := Wx G E (rmL 9) cX2_find 4 RX2 wsX2_find (some .boolean) "find" 0 0 (P_X2_find G go ga b n d c gf nm na rd fe f1 f2 cm sw op ch be e0 o0 l0 a0) 0 0 pc lv st ws
theorem flX2_find_28 : Cond.fieldLink RX2 28 (TX2 5).1 (TX2 5).2.1 (TX2 5).2.2.1 ∈ wsX2_find := by decide +kernel
theorem flX2_find_31 : Cond.fieldLink RX2 31 (TX2 6).1 (TX2 6).2.1 (TX2 6).2.2.1 ∈ wsX2_find := by decide +kernel
theorem flX2_find_40 : Cond.fieldLink RX2 40 (TX0 0).1 (TX0 0).2.1 (TX0 0).2.2.1 ∈ wsX2_find := by decide +kernel
theorem flX2_find_46 : Cond.fieldLink RX2 46 (TX2 0).1 (TX2 0).2.1 (TX2 0).2.2.1 ∈ wsX2_find := by decide +kernel
theorem flX2_find_61 : Cond.fieldLink RX2 61 (TX2 9).1 (TX2 9).2.1 (TX2 9).2.2.1 ∈ wsX2_find := by decide +kernel
theorem inX2_find_X0 : ∀ w ∈ u_ws RX0 TX0 11, w ∈ wsX2_find := fun _ h => List.mem_cons_of_mem _ (List.mem_append_left _ (List.mem_append_left _ (List.mem_append_right _ h)))
theorem inX2_find_X2 : ∀ w ∈ u_ws RX2 TX2 10, w ∈ wsX2_find := fun _ h => List.mem_cons_of_mem _ (List.mem_append_left _ (List.mem_append_right _ h))
set_option maxHeartbeats 4000000 in
set_option maxRecDepth 100000 in
/-- find -/
theorem c_X2_find (G : XG) (go : Nat) (ga : Nat → Nat) (b : Nat → Int) (n d c : Nat) (gf : Nat → Nat → Int) (I : Inv b n d c) (R : GR b n d c gf) (nm : Nat) (na : Nat → Nat) (rd : Bool) (fe : Int) (f1 f2 cm sw op ch be : Nat → Int) (e0 o0 l0 : Int) (a0 : Bool) (h5n : n ≤ 5) (hrd : (rd = true → TB f1 f2) ∧ (rd = false → ∀ j, f1 j = 0 ∧ f2 j = 0)) : Con G yX2_find wsX2_find (rmL 9) 0 0 [.ref nm, .ref go] ([(nm, nmE na rd fe), (na 0, aI G 480 f1), (na 1, aI G 480 f2), (na 2, aI G 20 cm), (na 3, .inr (1, [.int (zI e0), .int (zI o0), .int (zI l0), .int (zB a0)])), (na 4, aI G 25 sw), (na 5, aI G 30 op), (na 6, aI G 5 ch), (na 7, aI G 5 be), (go, goE ga ((n : Nat) : Int) ((d : Nat) : Int) ((c : Nat) : Int)), (ga 0, aI G 36 (gf 0)), (ga 1, aI G 7 (gf 1)), (ga 2, aI G 7 (gf 2)), (ga 3, aI G 7 (gf 3)), (ga 4, aI G 7 (gf 4)), (ga 5, aI G 6 (gf 5)), (ga 6, aI G 6 (gf 6)), (ga 7, aI G 8 (gf 7))]) (P_X2_find G go ga b n d c gf nm na rd fe f1 f2 cm sw op ch be e0 o0 l0 a0) := by
  refine x_start (cc := cX2_find) (nL := 4) (ret := (some .boolean)) (by decide) rfl (Nat.le_of_ble_eq_true rfl) (fun E => ?_)
  show W_X2_find G E go ga b n d c gf nm na rd fe f1 f2 cm sw op ch be e0 o0 l0 a0 0 [(0, .ref nm), (1, .ref go)] [] ([(nm, nmE na rd fe), (na 0, aI G 480 f1), (na 1, aI G 480 f2), (na 2, aI G 20 cm), (na 3, .inr (1, [.int (zI e0), .int (zI o0), .int (zI l0), .int (zB a0)])), (na 4, aI G 25 sw), (na 5, aI G 30 op), (na 6, aI G 5 ch), (na 7, aI G 5 be), (go, goE ga ((n : Nat) : Int) ((d : Nat) : Int) ((c : Nat) : Int)), (ga 0, aI G 36 (gf 0)), (ga 1, aI G 7 (gf 1)), (ga 2, aI G 7 (gf 2)), (ga 3, aI G 7 (gf 3)), (ga 4, aI G 7 (gf 4)), (ga 5, aI G 6 (gf 5)), (ga 6, aI G 6 (gf 6)), (ga 7, aI G 8 (gf 7))])
  have hn7 := I.n7
  have hd6 := I.d6
  have hc8 := I.c8
  refine x_aload_n 1 rfl dX2_find_0 1 rfl ?_
  refine x_get 4 rfl (v := .int (zI ((n : Nat) : Int))) 9 0 rfl rfl (by decide) inX2_find_X0 flX2_find_40 rfl dX2_find_1 ?_
  refine x_iconst 5 rfl dX2_find_4 (z := 5) (by decide) ?_
  refine x_icmp_le 8 rfl (tgt := 10) dX2_find_5 (by decide) (by omega) (by decide) (fun h5 => ?_) (fun h5 => ?_)
  · skip
    refine x_aload_n 11 rfl dX2_find_10 0 rfl ?_
    refine x_get 14 rfl (v := .int (zB rd)) 0 0 rfl rfl (by decide) inX2_find_X2 flX2_find_46 rfl dX2_find_11 ?_
    refine x_bif_ne 17 rfl (tgt := 26) dX2_find_14 (by decide) (fun h14 => ?_) (fun h14 => ?_)
    · skip
      have L26 : ∀ (g1 : Nat → Int) (g2 : Nat → Int) (cc : Nat → Int) (e1 : Int) (o1 : Int) (l1 : Int) (a1 : Bool) (hT2 : TB g1 g2), W_X2_find G E go ga b n d c gf nm na rd fe f1 f2 cm sw op ch be e0 o0 l0 a0 26 [(0, .ref nm), (1, .ref go)] [] ([(nm, nmE na true fe), (na 0, aI G 480 g1), (na 1, aI G 480 g2), (na 2, aI G 20 cc), (na 3, .inr (1, [.int (zI e1), .int (zI o1), .int (zI l1), .int (zB a1)])), (na 4, aI G 25 sw), (na 5, aI G 30 op), (na 6, aI G 5 ch), (na 7, aI G 5 be), (go, goE ga ((n : Nat) : Int) ((d : Nat) : Int) ((c : Nat) : Int)), (ga 0, aI G 36 (gf 0)), (ga 1, aI G 7 (gf 1)), (ga 2, aI G 7 (gf 2)), (ga 3, aI G 7 (gf 3)), (ga 4, aI G 7 (gf 4)), (ga 5, aI G 6 (gf 5)), (ga 6, aI G 6 (gf 6)), (ga 7, aI G 8 (gf 7))]) := by
        intro g1 g2 cc e1 o1 l1 a1 hT2
        refine x_iconst 27 rfl dX2_find_26 (z := 0) (by decide) ?_
        refine x_istore_n 28 rfl (lv' := [(2, .int (zI 0)), (0, .ref nm), (1, .ref go)]) dX2_find_27 (by decide) rfl ?_
        have L28 : ∀ (fz28 : Nat) (x : Nat) (s2 : Nat → Int) (hx : x ≤ n) (hs2 : ∀ i j, i < x → j < n → s2 (i * 5 + j) = wdN b i j), n - x < fz28 → W_X2_find G E go ga b n d c gf nm na rd fe f1 f2 cm sw op ch be e0 o0 l0 a0 28 [(0, .ref nm), (1, .ref go), (2, .int (zI ((x : Nat) : Int)))] [] ([(nm, nmE na true fe), (na 0, aI G 480 g1), (na 1, aI G 480 g2), (na 2, aI G 20 cc), (na 3, .inr (1, [.int (zI e1), .int (zI o1), .int (zI l1), .int (zB a1)])), (na 4, aI G 25 s2), (na 5, aI G 30 op), (na 6, aI G 5 ch), (na 7, aI G 5 be), (go, goE ga ((n : Nat) : Int) ((d : Nat) : Int) ((c : Nat) : Int)), (ga 0, aI G 36 (gf 0)), (ga 1, aI G 7 (gf 1)), (ga 2, aI G 7 (gf 2)), (ga 3, aI G 7 (gf 3)), (ga 4, aI G 7 (gf 4)), (ga 5, aI G 6 (gf 5)), (ga 6, aI G 6 (gf 6)), (ga 7, aI G 8 (gf 7))]) := by
          intro fz28
          induction fz28 with
          | zero => intro x s2 hx hs2 hf28; exact absurd hf28 (Nat.not_lt_zero _)
          | succ fz28 ih28 =>
            intro x s2 hx hs2 hf28
            refine x_iload_n 29 rfl dX2_find_28 2 rfl ?_
            refine x_aload_n 30 rfl dX2_find_29 1 rfl ?_
            refine x_get 33 rfl (v := .int (zI ((n : Nat) : Int))) 9 0 rfl rfl (by decide) inX2_find_X0 flX2_find_40 rfl dX2_find_30 ?_
            refine x_icmp_ge 36 rfl (tgt := 74) dX2_find_33 (by decide) (by omega) (by omega) (fun h33 => ?_) (fun h33 => ?_)
            · skip
              have hsw2 : ∀ i j, i < n → j < n → s2 (i * 5 + j) = wdN b i j := fun i j hi hj => hs2 i j (by omega) hj
              refine x_iconst 75 rfl dX2_find_74 (z := 0) (by decide) ?_
              refine x_istore_n 76 rfl (lv' := [(2, .int (zI 0)), (0, .ref nm), (1, .ref go)]) dX2_find_75 (by decide) rfl ?_
              have L76 : ∀ (fz76 : Nat) (x : Nat) (o2 : Nat → Int) (hx : x ≤ n) (ho : ∀ i, i < x → o2 i = ((rwN b n i : Nat) : Int)), n - x < fz76 → W_X2_find G E go ga b n d c gf nm na rd fe f1 f2 cm sw op ch be e0 o0 l0 a0 76 [(0, .ref nm), (1, .ref go), (2, .int (zI ((x : Nat) : Int)))] [] ([(nm, nmE na true fe), (na 0, aI G 480 g1), (na 1, aI G 480 g2), (na 2, aI G 20 cc), (na 3, .inr (1, [.int (zI e1), .int (zI o1), .int (zI l1), .int (zB a1)])), (na 4, aI G 25 s2), (na 5, aI G 30 o2), (na 6, aI G 5 ch), (na 7, aI G 5 be), (go, goE ga ((n : Nat) : Int) ((d : Nat) : Int) ((c : Nat) : Int)), (ga 0, aI G 36 (gf 0)), (ga 1, aI G 7 (gf 1)), (ga 2, aI G 7 (gf 2)), (ga 3, aI G 7 (gf 3)), (ga 4, aI G 7 (gf 4)), (ga 5, aI G 6 (gf 5)), (ga 6, aI G 6 (gf 6)), (ga 7, aI G 8 (gf 7))]) := by
                intro fz76
                induction fz76 with
                | zero => intro x o2 hx ho hf76; exact absurd hf76 (Nat.not_lt_zero _)
                | succ fz76 ih76 =>
                  intro x o2 hx ho hf76
                  refine x_iload_n 77 rfl dX2_find_76 2 rfl ?_
                  refine x_aload_n 78 rfl dX2_find_77 1 rfl ?_
                  refine x_get 81 rfl (v := .int (zI ((n : Nat) : Int))) 9 0 rfl rfl (by decide) inX2_find_X0 flX2_find_40 rfl dX2_find_78 ?_
                  refine x_icmp_ge 84 rfl (tgt := 102) dX2_find_81 (by decide) (by omega) (by omega) (fun h81 => ?_) (fun h81 => ?_)
                  · skip
                    refine x_aload_n 103 rfl dX2_find_102 0 rfl ?_
                    refine x_bipush 105 rfl dX2_find_103 (z := 11) (by decide) ?_
                    refine x_put 108 rfl 0 9 rfl rfl (by decide) inX2_find_X2 flX2_find_61 tyX2_ok nmX2 rfl rfl rfl rfl (Nat.le_of_ble_eq_true rfl) (ws' := [(nm, nmE na true 11), (na 0, aI G 480 g1), (na 1, aI G 480 g2), (na 2, aI G 20 cc), (na 3, .inr (1, [.int (zI e1), .int (zI o1), .int (zI l1), .int (zB a1)])), (na 4, aI G 25 s2), (na 5, aI G 30 o2), (na 6, aI G 5 ch), (na 7, aI G 5 be), (go, goE ga ((n : Nat) : Int) ((d : Nat) : Int) ((c : Nat) : Int)), (ga 0, aI G 36 (gf 0)), (ga 1, aI G 7 (gf 1)), (ga 2, aI G 7 (gf 2)), (ga 3, aI G 7 (gf 3)), (ga 4, aI G 7 (gf 4)), (ga 5, aI G 6 (gf 5)), (ga 6, aI G 6 (gf 6)), (ga 7, aI G 8 (gf 7))]) rfl dX2_find_105 ?_
                    refine x_aload_n 109 rfl dX2_find_108 0 rfl ?_
                    refine x_aload_n 110 rfl dX2_find_109 1 rfl ?_
                    refine x_iconst 111 rfl dX2_find_110 (z := 0) (by decide) ?_
                    refine x_iconst 112 rfl dX2_find_111 (z := 0) (by decide) ?_
                    refine x_callS 115 rfl (choose_all G 5 go ga b n d c gf I R nm na true 11 g1 g2 s2 o2 ch be 0 0 h5n (Nat.zero_le _) rfl (fun q hq => absurd hq (Nat.not_lt_zero _)) (fun i _ hi => by rw [op_0, Nat.zero_mul, Nat.zero_add]; exact ho i (by omega)) hsw2 hT2 (by rw [Nat.zero_mul]; exact ⟨-1, Or.inl ⟨rfl, rfl⟩, rfl⟩) (by omega)) [0, 1, 2, 5, 6, 7, 8, 9, 10, 11, 12, 13, 14, 15, 16, 17] rfl (by decide) gX2_find_X2_choose rfl rfl rfl hd_X2_choose ⟨Nat.le_of_ble_eq_true rfl, Nat.le_of_ble_eq_true rfl⟩ (As := [.ref nm, .ref go, .int (zI 0), .int (zI 0)]) (rest := []) rfl rfl (Nat.le_of_ble_eq_true rfl) dX2_find_112 ⟨Nat.zero_le _, Nat.zero_le _⟩ (fun v w hq => ?_)
                    obtain ⟨fe8, op8, ch8, be8, rfl, rfl, hB8, ho8, hc8'⟩ := hq
                    refine ⟨rfl, ?_⟩
                    refine x_ws (ws' := [(nm, nmE na true fe8), (na 0, aI G 480 g1), (na 1, aI G 480 g2), (na 2, aI G 20 cc), (na 3, .inr (1, [.int (zI e1), .int (zI o1), .int (zI l1), .int (zB a1)])), (na 4, aI G 25 s2), (na 5, aI G 30 op8), (na 6, aI G 5 ch8), (na 7, aI G 5 be8), (go, goE ga ((n : Nat) : Int) ((d : Nat) : Int) ((c : Nat) : Int)), (ga 0, aI G 36 (gf 0)), (ga 1, aI G 7 (gf 1)), (ga 2, aI G 7 (gf 2)), (ga 3, aI G 7 (gf 3)), (ga 4, aI G 7 (gf 4)), (ga 5, aI G 6 (gf 5)), (ga 6, aI G 6 (gf 6)), (ga 7, aI G 8 (gf 7))]) (rfl) ?_
                    refine x_aload_n 116 rfl dX2_find_115 0 rfl ?_
                    have hB9 : BSc b n (20 ^ n) fe8 be8 := by rw [Nat.sub_zero, Nat.zero_add, Nat.one_mul] at hB8; exact hB8
                    have hBe := (hB9.end h5n).1
                    have hBr := hB9.r h5n
                    refine x_get 119 rfl (v := .int (zI fe8)) 0 9 rfl rfl (by decide) inX2_find_X2 flX2_find_61 rfl dX2_find_116 ?_
                    refine x_bipush 121 rfl dX2_find_119 (z := 11) (by decide) ?_
                    refine x_icmp_ge 124 rfl (tgt := 128) dX2_find_121 (by decide) (by omega) (by decide) (fun h121 => ?_) (fun h121 => ?_)
                    · skip
                      refine x_iconst 129 rfl dX2_find_128 (z := 0) (by decide) ?_
                      refine x_int (y := zB (decide (nmB b n ≠ -1))) (zB_n (fun hh => by have := hBe.mpr hh; omega)) ?_
                      refine x_zret rfl ?_ dX2_find_129
                      exact ⟨_, _, _, _, _, _, _, _, _, _, _, _, rfl, rfl, hT2, hB9⟩
                    · skip
                      refine x_iconst 125 rfl dX2_find_124 (z := 1) (by decide) ?_
                      refine x_goto dX2_find_125 (tgt := 129) (by decide) ?_
                      refine x_int (y := zB (decide (nmB b n ≠ -1))) (zB_d (hBe.mp (by omega))) ?_
                      refine x_zret rfl ?_ dX2_find_129
                      exact ⟨_, _, _, _, _, _, _, _, _, _, _, _, rfl, rfl, hT2, hB9⟩
                  · skip
                    refine x_aload_n 85 rfl dX2_find_84 0 rfl ?_
                    refine x_get 88 rfl (v := .ref (na 5)) 0 6 rfl rfl (by decide) inX2_find_X2 flX2_find_31 rfl dX2_find_85 ?_
                    refine x_iload_n 89 rfl dX2_find_88 2 rfl ?_
                    refine x_aload_n 90 rfl dX2_find_89 0 rfl ?_
                    refine x_aload_n 91 rfl dX2_find_90 1 rfl ?_
                    refine x_iload_n 92 rfl dX2_find_91 2 rfl ?_
                    have hsw := hsw2
                    have hT := hT2
                    refine x_callV 95 rfl (c_X2_rowsWithOthers G go ga b n d c gf I R nm na true fe g1 g2 s2 x (by omega) (by omega) hsw hT) [0, 1, 2, 5, 9, 10, 11, 12, 13, 14, 15, 16, 17] rfl (by decide) 0 rfl rfl gX2_find_X2_rowsWithOthers rfl rfl rfl hd_X2_rowsWithOthers ⟨Nat.le_of_ble_eq_true rfl, Nat.le_of_ble_eq_true rfl⟩ (As := [.ref go, .int (zI ((x : Nat) : Int))]) (rest := [.int (zI ((x : Nat) : Int)), .ref (na 5)]) rfl rfl (Nat.le_of_ble_eq_true rfl) dX2_find_92 ⟨Nat.zero_le _, Nat.zero_le _⟩ (fun v w hq => ?_)
                    obtain ⟨rfl, rfl⟩ := hq
                    refine ⟨rfl, ?_⟩
                    refine x_ws (ws' := [(nm, nmE na true fe), (na 0, aI G 480 g1), (na 1, aI G 480 g2), (na 2, aI G 20 cc), (na 3, .inr (1, [.int (zI e1), .int (zI o1), .int (zI l1), .int (zB a1)])), (na 4, aI G 25 s2), (na 5, aI G 30 o2), (na 6, aI G 5 ch), (na 7, aI G 5 be), (go, goE ga ((n : Nat) : Int) ((d : Nat) : Int) ((c : Nat) : Int)), (ga 0, aI G 36 (gf 0)), (ga 1, aI G 7 (gf 1)), (ga 2, aI G 7 (gf 2)), (ga 3, aI G 7 (gf 3)), (ga 4, aI G 7 (gf 4)), (ga 5, aI G 6 (gf 5)), (ga 6, aI G 6 (gf 6)), (ga 7, aI G 8 (gf 7))]) (rfl) ?_
                    refine x_iast 96 rfl 6 x rfl (⟨by omega, by omega⟩) (by decide) (ws' := [(nm, nmE na true fe), (na 0, aI G 480 g1), (na 1, aI G 480 g2), (na 2, aI G 20 cc), (na 3, .inr (1, [.int (zI e1), .int (zI o1), .int (zI l1), .int (zB a1)])), (na 4, aI G 25 s2), (na 5, aI G 30 (zup o2 x ((rwN b n x : Nat) : Int))), (na 6, aI G 5 ch), (na 7, aI G 5 be), (go, goE ga ((n : Nat) : Int) ((d : Nat) : Int) ((c : Nat) : Int)), (ga 0, aI G 36 (gf 0)), (ga 1, aI G 7 (gf 1)), (ga 2, aI G 7 (gf 2)), (ga 3, aI G 7 (gf 3)), (ga 4, aI G 7 (gf 4)), (ga 5, aI G 6 (gf 5)), (ga 6, aI G 6 (gf 6)), (ga 7, aI G 8 (gf 7))]) (rfl) dX2_find_95 ?_
                    refine x_iinc 99 rfl (lv' := [(2, .int (zI ((x + 1 : Nat) : Int))), (0, .ref nm), (1, .ref go)]) dX2_find_96 2 rfl (b := ((x + 1 : Nat) : Int)) (by omega) (by decide) rfl ?_
                    refine x_goto dX2_find_99 (tgt := 76) (by decide) ?_
                    refine x_lv [1, 2, 0] rfl ?_
                    exact ih76 (x + 1) (zup o2 x ((rwN b n x : Nat) : Int)) (by omega) (fun i hi => by
                                            by_cases e : i = x
                                            · rw [e, zup_s]
                                            · rw [zup_n _ _ e]; exact ho i (by omega)) (by omega)
              refine x_lv [1, 2, 0] rfl ?_
              exact L76 _ 0 op (by omega) (fun i hi => absurd hi (Nat.not_lt_zero _)) (Nat.lt_succ_self _)
            · skip
              refine x_iconst 37 rfl dX2_find_36 (z := 0) (by decide) ?_
              refine x_istore_n 38 rfl (lv' := [(3, .int (zI 0)), (0, .ref nm), (1, .ref go), (2, .int (zI ((x : Nat) : Int)))]) dX2_find_37 (by decide) rfl ?_
              have L38 : ∀ (fz38 : Nat) (y : Nat) (s2 : Nat → Int) (hy : y ≤ n) (hs2 : ∀ i j, i < x + 1 → (i < x ∧ j < n) ∨ (i = x ∧ j < y) → s2 (i * 5 + j) = wdN b i j), n - y < fz38 → W_X2_find G E go ga b n d c gf nm na rd fe f1 f2 cm sw op ch be e0 o0 l0 a0 38 [(0, .ref nm), (1, .ref go), (2, .int (zI ((x : Nat) : Int))), (3, .int (zI ((y : Nat) : Int)))] [] ([(nm, nmE na true fe), (na 0, aI G 480 g1), (na 1, aI G 480 g2), (na 2, aI G 20 cc), (na 3, .inr (1, [.int (zI e1), .int (zI o1), .int (zI l1), .int (zB a1)])), (na 4, aI G 25 s2), (na 5, aI G 30 op), (na 6, aI G 5 ch), (na 7, aI G 5 be), (go, goE ga ((n : Nat) : Int) ((d : Nat) : Int) ((c : Nat) : Int)), (ga 0, aI G 36 (gf 0)), (ga 1, aI G 7 (gf 1)), (ga 2, aI G 7 (gf 2)), (ga 3, aI G 7 (gf 3)), (ga 4, aI G 7 (gf 4)), (ga 5, aI G 6 (gf 5)), (ga 6, aI G 6 (gf 6)), (ga 7, aI G 8 (gf 7))]) := by
                intro fz38
                induction fz38 with
                | zero => intro y s2 hy hs2 hf38; exact absurd hf38 (Nat.not_lt_zero _)
                | succ fz38 ih38 =>
                  intro y s2 hy hs2 hf38
                  refine x_iload_n 39 rfl dX2_find_38 3 rfl ?_
                  refine x_aload_n 40 rfl dX2_find_39 1 rfl ?_
                  refine x_get 43 rfl (v := .int (zI ((n : Nat) : Int))) 9 0 rfl rfl (by decide) inX2_find_X0 flX2_find_40 rfl dX2_find_40 ?_
                  refine x_icmp_ge 46 rfl (tgt := 68) dX2_find_43 (by decide) (by omega) (by omega) (fun h43 => ?_) (fun h43 => ?_)
                  · skip
                    refine x_iinc 71 rfl (lv' := [(2, .int (zI ((x + 1 : Nat) : Int))), (0, .ref nm), (1, .ref go), (3, .int (zI ((y : Nat) : Int)))]) dX2_find_68 2 rfl (b := ((x + 1 : Nat) : Int)) (by omega) (by decide) rfl ?_
                    refine x_goto dX2_find_71 (tgt := 28) (by decide) ?_
                    refine x_lv [1, 2, 0] rfl ?_
                    exact ih28 (x + 1) s2 (by omega) (fun i j hi hj => hs2 i j (by omega) (by omega)) (by omega)
                  · skip
                    refine x_aload_n 47 rfl dX2_find_46 0 rfl ?_
                    refine x_get 50 rfl (v := .ref (na 4)) 0 5 rfl rfl (by decide) inX2_find_X2 flX2_find_28 rfl dX2_find_47 ?_
                    refine x_iload_n 51 rfl dX2_find_50 2 rfl ?_
                    refine x_iconst 52 rfl dX2_find_51 (z := 5) (by decide) ?_
                    refine x_imul 53 rfl dX2_find_52 (z := ((x * 5 : Nat) : Int)) (by omega) ?_
                    refine x_iload_n 54 rfl dX2_find_53 3 rfl ?_
                    refine x_iadd 55 rfl dX2_find_54 (z := ((x * 5 + y : Nat) : Int)) (by omega) ?_
                    refine x_aload_n 56 rfl dX2_find_55 1 rfl ?_
                    refine x_iload_n 57 rfl dX2_find_56 2 rfl ?_
                    refine x_iload_n 58 rfl dX2_find_57 3 rfl ?_
                    refine x_callV 61 rfl (c_X0_greatestSharedWind G go ga b n d c gf I R x y (by omega) (by omega)) [9, 10, 11, 12, 13, 14, 15, 16, 17] rfl (by decide) 9 rfl rfl gX2_find_X0_greatestSharedWind rfl rfl rfl hd_X0_greatestSharedWind ⟨Nat.le_of_ble_eq_true rfl, Nat.le_of_ble_eq_true rfl⟩ (As := [.int (zI ((x : Nat) : Int)), .int (zI ((y : Nat) : Int))]) (rest := [.int (zI ((x * 5 + y : Nat) : Int)), .ref (na 4)]) rfl rfl (Nat.le_of_ble_eq_true rfl) dX2_find_58 ⟨Nat.zero_le _, Nat.zero_le _⟩ (fun v w hq => ?_)
                    obtain ⟨rfl, rfl⟩ := hq
                    refine ⟨rfl, ?_⟩
                    refine x_ws (ws' := [(nm, nmE na true fe), (na 0, aI G 480 g1), (na 1, aI G 480 g2), (na 2, aI G 20 cc), (na 3, .inr (1, [.int (zI e1), .int (zI o1), .int (zI l1), .int (zB a1)])), (na 4, aI G 25 s2), (na 5, aI G 30 op), (na 6, aI G 5 ch), (na 7, aI G 5 be), (go, goE ga ((n : Nat) : Int) ((d : Nat) : Int) ((c : Nat) : Int)), (ga 0, aI G 36 (gf 0)), (ga 1, aI G 7 (gf 1)), (ga 2, aI G 7 (gf 2)), (ga 3, aI G 7 (gf 3)), (ga 4, aI G 7 (gf 4)), (ga 5, aI G 6 (gf 5)), (ga 6, aI G 6 (gf 6)), (ga 7, aI G 8 (gf 7))]) (rfl) ?_
                    refine x_iast 62 rfl 5 (x * 5 + y) rfl (⟨by omega, by omega⟩) (by decide) (ws' := [(nm, nmE na true fe), (na 0, aI G 480 g1), (na 1, aI G 480 g2), (na 2, aI G 20 cc), (na 3, .inr (1, [.int (zI e1), .int (zI o1), .int (zI l1), .int (zB a1)])), (na 4, aI G 25 (zup s2 (x * 5 + y) (wdN b x y))), (na 5, aI G 30 op), (na 6, aI G 5 ch), (na 7, aI G 5 be), (go, goE ga ((n : Nat) : Int) ((d : Nat) : Int) ((c : Nat) : Int)), (ga 0, aI G 36 (gf 0)), (ga 1, aI G 7 (gf 1)), (ga 2, aI G 7 (gf 2)), (ga 3, aI G 7 (gf 3)), (ga 4, aI G 7 (gf 4)), (ga 5, aI G 6 (gf 5)), (ga 6, aI G 6 (gf 6)), (ga 7, aI G 8 (gf 7))]) (rfl) dX2_find_61 ?_
                    refine x_iinc 65 rfl (lv' := [(3, .int (zI ((y + 1 : Nat) : Int))), (0, .ref nm), (1, .ref go), (2, .int (zI ((x : Nat) : Int)))]) dX2_find_62 3 rfl (b := ((y + 1 : Nat) : Int)) (by omega) (by decide) rfl ?_
                    refine x_goto dX2_find_65 (tgt := 38) (by decide) ?_
                    refine x_lv [1, 2, 3, 0] rfl ?_
                    exact ih38 (y + 1) (zup s2 (x * 5 + y) (wdN b x y)) (by omega) (fun i j hi hj => by
                                            by_cases e : i = x ∧ j = y
                                            · obtain ⟨rfl, rfl⟩ := e; rw [zup_s]
                                            · rw [zup_n _ _ (by omega)]; exact hs2 i j hi (by omega)) (by omega)
              refine x_lv [1, 2, 3, 0] rfl ?_
              exact L38 _ 0 s2 (by omega) (fun i j hi hj => hs2 i j (by omega) (by omega)) (Nat.lt_succ_self _)
        refine x_lv [1, 2, 0] rfl ?_
        exact L28 _ 0 sw (by omega) (fun i j hi => absurd hi (Nat.not_lt_zero _)) (Nat.lt_succ_self _)
      refine x_ws (ws' := [(nm, nmE na true fe), (na 0, aI G 480 f1), (na 1, aI G 480 f2), (na 2, aI G 20 cm), (na 3, .inr (1, [.int (zI e0), .int (zI o0), .int (zI l0), .int (zB a0)])), (na 4, aI G 25 sw), (na 5, aI G 30 op), (na 6, aI G 5 ch), (na 7, aI G 5 be), (go, goE ga ((n : Nat) : Int) ((d : Nat) : Int) ((c : Nat) : Int)), (ga 0, aI G 36 (gf 0)), (ga 1, aI G 7 (gf 1)), (ga 2, aI G 7 (gf 2)), (ga 3, aI G 7 (gf 3)), (ga 4, aI G 7 (gf 4)), (ga 5, aI G 6 (gf 5)), (ga 6, aI G 6 (gf 6)), (ga 7, aI G 8 (gf 7))]) (by rw [h14]) ?_
      exact L26 f1 f2 cm e0 o0 l0 a0 (hrd.1 h14)
    · skip
      refine x_aload_n 18 rfl dX2_find_17 0 rfl ?_
      refine x_callV 21 rfl (c_X2_fillRows G nm na rd fe f1 f2 cm e0 o0 l0 a0 (FRZ_0 (hrd.2 h14))) [0, 1, 2, 3, 4] rfl (by decide) 0 rfl rfl gX2_find_X2_fillRows rfl rfl rfl hd_X2_fillRows ⟨Nat.le_of_ble_eq_true rfl, Nat.le_of_ble_eq_true rfl⟩ (As := []) (rest := []) rfl rfl (Nat.le_of_ble_eq_true rfl) dX2_find_18 ⟨Nat.zero_le _, Nat.zero_le _⟩ (fun v w hq => ?_)
      obtain ⟨e2, o2, l2, a2, g1, g2, cm2, rfl, rfl, hg⟩ := hq
      refine ⟨rfl, ?_⟩
      refine x_ws (ws' := [(nm, nmE na rd fe), (na 0, aI G 480 g1), (na 1, aI G 480 g2), (na 2, aI G 20 cm2), (na 3, .inr (1, [.int (zI e2), .int (zI o2), .int (zI l2), .int (zB a2)])), (na 4, aI G 25 sw), (na 5, aI G 30 op), (na 6, aI G 5 ch), (na 7, aI G 5 be), (go, goE ga ((n : Nat) : Int) ((d : Nat) : Int) ((c : Nat) : Int)), (ga 0, aI G 36 (gf 0)), (ga 1, aI G 7 (gf 1)), (ga 2, aI G 7 (gf 2)), (ga 3, aI G 7 (gf 3)), (ga 4, aI G 7 (gf 4)), (ga 5, aI G 6 (gf 5)), (ga 6, aI G 6 (gf 6)), (ga 7, aI G 8 (gf 7))]) (rfl) ?_
      refine x_aload_n 22 rfl dX2_find_21 0 rfl ?_
      refine x_iconst 23 rfl dX2_find_22 (z := 1) (by decide) ?_
      refine x_int (y := (zB true)) (rfl) ?_
      refine x_put 26 rfl 0 0 rfl rfl (by decide) inX2_find_X2 flX2_find_46 tyX2_ok nmX2 rfl rfl (zB_nar _) (zB_fit _) (Nat.le_of_ble_eq_true rfl) (ws' := [(nm, nmE na true fe), (na 0, aI G 480 g1), (na 1, aI G 480 g2), (na 2, aI G 20 cm2), (na 3, .inr (1, [.int (zI e2), .int (zI o2), .int (zI l2), .int (zB a2)])), (na 4, aI G 25 sw), (na 5, aI G 30 op), (na 6, aI G 5 ch), (na 7, aI G 5 be), (go, goE ga ((n : Nat) : Int) ((d : Nat) : Int) ((c : Nat) : Int)), (ga 0, aI G 36 (gf 0)), (ga 1, aI G 7 (gf 1)), (ga 2, aI G 7 (gf 2)), (ga 3, aI G 7 (gf 3)), (ga 4, aI G 7 (gf 4)), (ga 5, aI G 6 (gf 5)), (ga 6, aI G 6 (gf 6)), (ga 7, aI G 8 (gf 7))]) rfl dX2_find_23 ?_
      have L26 : ∀ (g1 : Nat → Int) (g2 : Nat → Int) (cc : Nat → Int) (e1 : Int) (o1 : Int) (l1 : Int) (a1 : Bool) (hT2 : TB g1 g2), W_X2_find G E go ga b n d c gf nm na rd fe f1 f2 cm sw op ch be e0 o0 l0 a0 26 [(0, .ref nm), (1, .ref go)] [] ([(nm, nmE na true fe), (na 0, aI G 480 g1), (na 1, aI G 480 g2), (na 2, aI G 20 cc), (na 3, .inr (1, [.int (zI e1), .int (zI o1), .int (zI l1), .int (zB a1)])), (na 4, aI G 25 sw), (na 5, aI G 30 op), (na 6, aI G 5 ch), (na 7, aI G 5 be), (go, goE ga ((n : Nat) : Int) ((d : Nat) : Int) ((c : Nat) : Int)), (ga 0, aI G 36 (gf 0)), (ga 1, aI G 7 (gf 1)), (ga 2, aI G 7 (gf 2)), (ga 3, aI G 7 (gf 3)), (ga 4, aI G 7 (gf 4)), (ga 5, aI G 6 (gf 5)), (ga 6, aI G 6 (gf 6)), (ga 7, aI G 8 (gf 7))]) := by
        intro g1 g2 cc e1 o1 l1 a1 hT2
        refine x_iconst 27 rfl dX2_find_26 (z := 0) (by decide) ?_
        refine x_istore_n 28 rfl (lv' := [(2, .int (zI 0)), (0, .ref nm), (1, .ref go)]) dX2_find_27 (by decide) rfl ?_
        have L28 : ∀ (fz28 : Nat) (x : Nat) (s2 : Nat → Int) (hx : x ≤ n) (hs2 : ∀ i j, i < x → j < n → s2 (i * 5 + j) = wdN b i j), n - x < fz28 → W_X2_find G E go ga b n d c gf nm na rd fe f1 f2 cm sw op ch be e0 o0 l0 a0 28 [(0, .ref nm), (1, .ref go), (2, .int (zI ((x : Nat) : Int)))] [] ([(nm, nmE na true fe), (na 0, aI G 480 g1), (na 1, aI G 480 g2), (na 2, aI G 20 cc), (na 3, .inr (1, [.int (zI e1), .int (zI o1), .int (zI l1), .int (zB a1)])), (na 4, aI G 25 s2), (na 5, aI G 30 op), (na 6, aI G 5 ch), (na 7, aI G 5 be), (go, goE ga ((n : Nat) : Int) ((d : Nat) : Int) ((c : Nat) : Int)), (ga 0, aI G 36 (gf 0)), (ga 1, aI G 7 (gf 1)), (ga 2, aI G 7 (gf 2)), (ga 3, aI G 7 (gf 3)), (ga 4, aI G 7 (gf 4)), (ga 5, aI G 6 (gf 5)), (ga 6, aI G 6 (gf 6)), (ga 7, aI G 8 (gf 7))]) := by
          intro fz28
          induction fz28 with
          | zero => intro x s2 hx hs2 hf28; exact absurd hf28 (Nat.not_lt_zero _)
          | succ fz28 ih28 =>
            intro x s2 hx hs2 hf28
            refine x_iload_n 29 rfl dX2_find_28 2 rfl ?_
            refine x_aload_n 30 rfl dX2_find_29 1 rfl ?_
            refine x_get 33 rfl (v := .int (zI ((n : Nat) : Int))) 9 0 rfl rfl (by decide) inX2_find_X0 flX2_find_40 rfl dX2_find_30 ?_
            refine x_icmp_ge 36 rfl (tgt := 74) dX2_find_33 (by decide) (by omega) (by omega) (fun h33 => ?_) (fun h33 => ?_)
            · skip
              have hsw2 : ∀ i j, i < n → j < n → s2 (i * 5 + j) = wdN b i j := fun i j hi hj => hs2 i j (by omega) hj
              refine x_iconst 75 rfl dX2_find_74 (z := 0) (by decide) ?_
              refine x_istore_n 76 rfl (lv' := [(2, .int (zI 0)), (0, .ref nm), (1, .ref go)]) dX2_find_75 (by decide) rfl ?_
              have L76 : ∀ (fz76 : Nat) (x : Nat) (o2 : Nat → Int) (hx : x ≤ n) (ho : ∀ i, i < x → o2 i = ((rwN b n i : Nat) : Int)), n - x < fz76 → W_X2_find G E go ga b n d c gf nm na rd fe f1 f2 cm sw op ch be e0 o0 l0 a0 76 [(0, .ref nm), (1, .ref go), (2, .int (zI ((x : Nat) : Int)))] [] ([(nm, nmE na true fe), (na 0, aI G 480 g1), (na 1, aI G 480 g2), (na 2, aI G 20 cc), (na 3, .inr (1, [.int (zI e1), .int (zI o1), .int (zI l1), .int (zB a1)])), (na 4, aI G 25 s2), (na 5, aI G 30 o2), (na 6, aI G 5 ch), (na 7, aI G 5 be), (go, goE ga ((n : Nat) : Int) ((d : Nat) : Int) ((c : Nat) : Int)), (ga 0, aI G 36 (gf 0)), (ga 1, aI G 7 (gf 1)), (ga 2, aI G 7 (gf 2)), (ga 3, aI G 7 (gf 3)), (ga 4, aI G 7 (gf 4)), (ga 5, aI G 6 (gf 5)), (ga 6, aI G 6 (gf 6)), (ga 7, aI G 8 (gf 7))]) := by
                intro fz76
                induction fz76 with
                | zero => intro x o2 hx ho hf76; exact absurd hf76 (Nat.not_lt_zero _)
                | succ fz76 ih76 =>
                  intro x o2 hx ho hf76
                  refine x_iload_n 77 rfl dX2_find_76 2 rfl ?_
                  refine x_aload_n 78 rfl dX2_find_77 1 rfl ?_
                  refine x_get 81 rfl (v := .int (zI ((n : Nat) : Int))) 9 0 rfl rfl (by decide) inX2_find_X0 flX2_find_40 rfl dX2_find_78 ?_
                  refine x_icmp_ge 84 rfl (tgt := 102) dX2_find_81 (by decide) (by omega) (by omega) (fun h81 => ?_) (fun h81 => ?_)
                  · skip
                    refine x_aload_n 103 rfl dX2_find_102 0 rfl ?_
                    refine x_bipush 105 rfl dX2_find_103 (z := 11) (by decide) ?_
                    refine x_put 108 rfl 0 9 rfl rfl (by decide) inX2_find_X2 flX2_find_61 tyX2_ok nmX2 rfl rfl rfl rfl (Nat.le_of_ble_eq_true rfl) (ws' := [(nm, nmE na true 11), (na 0, aI G 480 g1), (na 1, aI G 480 g2), (na 2, aI G 20 cc), (na 3, .inr (1, [.int (zI e1), .int (zI o1), .int (zI l1), .int (zB a1)])), (na 4, aI G 25 s2), (na 5, aI G 30 o2), (na 6, aI G 5 ch), (na 7, aI G 5 be), (go, goE ga ((n : Nat) : Int) ((d : Nat) : Int) ((c : Nat) : Int)), (ga 0, aI G 36 (gf 0)), (ga 1, aI G 7 (gf 1)), (ga 2, aI G 7 (gf 2)), (ga 3, aI G 7 (gf 3)), (ga 4, aI G 7 (gf 4)), (ga 5, aI G 6 (gf 5)), (ga 6, aI G 6 (gf 6)), (ga 7, aI G 8 (gf 7))]) rfl dX2_find_105 ?_
                    refine x_aload_n 109 rfl dX2_find_108 0 rfl ?_
                    refine x_aload_n 110 rfl dX2_find_109 1 rfl ?_
                    refine x_iconst 111 rfl dX2_find_110 (z := 0) (by decide) ?_
                    refine x_iconst 112 rfl dX2_find_111 (z := 0) (by decide) ?_
                    refine x_callS 115 rfl (choose_all G 5 go ga b n d c gf I R nm na true 11 g1 g2 s2 o2 ch be 0 0 h5n (Nat.zero_le _) rfl (fun q hq => absurd hq (Nat.not_lt_zero _)) (fun i _ hi => by rw [op_0, Nat.zero_mul, Nat.zero_add]; exact ho i (by omega)) hsw2 hT2 (by rw [Nat.zero_mul]; exact ⟨-1, Or.inl ⟨rfl, rfl⟩, rfl⟩) (by omega)) [0, 1, 2, 5, 6, 7, 8, 9, 10, 11, 12, 13, 14, 15, 16, 17] rfl (by decide) gX2_find_X2_choose rfl rfl rfl hd_X2_choose ⟨Nat.le_of_ble_eq_true rfl, Nat.le_of_ble_eq_true rfl⟩ (As := [.ref nm, .ref go, .int (zI 0), .int (zI 0)]) (rest := []) rfl rfl (Nat.le_of_ble_eq_true rfl) dX2_find_112 ⟨Nat.zero_le _, Nat.zero_le _⟩ (fun v w hq => ?_)
                    obtain ⟨fe8, op8, ch8, be8, rfl, rfl, hB8, ho8, hc8'⟩ := hq
                    refine ⟨rfl, ?_⟩
                    refine x_ws (ws' := [(nm, nmE na true fe8), (na 0, aI G 480 g1), (na 1, aI G 480 g2), (na 2, aI G 20 cc), (na 3, .inr (1, [.int (zI e1), .int (zI o1), .int (zI l1), .int (zB a1)])), (na 4, aI G 25 s2), (na 5, aI G 30 op8), (na 6, aI G 5 ch8), (na 7, aI G 5 be8), (go, goE ga ((n : Nat) : Int) ((d : Nat) : Int) ((c : Nat) : Int)), (ga 0, aI G 36 (gf 0)), (ga 1, aI G 7 (gf 1)), (ga 2, aI G 7 (gf 2)), (ga 3, aI G 7 (gf 3)), (ga 4, aI G 7 (gf 4)), (ga 5, aI G 6 (gf 5)), (ga 6, aI G 6 (gf 6)), (ga 7, aI G 8 (gf 7))]) (rfl) ?_
                    refine x_aload_n 116 rfl dX2_find_115 0 rfl ?_
                    have hB9 : BSc b n (20 ^ n) fe8 be8 := by rw [Nat.sub_zero, Nat.zero_add, Nat.one_mul] at hB8; exact hB8
                    have hBe := (hB9.end h5n).1
                    have hBr := hB9.r h5n
                    refine x_get 119 rfl (v := .int (zI fe8)) 0 9 rfl rfl (by decide) inX2_find_X2 flX2_find_61 rfl dX2_find_116 ?_
                    refine x_bipush 121 rfl dX2_find_119 (z := 11) (by decide) ?_
                    refine x_icmp_ge 124 rfl (tgt := 128) dX2_find_121 (by decide) (by omega) (by decide) (fun h121 => ?_) (fun h121 => ?_)
                    · skip
                      refine x_iconst 129 rfl dX2_find_128 (z := 0) (by decide) ?_
                      refine x_int (y := zB (decide (nmB b n ≠ -1))) (zB_n (fun hh => by have := hBe.mpr hh; omega)) ?_
                      refine x_zret rfl ?_ dX2_find_129
                      exact ⟨_, _, _, _, _, _, _, _, _, _, _, _, rfl, rfl, hT2, hB9⟩
                    · skip
                      refine x_iconst 125 rfl dX2_find_124 (z := 1) (by decide) ?_
                      refine x_goto dX2_find_125 (tgt := 129) (by decide) ?_
                      refine x_int (y := zB (decide (nmB b n ≠ -1))) (zB_d (hBe.mp (by omega))) ?_
                      refine x_zret rfl ?_ dX2_find_129
                      exact ⟨_, _, _, _, _, _, _, _, _, _, _, _, rfl, rfl, hT2, hB9⟩
                  · skip
                    refine x_aload_n 85 rfl dX2_find_84 0 rfl ?_
                    refine x_get 88 rfl (v := .ref (na 5)) 0 6 rfl rfl (by decide) inX2_find_X2 flX2_find_31 rfl dX2_find_85 ?_
                    refine x_iload_n 89 rfl dX2_find_88 2 rfl ?_
                    refine x_aload_n 90 rfl dX2_find_89 0 rfl ?_
                    refine x_aload_n 91 rfl dX2_find_90 1 rfl ?_
                    refine x_iload_n 92 rfl dX2_find_91 2 rfl ?_
                    have hsw := hsw2
                    have hT := hT2
                    refine x_callV 95 rfl (c_X2_rowsWithOthers G go ga b n d c gf I R nm na true fe g1 g2 s2 x (by omega) (by omega) hsw hT) [0, 1, 2, 5, 9, 10, 11, 12, 13, 14, 15, 16, 17] rfl (by decide) 0 rfl rfl gX2_find_X2_rowsWithOthers rfl rfl rfl hd_X2_rowsWithOthers ⟨Nat.le_of_ble_eq_true rfl, Nat.le_of_ble_eq_true rfl⟩ (As := [.ref go, .int (zI ((x : Nat) : Int))]) (rest := [.int (zI ((x : Nat) : Int)), .ref (na 5)]) rfl rfl (Nat.le_of_ble_eq_true rfl) dX2_find_92 ⟨Nat.zero_le _, Nat.zero_le _⟩ (fun v w hq => ?_)
                    obtain ⟨rfl, rfl⟩ := hq
                    refine ⟨rfl, ?_⟩
                    refine x_ws (ws' := [(nm, nmE na true fe), (na 0, aI G 480 g1), (na 1, aI G 480 g2), (na 2, aI G 20 cc), (na 3, .inr (1, [.int (zI e1), .int (zI o1), .int (zI l1), .int (zB a1)])), (na 4, aI G 25 s2), (na 5, aI G 30 o2), (na 6, aI G 5 ch), (na 7, aI G 5 be), (go, goE ga ((n : Nat) : Int) ((d : Nat) : Int) ((c : Nat) : Int)), (ga 0, aI G 36 (gf 0)), (ga 1, aI G 7 (gf 1)), (ga 2, aI G 7 (gf 2)), (ga 3, aI G 7 (gf 3)), (ga 4, aI G 7 (gf 4)), (ga 5, aI G 6 (gf 5)), (ga 6, aI G 6 (gf 6)), (ga 7, aI G 8 (gf 7))]) (rfl) ?_
                    refine x_iast 96 rfl 6 x rfl (⟨by omega, by omega⟩) (by decide) (ws' := [(nm, nmE na true fe), (na 0, aI G 480 g1), (na 1, aI G 480 g2), (na 2, aI G 20 cc), (na 3, .inr (1, [.int (zI e1), .int (zI o1), .int (zI l1), .int (zB a1)])), (na 4, aI G 25 s2), (na 5, aI G 30 (zup o2 x ((rwN b n x : Nat) : Int))), (na 6, aI G 5 ch), (na 7, aI G 5 be), (go, goE ga ((n : Nat) : Int) ((d : Nat) : Int) ((c : Nat) : Int)), (ga 0, aI G 36 (gf 0)), (ga 1, aI G 7 (gf 1)), (ga 2, aI G 7 (gf 2)), (ga 3, aI G 7 (gf 3)), (ga 4, aI G 7 (gf 4)), (ga 5, aI G 6 (gf 5)), (ga 6, aI G 6 (gf 6)), (ga 7, aI G 8 (gf 7))]) (rfl) dX2_find_95 ?_
                    refine x_iinc 99 rfl (lv' := [(2, .int (zI ((x + 1 : Nat) : Int))), (0, .ref nm), (1, .ref go)]) dX2_find_96 2 rfl (b := ((x + 1 : Nat) : Int)) (by omega) (by decide) rfl ?_
                    refine x_goto dX2_find_99 (tgt := 76) (by decide) ?_
                    refine x_lv [1, 2, 0] rfl ?_
                    exact ih76 (x + 1) (zup o2 x ((rwN b n x : Nat) : Int)) (by omega) (fun i hi => by
                                            by_cases e : i = x
                                            · rw [e, zup_s]
                                            · rw [zup_n _ _ e]; exact ho i (by omega)) (by omega)
              refine x_lv [1, 2, 0] rfl ?_
              exact L76 _ 0 op (by omega) (fun i hi => absurd hi (Nat.not_lt_zero _)) (Nat.lt_succ_self _)
            · skip
              refine x_iconst 37 rfl dX2_find_36 (z := 0) (by decide) ?_
              refine x_istore_n 38 rfl (lv' := [(3, .int (zI 0)), (0, .ref nm), (1, .ref go), (2, .int (zI ((x : Nat) : Int)))]) dX2_find_37 (by decide) rfl ?_
              have L38 : ∀ (fz38 : Nat) (y : Nat) (s2 : Nat → Int) (hy : y ≤ n) (hs2 : ∀ i j, i < x + 1 → (i < x ∧ j < n) ∨ (i = x ∧ j < y) → s2 (i * 5 + j) = wdN b i j), n - y < fz38 → W_X2_find G E go ga b n d c gf nm na rd fe f1 f2 cm sw op ch be e0 o0 l0 a0 38 [(0, .ref nm), (1, .ref go), (2, .int (zI ((x : Nat) : Int))), (3, .int (zI ((y : Nat) : Int)))] [] ([(nm, nmE na true fe), (na 0, aI G 480 g1), (na 1, aI G 480 g2), (na 2, aI G 20 cc), (na 3, .inr (1, [.int (zI e1), .int (zI o1), .int (zI l1), .int (zB a1)])), (na 4, aI G 25 s2), (na 5, aI G 30 op), (na 6, aI G 5 ch), (na 7, aI G 5 be), (go, goE ga ((n : Nat) : Int) ((d : Nat) : Int) ((c : Nat) : Int)), (ga 0, aI G 36 (gf 0)), (ga 1, aI G 7 (gf 1)), (ga 2, aI G 7 (gf 2)), (ga 3, aI G 7 (gf 3)), (ga 4, aI G 7 (gf 4)), (ga 5, aI G 6 (gf 5)), (ga 6, aI G 6 (gf 6)), (ga 7, aI G 8 (gf 7))]) := by
                intro fz38
                induction fz38 with
                | zero => intro y s2 hy hs2 hf38; exact absurd hf38 (Nat.not_lt_zero _)
                | succ fz38 ih38 =>
                  intro y s2 hy hs2 hf38
                  refine x_iload_n 39 rfl dX2_find_38 3 rfl ?_
                  refine x_aload_n 40 rfl dX2_find_39 1 rfl ?_
                  refine x_get 43 rfl (v := .int (zI ((n : Nat) : Int))) 9 0 rfl rfl (by decide) inX2_find_X0 flX2_find_40 rfl dX2_find_40 ?_
                  refine x_icmp_ge 46 rfl (tgt := 68) dX2_find_43 (by decide) (by omega) (by omega) (fun h43 => ?_) (fun h43 => ?_)
                  · skip
                    refine x_iinc 71 rfl (lv' := [(2, .int (zI ((x + 1 : Nat) : Int))), (0, .ref nm), (1, .ref go), (3, .int (zI ((y : Nat) : Int)))]) dX2_find_68 2 rfl (b := ((x + 1 : Nat) : Int)) (by omega) (by decide) rfl ?_
                    refine x_goto dX2_find_71 (tgt := 28) (by decide) ?_
                    refine x_lv [1, 2, 0] rfl ?_
                    exact ih28 (x + 1) s2 (by omega) (fun i j hi hj => hs2 i j (by omega) (by omega)) (by omega)
                  · skip
                    refine x_aload_n 47 rfl dX2_find_46 0 rfl ?_
                    refine x_get 50 rfl (v := .ref (na 4)) 0 5 rfl rfl (by decide) inX2_find_X2 flX2_find_28 rfl dX2_find_47 ?_
                    refine x_iload_n 51 rfl dX2_find_50 2 rfl ?_
                    refine x_iconst 52 rfl dX2_find_51 (z := 5) (by decide) ?_
                    refine x_imul 53 rfl dX2_find_52 (z := ((x * 5 : Nat) : Int)) (by omega) ?_
                    refine x_iload_n 54 rfl dX2_find_53 3 rfl ?_
                    refine x_iadd 55 rfl dX2_find_54 (z := ((x * 5 + y : Nat) : Int)) (by omega) ?_
                    refine x_aload_n 56 rfl dX2_find_55 1 rfl ?_
                    refine x_iload_n 57 rfl dX2_find_56 2 rfl ?_
                    refine x_iload_n 58 rfl dX2_find_57 3 rfl ?_
                    refine x_callV 61 rfl (c_X0_greatestSharedWind G go ga b n d c gf I R x y (by omega) (by omega)) [9, 10, 11, 12, 13, 14, 15, 16, 17] rfl (by decide) 9 rfl rfl gX2_find_X0_greatestSharedWind rfl rfl rfl hd_X0_greatestSharedWind ⟨Nat.le_of_ble_eq_true rfl, Nat.le_of_ble_eq_true rfl⟩ (As := [.int (zI ((x : Nat) : Int)), .int (zI ((y : Nat) : Int))]) (rest := [.int (zI ((x * 5 + y : Nat) : Int)), .ref (na 4)]) rfl rfl (Nat.le_of_ble_eq_true rfl) dX2_find_58 ⟨Nat.zero_le _, Nat.zero_le _⟩ (fun v w hq => ?_)
                    obtain ⟨rfl, rfl⟩ := hq
                    refine ⟨rfl, ?_⟩
                    refine x_ws (ws' := [(nm, nmE na true fe), (na 0, aI G 480 g1), (na 1, aI G 480 g2), (na 2, aI G 20 cc), (na 3, .inr (1, [.int (zI e1), .int (zI o1), .int (zI l1), .int (zB a1)])), (na 4, aI G 25 s2), (na 5, aI G 30 op), (na 6, aI G 5 ch), (na 7, aI G 5 be), (go, goE ga ((n : Nat) : Int) ((d : Nat) : Int) ((c : Nat) : Int)), (ga 0, aI G 36 (gf 0)), (ga 1, aI G 7 (gf 1)), (ga 2, aI G 7 (gf 2)), (ga 3, aI G 7 (gf 3)), (ga 4, aI G 7 (gf 4)), (ga 5, aI G 6 (gf 5)), (ga 6, aI G 6 (gf 6)), (ga 7, aI G 8 (gf 7))]) (rfl) ?_
                    refine x_iast 62 rfl 5 (x * 5 + y) rfl (⟨by omega, by omega⟩) (by decide) (ws' := [(nm, nmE na true fe), (na 0, aI G 480 g1), (na 1, aI G 480 g2), (na 2, aI G 20 cc), (na 3, .inr (1, [.int (zI e1), .int (zI o1), .int (zI l1), .int (zB a1)])), (na 4, aI G 25 (zup s2 (x * 5 + y) (wdN b x y))), (na 5, aI G 30 op), (na 6, aI G 5 ch), (na 7, aI G 5 be), (go, goE ga ((n : Nat) : Int) ((d : Nat) : Int) ((c : Nat) : Int)), (ga 0, aI G 36 (gf 0)), (ga 1, aI G 7 (gf 1)), (ga 2, aI G 7 (gf 2)), (ga 3, aI G 7 (gf 3)), (ga 4, aI G 7 (gf 4)), (ga 5, aI G 6 (gf 5)), (ga 6, aI G 6 (gf 6)), (ga 7, aI G 8 (gf 7))]) (rfl) dX2_find_61 ?_
                    refine x_iinc 65 rfl (lv' := [(3, .int (zI ((y + 1 : Nat) : Int))), (0, .ref nm), (1, .ref go), (2, .int (zI ((x : Nat) : Int)))]) dX2_find_62 3 rfl (b := ((y + 1 : Nat) : Int)) (by omega) (by decide) rfl ?_
                    refine x_goto dX2_find_65 (tgt := 38) (by decide) ?_
                    refine x_lv [1, 2, 3, 0] rfl ?_
                    exact ih38 (y + 1) (zup s2 (x * 5 + y) (wdN b x y)) (by omega) (fun i j hi hj => by
                                            by_cases e : i = x ∧ j = y
                                            · obtain ⟨rfl, rfl⟩ := e; rw [zup_s]
                                            · rw [zup_n _ _ (by omega)]; exact hs2 i j hi (by omega)) (by omega)
              refine x_lv [1, 2, 3, 0] rfl ?_
              exact L38 _ 0 s2 (by omega) (fun i j hi hj => hs2 i j (by omega) (by omega)) (Nat.lt_succ_self _)
        refine x_lv [1, 2, 0] rfl ?_
        exact L28 _ 0 sw (by omega) (fun i j hi => absurd hi (Nat.not_lt_zero _)) (Nat.lt_succ_self _)
      exact L26 g1 g2 cm2 e2 o2 l2 a2 (hg)
  · skip
    omega

