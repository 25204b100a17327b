theorem hd_X7_fits : yX7_fits.cls = RX7 ∧ yX7_fits.cls ≠ "java/lang/invoke/MethodHandle" ∧ yX7_fits.cls ≠ "java/lang/invoke/VarHandle" ∧ (parseMethodDescriptor yX7_fits.desc).map (fun d => d.parameters.length) = some 1 := by decide +kernel
theorem hd_X7_fewest : yX7_fewest.cls = RX7 ∧ yX7_fewest.cls ≠ "java/lang/invoke/MethodHandle" ∧ yX7_fewest.cls ≠ "java/lang/invoke/VarHandle" ∧ (parseMethodDescriptor yX7_fewest.desc).map (fun d => d.parameters.length) = some 0 := by decide +kernel
theorem hd_X7_names : yX7_names.cls = RX7 ∧ yX7_names.cls ≠ "java/lang/invoke/MethodHandle" ∧ yX7_names.cls ≠ "java/lang/invoke/VarHandle" ∧ (parseMethodDescriptor yX7_names.desc).map (fun d => d.parameters.length) = some 1 := by decide +kernel
abbrev P_X7_fits (G : XG) (mo : Nat) (ad : Nat → Nat) (qt : Bool) (sc : Nat → Int) (mf : Nat → Bool) (rw_ : Nat → Int) (p : Nat) (r : Nat → Nat) : Option Value → va_W → Prop := fun v ws => v = some (.int (zB (allF (fun q => mf ((5 * q + p) * 400 + 20 * r q + r p)) p))) ∧ ws = [(mo, moE ad qt sc), (ad 7, aZ G 10000 mf), (ad 8, aI G 5 rw_)]
abbrev W_X7_fits (G : XG) (E : XE) (mo : Nat) (ad : Nat → Nat) (qt : Bool) (sc : Nat → Int) (mf : Nat → Bool) (rw_ : Nat → Int) (p : Nat) (r : Nat → Nat) (pc : Nat) (lv : List (Nat × Value)) (st : List Value) (ws : va_W) : Prop := Wx G E (rmL 0) cX7_fits 4 RX7 wsX7_fits (some .boolean) "fits" 0 0 (P_X7_fits G mo ad qt sc mf rw_ p r) 0 0 pc lv st ws
theorem flX7_fits_32 : Cond.fieldLink RX7 32 (TX7 14).1 (TX7 14).2.1 (TX7 14).2.2.1 ∈ wsX7_fits := by decide +kernel
theorem flX7_fits_35 : Cond.fieldLink RX7 35 (TX7 15).1 (TX7 15).2.1 (TX7 15).2.2.1 ∈ wsX7_fits := by decide +kernel
theorem inX7_fits_X7 : ∀ w ∈ u_ws RX7 TX7 18, w ∈ wsX7_fits := fun _ h => List.mem_cons_of_mem _ (List.mem_append_right _ h)
set_option maxHeartbeats 4000000 in
set_option maxRecDepth 100000 in
/-- fits -/
theorem c_X7_fits (G : XG) (mo : Nat) (ad : Nat → Nat) (qt : Bool) (sc : Nat → Int) (mf : Nat → Bool) (rw_ : Nat → Int) (p : Nat) (r : Nat → Nat) (hp : p < 5) (hr : ∀ q, q ≤ p → rw_ q = ((r q : Nat) : Int) ∧ r q < 20) : Con G yX7_fits wsX7_fits (rmL 0) 0 0 [.ref mo, .int (zI ((p : Nat) : Int))] ([(mo, moE ad qt sc), (ad 7, aZ G 10000 mf), (ad 8, aI G 5 rw_)]) (P_X7_fits G mo ad qt sc mf rw_ p r) := by
  refine x_start (cc := cX7_fits) (nL := 4) (ret := (some .boolean)) (by decide) rfl (Nat.le_of_ble_eq_true rfl) (fun E => ?_)
  show W_X7_fits G E mo ad qt sc mf rw_ p r 0 [(0, .ref mo), (1, .int (zI ((p : Nat) : Int)))] [] ([(mo, moE ad qt sc), (ad 7, aZ G 10000 mf), (ad 8, aI G 5 rw_)])
  have hrp := hr p (Nat.le_refl p)
  refine x_iconst 1 rfl dX7_fits_0 (z := 1) (by decide) ?_
  refine x_istore_n 2 rfl (lv' := [(2, .int (zI 1)), (0, .ref mo), (1, .int (zI ((p : Nat) : Int)))]) dX7_fits_1 (by decide) rfl ?_
  refine x_iconst 3 rfl dX7_fits_2 (z := 0) (by decide) ?_
  refine x_istore_n 4 rfl (lv' := [(3, .int (zI 0)), (2, .int (zI 1)), (0, .ref mo), (1, .int (zI ((p : Nat) : Int)))]) dX7_fits_3 (by decide) rfl ?_
  have L4 : ∀ (f4 : Nat) (q : Nat) (hq : q ≤ p), p - q < f4 → W_X7_fits G E mo ad qt sc mf rw_ p r 4 [(0, .ref mo), (1, .int (zI ((p : Nat) : Int))), (2, .int (zB (allF (fun q => mf ((5 * q + p) * 400 + 20 * r q + r p)) q))), (3, .int (zI ((q : Nat) : Int)))] [] ([(mo, moE ad qt sc), (ad 7, aZ G 10000 mf), (ad 8, aI G 5 rw_)]) := by
    intro f4
    induction f4 with
    | zero => intro q hq hf4; exact absurd hf4 (Nat.not_lt_zero _)
    | succ f4 ih4 =>
      intro q hq hf4
      refine x_iload_n 5 rfl dX7_fits_4 3 rfl ?_
      refine x_iload_n 6 rfl dX7_fits_5 1 rfl ?_
      refine x_icmp_ge 9 rfl (tgt := 59) dX7_fits_6 (by decide) (by omega) (by omega) (fun h6 => ?_) (fun h6 => ?_)
      · skip
        refine x_iload_n 60 rfl dX7_fits_59 2 rfl ?_
        refine x_zret rfl ?_ dX7_fits_60
        have e : q = p := by omega
        exact ⟨by rw [e], rfl⟩
      · skip
        have hrq := hr q (by omega)
        refine x_iload_n 10 rfl dX7_fits_9 2 rfl ?_
        refine x_bif_eq 13 rfl (tgt := 51) dX7_fits_10 (by decide) (fun h10 => ?_) (fun h10 => ?_)
        · skip
          refine x_iconst 52 rfl dX7_fits_51 (z := 0) (by decide) ?_
          refine x_istore_n 53 rfl (lv' := [(2, .int (zI 0)), (0, .ref mo), (1, .int (zI ((p : Nat) : Int))), (3, .int (zI ((q : Nat) : Int)))]) dX7_fits_52 (by decide) rfl ?_
          refine x_iinc 56 rfl (lv' := [(3, .int (zI ((q + 1 : Nat) : Int))), (2, .int (zI 0)), (0, .ref mo), (1, .int (zI ((p : Nat) : Int)))]) dX7_fits_53 3 rfl (b := ((q + 1 : Nat) : Int)) (by omega) (by decide) rfl ?_
          refine x_goto dX7_fits_56 (tgt := 4) (by decide) ?_
          refine x_lve (congrArg (fun zz : Int32 => ([(3, .int (zI ((q + 1 : Nat) : Int))), (2, .int zz), (0, .ref mo), (1, .int (zI ((p : Nat) : Int)))] : List (Nat × Value))) (zB_f (allF_f1 h10) : (zI 0) = (zB (allF (fun q => mf ((5 * q + p) * 400 + 20 * r q + r p)) (q + 1))))) ?_
          refine x_lv [2, 3, 1, 0] rfl ?_
          exact ih4 (q + 1) (by omega) (by omega)
        · skip
          refine x_aload_n 14 rfl dX7_fits_13 0 rfl ?_
          refine x_get 17 rfl (v := .ref (ad 7)) 0 14 rfl rfl (by decide) inX7_fits_X7 flX7_fits_32 rfl dX7_fits_14 ?_
          refine x_iconst 18 rfl dX7_fits_17 (z := 5) (by decide) ?_
          refine x_iload_n 19 rfl dX7_fits_18 3 rfl ?_
          refine x_imul 20 rfl dX7_fits_19 (z := ((5 * q : Nat) : Int)) (by omega) ?_
          refine x_iload_n 21 rfl dX7_fits_20 1 rfl ?_
          refine x_iadd 22 rfl dX7_fits_21 (z := ((5 * q + p : Nat) : Int)) (by omega) ?_
          refine x_sipush 25 rfl dX7_fits_22 (z := 400) (by decide) ?_
          refine x_imul 26 rfl dX7_fits_25 (z := (((5 * q + p) * 400 : Nat) : Int)) (by omega) ?_
          refine x_bipush 28 rfl dX7_fits_26 (z := 20) (by decide) ?_
          refine x_aload_n 29 rfl dX7_fits_28 0 rfl ?_
          refine x_get 32 rfl (v := .ref (ad 8)) 0 15 rfl rfl (by decide) inX7_fits_X7 flX7_fits_35 rfl dX7_fits_29 ?_
          refine x_iload_n 33 rfl dX7_fits_32 3 rfl ?_
          refine x_iald 34 rfl 2 q rfl (⟨by omega, by omega⟩) (by decide) (v := ((r q : Nat) : Int)) (hrq.1) dX7_fits_33 ?_
          refine x_imul 35 rfl dX7_fits_34 (z := ((20 * (r q) : Nat) : Int)) (by omega) ?_
          refine x_iadd 36 rfl dX7_fits_35 (z := (((5 * q + p) * 400 + (20 * (r q)) : Nat) : Int)) (by omega) ?_
          refine x_aload_n 37 rfl dX7_fits_36 0 rfl ?_
          refine x_get 40 rfl (v := .ref (ad 8)) 0 15 rfl rfl (by decide) inX7_fits_X7 flX7_fits_35 rfl dX7_fits_37 ?_
          refine x_iload_n 41 rfl dX7_fits_40 1 rfl ?_
          refine x_iald 42 rfl 2 p rfl (⟨by omega, by omega⟩) (by decide) (v := ((r p : Nat) : Int)) (hrp.1) dX7_fits_41 ?_
          refine x_iadd 43 rfl dX7_fits_42 (z := (((5 * q + p) * 400 + (20 * (r q)) + (r p) : Nat) : Int)) (by omega) ?_
          refine x_zald 44 rfl 1 ((5 * q + p) * 400 + 20 * r q + r p) rfl (⟨by omega, by omega⟩) (by decide) (v := mf ((5 * q + p) * 400 + 20 * r q + r p)) (rfl) dX7_fits_43 ?_
          refine x_bif_eq 47 rfl (tgt := 51) dX7_fits_44 (by decide) (fun h44 => ?_) (fun h44 => ?_)
          · skip
            refine x_iconst 52 rfl dX7_fits_51 (z := 0) (by decide) ?_
            refine x_istore_n 53 rfl (lv' := [(2, .int (zI 0)), (0, .ref mo), (1, .int (zI ((p : Nat) : Int))), (3, .int (zI ((q : Nat) : Int)))]) dX7_fits_52 (by decide) rfl ?_
            refine x_iinc 56 rfl (lv' := [(3, .int (zI ((q + 1 : Nat) : Int))), (2, .int (zI 0)), (0, .ref mo), (1, .int (zI ((p : Nat) : Int)))]) dX7_fits_53 3 rfl (b := ((q + 1 : Nat) : Int)) (by omega) (by decide) rfl ?_
            refine x_goto dX7_fits_56 (tgt := 4) (by decide) ?_
            refine x_lve (congrArg (fun zz : Int32 => ([(3, .int (zI ((q + 1 : Nat) : Int))), (2, .int zz), (0, .ref mo), (1, .int (zI ((p : Nat) : Int)))] : List (Nat × Value))) (zB_f (allF_f2 (f := (fun q => mf ((5 * q + p) * 400 + 20 * r q + r p))) h44) : (zI 0) = (zB (allF (fun q => mf ((5 * q + p) * 400 + 20 * r q + r p)) (q + 1))))) ?_
            refine x_lv [2, 3, 1, 0] rfl ?_
            exact ih4 (q + 1) (by omega) (by omega)
          · skip
            refine x_iconst 48 rfl dX7_fits_47 (z := 1) (by decide) ?_
            refine x_goto dX7_fits_48 (tgt := 52) (by decide) ?_
            refine x_istore_n 53 rfl (lv' := [(2, .int (zI 1)), (0, .ref mo), (1, .int (zI ((p : Nat) : Int))), (3, .int (zI ((q : Nat) : Int)))]) dX7_fits_52 (by decide) rfl ?_
            refine x_iinc 56 rfl (lv' := [(3, .int (zI ((q + 1 : Nat) : Int))), (2, .int (zI 1)), (0, .ref mo), (1, .int (zI ((p : Nat) : Int)))]) dX7_fits_53 3 rfl (b := ((q + 1 : Nat) : Int)) (by omega) (by decide) rfl ?_
            refine x_goto dX7_fits_56 (tgt := 4) (by decide) ?_
            refine x_lve (congrArg (fun zz : Int32 => ([(3, .int (zI ((q + 1 : Nat) : Int))), (2, .int zz), (0, .ref mo), (1, .int (zI ((p : Nat) : Int)))] : List (Nat × Value))) (zB_t (allF_t (f := (fun q => mf ((5 * q + p) * 400 + 20 * r q + r p))) h10 h44) : (zI 1) = (zB (allF (fun q => mf ((5 * q + p) * 400 + 20 * r q + r p)) (q + 1))))) ?_
            refine x_lv [2, 3, 1, 0] rfl ?_
            exact ih4 (q + 1) (by omega) (by omega)
  refine x_lve (congrArg (fun zz : Int32 => ([(3, .int (zI 0)), (2, .int zz), (0, .ref mo), (1, .int (zI ((p : Nat) : Int)))] : List (Nat × Value))) (rfl : (zI 1) = (zB (allF (fun q => mf ((5 * q + p) * 400 + 20 * r q + r p)) 0)))) ?_
  refine x_lv [2, 3, 1, 0] rfl ?_
  exact L4 _ 0 (by omega) (Nat.lt_succ_self _)

abbrev P_X7_fewest (G : XG) (mo : Nat) (ad : Nat → Nat) (qt : Bool) (sc : Nat → Int) (b : Nat → Int) (mf : Nat → Bool) (rw0 : Nat → Int) (be0 : Nat → Int) (n : Nat) (d : Nat) (c : Nat) : Option Value → va_W → Prop := fun v ws => ∃ (mf' : Nat → Bool) (rw' be' : Nat → Int), v = some (.int (zI (nmV b n))) ∧ ws = [(mo, moE ad qt sc), (ad 0, aI G 66 b), (ad 7, aZ G 10000 mf'), (ad 8, aI G 5 rw'), (ad 9, aI G 5 be')] ∧ ∀ e : Nat, nmB b n = ((e : Nat) : Int) → ∀ i, i < n → be' i = ((dgt n e i : Nat) : Int)
abbrev W_X7_fewest (G : XG) (E : XE) (mo : Nat) (ad : Nat → Nat) (qt : Bool) (sc : Nat → Int) (b : Nat → Int) (mf : Nat → Bool) (rw0 : Nat → Int) (be0 : Nat → Int) (n : Nat) (d : Nat) (c : Nat) (pc : Nat) (lv : List (Nat × Value)) (st : List Value) (ws : va_W) : Prop := Wx G E (rmL 7) cX7_fewest 8 RX7 wsX7_fewest (some .int) "fewest" 0 0 (P_X7_fewest G mo ad qt sc b mf rw0 be0 n d c) 0 0 pc lv st ws
theorem flX7_fewest_7 : Cond.fieldLink RX7 7 (TX7 0).1 (TX7 0).2.1 (TX7 0).2.2.1 ∈ wsX7_fewest := by decide +kernel
theorem flX7_fewest_32 : Cond.fieldLink RX7 32 (TX7 14).1 (TX7 14).2.1 (TX7 14).2.2.1 ∈ wsX7_fewest := by decide +kernel
theorem flX7_fewest_35 : Cond.fieldLink RX7 35 (TX7 15).1 (TX7 15).2.1 (TX7 15).2.2.1 ∈ wsX7_fewest := by decide +kernel
theorem flX7_fewest_38 : Cond.fieldLink RX7 38 (TX7 16).1 (TX7 16).2.1 (TX7 16).2.2.1 ∈ wsX7_fewest := by decide +kernel
theorem inX7_fewest_X7 : ∀ w ∈ u_ws RX7 TX7 18, w ∈ wsX7_fewest := fun _ h => List.mem_cons_of_mem _ (List.mem_append_right _ h)
set_option maxHeartbeats 200000 in
set_option maxRecDepth 100000 in
/-- fewest -/
theorem c_X7_fewest (G : XG) (mo : Nat) (ad : Nat → Nat) (qt : Bool) (sc : Nat → Int) (b : Nat → Int) (mf : Nat → Bool) (rw0 be0 : Nat → Int) (n d c : Nat) (I : Inv b n d c) (hn5 : n ≤ 5) : Con G yX7_fewest wsX7_fewest (rmL 7) 0 0 [.ref mo] ([(mo, moE ad qt sc), (ad 0, aI G 66 b), (ad 7, aZ G 10000 mf), (ad 8, aI G 5 rw0), (ad 9, aI G 5 be0)]) (P_X7_fewest G mo ad qt sc b mf rw0 be0 n d c) := by
  refine x_start (cc := cX7_fewest) (nL := 8) (ret := (some .int)) (by decide) rfl (Nat.le_of_ble_eq_true rfl) (fun E => ?_)
  show W_X7_fewest G E mo ad qt sc b mf rw0 be0 n d c 0 [(0, .ref mo)] [] ([(mo, moE ad qt sc), (ad 0, aI G 66 b), (ad 7, aZ G 10000 mf), (ad 8, aI G 5 rw0), (ad 9, aI G 5 be0)])
  have hn := I.n1
  refine x_aload_n 1 rfl dX7_fewest_0 0 rfl ?_
  refine x_get 4 rfl (v := .ref (ad 0)) 0 0 rfl rfl (by decide) inX7_fewest_X7 flX7_fewest_7 rfl dX7_fewest_1 ?_
  refine x_bipush 6 rfl dX7_fewest_4 (z := 15) (by decide) ?_
  refine x_iald 7 rfl 1 15 rfl (⟨by omega, by omega⟩) (by decide) (v := ((n : Nat) : Int)) (hn) dX7_fewest_6 ?_
  refine x_istore_n 8 rfl (lv' := [(1, .int (zI ((n : Nat) : Int))), (0, .ref mo)]) dX7_fewest_7 (by decide) rfl ?_
  refine x_iconst 9 rfl dX7_fewest_8 (z := 0) (by decide) ?_
  refine x_istore_n 10 rfl (lv' := [(2, .int (zI 0)), (1, .int (zI ((n : Nat) : Int))), (0, .ref mo)]) dX7_fewest_9 (by decide) rfl ?_
  have L10 : ∀ (f10 : Nat) (q : Nat) (f : Nat → Bool) (hq : q ≤ n) (hD : ∀ q' p' k', q' < p' → p' < n → k' < 400 → (q' < q ∨ (q' = q ∧ (p' < 0 ∨ (p' = 0 ∧ k' < 0)))) → f ((5 * q' + p') * 400 + k') = cpN b q' p' (k' / 20) (k' % 20)), n - q < f10 → W_X7_fewest G E mo ad qt sc b mf rw0 be0 n d c 10 [(0, .ref mo), (1, .int (zI ((n : Nat) : Int))), (2, .int (zI ((q : Nat) : Int)))] [] ([(mo, moE ad qt sc), (ad 0, aI G 66 b), (ad 7, aZ G 10000 f), (ad 8, aI G 5 rw0), (ad 9, aI G 5 be0)]) := by
    intro f10
    induction f10 with
    | zero => intro q f hq hD hf10; exact absurd hf10 (Nat.not_lt_zero _)
    | succ f10 ih10 =>
      intro q f hq hD hf10
      refine x_iload_n 11 rfl dX7_fewest_10 2 rfl ?_
      refine x_iload_n 12 rfl dX7_fewest_11 1 rfl ?_
      refine x_icmp_ge 15 rfl (tgt := 150) dX7_fewest_12 (by decide) (by omega) (by omega) (fun h12 => ?_) (fun h12 => ?_)
      · skip
        have hM : ∀ q' p' k', q' < p' → p' < n → k' < 400 → f ((5 * q' + p') * 400 + k') = cpN b q' p' (k' / 20) (k' % 20) := fun q' p' k' h1 h2 h3 => hD q' p' k' h1 h2 h3 (by omega)
        refine x_iconst 151 rfl dX7_fewest_150 (z := (-1)) (by decide) ?_
        refine x_istore_n 152 rfl (lv' := [(2, .int (zI (-1))), (0, .ref mo), (1, .int (zI ((n : Nat) : Int)))]) dX7_fewest_151 (by decide) rfl ?_
        refine x_iconst 153 rfl dX7_fewest_152 (z := 0) (by decide) ?_
        refine x_istore_n 154 rfl (lv' := [(3, .int (zI 0)), (2, .int (zI (-1))), (0, .ref mo), (1, .int (zI ((n : Nat) : Int)))]) dX7_fewest_153 (by decide) rfl ?_
        refine x_iconst 155 rfl dX7_fewest_154 (z := 0) (by decide) ?_
        refine x_istore 157 rfl (lv' := [(4, .int (zI 0)), (3, .int (zI 0)), (2, .int (zI (-1))), (0, .ref mo), (1, .int (zI ((n : Nat) : Int)))]) dX7_fewest_155 (by decide) rfl ?_
        refine x_iload_n 158 rfl dX7_fewest_157 4 rfl ?_
        refine x_if_ne 161 rfl (tgt := 163) dX7_fewest_158 (by decide) (by omega) (fun h158 => ?_) (fun h158 => ?_)
        · skip
          refine x_aload_n 164 rfl dX7_fewest_163 3 rfl ?_
          refine x_get 167 rfl (v := .ref (ad 8)) 0 15 rfl rfl (by decide) inX7_fewest_X7 flX7_fewest_35 rfl dX7_fewest_164 ?_
          refine x_iconst 168 rfl dX7_fewest_167 (z := 0) (by decide) ?_
          refine x_iconst 169 rfl dX7_fewest_168 (z := (-1)) (by decide) ?_
          refine x_iast 170 rfl 3 0 rfl (⟨by omega, by omega⟩) (by decide) (ws' := [(mo, moE ad qt sc), (ad 0, aI G 66 b), (ad 7, aZ G 10000 f), (ad 8, aI G 5 (zup rw0 0 (-1))), (ad 9, aI G 5 be0)]) (rfl) dX7_fewest_169 ?_
          have L170 : ∀ (f170 : Nat) (P : Nat) (A : Nat) (u : Nat) (l : Int) (sm : Int) (rw_ : Nat → Int) (be : Nat → Int) (hP : P ≤ n) (hA : A < 20 ^ (P - 1)) (hu : u ≤ 20) (hrow : 1 ≤ P → (∀ j, j < P - 1 → rw_ j = ((dgt (P - 1) A j : Nat) : Int)) ∧ rw_ (P - 1) = ((u : Nat) : Int) - 1) (hok : 1 ≤ P → okA (cpN b) (P - 1) A = true) (hsm : 1 ≤ P → sm = ((cA (P - 1) A + (if u = 0 then 0 else cN (u - 1)) : Nat) : Int)) (hE : BS (cpN b) n (if P = 0 then 20 ^ n else (A * 20 + u) * 20 ^ (n - P)) l be), muN n P A u < f170 → W_X7_fewest G E mo ad qt sc b mf rw0 be0 n d c 170 [(0, .ref mo), (1, .int (zI ((n : Nat) : Int))), (2, .int (zI l)), (3, .int (zI (((P : Nat) : Int) - 1))), (4, .int (zI sm))] [] ([(mo, moE ad qt sc), (ad 0, aI G 66 b), (ad 7, aZ G 10000 f), (ad 8, aI G 5 rw_), (ad 9, aI G 5 be)]) := by
            intro f170
            induction f170 with
            | zero => intro P A u l sm rw_ be hP hA hu hrow hok hsm hE hf170; exact absurd hf170 (Nat.not_lt_zero _)
            | succ f170 ih170 =>
              intro P A u l sm rw_ be hP hA hu hrow hok hsm hE hf170
              refine x_iload_n 171 rfl dX7_fewest_170 3 rfl ?_
              refine x_if_lt 174 rfl (tgt := 328) dX7_fewest_171 (by decide) (by omega) (fun h171 => ?_) (fun h171 => ?_)
              · skip
                refine x_iload_n 329 rfl dX7_fewest_328 2 rfl ?_
                refine x_iret rfl ?_ dX7_fewest_329
                have hP0 : P = 0 := by omega
                rw [if_pos hP0] at hE
                exact ⟨f, rw_, be, by rw [hE.fin.1], rfl, hE.fin.2⟩
              · skip
                obtain ⟨p, rfl⟩ : ∃ p, P = p + 1 := ⟨P - 1, by omega⟩
                have hrw := hrow (by omega)
                have hokp : okA (cpN b) p A = true := hok (by omega)
                have hsp : sm = ((cA p A + (if u = 0 then 0 else cN (u - 1)) : Nat) : Int) := hsm (by omega)
                have hEp : BS (cpN b) n ((A * 20 + u) * 20 ^ (n - (p + 1))) l be := by rw [if_neg (by omega)] at hE; exact hE
                have hlr := hEp.r
                have hcl := cA_le p A
                rw [show p + 1 - 1 = p by omega] at hA hrw
                refine x_lve (congrArg (fun zz : Int => ([(0, .ref mo), (1, .int (zI ((n : Nat) : Int))), (2, .int (zI l)), (3, .int (zI zz)), (4, .int (zI sm))] : List (Nat × Value))) (by omega : ((p + 1 : Nat) : Int) - 1 = ((p : Nat) : Int))) ?_
                refine x_iload 176 rfl dX7_fewest_174 4 rfl ?_
                refine x_aload_n 177 rfl dX7_fewest_176 0 rfl ?_
                refine x_get 180 rfl (v := .ref (ad 8)) 0 15 rfl rfl (by decide) inX7_fewest_X7 flX7_fewest_35 rfl dX7_fewest_177 ?_
                refine x_iload_n 181 rfl dX7_fewest_180 3 rfl ?_
                refine x_iald 182 rfl 3 p rfl (⟨by omega, by omega⟩) (by decide) (v := ((u : Nat) : Int) - 1) (hrw.2) dX7_fewest_181 ?_
                refine x_if_ge 185 rfl (tgt := 189) dX7_fewest_182 (by decide) (by omega) (fun h182 => ?_) (fun h182 => ?_)
                · skip
                  refine x_aload_n 190 rfl dX7_fewest_189 0 rfl ?_
                  refine x_get 193 rfl (v := .ref (ad 8)) 0 15 rfl rfl (by decide) inX7_fewest_X7 flX7_fewest_35 rfl dX7_fewest_190 ?_
                  refine x_iload_n 194 rfl dX7_fewest_193 3 rfl ?_
                  refine x_iald 195 rfl 3 p rfl (⟨by omega, by omega⟩) (by decide) (v := ((u - 1 : Nat) : Int)) (by rw [hrw.2]; omega) dX7_fewest_194 ?_
                  refine x_callS0 198 rfl (c_X7_tuneOf G (u - 1) (by omega)) (fun _ _ h => h.2) gX7_fewest_X7_tuneOf rfl rfl rfl hd_X7_tuneOf ⟨Nat.le_of_ble_eq_true rfl, Nat.le_of_ble_eq_true rfl⟩ (As := [.int (zI ((u - 1 : Nat) : Int))]) (rest := [.int (zI sm)]) rfl rfl (Nat.le_of_ble_eq_true rfl) dX7_fewest_195 ⟨Nat.zero_le _, Nat.zero_le _⟩ (fun v hq => ?_)
                  obtain ⟨rfl, -⟩ := hq
                  refine x_callS0 201 rfl (c_X7_notes G (tuneOfN (u - 1)) (by have := vt_lt (tuneOf_vt (k := u - 1) (by omega)); omega)) (fun _ _ h => h.2) gX7_fewest_X7_notes rfl rfl rfl hd_X7_notes ⟨Nat.le_of_ble_eq_true rfl, Nat.le_of_ble_eq_true rfl⟩ (As := [.int (zI ((tuneOfN (u - 1) : Nat) : Int))]) (rest := [.int (zI sm)]) rfl rfl (Nat.le_of_ble_eq_true rfl) dX7_fewest_198 ⟨Nat.zero_le _, Nat.zero_le _⟩ (fun v hq => ?_)
                  obtain ⟨rfl, -⟩ := hq
                  refine x_int (congrArg zI (by rw [tuneOf_n (by omega)]; rfl : ((notesN (tuneOfN (u - 1)) : Nat) : Int) = ((cN (u - 1) : Nat) : Int))) ?_
                  refine x_isub 202 rfl dX7_fewest_201 (z := ((cA p A : Nat) : Int)) (by rw [hsp]; split <;> omega) ?_
                  refine x_istore 204 rfl (lv' := [(4, .int (zI ((cA p A : Nat) : Int))), (0, .ref mo), (1, .int (zI ((n : Nat) : Int))), (2, .int (zI l)), (3, .int (zI ((p : Nat) : Int)))]) dX7_fewest_202 (by decide) rfl ?_
                  refine x_aload_n 205 rfl dX7_fewest_204 1 rfl ?_
                  refine x_get 208 rfl (v := .ref (ad 8)) 0 15 rfl rfl (by decide) inX7_fewest_X7 flX7_fewest_35 rfl dX7_fewest_205 ?_
                  refine x_iload_n 209 rfl dX7_fewest_208 4 rfl ?_
                  refine x_dup2 210 rfl dX7_fewest_209 rfl rfl ?_
                  refine x_iald 211 rfl 3 p rfl (⟨by omega, by omega⟩) (by decide) (v := ((u : Nat) : Int) - 1) (hrw.2) dX7_fewest_210 ?_
                  refine x_iconst 212 rfl dX7_fewest_211 (z := 1) (by decide) ?_
                  refine x_iadd 213 rfl dX7_fewest_212 (z := ((u : Nat) : Int)) (by omega) ?_
                  refine x_iast 214 rfl 3 p rfl (⟨by omega, by omega⟩) (by decide) (ws' := [(mo, moE ad qt sc), (ad 0, aI G 66 b), (ad 7, aZ G 10000 f), (ad 8, aI G 5 (zup rw_ p ((u : Nat) : Int))), (ad 9, aI G 5 be)]) (rfl) dX7_fewest_213 ?_
                  refine x_aload_n 215 rfl dX7_fewest_214 1 rfl ?_
                  refine x_get 218 rfl (v := .ref (ad 8)) 0 15 rfl rfl (by decide) inX7_fewest_X7 flX7_fewest_35 rfl dX7_fewest_215 ?_
                  refine x_iload_n 219 rfl dX7_fewest_218 4 rfl ?_
                  refine x_iald 220 rfl 3 p rfl (⟨by omega, by omega⟩) (by decide) (v := ((u : Nat) : Int)) (zup_s _ _ _) dX7_fewest_219 ?_
                  refine x_bipush 222 rfl dX7_fewest_220 (z := 20) (by decide) ?_
                  refine x_icmp_ne 225 rfl (tgt := 231) dX7_fewest_222 (by decide) (by omega) (by decide) (fun h222 => ?_) (fun h222 => ?_)
                  · skip
                    refine x_iload 233 rfl dX7_fewest_231 0 rfl ?_
                    refine x_aload_n 234 rfl dX7_fewest_233 1 rfl ?_
                    refine x_get 237 rfl (v := .ref (ad 8)) 0 15 rfl rfl (by decide) inX7_fewest_X7 flX7_fewest_35 rfl dX7_fewest_234 ?_
                    refine x_iload_n 238 rfl dX7_fewest_237 4 rfl ?_
                    refine x_iald 239 rfl 3 p rfl (⟨by omega, by omega⟩) (by decide) (v := ((u : Nat) : Int)) (zup_s _ _ _) dX7_fewest_238 ?_
                    refine x_callS0 242 rfl (c_X7_tuneOf G u (by omega)) (fun _ _ h => h.2) gX7_fewest_X7_tuneOf rfl rfl rfl hd_X7_tuneOf ⟨Nat.le_of_ble_eq_true rfl, Nat.le_of_ble_eq_true rfl⟩ (As := [.int (zI ((u : Nat) : Int))]) (rest := [.int (zI ((cA p A : Nat) : Int))]) rfl rfl (Nat.le_of_ble_eq_true rfl) dX7_fewest_239 ⟨Nat.zero_le _, Nat.zero_le _⟩ (fun v hq => ?_)
                    obtain ⟨rfl, -⟩ := hq
                    refine x_callS0 245 rfl (c_X7_notes G (tuneOfN u) (by have := vt_lt (tuneOf_vt (k := u) (by omega)); omega)) (fun _ _ h => h.2) gX7_fewest_X7_notes rfl rfl rfl hd_X7_notes ⟨Nat.le_of_ble_eq_true rfl, Nat.le_of_ble_eq_true rfl⟩ (As := [.int (zI ((tuneOfN u : Nat) : Int))]) (rest := [.int (zI ((cA p A : Nat) : Int))]) rfl rfl (Nat.le_of_ble_eq_true rfl) dX7_fewest_242 ⟨Nat.zero_le _, Nat.zero_le _⟩ (fun v hq => ?_)
                    obtain ⟨rfl, -⟩ := hq
                    refine x_int (congrArg zI (by rw [tuneOf_n (by omega)]; rfl : ((notesN (tuneOfN u) : Nat) : Int) = ((cN u : Nat) : Int))) ?_
                    refine x_iadd 246 rfl dX7_fewest_245 (z := ((cA (p + 1) (A * 20 + u) : Nat) : Int)) (by rw [cA_app (by omega)]; omega) ?_
                    have hcl2 := cA_le (p + 1) (A * 20 + u)
                    have hrr : ∀ q, q ≤ p → zup rw_ p ((u : Nat) : Int) q = (((fun q => if q = p then u else dgt p A q) q : Nat) : Int) ∧ (fun q => if q = p then u else dgt p A q) q < 20 := fun q hq => by by_cases e : q = p; (subst e; rw [zup_s, show (fun q' => if q' = q then u else dgt q A q') q = u from if_pos rfl]; exact ⟨rfl, by omega⟩); (rw [zup_n _ _ e, show (fun q => if q = p then u else dgt p A q) q = dgt p A q from if_neg e]; exact ⟨hrw.1 q (by omega), dgt_lt _ _ _⟩)
                    refine x_istore 248 rfl (lv' := [(4, .int (zI ((cA (p + 1) (A * 20 + u) : Nat) : Int))), (0, .ref mo), (1, .int (zI ((n : Nat) : Int))), (2, .int (zI l)), (3, .int (zI ((p : Nat) : Int)))]) dX7_fewest_246 (by decide) rfl ?_
                    refine x_aload_n 249 rfl dX7_fewest_248 1 rfl ?_
                    refine x_iload_n 250 rfl dX7_fewest_249 4 rfl ?_
                    refine x_callV 253 rfl (c_X7_fits G mo ad qt sc f (zup rw_ p ((u : Nat) : Int)) p (fun q => if q = p then u else dgt p A q) (by omega) hrr) [0, 2, 3] rfl (by decide) 0 rfl rfl gX7_fewest_X7_fits rfl rfl rfl hd_X7_fits ⟨Nat.le_of_ble_eq_true rfl, Nat.le_of_ble_eq_true rfl⟩ (As := [.int (zI ((p : Nat) : Int))]) (rest := []) rfl rfl (Nat.le_of_ble_eq_true rfl) dX7_fewest_250 ⟨Nat.zero_le _, Nat.zero_le _⟩ (fun v w hq => ?_)
                    obtain ⟨rfl, rfl⟩ := hq
                    refine ⟨rfl, ?_⟩
                    refine x_ws (ws' := [(mo, moE ad qt sc), (ad 0, aI G 66 b), (ad 7, aZ G 10000 f), (ad 8, aI G 5 (zup rw_ p ((u : Nat) : Int))), (ad 9, aI G 5 be)]) (rfl) ?_
                    refine x_int (y := (zB (allF (fun q => cpN b q p (dgt p A q) u) p))) (congrArg zB (allF_congr p (fun q hq => by rw [show (fun q => if q = p then u else dgt p A q) q = dgt p A q from if_neg (by omega), show (fun q => if q = p then u else dgt p A q) p = u from if_pos rfl]; have hd := dgt_lt p A q; have hm := hM q p (20 * dgt p A q + u) hq (by omega) (by omega); rw [show (20 * dgt p A q + u) / 20 = dgt p A q by omega, show (20 * dgt p A q + u) % 20 = u by omega, ← Nat.add_assoc] at hm; exact hm))) ?_
                    refine x_bif_eq 256 rfl (tgt := 170) dX7_fewest_253 (by decide) (fun h253 => ?_) (fun h253 => ?_)
                    · skip
                      refine x_lve (congrArg (fun zz : Int => ([(4, .int (zI ((cA (p + 1) (A * 20 + u) : Nat) : Int))), (0, .ref mo), (1, .int (zI ((n : Nat) : Int))), (2, .int (zI l)), (3, .int (zI zz))] : List (Nat × Value))) (by omega : ((p : Nat) : Int) = ((p + 1 : Nat) : Int) - 1)) ?_
                      refine x_lv [1, 2, 3, 4, 0] rfl ?_
                      exact ih170 (p + 1) A (u + 1) l ((cA (p + 1) (A * 20 + u) : Nat) : Int) (zup rw_ p ((u : Nat) : Int)) be (hP) (hA) (by omega) (fun _ => ⟨fun j hj => by rw [zup_n _ _ (by omega)]; exact hrw.1 j hj, by show zup rw_ p ((u : Nat) : Int) p = ((u + 1 : Nat) : Int) - 1; rw [zup_s]; omega⟩) (fun _ => hokp) (fun _ => by show ((cA (p + 1) (A * 20 + u) : Nat) : Int) = ((cA p A + (if u + 1 = 0 then 0 else cN (u + 1 - 1)) : Nat) : Int); rw [if_neg (by omega), cA_app (by omega)]; rfl) (by rw [if_neg (by omega), show A * 20 + (u + 1) = (A * 20 + u) + 1 by omega]; exact BS.skip (p := p) (by omega) hEp (fun ho => by rw [okA_app (by omega), h253, Bool.and_false] at ho; cases ho)) (by have := mu_next (n := n) (P := p + 1) (A := A) (u := u) (by omega) hP (by omega); omega)
                    · skip
                      refine x_iload_n 257 rfl dX7_fewest_256 3 rfl ?_
                      refine x_iconst 258 rfl dX7_fewest_257 (z := (-1)) (by decide) ?_
                      refine x_icmp_eq 261 rfl (tgt := 273) dX7_fewest_258 (by decide) (by omega) (by decide) (fun h258 => ?_) (fun h258 => ?_)
                      · skip
                        refine x_iload_n 274 rfl dX7_fewest_273 4 rfl ?_
                        refine x_iload_n 275 rfl dX7_fewest_274 2 rfl ?_
                        refine x_iconst 276 rfl dX7_fewest_275 (z := 1) (by decide) ?_
                        refine x_isub 277 rfl dX7_fewest_276 (z := ((n : Nat) : Int) - 1) (rfl) ?_
                        refine x_icmp_ne 280 rfl (tgt := 315) dX7_fewest_277 (by decide) (by omega) (by omega) (fun h277 => ?_) (fun h277 => ?_)
                        · skip
                          have hrn : ∀ j, j < p + 1 → zup rw_ p ((u : Nat) : Int) j = ((dgt (p + 1) (A * 20 + u) j : Nat) : Int) := fun j hj => by by_cases e : j = p; (subst e; rw [zup_s, dgt_app_e (by omega)]); (rw [zup_n _ _ e, dgt_app (by omega) (by omega)]; exact hrw.1 j (by omega))
                          refine x_iinc 318 rfl (lv' := [(3, .int (zI ((p + 1 : Nat) : Int))), (4, .int (zI ((cA (p + 1) (A * 20 + u) : Nat) : Int))), (0, .ref mo), (1, .int (zI ((n : Nat) : Int))), (2, .int (zI l))]) dX7_fewest_315 4 rfl (b := ((p + 1 : Nat) : Int)) (by omega) (by decide) rfl ?_
                          refine x_aload_n 319 rfl dX7_fewest_318 2 rfl ?_
                          refine x_get 322 rfl (v := .ref (ad 8)) 0 15 rfl rfl (by decide) inX7_fewest_X7 flX7_fewest_35 rfl dX7_fewest_319 ?_
                          refine x_iload_n 323 rfl dX7_fewest_322 0 rfl ?_
                          refine x_iconst 324 rfl dX7_fewest_323 (z := (-1)) (by decide) ?_
                          refine x_iast 325 rfl 3 (p + 1) rfl (⟨by omega, by omega⟩) (by decide) (ws' := [(mo, moE ad qt sc), (ad 0, aI G 66 b), (ad 7, aZ G 10000 f), (ad 8, aI G 5 (zup (zup rw_ p ((u : Nat) : Int)) (p + 1) (-1))), (ad 9, aI G 5 be)]) (rfl) dX7_fewest_324 ?_
                          refine x_goto dX7_fewest_325 (tgt := 170) (by decide) ?_
                          refine x_lve (congrArg (fun zz : Int => ([(3, .int (zI zz)), (4, .int (zI ((cA (p + 1) (A * 20 + u) : Nat) : Int))), (0, .ref mo), (1, .int (zI ((n : Nat) : Int))), (2, .int (zI l))] : List (Nat × Value))) (by omega : ((p + 1 : Nat) : Int) = ((p + 2 : Nat) : Int) - 1)) ?_
                          refine x_lv [2, 3, 4, 0, 1] rfl ?_
                          exact ih170 (p + 2) (A * 20 + u) 0 l ((cA (p + 1) (A * 20 + u) : Nat) : Int) (zup (zup rw_ p ((u : Nat) : Int)) (p + 1) (-1)) be (by omega) (A_down hA (by omega)) (by omega) (fun _ => ⟨fun j hj => by rw [zup_n _ _ (by omega)]; exact hrn j (by omega), by show zup (zup rw_ p ((u : Nat) : Int)) (p + 1) (-1) (p + 1) = ((0 : Nat) : Int) - 1; rw [zup_s]; rfl⟩) (fun _ => by show okA (cpN b) (p + 1) (A * 20 + u) = true; rw [okA_app (by omega), hokp, h253]; rfl) (fun _ => rfl) (by rw [if_neg (by omega), E_down (by omega)]; exact hEp) (by have := mu_down (n := n) (P := p + 1) (A := A) (u := u) (by omega) (by omega) (by omega); have h2 : muN n (p + 2) (A * 20 + u) 0 < muN n (p + 1) A u := this; omega)
                        · skip
                          have hrn : ∀ j, j < p + 1 → zup rw_ p ((u : Nat) : Int) j = ((dgt (p + 1) (A * 20 + u) j : Nat) : Int) := fun j hj => by by_cases e : j = p; (subst e; rw [zup_s, dgt_app_e (by omega)]); (rw [zup_n _ _ e, dgt_app (by omega) (by omega)]; exact hrw.1 j (by omega))
                          refine x_iload 282 rfl dX7_fewest_280 0 rfl ?_
                          refine x_istore_n 283 rfl (lv' := [(2, .int (zI ((cA (p + 1) (A * 20 + u) : Nat) : Int))), (4, .int (zI ((cA (p + 1) (A * 20 + u) : Nat) : Int))), (0, .ref mo), (1, .int (zI ((n : Nat) : Int))), (3, .int (zI ((p : Nat) : Int)))]) dX7_fewest_282 (by decide) rfl ?_
                          refine x_iconst 284 rfl dX7_fewest_283 (z := 0) (by decide) ?_
                          refine x_istore 286 rfl (lv' := [(5, .int (zI 0)), (2, .int (zI ((cA (p + 1) (A * 20 + u) : Nat) : Int))), (4, .int (zI ((cA (p + 1) (A * 20 + u) : Nat) : Int))), (0, .ref mo), (1, .int (zI ((n : Nat) : Int))), (3, .int (zI ((p : Nat) : Int)))]) dX7_fewest_284 (by decide) rfl ?_
                          have L286 : ∀ (f286 : Nat) (i : Nat) (g : Nat → Int) (hi : i ≤ n) (hcp : ∀ j, j < i → g j = ((dgt n (A * 20 + u) j : Nat) : Int)), n - i < f286 → W_X7_fewest G E mo ad qt sc b mf rw0 be0 n d c 286 [(0, .ref mo), (1, .int (zI ((n : Nat) : Int))), (2, .int (zI ((cA (p + 1) (A * 20 + u) : Nat) : Int))), (3, .int (zI ((p : Nat) : Int))), (4, .int (zI ((cA (p + 1) (A * 20 + u) : Nat) : Int))), (5, .int (zI ((i : Nat) : Int)))] [] ([(mo, moE ad qt sc), (ad 0, aI G 66 b), (ad 7, aZ G 10000 f), (ad 8, aI G 5 (zup rw_ p ((u : Nat) : Int))), (ad 9, aI G 5 g)]) := by
                            intro f286
                            induction f286 with
                            | zero => intro i g hi hcp hf286; exact absurd hf286 (Nat.not_lt_zero _)
                            | succ f286 ih286 =>
                              intro i g hi hcp hf286
                              refine x_iload 288 rfl dX7_fewest_286 5 rfl ?_
                              refine x_iload_n 289 rfl dX7_fewest_288 1 rfl ?_
                              refine x_icmp_ge 292 rfl (tgt := 312) dX7_fewest_289 (by decide) (by omega) (by omega) (fun h289 => ?_) (fun h289 => ?_)
                              · skip
                                have hin : i = n := by omega
                                rw [hin] at hcp
                                refine x_goto dX7_fewest_312 (tgt := 170) (by decide) ?_
                                refine x_lve (congrArg (fun zz : Int => ([(0, .ref mo), (1, .int (zI ((n : Nat) : Int))), (2, .int (zI ((cA (p + 1) (A * 20 + u) : Nat) : Int))), (3, .int (zI zz)), (4, .int (zI ((cA (p + 1) (A * 20 + u) : Nat) : Int))), (5, .int (zI ((i : Nat) : Int)))] : List (Nat × Value))) (by omega : ((p : Nat) : Int) = ((p + 1 : Nat) : Int) - 1)) ?_
                                refine x_lv [0, 1, 2, 3, 4] rfl ?_
                                exact ih170 (p + 1) A (u + 1) ((cA (p + 1) (A * 20 + u) : Nat) : Int) ((cA (p + 1) (A * 20 + u) : Nat) : Int) (zup rw_ p ((u : Nat) : Int)) g (hP) (hA) (by omega) (fun _ => ⟨fun j hj => by rw [zup_n _ _ (by omega)]; exact hrw.1 j hj, by show zup rw_ p ((u : Nat) : Int) p = ((u + 1 : Nat) : Int) - 1; rw [zup_s]; omega⟩) (fun _ => hokp) (fun _ => by show ((cA (p + 1) (A * 20 + u) : Nat) : Int) = ((cA p A + (if u + 1 = 0 then 0 else cN (u + 1 - 1)) : Nat) : Int); rw [if_neg (by omega), cA_app (by omega)]; rfl) (by rw [if_neg (by omega), show A * 20 + (u + 1) = (A * 20 + u) + 1 by omega]; rw [show n - (p + 1) = 0 by omega, Nat.pow_zero, Nat.mul_one]; have hEq := hEp; rw [show n - (p + 1) = 0 by omega, Nat.pow_zero, Nat.mul_one] at hEq; have hnp : n = p + 1 := (by omega); have hL := BS.leaf hEq (by rw [hnp, okA_app (by omega), hokp, h253]; rfl) (by rw [hnp]; omega) (best' := g) (fun i hi => hcp i hi); rw [hnp] at hL ⊢; exact hL) (by have := mu_next (n := n) (P := p + 1) (A := A) (u := u) (by omega) hP (by omega); omega)
                              · skip
                                refine x_aload_n 293 rfl dX7_fewest_292 0 rfl ?_
                                refine x_get 296 rfl (v := .ref (ad 9)) 0 16 rfl rfl (by decide) inX7_fewest_X7 flX7_fewest_38 rfl dX7_fewest_293 ?_
                                refine x_iload 298 rfl dX7_fewest_296 5 rfl ?_
                                refine x_aload_n 299 rfl dX7_fewest_298 0 rfl ?_
                                refine x_get 302 rfl (v := .ref (ad 8)) 0 15 rfl rfl (by decide) inX7_fewest_X7 flX7_fewest_35 rfl dX7_fewest_299 ?_
                                refine x_iload 304 rfl dX7_fewest_302 5 rfl ?_
                                refine x_iald 305 rfl 3 i rfl (⟨by omega, by omega⟩) (by decide) (v := ((dgt n (A * 20 + u) i : Nat) : Int)) (by rw [show n = p + 1 by omega]; exact hrn i (by omega)) dX7_fewest_304 ?_
                                refine x_iast 306 rfl 4 i rfl (⟨by omega, by omega⟩) (by decide) (ws' := [(mo, moE ad qt sc), (ad 0, aI G 66 b), (ad 7, aZ G 10000 f), (ad 8, aI G 5 (zup rw_ p ((u : Nat) : Int))), (ad 9, aI G 5 (zup g i ((dgt n (A * 20 + u) i : Nat) : Int)))]) (rfl) dX7_fewest_305 ?_
                                refine x_iinc 309 rfl (lv' := [(5, .int (zI ((i + 1 : Nat) : Int))), (0, .ref mo), (1, .int (zI ((n : Nat) : Int))), (2, .int (zI ((cA (p + 1) (A * 20 + u) : Nat) : Int))), (3, .int (zI ((p : Nat) : Int))), (4, .int (zI ((cA (p + 1) (A * 20 + u) : Nat) : Int)))]) dX7_fewest_306 5 rfl (b := ((i + 1 : Nat) : Int)) (by omega) (by decide) rfl ?_
                                refine x_goto dX7_fewest_309 (tgt := 286) (by decide) ?_
                                refine x_lv [1, 2, 3, 4, 5, 0] rfl ?_
                                exact ih286 (i + 1) (zup g i ((dgt n (A * 20 + u) i : Nat) : Int)) (by omega) (fun j hj => by
                                    by_cases e : j = i
                                    · subst e; rw [zup_s]
                                    · rw [zup_n _ _ e]; exact hcp j (by omega)) (by omega)
                          refine x_lv [3, 4, 1, 5, 2, 0] rfl ?_
                          exact L286 _ 0 be (by omega) (fun j hj => absurd hj (Nat.not_lt_zero _)) (Nat.lt_succ_self _)
                      · skip
                        refine x_iload 263 rfl dX7_fewest_261 0 rfl ?_
                        refine x_iload_n 264 rfl dX7_fewest_263 2 rfl ?_
                        refine x_iadd 265 rfl dX7_fewest_264 (z := ((cA (p + 1) (A * 20 + u) + n : Nat) : Int)) (by omega) ?_
                        refine x_iconst 266 rfl dX7_fewest_265 (z := 1) (by decide) ?_
                        refine x_isub 267 rfl dX7_fewest_266 (z := ((cA (p + 1) (A * 20 + u) + n : Nat) : Int) - 1) (rfl) ?_
                        refine x_iload_n 268 rfl dX7_fewest_267 4 rfl ?_
                        refine x_isub 269 rfl dX7_fewest_268 (z := (((cA (p + 1) (A * 20 + u) + n : Nat) : Int) - 1) - ((p : Nat) : Int)) (rfl) ?_
                        refine x_iload_n 270 rfl dX7_fewest_269 3 rfl ?_
                        refine x_icmp_ge 273 rfl (tgt := 170) dX7_fewest_270 (by decide) (by omega) (by omega) (fun h270 => ?_) (fun h270 => ?_)
                        · skip
                          refine x_lve (congrArg (fun zz : Int => ([(4, .int (zI ((cA (p + 1) (A * 20 + u) : Nat) : Int))), (0, .ref mo), (1, .int (zI ((n : Nat) : Int))), (2, .int (zI l)), (3, .int (zI zz))] : List (Nat × Value))) (by omega : ((p : Nat) : Int) = ((p + 1 : Nat) : Int) - 1)) ?_
                          refine x_lv [1, 2, 3, 4, 0] rfl ?_
                          exact ih170 (p + 1) A (u + 1) l ((cA (p + 1) (A * 20 + u) : Nat) : Int) (zup rw_ p ((u : Nat) : Int)) be (hP) (hA) (by omega) (fun _ => ⟨fun j hj => by rw [zup_n _ _ (by omega)]; exact hrw.1 j hj, by show zup rw_ p ((u : Nat) : Int) p = ((u + 1 : Nat) : Int) - 1; rw [zup_s]; omega⟩) (fun _ => hokp) (fun _ => by show ((cA (p + 1) (A * 20 + u) : Nat) : Int) = ((cA p A + (if u + 1 = 0 then 0 else cN (u + 1 - 1)) : Nat) : Int); rw [if_neg (by omega), cA_app (by omega)]; rfl) (by rw [if_neg (by omega), show A * 20 + (u + 1) = (A * 20 + u) + 1 by omega]; exact BS.skip (p := p) (by omega) hEp (fun ho => ⟨by omega, by omega⟩)) (by have := mu_next (n := n) (P := p + 1) (A := A) (u := u) (by omega) hP (by omega); omega)
                        · skip
                          refine x_iload_n 274 rfl dX7_fewest_273 4 rfl ?_
                          refine x_iload_n 275 rfl dX7_fewest_274 2 rfl ?_
                          refine x_iconst 276 rfl dX7_fewest_275 (z := 1) (by decide) ?_
                          refine x_isub 277 rfl dX7_fewest_276 (z := ((n : Nat) : Int) - 1) (rfl) ?_
                          refine x_icmp_ne 280 rfl (tgt := 315) dX7_fewest_277 (by decide) (by omega) (by omega) (fun h277 => ?_) (fun h277 => ?_)
                          · skip
                            have hrn : ∀ j, j < p + 1 → zup rw_ p ((u : Nat) : Int) j = ((dgt (p + 1) (A * 20 + u) j : Nat) : Int) := fun j hj => by by_cases e : j = p; (subst e; rw [zup_s, dgt_app_e (by omega)]); (rw [zup_n _ _ e, dgt_app (by omega) (by omega)]; exact hrw.1 j (by omega))
                            refine x_iinc 318 rfl (lv' := [(3, .int (zI ((p + 1 : Nat) : Int))), (4, .int (zI ((cA (p + 1) (A * 20 + u) : Nat) : Int))), (0, .ref mo), (1, .int (zI ((n : Nat) : Int))), (2, .int (zI l))]) dX7_fewest_315 4 rfl (b := ((p + 1 : Nat) : Int)) (by omega) (by decide) rfl ?_
                            refine x_aload_n 319 rfl dX7_fewest_318 2 rfl ?_
                            refine x_get 322 rfl (v := .ref (ad 8)) 0 15 rfl rfl (by decide) inX7_fewest_X7 flX7_fewest_35 rfl dX7_fewest_319 ?_
                            refine x_iload_n 323 rfl dX7_fewest_322 0 rfl ?_
                            refine x_iconst 324 rfl dX7_fewest_323 (z := (-1)) (by decide) ?_
                            refine x_iast 325 rfl 3 (p + 1) rfl (⟨by omega, by omega⟩) (by decide) (ws' := [(mo, moE ad qt sc), (ad 0, aI G 66 b), (ad 7, aZ G 10000 f), (ad 8, aI G 5 (zup (zup rw_ p ((u : Nat) : Int)) (p + 1) (-1))), (ad 9, aI G 5 be)]) (rfl) dX7_fewest_324 ?_
                            refine x_goto dX7_fewest_325 (tgt := 170) (by decide) ?_
                            refine x_lve (congrArg (fun zz : Int => ([(3, .int (zI zz)), (4, .int (zI ((cA (p + 1) (A * 20 + u) : Nat) : Int))), (0, .ref mo), (1, .int (zI ((n : Nat) : Int))), (2, .int (zI l))] : List (Nat × Value))) (by omega : ((p + 1 : Nat) : Int) = ((p + 2 : Nat) : Int) - 1)) ?_
                            refine x_lv [2, 3, 4, 0, 1] rfl ?_
                            exact ih170 (p + 2) (A * 20 + u) 0 l ((cA (p + 1) (A * 20 + u) : Nat) : Int) (zup (zup rw_ p ((u : Nat) : Int)) (p + 1) (-1)) be (by omega) (A_down hA (by omega)) (by omega) (fun _ => ⟨fun j hj => by rw [zup_n _ _ (by omega)]; exact hrn j (by omega), by show zup (zup rw_ p ((u : Nat) : Int)) (p + 1) (-1) (p + 1) = ((0 : Nat) : Int) - 1; rw [zup_s]; rfl⟩) (fun _ => by show okA (cpN b) (p + 1) (A * 20 + u) = true; rw [okA_app (by omega), hokp, h253]; rfl) (fun _ => rfl) (by rw [if_neg (by omega), E_down (by omega)]; exact hEp) (by have := mu_down (n := n) (P := p + 1) (A := A) (u := u) (by omega) (by omega) (by omega); have h2 : muN n (p + 2) (A * 20 + u) 0 < muN n (p + 1) A u := this; omega)
                          · skip
                            have hrn : ∀ j, j < p + 1 → zup rw_ p ((u : Nat) : Int) j = ((dgt (p + 1) (A * 20 + u) j : Nat) : Int) := fun j hj => by by_cases e : j = p; (subst e; rw [zup_s, dgt_app_e (by omega)]); (rw [zup_n _ _ e, dgt_app (by omega) (by omega)]; exact hrw.1 j (by omega))
                            refine x_iload 282 rfl dX7_fewest_280 0 rfl ?_
                            refine x_istore_n 283 rfl (lv' := [(2, .int (zI ((cA (p + 1) (A * 20 + u) : Nat) : Int))), (4, .int (zI ((cA (p + 1) (A * 20 + u) : Nat) : Int))), (0, .ref mo), (1, .int (zI ((n : Nat) : Int))), (3, .int (zI ((p : Nat) : Int)))]) dX7_fewest_282 (by decide) rfl ?_
                            refine x_iconst 284 rfl dX7_fewest_283 (z := 0) (by decide) ?_
                            refine x_istore 286 rfl (lv' := [(5, .int (zI 0)), (2, .int (zI ((cA (p + 1) (A * 20 + u) : Nat) : Int))), (4, .int (zI ((cA (p + 1) (A * 20 + u) : Nat) : Int))), (0, .ref mo), (1, .int (zI ((n : Nat) : Int))), (3, .int (zI ((p : Nat) : Int)))]) dX7_fewest_284 (by decide) rfl ?_
                            have L286 : ∀ (f286 : Nat) (i : Nat) (g : Nat → Int) (hi : i ≤ n) (hcp : ∀ j, j < i → g j = ((dgt n (A * 20 + u) j : Nat) : Int)), n - i < f286 → W_X7_fewest G E mo ad qt sc b mf rw0 be0 n d c 286 [(0, .ref mo), (1, .int (zI ((n : Nat) : Int))), (2, .int (zI ((cA (p + 1) (A * 20 + u) : Nat) : Int))), (3, .int (zI ((p : Nat) : Int))), (4, .int (zI ((cA (p + 1) (A * 20 + u) : Nat) : Int))), (5, .int (zI ((i : Nat) : Int)))] [] ([(mo, moE ad qt sc), (ad 0, aI G 66 b), (ad 7, aZ G 10000 f), (ad 8, aI G 5 (zup rw_ p ((u : Nat) : Int))), (ad 9, aI G 5 g)]) := by
                              intro f286
                              induction f286 with
                              | zero => intro i g hi hcp hf286; exact absurd hf286 (Nat.not_lt_zero _)
                              | succ f286 ih286 =>
                                intro i g hi hcp hf286
                                refine x_iload 288 rfl dX7_fewest_286 5 rfl ?_
                                refine x_iload_n 289 rfl dX7_fewest_288 1 rfl ?_
                                refine x_icmp_ge 292 rfl (tgt := 312) dX7_fewest_289 (by decide) (by omega) (by omega) (fun h289 => ?_) (fun h289 => ?_)
                                · skip
                                  have hin : i = n := by omega
                                  rw [hin] at hcp
                                  refine x_goto dX7_fewest_312 (tgt := 170) (by decide) ?_
                                  refine x_lve (congrArg (fun zz : Int => ([(0, .ref mo), (1, .int (zI ((n : Nat) : Int))), (2, .int (zI ((cA (p + 1) (A * 20 + u) : Nat) : Int))), (3, .int (zI zz)), (4, .int (zI ((cA (p + 1) (A * 20 + u) : Nat) : Int))), (5, .int (zI ((i : Nat) : Int)))] : List (Nat × Value))) (by omega : ((p : Nat) : Int) = ((p + 1 : Nat) : Int) - 1)) ?_
                                  refine x_lv [0, 1, 2, 3, 4] rfl ?_
                                  exact ih170 (p + 1) A (u + 1) ((cA (p + 1) (A * 20 + u) : Nat) : Int) ((cA (p + 1) (A * 20 + u) : Nat) : Int) (zup rw_ p ((u : Nat) : Int)) g (hP) (hA) (by omega) (fun _ => ⟨fun j hj => by rw [zup_n _ _ (by omega)]; exact hrw.1 j hj, by show zup rw_ p ((u : Nat) : Int) p = ((u + 1 : Nat) : Int) - 1; rw [zup_s]; omega⟩) (fun _ => hokp) (fun _ => by show ((cA (p + 1) (A * 20 + u) : Nat) : Int) = ((cA p A + (if u + 1 = 0 then 0 else cN (u + 1 - 1)) : Nat) : Int); rw [if_neg (by omega), cA_app (by omega)]; rfl) (by rw [if_neg (by omega), show A * 20 + (u + 1) = (A * 20 + u) + 1 by omega]; rw [show n - (p + 1) = 0 by omega, Nat.pow_zero, Nat.mul_one]; have hEq := hEp; rw [show n - (p + 1) = 0 by omega, Nat.pow_zero, Nat.mul_one] at hEq; have hnp : n = p + 1 := (by omega); have hL := BS.leaf hEq (by rw [hnp, okA_app (by omega), hokp, h253]; rfl) (by rw [hnp]; omega) (best' := g) (fun i hi => hcp i hi); rw [hnp] at hL ⊢; exact hL) (by have := mu_next (n := n) (P := p + 1) (A := A) (u := u) (by omega) hP (by omega); omega)
                                · skip
                                  refine x_aload_n 293 rfl dX7_fewest_292 0 rfl ?_
                                  refine x_get 296 rfl (v := .ref (ad 9)) 0 16 rfl rfl (by decide) inX7_fewest_X7 flX7_fewest_38 rfl dX7_fewest_293 ?_
                                  refine x_iload 298 rfl dX7_fewest_296 5 rfl ?_
                                  refine x_aload_n 299 rfl dX7_fewest_298 0 rfl ?_
                                  refine x_get 302 rfl (v := .ref (ad 8)) 0 15 rfl rfl (by decide) inX7_fewest_X7 flX7_fewest_35 rfl dX7_fewest_299 ?_
                                  refine x_iload 304 rfl dX7_fewest_302 5 rfl ?_
                                  refine x_iald 305 rfl 3 i rfl (⟨by omega, by omega⟩) (by decide) (v := ((dgt n (A * 20 + u) i : Nat) : Int)) (by rw [show n = p + 1 by omega]; exact hrn i (by omega)) dX7_fewest_304 ?_
                                  refine x_iast 306 rfl 4 i rfl (⟨by omega, by omega⟩) (by decide) (ws' := [(mo, moE ad qt sc), (ad 0, aI G 66 b), (ad 7, aZ G 10000 f), (ad 8, aI G 5 (zup rw_ p ((u : Nat) : Int))), (ad 9, aI G 5 (zup g i ((dgt n (A * 20 + u) i : Nat) : Int)))]) (rfl) dX7_fewest_305 ?_
                                  refine x_iinc 309 rfl (lv' := [(5, .int (zI ((i + 1 : Nat) : Int))), (0, .ref mo), (1, .int (zI ((n : Nat) : Int))), (2, .int (zI ((cA (p + 1) (A * 20 + u) : Nat) : Int))), (3, .int (zI ((p : Nat) : Int))), (4, .int (zI ((cA (p + 1) (A * 20 + u) : Nat) : Int)))]) dX7_fewest_306 5 rfl (b := ((i + 1 : Nat) : Int)) (by omega) (by decide) rfl ?_
                                  refine x_goto dX7_fewest_309 (tgt := 286) (by decide) ?_
                                  refine x_lv [1, 2, 3, 4, 5, 0] rfl ?_
                                  exact ih286 (i + 1) (zup g i ((dgt n (A * 20 + u) i : Nat) : Int)) (by omega) (fun j hj => by
                                      by_cases e : j = i
                                      · subst e; rw [zup_s]
                                      · rw [zup_n _ _ e]; exact hcp j (by omega)) (by omega)
                            refine x_lv [3, 4, 1, 5, 2, 0] rfl ?_
                            exact L286 _ 0 be (by omega) (fun j hj => absurd hj (Nat.not_lt_zero _)) (Nat.lt_succ_self _)
                  · skip
                    have hu20 : u = 20 := by omega
                    refine x_iinc 228 rfl (lv' := [(3, .int (zI (((p : Nat) : Int) - 1))), (4, .int (zI ((cA p A : Nat) : Int))), (0, .ref mo), (1, .int (zI ((n : Nat) : Int))), (2, .int (zI l))]) dX7_fewest_225 4 rfl (b := ((p : Nat) : Int) - 1) (by omega) (by decide) rfl ?_
                    refine x_goto dX7_fewest_228 (tgt := 170) (by decide) ?_
                    refine x_lv [2, 3, 4, 0, 1] rfl ?_
                    exact ih170 p (A / 20) (A % 20 + 1) l ((cA p A : Nat) : Int) (zup rw_ p ((u : Nat) : Int)) be (by omega) (by by_cases h0 : p = 0; (subst h0; rw [Nat.pow_zero] at hA; show A / 20 < 20 ^ 0; rw [Nat.pow_zero]; omega); exact A_up hA (by omega)) (by omega) (fun h1 => ⟨fun j hj => by rw [zup_n _ _ (by omega), hrw.1 j (by omega)]; obtain ⟨p', rfl⟩ : ∃ p', p = p' + 1 := ⟨p - 1, by omega⟩; rw [dgt_s (by omega)]; rfl, by rw [zup_n _ _ (by omega), hrw.1 (p - 1) (by omega)]; obtain ⟨p', rfl⟩ : ∃ p', p = p' + 1 := ⟨p - 1, by omega⟩; rw [show p' + 1 - 1 = p' by omega, dgt_e]; omega⟩) (fun h1 => by obtain ⟨p', rfl⟩ : ∃ p', p = p' + 1 := ⟨p - 1, by omega⟩; have h2 : (okA (cpN b) p' (A / 20) && _) = true := hokp; rw [Bool.and_eq_true] at h2; exact h2.1) (fun h1 => by obtain ⟨p', rfl⟩ : ∃ p', p = p' + 1 := ⟨p - 1, by omega⟩; rfl) (by rw [E_up (by omega) hA]; rw [hu20] at hEp; exact hEp) (by have := mu_up (n := n) (P := p + 1) (A := A) (by omega) hP; rw [hu20] at hf170; have h2 : muN n p (A / 20) (A % 20 + 1) < muN n (p + 1) A 20 := this; omega)
                · skip
                  refine x_iconst 186 rfl dX7_fewest_185 (z := 0) (by decide) ?_
                  refine x_goto dX7_fewest_186 (tgt := 201) (by decide) ?_
                  refine x_isub 202 rfl dX7_fewest_201 (z := ((cA p A : Nat) : Int)) (by rw [hsp]; split <;> omega) ?_
                  refine x_istore 204 rfl (lv' := [(4, .int (zI ((cA p A : Nat) : Int))), (0, .ref mo), (1, .int (zI ((n : Nat) : Int))), (2, .int (zI l)), (3, .int (zI ((p : Nat) : Int)))]) dX7_fewest_202 (by decide) rfl ?_
                  refine x_aload_n 205 rfl dX7_fewest_204 1 rfl ?_
                  refine x_get 208 rfl (v := .ref (ad 8)) 0 15 rfl rfl (by decide) inX7_fewest_X7 flX7_fewest_35 rfl dX7_fewest_205 ?_
                  refine x_iload_n 209 rfl dX7_fewest_208 4 rfl ?_
                  refine x_dup2 210 rfl dX7_fewest_209 rfl rfl ?_
                  refine x_iald 211 rfl 3 p rfl (⟨by omega, by omega⟩) (by decide) (v := ((u : Nat) : Int) - 1) (hrw.2) dX7_fewest_210 ?_
                  refine x_iconst 212 rfl dX7_fewest_211 (z := 1) (by decide) ?_
                  refine x_iadd 213 rfl dX7_fewest_212 (z := ((u : Nat) : Int)) (by omega) ?_
                  refine x_iast 214 rfl 3 p rfl (⟨by omega, by omega⟩) (by decide) (ws' := [(mo, moE ad qt sc), (ad 0, aI G 66 b), (ad 7, aZ G 10000 f), (ad 8, aI G 5 (zup rw_ p ((u : Nat) : Int))), (ad 9, aI G 5 be)]) (rfl) dX7_fewest_213 ?_
                  refine x_aload_n 215 rfl dX7_fewest_214 1 rfl ?_
                  refine x_get 218 rfl (v := .ref (ad 8)) 0 15 rfl rfl (by decide) inX7_fewest_X7 flX7_fewest_35 rfl dX7_fewest_215 ?_
                  refine x_iload_n 219 rfl dX7_fewest_218 4 rfl ?_
                  refine x_iald 220 rfl 3 p rfl (⟨by omega, by omega⟩) (by decide) (v := ((u : Nat) : Int)) (zup_s _ _ _) dX7_fewest_219 ?_
                  refine x_bipush 222 rfl dX7_fewest_220 (z := 20) (by decide) ?_
                  refine x_icmp_ne 225 rfl (tgt := 231) dX7_fewest_222 (by decide) (by omega) (by decide) (fun h222 => ?_) (fun h222 => ?_)
                  · skip
                    refine x_iload 233 rfl dX7_fewest_231 0 rfl ?_
                    refine x_aload_n 234 rfl dX7_fewest_233 1 rfl ?_
                    refine x_get 237 rfl (v := .ref (ad 8)) 0 15 rfl rfl (by decide) inX7_fewest_X7 flX7_fewest_35 rfl dX7_fewest_234 ?_
                    refine x_iload_n 238 rfl dX7_fewest_237 4 rfl ?_
                    refine x_iald 239 rfl 3 p rfl (⟨by omega, by omega⟩) (by decide) (v := ((u : Nat) : Int)) (zup_s _ _ _) dX7_fewest_238 ?_
                    refine x_callS0 242 rfl (c_X7_tuneOf G u (by omega)) (fun _ _ h => h.2) gX7_fewest_X7_tuneOf rfl rfl rfl hd_X7_tuneOf ⟨Nat.le_of_ble_eq_true rfl, Nat.le_of_ble_eq_true rfl⟩ (As := [.int (zI ((u : Nat) : Int))]) (rest := [.int (zI ((cA p A : Nat) : Int))]) rfl rfl (Nat.le_of_ble_eq_true rfl) dX7_fewest_239 ⟨Nat.zero_le _, Nat.zero_le _⟩ (fun v hq => ?_)
                    obtain ⟨rfl, -⟩ := hq
                    refine x_callS0 245 rfl (c_X7_notes G (tuneOfN u) (by have := vt_lt (tuneOf_vt (k := u) (by omega)); omega)) (fun _ _ h => h.2) gX7_fewest_X7_notes rfl rfl rfl hd_X7_notes ⟨Nat.le_of_ble_eq_true rfl, Nat.le_of_ble_eq_true rfl⟩ (As := [.int (zI ((tuneOfN u : Nat) : Int))]) (rest := [.int (zI ((cA p A : Nat) : Int))]) rfl rfl (Nat.le_of_ble_eq_true rfl) dX7_fewest_242 ⟨Nat.zero_le _, Nat.zero_le _⟩ (fun v hq => ?_)
                    obtain ⟨rfl, -⟩ := hq
                    refine x_int (congrArg zI (by rw [tuneOf_n (by omega)]; rfl : ((notesN (tuneOfN u) : Nat) : Int) = ((cN u : Nat) : Int))) ?_
                    refine x_iadd 246 rfl dX7_fewest_245 (z := ((cA (p + 1) (A * 20 + u) : Nat) : Int)) (by rw [cA_app (by omega)]; omega) ?_
                    have hcl2 := cA_le (p + 1) (A * 20 + u)
                    have hrr : ∀ q, q ≤ p → zup rw_ p ((u : Nat) : Int) q = (((fun q => if q = p then u else dgt p A q) q : Nat) : Int) ∧ (fun q => if q = p then u else dgt p A q) q < 20 := fun q hq => by by_cases e : q = p; (subst e; rw [zup_s, show (fun q' => if q' = q then u else dgt q A q') q = u from if_pos rfl]; exact ⟨rfl, by omega⟩); (rw [zup_n _ _ e, show (fun q => if q = p then u else dgt p A q) q = dgt p A q from if_neg e]; exact ⟨hrw.1 q (by omega), dgt_lt _ _ _⟩)
                    refine x_istore 248 rfl (lv' := [(4, .int (zI ((cA (p + 1) (A * 20 + u) : Nat) : Int))), (0, .ref mo), (1, .int (zI ((n : Nat) : Int))), (2, .int (zI l)), (3, .int (zI ((p : Nat) : Int)))]) dX7_fewest_246 (by decide) rfl ?_
                    refine x_aload_n 249 rfl dX7_fewest_248 1 rfl ?_
                    refine x_iload_n 250 rfl dX7_fewest_249 4 rfl ?_
                    refine x_callV 253 rfl (c_X7_fits G mo ad qt sc f (zup rw_ p ((u : Nat) : Int)) p (fun q => if q = p then u else dgt p A q) (by omega) hrr) [0, 2, 3] rfl (by decide) 0 rfl rfl gX7_fewest_X7_fits rfl rfl rfl hd_X7_fits ⟨Nat.le_of_ble_eq_true rfl, Nat.le_of_ble_eq_true rfl⟩ (As := [.int (zI ((p : Nat) : Int))]) (rest := []) rfl rfl (Nat.le_of_ble_eq_true rfl) dX7_fewest_250 ⟨Nat.zero_le _, Nat.zero_le _⟩ (fun v w hq => ?_)
                    obtain ⟨rfl, rfl⟩ := hq
                    refine ⟨rfl, ?_⟩
                    refine x_ws (ws' := [(mo, moE ad qt sc), (ad 0, aI G 66 b), (ad 7, aZ G 10000 f), (ad 8, aI G 5 (zup rw_ p ((u : Nat) : Int))), (ad 9, aI G 5 be)]) (rfl) ?_
                    refine x_int (y := (zB (allF (fun q => cpN b q p (dgt p A q) u) p))) (congrArg zB (allF_congr p (fun q hq => by rw [show (fun q => if q = p then u else dgt p A q) q = dgt p A q from if_neg (by omega), show (fun q => if q = p then u else dgt p A q) p = u from if_pos rfl]; have hd := dgt_lt p A q; have hm := hM q p (20 * dgt p A q + u) hq (by omega) (by omega); rw [show (20 * dgt p A q + u) / 20 = dgt p A q by omega, show (20 * dgt p A q + u) % 20 = u by omega, ← Nat.add_assoc] at hm; exact hm))) ?_
                    refine x_bif_eq 256 rfl (tgt := 170) dX7_fewest_253 (by decide) (fun h253 => ?_) (fun h253 => ?_)
                    · skip
                      refine x_lve (congrArg (fun zz : Int => ([(4, .int (zI ((cA (p + 1) (A * 20 + u) : Nat) : Int))), (0, .ref mo), (1, .int (zI ((n : Nat) : Int))), (2, .int (zI l)), (3, .int (zI zz))] : List (Nat × Value))) (by omega : ((p : Nat) : Int) = ((p + 1 : Nat) : Int) - 1)) ?_
                      refine x_lv [1, 2, 3, 4, 0] rfl ?_
                      exact ih170 (p + 1) A (u + 1) l ((cA (p + 1) (A * 20 + u) : Nat) : Int) (zup rw_ p ((u : Nat) : Int)) be (hP) (hA) (by omega) (fun _ => ⟨fun j hj => by rw [zup_n _ _ (by omega)]; exact hrw.1 j hj, by show zup rw_ p ((u : Nat) : Int) p = ((u + 1 : Nat) : Int) - 1; rw [zup_s]; omega⟩) (fun _ => hokp) (fun _ => by show ((cA (p + 1) (A * 20 + u) : Nat) : Int) = ((cA p A + (if u + 1 = 0 then 0 else cN (u + 1 - 1)) : Nat) : Int); rw [if_neg (by omega), cA_app (by omega)]; rfl) (by rw [if_neg (by omega), show A * 20 + (u + 1) = (A * 20 + u) + 1 by omega]; exact BS.skip (p := p) (by omega) hEp (fun ho => by rw [okA_app (by omega), h253, Bool.and_false] at ho; cases ho)) (by have := mu_next (n := n) (P := p + 1) (A := A) (u := u) (by omega) hP (by omega); omega)
                    · skip
                      refine x_iload_n 257 rfl dX7_fewest_256 3 rfl ?_
                      refine x_iconst 258 rfl dX7_fewest_257 (z := (-1)) (by decide) ?_
                      refine x_icmp_eq 261 rfl (tgt := 273) dX7_fewest_258 (by decide) (by omega) (by decide) (fun h258 => ?_) (fun h258 => ?_)
                      · skip
                        refine x_iload_n 274 rfl dX7_fewest_273 4 rfl ?_
                        refine x_iload_n 275 rfl dX7_fewest_274 2 rfl ?_
                        refine x_iconst 276 rfl dX7_fewest_275 (z := 1) (by decide) ?_
                        refine x_isub 277 rfl dX7_fewest_276 (z := ((n : Nat) : Int) - 1) (rfl) ?_
                        refine x_icmp_ne 280 rfl (tgt := 315) dX7_fewest_277 (by decide) (by omega) (by omega) (fun h277 => ?_) (fun h277 => ?_)
                        · skip
                          have hrn : ∀ j, j < p + 1 → zup rw_ p ((u : Nat) : Int) j = ((dgt (p + 1) (A * 20 + u) j : Nat) : Int) := fun j hj => by by_cases e : j = p; (subst e; rw [zup_s, dgt_app_e (by omega)]); (rw [zup_n _ _ e, dgt_app (by omega) (by omega)]; exact hrw.1 j (by omega))
                          refine x_iinc 318 rfl (lv' := [(3, .int (zI ((p + 1 : Nat) : Int))), (4, .int (zI ((cA (p + 1) (A * 20 + u) : Nat) : Int))), (0, .ref mo), (1, .int (zI ((n : Nat) : Int))), (2, .int (zI l))]) dX7_fewest_315 4 rfl (b := ((p + 1 : Nat) : Int)) (by omega) (by decide) rfl ?_
                          refine x_aload_n 319 rfl dX7_fewest_318 2 rfl ?_
                          refine x_get 322 rfl (v := .ref (ad 8)) 0 15 rfl rfl (by decide) inX7_fewest_X7 flX7_fewest_35 rfl dX7_fewest_319 ?_
                          refine x_iload_n 323 rfl dX7_fewest_322 0 rfl ?_
                          refine x_iconst 324 rfl dX7_fewest_323 (z := (-1)) (by decide) ?_
                          refine x_iast 325 rfl 3 (p + 1) rfl (⟨by omega, by omega⟩) (by decide) (ws' := [(mo, moE ad qt sc), (ad 0, aI G 66 b), (ad 7, aZ G 10000 f), (ad 8, aI G 5 (zup (zup rw_ p ((u : Nat) : Int)) (p + 1) (-1))), (ad 9, aI G 5 be)]) (rfl) dX7_fewest_324 ?_
                          refine x_goto dX7_fewest_325 (tgt := 170) (by decide) ?_
                          refine x_lve (congrArg (fun zz : Int => ([(3, .int (zI zz)), (4, .int (zI ((cA (p + 1) (A * 20 + u) : Nat) : Int))), (0, .ref mo), (1, .int (zI ((n : Nat) : Int))), (2, .int (zI l))] : List (Nat × Value))) (by omega : ((p + 1 : Nat) : Int) = ((p + 2 : Nat) : Int) - 1)) ?_
                          refine x_lv [2, 3, 4, 0, 1] rfl ?_
                          exact ih170 (p + 2) (A * 20 + u) 0 l ((cA (p + 1) (A * 20 + u) : Nat) : Int) (zup (zup rw_ p ((u : Nat) : Int)) (p + 1) (-1)) be (by omega) (A_down hA (by omega)) (by omega) (fun _ => ⟨fun j hj => by rw [zup_n _ _ (by omega)]; exact hrn j (by omega), by show zup (zup rw_ p ((u : Nat) : Int)) (p + 1) (-1) (p + 1) = ((0 : Nat) : Int) - 1; rw [zup_s]; rfl⟩) (fun _ => by show okA (cpN b) (p + 1) (A * 20 + u) = true; rw [okA_app (by omega), hokp, h253]; rfl) (fun _ => rfl) (by rw [if_neg (by omega), E_down (by omega)]; exact hEp) (by have := mu_down (n := n) (P := p + 1) (A := A) (u := u) (by omega) (by omega) (by omega); have h2 : muN n (p + 2) (A * 20 + u) 0 < muN n (p + 1) A u := this; omega)
                        · skip
                          have hrn : ∀ j, j < p + 1 → zup rw_ p ((u : Nat) : Int) j = ((dgt (p + 1) (A * 20 + u) j : Nat) : Int) := fun j hj => by by_cases e : j = p; (subst e; rw [zup_s, dgt_app_e (by omega)]); (rw [zup_n _ _ e, dgt_app (by omega) (by omega)]; exact hrw.1 j (by omega))
                          refine x_iload 282 rfl dX7_fewest_280 0 rfl ?_
                          refine x_istore_n 283 rfl (lv' := [(2, .int (zI ((cA (p + 1) (A * 20 + u) : Nat) : Int))), (4, .int (zI ((cA (p + 1) (A * 20 + u) : Nat) : Int))), (0, .ref mo), (1, .int (zI ((n : Nat) : Int))), (3, .int (zI ((p : Nat) : Int)))]) dX7_fewest_282 (by decide) rfl ?_
                          refine x_iconst 284 rfl dX7_fewest_283 (z := 0) (by decide) ?_
                          refine x_istore 286 rfl (lv' := [(5, .int (zI 0)), (2, .int (zI ((cA (p + 1) (A * 20 + u) : Nat) : Int))), (4, .int (zI ((cA (p + 1) (A * 20 + u) : Nat) : Int))), (0, .ref mo), (1, .int (zI ((n : Nat) : Int))), (3, .int (zI ((p : Nat) : Int)))]) dX7_fewest_284 (by decide) rfl ?_
                          have L286 : ∀ (f286 : Nat) (i : Nat) (g : Nat → Int) (hi : i ≤ n) (hcp : ∀ j, j < i → g j = ((dgt n (A * 20 + u) j : Nat) : Int)), n - i < f286 → W_X7_fewest G E mo ad qt sc b mf rw0 be0 n d c 286 [(0, .ref mo), (1, .int (zI ((n : Nat) : Int))), (2, .int (zI ((cA (p + 1) (A * 20 + u) : Nat) : Int))), (3, .int (zI ((p : Nat) : Int))), (4, .int (zI ((cA (p + 1) (A * 20 + u) : Nat) : Int))), (5, .int (zI ((i : Nat) : Int)))] [] ([(mo, moE ad qt sc), (ad 0, aI G 66 b), (ad 7, aZ G 10000 f), (ad 8, aI G 5 (zup rw_ p ((u : Nat) : Int))), (ad 9, aI G 5 g)]) := by
                            intro f286
                            induction f286 with
                            | zero => intro i g hi hcp hf286; exact absurd hf286 (Nat.not_lt_zero _)
                            | succ f286 ih286 =>
                              intro i g hi hcp hf286
                              refine x_iload 288 rfl dX7_fewest_286 5 rfl ?_
                              refine x_iload_n 289 rfl dX7_fewest_288 1 rfl ?_
                              refine x_icmp_ge 292 rfl (tgt := 312) dX7_fewest_289 (by decide) (by omega) (by omega) (fun h289 => ?_) (fun h289 => ?_)
                              · skip
                                have hin : i = n := by omega
                                rw [hin] at hcp
                                refine x_goto dX7_fewest_312 (tgt := 170) (by decide) ?_
                                refine x_lve (congrArg (fun zz : Int => ([(0, .ref mo), (1, .int (zI ((n : Nat) : Int))), (2, .int (zI ((cA (p + 1) (A * 20 + u) : Nat) : Int))), (3, .int (zI zz)), (4, .int (zI ((cA (p + 1) (A * 20 + u) : Nat) : Int))), (5, .int (zI ((i : Nat) : Int)))] : List (Nat × Value))) (by omega : ((p : Nat) : Int) = ((p + 1 : Nat) : Int) - 1)) ?_
                                refine x_lv [0, 1, 2, 3, 4] rfl ?_
                                exact ih170 (p + 1) A (u + 1) ((cA (p + 1) (A * 20 + u) : Nat) : Int) ((cA (p + 1) (A * 20 + u) : Nat) : Int) (zup rw_ p ((u : Nat) : Int)) g (hP) (hA) (by omega) (fun _ => ⟨fun j hj => by rw [zup_n _ _ (by omega)]; exact hrw.1 j hj, by show zup rw_ p ((u : Nat) : Int) p = ((u + 1 : Nat) : Int) - 1; rw [zup_s]; omega⟩) (fun _ => hokp) (fun _ => by show ((cA (p + 1) (A * 20 + u) : Nat) : Int) = ((cA p A + (if u + 1 = 0 then 0 else cN (u + 1 - 1)) : Nat) : Int); rw [if_neg (by omega), cA_app (by omega)]; rfl) (by rw [if_neg (by omega), show A * 20 + (u + 1) = (A * 20 + u) + 1 by omega]; rw [show n - (p + 1) = 0 by omega, Nat.pow_zero, Nat.mul_one]; have hEq := hEp; rw [show n - (p + 1) = 0 by omega, Nat.pow_zero, Nat.mul_one] at hEq; have hnp : n = p + 1 := (by omega); have hL := BS.leaf hEq (by rw [hnp, okA_app (by omega), hokp, h253]; rfl) (by rw [hnp]; omega) (best' := g) (fun i hi => hcp i hi); rw [hnp] at hL ⊢; exact hL) (by have := mu_next (n := n) (P := p + 1) (A := A) (u := u) (by omega) hP (by omega); omega)
                              · skip
                                refine x_aload_n 293 rfl dX7_fewest_292 0 rfl ?_
                                refine x_get 296 rfl (v := .ref (ad 9)) 0 16 rfl rfl (by decide) inX7_fewest_X7 flX7_fewest_38 rfl dX7_fewest_293 ?_
                                refine x_iload 298 rfl dX7_fewest_296 5 rfl ?_
                                refine x_aload_n 299 rfl dX7_fewest_298 0 rfl ?_
                                refine x_get 302 rfl (v := .ref (ad 8)) 0 15 rfl rfl (by decide) inX7_fewest_X7 flX7_fewest_35 rfl dX7_fewest_299 ?_
                                refine x_iload 304 rfl dX7_fewest_302 5 rfl ?_
                                refine x_iald 305 rfl 3 i rfl (⟨by omega, by omega⟩) (by decide) (v := ((dgt n (A * 20 + u) i : Nat) : Int)) (by rw [show n = p + 1 by omega]; exact hrn i (by omega)) dX7_fewest_304 ?_
                                refine x_iast 306 rfl 4 i rfl (⟨by omega, by omega⟩) (by decide) (ws' := [(mo, moE ad qt sc), (ad 0, aI G 66 b), (ad 7, aZ G 10000 f), (ad 8, aI G 5 (zup rw_ p ((u : Nat) : Int))), (ad 9, aI G 5 (zup g i ((dgt n (A * 20 + u) i : Nat) : Int)))]) (rfl) dX7_fewest_305 ?_
                                refine x_iinc 309 rfl (lv' := [(5, .int (zI ((i + 1 : Nat) : Int))), (0, .ref mo), (1, .int (zI ((n : Nat) : Int))), (2, .int (zI ((cA (p + 1) (A * 20 + u) : Nat) : Int))), (3, .int (zI ((p : Nat) : Int))), (4, .int (zI ((cA (p + 1) (A * 20 + u) : Nat) : Int)))]) dX7_fewest_306 5 rfl (b := ((i + 1 : Nat) : Int)) (by omega) (by decide) rfl ?_
                                refine x_goto dX7_fewest_309 (tgt := 286) (by decide) ?_
                                refine x_lv [1, 2, 3, 4, 5, 0] rfl ?_
                                exact ih286 (i + 1) (zup g i ((dgt n (A * 20 + u) i : Nat) : Int)) (by omega) (fun j hj => by
                                    by_cases e : j = i
                                    · subst e; rw [zup_s]
                                    · rw [zup_n _ _ e]; exact hcp j (by omega)) (by omega)
                          refine x_lv [3, 4, 1, 5, 2, 0] rfl ?_
                          exact L286 _ 0 be (by omega) (fun j hj => absurd hj (Nat.not_lt_zero _)) (Nat.lt_succ_self _)
                      · skip
                        refine x_iload 263 rfl dX7_fewest_261 0 rfl ?_
                        refine x_iload_n 264 rfl dX7_fewest_263 2 rfl ?_
                        refine x_iadd 265 rfl dX7_fewest_264 (z := ((cA (p + 1) (A * 20 + u) + n : Nat) : Int)) (by omega) ?_
                        refine x_iconst 266 rfl dX7_fewest_265 (z := 1) (by decide) ?_
                        refine x_isub 267 rfl dX7_fewest_266 (z := ((cA (p + 1) (A * 20 + u) + n : Nat) : Int) - 1) (rfl) ?_
                        refine x_iload_n 268 rfl dX7_fewest_267 4 rfl ?_
                        refine x_isub 269 rfl dX7_fewest_268 (z := (((cA (p + 1) (A * 20 + u) + n : Nat) : Int) - 1) - ((p : Nat) : Int)) (rfl) ?_
                        refine x_iload_n 270 rfl dX7_fewest_269 3 rfl ?_
                        refine x_icmp_ge 273 rfl (tgt := 170) dX7_fewest_270 (by decide) (by omega) (by omega) (fun h270 => ?_) (fun h270 => ?_)
                        · skip
                          refine x_lve (congrArg (fun zz : Int => ([(4, .int (zI ((cA (p + 1) (A * 20 + u) : Nat) : Int))), (0, .ref mo), (1, .int (zI ((n : Nat) : Int))), (2, .int (zI l)), (3, .int (zI zz))] : List (Nat × Value))) (by omega : ((p : Nat) : Int) = ((p + 1 : Nat) : Int) - 1)) ?_
                          refine x_lv [1, 2, 3, 4, 0] rfl ?_
                          exact ih170 (p + 1) A (u + 1) l ((cA (p + 1) (A * 20 + u) : Nat) : Int) (zup rw_ p ((u : Nat) : Int)) be (hP) (hA) (by omega) (fun _ => ⟨fun j hj => by rw [zup_n _ _ (by omega)]; exact hrw.1 j hj, by show zup rw_ p ((u : Nat) : Int) p = ((u + 1 : Nat) : Int) - 1; rw [zup_s]; omega⟩) (fun _ => hokp) (fun _ => by show ((cA (p + 1) (A * 20 + u) : Nat) : Int) = ((cA p A + (if u + 1 = 0 then 0 else cN (u + 1 - 1)) : Nat) : Int); rw [if_neg (by omega), cA_app (by omega)]; rfl) (by rw [if_neg (by omega), show A * 20 + (u + 1) = (A * 20 + u) + 1 by omega]; exact BS.skip (p := p) (by omega) hEp (fun ho => ⟨by omega, by omega⟩)) (by have := mu_next (n := n) (P := p + 1) (A := A) (u := u) (by omega) hP (by omega); omega)
                        · skip
                          refine x_iload_n 274 rfl dX7_fewest_273 4 rfl ?_
                          refine x_iload_n 275 rfl dX7_fewest_274 2 rfl ?_
                          refine x_iconst 276 rfl dX7_fewest_275 (z := 1) (by decide) ?_
                          refine x_isub 277 rfl dX7_fewest_276 (z := ((n : Nat) : Int) - 1) (rfl) ?_
                          refine x_icmp_ne 280 rfl (tgt := 315) dX7_fewest_277 (by decide) (by omega) (by omega) (fun h277 => ?_) (fun h277 => ?_)
                          · skip
                            have hrn : ∀ j, j < p + 1 → zup rw_ p ((u : Nat) : Int) j = ((dgt (p + 1) (A * 20 + u) j : Nat) : Int) := fun j hj => by by_cases e : j = p; (subst e; rw [zup_s, dgt_app_e (by omega)]); (rw [zup_n _ _ e, dgt_app (by omega) (by omega)]; exact hrw.1 j (by omega))
                            refine x_iinc 318 rfl (lv' := [(3, .int (zI ((p + 1 : Nat) : Int))), (4, .int (zI ((cA (p + 1) (A * 20 + u) : Nat) : Int))), (0, .ref mo), (1, .int (zI ((n : Nat) : Int))), (2, .int (zI l))]) dX7_fewest_315 4 rfl (b := ((p + 1 : Nat) : Int)) (by omega) (by decide) rfl ?_
                            refine x_aload_n 319 rfl dX7_fewest_318 2 rfl ?_
                            refine x_get 322 rfl (v := .ref (ad 8)) 0 15 rfl rfl (by decide) inX7_fewest_X7 flX7_fewest_35 rfl dX7_fewest_319 ?_
                            refine x_iload_n 323 rfl dX7_fewest_322 0 rfl ?_
                            refine x_iconst 324 rfl dX7_fewest_323 (z := (-1)) (by decide) ?_
                            refine x_iast 325 rfl 3 (p + 1) rfl (⟨by omega, by omega⟩) (by decide) (ws' := [(mo, moE ad qt sc), (ad 0, aI G 66 b), (ad 7, aZ G 10000 f), (ad 8, aI G 5 (zup (zup rw_ p ((u : Nat) : Int)) (p + 1) (-1))), (ad 9, aI G 5 be)]) (rfl) dX7_fewest_324 ?_
                            refine x_goto dX7_fewest_325 (tgt := 170) (by decide) ?_
                            refine x_lve (congrArg (fun zz : Int => ([(3, .int (zI zz)), (4, .int (zI ((cA (p + 1) (A * 20 + u) : Nat) : Int))), (0, .ref mo), (1, .int (zI ((n : Nat) : Int))), (2, .int (zI l))] : List (Nat × Value))) (by omega : ((p + 1 : Nat) : Int) = ((p + 2 : Nat) : Int) - 1)) ?_
                            refine x_lv [2, 3, 4, 0, 1] rfl ?_
                            exact ih170 (p + 2) (A * 20 + u) 0 l ((cA (p + 1) (A * 20 + u) : Nat) : Int) (zup (zup rw_ p ((u : Nat) : Int)) (p + 1) (-1)) be (by omega) (A_down hA (by omega)) (by omega) (fun _ => ⟨fun j hj => by rw [zup_n _ _ (by omega)]; exact hrn j (by omega), by show zup (zup rw_ p ((u : Nat) : Int)) (p + 1) (-1) (p + 1) = ((0 : Nat) : Int) - 1; rw [zup_s]; rfl⟩) (fun _ => by show okA (cpN b) (p + 1) (A * 20 + u) = true; rw [okA_app (by omega), hokp, h253]; rfl) (fun _ => rfl) (by rw [if_neg (by omega), E_down (by omega)]; exact hEp) (by have := mu_down (n := n) (P := p + 1) (A := A) (u := u) (by omega) (by omega) (by omega); have h2 : muN n (p + 2) (A * 20 + u) 0 < muN n (p + 1) A u := this; omega)
                          · skip
                            have hrn : ∀ j, j < p + 1 → zup rw_ p ((u : Nat) : Int) j = ((dgt (p + 1) (A * 20 + u) j : Nat) : Int) := fun j hj => by by_cases e : j = p; (subst e; rw [zup_s, dgt_app_e (by omega)]); (rw [zup_n _ _ e, dgt_app (by omega) (by omega)]; exact hrw.1 j (by omega))
                            refine x_iload 282 rfl dX7_fewest_280 0 rfl ?_
                            refine x_istore_n 283 rfl (lv' := [(2, .int (zI ((cA (p + 1) (A * 20 + u) : Nat) : Int))), (4, .int (zI ((cA (p + 1) (A * 20 + u) : Nat) : Int))), (0, .ref mo), (1, .int (zI ((n : Nat) : Int))), (3, .int (zI ((p : Nat) : Int)))]) dX7_fewest_282 (by decide) rfl ?_
                            refine x_iconst 284 rfl dX7_fewest_283 (z := 0) (by decide) ?_
                            refine x_istore 286 rfl (lv' := [(5, .int (zI 0)), (2, .int (zI ((cA (p + 1) (A * 20 + u) : Nat) : Int))), (4, .int (zI ((cA (p + 1) (A * 20 + u) : Nat) : Int))), (0, .ref mo), (1, .int (zI ((n : Nat) : Int))), (3, .int (zI ((p : Nat) : Int)))]) dX7_fewest_284 (by decide) rfl ?_
                            have L286 : ∀ (f286 : Nat) (i : Nat) (g : Nat → Int) (hi : i ≤ n) (hcp : ∀ j, j < i → g j = ((dgt n (A * 20 + u) j : Nat) : Int)), n - i < f286 → W_X7_fewest G E mo ad qt sc b mf rw0 be0 n d c 286 [(0, .ref mo), (1, .int (zI ((n : Nat) : Int))), (2, .int (zI ((cA (p + 1) (A * 20 + u) : Nat) : Int))), (3, .int (zI ((p : Nat) : Int))), (4, .int (zI ((cA (p + 1) (A * 20 + u) : Nat) : Int))), (5, .int (zI ((i : Nat) : Int)))] [] ([(mo, moE ad qt sc), (ad 0, aI G 66 b), (ad 7, aZ G 10000 f), (ad 8, aI G 5 (zup rw_ p ((u : Nat) : Int))), (ad 9, aI G 5 g)]) := by
                              intro f286
                              induction f286 with
                              | zero => intro i g hi hcp hf286; exact absurd hf286 (Nat.not_lt_zero _)
                              | succ f286 ih286 =>
                                intro i g hi hcp hf286
                                refine x_iload 288 rfl dX7_fewest_286 5 rfl ?_
                                refine x_iload_n 289 rfl dX7_fewest_288 1 rfl ?_
                                refine x_icmp_ge 292 rfl (tgt := 312) dX7_fewest_289 (by decide) (by omega) (by omega) (fun h289 => ?_) (fun h289 => ?_)
                                · skip
                                  have hin : i = n := by omega
                                  rw [hin] at hcp
                                  refine x_goto dX7_fewest_312 (tgt := 170) (by decide) ?_
                                  refine x_lve (congrArg (fun zz : Int => ([(0, .ref mo), (1, .int (zI ((n : Nat) : Int))), (2, .int (zI ((cA (p + 1) (A * 20 + u) : Nat) : Int))), (3, .int (zI zz)), (4, .int (zI ((cA (p + 1) (A * 20 + u) : Nat) : Int))), (5, .int (zI ((i : Nat) : Int)))] : List (Nat × Value))) (by omega : ((p : Nat) : Int) = ((p + 1 : Nat) : Int) - 1)) ?_
                                  refine x_lv [0, 1, 2, 3, 4] rfl ?_
                                  exact ih170 (p + 1) A (u + 1) ((cA (p + 1) (A * 20 + u) : Nat) : Int) ((cA (p + 1) (A * 20 + u) : Nat) : Int) (zup rw_ p ((u : Nat) : Int)) g (hP) (hA) (by omega) (fun _ => ⟨fun j hj => by rw [zup_n _ _ (by omega)]; exact hrw.1 j hj, by show zup rw_ p ((u : Nat) : Int) p = ((u + 1 : Nat) : Int) - 1; rw [zup_s]; omega⟩) (fun _ => hokp) (fun _ => by show ((cA (p + 1) (A * 20 + u) : Nat) : Int) = ((cA p A + (if u + 1 = 0 then 0 else cN (u + 1 - 1)) : Nat) : Int); rw [if_neg (by omega), cA_app (by omega)]; rfl) (by rw [if_neg (by omega), show A * 20 + (u + 1) = (A * 20 + u) + 1 by omega]; rw [show n - (p + 1) = 0 by omega, Nat.pow_zero, Nat.mul_one]; have hEq := hEp; rw [show n - (p + 1) = 0 by omega, Nat.pow_zero, Nat.mul_one] at hEq; have hnp : n = p + 1 := (by omega); have hL := BS.leaf hEq (by rw [hnp, okA_app (by omega), hokp, h253]; rfl) (by rw [hnp]; omega) (best' := g) (fun i hi => hcp i hi); rw [hnp] at hL ⊢; exact hL) (by have := mu_next (n := n) (P := p + 1) (A := A) (u := u) (by omega) hP (by omega); omega)
                                · skip
                                  refine x_aload_n 293 rfl dX7_fewest_292 0 rfl ?_
                                  refine x_get 296 rfl (v := .ref (ad 9)) 0 16 rfl rfl (by decide) inX7_fewest_X7 flX7_fewest_38 rfl dX7_fewest_293 ?_
                                  refine x_iload 298 rfl dX7_fewest_296 5 rfl ?_
                                  refine x_aload_n 299 rfl dX7_fewest_298 0 rfl ?_
                                  refine x_get 302 rfl (v := .ref (ad 8)) 0 15 rfl rfl (by decide) inX7_fewest_X7 flX7_fewest_35 rfl dX7_fewest_299 ?_
                                  refine x_iload 304 rfl dX7_fewest_302 5 rfl ?_
                                  refine x_iald 305 rfl 3 i rfl (⟨by omega, by omega⟩) (by decide) (v := ((dgt n (A * 20 + u) i : Nat) : Int)) (by rw [show n = p + 1 by omega]; exact hrn i (by omega)) dX7_fewest_304 ?_
                                  refine x_iast 306 rfl 4 i rfl (⟨by omega, by omega⟩) (by decide) (ws' := [(mo, moE ad qt sc), (ad 0, aI G 66 b), (ad 7, aZ G 10000 f), (ad 8, aI G 5 (zup rw_ p ((u : Nat) : Int))), (ad 9, aI G 5 (zup g i ((dgt n (A * 20 + u) i : Nat) : Int)))]) (rfl) dX7_fewest_305 ?_
                                  refine x_iinc 309 rfl (lv' := [(5, .int (zI ((i + 1 : Nat) : Int))), (0, .ref mo), (1, .int (zI ((n : Nat) : Int))), (2, .int (zI ((cA (p + 1) (A * 20 + u) : Nat) : Int))), (3, .int (zI ((p : Nat) : Int))), (4, .int (zI ((cA (p + 1) (A * 20 + u) : Nat) : Int)))]) dX7_fewest_306 5 rfl (b := ((i + 1 : Nat) : Int)) (by omega) (by decide) rfl ?_
                                  refine x_goto dX7_fewest_309 (tgt := 286) (by decide) ?_
                                  refine x_lv [1, 2, 3, 4, 5, 0] rfl ?_
                                  exact ih286 (i + 1) (zup g i ((dgt n (A * 20 + u) i : Nat) : Int)) (by omega) (fun j hj => by
                                      by_cases e : j = i
                                      · subst e; rw [zup_s]
                                      · rw [zup_n _ _ e]; exact hcp j (by omega)) (by omega)
                            refine x_lv [3, 4, 1, 5, 2, 0] rfl ?_
                            exact L286 _ 0 be (by omega) (fun j hj => absurd hj (Nat.not_lt_zero _)) (Nat.lt_succ_self _)
                  · skip
                    have hu20 : u = 20 := by omega
                    refine x_iinc 228 rfl (lv' := [(3, .int (zI (((p : Nat) : Int) - 1))), (4, .int (zI ((cA p A : Nat) : Int))), (0, .ref mo), (1, .int (zI ((n : Nat) : Int))), (2, .int (zI l))]) dX7_fewest_225 4 rfl (b := ((p : Nat) : Int) - 1) (by omega) (by decide) rfl ?_
                    refine x_goto dX7_fewest_228 (tgt := 170) (by decide) ?_
                    refine x_lv [2, 3, 4, 0, 1] rfl ?_
                    exact ih170 p (A / 20) (A % 20 + 1) l ((cA p A : Nat) : Int) (zup rw_ p ((u : Nat) : Int)) be (by omega) (by by_cases h0 : p = 0; (subst h0; rw [Nat.pow_zero] at hA; show A / 20 < 20 ^ 0; rw [Nat.pow_zero]; omega); exact A_up hA (by omega)) (by omega) (fun h1 => ⟨fun j hj => by rw [zup_n _ _ (by omega), hrw.1 j (by omega)]; obtain ⟨p', rfl⟩ : ∃ p', p = p' + 1 := ⟨p - 1, by omega⟩; rw [dgt_s (by omega)]; rfl, by rw [zup_n _ _ (by omega), hrw.1 (p - 1) (by omega)]; obtain ⟨p', rfl⟩ : ∃ p', p = p' + 1 := ⟨p - 1, by omega⟩; rw [show p' + 1 - 1 = p' by omega, dgt_e]; omega⟩) (fun h1 => by obtain ⟨p', rfl⟩ : ∃ p', p = p' + 1 := ⟨p - 1, by omega⟩; have h2 : (okA (cpN b) p' (A / 20) && _) = true := hokp; rw [Bool.and_eq_true] at h2; exact h2.1) (fun h1 => by obtain ⟨p', rfl⟩ : ∃ p', p = p' + 1 := ⟨p - 1, by omega⟩; rfl) (by rw [E_up (by omega) hA]; rw [hu20] at hEp; exact hEp) (by have := mu_up (n := n) (P := p + 1) (A := A) (by omega) hP; rw [hu20] at hf170; have h2 : muN n p (A / 20) (A % 20 + 1) < muN n (p + 1) A 20 := this; omega)
          refine x_lv [3, 4, 2, 1, 0] rfl ?_
          exact L170 _ 1 0 0 (-1) 0 (zup rw0 0 (-1)) be0 (by omega) (by decide) (by omega) (fun _ => ⟨fun j hj => absurd hj (by omega), by show zup rw0 0 (-1) 0 = _; rw [zup_s]; rfl⟩) (fun _ => rfl) (fun _ => rfl) (Or.inl ⟨by rw [if_neg (by decide), Nat.zero_mul]; rfl, rfl⟩) (Nat.lt_succ_self _)
        · skip
          refine x_iconst 162 rfl dX7_fewest_161 (z := 0) (by decide) ?_
          refine x_iret rfl ?_ dX7_fewest_162
          have e1 : nmB b n = 0 := by unfold nmB; rw [show n = 0 by omega]; rfl
          have e2 : nmV b n = 0 := by unfold nmV; rw [e1, if_neg (by decide), show n = 0 by omega]; rfl
          exact ⟨f, rw0, be0, by rw [e2], rfl, fun e _ i hi => absurd hi (by omega)⟩
      · skip
        refine x_iload_n 16 rfl dX7_fewest_15 2 rfl ?_
        refine x_iconst 17 rfl dX7_fewest_16 (z := 1) (by decide) ?_
        refine x_iadd 18 rfl dX7_fewest_17 (z := ((q + 1 : Nat) : Int)) (by omega) ?_
        refine x_istore_n 19 rfl (lv' := [(3, .int (zI ((q + 1 : Nat) : Int))), (0, .ref mo), (1, .int (zI ((n : Nat) : Int))), (2, .int (zI ((q : Nat) : Int)))]) dX7_fewest_18 (by decide) rfl ?_
        have L19 : ∀ (f19 : Nat) (p : Nat) (f : Nat → Bool) (hp1 : q < p) (hp : p ≤ n) (hD : ∀ q' p' k', q' < p' → p' < n → k' < 400 → (q' < q ∨ (q' = q ∧ (p' < p ∨ (p' = p ∧ k' < 0)))) → f ((5 * q' + p') * 400 + k') = cpN b q' p' (k' / 20) (k' % 20)), n - p < f19 → W_X7_fewest G E mo ad qt sc b mf rw0 be0 n d c 19 [(0, .ref mo), (1, .int (zI ((n : Nat) : Int))), (2, .int (zI ((q : Nat) : Int))), (3, .int (zI ((p : Nat) : Int)))] [] ([(mo, moE ad qt sc), (ad 0, aI G 66 b), (ad 7, aZ G 10000 f), (ad 8, aI G 5 rw0), (ad 9, aI G 5 be0)]) := by
          intro f19
          induction f19 with
          | zero => intro p f hp1 hp hD hf19; exact absurd hf19 (Nat.not_lt_zero _)
          | succ f19 ih19 =>
            intro p f hp1 hp hD hf19
            refine x_iload_n 20 rfl dX7_fewest_19 3 rfl ?_
            refine x_iload_n 21 rfl dX7_fewest_20 1 rfl ?_
            refine x_icmp_ge 24 rfl (tgt := 144) dX7_fewest_21 (by decide) (by omega) (by omega) (fun h21 => ?_) (fun h21 => ?_)
            · skip
              refine x_iinc 147 rfl (lv' := [(2, .int (zI ((q + 1 : Nat) : Int))), (0, .ref mo), (1, .int (zI ((n : Nat) : Int))), (3, .int (zI ((p : Nat) : Int)))]) dX7_fewest_144 2 rfl (b := ((q + 1 : Nat) : Int)) (by omega) (by decide) rfl ?_
              refine x_goto dX7_fewest_147 (tgt := 10) (by decide) ?_
              refine x_lv [1, 2, 0] rfl ?_
              exact ih10 (q + 1) f (by omega) (fun q' p' k' h1 h2 h3 h4 => hD q' p' k' h1 h2 h3 (by omega)) (by omega)
            · skip
              refine x_iconst 25 rfl dX7_fewest_24 (z := 0) (by decide) ?_
              refine x_istore 27 rfl (lv' := [(4, .int (zI 0)), (0, .ref mo), (1, .int (zI ((n : Nat) : Int))), (2, .int (zI ((q : Nat) : Int))), (3, .int (zI ((p : Nat) : Int)))]) dX7_fewest_25 (by decide) rfl ?_
              have L27 : ∀ (f27 : Nat) (k : Nat) (f : Nat → Bool) (hk : k ≤ 400) (hD : ∀ q' p' k', q' < p' → p' < n → k' < 400 → (q' < q ∨ (q' = q ∧ (p' < p ∨ (p' = p ∧ k' < k)))) → f ((5 * q' + p') * 400 + k') = cpN b q' p' (k' / 20) (k' % 20)), 400 - k < f27 → W_X7_fewest G E mo ad qt sc b mf rw0 be0 n d c 27 [(0, .ref mo), (1, .int (zI ((n : Nat) : Int))), (2, .int (zI ((q : Nat) : Int))), (3, .int (zI ((p : Nat) : Int))), (4, .int (zI ((k : Nat) : Int)))] [] ([(mo, moE ad qt sc), (ad 0, aI G 66 b), (ad 7, aZ G 10000 f), (ad 8, aI G 5 rw0), (ad 9, aI G 5 be0)]) := by
                intro f27
                induction f27 with
                | zero => intro k f hk hD hf27; exact absurd hf27 (Nat.not_lt_zero _)
                | succ f27 ih27 =>
                  intro k f hk hD hf27
                  refine x_iload 29 rfl dX7_fewest_27 4 rfl ?_
                  refine x_sipush 32 rfl dX7_fewest_29 (z := 400) (by decide) ?_
                  refine x_icmp_ge 35 rfl (tgt := 138) dX7_fewest_32 (by decide) (by omega) (by decide) (fun h32 => ?_) (fun h32 => ?_)
                  · skip
                    refine x_iinc 141 rfl (lv' := [(3, .int (zI ((p + 1 : Nat) : Int))), (0, .ref mo), (1, .int (zI ((n : Nat) : Int))), (2, .int (zI ((q : Nat) : Int))), (4, .int (zI ((k : Nat) : Int)))]) dX7_fewest_138 3 rfl (b := ((p + 1 : Nat) : Int)) (by omega) (by decide) rfl ?_
                    refine x_goto dX7_fewest_141 (tgt := 19) (by decide) ?_
                    refine x_lv [1, 2, 3, 0] rfl ?_
                    exact ih19 (p + 1) f (by omega) (by omega) (fun q' p' k' h1 h2 h3 h4 => hD q' p' k' h1 h2 h3 (by omega)) (by omega)
                  · skip
                    have hva := tuneOf_vt (k := k / 20) (by omega)
                    have hvb := tuneOf_vt (k := k % 20) (by omega)
                    have hkq := (I.k (p := q) (by omega)).2
                    have hkp := (I.k (p := p) (by omega)).2
                    have hna := (notes_vt _ (vt_lt hva) hva).1
                    have hnb := (notes_vt _ (vt_lt hvb) hvb).1
                    have hl1 := note_lt (tuneOfN (k / 20)) 0
                    have hl2 := note_lt (tuneOfN (k % 20)) 0
                    refine x_iload 37 rfl dX7_fewest_35 4 rfl ?_
                    refine x_bipush 39 rfl dX7_fewest_37 (z := 20) (by decide) ?_
                    refine x_idiv 40 rfl dX7_fewest_39 (z := ((k / 20 : Nat) : Int)) (by decide) (zI_div (a := k) (d := 20) (by omega) (by omega) (by omega)) ?_
                    refine x_callS0 43 rfl (c_X7_tuneOf G (k / 20) (by omega)) (fun _ _ h => h.2) gX7_fewest_X7_tuneOf rfl rfl rfl hd_X7_tuneOf ⟨Nat.le_of_ble_eq_true rfl, Nat.le_of_ble_eq_true rfl⟩ (As := [.int (zI ((k / 20 : Nat) : Int))]) (rest := []) rfl rfl (Nat.le_of_ble_eq_true rfl) dX7_fewest_40 ⟨Nat.zero_le _, Nat.zero_le _⟩ (fun v hq => ?_)
                    obtain ⟨rfl, -⟩ := hq
                    refine x_istore 45 rfl (lv' := [(5, .int (zI ((tuneOfN (k / 20) : Nat) : Int))), (0, .ref mo), (1, .int (zI ((n : Nat) : Int))), (2, .int (zI ((q : Nat) : Int))), (3, .int (zI ((p : Nat) : Int))), (4, .int (zI ((k : Nat) : Int)))]) dX7_fewest_43 (by decide) rfl ?_
                    refine x_iload 47 rfl dX7_fewest_45 5 rfl ?_
                    refine x_bipush 49 rfl dX7_fewest_47 (z := 20) (by decide) ?_
                    refine x_irem 50 rfl dX7_fewest_49 (z := ((k % 20 : Nat) : Int)) (by decide) (zI_rem (a := k) (d := 20) (by omega) (by omega) (by omega)) ?_
                    refine x_callS0 53 rfl (c_X7_tuneOf G (k % 20) (by omega)) (fun _ _ h => h.2) gX7_fewest_X7_tuneOf rfl rfl rfl hd_X7_tuneOf ⟨Nat.le_of_ble_eq_true rfl, Nat.le_of_ble_eq_true rfl⟩ (As := [.int (zI ((k % 20 : Nat) : Int))]) (rest := []) rfl rfl (Nat.le_of_ble_eq_true rfl) dX7_fewest_50 ⟨Nat.zero_le _, Nat.zero_le _⟩ (fun v hq => ?_)
                    obtain ⟨rfl, -⟩ := hq
                    refine x_istore 55 rfl (lv' := [(6, .int (zI ((tuneOfN (k % 20) : Nat) : Int))), (5, .int (zI ((tuneOfN (k / 20) : Nat) : Int))), (0, .ref mo), (1, .int (zI ((n : Nat) : Int))), (2, .int (zI ((q : Nat) : Int))), (3, .int (zI ((p : Nat) : Int))), (4, .int (zI ((k : Nat) : Int)))]) dX7_fewest_53 (by decide) rfl ?_
                    refine x_aload_n 56 rfl dX7_fewest_55 2 rfl ?_
                    refine x_iload_n 57 rfl dX7_fewest_56 4 rfl ?_
                    refine x_iconst 58 rfl dX7_fewest_57 (z := 3) (by decide) ?_
                    refine x_callV 61 rfl (c_X7_of G mo ad qt sc b q 3 (by omega) (by omega)) [0, 1] rfl (by decide) 0 rfl rfl gX7_fewest_X7_of rfl rfl rfl hd_X7_of ⟨Nat.le_of_ble_eq_true rfl, Nat.le_of_ble_eq_true rfl⟩ (As := [.int (zI ((q : Nat) : Int)), .int (zI 3)]) (rest := []) rfl rfl (Nat.le_of_ble_eq_true rfl) dX7_fewest_58 ⟨Nat.zero_le _, Nat.zero_le _⟩ (fun v w hq => ?_)
                    obtain ⟨rfl, rfl⟩ := hq
                    refine ⟨rfl, ?_⟩
                    refine x_ws (ws' := [(mo, moE ad qt sc), (ad 0, aI G 66 b), (ad 7, aZ G 10000 f), (ad 8, aI G 5 rw0), (ad 9, aI G 5 be0)]) (rfl) ?_
                    refine x_int (congrArg zI ((I.k (by omega)).1 : b (18 + 4 * q + 3) = ((kN b q : Nat) : Int))) ?_
                    refine x_aload_n 62 rfl dX7_fewest_61 2 rfl ?_
                    refine x_iload_n 63 rfl dX7_fewest_62 5 rfl ?_
                    refine x_iconst 64 rfl dX7_fewest_63 (z := 3) (by decide) ?_
                    refine x_callV 67 rfl (c_X7_of G mo ad qt sc b p 3 (by omega) (by omega)) [0, 1] rfl (by decide) 0 rfl rfl gX7_fewest_X7_of rfl rfl rfl hd_X7_of ⟨Nat.le_of_ble_eq_true rfl, Nat.le_of_ble_eq_true rfl⟩ (As := [.int (zI ((p : Nat) : Int)), .int (zI 3)]) (rest := [.int (zI ((kN b q : Nat) : Int))]) rfl rfl (Nat.le_of_ble_eq_true rfl) dX7_fewest_64 ⟨Nat.zero_le _, Nat.zero_le _⟩ (fun v w hq => ?_)
                    obtain ⟨rfl, rfl⟩ := hq
                    refine ⟨rfl, ?_⟩
                    refine x_ws (ws' := [(mo, moE ad qt sc), (ad 0, aI G 66 b), (ad 7, aZ G 10000 f), (ad 8, aI G 5 rw0), (ad 9, aI G 5 be0)]) (rfl) ?_
                    refine x_int (congrArg zI ((I.k (by omega)).1 : b (18 + 4 * p + 3) = ((kN b p : Nat) : Int))) ?_
                    refine x_icmp_ne 70 rfl (tgt := 85) dX7_fewest_67 (by decide) (by omega) (by omega) (fun h67 => ?_) (fun h67 => ?_)
                    · skip
                      have hkn : knB b q p (k / 20) (k % 20) = true := by unfold knB; rw [decide_eq_true (by omega)]; rfl
                      refine x_iconst 86 rfl dX7_fewest_85 (z := 1) (by decide) ?_
                      refine x_goto dX7_fewest_86 (tgt := 90) (by decide) ?_
                      refine x_istore 92 rfl (lv' := [(7, .int (zI 1)), (6, .int (zI ((tuneOfN (k % 20) : Nat) : Int))), (5, .int (zI ((tuneOfN (k / 20) : Nat) : Int))), (0, .ref mo), (1, .int (zI ((n : Nat) : Int))), (2, .int (zI ((q : Nat) : Int))), (3, .int (zI ((p : Nat) : Int))), (4, .int (zI ((k : Nat) : Int)))]) dX7_fewest_90 (by decide) rfl ?_
                      refine x_aload_n 93 rfl dX7_fewest_92 3 rfl ?_
                      refine x_get 96 rfl (v := .ref (ad 7)) 0 14 rfl rfl (by decide) inX7_fewest_X7 flX7_fewest_32 rfl dX7_fewest_93 ?_
                      refine x_iconst 97 rfl dX7_fewest_96 (z := 5) (by decide) ?_
                      refine x_iload_n 98 rfl dX7_fewest_97 5 rfl ?_
                      refine x_imul 99 rfl dX7_fewest_98 (z := ((5 * q : Nat) : Int)) (by omega) ?_
                      refine x_iload_n 100 rfl dX7_fewest_99 6 rfl ?_
                      refine x_iadd 101 rfl dX7_fewest_100 (z := ((5 * q + p : Nat) : Int)) (by omega) ?_
                      refine x_sipush 104 rfl dX7_fewest_101 (z := 400) (by decide) ?_
                      refine x_imul 105 rfl dX7_fewest_104 (z := (((5 * q + p) * 400 : Nat) : Int)) (by omega) ?_
                      refine x_iload 107 rfl dX7_fewest_105 7 rfl ?_
                      refine x_iadd 108 rfl dX7_fewest_107 (z := (((5 * q + p) * 400 + k : Nat) : Int)) (by omega) ?_
                      refine x_iload 110 rfl dX7_fewest_108 0 rfl ?_
                      refine x_if_eq 113 rfl (tgt := 130) dX7_fewest_110 (by decide) (by omega) (fun h110 => ?_) (fun h110 => ?_)
                      · skip
                        exact absurd h110 (by decide)
                      · skip
                        refine x_aload_n 114 rfl dX7_fewest_113 3 rfl ?_
                        refine x_iload_n 115 rfl dX7_fewest_114 5 rfl ?_
                        refine x_iload 117 rfl dX7_fewest_115 2 rfl ?_
                        refine x_iload_n 118 rfl dX7_fewest_117 6 rfl ?_
                        refine x_iload 120 rfl dX7_fewest_118 1 rfl ?_
                        refine x_callV 123 rfl (c_X7_clashes G mo ad qt sc b n d c I q (tuneOfN (k / 20)) p (tuneOfN (k % 20)) (by omega) hva (by omega) hvb) [0, 1] rfl (by decide) 0 rfl rfl gX7_fewest_X7_clashes rfl rfl rfl hd_X7_clashes ⟨Nat.le_of_ble_eq_true rfl, Nat.le_of_ble_eq_true rfl⟩ (As := [.int (zI ((q : Nat) : Int)), .int (zI ((tuneOfN (k / 20) : Nat) : Int)), .int (zI ((p : Nat) : Int)), .int (zI ((tuneOfN (k % 20) : Nat) : Int))]) (rest := [.int (zI (((5 * q + p) * 400 + k : Nat) : Int)), .ref (ad 7)]) rfl rfl (Nat.le_of_ble_eq_true rfl) dX7_fewest_120 ⟨Nat.zero_le _, Nat.zero_le _⟩ (fun v w hq => ?_)
                        obtain ⟨rfl, rfl⟩ := hq
                        refine ⟨rfl, ?_⟩
                        refine x_ws (ws' := [(mo, moE ad qt sc), (ad 0, aI G 66 b), (ad 7, aZ G 10000 f), (ad 8, aI G 5 rw0), (ad 9, aI G 5 be0)]) (rfl) ?_
                        refine x_bif_ne 126 rfl (tgt := 130) dX7_fewest_123 (by decide) (fun h123 => ?_) (fun h123 => ?_)
                        · skip
                          refine x_iconst 131 rfl dX7_fewest_130 (z := 0) (by decide) ?_
                          refine x_int (y := (zB (cpN b q p (k / 20) (k % 20)))) (zB_f (by unfold cpN; rw [hkn]; first | rfl | (rw [h123]; rfl))) ?_
                          refine x_zast 132 rfl 2 ((5 * q + p) * 400 + k) rfl (⟨by omega, by omega⟩) (by decide) (ws' := [(mo, moE ad qt sc), (ad 0, aI G 66 b), (ad 7, aZ G 10000 (zup f ((5 * q + p) * 400 + k) (cpN b q p (k / 20) (k % 20)))), (ad 8, aI G 5 rw0), (ad 9, aI G 5 be0)]) (rfl) dX7_fewest_131 ?_
                          refine x_iinc 135 rfl (lv' := [(4, .int (zI ((k + 1 : Nat) : Int))), (7, .int (zI 1)), (6, .int (zI ((tuneOfN (k % 20) : Nat) : Int))), (5, .int (zI ((tuneOfN (k / 20) : Nat) : Int))), (0, .ref mo), (1, .int (zI ((n : Nat) : Int))), (2, .int (zI ((q : Nat) : Int))), (3, .int (zI ((p : Nat) : Int)))]) dX7_fewest_132 7 rfl (b := ((k + 1 : Nat) : Int)) (by omega) (by decide) rfl ?_
                          refine x_goto dX7_fewest_135 (tgt := 27) (by decide) ?_
                          refine x_lv [4, 5, 6, 7, 0] rfl ?_
                          exact ih27 (k + 1) (zup f ((5 * q + p) * 400 + k) (cpN b q p (k / 20) (k % 20))) (by omega) (fun q' p' k' h1 h2 h3 h4 => by
                              by_cases e : (5 * q' + p') * 400 + k' = (5 * q + p) * 400 + k
                              · obtain ⟨rfl, rfl, rfl⟩ : q' = q ∧ p' = p ∧ k' = k := ⟨by omega, by omega, by omega⟩; exact zup_s _ _ _
                              · rw [zup_n _ _ e]; exact hD q' p' k' h1 h2 h3 (by omega)) (by omega)
                        · skip
                          refine x_iconst 127 rfl dX7_fewest_126 (z := 1) (by decide) ?_
                          refine x_int (y := (zB (cpN b q p (k / 20) (k % 20)))) (zB_t (by unfold cpN; rw [hkn, h123]; rfl)) ?_
                          refine x_goto dX7_fewest_127 (tgt := 131) (by decide) ?_
                          refine x_zast 132 rfl 2 ((5 * q + p) * 400 + k) rfl (⟨by omega, by omega⟩) (by decide) (ws' := [(mo, moE ad qt sc), (ad 0, aI G 66 b), (ad 7, aZ G 10000 (zup f ((5 * q + p) * 400 + k) (cpN b q p (k / 20) (k % 20)))), (ad 8, aI G 5 rw0), (ad 9, aI G 5 be0)]) (rfl) dX7_fewest_131 ?_
                          refine x_iinc 135 rfl (lv' := [(4, .int (zI ((k + 1 : Nat) : Int))), (7, .int (zI 1)), (6, .int (zI ((tuneOfN (k % 20) : Nat) : Int))), (5, .int (zI ((tuneOfN (k / 20) : Nat) : Int))), (0, .ref mo), (1, .int (zI ((n : Nat) : Int))), (2, .int (zI ((q : Nat) : Int))), (3, .int (zI ((p : Nat) : Int)))]) dX7_fewest_132 7 rfl (b := ((k + 1 : Nat) : Int)) (by omega) (by decide) rfl ?_
                          refine x_goto dX7_fewest_135 (tgt := 27) (by decide) ?_
                          refine x_lv [4, 5, 6, 7, 0] rfl ?_
                          exact ih27 (k + 1) (zup f ((5 * q + p) * 400 + k) (cpN b q p (k / 20) (k % 20))) (by omega) (fun q' p' k' h1 h2 h3 h4 => by
                              by_cases e : (5 * q' + p') * 400 + k' = (5 * q + p) * 400 + k
                              · obtain ⟨rfl, rfl, rfl⟩ : q' = q ∧ p' = p ∧ k' = k := ⟨by omega, by omega, by omega⟩; exact zup_s _ _ _
                              · rw [zup_n _ _ e]; exact hD q' p' k' h1 h2 h3 (by omega)) (by omega)
                    · skip
                      refine x_iload 72 rfl dX7_fewest_70 1 rfl ?_
                      refine x_iconst 73 rfl dX7_fewest_72 (z := 0) (by decide) ?_
                      refine x_callS0 76 rfl (c_X7_note G (tuneOfN (k / 20)) 0 hva (by omega)) (fun _ _ h => h.2) gX7_fewest_X7_note rfl rfl rfl hd_X7_note ⟨Nat.le_of_ble_eq_true rfl, Nat.le_of_ble_eq_true rfl⟩ (As := [.int (zI ((tuneOfN (k / 20) : Nat) : Int)), .int (zI 0)]) (rest := []) rfl rfl (Nat.le_of_ble_eq_true rfl) dX7_fewest_73 ⟨Nat.zero_le _, Nat.zero_le _⟩ (fun v hq => ?_)
                      obtain ⟨rfl, -⟩ := hq
                      refine x_iload 78 rfl dX7_fewest_76 0 rfl ?_
                      refine x_iconst 79 rfl dX7_fewest_78 (z := 0) (by decide) ?_
                      refine x_callS0 82 rfl (c_X7_note G (tuneOfN (k % 20)) 0 hvb (by omega)) (fun _ _ h => h.2) gX7_fewest_X7_note rfl rfl rfl hd_X7_note ⟨Nat.le_of_ble_eq_true rfl, Nat.le_of_ble_eq_true rfl⟩ (As := [.int (zI ((tuneOfN (k % 20) : Nat) : Int)), .int (zI 0)]) (rest := [.int (zI ((noteN (tuneOfN (k / 20)) 0 : Nat) : Int))]) rfl rfl (Nat.le_of_ble_eq_true rfl) dX7_fewest_79 ⟨Nat.zero_le _, Nat.zero_le _⟩ (fun v hq => ?_)
                      obtain ⟨rfl, -⟩ := hq
                      refine x_icmp_ne 85 rfl (tgt := 89) dX7_fewest_82 (by decide) (by omega) (by omega) (fun h82 => ?_) (fun h82 => ?_)
                      · skip
                        have hkn : knB b q p (k / 20) (k % 20) = false := by unfold knB; rw [decide_eq_false (by omega), decide_eq_false (by omega)]; rfl
                        refine x_iconst 90 rfl dX7_fewest_89 (z := 0) (by decide) ?_
                        refine x_istore 92 rfl (lv' := [(7, .int (zI 0)), (6, .int (zI ((tuneOfN (k % 20) : Nat) : Int))), (5, .int (zI ((tuneOfN (k / 20) : Nat) : Int))), (0, .ref mo), (1, .int (zI ((n : Nat) : Int))), (2, .int (zI ((q : Nat) : Int))), (3, .int (zI ((p : Nat) : Int))), (4, .int (zI ((k : Nat) : Int)))]) dX7_fewest_90 (by decide) rfl ?_
                        refine x_aload_n 93 rfl dX7_fewest_92 3 rfl ?_
                        refine x_get 96 rfl (v := .ref (ad 7)) 0 14 rfl rfl (by decide) inX7_fewest_X7 flX7_fewest_32 rfl dX7_fewest_93 ?_
                        refine x_iconst 97 rfl dX7_fewest_96 (z := 5) (by decide) ?_
                        refine x_iload_n 98 rfl dX7_fewest_97 5 rfl ?_
                        refine x_imul 99 rfl dX7_fewest_98 (z := ((5 * q : Nat) : Int)) (by omega) ?_
                        refine x_iload_n 100 rfl dX7_fewest_99 6 rfl ?_
                        refine x_iadd 101 rfl dX7_fewest_100 (z := ((5 * q + p : Nat) : Int)) (by omega) ?_
                        refine x_sipush 104 rfl dX7_fewest_101 (z := 400) (by decide) ?_
                        refine x_imul 105 rfl dX7_fewest_104 (z := (((5 * q + p) * 400 : Nat) : Int)) (by omega) ?_
                        refine x_iload 107 rfl dX7_fewest_105 7 rfl ?_
                        refine x_iadd 108 rfl dX7_fewest_107 (z := (((5 * q + p) * 400 + k : Nat) : Int)) (by omega) ?_
                        refine x_iload 110 rfl dX7_fewest_108 0 rfl ?_
                        refine x_if_eq 113 rfl (tgt := 130) dX7_fewest_110 (by decide) (by omega) (fun h110 => ?_) (fun h110 => ?_)
                        · skip
                          refine x_iconst 131 rfl dX7_fewest_130 (z := 0) (by decide) ?_
                          refine x_int (y := (zB (cpN b q p (k / 20) (k % 20)))) (zB_f (by unfold cpN; rw [hkn]; first | rfl | (rw [h123]; rfl))) ?_
                          refine x_zast 132 rfl 2 ((5 * q + p) * 400 + k) rfl (⟨by omega, by omega⟩) (by decide) (ws' := [(mo, moE ad qt sc), (ad 0, aI G 66 b), (ad 7, aZ G 10000 (zup f ((5 * q + p) * 400 + k) (cpN b q p (k / 20) (k % 20)))), (ad 8, aI G 5 rw0), (ad 9, aI G 5 be0)]) (rfl) dX7_fewest_131 ?_
                          refine x_iinc 135 rfl (lv' := [(4, .int (zI ((k + 1 : Nat) : Int))), (7, .int (zI 0)), (6, .int (zI ((tuneOfN (k % 20) : Nat) : Int))), (5, .int (zI ((tuneOfN (k / 20) : Nat) : Int))), (0, .ref mo), (1, .int (zI ((n : Nat) : Int))), (2, .int (zI ((q : Nat) : Int))), (3, .int (zI ((p : Nat) : Int)))]) dX7_fewest_132 7 rfl (b := ((k + 1 : Nat) : Int)) (by omega) (by decide) rfl ?_
                          refine x_goto dX7_fewest_135 (tgt := 27) (by decide) ?_
                          refine x_lv [4, 5, 6, 7, 0] rfl ?_
                          exact ih27 (k + 1) (zup f ((5 * q + p) * 400 + k) (cpN b q p (k / 20) (k % 20))) (by omega) (fun q' p' k' h1 h2 h3 h4 => by
                              by_cases e : (5 * q' + p') * 400 + k' = (5 * q + p) * 400 + k
                              · obtain ⟨rfl, rfl, rfl⟩ : q' = q ∧ p' = p ∧ k' = k := ⟨by omega, by omega, by omega⟩; exact zup_s _ _ _
                              · rw [zup_n _ _ e]; exact hD q' p' k' h1 h2 h3 (by omega)) (by omega)
                        · skip
                          exact absurd h110 (by decide)
                      · skip
                        have hkn : knB b q p (k / 20) (k % 20) = true := by unfold knB; rw [decide_eq_true (p := noteN (tuneOfN (k / 20)) 0 = noteN (tuneOfN (k % 20)) 0) (by omega), Bool.or_true]
                        refine x_iconst 86 rfl dX7_fewest_85 (z := 1) (by decide) ?_
                        refine x_goto dX7_fewest_86 (tgt := 90) (by decide) ?_
                        refine x_istore 92 rfl (lv' := [(7, .int (zI 1)), (6, .int (zI ((tuneOfN (k % 20) : Nat) : Int))), (5, .int (zI ((tuneOfN (k / 20) : Nat) : Int))), (0, .ref mo), (1, .int (zI ((n : Nat) : Int))), (2, .int (zI ((q : Nat) : Int))), (3, .int (zI ((p : Nat) : Int))), (4, .int (zI ((k : Nat) : Int)))]) dX7_fewest_90 (by decide) rfl ?_
                        refine x_aload_n 93 rfl dX7_fewest_92 3 rfl ?_
                        refine x_get 96 rfl (v := .ref (ad 7)) 0 14 rfl rfl (by decide) inX7_fewest_X7 flX7_fewest_32 rfl dX7_fewest_93 ?_
                        refine x_iconst 97 rfl dX7_fewest_96 (z := 5) (by decide) ?_
                        refine x_iload_n 98 rfl dX7_fewest_97 5 rfl ?_
                        refine x_imul 99 rfl dX7_fewest_98 (z := ((5 * q : Nat) : Int)) (by omega) ?_
                        refine x_iload_n 100 rfl dX7_fewest_99 6 rfl ?_
                        refine x_iadd 101 rfl dX7_fewest_100 (z := ((5 * q + p : Nat) : Int)) (by omega) ?_
                        refine x_sipush 104 rfl dX7_fewest_101 (z := 400) (by decide) ?_
                        refine x_imul 105 rfl dX7_fewest_104 (z := (((5 * q + p) * 400 : Nat) : Int)) (by omega) ?_
                        refine x_iload 107 rfl dX7_fewest_105 7 rfl ?_
                        refine x_iadd 108 rfl dX7_fewest_107 (z := (((5 * q + p) * 400 + k : Nat) : Int)) (by omega) ?_
                        refine x_iload 110 rfl dX7_fewest_108 0 rfl ?_
                        refine x_if_eq 113 rfl (tgt := 130) dX7_fewest_110 (by decide) (by omega) (fun h110 => ?_) (fun h110 => ?_)
                        · skip
                          exact absurd h110 (by decide)
                        · skip
                          refine x_aload_n 114 rfl dX7_fewest_113 3 rfl ?_
                          refine x_iload_n 115 rfl dX7_fewest_114 5 rfl ?_
                          refine x_iload 117 rfl dX7_fewest_115 2 rfl ?_
                          refine x_iload_n 118 rfl dX7_fewest_117 6 rfl ?_
                          refine x_iload 120 rfl dX7_fewest_118 1 rfl ?_
                          refine x_callV 123 rfl (c_X7_clashes G mo ad qt sc b n d c I q (tuneOfN (k / 20)) p (tuneOfN (k % 20)) (by omega) hva (by omega) hvb) [0, 1] rfl (by decide) 0 rfl rfl gX7_fewest_X7_clashes rfl rfl rfl hd_X7_clashes ⟨Nat.le_of_ble_eq_true rfl, Nat.le_of_ble_eq_true rfl⟩ (As := [.int (zI ((q : Nat) : Int)), .int (zI ((tuneOfN (k / 20) : Nat) : Int)), .int (zI ((p : Nat) : Int)), .int (zI ((tuneOfN (k % 20) : Nat) : Int))]) (rest := [.int (zI (((5 * q + p) * 400 + k : Nat) : Int)), .ref (ad 7)]) rfl rfl (Nat.le_of_ble_eq_true rfl) dX7_fewest_120 ⟨Nat.zero_le _, Nat.zero_le _⟩ (fun v w hq => ?_)
                          obtain ⟨rfl, rfl⟩ := hq
                          refine ⟨rfl, ?_⟩
                          refine x_ws (ws' := [(mo, moE ad qt sc), (ad 0, aI G 66 b), (ad 7, aZ G 10000 f), (ad 8, aI G 5 rw0), (ad 9, aI G 5 be0)]) (rfl) ?_
                          refine x_bif_ne 126 rfl (tgt := 130) dX7_fewest_123 (by decide) (fun h123 => ?_) (fun h123 => ?_)
                          · skip
                            refine x_iconst 131 rfl dX7_fewest_130 (z := 0) (by decide) ?_
                            refine x_int (y := (zB (cpN b q p (k / 20) (k % 20)))) (zB_f (by unfold cpN; rw [hkn]; first | rfl | (rw [h123]; rfl))) ?_
                            refine x_zast 132 rfl 2 ((5 * q + p) * 400 + k) rfl (⟨by omega, by omega⟩) (by decide) (ws' := [(mo, moE ad qt sc), (ad 0, aI G 66 b), (ad 7, aZ G 10000 (zup f ((5 * q + p) * 400 + k) (cpN b q p (k / 20) (k % 20)))), (ad 8, aI G 5 rw0), (ad 9, aI G 5 be0)]) (rfl) dX7_fewest_131 ?_
                            refine x_iinc 135 rfl (lv' := [(4, .int (zI ((k + 1 : Nat) : Int))), (7, .int (zI 1)), (6, .int (zI ((tuneOfN (k % 20) : Nat) : Int))), (5, .int (zI ((tuneOfN (k / 20) : Nat) : Int))), (0, .ref mo), (1, .int (zI ((n : Nat) : Int))), (2, .int (zI ((q : Nat) : Int))), (3, .int (zI ((p : Nat) : Int)))]) dX7_fewest_132 7 rfl (b := ((k + 1 : Nat) : Int)) (by omega) (by decide) rfl ?_
                            refine x_goto dX7_fewest_135 (tgt := 27) (by decide) ?_
                            refine x_lv [4, 5, 6, 7, 0] rfl ?_
                            exact ih27 (k + 1) (zup f ((5 * q + p) * 400 + k) (cpN b q p (k / 20) (k % 20))) (by omega) (fun q' p' k' h1 h2 h3 h4 => by
                                by_cases e : (5 * q' + p') * 400 + k' = (5 * q + p) * 400 + k
                                · obtain ⟨rfl, rfl, rfl⟩ : q' = q ∧ p' = p ∧ k' = k := ⟨by omega, by omega, by omega⟩; exact zup_s _ _ _
                                · rw [zup_n _ _ e]; exact hD q' p' k' h1 h2 h3 (by omega)) (by omega)
                          · skip
                            refine x_iconst 127 rfl dX7_fewest_126 (z := 1) (by decide) ?_
                            refine x_int (y := (zB (cpN b q p (k / 20) (k % 20)))) (zB_t (by unfold cpN; rw [hkn, h123]; rfl)) ?_
                            refine x_goto dX7_fewest_127 (tgt := 131) (by decide) ?_
                            refine x_zast 132 rfl 2 ((5 * q + p) * 400 + k) rfl (⟨by omega, by omega⟩) (by decide) (ws' := [(mo, moE ad qt sc), (ad 0, aI G 66 b), (ad 7, aZ G 10000 (zup f ((5 * q + p) * 400 + k) (cpN b q p (k / 20) (k % 20)))), (ad 8, aI G 5 rw0), (ad 9, aI G 5 be0)]) (rfl) dX7_fewest_131 ?_
                            refine x_iinc 135 rfl (lv' := [(4, .int (zI ((k + 1 : Nat) : Int))), (7, .int (zI 1)), (6, .int (zI ((tuneOfN (k % 20) : Nat) : Int))), (5, .int (zI ((tuneOfN (k / 20) : Nat) : Int))), (0, .ref mo), (1, .int (zI ((n : Nat) : Int))), (2, .int (zI ((q : Nat) : Int))), (3, .int (zI ((p : Nat) : Int)))]) dX7_fewest_132 7 rfl (b := ((k + 1 : Nat) : Int)) (by omega) (by decide) rfl ?_
                            refine x_goto dX7_fewest_135 (tgt := 27) (by decide) ?_
                            refine x_lv [4, 5, 6, 7, 0] rfl ?_
                            exact ih27 (k + 1) (zup f ((5 * q + p) * 400 + k) (cpN b q p (k / 20) (k % 20))) (by omega) (fun q' p' k' h1 h2 h3 h4 => by
                                by_cases e : (5 * q' + p') * 400 + k' = (5 * q + p) * 400 + k
                                · obtain ⟨rfl, rfl, rfl⟩ : q' = q ∧ p' = p ∧ k' = k := ⟨by omega, by omega, by omega⟩; exact zup_s _ _ _
                                · rw [zup_n _ _ e]; exact hD q' p' k' h1 h2 h3 (by omega)) (by omega)
              refine x_lv [1, 2, 3, 4, 0] rfl ?_
              exact L27 _ 0 f (by omega) (hD) (Nat.lt_succ_self _)
        refine x_lv [1, 2, 3, 0] rfl ?_
        exact L19 _ (q + 1) f (by omega) (by omega) (fun q' p' k' h1 h2 h3 h4 => hD q' p' k' h1 h2 h3 (by omega)) (Nat.lt_succ_self _)
  refine x_lv [2, 1, 0] rfl ?_
  exact L10 _ 0 mf (by omega) (fun q' p' k' _ _ _ h => absurd h (by omega)) (Nat.lt_succ_self _)

theorem nmF_r (cp : Nat → Nat → Nat → Nat → Bool) (n : Nat) : ∀ k, -1 ≤ nmF cp n k
  | 0 => by show (-1 : Int) ≤ -1; omega
  | k + 1 => by
    have := nmF_r cp n k
    show -1 ≤ nmS cp n k (nmF cp n k)
    unfold nmS; split <;> omega
theorem nmB_r (b : Nat → Int) (n : Nat) : -1 ≤ nmB b n := nmF_r _ _ _
abbrev P_X7_names (G : XG) (mo : Nat) (ad : Nat → Nat) (qt : Bool) (sc : Nat → Int) (b : Nat → Int) (rf : Nat → Int) (mf : Nat → Bool) (rw0 : Nat → Int) (be0 : Nat → Int) (n : Nat) (d : Nat) (c : Nat) (p : Int) : Option Value → va_W → Prop := fun v ws => ∃ (mf' : Nat → Bool) (rw' be' : Nat → Int), v = some (.int (zI (rZ b n p))) ∧ ws = [(mo, moE ad qt sc), (ad 0, aI G 66 b), (ad 4, aI G 3 (rfC qt rf (kZ n p))), (ad 7, aZ G 10000 mf'), (ad 8, aI G 5 rw'), (ad 9, aI G 5 be')]
abbrev W_X7_names (G : XG) (E : XE) (mo : Nat) (ad : Nat → Nat) (qt : Bool) (sc : Nat → Int) (b : Nat → Int) (rf : Nat → Int) (mf : Nat → Bool) (rw0 : Nat → Int) (be0 : Nat → Int) (n : Nat) (d : Nat) (c : Nat) (p : Int) (pc : Nat) (lv : List (Nat × Value)) (st : List Value) (ws : va_W) : Prop := Wx G E (rmL 8) cX7_names 3 RX7 wsX7_names (some .int) "names" 0 0 (P_X7_names G mo ad qt sc b rf mf rw0 be0 n d c p) 0 0 pc lv st ws
theorem flX7_names_7 : Cond.fieldLink RX7 7 (TX7 0).1 (TX7 0).2.1 (TX7 0).2.2.1 ∈ wsX7_names := by decide +kernel
theorem flX7_names_38 : Cond.fieldLink RX7 38 (TX7 16).1 (TX7 16).2.1 (TX7 16).2.2.1 ∈ wsX7_names := by decide +kernel
theorem inX7_names_X7 : ∀ w ∈ u_ws RX7 TX7 18, w ∈ wsX7_names := fun _ h => List.mem_cons_of_mem _ (List.mem_append_right _ h)
set_option maxHeartbeats 4000000 in
set_option maxRecDepth 100000 in
/-- names -/
theorem c_X7_names (G : XG) (mo : Nat) (ad : Nat → Nat) (qt : Bool) (sc : Nat → Int) (b rf : Nat → Int) (mf : Nat → Bool) (rw0 be0 : Nat → Int) (n d c : Nat) (I : Inv b n d c) (p : Int) (h1 : Z32 p) : Con G yX7_names wsX7_names (rmL 8) 0 0 [.ref mo, .int (zI p)] ([(mo, moE ad qt sc), (ad 0, aI G 66 b), (ad 4, aI G 3 rf), (ad 7, aZ G 10000 mf), (ad 8, aI G 5 rw0), (ad 9, aI G 5 be0)]) (P_X7_names G mo ad qt sc b rf mf rw0 be0 n d c p) := by
  refine x_start (cc := cX7_names) (nL := 3) (ret := (some .int)) (by decide) rfl (Nat.le_of_ble_eq_true rfl) (fun E => ?_)
  show W_X7_names G E mo ad qt sc b rf mf rw0 be0 n d c p 0 [(0, .ref mo), (1, .int (zI p))] [] ([(mo, moE ad qt sc), (ad 0, aI G 66 b), (ad 4, aI G 3 rf), (ad 7, aZ G 10000 mf), (ad 8, aI G 5 rw0), (ad 9, aI G 5 be0)])
  have hn := I.n1
  have hn7 := I.n7
  have hd := I.d1
  have hd6 := I.d6
  have hc := I.c1
  have hc8 := I.c8
  refine x_iload_n 1 rfl dX7_names_0 1 rfl ?_
  refine x_iconst 2 rfl dX7_names_1 (z := (-1)) (by decide) ?_
  refine x_icmp_eq 5 rfl (tgt := 21) dX7_names_2 (by decide) (by omega) (by decide) (fun h2 => ?_) (fun h2 => ?_)
  · skip
    refine x_aload_n 22 rfl dX7_names_21 0 rfl ?_
    refine x_get 25 rfl (v := .ref (ad 0)) 0 0 rfl rfl (by decide) inX7_names_X7 flX7_names_7 rfl dX7_names_22 ?_
    refine x_bipush 27 rfl dX7_names_25 (z := 15) (by decide) ?_
    refine x_iald 28 rfl 1 15 rfl (⟨by omega, by omega⟩) (by decide) (v := ((n : Nat) : Int)) (hn) dX7_names_27 ?_
    refine x_iconst 29 rfl dX7_names_28 (z := 5) (by decide) ?_
    refine x_icmp_le 32 rfl (tgt := 40) dX7_names_29 (by decide) (by omega) (by decide) (fun h29 => ?_) (fun h29 => ?_)
    · skip
      refine x_aload_n 41 rfl dX7_names_40 0 rfl ?_
      refine x_callV 44 rfl (c_X7_fewest G mo ad qt sc b mf rw0 be0 n d c I (by omega)) [0, 1, 3, 4, 5] rfl (by decide) 0 rfl rfl gX7_names_X7_fewest rfl rfl rfl hd_X7_fewest ⟨Nat.le_of_ble_eq_true rfl, Nat.le_of_ble_eq_true rfl⟩ (As := []) (rest := []) rfl rfl (Nat.le_of_ble_eq_true rfl) dX7_names_41 ⟨Nat.zero_le _, Nat.zero_le _⟩ (fun v w hq => ?_)
      obtain ⟨mf1, rw1, be1, rfl, rfl, hbe⟩ := hq
      refine ⟨rfl, ?_⟩
      refine x_ws (ws' := [(mo, moE ad qt sc), (ad 0, aI G 66 b), (ad 4, aI G 3 rf), (ad 7, aZ G 10000 mf1), (ad 8, aI G 5 rw1), (ad 9, aI G 5 be1)]) (rfl) ?_
      have hnv : -1 ≤ nmV b n ∧ nmV b n ≤ 10 := by unfold nmV; split; omega; have := cA_le n (nmB b n).toNat; omega
      have hk0 : kZ n p = 0 := by unfold kZ; rw [if_neg (by omega), if_neg (by omega)]
      have e0 : rZ b n p = nmR b n p := by unfold rZ; rw [if_neg (by omega), if_neg (by omega)]
      refine x_istore_n 45 rfl (lv' := [(2, .int (zI (nmV b n))), (0, .ref mo), (1, .int (zI p))]) dX7_names_44 (by decide) rfl ?_
      refine x_iload_n 46 rfl dX7_names_45 0 rfl ?_
      refine x_iconst 47 rfl dX7_names_46 (z := (-1)) (by decide) ?_
      refine x_icmp_eq 50 rfl (tgt := 55) dX7_names_47 (by decide) (by omega) (by decide) (fun h47 => ?_) (fun h47 => ?_)
      · skip
        have hb1 : nmB b n = -1 := by by_cases hq : nmB b n = -1; exact hq; exfalso; rw [nmV, if_neg hq] at h47; omega
        refine x_iload_n 56 rfl dX7_names_55 0 rfl ?_
        refine x_goto dX7_names_56 (tgt := 68) (by decide) ?_
        refine x_iret rfl ?_ dX7_names_68
        have e1 : nmR b n p = nmV b n := by unfold nmR nmV; first | rw [if_pos hb1, if_pos hb1] | (rw [if_neg hb1, if_neg hb1, if_pos (by omega)])
        exact ⟨mf1, rw1, be1, by rw [e0, e1], by rw [hk0]; rfl⟩
      · skip
        have hb1 : nmB b n ≠ -1 := fun hq => by rw [nmV, if_pos hq] at h47; exact h47 rfl
        refine x_iload_n 51 rfl dX7_names_50 2 rfl ?_
        refine x_iconst 52 rfl dX7_names_51 (z := (-1)) (by decide) ?_
        refine x_icmp_ne 55 rfl (tgt := 59) dX7_names_52 (by decide) (by omega) (by decide) (fun h52 => ?_) (fun h52 => ?_)
        · skip
          obtain ⟨p, rfl⟩ : ∃ zk : Nat, p = (zk : Int) := ⟨Int.toNat p, by omega⟩
          obtain ⟨e, he⟩ : ∃ e : Nat, nmB b n = (e : Int) := ⟨(nmB b n).toNat, by have := nmB_r b n; omega⟩
          have hd := dgt_lt n e p
          refine x_aload_n 60 rfl dX7_names_59 1 rfl ?_
          refine x_get 63 rfl (v := .ref (ad 9)) 0 16 rfl rfl (by decide) inX7_names_X7 flX7_names_38 rfl dX7_names_60 ?_
          refine x_iload_n 64 rfl dX7_names_63 2 rfl ?_
          refine x_iald 65 rfl 5 p rfl (⟨by omega, by omega⟩) (by decide) (v := ((dgt n e p : Nat) : Int)) (hbe e he p (by omega)) dX7_names_64 ?_
          refine x_callS0 68 rfl (c_X7_tuneOf G (dgt n e p) (by omega)) (fun _ _ h => h.2) gX7_names_X7_tuneOf rfl rfl rfl hd_X7_tuneOf ⟨Nat.le_of_ble_eq_true rfl, Nat.le_of_ble_eq_true rfl⟩ (As := [.int (zI ((dgt n e p : Nat) : Int))]) (rest := []) rfl rfl (Nat.le_of_ble_eq_true rfl) dX7_names_65 ⟨Nat.zero_le _, Nat.zero_le _⟩ (fun v hq => ?_)
          obtain ⟨rfl, -⟩ := hq
          refine x_iret rfl ?_ dX7_names_68
          have e1 : nmR b n p = ((tuneOfN (dgt n e p) : Nat) : Int) := by unfold nmR; rw [if_neg hb1, if_neg (by omega), he]; rfl
          exact ⟨mf1, rw1, be1, by rw [e0, e1], by rw [hk0]; rfl⟩
        · skip
          refine x_iload_n 56 rfl dX7_names_55 0 rfl ?_
          refine x_goto dX7_names_56 (tgt := 68) (by decide) ?_
          refine x_iret rfl ?_ dX7_names_68
          have e1 : nmR b n p = nmV b n := by unfold nmR nmV; first | rw [if_pos hb1, if_pos hb1] | (rw [if_neg hb1, if_neg hb1, if_pos (by omega)])
          exact ⟨mf1, rw1, be1, by rw [e0, e1], by rw [hk0]; rfl⟩
    · skip
      refine x_aload_n 33 rfl dX7_names_32 0 rfl ?_
      refine x_iconst 34 rfl dX7_names_33 (z := 1) (by decide) ?_
      refine x_bipush 36 rfl dX7_names_34 (z := (-20)) (by decide) ?_
      refine x_callV 39 rfl (c_X7_refuses G mo ad qt sc rf 1 (-20) (by omega)) [0, 2] rfl (by decide) 0 rfl rfl gX7_names_X7_refuses rfl rfl rfl hd_X7_refuses ⟨Nat.le_of_ble_eq_true rfl, Nat.le_of_ble_eq_true rfl⟩ (As := [.int (zI 1), .int (zI (-20))]) (rest := []) rfl rfl (Nat.le_of_ble_eq_true rfl) dX7_names_36 ⟨Nat.zero_le _, Nat.zero_le _⟩ (fun v w hq => ?_)
      obtain ⟨rfl, rfl⟩ := hq
      refine ⟨rfl, ?_⟩
      refine x_ws (ws' := [(mo, moE ad qt sc), (ad 0, aI G 66 b), (ad 4, aI G 3 (rfU qt rf 1)), (ad 7, aZ G 10000 mf), (ad 8, aI G 5 rw0), (ad 9, aI G 5 be0)]) (rfl) ?_
      refine x_iret rfl ?_ dX7_names_39
      have hk : kZ n p = 2 := by unfold kZ; rw [if_neg (by omega), if_pos (by omega)]
      exact ⟨mf, rw0, be0, by unfold rZ; rw [if_neg (by omega), if_pos hk], by rw [hk]; rfl⟩
  · skip
    refine x_aload_n 6 rfl dX7_names_5 0 rfl ?_
    refine x_iload_n 7 rfl dX7_names_6 1 rfl ?_
    refine x_callV 10 rfl (c_X7_isOne G mo ad qt sc b n hn (by omega) p (by omega)) [0, 1] rfl (by decide) 0 rfl rfl gX7_names_X7_isOne rfl rfl rfl hd_X7_isOne ⟨Nat.le_of_ble_eq_true rfl, Nat.le_of_ble_eq_true rfl⟩ (As := [.int (zI p)]) (rest := []) rfl rfl (Nat.le_of_ble_eq_true rfl) dX7_names_7 ⟨Nat.zero_le _, Nat.zero_le _⟩ (fun v w hq => ?_)
    obtain ⟨rfl, rfl⟩ := hq
    refine ⟨rfl, ?_⟩
    refine x_ws (ws' := [(mo, moE ad qt sc), (ad 0, aI G 66 b), (ad 4, aI G 3 rf), (ad 7, aZ G 10000 mf), (ad 8, aI G 5 rw0), (ad 9, aI G 5 be0)]) (rfl) ?_
    refine x_bif_ne 13 rfl (tgt := 21) dX7_names_10 (by decide) (fun h10 => ?_) (fun h10 => ?_)
    · have h10 := of_decide_eq_true h10
      refine x_aload_n 22 rfl dX7_names_21 0 rfl ?_
      refine x_get 25 rfl (v := .ref (ad 0)) 0 0 rfl rfl (by decide) inX7_names_X7 flX7_names_7 rfl dX7_names_22 ?_
      refine x_bipush 27 rfl dX7_names_25 (z := 15) (by decide) ?_
      refine x_iald 28 rfl 1 15 rfl (⟨by omega, by omega⟩) (by decide) (v := ((n : Nat) : Int)) (hn) dX7_names_27 ?_
      refine x_iconst 29 rfl dX7_names_28 (z := 5) (by decide) ?_
      refine x_icmp_le 32 rfl (tgt := 40) dX7_names_29 (by decide) (by omega) (by decide) (fun h29 => ?_) (fun h29 => ?_)
      · skip
        refine x_aload_n 41 rfl dX7_names_40 0 rfl ?_
        refine x_callV 44 rfl (c_X7_fewest G mo ad qt sc b mf rw0 be0 n d c I (by omega)) [0, 1, 3, 4, 5] rfl (by decide) 0 rfl rfl gX7_names_X7_fewest rfl rfl rfl hd_X7_fewest ⟨Nat.le_of_ble_eq_true rfl, Nat.le_of_ble_eq_true rfl⟩ (As := []) (rest := []) rfl rfl (Nat.le_of_ble_eq_true rfl) dX7_names_41 ⟨Nat.zero_le _, Nat.zero_le _⟩ (fun v w hq => ?_)
        obtain ⟨mf1, rw1, be1, rfl, rfl, hbe⟩ := hq
        refine ⟨rfl, ?_⟩
        refine x_ws (ws' := [(mo, moE ad qt sc), (ad 0, aI G 66 b), (ad 4, aI G 3 rf), (ad 7, aZ G 10000 mf1), (ad 8, aI G 5 rw1), (ad 9, aI G 5 be1)]) (rfl) ?_
        have hnv : -1 ≤ nmV b n ∧ nmV b n ≤ 10 := by unfold nmV; split; omega; have := cA_le n (nmB b n).toNat; omega
        have hk0 : kZ n p = 0 := by unfold kZ; rw [if_neg (by omega), if_neg (by omega)]
        have e0 : rZ b n p = nmR b n p := by unfold rZ; rw [if_neg (by omega), if_neg (by omega)]
        refine x_istore_n 45 rfl (lv' := [(2, .int (zI (nmV b n))), (0, .ref mo), (1, .int (zI p))]) dX7_names_44 (by decide) rfl ?_
        refine x_iload_n 46 rfl dX7_names_45 0 rfl ?_
        refine x_iconst 47 rfl dX7_names_46 (z := (-1)) (by decide) ?_
        refine x_icmp_eq 50 rfl (tgt := 55) dX7_names_47 (by decide) (by omega) (by decide) (fun h47 => ?_) (fun h47 => ?_)
        · skip
          have hb1 : nmB b n = -1 := by by_cases hq : nmB b n = -1; exact hq; exfalso; rw [nmV, if_neg hq] at h47; omega
          refine x_iload_n 56 rfl dX7_names_55 0 rfl ?_
          refine x_goto dX7_names_56 (tgt := 68) (by decide) ?_
          refine x_iret rfl ?_ dX7_names_68
          have e1 : nmR b n p = nmV b n := by unfold nmR nmV; first | rw [if_pos hb1, if_pos hb1] | (rw [if_neg hb1, if_neg hb1, if_pos (by omega)])
          exact ⟨mf1, rw1, be1, by rw [e0, e1], by rw [hk0]; rfl⟩
        · skip
          have hb1 : nmB b n ≠ -1 := fun hq => by rw [nmV, if_pos hq] at h47; exact h47 rfl
          refine x_iload_n 51 rfl dX7_names_50 2 rfl ?_
          refine x_iconst 52 rfl dX7_names_51 (z := (-1)) (by decide) ?_
          refine x_icmp_ne 55 rfl (tgt := 59) dX7_names_52 (by decide) (by omega) (by decide) (fun h52 => ?_) (fun h52 => ?_)
          · skip
            obtain ⟨p, rfl⟩ : ∃ zk : Nat, p = (zk : Int) := ⟨Int.toNat p, by omega⟩
            obtain ⟨e, he⟩ : ∃ e : Nat, nmB b n = (e : Int) := ⟨(nmB b n).toNat, by have := nmB_r b n; omega⟩
            have hd := dgt_lt n e p
            refine x_aload_n 60 rfl dX7_names_59 1 rfl ?_
            refine x_get 63 rfl (v := .ref (ad 9)) 0 16 rfl rfl (by decide) inX7_names_X7 flX7_names_38 rfl dX7_names_60 ?_
            refine x_iload_n 64 rfl dX7_names_63 2 rfl ?_
            refine x_iald 65 rfl 5 p rfl (⟨by omega, by omega⟩) (by decide) (v := ((dgt n e p : Nat) : Int)) (hbe e he p (by omega)) dX7_names_64 ?_
            refine x_callS0 68 rfl (c_X7_tuneOf G (dgt n e p) (by omega)) (fun _ _ h => h.2) gX7_names_X7_tuneOf rfl rfl rfl hd_X7_tuneOf ⟨Nat.le_of_ble_eq_true rfl, Nat.le_of_ble_eq_true rfl⟩ (As := [.int (zI ((dgt n e p : Nat) : Int))]) (rest := []) rfl rfl (Nat.le_of_ble_eq_true rfl) dX7_names_65 ⟨Nat.zero_le _, Nat.zero_le _⟩ (fun v hq => ?_)
            obtain ⟨rfl, -⟩ := hq
            refine x_iret rfl ?_ dX7_names_68
            have e1 : nmR b n p = ((tuneOfN (dgt n e p) : Nat) : Int) := by unfold nmR; rw [if_neg hb1, if_neg (by omega), he]; rfl
            exact ⟨mf1, rw1, be1, by rw [e0, e1], by rw [hk0]; rfl⟩
          · skip
            refine x_iload_n 56 rfl dX7_names_55 0 rfl ?_
            refine x_goto dX7_names_56 (tgt := 68) (by decide) ?_
            refine x_iret rfl ?_ dX7_names_68
            have e1 : nmR b n p = nmV b n := by unfold nmR nmV; first | rw [if_pos hb1, if_pos hb1] | (rw [if_neg hb1, if_neg hb1, if_pos (by omega)])
            exact ⟨mf1, rw1, be1, by rw [e0, e1], by rw [hk0]; rfl⟩
      · skip
        refine x_aload_n 33 rfl dX7_names_32 0 rfl ?_
        refine x_iconst 34 rfl dX7_names_33 (z := 1) (by decide) ?_
        refine x_bipush 36 rfl dX7_names_34 (z := (-20)) (by decide) ?_
        refine x_callV 39 rfl (c_X7_refuses G mo ad qt sc rf 1 (-20) (by omega)) [0, 2] rfl (by decide) 0 rfl rfl gX7_names_X7_refuses rfl rfl rfl hd_X7_refuses ⟨Nat.le_of_ble_eq_true rfl, Nat.le_of_ble_eq_true rfl⟩ (As := [.int (zI 1), .int (zI (-20))]) (rest := []) rfl rfl (Nat.le_of_ble_eq_true rfl) dX7_names_36 ⟨Nat.zero_le _, Nat.zero_le _⟩ (fun v w hq => ?_)
        obtain ⟨rfl, rfl⟩ := hq
        refine ⟨rfl, ?_⟩
        refine x_ws (ws' := [(mo, moE ad qt sc), (ad 0, aI G 66 b), (ad 4, aI G 3 (rfU qt rf 1)), (ad 7, aZ G 10000 mf), (ad 8, aI G 5 rw0), (ad 9, aI G 5 be0)]) (rfl) ?_
        refine x_iret rfl ?_ dX7_names_39
        have hk : kZ n p = 2 := by unfold kZ; rw [if_neg (by omega), if_pos (by omega)]
        exact ⟨mf, rw0, be0, by unfold rZ; rw [if_neg (by omega), if_pos hk], by rw [hk]; rfl⟩
    · have h10 := of_decide_eq_false h10
      refine x_aload_n 14 rfl dX7_names_13 0 rfl ?_
      refine x_iconst 15 rfl dX7_names_14 (z := 0) (by decide) ?_
      refine x_bipush 17 rfl dX7_names_15 (z := (-10)) (by decide) ?_
      refine x_callV 20 rfl (c_X7_refuses G mo ad qt sc rf 0 (-10) (by omega)) [0, 2] rfl (by decide) 0 rfl rfl gX7_names_X7_refuses rfl rfl rfl hd_X7_refuses ⟨Nat.le_of_ble_eq_true rfl, Nat.le_of_ble_eq_true rfl⟩ (As := [.int (zI 0), .int (zI (-10))]) (rest := []) rfl rfl (Nat.le_of_ble_eq_true rfl) dX7_names_17 ⟨Nat.zero_le _, Nat.zero_le _⟩ (fun v w hq => ?_)
      obtain ⟨rfl, rfl⟩ := hq
      refine ⟨rfl, ?_⟩
      refine x_ws (ws' := [(mo, moE ad qt sc), (ad 0, aI G 66 b), (ad 4, aI G 3 (rfU qt rf 0)), (ad 7, aZ G 10000 mf), (ad 8, aI G 5 rw0), (ad 9, aI G 5 be0)]) (rfl) ?_
      refine x_iret rfl ?_ dX7_names_20
      have hk : kZ n p = 1 := by unfold kZ; exact if_pos (by omega)
      exact ⟨mf, rw0, be0, by unfold rZ; rw [if_pos hk], by rw [hk]; rfl⟩

