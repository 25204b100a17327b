theorem hd_X7_reads : yX7_reads.cls = RX7 ∧ yX7_reads.cls ≠ "java/lang/invoke/MethodHandle" ∧ yX7_reads.cls ≠ "java/lang/invoke/VarHandle" ∧ (parseMethodDescriptor yX7_reads.desc).map (fun d => d.parameters.length) = some 0 := by decide +kernel
theorem hd_X7_tellsItem : yX7_tellsItem.cls = RX7 ∧ yX7_tellsItem.cls ≠ "java/lang/invoke/MethodHandle" ∧ yX7_tellsItem.cls ≠ "java/lang/invoke/VarHandle" ∧ (parseMethodDescriptor yX7_tellsItem.desc).map (fun d => d.parameters.length) = some 1 := by decide +kernel
theorem hd_X7_read : yX7_read.cls = RX7 ∧ yX7_read.cls ≠ "java/lang/invoke/MethodHandle" ∧ yX7_read.cls ≠ "java/lang/invoke/VarHandle" ∧ (parseMethodDescriptor yX7_read.desc).map (fun d => d.parameters.length) = some 0 := by decide +kernel
abbrev P_X7_reads (G : XG) (mo : Nat) (ad : Nat → Nat) (qt : Bool) (sc : Nat → Int) (tx : Nat → Int) (it : Nat → Int) (L : Nat) : Option Value → va_W → Prop := fun r ws => ∃ (at_ st_ tk_ vl_ : Int) (mn : Nat) (it' : Nat → Int), r = some (.int (zB (okR tx L))) ∧ ws = [(mo, moE ad qt (zup (zup (zup (zup (zup (zup sc 0 ((L : Nat) : Int)) 1 at_) 2 st_) 3 tk_) 4 vl_) 5 ((mn : Nat) : Int))), (ad 5, aI G 200 tx), (ad 6, aI G 200 it')] ∧ (okR tx L = true → mn = mN tx L ∧ ∀ i, i < mN tx L → ∀ j, j ≤ nKw (tokK tx L (aF tx L i)) → it' (5 * i + j) = itV tx L i j) ∧ (okR tx L = false → st_ = ((ftI tx L (aF tx L (mN tx L)) : Nat) : Int))
abbrev W_X7_reads (G : XG) (E : XE) (mo : Nat) (ad : Nat → Nat) (qt : Bool) (sc : Nat → Int) (tx : Nat → Int) (it : Nat → Int) (L : Nat) (pc : Nat) (lv : List (Nat × Value)) (st : List Value) (ws : va_W) : Prop := Wx G E (rmL 3) cX7_reads 3 RX7 wsX7_reads (some .boolean) "reads" 0 0 (P_X7_reads G mo ad qt sc tx it L) 0 0 pc lv st ws
theorem flX7_reads_29 : Cond.fieldLink RX7 29 (TX7 12).1 (TX7 12).2.1 (TX7 12).2.2.1 ∈ wsX7_reads := by decide +kernel
theorem flX7_reads_137 : Cond.fieldLink RX7 137 (TX7 8).1 (TX7 8).2.1 (TX7 8).2.2.1 ∈ wsX7_reads := by decide +kernel
theorem flX7_reads_153 : Cond.fieldLink RX7 153 (TX7 10).1 (TX7 10).2.1 (TX7 10).2.2.1 ∈ wsX7_reads := by decide +kernel
theorem flX7_reads_164 : Cond.fieldLink RX7 164 (TX7 11).1 (TX7 11).2.1 (TX7 11).2.2.1 ∈ wsX7_reads := by decide +kernel
theorem flX7_reads_167 : Cond.fieldLink RX7 167 (TX7 13).1 (TX7 13).2.1 (TX7 13).2.2.1 ∈ wsX7_reads := by decide +kernel
theorem inX7_reads_X7 : ∀ w ∈ u_ws RX7 TX7 18, w ∈ wsX7_reads := fun _ h => List.mem_cons_of_mem _ (List.mem_append_right _ h)
set_option maxHeartbeats 4000000 in
set_option maxRecDepth 100000 in
/-- reads -/
theorem c_X7_reads (G : XG) (mo : Nat) (ad : Nat → Nat) (qt : Bool) (sc : Nat → Int) (tx it : Nat → Int) (L : Nat) (hL : L ≤ 200) (ht : ∀ j, j < L → 0 ≤ tx j ∧ tx j ≤ 255)  : Con G yX7_reads wsX7_reads (rmL 3) 0 0 [.ref mo] ([(mo, moE ad qt (zup sc 0 ((L : Nat) : Int))), (ad 5, aI G 200 tx), (ad 6, aI G 200 it)]) (P_X7_reads G mo ad qt sc tx it L) := by
  refine x_start (cc := cX7_reads) (nL := 3) (ret := (some .boolean)) (by decide) rfl (Nat.le_of_ble_eq_true rfl) (fun E => ?_)
  show W_X7_reads G E mo ad qt sc tx it L 0 [(0, .ref mo)] [] ([(mo, moE ad qt (zup sc 0 ((L : Nat) : Int))), (ad 5, aI G 200 tx), (ad 6, aI G 200 it)])
  refine x_aload_n 1 rfl dX7_reads_0 0 rfl ?_
  refine x_iconst 2 rfl dX7_reads_1 (z := 0) (by decide) ?_
  refine x_put 5 rfl 0 8 rfl rfl (by decide) inX7_reads_X7 flX7_reads_137 tyX7_ok nmX7 rfl rfl rfl rfl (Nat.le_of_ble_eq_true rfl) (ws' := [(mo, moE ad qt (zup (zup sc 0 ((L : Nat) : Int)) 1 0)), (ad 5, aI G 200 tx), (ad 6, aI G 200 it)]) rfl dX7_reads_2 ?_
  refine x_aload_n 6 rfl dX7_reads_5 0 rfl ?_
  refine x_iconst 7 rfl dX7_reads_6 (z := 0) (by decide) ?_
  refine x_put 10 rfl 0 13 rfl rfl (by decide) inX7_reads_X7 flX7_reads_167 tyX7_ok nmX7 rfl rfl rfl rfl (Nat.le_of_ble_eq_true rfl) (ws' := [(mo, moE ad qt (zup (zup (zup sc 0 ((L : Nat) : Int)) 1 0) 5 0)), (ad 5, aI G 200 tx), (ad 6, aI G 200 it)]) rfl dX7_reads_7 ?_
  refine x_aload_n 11 rfl dX7_reads_10 0 rfl ?_
  refine x_callV 14 rfl (c_X7_scans G mo ad qt (zup (zup (zup sc 0 ((L : Nat) : Int)) 1 0) 5 0) tx L 0 hL (by omega) ht) [0, 1] rfl (by decide) 0 rfl rfl gX7_reads_X7_scans rfl rfl rfl hd_X7_scans ⟨Nat.le_of_ble_eq_true rfl, Nat.le_of_ble_eq_true rfl⟩ (As := []) (rest := []) rfl rfl (Nat.le_of_ble_eq_true rfl) dX7_reads_11 ⟨Nat.zero_le _, Nat.zero_le _⟩ (fun v w hq => ?_)
  obtain ⟨v0, rfl, rfl, hv0⟩ := hq
  refine ⟨rfl, ?_⟩
  refine x_ws (ws' := [(mo, moE ad qt (zup (zup (zup (zup (zup (zup sc 0 ((L : Nat) : Int)) 1 ((tokE tx L 0 : Nat) : Int)) 2 ((tokS tx L 0 : Nat) : Int)) 3 ((tokK tx L 0 : Nat) : Int)) 4 v0) 5 0)), (ad 5, aI G 200 tx), (ad 6, aI G 200 it)]) (rfl) ?_
  have L14 : ∀ (f14 : Nat) (m : Nat) (v : Int) (f : Nat → Int) (hg : ∀ j, j < m → gdI tx L (aF tx L j) = true) (hit : ∀ i, i < m → ∀ j, j ≤ nKw (tokK tx L (aF tx L i)) → f (5 * i + j) = itV tx L i j), 41 - m < f14 → W_X7_reads G E mo ad qt sc tx it L 14 [(0, .ref mo)] [] ([(mo, moE ad qt (zup (zup (zup (zup (zup (zup sc 0 ((L : Nat) : Int)) 1 ((tokE tx L (aF tx L m) : Nat) : Int)) 2 ((tokS tx L (aF tx L m) : Nat) : Int)) 3 ((tokK tx L (aF tx L m) : Nat) : Int)) 4 v) 5 ((m : Nat) : Int))), (ad 5, aI G 200 tx), (ad 6, aI G 200 f)]) := by
    intro f14
    induction f14 with
    | zero => intro m v f hg hit hf14; exact absurd hf14 (Nat.not_lt_zero _)
    | succ f14 ih14 =>
      intro m v f hg hit hf14
      refine x_aload_n 15 rfl dX7_reads_14 0 rfl ?_
      refine x_get 18 rfl (v := .int (zI ((tokK tx L (aF tx L m) : Nat) : Int))) 0 10 rfl rfl (by decide) inX7_reads_X7 flX7_reads_153 rfl dX7_reads_15 ?_
      have haL := aF_le tx L m
      have h5m := aF_ge m hg
      have hkr := tokK_r tx L (aF tx L m)
      refine x_if_eq 21 rfl (tgt := 140) dX7_reads_18 (by decide) (by omega) (fun h18 => ?_) (fun h18 => ?_)
      · skip
        have h18 : tokK tx L (aF tx L m) = 0 := by omega
        refine x_iconst 141 rfl dX7_reads_140 (z := 1) (by decide) ?_
        have hbad : gdI tx L (aF tx L m) = false := by unfold gdI; rw [decide_eq_false (by omega)]; rfl
        have hmN := mN_eq hL hg hbad
        have hok : okR tx L = true := by unfold okR; rw [hmN]; exact decide_eq_true h18
        refine x_int (y := zB (okR tx L)) (zB_t hok) ?_
        refine x_zret rfl ?_ dX7_reads_141
        exact ⟨((tokE tx L (aF tx L m) : Nat) : Int), ((tokS tx L (aF tx L m) : Nat) : Int), ((tokK tx L (aF tx L m) : Nat) : Int), v, m, f, rfl, rfl, (fun _ => ⟨hmN.symm, fun i hi j hj => hit i (by omega) j hj⟩), (fun hh => by rw [hok] at hh; cases hh)⟩
      · skip
        have h18 : tokK tx L (aF tx L m) ≠ 0 := by omega
        refine x_aload_n 22 rfl dX7_reads_21 0 rfl ?_
        refine x_get 25 rfl (v := .int (zI ((tokK tx L (aF tx L m) : Nat) : Int))) 0 10 rfl rfl (by decide) inX7_reads_X7 flX7_reads_153 rfl dX7_reads_22 ?_
        refine x_iconst 26 rfl dX7_reads_25 (z := 4) (by decide) ?_
        refine x_isub 27 rfl dX7_reads_26 (z := ((tokK tx L (aF tx L m) : Nat) : Int) - 4) (rfl) ?_
        refine x_istore_n 28 rfl (lv' := [(1, .int (zI (((tokK tx L (aF tx L m) : Nat) : Int) - 4))), (0, .ref mo)]) dX7_reads_27 (by decide) rfl ?_
        refine x_iload_n 29 rfl dX7_reads_28 0 rfl ?_
        refine x_if_ge 32 rfl (tgt := 34) dX7_reads_29 (by decide) (by omega) (fun h29 => ?_) (fun h29 => ?_)
        · skip
          have hw4 : 4 ≤ tokK tx L (aF tx L m) := by omega
          obtain ⟨w, hw⟩ : ∃ w, tokK tx L (aF tx L m) = w + 4 := ⟨tokK tx L (aF tx L m) - 4, by omega⟩
          have hnk := nKw_r (tokK tx L (aF tx L m))
          have hte := tokE_b tx haL
          refine x_lve (congrArg (fun zz : Int => ([(1, .int (zI zz)), (0, .ref mo)] : List (Nat × Value))) (by omega : ((tokK tx L (aF tx L m) : Nat) : Int) - 4 = ((w : Nat) : Int))) ?_
          refine x_aload_n 35 rfl dX7_reads_34 1 rfl ?_
          refine x_get 38 rfl (v := .ref (ad 6)) 0 12 rfl rfl (by decide) inX7_reads_X7 flX7_reads_29 rfl dX7_reads_35 ?_
          refine x_iconst 39 rfl dX7_reads_38 (z := 5) (by decide) ?_
          refine x_aload_n 40 rfl dX7_reads_39 1 rfl ?_
          refine x_get 43 rfl (v := .int (zI ((m : Nat) : Int))) 0 13 rfl rfl (by decide) inX7_reads_X7 flX7_reads_167 rfl dX7_reads_40 ?_
          refine x_imul 44 rfl dX7_reads_43 (z := ((5 * m : Nat) : Int)) (by omega) ?_
          refine x_iload_n 45 rfl dX7_reads_44 0 rfl ?_
          refine x_iast 46 rfl 2 (5 * m) rfl (⟨by omega, by omega⟩) (by decide) (ws' := [(mo, moE ad qt (zup (zup (zup (zup (zup (zup sc 0 ((L : Nat) : Int)) 1 ((tokE tx L (aF tx L m) : Nat) : Int)) 2 ((tokS tx L (aF tx L m) : Nat) : Int)) 3 ((tokK tx L (aF tx L m) : Nat) : Int)) 4 v) 5 ((m : Nat) : Int))), (ad 5, aI G 200 tx), (ad 6, aI G 200 (zup f (5 * m) ((w : Nat) : Int)))]) (rfl) dX7_reads_45 ?_
          refine x_aload_n 47 rfl dX7_reads_46 1 rfl ?_
          refine x_callV 50 rfl (c_X7_scans G mo ad qt (zup (zup (zup (zup (zup (zup sc 0 ((L : Nat) : Int)) 1 ((tokE tx L (aF tx L m) : Nat) : Int)) 2 ((tokS tx L (aF tx L m) : Nat) : Int)) 3 ((tokK tx L (aF tx L m) : Nat) : Int)) 4 v) 5 ((m : Nat) : Int)) tx L (tokE tx L (aF tx L m)) hL (hte.2.1) ht) [0, 1] rfl (by decide) 0 rfl rfl gX7_reads_X7_scans rfl rfl rfl hd_X7_scans ⟨Nat.le_of_ble_eq_true rfl, Nat.le_of_ble_eq_true rfl⟩ (As := []) (rest := []) rfl rfl (Nat.le_of_ble_eq_true rfl) dX7_reads_47 ⟨Nat.zero_le _, Nat.zero_le _⟩ (fun v w hq => ?_)
          obtain ⟨v1, rfl, rfl, hv1⟩ := hq
          refine ⟨rfl, ?_⟩
          refine x_ws (ws' := [(mo, moE ad qt (zup (zup (zup (zup (zup (zup sc 0 ((L : Nat) : Int)) 1 ((tokE tx L (tokE tx L (aF tx L m)) : Nat) : Int)) 2 ((tokS tx L (tokE tx L (aF tx L m)) : Nat) : Int)) 3 ((tokK tx L (tokE tx L (aF tx L m)) : Nat) : Int)) 4 v1) 5 ((m : Nat) : Int))), (ad 5, aI G 200 tx), (ad 6, aI G 200 (zup f (5 * m) ((w : Nat) : Int)))]) (rfl) ?_
          refine x_iconst 51 rfl dX7_reads_50 (z := 0) (by decide) ?_
          refine x_istore_n 52 rfl (lv' := [(2, .int (zI 0)), (1, .int (zI ((w : Nat) : Int))), (0, .ref mo)]) dX7_reads_51 (by decide) rfl ?_
          have L52 : ∀ (f52 : Nat) (k : Nat) (v : Int) (f : Nat → Int) (hk : k ≤ nKw (tokK tx L (aF tx L m))) (hv1 : tokK tx L (posF tx L (aF tx L m) (k + 1)) = 2 → v = ((tokV tx L (posF tx L (aF tx L m) (k + 1)) : Nat) : Int)) (hn1 : ∀ j, j < k → isNum tx L (aF tx L m) j = true) (hf1 : ∀ i, i < m → ∀ j, j ≤ nKw (tokK tx L (aF tx L i)) → f (5 * i + j) = itV tx L i j) (hf2 : ∀ j, j ≤ k → f (5 * m + j) = itV tx L m j), nKw (tokK tx L (aF tx L m)) - k < f52 → W_X7_reads G E mo ad qt sc tx it L 52 [(0, .ref mo), (1, .int (zI ((w : Nat) : Int))), (2, .int (zI ((k : Nat) : Int)))] [] ([(mo, moE ad qt (zup (zup (zup (zup (zup (zup sc 0 ((L : Nat) : Int)) 1 ((tokE tx L (posF tx L (aF tx L m) (k + 1)) : Nat) : Int)) 2 ((tokS tx L (posF tx L (aF tx L m) (k + 1)) : Nat) : Int)) 3 ((tokK tx L (posF tx L (aF tx L m) (k + 1)) : Nat) : Int)) 4 v) 5 ((m : Nat) : Int))), (ad 5, aI G 200 tx), (ad 6, aI G 200 f)]) := by
            intro f52
            induction f52 with
            | zero => intro k v f hk hv1 hn1 hf1 hf2 hf52; exact absurd hf52 (Nat.not_lt_zero _)
            | succ f52 ih52 =>
              intro k v f hk hv1 hn1 hf1 hf2 hf52
              refine x_iload_n 53 rfl dX7_reads_52 2 rfl ?_
              refine x_iload_n 54 rfl dX7_reads_53 1 rfl ?_
              refine x_if_ne 57 rfl (tgt := 61) dX7_reads_54 (by decide) (by omega) (fun h54 => ?_) (fun h54 => ?_)
              · skip
                refine x_iload_n 62 rfl dX7_reads_61 1 rfl ?_
                refine x_iconst 63 rfl dX7_reads_62 (z := 1) (by decide) ?_
                refine x_icmp_ne 66 rfl (tgt := 70) dX7_reads_63 (by decide) (by omega) (by decide) (fun h63 => ?_) (fun h63 => ?_)
                · skip
                  refine x_iconst 71 rfl dX7_reads_70 (z := 2) (by decide) ?_
                  refine x_icmp_ge 74 rfl (tgt := 113) dX7_reads_71 (by decide) (by omega) (by decide) (fun h71 => ?_) (fun h71 => ?_)
                  · skip
                    have hkn : k = nKw (tokK tx L (aF tx L m)) := by omega
                    have hall : allF (isNum tx L (aF tx L m)) (nKw (tokK tx L (aF tx L m))) = true := by rw [← hkn]; exact (allF_iff _ _).mpr hn1
                    refine x_aload_n 114 rfl dX7_reads_113 0 rfl ?_
                    refine x_get 117 rfl (v := .int (zI ((tokK tx L (posF tx L (aF tx L m) (k + 1)) : Nat) : Int))) 0 10 rfl rfl (by decide) inX7_reads_X7 flX7_reads_153 rfl dX7_reads_114 ?_
                    refine x_iconst 118 rfl dX7_reads_117 (z := 3) (by decide) ?_
                    refine x_icmp_eq 121 rfl (tgt := 123) dX7_reads_118 (by decide) (by have := tokK_r tx L (posF tx L (aF tx L m) (k + 1)); omega) (by decide) (fun h118 => ?_) (fun h118 => ?_)
                    · skip
                      have hgm : gdI tx L (aF tx L m) = true := by unfold gdI; rw [decide_eq_true hw4, hall, ← hkn, decide_eq_true (by omega)]; rfl
                      refine x_aload_n 124 rfl dX7_reads_123 0 rfl ?_
                      refine x_dup 125 rfl dX7_reads_124 rfl ?_
                      refine x_get 128 rfl (v := .int (zI ((m : Nat) : Int))) 0 13 rfl rfl (by decide) inX7_reads_X7 flX7_reads_167 rfl dX7_reads_125 ?_
                      refine x_iconst 129 rfl dX7_reads_128 (z := 1) (by decide) ?_
                      refine x_iadd 130 rfl dX7_reads_129 (z := ((m + 1 : Nat) : Int)) (by omega) ?_
                      refine x_put 133 rfl 0 13 rfl rfl (by decide) inX7_reads_X7 flX7_reads_167 tyX7_ok nmX7 rfl rfl rfl rfl (Nat.le_of_ble_eq_true rfl) (ws' := [(mo, moE ad qt (zup (zup (zup (zup (zup (zup sc 0 ((L : Nat) : Int)) 1 ((tokE tx L (posF tx L (aF tx L m) (k + 1)) : Nat) : Int)) 2 ((tokS tx L (posF tx L (aF tx L m) (k + 1)) : Nat) : Int)) 3 ((tokK tx L (posF tx L (aF tx L m) (k + 1)) : Nat) : Int)) 4 v) 5 ((m + 1 : Nat) : Int))), (ad 5, aI G 200 tx), (ad 6, aI G 200 f)]) rfl dX7_reads_130 ?_
                      refine x_aload_n 134 rfl dX7_reads_133 0 rfl ?_
                      refine x_callV 137 rfl (c_X7_scans G mo ad qt (zup (zup (zup (zup (zup (zup sc 0 ((L : Nat) : Int)) 1 ((tokE tx L (posF tx L (aF tx L m) (k + 1)) : Nat) : Int)) 2 ((tokS tx L (posF tx L (aF tx L m) (k + 1)) : Nat) : Int)) 3 ((tokK tx L (posF tx L (aF tx L m) (k + 1)) : Nat) : Int)) 4 v) 5 ((m + 1 : Nat) : Int)) tx L (tokE tx L (posF tx L (aF tx L m) (k + 1))) hL (by have := posF_le tx haL (nKw (tokK tx L (aF tx L m)) + 2); rw [← hkn] at this; exact this) ht) [0, 1] rfl (by decide) 0 rfl rfl gX7_reads_X7_scans rfl rfl rfl hd_X7_scans ⟨Nat.le_of_ble_eq_true rfl, Nat.le_of_ble_eq_true rfl⟩ (As := []) (rest := []) rfl rfl (Nat.le_of_ble_eq_true rfl) dX7_reads_134 ⟨Nat.zero_le _, Nat.zero_le _⟩ (fun v w hq => ?_)
                      obtain ⟨v2, rfl, rfl, hv2⟩ := hq
                      refine ⟨rfl, ?_⟩
                      refine x_ws (ws' := [(mo, moE ad qt (zup (zup (zup (zup (zup (zup sc 0 ((L : Nat) : Int)) 1 ((tokE tx L (tokE tx L (posF tx L (aF tx L m) (k + 1))) : Nat) : Int)) 2 ((tokS tx L (tokE tx L (posF tx L (aF tx L m) (k + 1))) : Nat) : Int)) 3 ((tokK tx L (tokE tx L (posF tx L (aF tx L m) (k + 1))) : Nat) : Int)) 4 v2) 5 ((m + 1 : Nat) : Int))), (ad 5, aI G 200 tx), (ad 6, aI G 200 f)]) (rfl) ?_
                      refine x_goto dX7_reads_137 (tgt := 14) (by decide) ?_
                      have hA1 : aF tx L (m + 1) = tokE tx L (posF tx L (aF tx L m) (k + 1)) := by show posF tx L (aF tx L m) (nKw (tokK tx L (aF tx L m)) + 2) = _; rw [← hkn]; rfl
                      refine x_ws (ws' := [(mo, moE ad qt (zup (zup (zup (zup (zup (zup sc 0 ((L : Nat) : Int)) 1 ((tokE tx L (aF tx L (m + 1)) : Nat) : Int)) 2 ((tokS tx L (aF tx L (m + 1)) : Nat) : Int)) 3 ((tokK tx L (aF tx L (m + 1)) : Nat) : Int)) 4 v2) 5 ((m + 1 : Nat) : Int))), (ad 5, aI G 200 tx), (ad 6, aI G 200 f)]) (by rw [hA1]) ?_
                      refine x_lv [0] rfl ?_
                      exact ih14 (m + 1) v2 f (fun j hj => by by_cases e : j = m; (subst e; exact hgm); exact hg j (by omega)) (fun i hi j hj => by by_cases e : i = m; (subst e; exact hf2 j (by omega)); exact hf1 i (by omega) j hj) (by omega)
                    · skip
                      refine x_iconst 122 rfl dX7_reads_121 (z := 0) (by decide) ?_
                      have hbad : gdI tx L (aF tx L m) = false := by unfold gdI; rw [← hkn, decide_eq_false (p := tokK tx L (posF tx L (aF tx L m) (k + 1)) = 3) (by omega), Bool.and_false, Bool.and_false]
                      have hmN := mN_eq hL hg hbad
                      have hok : okR tx L = false := by unfold okR; rw [hmN]; exact decide_eq_false h18
                      have hls : lsN (isNum tx L (aF tx L m)) (nKw (tokK tx L (aF tx L m))) 0 = k := lsN_eq _ _ (Nat.zero_le _) (by omega) (fun j _ hj => hn1 j hj) (fun h => absurd h (by omega))
                      have hft : tokS tx L (posF tx L (aF tx L m) (k + 1)) = ftI tx L (aF tx L m) := by unfold ftI; rw [if_neg (by omega), hls]
                      refine x_int (y := zB (okR tx L)) (zB_f hok) ?_
                      refine x_zret rfl ?_ dX7_reads_122
                      exact ⟨((tokE tx L (posF tx L (aF tx L m) (k + 1)) : Nat) : Int), ((tokS tx L (posF tx L (aF tx L m) (k + 1)) : Nat) : Int), ((tokK tx L (posF tx L (aF tx L m) (k + 1)) : Nat) : Int), v, m, f, rfl, rfl, (fun hh => by rw [hok] at hh; cases hh), (fun _ => by rw [hmN]; exact congrArg _ hft)⟩
                  · skip
                    refine x_aload_n 75 rfl dX7_reads_74 0 rfl ?_
                    refine x_get 78 rfl (v := .int (zI ((tokK tx L (posF tx L (aF tx L m) (k + 1)) : Nat) : Int))) 0 10 rfl rfl (by decide) inX7_reads_X7 flX7_reads_153 rfl dX7_reads_75 ?_
                    refine x_iconst 79 rfl dX7_reads_78 (z := 2) (by decide) ?_
                    refine x_icmp_eq 82 rfl (tgt := 84) dX7_reads_79 (by decide) (by have := tokK_r tx L (posF tx L (aF tx L m) (k + 1)); omega) (by decide) (fun h79 => ?_) (fun h79 => ?_)
                    · skip
                      refine x_aload_n 85 rfl dX7_reads_84 0 rfl ?_
                      refine x_get 88 rfl (v := .ref (ad 6)) 0 12 rfl rfl (by decide) inX7_reads_X7 flX7_reads_29 rfl dX7_reads_85 ?_
                      refine x_iconst 89 rfl dX7_reads_88 (z := 5) (by decide) ?_
                      refine x_aload_n 90 rfl dX7_reads_89 0 rfl ?_
                      refine x_get 93 rfl (v := .int (zI ((m : Nat) : Int))) 0 13 rfl rfl (by decide) inX7_reads_X7 flX7_reads_167 rfl dX7_reads_90 ?_
                      refine x_imul 94 rfl dX7_reads_93 (z := ((5 * m : Nat) : Int)) (by omega) ?_
                      refine x_iconst 95 rfl dX7_reads_94 (z := 1) (by decide) ?_
                      refine x_iadd 96 rfl dX7_reads_95 (z := ((5 * m + 1 : Nat) : Int)) (by omega) ?_
                      refine x_iload_n 97 rfl dX7_reads_96 2 rfl ?_
                      refine x_iadd 98 rfl dX7_reads_97 (z := ((5 * m + 1 + k : Nat) : Int)) (by omega) ?_
                      refine x_aload_n 99 rfl dX7_reads_98 0 rfl ?_
                      refine x_get 102 rfl (v := .int (zI v)) 0 11 rfl rfl (by decide) inX7_reads_X7 flX7_reads_164 rfl dX7_reads_99 ?_
                      refine x_iast 103 rfl 2 (5 * m + 1 + k) rfl (⟨by omega, by omega⟩) (by decide) (ws' := [(mo, moE ad qt (zup (zup (zup (zup (zup (zup sc 0 ((L : Nat) : Int)) 1 ((tokE tx L (posF tx L (aF tx L m) (k + 1)) : Nat) : Int)) 2 ((tokS tx L (posF tx L (aF tx L m) (k + 1)) : Nat) : Int)) 3 ((tokK tx L (posF tx L (aF tx L m) (k + 1)) : Nat) : Int)) 4 v) 5 ((m : Nat) : Int))), (ad 5, aI G 200 tx), (ad 6, aI G 200 (zup f (5 * m + 1 + k) v))]) (rfl) dX7_reads_102 ?_
                      refine x_aload_n 104 rfl dX7_reads_103 0 rfl ?_
                      refine x_callV 107 rfl (c_X7_scans G mo ad qt (zup (zup (zup (zup (zup (zup sc 0 ((L : Nat) : Int)) 1 ((tokE tx L (posF tx L (aF tx L m) (k + 1)) : Nat) : Int)) 2 ((tokS tx L (posF tx L (aF tx L m) (k + 1)) : Nat) : Int)) 3 ((tokK tx L (posF tx L (aF tx L m) (k + 1)) : Nat) : Int)) 4 v) 5 ((m : Nat) : Int)) tx L (tokE tx L (posF tx L (aF tx L m) (k + 1))) hL (posF_le tx haL (k + 2)) ht) [0, 1] rfl (by decide) 0 rfl rfl gX7_reads_X7_scans rfl rfl rfl hd_X7_scans ⟨Nat.le_of_ble_eq_true rfl, Nat.le_of_ble_eq_true rfl⟩ (As := []) (rest := []) rfl rfl (Nat.le_of_ble_eq_true rfl) dX7_reads_104 ⟨Nat.zero_le _, Nat.zero_le _⟩ (fun v w hq => ?_)
                      obtain ⟨v3, rfl, rfl, hv3⟩ := hq
                      refine ⟨rfl, ?_⟩
                      refine x_ws (ws' := [(mo, moE ad qt (zup (zup (zup (zup (zup (zup sc 0 ((L : Nat) : Int)) 1 ((tokE tx L (tokE tx L (posF tx L (aF tx L m) (k + 1))) : Nat) : Int)) 2 ((tokS tx L (tokE tx L (posF tx L (aF tx L m) (k + 1))) : Nat) : Int)) 3 ((tokK tx L (tokE tx L (posF tx L (aF tx L m) (k + 1))) : Nat) : Int)) 4 v3) 5 ((m : Nat) : Int))), (ad 5, aI G 200 tx), (ad 6, aI G 200 (zup f (5 * m + 1 + k) v))]) (rfl) ?_
                      refine x_iinc 110 rfl (lv' := [(2, .int (zI ((k + 1 : Nat) : Int))), (0, .ref mo), (1, .int (zI ((w : Nat) : Int)))]) dX7_reads_107 2 rfl (b := ((k + 1 : Nat) : Int)) (by omega) (by decide) rfl ?_
                      refine x_goto dX7_reads_110 (tgt := 52) (by decide) ?_
                      refine x_lv [1, 2, 0] rfl ?_
                      exact ih52 (k + 1) v3 (zup f (5 * m + 1 + k) v) (by omega) (hv3) (fun j hj => by by_cases e : j = k; (subst e; exact decide_eq_true (by omega)); exact hn1 j (by omega)) (fun i hi j hj => by have := nKw_r (tokK tx L (aF tx L i)); rw [zup_n _ _ (by omega)]; exact hf1 i hi j hj) (fun j hj => by by_cases e : j = k + 1; (rw [e, show 5 * m + (k + 1) = 5 * m + 1 + k by omega, zup_s]; unfold itV; rw [if_neg (by omega)]; exact hv1 (by omega)); (rw [zup_n _ _ (by omega)]; exact hf2 j (by omega))) (by omega)
                    · skip
                      refine x_iconst 83 rfl dX7_reads_82 (z := 0) (by decide) ?_
                      have hbk : isNum tx L (aF tx L m) k = false := decide_eq_false (by omega)
                      have hall : allF (isNum tx L (aF tx L m)) (nKw (tokK tx L (aF tx L m))) = false := by cases hq : allF (isNum tx L (aF tx L m)) (nKw (tokK tx L (aF tx L m))) with | false => rfl | true => (rw [allF_iff] at hq; rw [hq k (by omega)] at hbk; cases hbk)
                      have hbad : gdI tx L (aF tx L m) = false := by unfold gdI; rw [hall, Bool.false_and, Bool.and_false]
                      have hmN := mN_eq hL hg hbad
                      have hok : okR tx L = false := by unfold okR; rw [hmN]; exact decide_eq_false h18
                      have hls : lsN (isNum tx L (aF tx L m)) (nKw (tokK tx L (aF tx L m))) 0 = k := lsN_eq _ _ (Nat.zero_le _) (by omega) (fun j _ hj => hn1 j hj) (fun _ => hbk)
                      have hft : tokS tx L (posF tx L (aF tx L m) (k + 1)) = ftI tx L (aF tx L m) := by unfold ftI; rw [if_neg (by omega), hls]
                      refine x_int (y := zB (okR tx L)) (zB_f hok) ?_
                      refine x_zret rfl ?_ dX7_reads_83
                      exact ⟨((tokE tx L (posF tx L (aF tx L m) (k + 1)) : Nat) : Int), ((tokS tx L (posF tx L (aF tx L m) (k + 1)) : Nat) : Int), ((tokK tx L (posF tx L (aF tx L m) (k + 1)) : Nat) : Int), v, m, f, rfl, rfl, (fun hh => by rw [hok] at hh; cases hh), (fun _ => by rw [hmN]; exact congrArg _ hft)⟩
                · skip
                  refine x_iconst 67 rfl dX7_reads_66 (z := 4) (by decide) ?_
                  refine x_goto dX7_reads_67 (tgt := 71) (by decide) ?_
                  refine x_icmp_ge 74 rfl (tgt := 113) dX7_reads_71 (by decide) (by omega) (by decide) (fun h71 => ?_) (fun h71 => ?_)
                  · skip
                    have hkn : k = nKw (tokK tx L (aF tx L m)) := by omega
                    have hall : allF (isNum tx L (aF tx L m)) (nKw (tokK tx L (aF tx L m))) = true := by rw [← hkn]; exact (allF_iff _ _).mpr hn1
                    refine x_aload_n 114 rfl dX7_reads_113 0 rfl ?_
                    refine x_get 117 rfl (v := .int (zI ((tokK tx L (posF tx L (aF tx L m) (k + 1)) : Nat) : Int))) 0 10 rfl rfl (by decide) inX7_reads_X7 flX7_reads_153 rfl dX7_reads_114 ?_
                    refine x_iconst 118 rfl dX7_reads_117 (z := 3) (by decide) ?_
                    refine x_icmp_eq 121 rfl (tgt := 123) dX7_reads_118 (by decide) (by have := tokK_r tx L (posF tx L (aF tx L m) (k + 1)); omega) (by decide) (fun h118 => ?_) (fun h118 => ?_)
                    · skip
                      have hgm : gdI tx L (aF tx L m) = true := by unfold gdI; rw [decide_eq_true hw4, hall, ← hkn, decide_eq_true (by omega)]; rfl
                      refine x_aload_n 124 rfl dX7_reads_123 0 rfl ?_
                      refine x_dup 125 rfl dX7_reads_124 rfl ?_
                      refine x_get 128 rfl (v := .int (zI ((m : Nat) : Int))) 0 13 rfl rfl (by decide) inX7_reads_X7 flX7_reads_167 rfl dX7_reads_125 ?_
                      refine x_iconst 129 rfl dX7_reads_128 (z := 1) (by decide) ?_
                      refine x_iadd 130 rfl dX7_reads_129 (z := ((m + 1 : Nat) : Int)) (by omega) ?_
                      refine x_put 133 rfl 0 13 rfl rfl (by decide) inX7_reads_X7 flX7_reads_167 tyX7_ok nmX7 rfl rfl rfl rfl (Nat.le_of_ble_eq_true rfl) (ws' := [(mo, moE ad qt (zup (zup (zup (zup (zup (zup sc 0 ((L : Nat) : Int)) 1 ((tokE tx L (posF tx L (aF tx L m) (k + 1)) : Nat) : Int)) 2 ((tokS tx L (posF tx L (aF tx L m) (k + 1)) : Nat) : Int)) 3 ((tokK tx L (posF tx L (aF tx L m) (k + 1)) : Nat) : Int)) 4 v) 5 ((m + 1 : Nat) : Int))), (ad 5, aI G 200 tx), (ad 6, aI G 200 f)]) rfl dX7_reads_130 ?_
                      refine x_aload_n 134 rfl dX7_reads_133 0 rfl ?_
                      refine x_callV 137 rfl (c_X7_scans G mo ad qt (zup (zup (zup (zup (zup (zup sc 0 ((L : Nat) : Int)) 1 ((tokE tx L (posF tx L (aF tx L m) (k + 1)) : Nat) : Int)) 2 ((tokS tx L (posF tx L (aF tx L m) (k + 1)) : Nat) : Int)) 3 ((tokK tx L (posF tx L (aF tx L m) (k + 1)) : Nat) : Int)) 4 v) 5 ((m + 1 : Nat) : Int)) tx L (tokE tx L (posF tx L (aF tx L m) (k + 1))) hL (by have := posF_le tx haL (nKw (tokK tx L (aF tx L m)) + 2); rw [← hkn] at this; exact this) ht) [0, 1] rfl (by decide) 0 rfl rfl gX7_reads_X7_scans rfl rfl rfl hd_X7_scans ⟨Nat.le_of_ble_eq_true rfl, Nat.le_of_ble_eq_true rfl⟩ (As := []) (rest := []) rfl rfl (Nat.le_of_ble_eq_true rfl) dX7_reads_134 ⟨Nat.zero_le _, Nat.zero_le _⟩ (fun v w hq => ?_)
                      obtain ⟨v2, rfl, rfl, hv2⟩ := hq
                      refine ⟨rfl, ?_⟩
                      refine x_ws (ws' := [(mo, moE ad qt (zup (zup (zup (zup (zup (zup sc 0 ((L : Nat) : Int)) 1 ((tokE tx L (tokE tx L (posF tx L (aF tx L m) (k + 1))) : Nat) : Int)) 2 ((tokS tx L (tokE tx L (posF tx L (aF tx L m) (k + 1))) : Nat) : Int)) 3 ((tokK tx L (tokE tx L (posF tx L (aF tx L m) (k + 1))) : Nat) : Int)) 4 v2) 5 ((m + 1 : Nat) : Int))), (ad 5, aI G 200 tx), (ad 6, aI G 200 f)]) (rfl) ?_
                      refine x_goto dX7_reads_137 (tgt := 14) (by decide) ?_
                      have hA1 : aF tx L (m + 1) = tokE tx L (posF tx L (aF tx L m) (k + 1)) := by show posF tx L (aF tx L m) (nKw (tokK tx L (aF tx L m)) + 2) = _; rw [← hkn]; rfl
                      refine x_ws (ws' := [(mo, moE ad qt (zup (zup (zup (zup (zup (zup sc 0 ((L : Nat) : Int)) 1 ((tokE tx L (aF tx L (m + 1)) : Nat) : Int)) 2 ((tokS tx L (aF tx L (m + 1)) : Nat) : Int)) 3 ((tokK tx L (aF tx L (m + 1)) : Nat) : Int)) 4 v2) 5 ((m + 1 : Nat) : Int))), (ad 5, aI G 200 tx), (ad 6, aI G 200 f)]) (by rw [hA1]) ?_
                      refine x_lv [0] rfl ?_
                      exact ih14 (m + 1) v2 f (fun j hj => by by_cases e : j = m; (subst e; exact hgm); exact hg j (by omega)) (fun i hi j hj => by by_cases e : i = m; (subst e; exact hf2 j (by omega)); exact hf1 i (by omega) j hj) (by omega)
                    · skip
                      refine x_iconst 122 rfl dX7_reads_121 (z := 0) (by decide) ?_
                      have hbad : gdI tx L (aF tx L m) = false := by unfold gdI; rw [← hkn, decide_eq_false (p := tokK tx L (posF tx L (aF tx L m) (k + 1)) = 3) (by omega), Bool.and_false, Bool.and_false]
                      have hmN := mN_eq hL hg hbad
                      have hok : okR tx L = false := by unfold okR; rw [hmN]; exact decide_eq_false h18
                      have hls : lsN (isNum tx L (aF tx L m)) (nKw (tokK tx L (aF tx L m))) 0 = k := lsN_eq _ _ (Nat.zero_le _) (by omega) (fun j _ hj => hn1 j hj) (fun h => absurd h (by omega))
                      have hft : tokS tx L (posF tx L (aF tx L m) (k + 1)) = ftI tx L (aF tx L m) := by unfold ftI; rw [if_neg (by omega), hls]
                      refine x_int (y := zB (okR tx L)) (zB_f hok) ?_
                      refine x_zret rfl ?_ dX7_reads_122
                      exact ⟨((tokE tx L (posF tx L (aF tx L m) (k + 1)) : Nat) : Int), ((tokS tx L (posF tx L (aF tx L m) (k + 1)) : Nat) : Int), ((tokK tx L (posF tx L (aF tx L m) (k + 1)) : Nat) : Int), v, m, f, rfl, rfl, (fun hh => by rw [hok] at hh; cases hh), (fun _ => by rw [hmN]; exact congrArg _ hft)⟩
                  · skip
                    refine x_aload_n 75 rfl dX7_reads_74 0 rfl ?_
                    refine x_get 78 rfl (v := .int (zI ((tokK tx L (posF tx L (aF tx L m) (k + 1)) : Nat) : Int))) 0 10 rfl rfl (by decide) inX7_reads_X7 flX7_reads_153 rfl dX7_reads_75 ?_
                    refine x_iconst 79 rfl dX7_reads_78 (z := 2) (by decide) ?_
                    refine x_icmp_eq 82 rfl (tgt := 84) dX7_reads_79 (by decide) (by have := tokK_r tx L (posF tx L (aF tx L m) (k + 1)); omega) (by decide) (fun h79 => ?_) (fun h79 => ?_)
                    · skip
                      refine x_aload_n 85 rfl dX7_reads_84 0 rfl ?_
                      refine x_get 88 rfl (v := .ref (ad 6)) 0 12 rfl rfl (by decide) inX7_reads_X7 flX7_reads_29 rfl dX7_reads_85 ?_
                      refine x_iconst 89 rfl dX7_reads_88 (z := 5) (by decide) ?_
                      refine x_aload_n 90 rfl dX7_reads_89 0 rfl ?_
                      refine x_get 93 rfl (v := .int (zI ((m : Nat) : Int))) 0 13 rfl rfl (by decide) inX7_reads_X7 flX7_reads_167 rfl dX7_reads_90 ?_
                      refine x_imul 94 rfl dX7_reads_93 (z := ((5 * m : Nat) : Int)) (by omega) ?_
                      refine x_iconst 95 rfl dX7_reads_94 (z := 1) (by decide) ?_
                      refine x_iadd 96 rfl dX7_reads_95 (z := ((5 * m + 1 : Nat) : Int)) (by omega) ?_
                      refine x_iload_n 97 rfl dX7_reads_96 2 rfl ?_
                      refine x_iadd 98 rfl dX7_reads_97 (z := ((5 * m + 1 + k : Nat) : Int)) (by omega) ?_
                      refine x_aload_n 99 rfl dX7_reads_98 0 rfl ?_
                      refine x_get 102 rfl (v := .int (zI v)) 0 11 rfl rfl (by decide) inX7_reads_X7 flX7_reads_164 rfl dX7_reads_99 ?_
                      refine x_iast 103 rfl 2 (5 * m + 1 + k) rfl (⟨by omega, by omega⟩) (by decide) (ws' := [(mo, moE ad qt (zup (zup (zup (zup (zup (zup sc 0 ((L : Nat) : Int)) 1 ((tokE tx L (posF tx L (aF tx L m) (k + 1)) : Nat) : Int)) 2 ((tokS tx L (posF tx L (aF tx L m) (k + 1)) : Nat) : Int)) 3 ((tokK tx L (posF tx L (aF tx L m) (k + 1)) : Nat) : Int)) 4 v) 5 ((m : Nat) : Int))), (ad 5, aI G 200 tx), (ad 6, aI G 200 (zup f (5 * m + 1 + k) v))]) (rfl) dX7_reads_102 ?_
                      refine x_aload_n 104 rfl dX7_reads_103 0 rfl ?_
                      refine x_callV 107 rfl (c_X7_scans G mo ad qt (zup (zup (zup (zup (zup (zup sc 0 ((L : Nat) : Int)) 1 ((tokE tx L (posF tx L (aF tx L m) (k + 1)) : Nat) : Int)) 2 ((tokS tx L (posF tx L (aF tx L m) (k + 1)) : Nat) : Int)) 3 ((tokK tx L (posF tx L (aF tx L m) (k + 1)) : Nat) : Int)) 4 v) 5 ((m : Nat) : Int)) tx L (tokE tx L (posF tx L (aF tx L m) (k + 1))) hL (posF_le tx haL (k + 2)) ht) [0, 1] rfl (by decide) 0 rfl rfl gX7_reads_X7_scans rfl rfl rfl hd_X7_scans ⟨Nat.le_of_ble_eq_true rfl, Nat.le_of_ble_eq_true rfl⟩ (As := []) (rest := []) rfl rfl (Nat.le_of_ble_eq_true rfl) dX7_reads_104 ⟨Nat.zero_le _, Nat.zero_le _⟩ (fun v w hq => ?_)
                      obtain ⟨v3, rfl, rfl, hv3⟩ := hq
                      refine ⟨rfl, ?_⟩
                      refine x_ws (ws' := [(mo, moE ad qt (zup (zup (zup (zup (zup (zup sc 0 ((L : Nat) : Int)) 1 ((tokE tx L (tokE tx L (posF tx L (aF tx L m) (k + 1))) : Nat) : Int)) 2 ((tokS tx L (tokE tx L (posF tx L (aF tx L m) (k + 1))) : Nat) : Int)) 3 ((tokK tx L (tokE tx L (posF tx L (aF tx L m) (k + 1))) : Nat) : Int)) 4 v3) 5 ((m : Nat) : Int))), (ad 5, aI G 200 tx), (ad 6, aI G 200 (zup f (5 * m + 1 + k) v))]) (rfl) ?_
                      refine x_iinc 110 rfl (lv' := [(2, .int (zI ((k + 1 : Nat) : Int))), (0, .ref mo), (1, .int (zI ((w : Nat) : Int)))]) dX7_reads_107 2 rfl (b := ((k + 1 : Nat) : Int)) (by omega) (by decide) rfl ?_
                      refine x_goto dX7_reads_110 (tgt := 52) (by decide) ?_
                      refine x_lv [1, 2, 0] rfl ?_
                      exact ih52 (k + 1) v3 (zup f (5 * m + 1 + k) v) (by omega) (hv3) (fun j hj => by by_cases e : j = k; (subst e; exact decide_eq_true (by omega)); exact hn1 j (by omega)) (fun i hi j hj => by have := nKw_r (tokK tx L (aF tx L i)); rw [zup_n _ _ (by omega)]; exact hf1 i hi j hj) (fun j hj => by by_cases e : j = k + 1; (rw [e, show 5 * m + (k + 1) = 5 * m + 1 + k by omega, zup_s]; unfold itV; rw [if_neg (by omega)]; exact hv1 (by omega)); (rw [zup_n _ _ (by omega)]; exact hf2 j (by omega))) (by omega)
                    · skip
                      refine x_iconst 83 rfl dX7_reads_82 (z := 0) (by decide) ?_
                      have hbk : isNum tx L (aF tx L m) k = false := decide_eq_false (by omega)
                      have hall : allF (isNum tx L (aF tx L m)) (nKw (tokK tx L (aF tx L m))) = false := by cases hq : allF (isNum tx L (aF tx L m)) (nKw (tokK tx L (aF tx L m))) with | false => rfl | true => (rw [allF_iff] at hq; rw [hq k (by omega)] at hbk; cases hbk)
                      have hbad : gdI tx L (aF tx L m) = false := by unfold gdI; rw [hall, Bool.false_and, Bool.and_false]
                      have hmN := mN_eq hL hg hbad
                      have hok : okR tx L = false := by unfold okR; rw [hmN]; exact decide_eq_false h18
                      have hls : lsN (isNum tx L (aF tx L m)) (nKw (tokK tx L (aF tx L m))) 0 = k := lsN_eq _ _ (Nat.zero_le _) (by omega) (fun j _ hj => hn1 j hj) (fun _ => hbk)
                      have hft : tokS tx L (posF tx L (aF tx L m) (k + 1)) = ftI tx L (aF tx L m) := by unfold ftI; rw [if_neg (by omega), hls]
                      refine x_int (y := zB (okR tx L)) (zB_f hok) ?_
                      refine x_zret rfl ?_ dX7_reads_83
                      exact ⟨((tokE tx L (posF tx L (aF tx L m) (k + 1)) : Nat) : Int), ((tokS tx L (posF tx L (aF tx L m) (k + 1)) : Nat) : Int), ((tokK tx L (posF tx L (aF tx L m) (k + 1)) : Nat) : Int), v, m, f, rfl, rfl, (fun hh => by rw [hok] at hh; cases hh), (fun _ => by rw [hmN]; exact congrArg _ hft)⟩
              · skip
                refine x_iconst 58 rfl dX7_reads_57 (z := 3) (by decide) ?_
                refine x_goto dX7_reads_58 (tgt := 71) (by decide) ?_
                refine x_icmp_ge 74 rfl (tgt := 113) dX7_reads_71 (by decide) (by omega) (by decide) (fun h71 => ?_) (fun h71 => ?_)
                · skip
                  have hkn : k = nKw (tokK tx L (aF tx L m)) := by omega
                  have hall : allF (isNum tx L (aF tx L m)) (nKw (tokK tx L (aF tx L m))) = true := by rw [← hkn]; exact (allF_iff _ _).mpr hn1
                  refine x_aload_n 114 rfl dX7_reads_113 0 rfl ?_
                  refine x_get 117 rfl (v := .int (zI ((tokK tx L (posF tx L (aF tx L m) (k + 1)) : Nat) : Int))) 0 10 rfl rfl (by decide) inX7_reads_X7 flX7_reads_153 rfl dX7_reads_114 ?_
                  refine x_iconst 118 rfl dX7_reads_117 (z := 3) (by decide) ?_
                  refine x_icmp_eq 121 rfl (tgt := 123) dX7_reads_118 (by decide) (by have := tokK_r tx L (posF tx L (aF tx L m) (k + 1)); omega) (by decide) (fun h118 => ?_) (fun h118 => ?_)
                  · skip
                    have hgm : gdI tx L (aF tx L m) = true := by unfold gdI; rw [decide_eq_true hw4, hall, ← hkn, decide_eq_true (by omega)]; rfl
                    refine x_aload_n 124 rfl dX7_reads_123 0 rfl ?_
                    refine x_dup 125 rfl dX7_reads_124 rfl ?_
                    refine x_get 128 rfl (v := .int (zI ((m : Nat) : Int))) 0 13 rfl rfl (by decide) inX7_reads_X7 flX7_reads_167 rfl dX7_reads_125 ?_
                    refine x_iconst 129 rfl dX7_reads_128 (z := 1) (by decide) ?_
                    refine x_iadd 130 rfl dX7_reads_129 (z := ((m + 1 : Nat) : Int)) (by omega) ?_
                    refine x_put 133 rfl 0 13 rfl rfl (by decide) inX7_reads_X7 flX7_reads_167 tyX7_ok nmX7 rfl rfl rfl rfl (Nat.le_of_ble_eq_true rfl) (ws' := [(mo, moE ad qt (zup (zup (zup (zup (zup (zup sc 0 ((L : Nat) : Int)) 1 ((tokE tx L (posF tx L (aF tx L m) (k + 1)) : Nat) : Int)) 2 ((tokS tx L (posF tx L (aF tx L m) (k + 1)) : Nat) : Int)) 3 ((tokK tx L (posF tx L (aF tx L m) (k + 1)) : Nat) : Int)) 4 v) 5 ((m + 1 : Nat) : Int))), (ad 5, aI G 200 tx), (ad 6, aI G 200 f)]) rfl dX7_reads_130 ?_
                    refine x_aload_n 134 rfl dX7_reads_133 0 rfl ?_
                    refine x_callV 137 rfl (c_X7_scans G mo ad qt (zup (zup (zup (zup (zup (zup sc 0 ((L : Nat) : Int)) 1 ((tokE tx L (posF tx L (aF tx L m) (k + 1)) : Nat) : Int)) 2 ((tokS tx L (posF tx L (aF tx L m) (k + 1)) : Nat) : Int)) 3 ((tokK tx L (posF tx L (aF tx L m) (k + 1)) : Nat) : Int)) 4 v) 5 ((m + 1 : Nat) : Int)) tx L (tokE tx L (posF tx L (aF tx L m) (k + 1))) hL (by have := posF_le tx haL (nKw (tokK tx L (aF tx L m)) + 2); rw [← hkn] at this; exact this) ht) [0, 1] rfl (by decide) 0 rfl rfl gX7_reads_X7_scans rfl rfl rfl hd_X7_scans ⟨Nat.le_of_ble_eq_true rfl, Nat.le_of_ble_eq_true rfl⟩ (As := []) (rest := []) rfl rfl (Nat.le_of_ble_eq_true rfl) dX7_reads_134 ⟨Nat.zero_le _, Nat.zero_le _⟩ (fun v w hq => ?_)
                    obtain ⟨v2, rfl, rfl, hv2⟩ := hq
                    refine ⟨rfl, ?_⟩
                    refine x_ws (ws' := [(mo, moE ad qt (zup (zup (zup (zup (zup (zup sc 0 ((L : Nat) : Int)) 1 ((tokE tx L (tokE tx L (posF tx L (aF tx L m) (k + 1))) : Nat) : Int)) 2 ((tokS tx L (tokE tx L (posF tx L (aF tx L m) (k + 1))) : Nat) : Int)) 3 ((tokK tx L (tokE tx L (posF tx L (aF tx L m) (k + 1))) : Nat) : Int)) 4 v2) 5 ((m + 1 : Nat) : Int))), (ad 5, aI G 200 tx), (ad 6, aI G 200 f)]) (rfl) ?_
                    refine x_goto dX7_reads_137 (tgt := 14) (by decide) ?_
                    have hA1 : aF tx L (m + 1) = tokE tx L (posF tx L (aF tx L m) (k + 1)) := by show posF tx L (aF tx L m) (nKw (tokK tx L (aF tx L m)) + 2) = _; rw [← hkn]; rfl
                    refine x_ws (ws' := [(mo, moE ad qt (zup (zup (zup (zup (zup (zup sc 0 ((L : Nat) : Int)) 1 ((tokE tx L (aF tx L (m + 1)) : Nat) : Int)) 2 ((tokS tx L (aF tx L (m + 1)) : Nat) : Int)) 3 ((tokK tx L (aF tx L (m + 1)) : Nat) : Int)) 4 v2) 5 ((m + 1 : Nat) : Int))), (ad 5, aI G 200 tx), (ad 6, aI G 200 f)]) (by rw [hA1]) ?_
                    refine x_lv [0] rfl ?_
                    exact ih14 (m + 1) v2 f (fun j hj => by by_cases e : j = m; (subst e; exact hgm); exact hg j (by omega)) (fun i hi j hj => by by_cases e : i = m; (subst e; exact hf2 j (by omega)); exact hf1 i (by omega) j hj) (by omega)
                  · skip
                    refine x_iconst 122 rfl dX7_reads_121 (z := 0) (by decide) ?_
                    have hbad : gdI tx L (aF tx L m) = false := by unfold gdI; rw [← hkn, decide_eq_false (p := tokK tx L (posF tx L (aF tx L m) (k + 1)) = 3) (by omega), Bool.and_false, Bool.and_false]
                    have hmN := mN_eq hL hg hbad
                    have hok : okR tx L = false := by unfold okR; rw [hmN]; exact decide_eq_false h18
                    have hls : lsN (isNum tx L (aF tx L m)) (nKw (tokK tx L (aF tx L m))) 0 = k := lsN_eq _ _ (Nat.zero_le _) (by omega) (fun j _ hj => hn1 j hj) (fun h => absurd h (by omega))
                    have hft : tokS tx L (posF tx L (aF tx L m) (k + 1)) = ftI tx L (aF tx L m) := by unfold ftI; rw [if_neg (by omega), hls]
                    refine x_int (y := zB (okR tx L)) (zB_f hok) ?_
                    refine x_zret rfl ?_ dX7_reads_122
                    exact ⟨((tokE tx L (posF tx L (aF tx L m) (k + 1)) : Nat) : Int), ((tokS tx L (posF tx L (aF tx L m) (k + 1)) : Nat) : Int), ((tokK tx L (posF tx L (aF tx L m) (k + 1)) : Nat) : Int), v, m, f, rfl, rfl, (fun hh => by rw [hok] at hh; cases hh), (fun _ => by rw [hmN]; exact congrArg _ hft)⟩
                · skip
                  refine x_aload_n 75 rfl dX7_reads_74 0 rfl ?_
                  refine x_get 78 rfl (v := .int (zI ((tokK tx L (posF tx L (aF tx L m) (k + 1)) : Nat) : Int))) 0 10 rfl rfl (by decide) inX7_reads_X7 flX7_reads_153 rfl dX7_reads_75 ?_
                  refine x_iconst 79 rfl dX7_reads_78 (z := 2) (by decide) ?_
                  refine x_icmp_eq 82 rfl (tgt := 84) dX7_reads_79 (by decide) (by have := tokK_r tx L (posF tx L (aF tx L m) (k + 1)); omega) (by decide) (fun h79 => ?_) (fun h79 => ?_)
                  · skip
                    refine x_aload_n 85 rfl dX7_reads_84 0 rfl ?_
                    refine x_get 88 rfl (v := .ref (ad 6)) 0 12 rfl rfl (by decide) inX7_reads_X7 flX7_reads_29 rfl dX7_reads_85 ?_
                    refine x_iconst 89 rfl dX7_reads_88 (z := 5) (by decide) ?_
                    refine x_aload_n 90 rfl dX7_reads_89 0 rfl ?_
                    refine x_get 93 rfl (v := .int (zI ((m : Nat) : Int))) 0 13 rfl rfl (by decide) inX7_reads_X7 flX7_reads_167 rfl dX7_reads_90 ?_
                    refine x_imul 94 rfl dX7_reads_93 (z := ((5 * m : Nat) : Int)) (by omega) ?_
                    refine x_iconst 95 rfl dX7_reads_94 (z := 1) (by decide) ?_
                    refine x_iadd 96 rfl dX7_reads_95 (z := ((5 * m + 1 : Nat) : Int)) (by omega) ?_
                    refine x_iload_n 97 rfl dX7_reads_96 2 rfl ?_
                    refine x_iadd 98 rfl dX7_reads_97 (z := ((5 * m + 1 + k : Nat) : Int)) (by omega) ?_
                    refine x_aload_n 99 rfl dX7_reads_98 0 rfl ?_
                    refine x_get 102 rfl (v := .int (zI v)) 0 11 rfl rfl (by decide) inX7_reads_X7 flX7_reads_164 rfl dX7_reads_99 ?_
                    refine x_iast 103 rfl 2 (5 * m + 1 + k) rfl (⟨by omega, by omega⟩) (by decide) (ws' := [(mo, moE ad qt (zup (zup (zup (zup (zup (zup sc 0 ((L : Nat) : Int)) 1 ((tokE tx L (posF tx L (aF tx L m) (k + 1)) : Nat) : Int)) 2 ((tokS tx L (posF tx L (aF tx L m) (k + 1)) : Nat) : Int)) 3 ((tokK tx L (posF tx L (aF tx L m) (k + 1)) : Nat) : Int)) 4 v) 5 ((m : Nat) : Int))), (ad 5, aI G 200 tx), (ad 6, aI G 200 (zup f (5 * m + 1 + k) v))]) (rfl) dX7_reads_102 ?_
                    refine x_aload_n 104 rfl dX7_reads_103 0 rfl ?_
                    refine x_callV 107 rfl (c_X7_scans G mo ad qt (zup (zup (zup (zup (zup (zup sc 0 ((L : Nat) : Int)) 1 ((tokE tx L (posF tx L (aF tx L m) (k + 1)) : Nat) : Int)) 2 ((tokS tx L (posF tx L (aF tx L m) (k + 1)) : Nat) : Int)) 3 ((tokK tx L (posF tx L (aF tx L m) (k + 1)) : Nat) : Int)) 4 v) 5 ((m : Nat) : Int)) tx L (tokE tx L (posF tx L (aF tx L m) (k + 1))) hL (posF_le tx haL (k + 2)) ht) [0, 1] rfl (by decide) 0 rfl rfl gX7_reads_X7_scans rfl rfl rfl hd_X7_scans ⟨Nat.le_of_ble_eq_true rfl, Nat.le_of_ble_eq_true rfl⟩ (As := []) (rest := []) rfl rfl (Nat.le_of_ble_eq_true rfl) dX7_reads_104 ⟨Nat.zero_le _, Nat.zero_le _⟩ (fun v w hq => ?_)
                    obtain ⟨v3, rfl, rfl, hv3⟩ := hq
                    refine ⟨rfl, ?_⟩
                    refine x_ws (ws' := [(mo, moE ad qt (zup (zup (zup (zup (zup (zup sc 0 ((L : Nat) : Int)) 1 ((tokE tx L (tokE tx L (posF tx L (aF tx L m) (k + 1))) : Nat) : Int)) 2 ((tokS tx L (tokE tx L (posF tx L (aF tx L m) (k + 1))) : Nat) : Int)) 3 ((tokK tx L (tokE tx L (posF tx L (aF tx L m) (k + 1))) : Nat) : Int)) 4 v3) 5 ((m : Nat) : Int))), (ad 5, aI G 200 tx), (ad 6, aI G 200 (zup f (5 * m + 1 + k) v))]) (rfl) ?_
                    refine x_iinc 110 rfl (lv' := [(2, .int (zI ((k + 1 : Nat) : Int))), (0, .ref mo), (1, .int (zI ((w : Nat) : Int)))]) dX7_reads_107 2 rfl (b := ((k + 1 : Nat) : Int)) (by omega) (by decide) rfl ?_
                    refine x_goto dX7_reads_110 (tgt := 52) (by decide) ?_
                    refine x_lv [1, 2, 0] rfl ?_
                    exact ih52 (k + 1) v3 (zup f (5 * m + 1 + k) v) (by omega) (hv3) (fun j hj => by by_cases e : j = k; (subst e; exact decide_eq_true (by omega)); exact hn1 j (by omega)) (fun i hi j hj => by have := nKw_r (tokK tx L (aF tx L i)); rw [zup_n _ _ (by omega)]; exact hf1 i hi j hj) (fun j hj => by by_cases e : j = k + 1; (rw [e, show 5 * m + (k + 1) = 5 * m + 1 + k by omega, zup_s]; unfold itV; rw [if_neg (by omega)]; exact hv1 (by omega)); (rw [zup_n _ _ (by omega)]; exact hf2 j (by omega))) (by omega)
                  · skip
                    refine x_iconst 83 rfl dX7_reads_82 (z := 0) (by decide) ?_
                    have hbk : isNum tx L (aF tx L m) k = false := decide_eq_false (by omega)
                    have hall : allF (isNum tx L (aF tx L m)) (nKw (tokK tx L (aF tx L m))) = false := by cases hq : allF (isNum tx L (aF tx L m)) (nKw (tokK tx L (aF tx L m))) with | false => rfl | true => (rw [allF_iff] at hq; rw [hq k (by omega)] at hbk; cases hbk)
                    have hbad : gdI tx L (aF tx L m) = false := by unfold gdI; rw [hall, Bool.false_and, Bool.and_false]
                    have hmN := mN_eq hL hg hbad
                    have hok : okR tx L = false := by unfold okR; rw [hmN]; exact decide_eq_false h18
                    have hls : lsN (isNum tx L (aF tx L m)) (nKw (tokK tx L (aF tx L m))) 0 = k := lsN_eq _ _ (Nat.zero_le _) (by omega) (fun j _ hj => hn1 j hj) (fun _ => hbk)
                    have hft : tokS tx L (posF tx L (aF tx L m) (k + 1)) = ftI tx L (aF tx L m) := by unfold ftI; rw [if_neg (by omega), hls]
                    refine x_int (y := zB (okR tx L)) (zB_f hok) ?_
                    refine x_zret rfl ?_ dX7_reads_83
                    exact ⟨((tokE tx L (posF tx L (aF tx L m) (k + 1)) : Nat) : Int), ((tokS tx L (posF tx L (aF tx L m) (k + 1)) : Nat) : Int), ((tokK tx L (posF tx L (aF tx L m) (k + 1)) : Nat) : Int), v, m, f, rfl, rfl, (fun hh => by rw [hok] at hh; cases hh), (fun _ => by rw [hmN]; exact congrArg _ hft)⟩
          refine x_lv [2, 1, 0] rfl ?_
          exact L52 _ 0 v1 (zup f (5 * m) ((w : Nat) : Int)) (Nat.zero_le _) (hv1) (fun j hj => absurd hj (Nat.not_lt_zero _)) (fun i hi j hj => by have := nKw_r (tokK tx L (aF tx L i)); rw [zup_n _ _ (by omega)]; exact hit i hi j hj) (fun j hj => by obtain rfl : j = 0 := (by omega); rw [Nat.add_zero, zup_s]; unfold itV; rw [if_pos rfl]; omega) (Nat.lt_succ_self _)
        · skip
          refine x_iconst 33 rfl dX7_reads_32 (z := 0) (by decide) ?_
          have hbad : gdI tx L (aF tx L m) = false := by unfold gdI; rw [decide_eq_false (by omega)]; rfl
          have hmN := mN_eq hL hg hbad
          have hok : okR tx L = false := by unfold okR; rw [hmN]; exact decide_eq_false h18
          have hft : tokS tx L (aF tx L m) = ftI tx L (aF tx L m) := by unfold ftI; rw [if_pos (by omega)]
          refine x_int (y := zB (okR tx L)) (zB_f hok) ?_
          refine x_zret rfl ?_ dX7_reads_33
          exact ⟨((tokE tx L (aF tx L m) : Nat) : Int), ((tokS tx L (aF tx L m) : Nat) : Int), ((tokK tx L (aF tx L m) : Nat) : Int), v, m, f, rfl, rfl, (fun hh => by rw [hok] at hh; cases hh), (fun _ => by rw [hmN]; exact congrArg _ hft)⟩
  exact L14 _ 0 v0 it (fun j hj => absurd hj (Nat.not_lt_zero _)) (fun i hi => absurd hi (Nat.not_lt_zero _)) (Nat.lt_succ_self _)

theorem rH_r {b : Nat → Int} {n d c : Nat} (I : Inv b n d c) {p q w : Int} (hp : Z32 p) (hq : Z32 q) (hw : Z32 w) : -10 ≤ rH b p q w ∧ rH b p q w ≤ 3 ∧ (kH p q w = 0 ↔ -1 ≤ rH b p q w) := by
  unfold rH
  by_cases h : kH p q w = 0
  · rw [if_pos h]
    have hv : (0 ≤ p ∧ p ≤ 5) ∧ (0 ≤ q ∧ q ≤ 5) ∧ p ≠ q ∧ (-1 ≤ w ∧ w ≤ 3) := by
      unfold kH at h; split at h
      · assumption
      · cases h
    have := upN_r I (p := p.toNat) (q := q.toNat) (by omega) (by omega)
    exact ⟨by omega, by omega, fun _ => by omega, fun _ => h⟩
  · rw [if_neg h]; exact ⟨by omega, by omega, fun h2 => absurd h2 h, fun h2 => by omega⟩
theorem kO_r (n : Nat) (a b c d : Int) : kO n a b c d ≤ 3 := by unfold kO; (repeat' split) <;> omega
theorem kD_r (n : Nat) (a b : Int) : kD n a b ≤ 3 := by unfold kD; (repeat' split) <;> omega
theorem rC_r {k : Nat} {r : Int} (h3 : k ≤ 3) (h : 0 ≤ r) : -4 ≤ rC k r ∧ rC k r ≤ r ∧ (k = 0 ↔ 0 ≤ rC k r) := by
  unfold rC; (repeat' split) <;> omega
abbrev P_X7_tellsItem (G : XG) (mo : Nat) (ad : Nat → Nat) (qt : Bool) (sc : Nat → Int) (b : Nat → Int) (rf : Nat → Int) (it : Nat → Int) (n : Nat) (d : Nat) (c : Nat) (i : Nat) : Option Value → va_W → Prop := fun r ws => r = some (.int (zB (decide (teK b (fun j => it (5 * i + j)) = 0)))) ∧ ws = [(mo, moE ad qt sc), (ad 0, aI G 66 (teB b (fun j => it (5 * i + j)))), (ad 4, aI G 3 (rfC qt rf (teK b (fun j => it (5 * i + j))))), (ad 6, aI G 200 it)]
abbrev W_X7_tellsItem (G : XG) (E : XE) (mo : Nat) (ad : Nat → Nat) (qt : Bool) (sc : Nat → Int) (b : Nat → Int) (rf : Nat → Int) (it : Nat → Int) (n : Nat) (d : Nat) (c : Nat) (i : Nat) (pc : Nat) (lv : List (Nat × Value)) (st : List Value) (ws : va_W) : Prop := Wx G E (rmL 3) cX7_tellsItem 6 RX7 wsX7_tellsItem (some .boolean) "tellsItem" 0 0 (P_X7_tellsItem G mo ad qt sc b rf it n d c i) 0 0 pc lv st ws
theorem flX7_tellsItem_29 : Cond.fieldLink RX7 29 (TX7 12).1 (TX7 12).2.1 (TX7 12).2.2.1 ∈ wsX7_tellsItem := by decide +kernel
theorem inX7_tellsItem_X7 : ∀ w ∈ u_ws RX7 TX7 18, w ∈ wsX7_tellsItem := fun _ h => List.mem_cons_of_mem _ (List.mem_append_right _ h)
set_option maxHeartbeats 4000000 in
set_option maxRecDepth 100000 in
/-- tellsItem -/
theorem c_X7_tellsItem (G : XG) (mo : Nat) (ad : Nat → Nat) (qt : Bool) (sc : Nat → Int) (b rf it : Nat → Int) (n d c : Nat) (I : Inv b n d c) (i : Nat) (hi : i < 40) (hz : ∀ j, 1 ≤ j → j ≤ (if it (5 * i + 0) = 0 then 3 else if it (5 * i + 0) = 1 then 4 else 2) → Z32 (it (5 * i + j))) (h0 : 0 ≤ it (5 * i + 0) ∧ it (5 * i + 0) ≤ 2) : Con G yX7_tellsItem wsX7_tellsItem (rmL 3) 0 0 [.ref mo, .int (zI ((i : Nat) : Int))] ([(mo, moE ad qt sc), (ad 0, aI G 66 b), (ad 4, aI G 3 rf), (ad 6, aI G 200 it)]) (P_X7_tellsItem G mo ad qt sc b rf it n d c i) := by
  refine x_start (cc := cX7_tellsItem) (nL := 6) (ret := (some .boolean)) (by decide) rfl (Nat.le_of_ble_eq_true rfl) (fun E => ?_)
  show W_X7_tellsItem G E mo ad qt sc b rf it n d c i 0 [(0, .ref mo), (1, .int (zI ((i : Nat) : Int)))] [] ([(mo, moE ad qt sc), (ad 0, aI G 66 b), (ad 4, aI G 3 rf), (ad 6, aI G 200 it)])
  have hb := I.nat b
  refine x_aload_n 1 rfl dX7_tellsItem_0 0 rfl ?_
  refine x_get 4 rfl (v := .ref (ad 6)) 0 12 rfl rfl (by decide) inX7_tellsItem_X7 flX7_tellsItem_29 rfl dX7_tellsItem_1 ?_
  refine x_iconst 5 rfl dX7_tellsItem_4 (z := 5) (by decide) ?_
  refine x_iload_n 6 rfl dX7_tellsItem_5 1 rfl ?_
  refine x_imul 7 rfl dX7_tellsItem_6 (z := ((5 * i : Nat) : Int)) (by omega) ?_
  refine x_iconst 8 rfl dX7_tellsItem_7 (z := 1) (by decide) ?_
  refine x_iadd 9 rfl dX7_tellsItem_8 (z := ((5 * i + 1 : Nat) : Int)) (by omega) ?_
  refine x_iald 10 rfl 3 (5 * i + 1) rfl (⟨by omega, by omega⟩) (by decide) (v := it (5 * i + 1)) (rfl) dX7_tellsItem_9 ?_
  refine x_istore_n 11 rfl (lv' := [(2, .int (zI (it (5 * i + 1)))), (0, .ref mo), (1, .int (zI ((i : Nat) : Int)))]) dX7_tellsItem_10 (by decide) rfl ?_
  refine x_aload_n 12 rfl dX7_tellsItem_11 1 rfl ?_
  refine x_get 15 rfl (v := .ref (ad 6)) 0 12 rfl rfl (by decide) inX7_tellsItem_X7 flX7_tellsItem_29 rfl dX7_tellsItem_12 ?_
  refine x_iconst 16 rfl dX7_tellsItem_15 (z := 5) (by decide) ?_
  refine x_iload_n 17 rfl dX7_tellsItem_16 2 rfl ?_
  refine x_imul 18 rfl dX7_tellsItem_17 (z := ((5 * i : Nat) : Int)) (by omega) ?_
  refine x_iconst 19 rfl dX7_tellsItem_18 (z := 2) (by decide) ?_
  refine x_iadd 20 rfl dX7_tellsItem_19 (z := ((5 * i + 2 : Nat) : Int)) (by omega) ?_
  refine x_iald 21 rfl 3 (5 * i + 2) rfl (⟨by omega, by omega⟩) (by decide) (v := it (5 * i + 2)) (rfl) dX7_tellsItem_20 ?_
  refine x_istore_n 22 rfl (lv' := [(3, .int (zI (it (5 * i + 2)))), (2, .int (zI (it (5 * i + 1)))), (0, .ref mo), (1, .int (zI ((i : Nat) : Int)))]) dX7_tellsItem_21 (by decide) rfl ?_
  refine x_aload_n 23 rfl dX7_tellsItem_22 2 rfl ?_
  refine x_get 26 rfl (v := .ref (ad 6)) 0 12 rfl rfl (by decide) inX7_tellsItem_X7 flX7_tellsItem_29 rfl dX7_tellsItem_23 ?_
  refine x_iconst 27 rfl dX7_tellsItem_26 (z := 5) (by decide) ?_
  refine x_iload_n 28 rfl dX7_tellsItem_27 3 rfl ?_
  refine x_imul 29 rfl dX7_tellsItem_28 (z := ((5 * i : Nat) : Int)) (by omega) ?_
  refine x_iconst 30 rfl dX7_tellsItem_29 (z := 3) (by decide) ?_
  refine x_iadd 31 rfl dX7_tellsItem_30 (z := ((5 * i + 3 : Nat) : Int)) (by omega) ?_
  refine x_iald 32 rfl 3 (5 * i + 3) rfl (⟨by omega, by omega⟩) (by decide) (v := it (5 * i + 3)) (rfl) dX7_tellsItem_31 ?_
  refine x_istore 34 rfl (lv' := [(4, .int (zI (it (5 * i + 3)))), (3, .int (zI (it (5 * i + 2)))), (2, .int (zI (it (5 * i + 1)))), (0, .ref mo), (1, .int (zI ((i : Nat) : Int)))]) dX7_tellsItem_32 (by decide) rfl ?_
  refine x_aload_n 35 rfl dX7_tellsItem_34 3 rfl ?_
  refine x_get 38 rfl (v := .ref (ad 6)) 0 12 rfl rfl (by decide) inX7_tellsItem_X7 flX7_tellsItem_29 rfl dX7_tellsItem_35 ?_
  refine x_iconst 39 rfl dX7_tellsItem_38 (z := 5) (by decide) ?_
  refine x_iload_n 40 rfl dX7_tellsItem_39 4 rfl ?_
  refine x_imul 41 rfl dX7_tellsItem_40 (z := ((5 * i : Nat) : Int)) (by omega) ?_
  refine x_iconst 42 rfl dX7_tellsItem_41 (z := 4) (by decide) ?_
  refine x_iadd 43 rfl dX7_tellsItem_42 (z := ((5 * i + 4 : Nat) : Int)) (by omega) ?_
  refine x_iald 44 rfl 3 (5 * i + 4) rfl (⟨by omega, by omega⟩) (by decide) (v := it (5 * i + 4)) (rfl) dX7_tellsItem_43 ?_
  refine x_istore 46 rfl (lv' := [(5, .int (zI (it (5 * i + 4)))), (4, .int (zI (it (5 * i + 3)))), (3, .int (zI (it (5 * i + 2)))), (2, .int (zI (it (5 * i + 1)))), (0, .ref mo), (1, .int (zI ((i : Nat) : Int)))]) dX7_tellsItem_44 (by decide) rfl ?_
  refine x_aload_n 47 rfl dX7_tellsItem_46 4 rfl ?_
  refine x_get 50 rfl (v := .ref (ad 6)) 0 12 rfl rfl (by decide) inX7_tellsItem_X7 flX7_tellsItem_29 rfl dX7_tellsItem_47 ?_
  refine x_iconst 51 rfl dX7_tellsItem_50 (z := 5) (by decide) ?_
  refine x_iload_n 52 rfl dX7_tellsItem_51 5 rfl ?_
  refine x_imul 53 rfl dX7_tellsItem_52 (z := ((5 * i : Nat) : Int)) (by omega) ?_
  refine x_iald 54 rfl 3 (5 * i) rfl (⟨by omega, by omega⟩) (by decide) (v := it (5 * i + 0)) (rfl) dX7_tellsItem_53 ?_
  refine x_if_ne 57 rfl (tgt := 77) dX7_tellsItem_54 (by decide) (by omega) (fun h54 => ?_) (fun h54 => ?_)
  · skip
    have hz1 := hz 1 (by omega) (by split <;> (try split) <;> omega)
    have hz2 := hz 2 (by omega) (by split <;> (try split) <;> omega)
    refine x_aload_n 78 rfl dX7_tellsItem_77 4 rfl ?_
    refine x_get 81 rfl (v := .ref (ad 6)) 0 12 rfl rfl (by decide) inX7_tellsItem_X7 flX7_tellsItem_29 rfl dX7_tellsItem_78 ?_
    refine x_iconst 82 rfl dX7_tellsItem_81 (z := 5) (by decide) ?_
    refine x_iload_n 83 rfl dX7_tellsItem_82 5 rfl ?_
    refine x_imul 84 rfl dX7_tellsItem_83 (z := ((5 * i : Nat) : Int)) (by omega) ?_
    refine x_iald 85 rfl 3 (5 * i) rfl (⟨by omega, by omega⟩) (by decide) (v := it (5 * i + 0)) (rfl) dX7_tellsItem_84 ?_
    refine x_iconst 86 rfl dX7_tellsItem_85 (z := 1) (by decide) ?_
    refine x_icmp_ne 89 rfl (tgt := 110) dX7_tellsItem_86 (by decide) (by omega) (by decide) (fun h86 => ?_) (fun h86 => ?_)
    · skip
      refine x_aload_n 111 rfl dX7_tellsItem_110 4 rfl ?_
      refine x_iload_n 112 rfl dX7_tellsItem_111 3 rfl ?_
      refine x_iload_n 113 rfl dX7_tellsItem_112 2 rfl ?_
      refine x_callV 116 rfl (c_X7_dead G mo ad qt sc b rf n d c I (it (5 * i + 1)) (it (5 * i + 2)) (by omega) (by omega)) [0, 1, 2] rfl (by decide) 0 rfl rfl gX7_tellsItem_X7_dead rfl rfl rfl hd_X7_dead ⟨Nat.le_of_ble_eq_true rfl, Nat.le_of_ble_eq_true rfl⟩ (As := [.int (zI (it (5 * i + 1))), .int (zI (it (5 * i + 2)))]) (rest := []) rfl rfl (Nat.le_of_ble_eq_true rfl) dX7_tellsItem_113 ⟨Nat.zero_le _, Nat.zero_le _⟩ (fun v w hq => ?_)
      obtain ⟨rfl, rfl⟩ := hq
      refine ⟨rfl, ?_⟩
      refine x_ws (ws' := [(mo, moE ad qt sc), (ad 0, aI G 66 (bD b d (it (5 * i + 1)) (it (5 * i + 2)))), (ad 4, aI G 3 (rfC qt rf (kD d (it (5 * i + 1)) (it (5 * i + 2))))), (ad 6, aI G 200 it)]) (rfl) ?_
      have eK : teK b (fun j => it (5 * i + j)) = kD d (it (5 * i + 1)) (it (5 * i + 2)) := by unfold teK; rw [hb.2]; rw [if_neg (by omega), if_neg (by omega)]
      have eB : teB b (fun j => it (5 * i + j)) = bD b d (it (5 * i + 1)) (it (5 * i + 2)) := by unfold teB; rw [hb.2]; rw [if_neg (by omega), if_neg (by omega)]
      have hr := rC_r (k := kD d (it (5 * i + 1)) (it (5 * i + 2))) (r := ((d : Nat) : Int)) (kD_r _ _ _) (by omega)
      have hd6 := I.d6
      refine x_if_lt 119 rfl (tgt := 123) dX7_tellsItem_116 (by decide) (by omega) (fun h116 => ?_) (fun h116 => ?_)
      · skip
        refine x_iconst 124 rfl dX7_tellsItem_123 (z := 0) (by decide) ?_
        refine x_int (y := zB (decide (teK b (fun j => it (5 * i + j)) = 0))) (zB_f (decide_eq_false (by rw [eK]; omega))) ?_
        refine x_zret rfl ?_ dX7_tellsItem_124
        exact ⟨rfl, by rw [eK, eB]⟩
      · skip
        refine x_iconst 120 rfl dX7_tellsItem_119 (z := 1) (by decide) ?_
        refine x_goto dX7_tellsItem_120 (tgt := 124) (by decide) ?_
        refine x_int (y := zB (decide (teK b (fun j => it (5 * i + j)) = 0))) (zB_t (decide_eq_true (by rw [eK]; omega))) ?_
        refine x_zret rfl ?_ dX7_tellsItem_124
        exact ⟨rfl, by rw [eK, eB]⟩
    · skip
      have hz3 := hz 3 (by omega) (by rw [if_neg (by omega), if_pos (by omega)]; omega)
      have hz4 := hz 4 (by omega) (by rw [if_neg (by omega), if_pos (by omega)]; omega)
      refine x_aload_n 90 rfl dX7_tellsItem_89 4 rfl ?_
      refine x_iload_n 91 rfl dX7_tellsItem_90 3 rfl ?_
      refine x_iload_n 92 rfl dX7_tellsItem_91 2 rfl ?_
      refine x_iload 94 rfl dX7_tellsItem_92 1 rfl ?_
      refine x_iload 96 rfl dX7_tellsItem_94 0 rfl ?_
      refine x_callV 99 rfl (c_X7_one G mo ad qt sc b rf n d c I (it (5 * i + 1)) (it (5 * i + 2)) (it (5 * i + 3)) (it (5 * i + 4)) (by omega) (by omega) (by omega) (by omega)) [0, 1, 2] rfl (by decide) 0 rfl rfl gX7_tellsItem_X7_one rfl rfl rfl hd_X7_one ⟨Nat.le_of_ble_eq_true rfl, Nat.le_of_ble_eq_true rfl⟩ (As := [.int (zI (it (5 * i + 1))), .int (zI (it (5 * i + 2))), .int (zI (it (5 * i + 3))), .int (zI (it (5 * i + 4)))]) (rest := []) rfl rfl (Nat.le_of_ble_eq_true rfl) dX7_tellsItem_96 ⟨Nat.zero_le _, Nat.zero_le _⟩ (fun v w hq => ?_)
      obtain ⟨rfl, rfl⟩ := hq
      refine ⟨rfl, ?_⟩
      refine x_ws (ws' := [(mo, moE ad qt sc), (ad 0, aI G 66 (bO b n (it (5 * i + 1)) (it (5 * i + 2)) (it (5 * i + 3)) (it (5 * i + 4)))), (ad 4, aI G 3 (rfC qt rf (kO n (it (5 * i + 1)) (it (5 * i + 2)) (it (5 * i + 3)) (it (5 * i + 4))))), (ad 6, aI G 200 it)]) (rfl) ?_
      have eK : teK b (fun j => it (5 * i + j)) = kO n (it (5 * i + 1)) (it (5 * i + 2)) (it (5 * i + 3)) (it (5 * i + 4)) := by unfold teK; rw [hb.1]; rw [if_neg (by omega), if_pos (by omega)]
      have eB : teB b (fun j => it (5 * i + j)) = bO b n (it (5 * i + 1)) (it (5 * i + 2)) (it (5 * i + 3)) (it (5 * i + 4)) := by unfold teB; rw [hb.1]; rw [if_neg (by omega), if_pos (by omega)]
      have hr := rC_r (k := kO n (it (5 * i + 1)) (it (5 * i + 2)) (it (5 * i + 3)) (it (5 * i + 4))) (r := ((n : Nat) : Int)) (kO_r _ _ _ _ _) (by omega)
      have hn7 := I.n7
      refine x_if_lt 102 rfl (tgt := 106) dX7_tellsItem_99 (by decide) (by omega) (fun h99 => ?_) (fun h99 => ?_)
      · skip
        refine x_iconst 107 rfl dX7_tellsItem_106 (z := 0) (by decide) ?_
        refine x_goto dX7_tellsItem_107 (tgt := 124) (by decide) ?_
        refine x_int (y := zB (decide (teK b (fun j => it (5 * i + j)) = 0))) (zB_f (decide_eq_false (by rw [eK]; omega))) ?_
        refine x_zret rfl ?_ dX7_tellsItem_124
        exact ⟨rfl, by rw [eK, eB]⟩
      · skip
        refine x_iconst 103 rfl dX7_tellsItem_102 (z := 1) (by decide) ?_
        refine x_goto dX7_tellsItem_103 (tgt := 124) (by decide) ?_
        refine x_int (y := zB (decide (teK b (fun j => it (5 * i + j)) = 0))) (zB_t (decide_eq_true (by rw [eK]; omega))) ?_
        refine x_zret rfl ?_ dX7_tellsItem_124
        exact ⟨rfl, by rw [eK, eB]⟩
  · skip
    have hz1 := hz 1 (by omega) (by split <;> (try split) <;> omega)
    have hz2 := hz 2 (by omega) (by split <;> (try split) <;> omega)
    have hz3 := hz 3 (by omega) (by rw [if_pos (by omega)]; omega)
    refine x_aload_n 58 rfl dX7_tellsItem_57 4 rfl ?_
    refine x_iload_n 59 rfl dX7_tellsItem_58 3 rfl ?_
    refine x_iload_n 60 rfl dX7_tellsItem_59 2 rfl ?_
    refine x_iload 62 rfl dX7_tellsItem_60 1 rfl ?_
    refine x_callV 65 rfl (c_X7_hears G mo ad qt sc b rf n d c I (it (5 * i + 1)) (it (5 * i + 2)) (it (5 * i + 3)) (by omega) (by omega) (by omega)) [0, 1, 2] rfl (by decide) 0 rfl rfl gX7_tellsItem_X7_hears rfl rfl rfl hd_X7_hears ⟨Nat.le_of_ble_eq_true rfl, Nat.le_of_ble_eq_true rfl⟩ (As := [.int (zI (it (5 * i + 1))), .int (zI (it (5 * i + 2))), .int (zI (it (5 * i + 3)))]) (rest := []) rfl rfl (Nat.le_of_ble_eq_true rfl) dX7_tellsItem_62 ⟨Nat.zero_le _, Nat.zero_le _⟩ (fun v w hq => ?_)
    obtain ⟨rfl, rfl⟩ := hq
    refine ⟨rfl, ?_⟩
    refine x_ws (ws' := [(mo, moE ad qt sc), (ad 0, aI G 66 (bH b (it (5 * i + 1)) (it (5 * i + 2)) (it (5 * i + 3)))), (ad 4, aI G 3 (rfC qt rf (kH (it (5 * i + 1)) (it (5 * i + 2)) (it (5 * i + 3))))), (ad 6, aI G 200 it)]) (rfl) ?_
    have eK : teK b (fun j => it (5 * i + j)) = kH (it (5 * i + 1)) (it (5 * i + 2)) (it (5 * i + 3)) := by unfold teK; exact if_pos (by omega)
    have eB : teB b (fun j => it (5 * i + j)) = bH b (it (5 * i + 1)) (it (5 * i + 2)) (it (5 * i + 3)) := by unfold teB; exact if_pos (by omega)
    have hr : -10 ≤ rH b (it (5 * i + 1)) (it (5 * i + 2)) (it (5 * i + 3)) ∧ rH b (it (5 * i + 1)) (it (5 * i + 2)) (it (5 * i + 3)) ≤ 3 ∧ (kH (it (5 * i + 1)) (it (5 * i + 2)) (it (5 * i + 3)) = 0 ↔ -1 ≤ rH b (it (5 * i + 1)) (it (5 * i + 2)) (it (5 * i + 3))) := rH_r I hz1 hz2 hz3
    refine x_iconst 66 rfl dX7_tellsItem_65 (z := (-1)) (by decide) ?_
    refine x_icmp_lt 69 rfl (tgt := 73) dX7_tellsItem_66 (by decide) (by omega) (by decide) (fun h66 => ?_) (fun h66 => ?_)
    · skip
      refine x_iconst 74 rfl dX7_tellsItem_73 (z := 0) (by decide) ?_
      refine x_goto dX7_tellsItem_74 (tgt := 124) (by decide) ?_
      refine x_int (y := zB (decide (teK b (fun j => it (5 * i + j)) = 0))) (zB_f (decide_eq_false (by rw [eK]; omega))) ?_
      refine x_zret rfl ?_ dX7_tellsItem_124
      exact ⟨rfl, by rw [eK, eB]⟩
    · skip
      refine x_iconst 70 rfl dX7_tellsItem_69 (z := 1) (by decide) ?_
      refine x_goto dX7_tellsItem_70 (tgt := 124) (by decide) ?_
      refine x_int (y := zB (decide (teK b (fun j => it (5 * i + j)) = 0))) (zB_t (decide_eq_true (by rw [eK]; omega))) ?_
      refine x_zret rfl ?_ dX7_tellsItem_124
      exact ⟨rfl, by rw [eK, eB]⟩

