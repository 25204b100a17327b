abbrev P_X7_read (G : XG) (mo : Nat) (ad : Nat → Nat) (sc : Nat → Int) (b : Nat → Int) (rf : Nat → Int) (tx : Nat → Int) (it : Nat → Int) (as_ : Nat → Int) (L : Nat) : Option Value → va_W → Prop := fun r ws => ∃ (at1 st1 tk1 vl1 : Int) (mn : Nat) (it1 as1 : Nat → Int), r = some (.int (zI (rdR tx L))) ∧ ws = [(mo, moE ad false (zup (zup (zup (zup (zup (zup sc 0 ((L : Nat) : Int)) 1 at1) 2 st1) 3 tk1) 4 vl1) 5 ((mn : Nat) : Int))), (ad 0, aI G 66 (bRd b tx L)), (ad 4, aI G 3 rf), (ad 5, aI G 200 tx), (ad 6, aI G 200 it1), (ad 3, aI G 66 as1)]
abbrev W_X7_read (G : XG) (E : XE) (mo : Nat) (ad : Nat → Nat) (sc : Nat → Int) (b : Nat → Int) (rf : Nat → Int) (tx : Nat → Int) (it : Nat → Int) (as_ : Nat → Int) (L : Nat) (pc : Nat) (lv : List (Nat × Value)) (st : List Value) (ws : va_W) : Prop := Wx G E (rmL 4) cX7_read 3 RX7 wsX7_read (some .int) "read" 0 0 (P_X7_read G mo ad sc b rf tx it as_ L) 0 0 pc lv st ws
theorem flX7_read_7 : Cond.fieldLink RX7 7 (TX7 0).1 (TX7 0).2.1 (TX7 0).2.2.1 ∈ wsX7_read := by decide +kernel
theorem flX7_read_20 : Cond.fieldLink RX7 20 (TX7 3).1 (TX7 3).2.1 (TX7 3).2.2.1 ∈ wsX7_read := by decide +kernel
theorem flX7_read_47 : Cond.fieldLink RX7 47 (TX7 5).1 (TX7 5).2.1 (TX7 5).2.2.1 ∈ wsX7_read := by decide +kernel
theorem flX7_read_150 : Cond.fieldLink RX7 150 (TX7 9).1 (TX7 9).2.1 (TX7 9).2.2.1 ∈ wsX7_read := by decide +kernel
theorem flX7_read_167 : Cond.fieldLink RX7 167 (TX7 13).1 (TX7 13).2.1 (TX7 13).2.2.1 ∈ wsX7_read := by decide +kernel
theorem inX7_read_X7 : ∀ w ∈ u_ws RX7 TX7 18, w ∈ wsX7_read := fun _ h => List.mem_cons_of_mem _ (List.mem_append_right _ h)
set_option maxHeartbeats 4000000 in
set_option maxRecDepth 100000 in
/-- read -/
theorem c_X7_read (G : XG) (mo : Nat) (ad : Nat → Nat) (sc : Nat → Int) (b rf tx it as_ : Nat → Int) (L : Nat) (hL : sc 0 = ((L : Nat) : Int)) (hL2 : L ≤ 200) (ht : ∀ j, j < L → 0 ≤ tx j ∧ tx j ≤ 255) : Con G yX7_read wsX7_read (rmL 4) 0 0 [.ref mo] ([(mo, moE ad false sc), (ad 0, aI G 66 b), (ad 4, aI G 3 rf), (ad 5, aI G 200 tx), (ad 6, aI G 200 it), (ad 3, aI G 66 as_)]) (P_X7_read G mo ad sc b rf tx it as_ L) := by
  refine x_start (cc := cX7_read) (nL := 3) (ret := (some .int)) (by decide) rfl (Nat.le_of_ble_eq_true rfl) (fun E => ?_)
  show W_X7_read G E mo ad sc b rf tx it as_ L 0 [(0, .ref mo)] [] ([(mo, moE ad false sc), (ad 0, aI G 66 b), (ad 4, aI G 3 rf), (ad 5, aI G 200 tx), (ad 6, aI G 200 it), (ad 3, aI G 66 as_)])
  refine x_ws (ws' := [(mo, moE ad false (zup sc 0 ((L : Nat) : Int))), (ad 0, aI G 66 b), (ad 4, aI G 3 rf), (ad 5, aI G 200 tx), (ad 6, aI G 200 it), (ad 3, aI G 66 as_)]) (by rw [zup_self sc hL]) ?_
  refine x_aload_n 1 rfl dX7_read_0 0 rfl ?_
  refine x_callV 4 rfl (c_X7_reads G mo ad false sc tx it L hL2 ht) [0, 3, 4] rfl (by decide) 0 rfl rfl gX7_read_X7_reads rfl rfl rfl hd_X7_reads ⟨Nat.le_of_ble_eq_true rfl, Nat.le_of_ble_eq_true rfl⟩ (As := []) (rest := []) rfl rfl (Nat.le_of_ble_eq_true rfl) dX7_read_1 ⟨Nat.zero_le _, Nat.zero_le _⟩ (fun v w hq => ?_)
  obtain ⟨at1, st1, tk1, vl1, mn, it1, rfl, rfl, hA, hB⟩ := hq
  refine ⟨rfl, ?_⟩
  refine x_ws (ws' := [(mo, moE ad false (zup (zup (zup (zup (zup (zup sc 0 ((L : Nat) : Int)) 1 at1) 2 st1) 3 tk1) 4 vl1) 5 ((mn : Nat) : Int))), (ad 0, aI G 66 b), (ad 4, aI G 3 rf), (ad 5, aI G 200 tx), (ad 6, aI G 200 it1), (ad 3, aI G 66 as_)]) (rfl) ?_
  refine x_bif_ne 7 rfl (tgt := 15) dX7_read_4 (by decide) (fun h4 => ?_) (fun h4 => ?_)
  · skip
    have hmn := (hA h4).1
    have hit := (hA h4).2
    have hm40 := mN_le (tx := tx) hL2
    refine x_iconst 16 rfl dX7_read_15 (z := 0) (by decide) ?_
    refine x_istore_n 17 rfl (lv' := [(1, .int (zI 0)), (0, .ref mo)]) dX7_read_16 (by decide) rfl ?_
    have L17 : ∀ (f17 : Nat) (k : Nat) (f : Nat → Int) (hk : k ≤ 66) (hf : ∀ j, j < k → f j = b j), 66 - k < f17 → W_X7_read G E mo ad sc b rf tx it as_ L 17 [(0, .ref mo), (1, .int (zI ((k : Nat) : Int)))] [] ([(mo, moE ad false (zup (zup (zup (zup (zup (zup sc 0 ((L : Nat) : Int)) 1 at1) 2 st1) 3 tk1) 4 vl1) 5 ((mn : Nat) : Int))), (ad 0, aI G 66 b), (ad 4, aI G 3 rf), (ad 5, aI G 200 tx), (ad 6, aI G 200 it1), (ad 3, aI G 66 f)]) := by
      intro f17
      induction f17 with
      | zero => intro k f hk hf hf17; exact absurd hf17 (Nat.not_lt_zero _)
      | succ f17 ih17 =>
        intro k f hk hf hf17
        refine x_iload_n 18 rfl dX7_read_17 1 rfl ?_
        refine x_bipush 20 rfl dX7_read_18 (z := 66) (by decide) ?_
        refine x_icmp_ge 23 rfl (tgt := 41) dX7_read_20 (by decide) (by omega) (by decide) (fun h20 => ?_) (fun h20 => ?_)
        · skip
          have hfb : ∀ j, j < 66 → f j = b j := fun j hj => hf j (by omega)
          refine x_aload_n 42 rfl dX7_read_41 0 rfl ?_
          refine x_callV 45 rfl (c_X7_empties G mo ad false (zup (zup (zup (zup (zup (zup sc 0 ((L : Nat) : Int)) 1 at1) 2 st1) 3 tk1) 4 vl1) 5 ((mn : Nat) : Int)) b) [0, 1] rfl (by decide) 0 rfl rfl gX7_read_X7_empties rfl rfl rfl hd_X7_empties ⟨Nat.le_of_ble_eq_true rfl, Nat.le_of_ble_eq_true rfl⟩ (As := []) (rest := []) rfl rfl (Nat.le_of_ble_eq_true rfl) dX7_read_42 ⟨Nat.zero_le _, Nat.zero_le _⟩ (fun v w hq => ?_)
          obtain ⟨rfl, rfl⟩ := hq
          refine ⟨rfl, ?_⟩
          refine x_ws (ws' := [(mo, moE ad false (zup (zup (zup (zup (zup (zup sc 0 ((L : Nat) : Int)) 1 at1) 2 st1) 3 tk1) 4 vl1) 5 ((mn : Nat) : Int))), (ad 0, aI G 66 empB), (ad 4, aI G 3 rf), (ad 5, aI G 200 tx), (ad 6, aI G 200 it1), (ad 3, aI G 66 f)]) (rfl) ?_
          refine x_aload_n 46 rfl dX7_read_45 0 rfl ?_
          refine x_iconst 47 rfl dX7_read_46 (z := 1) (by decide) ?_
          refine x_int (y := (zB true)) (rfl) ?_
          refine x_put 50 rfl 0 5 rfl rfl (by decide) inX7_read_X7 flX7_read_47 tyX7_ok nmX7 rfl rfl (zB_nar _) (zB_fit _) (Nat.le_of_ble_eq_true rfl) (ws' := [(mo, moE ad true (zup (zup (zup (zup (zup (zup sc 0 ((L : Nat) : Int)) 1 at1) 2 st1) 3 tk1) 4 vl1) 5 ((mn : Nat) : Int))), (ad 0, aI G 66 empB), (ad 4, aI G 3 rf), (ad 5, aI G 200 tx), (ad 6, aI G 200 it1), (ad 3, aI G 66 f)]) rfl dX7_read_47 ?_
          refine x_iconst 51 rfl dX7_read_50 (z := 0) (by decide) ?_
          refine x_istore_n 52 rfl (lv' := [(1, .int (zI 0)), (0, .ref mo)]) dX7_read_51 (by decide) rfl ?_
          have L52 : ∀ (f52 : Nat) (k : Nat) (hk2 : k ≤ mn) (hac : ∀ j, j < k → teK (tbF tx L j) (itV tx L j) = 0), mn - k < f52 → W_X7_read G E mo ad sc b rf tx it as_ L 52 [(0, .ref mo), (1, .int (zI ((k : Nat) : Int)))] [] ([(mo, moE ad true (zup (zup (zup (zup (zup (zup sc 0 ((L : Nat) : Int)) 1 at1) 2 st1) 3 tk1) 4 vl1) 5 ((mn : Nat) : Int))), (ad 0, aI G 66 (tbF tx L k)), (ad 4, aI G 3 rf), (ad 5, aI G 200 tx), (ad 6, aI G 200 it1), (ad 3, aI G 66 f)]) := by
            intro f52
            induction f52 with
            | zero => intro k hk2 hac hf52; exact absurd hf52 (Nat.not_lt_zero _)
            | succ f52 ih52 =>
              intro k hk2 hac hf52
              refine x_iload_n 53 rfl dX7_read_52 1 rfl ?_
              refine x_aload_n 54 rfl dX7_read_53 0 rfl ?_
              refine x_get 57 rfl (v := .int (zI ((mn : Nat) : Int))) 0 13 rfl rfl (by decide) inX7_read_X7 flX7_read_167 rfl dX7_read_54 ?_
              refine x_icmp_ge 60 rfl (tgt := 74) dX7_read_57 (by decide) (by omega) (by omega) (fun h57 => ?_) (fun h57 => ?_)
              · skip
                refine x_aload_n 75 rfl dX7_read_74 0 rfl ?_
                refine x_iconst 76 rfl dX7_read_75 (z := 0) (by decide) ?_
                refine x_int (y := (zB false)) (rfl) ?_
                refine x_put 79 rfl 0 5 rfl rfl (by decide) inX7_read_X7 flX7_read_47 tyX7_ok nmX7 rfl rfl (zB_nar _) (zB_fit _) (Nat.le_of_ble_eq_true rfl) (ws' := [(mo, moE ad false (zup (zup (zup (zup (zup (zup sc 0 ((L : Nat) : Int)) 1 at1) 2 st1) 3 tk1) 4 vl1) 5 ((mn : Nat) : Int))), (ad 0, aI G 66 (tbF tx L k)), (ad 4, aI G 3 rf), (ad 5, aI G 200 tx), (ad 6, aI G 200 it1), (ad 3, aI G 66 f)]) rfl dX7_read_76 ?_
                refine x_iload_n 80 rfl dX7_read_79 1 rfl ?_
                refine x_aload_n 81 rfl dX7_read_80 0 rfl ?_
                refine x_get 84 rfl (v := .int (zI ((mn : Nat) : Int))) 0 13 rfl rfl (by decide) inX7_read_X7 flX7_read_167 rfl dX7_read_81 ?_
                refine x_icmp_ne 87 rfl (tgt := 92) dX7_read_84 (by decide) (by omega) (by omega) (fun h84 => ?_) (fun h84 => ?_)
                · skip
                  exact absurd h84 (by omega)
                · skip
                  refine x_aload_n 88 rfl dX7_read_87 0 rfl ?_
                  refine x_get 91 rfl (v := .int (zI ((mn : Nat) : Int))) 0 13 rfl rfl (by decide) inX7_read_X7 flX7_read_167 rfl dX7_read_88 ?_
                  refine x_iret rfl ?_ dX7_read_91
                  have hto : toN tx L = mN tx L := lsN_eq _ _ (Nat.zero_le _) (by omega) (fun j _ hj => decide_eq_true (hac j (by omega))) (fun h => absurd h (by omega))
                  have e : rdR tx L = ((mn : Nat) : Int) := by unfold rdR; rw [if_pos h4, if_pos hto, hmn]
                  have e2 : bRd b tx L = tbF tx L k := by unfold bRd; rw [if_pos ⟨h4, hto⟩, show k = mN tx L by omega]
                  exact ⟨at1, st1, tk1, vl1, mn, it1, f, by rw [e], by rw [e2]⟩
              · skip
                obtain ⟨n, d, I⟩ := Inv_tbF tx L k
                have hgd := mN_good (tx := tx) (L := L) (j := k) (by omega)
                have hi0 := itV_0 hgd
                have hik := hit k (by omega)
                have hi5 : it1 (5 * k + 0) = itV tx L k 0 := hik 0 (Nat.zero_le _)
                have hz : ∀ j, 1 ≤ j → j ≤ (if it1 (5 * k + 0) = 0 then 3 else if it1 (5 * k + 0) = 1 then 4 else 2) → Z32 (it1 (5 * k + j)) := fun j h1 h2 => by rw [hi5, ← hi0.2.2.2] at h2; rw [hik j h2]; have := itV_r ht hgd h1 h2; omega
                have h0 : 0 ≤ it1 (5 * k + 0) ∧ it1 (5 * k + 0) ≤ 2 := by omega
                have hte := te_congr (b := (tbF tx L k)) (it := (fun j => it1 (5 * k + j))) (it' := itV tx L k) (fun j hj => by have hj2 : j ≤ (if it1 (5 * k + 0) = 0 then 3 else if it1 (5 * k + 0) = 1 then 4 else 2) := hj; rw [hi5, ← hi0.2.2.2] at hj2; exact hik j hj2)
                refine x_aload_n 61 rfl dX7_read_60 0 rfl ?_
                refine x_iload_n 62 rfl dX7_read_61 1 rfl ?_
                refine x_callV 65 rfl (c_X7_tellsItem G mo ad true (zup (zup (zup (zup (zup (zup sc 0 ((L : Nat) : Int)) 1 at1) 2 st1) 3 tk1) 4 vl1) 5 ((mn : Nat) : Int)) (tbF tx L k) rf it1 n d 0 I k (by omega) hz h0) [0, 1, 2, 4] rfl (by decide) 0 rfl rfl gX7_read_X7_tellsItem rfl rfl rfl hd_X7_tellsItem ⟨Nat.le_of_ble_eq_true rfl, Nat.le_of_ble_eq_true rfl⟩ (As := [.int (zI ((k : Nat) : Int))]) (rest := []) rfl rfl (Nat.le_of_ble_eq_true rfl) dX7_read_62 ⟨Nat.zero_le _, Nat.zero_le _⟩ (fun v w hq => ?_)
                obtain ⟨rfl, rfl⟩ := hq
                refine ⟨rfl, ?_⟩
                refine x_ws (ws' := [(mo, moE ad true (zup (zup (zup (zup (zup (zup sc 0 ((L : Nat) : Int)) 1 at1) 2 st1) 3 tk1) 4 vl1) 5 ((mn : Nat) : Int))), (ad 0, aI G 66 (teB (tbF tx L k) (fun j => it1 (5 * k + j)))), (ad 4, aI G 3 (rfC true rf (teK (tbF tx L k) (fun j => it1 (5 * k + j))))), (ad 5, aI G 200 tx), (ad 6, aI G 200 it1), (ad 3, aI G 66 f)]) (rfl) ?_
                refine x_int (y := (zB (decide (teK (tbF tx L k) (itV tx L k) = 0)))) (by rw [hte.1]) ?_
                refine x_ws (ws' := [(mo, moE ad true (zup (zup (zup (zup (zup (zup sc 0 ((L : Nat) : Int)) 1 at1) 2 st1) 3 tk1) 4 vl1) 5 ((mn : Nat) : Int))), (ad 0, aI G 66 (teB (tbF tx L k) (itV tx L k))), (ad 4, aI G 3 rf), (ad 5, aI G 200 tx), (ad 6, aI G 200 it1), (ad 3, aI G 66 f)]) (by rw [rfC_q, hte.2]) ?_
                refine x_bif_eq 68 rfl (tgt := 74) dX7_read_65 (by decide) (fun h65 => ?_) (fun h65 => ?_)
                · have h65 := of_decide_eq_false h65
                  refine x_aload_n 75 rfl dX7_read_74 0 rfl ?_
                  refine x_iconst 76 rfl dX7_read_75 (z := 0) (by decide) ?_
                  refine x_int (y := (zB false)) (rfl) ?_
                  refine x_put 79 rfl 0 5 rfl rfl (by decide) inX7_read_X7 flX7_read_47 tyX7_ok nmX7 rfl rfl (zB_nar _) (zB_fit _) (Nat.le_of_ble_eq_true rfl) (ws' := [(mo, moE ad false (zup (zup (zup (zup (zup (zup sc 0 ((L : Nat) : Int)) 1 at1) 2 st1) 3 tk1) 4 vl1) 5 ((mn : Nat) : Int))), (ad 0, aI G 66 (teB (tbF tx L k) (itV tx L k))), (ad 4, aI G 3 rf), (ad 5, aI G 200 tx), (ad 6, aI G 200 it1), (ad 3, aI G 66 f)]) rfl dX7_read_76 ?_
                  refine x_iload_n 80 rfl dX7_read_79 1 rfl ?_
                  refine x_aload_n 81 rfl dX7_read_80 0 rfl ?_
                  refine x_get 84 rfl (v := .int (zI ((mn : Nat) : Int))) 0 13 rfl rfl (by decide) inX7_read_X7 flX7_read_167 rfl dX7_read_81 ?_
                  refine x_icmp_ne 87 rfl (tgt := 92) dX7_read_84 (by decide) (by omega) (by omega) (fun h84 => ?_) (fun h84 => ?_)
                  · skip
                    refine x_iconst 93 rfl dX7_read_92 (z := 0) (by decide) ?_
                    refine x_istore_n 94 rfl (lv' := [(2, .int (zI 0)), (0, .ref mo), (1, .int (zI ((k : Nat) : Int)))]) dX7_read_93 (by decide) rfl ?_
                    have L94 : ∀ (f94 : Nat) (i : Nat) (g : Nat → Int) (hi : i ≤ 66) (hgb : ∀ j, j < i → g j = b j), 66 - i < f94 → W_X7_read G E mo ad sc b rf tx it as_ L 94 [(0, .ref mo), (1, .int (zI ((k : Nat) : Int))), (2, .int (zI ((i : Nat) : Int)))] [] ([(mo, moE ad false (zup (zup (zup (zup (zup (zup sc 0 ((L : Nat) : Int)) 1 at1) 2 st1) 3 tk1) 4 vl1) 5 ((mn : Nat) : Int))), (ad 0, aI G 66 g), (ad 4, aI G 3 rf), (ad 5, aI G 200 tx), (ad 6, aI G 200 it1), (ad 3, aI G 66 f)]) := by
                      intro f94
                      induction f94 with
                      | zero => intro i g hi hgb hf94; exact absurd hf94 (Nat.not_lt_zero _)
                      | succ f94 ih94 =>
                        intro i g hi hgb hf94
                        refine x_iload_n 95 rfl dX7_read_94 2 rfl ?_
                        refine x_bipush 97 rfl dX7_read_95 (z := 66) (by decide) ?_
                        refine x_icmp_ge 100 rfl (tgt := 118) dX7_read_97 (by decide) (by omega) (by decide) (fun h97 => ?_) (fun h97 => ?_)
                        · skip
                          refine x_arr 1 rfl (fun j hj => hgb j (by omega)) (ws' := [(mo, moE ad false (zup (zup (zup (zup (zup (zup sc 0 ((L : Nat) : Int)) 1 at1) 2 st1) 3 tk1) 4 vl1) 5 ((mn : Nat) : Int))), (ad 0, aI G 66 b), (ad 4, aI G 3 rf), (ad 5, aI G 200 tx), (ad 6, aI G 200 it1), (ad 3, aI G 66 f)]) rfl ?_
                          refine x_sipush 121 rfl dX7_read_118 (z := (-1000)) (by decide) ?_
                          refine x_iload_n 122 rfl dX7_read_121 1 rfl ?_
                          refine x_isub 123 rfl dX7_read_122 (z := (-1000) - ((k : Nat) : Int)) (rfl) ?_
                          refine x_iret rfl ?_ dX7_read_123
                          have hto : toN tx L = k := lsN_eq _ _ (Nat.zero_le _) (by omega) (fun j _ hj => decide_eq_true (hac j hj)) (fun _ => decide_eq_false h65)
                          have e : rdR tx L = -1000 - ((k : Nat) : Int) := by unfold rdR; rw [if_pos h4, if_neg (by omega), hto]
                          have e2 : bRd b tx L = b := by unfold bRd; exact if_neg (fun hh => by have := hh.2; omega)
                          exact ⟨at1, st1, tk1, vl1, mn, it1, f, by rw [e], by rw [e2]⟩
                        · skip
                          refine x_aload_n 101 rfl dX7_read_100 0 rfl ?_
                          refine x_get 104 rfl (v := .ref (ad 0)) 0 0 rfl rfl (by decide) inX7_read_X7 flX7_read_7 rfl dX7_read_101 ?_
                          refine x_iload_n 105 rfl dX7_read_104 2 rfl ?_
                          refine x_aload_n 106 rfl dX7_read_105 0 rfl ?_
                          refine x_get 109 rfl (v := .ref (ad 3)) 0 3 rfl rfl (by decide) inX7_read_X7 flX7_read_20 rfl dX7_read_106 ?_
                          refine x_iload_n 110 rfl dX7_read_109 2 rfl ?_
                          refine x_iald 111 rfl 5 i rfl (⟨by omega, by omega⟩) (by decide) (v := b i) (hfb i (by omega)) dX7_read_110 ?_
                          refine x_iast 112 rfl 1 i rfl (⟨by omega, by omega⟩) (by decide) (ws' := [(mo, moE ad false (zup (zup (zup (zup (zup (zup sc 0 ((L : Nat) : Int)) 1 at1) 2 st1) 3 tk1) 4 vl1) 5 ((mn : Nat) : Int))), (ad 0, aI G 66 (zup g i (b i))), (ad 4, aI G 3 rf), (ad 5, aI G 200 tx), (ad 6, aI G 200 it1), (ad 3, aI G 66 f)]) (rfl) dX7_read_111 ?_
                          refine x_iinc 115 rfl (lv' := [(2, .int (zI ((i + 1 : Nat) : Int))), (0, .ref mo), (1, .int (zI ((k : Nat) : Int)))]) dX7_read_112 2 rfl (b := ((i + 1 : Nat) : Int)) (by omega) (by decide) rfl ?_
                          refine x_goto dX7_read_115 (tgt := 94) (by decide) ?_
                          refine x_lv [1, 2, 0] rfl ?_
                          exact ih94 (i + 1) (zup g i (b i)) (by omega) (fun j hj => by
                              by_cases e : j = i
                              · subst e; rw [zup_s]
                              · rw [zup_n _ _ e]; exact hgb j (by omega)) (by omega)
                    refine x_lv [1, 2, 0] rfl ?_
                    exact L94 _ 0 (teB (tbF tx L k) (itV tx L k)) (by omega) (fun j hj => absurd hj (Nat.not_lt_zero _)) (Nat.lt_succ_self _)
                  · skip
                    exact absurd h84 (by omega)
                · have h65 := of_decide_eq_true h65
                  refine x_iinc 71 rfl (lv' := [(1, .int (zI ((k + 1 : Nat) : Int))), (0, .ref mo)]) dX7_read_68 1 rfl (b := ((k + 1 : Nat) : Int)) (by omega) (by decide) rfl ?_
                  refine x_goto dX7_read_71 (tgt := 52) (by decide) ?_
                  refine x_lv [1, 0] rfl ?_
                  exact ih52 (k + 1) (by omega) (fun j hj => by by_cases e : j = k; (subst e; exact h65); exact hac j (by omega)) (by omega)
          refine x_lv [1, 0] rfl ?_
          exact L52 _ 0 (Nat.zero_le _) (fun j hj => absurd hj (Nat.not_lt_zero _)) (Nat.lt_succ_self _)
        · skip
          refine x_aload_n 24 rfl dX7_read_23 0 rfl ?_
          refine x_get 27 rfl (v := .ref (ad 3)) 0 3 rfl rfl (by decide) inX7_read_X7 flX7_read_20 rfl dX7_read_24 ?_
          refine x_iload_n 28 rfl dX7_read_27 1 rfl ?_
          refine x_aload_n 29 rfl dX7_read_28 0 rfl ?_
          refine x_get 32 rfl (v := .ref (ad 0)) 0 0 rfl rfl (by decide) inX7_read_X7 flX7_read_7 rfl dX7_read_29 ?_
          refine x_iload_n 33 rfl dX7_read_32 1 rfl ?_
          refine x_iald 34 rfl 1 k rfl (⟨by omega, by omega⟩) (by decide) (v := b k) (rfl) dX7_read_33 ?_
          refine x_iast 35 rfl 5 k rfl (⟨by omega, by omega⟩) (by decide) (ws' := [(mo, moE ad false (zup (zup (zup (zup (zup (zup sc 0 ((L : Nat) : Int)) 1 at1) 2 st1) 3 tk1) 4 vl1) 5 ((mn : Nat) : Int))), (ad 0, aI G 66 b), (ad 4, aI G 3 rf), (ad 5, aI G 200 tx), (ad 6, aI G 200 it1), (ad 3, aI G 66 (zup f k (b k)))]) (rfl) dX7_read_34 ?_
          refine x_iinc 38 rfl (lv' := [(1, .int (zI ((k + 1 : Nat) : Int))), (0, .ref mo)]) dX7_read_35 1 rfl (b := ((k + 1 : Nat) : Int)) (by omega) (by decide) rfl ?_
          refine x_goto dX7_read_38 (tgt := 17) (by decide) ?_
          refine x_lv [1, 0] rfl ?_
          exact ih17 (k + 1) (zup f k (b k)) (by omega) (fun j hj => by
              by_cases e : j = k
              · subst e; rw [zup_s]
              · rw [zup_n _ _ e]; exact hf j (by omega)) (by omega)
    refine x_lv [1, 0] rfl ?_
    exact L17 _ 0 as_ (by omega) (fun j hj => absurd hj (Nat.not_lt_zero _)) (Nat.lt_succ_self _)
  · skip
    have hst := hB h4
    refine x_bipush 9 rfl dX7_read_7 (z := (-10)) (by decide) ?_
    refine x_aload_n 10 rfl dX7_read_9 0 rfl ?_
    refine x_get 13 rfl (v := .int (zI st1)) 0 9 rfl rfl (by decide) inX7_read_X7 flX7_read_150 rfl dX7_read_10 ?_
    refine x_isub 14 rfl dX7_read_13 (z := (-10) - st1) (rfl) ?_
    refine x_iret rfl ?_ dX7_read_14
    have e : rdR tx L = -10 - st1 := by unfold rdR; rw [if_neg (by rw [h4]; decide), hst]
    have e2 : bRd b tx L = b := by unfold bRd; exact if_neg (fun hh => by rw [h4] at hh; cases hh.1)
    exact ⟨at1, st1, tk1, vl1, mn, it1, as_, by rw [e], by rw [e2]⟩

abbrev P_X7_type (G : XG) (mo : Nat) (ad : Nat → Nat) (qt : Bool) (sc : Nat → Int) (rf : Nat → Int) (tx : Nat → Int) (L : Nat) (v : Int64) (n : Int) : Option Value → va_W → Prop := fun r ws => ∃ tx' : Nat → Int, r = some (.int (zI (rC (kY L n) ((L : Int) + n)))) ∧ ws = [(mo, moE ad qt (zup sc 0 (if kY L n = 0 then (L : Int) + n else (L : Int)))), (ad 4, aI G 3 (rfC qt rf (kY L n))), (ad 5, aI G 200 tx')] ∧ (∀ j, j < 200 → tx' j = (if kY L n = 0 then tyT tx L v n.toNat else tx) j)
abbrev W_X7_type (G : XG) (E : XE) (mo : Nat) (ad : Nat → Nat) (qt : Bool) (sc : Nat → Int) (rf : Nat → Int) (tx : Nat → Int) (L : Nat) (v : Int64) (n : Int) (pc : Nat) (lv : List (Nat × Value)) (st : List Value) (ws : va_W) : Prop := Wx G E (rmL 2) cX7_type 5 RX7 wsX7_type (some .int) "type" 0 0 (P_X7_type G mo ad qt sc rf tx L v n) 0 0 pc lv st ws
theorem flX7_type_26 : Cond.fieldLink RX7 26 (TX7 6).1 (TX7 6).2.1 (TX7 6).2.2.1 ∈ wsX7_type := by decide +kernel
theorem flX7_type_131 : Cond.fieldLink RX7 131 (TX7 7).1 (TX7 7).2.1 (TX7 7).2.2.1 ∈ wsX7_type := by decide +kernel
theorem inX7_type_X7 : ∀ w ∈ u_ws RX7 TX7 18, w ∈ wsX7_type := fun _ h => List.mem_cons_of_mem _ (List.mem_append_right _ h)
theorem wX7_type_cl129 : Cond.constantLong RX7 129 (zL 8) ∈ wsX7_type := by decide +kernel
theorem wX7_type_cl135 : Cond.constantLong RX7 135 (zL 255) ∈ wsX7_type := by decide +kernel
set_option maxHeartbeats 4000000 in
set_option maxRecDepth 100000 in
/-- type -/
theorem c_X7_type (G : XG) (mo : Nat) (ad : Nat → Nat) (qt : Bool) (sc : Nat → Int) (rf tx : Nat → Int) (L : Nat) (hL : sc 0 = ((L : Nat) : Int)) (hL2 : L ≤ 200) (v : Int64) (n : Int) (h1 : Z32 n) : Con G yX7_type wsX7_type (rmL 2) 0 0 [.ref mo, .long v, .int (zI n)] ([(mo, moE ad qt sc), (ad 4, aI G 3 rf), (ad 5, aI G 200 tx)]) (P_X7_type G mo ad qt sc rf tx L v n) := by
  refine x_start (cc := cX7_type) (nL := 5) (ret := (some .int)) (by decide) rfl (Nat.le_of_ble_eq_true rfl) (fun E => ?_)
  show W_X7_type G E mo ad qt sc rf tx L v n 0 [(0, .ref mo), (1, .long v), (3, .int (zI n))] [] ([(mo, moE ad qt sc), (ad 4, aI G 3 rf), (ad 5, aI G 200 tx)])
  refine x_ws (ws' := [(mo, moE ad qt (zup sc 0 ((L : Nat) : Int))), (ad 4, aI G 3 rf), (ad 5, aI G 200 tx)]) (by rw [zup_self sc hL]) ?_
  refine x_iload_n 1 rfl dX7_type_0 2 rfl ?_
  refine x_i2l 2 rfl dX7_type_1 (z := (zL n)) (zI_i2l (by omega)) ?_
  refine x_lconst 3 rfl dX7_type_2 (z := 1) (by decide) ?_
  refine x_ldc2 6 rfl (v := zL 8) wX7_type_cl129 dX7_type_3 ?_
  refine x_callS0 9 rfl (c_X7_in G n 1 8 (by omega) (by omega) (by decide)) (fun _ _ h => h.2) gX7_type_X7_in rfl rfl rfl hd_X7_in ⟨Nat.le_of_ble_eq_true rfl, Nat.le_of_ble_eq_true rfl⟩ (As := [.long (zL n), .long (zL 1), .long (zL 8)]) (rest := []) rfl rfl (Nat.le_of_ble_eq_true rfl) dX7_type_6 ⟨Nat.zero_le _, Nat.zero_le _⟩ (fun v hq => ?_)
  obtain ⟨rfl, -⟩ := hq
  refine x_bif_ne 12 rfl (tgt := 17) dX7_type_9 (by decide) (fun h9 => ?_) (fun h9 => ?_)
  · have h9 := of_decide_eq_true h9
    refine x_aload_n 18 rfl dX7_type_17 0 rfl ?_
    refine x_get 21 rfl (v := .int (zI ((L : Nat) : Int))) 0 7 rfl rfl (by decide) inX7_type_X7 flX7_type_131 rfl dX7_type_18 ?_
    refine x_iload_n 22 rfl dX7_type_21 2 rfl ?_
    refine x_iadd 23 rfl dX7_type_22 (z := ((L : Nat) : Int) + n) (rfl) ?_
    refine x_sipush 26 rfl dX7_type_23 (z := 200) (by decide) ?_
    refine x_icmp_le 29 rfl (tgt := 34) dX7_type_26 (by decide) (by omega) (by decide) (fun h26 => ?_) (fun h26 => ?_)
    · skip
      obtain ⟨n, rfl⟩ : ∃ zk : Nat, n = (zk : Int) := ⟨Int.toNat n, by omega⟩
      refine x_ws (ws' := [(mo, moE ad qt (zup sc 0 ((L + (n - n) : Nat) : Int))), (ad 4, aI G 3 rf), (ad 5, aI G 200 tx)]) (by rw [Nat.sub_self, Nat.add_zero]) ?_
      refine x_iload_n 35 rfl dX7_type_34 2 rfl ?_
      refine x_iconst 36 rfl dX7_type_35 (z := 1) (by decide) ?_
      refine x_isub 37 rfl dX7_type_36 (z := ((n : Nat) : Int) - 1) (rfl) ?_
      refine x_istore 39 rfl (lv' := [(4, .int (zI (((n : Nat) : Int) - 1))), (0, .ref mo), (1, .long v), (3, .int (zI ((n : Nat) : Int)))]) dX7_type_37 (by decide) rfl ?_
      have L39 : ∀ (f39 : Nat) (k : Nat) (f : Nat → Int) (hk : k ≤ n) (hf : ∀ j, j < 200 → f j = if L ≤ j ∧ j < L + (n - k) then byI v (n - 1 - (j - L)) else tx j), k < f39 → W_X7_type G E mo ad qt sc rf tx L v n 39 [(0, .ref mo), (1, .long v), (3, .int (zI ((n : Nat) : Int))), (4, .int (zI (((k : Nat) : Int) - 1)))] [] ([(mo, moE ad qt (zup sc 0 ((L + (n - k) : Nat) : Int))), (ad 4, aI G 3 rf), (ad 5, aI G 200 f)]) := by
        intro f39
        induction f39 with
        | zero => intro k f hk hf hf39; exact absurd hf39 (Nat.not_lt_zero _)
        | succ f39 ih39 =>
          intro k f hk hf hf39
          refine x_iload 41 rfl dX7_type_39 3 rfl ?_
          refine x_if_lt 44 rfl (tgt := 81) dX7_type_41 (by decide) (by omega) (fun h41 => ?_) (fun h41 => ?_)
          · skip
            refine x_aload_n 82 rfl dX7_type_81 0 rfl ?_
            refine x_get 85 rfl (v := .int (zI ((L + (n - k) : Nat) : Int))) 0 7 rfl rfl (by decide) inX7_type_X7 flX7_type_131 rfl dX7_type_82 ?_
            refine x_iret rfl ?_ dX7_type_85
            have hk0 : k = 0 := by omega
            have hk' : kY L n = 0 := by unfold kY; rw [if_pos (by omega), if_neg (by omega)]
            exact ⟨f, by rw [hk', hk0]; rfl, by rw [hk', hk0]; rfl, fun j hj => by rw [hk', hf j hj, hk0]; rfl⟩
          · skip
            refine x_aload_n 45 rfl dX7_type_44 0 rfl ?_
            refine x_get 48 rfl (v := .ref (ad 5)) 0 6 rfl rfl (by decide) inX7_type_X7 flX7_type_26 rfl dX7_type_45 ?_
            refine x_aload_n 49 rfl dX7_type_48 0 rfl ?_
            refine x_get 52 rfl (v := .int (zI ((L + (n - k) : Nat) : Int))) 0 7 rfl rfl (by decide) inX7_type_X7 flX7_type_131 rfl dX7_type_49 ?_
            refine x_lload_n 53 rfl dX7_type_52 1 rfl ?_
            refine x_bipush 55 rfl dX7_type_53 (z := 8) (by decide) ?_
            refine x_iload 57 rfl dX7_type_55 3 rfl ?_
            refine x_imul 58 rfl dX7_type_57 (z := ((8 * (k - 1) : Nat) : Int)) (by omega) ?_
            refine x_lshr 59 rfl dX7_type_58 (z := (v >>> ((zI ((8 * (k - 1) : Nat) : Int)).toInt64 &&& 63))) (rfl) ?_
            refine x_ldc2 62 rfl (v := zL 255) wX7_type_cl135 dX7_type_59 ?_
            refine x_land 63 rfl dX7_type_62 (z := ((v >>> ((zI ((8 * (k - 1) : Nat) : Int)).toInt64 &&& 63)) &&& zL 255)) (rfl) ?_
            refine x_l2i 64 rfl dX7_type_63 (z := (zI (byI v (k - 1)))) (byI_z v (k - 1)) ?_
            refine x_iast 65 rfl 2 (L + (n - k)) rfl (⟨by omega, by omega⟩) (by decide) (ws' := [(mo, moE ad qt (zup sc 0 ((L + (n - k) : Nat) : Int))), (ad 4, aI G 3 rf), (ad 5, aI G 200 (zup f (L + (n - k)) (byI v (k - 1))))]) (rfl) dX7_type_64 ?_
            refine x_aload_n 66 rfl dX7_type_65 0 rfl ?_
            refine x_dup 67 rfl dX7_type_66 rfl ?_
            refine x_get 70 rfl (v := .int (zI ((L + (n - k) : Nat) : Int))) 0 7 rfl rfl (by decide) inX7_type_X7 flX7_type_131 rfl dX7_type_67 ?_
            refine x_iconst 71 rfl dX7_type_70 (z := 1) (by decide) ?_
            refine x_iadd 72 rfl dX7_type_71 (z := ((L + (n - k) + 1 : Nat) : Int)) (by omega) ?_
            refine x_put 75 rfl 0 7 rfl rfl (by decide) inX7_type_X7 flX7_type_131 tyX7_ok nmX7 rfl rfl rfl rfl (Nat.le_of_ble_eq_true rfl) (ws' := [(mo, moE ad qt (zup sc 0 ((L + (n - k) + 1 : Nat) : Int))), (ad 4, aI G 3 rf), (ad 5, aI G 200 (zup f (L + (n - k)) (byI v (k - 1))))]) rfl dX7_type_72 ?_
            refine x_ws (ws' := [(mo, moE ad qt (zup sc 0 ((L + (n - (k - 1)) : Nat) : Int))), (ad 4, aI G 3 rf), (ad 5, aI G 200 (zup f (L + (n - k)) (byI v (k - 1))))]) (by rw [show ((L + (n - k) + 1 : Nat) : Int) = ((L + (n - (k - 1)) : Nat) : Int) by omega]) ?_
            refine x_iinc 78 rfl (lv' := [(4, .int (zI (((k : Nat) : Int) - 1 - 1))), (0, .ref mo), (1, .long v), (3, .int (zI ((n : Nat) : Int)))]) dX7_type_75 3 rfl (b := ((k : Nat) : Int) - 1 - 1) (by omega) (by decide) rfl ?_
            refine x_goto dX7_type_78 (tgt := 39) (by decide) ?_
            refine x_lve (congrArg (fun zz : Int => ([(4, .int (zI zz)), (0, .ref mo), (1, .long v), (3, .int (zI ((n : Nat) : Int)))] : List (Nat × Value))) (by omega : ((k : Nat) : Int) - 1 - 1 = ((k - 1 : Nat) : Int) - 1)) ?_
            refine x_lv [1, 2, 3, 0] rfl ?_
            exact ih39 (k - 1) (zup f (L + (n - k)) (byI v (k - 1))) (by omega) (fun j hj => by
                by_cases e : j = L + (n - k)
                · subst e; rw [zup_s, if_pos (by omega)]; exact congrArg (byI v) (by omega)
                · rw [zup_n _ _ e, hf j hj]; by_cases e2 : L ≤ j ∧ j < L + (n - k)
                  · rw [if_pos e2, if_pos (by omega)]
                  · rw [if_neg e2, if_neg (by omega)]) (by omega)
      refine x_lv [1, 2, 3, 0] rfl ?_
      exact L39 _ n tx (by omega) (fun j _ => (if_neg (by omega)).symm) (Nat.lt_succ_self _)
    · skip
      refine x_aload_n 30 rfl dX7_type_29 0 rfl ?_
      refine x_callV 33 rfl (c_X7_full G mo ad qt (zup sc 0 ((L : Nat) : Int)) rf) [0, 1] rfl (by decide) 0 rfl rfl gX7_type_X7_full rfl rfl rfl hd_X7_full ⟨Nat.le_of_ble_eq_true rfl, Nat.le_of_ble_eq_true rfl⟩ (As := []) (rest := []) rfl rfl (Nat.le_of_ble_eq_true rfl) dX7_type_30 ⟨Nat.zero_le _, Nat.zero_le _⟩ (fun v w hq => ?_)
      obtain ⟨rfl, rfl⟩ := hq
      refine ⟨rfl, ?_⟩
      refine x_ws (ws' := [(mo, moE ad qt (zup sc 0 ((L : Nat) : Int))), (ad 4, aI G 3 (rfU qt rf 2)), (ad 5, aI G 200 tx)]) (rfl) ?_
      refine x_iret rfl ?_ dX7_type_33
      have hk : kY L n = 3 := by unfold kY; rw [if_pos (by omega), if_pos (by omega)]
      exact ⟨tx, by rw [hk]; rfl, by rw [hk]; rfl, fun j _ => by rw [hk]; rfl⟩
  · have h9 := of_decide_eq_false h9
    refine x_aload_n 13 rfl dX7_type_12 0 rfl ?_
    refine x_callV 16 rfl (c_X7_bad G mo ad qt (zup sc 0 ((L : Nat) : Int)) rf) [0, 1] rfl (by decide) 0 rfl rfl gX7_type_X7_bad rfl rfl rfl hd_X7_bad ⟨Nat.le_of_ble_eq_true rfl, Nat.le_of_ble_eq_true rfl⟩ (As := []) (rest := []) rfl rfl (Nat.le_of_ble_eq_true rfl) dX7_type_13 ⟨Nat.zero_le _, Nat.zero_le _⟩ (fun v w hq => ?_)
    obtain ⟨rfl, rfl⟩ := hq
    refine ⟨rfl, ?_⟩
    refine x_ws (ws' := [(mo, moE ad qt (zup sc 0 ((L : Nat) : Int))), (ad 4, aI G 3 (rfU qt rf 0)), (ad 5, aI G 200 tx)]) (rfl) ?_
    refine x_iret rfl ?_ dX7_type_16
    have hk : kY L n = 1 := by unfold kY; exact if_neg (by omega)
    exact ⟨tx, by rw [hk]; rfl, by rw [hk]; rfl, fun j _ => by rw [hk]; rfl⟩

abbrev P_X7_clear (G : XG) (mo : Nat) (ad : Nat → Nat) (qt : Bool) (sc : Nat → Int) (L : Nat) : Option Value → va_W → Prop := fun r ws => r = some (.int (zI ((L : Nat) : Int))) ∧ ws = [(mo, moE ad qt (zup sc 0 0))]
abbrev W_X7_clear (G : XG) (E : XE) (mo : Nat) (ad : Nat → Nat) (qt : Bool) (sc : Nat → Int) (L : Nat) (pc : Nat) (lv : List (Nat × Value)) (st : List Value) (ws : va_W) : Prop := Wx G E (rmL 0) cX7_clear 2 RX7 wsX7_clear (some .int) "clear" 0 0 (P_X7_clear G mo ad qt sc L) 0 0 pc lv st ws
theorem flX7_clear_131 : Cond.fieldLink RX7 131 (TX7 7).1 (TX7 7).2.1 (TX7 7).2.2.1 ∈ wsX7_clear := by decide +kernel
theorem inX7_clear_X7 : ∀ w ∈ u_ws RX7 TX7 18, w ∈ wsX7_clear := fun _ h => List.mem_cons_of_mem _ (List.mem_append_right _ h)
set_option maxHeartbeats 4000000 in
set_option maxRecDepth 100000 in
/-- clear -/
theorem c_X7_clear (G : XG) (mo : Nat) (ad : Nat → Nat) (qt : Bool) (sc : Nat → Int) (L : Nat) (hL : sc 0 = ((L : Nat) : Int)) : Con G yX7_clear wsX7_clear (rmL 0) 0 0 [.ref mo] ([(mo, moE ad qt sc)]) (P_X7_clear G mo ad qt sc L) := by
  refine x_start (cc := cX7_clear) (nL := 2) (ret := (some .int)) (by decide) rfl (Nat.le_of_ble_eq_true rfl) (fun E => ?_)
  show W_X7_clear G E mo ad qt sc L 0 [(0, .ref mo)] [] ([(mo, moE ad qt sc)])
  refine x_aload_n 1 rfl dX7_clear_0 0 rfl ?_
  refine x_get 4 rfl (v := .int (zI (sc 0))) 0 7 rfl rfl (by decide) inX7_clear_X7 flX7_clear_131 rfl dX7_clear_1 ?_
  refine x_istore_n 5 rfl (lv' := [(1, .int (zI (sc 0))), (0, .ref mo)]) dX7_clear_4 (by decide) rfl ?_
  refine x_aload_n 6 rfl dX7_clear_5 1 rfl ?_
  refine x_iconst 7 rfl dX7_clear_6 (z := 0) (by decide) ?_
  refine x_put 10 rfl 0 7 rfl rfl (by decide) inX7_clear_X7 flX7_clear_131 tyX7_ok nmX7 rfl rfl rfl rfl (Nat.le_of_ble_eq_true rfl) (ws' := [(mo, moE ad qt (zup sc 0 0))]) rfl dX7_clear_7 ?_
  refine x_iload_n 11 rfl dX7_clear_10 0 rfl ?_
  refine x_iret rfl ?_ dX7_clear_11
  exact ⟨by rw [← hL], rfl⟩

