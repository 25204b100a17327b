abbrev P_X6_count (G : XG) (go : Nat) (ga : Nat → Nat) (b : Nat → Int) (n : Nat) (d : Nat) (c : Nat) (gf : Nat → Nat → Int) (wn : Nat) (sp : Nat) (ia : Nat) (ka : Nat) (tq : Nat) (wh : Nat) (nm : Nat) (ra : Nat) (rf : Nat → Int) (ta : Nat → Nat) (sc : Nat → Int) (L : Nat) (what : Int) : Option Value → va_W → Prop := fun r ws => r = some (.int (zI (rC (kN4 what) (cntN b ((L : Nat) : Int) what.toNat)))) ∧ ws = [(wn, .inr (5, [.ref go, .ref sp, .ref ia, .ref ka, .ref tq, .ref wh, .ref nm, .ref ra])), (ra, aI G 3 (rfC false rf (kN4 what))), (tq, txE ta (zup sc 0 ((L : Nat) : Int))), (go, goE ga ((n : Nat) : Int) ((d : Nat) : Int) ((c : Nat) : Int)), (ga 0, aI G 36 (gf 0)), (ga 1, aI G 7 (gf 1)), (ga 2, aI G 7 (gf 2)), (ga 3, aI G 7 (gf 3)), (ga 4, aI G 7 (gf 4)), (ga 5, aI G 6 (gf 5)), (ga 6, aI G 6 (gf 6)), (ga 7, aI G 8 (gf 7))]
abbrev W_X6_count (G : XG) (E : XE) (go : Nat) (ga : Nat → Nat) (b : Nat → Int) (n : Nat) (d : Nat) (c : Nat) (gf : Nat → Nat → Int) (wn : Nat) (sp : Nat) (ia : Nat) (ka : Nat) (tq : Nat) (wh : Nat) (nm : Nat) (ra : Nat) (rf : Nat → Int) (ta : Nat → Nat) (sc : Nat → Int) (L : Nat) (what : Int) (pc : Nat) (lv : List (Nat × Value)) (st : List Value) (ws : va_W) : Prop := Wx G E (rmL 1) cX6_count 2 RX6 wsX6_count (some .int) "count" 0 0 (P_X6_count G go ga b n d c gf wn sp ia ka tq wh nm ra rf ta sc L what) 0 0 pc lv st ws
theorem flX6_count_10 : Cond.fieldLink RX6 10 (TX6 0).1 (TX6 0).2.1 (TX6 0).2.2.1 ∈ wsX6_count := by decide +kernel
theorem flX6_count_30 : Cond.fieldLink RX6 30 (TX6 4).1 (TX6 4).2.1 (TX6 4).2.2.1 ∈ wsX6_count := by decide +kernel
theorem flX6_count_97 : Cond.fieldLink RX6 97 (TX3 0).1 (TX3 0).2.1 (TX3 0).2.2.1 ∈ wsX6_count := by decide +kernel
theorem flX6_count_119 : Cond.fieldLink RX6 119 (TX0 2).1 (TX0 2).2.1 (TX0 2).2.2.1 ∈ wsX6_count := by decide +kernel
theorem flX6_count_132 : Cond.fieldLink RX6 132 (TX0 0).1 (TX0 0).2.1 (TX0 0).2.2.1 ∈ wsX6_count := by decide +kernel
theorem flX6_count_181 : Cond.fieldLink RX6 181 (TX0 1).1 (TX0 1).2.1 (TX0 1).2.2.1 ∈ wsX6_count := by decide +kernel
theorem inX6_count_X0 : ∀ w ∈ u_ws RX0 TX0 11, w ∈ wsX6_count := fun _ h => List.mem_cons_of_mem _ (List.mem_append_left _ (List.mem_append_right _ h))
theorem inX6_count_X3 : ∀ w ∈ u_ws RX3 TX3 9, w ∈ wsX6_count := fun _ h => List.mem_cons_of_mem _ (List.mem_append_right _ h)
theorem inX6_count_X6 : ∀ w ∈ u_ws RX6 TX6 8, w ∈ wsX6_count := fun _ h => List.mem_cons_of_mem _ (List.mem_append_left _ (List.mem_append_left _ (List.mem_append_right _ h)))
set_option maxHeartbeats 4000000 in
set_option maxRecDepth 100000 in
/-- count -/
theorem c_X6_count (G : XG) (go : Nat) (ga : Nat → Nat) (b : Nat → Int) (n d c : Nat) (gf : Nat → Nat → Int) (I : Inv b n d c) (R : GR b n d c gf) (wn sp ia ka tq wh nm ra : Nat) (rf : Nat → Int) (ta : Nat → Nat) (sc : Nat → Int) (L : Nat) (what : Int) (h1 : Z32 what) : Con G yX6_count wsX6_count (rmL 1) 0 0 [.ref wn, .int (zI what)] ([(wn, .inr (5, [.ref go, .ref sp, .ref ia, .ref ka, .ref tq, .ref wh, .ref nm, .ref ra])), (ra, aI G 3 rf), (tq, txE ta (zup sc 0 ((L : Nat) : Int))), (go, goE ga ((n : Nat) : Int) ((d : Nat) : Int) ((c : Nat) : Int)), (ga 0, aI G 36 (gf 0)), (ga 1, aI G 7 (gf 1)), (ga 2, aI G 7 (gf 2)), (ga 3, aI G 7 (gf 3)), (ga 4, aI G 7 (gf 4)), (ga 5, aI G 6 (gf 5)), (ga 6, aI G 6 (gf 6)), (ga 7, aI G 8 (gf 7))]) (P_X6_count G go ga b n d c gf wn sp ia ka tq wh nm ra rf ta sc L what) := by
  refine x_start (cc := cX6_count) (nL := 2) (ret := (some .int)) (by decide) rfl (Nat.le_of_ble_eq_true rfl) (fun E => ?_)
  show W_X6_count G E go ga b n d c gf wn sp ia ka tq wh nm ra rf ta sc L what 0 [(0, .ref wn), (1, .int (zI what))] [] ([(wn, .inr (5, [.ref go, .ref sp, .ref ia, .ref ka, .ref tq, .ref wh, .ref nm, .ref ra])), (ra, aI G 3 rf), (tq, txE ta (zup sc 0 ((L : Nat) : Int))), (go, goE ga ((n : Nat) : Int) ((d : Nat) : Int) ((c : Nat) : Int)), (ga 0, aI G 36 (gf 0)), (ga 1, aI G 7 (gf 1)), (ga 2, aI G 7 (gf 2)), (ga 3, aI G 7 (gf 3)), (ga 4, aI G 7 (gf 4)), (ga 5, aI G 6 (gf 5)), (ga 6, aI G 6 (gf 6)), (ga 7, aI G 8 (gf 7))])
  have hn7 := I.n7
  have hd6 := I.d6
  have hc8 := I.c8
  refine x_iload_n 1 rfl dX6_count_0 1 rfl ?_
  rcases (by omega : what = 0 ∨ what = 1 ∨ what = 2 ∨ what = 3 ∨ (what < 0 ∨ 3 < what)) with rfl | rfl | rfl | rfl | hs1
  · refine x_tsw 0 (tgt := 32) rfl (by decide) (by decide) rfl (by decide) dX6_count_1 ?_
    refine x_aload_n 33 rfl dX6_count_32 0 rfl ?_
    refine x_get 36 rfl (v := .ref go) 0 0 rfl rfl (by decide) inX6_count_X6 flX6_count_10 rfl dX6_count_33 ?_
    refine x_get 39 rfl (v := .int (zI ((n : Nat) : Int))) 3 0 rfl rfl (by decide) inX6_count_X0 flX6_count_132 rfl dX6_count_36 ?_
    refine x_iret rfl ?_ dX6_count_39
    have hk : kN4 0 = 0 := rfl
    exact ⟨by rw [hk]; show _ = some (Value.int (zI (cntN b ((L : Nat) : Int) 0))); rw [show cntN b ((L : Nat) : Int) 0 = ((n : Nat) : Int) from I.n1], rfl⟩
  · refine x_tsw 1 (tgt := 40) rfl (by decide) (by decide) rfl (by decide) dX6_count_1 ?_
    refine x_aload_n 41 rfl dX6_count_40 0 rfl ?_
    refine x_get 44 rfl (v := .ref go) 0 0 rfl rfl (by decide) inX6_count_X6 flX6_count_10 rfl dX6_count_41 ?_
    refine x_get 47 rfl (v := .int (zI ((d : Nat) : Int))) 3 1 rfl rfl (by decide) inX6_count_X0 flX6_count_181 rfl dX6_count_44 ?_
    refine x_iret rfl ?_ dX6_count_47
    have hk : kN4 1 = 0 := rfl
    exact ⟨by rw [hk]; show _ = some (Value.int (zI (cntN b ((L : Nat) : Int) 1))); rw [show cntN b ((L : Nat) : Int) 1 = ((d : Nat) : Int) from I.d1], rfl⟩
  · refine x_tsw 2 (tgt := 48) rfl (by decide) (by decide) rfl (by decide) dX6_count_1 ?_
    refine x_aload_n 49 rfl dX6_count_48 0 rfl ?_
    refine x_get 52 rfl (v := .ref go) 0 0 rfl rfl (by decide) inX6_count_X6 flX6_count_10 rfl dX6_count_49 ?_
    refine x_get 55 rfl (v := .int (zI ((c : Nat) : Int))) 3 2 rfl rfl (by decide) inX6_count_X0 flX6_count_119 rfl dX6_count_52 ?_
    refine x_iret rfl ?_ dX6_count_55
    have hk : kN4 2 = 0 := rfl
    exact ⟨by rw [hk]; show _ = some (Value.int (zI (cntN b ((L : Nat) : Int) 2))); rw [show cntN b ((L : Nat) : Int) 2 = ((c : Nat) : Int) from I.c1], rfl⟩
  · refine x_tsw 3 (tgt := 56) rfl (by decide) (by decide) rfl (by decide) dX6_count_1 ?_
    refine x_aload_n 57 rfl dX6_count_56 0 rfl ?_
    refine x_get 60 rfl (v := .ref tq) 0 4 rfl rfl (by decide) inX6_count_X6 flX6_count_30 rfl dX6_count_57 ?_
    refine x_get 63 rfl (v := .int (zI ((L : Nat) : Int))) 2 0 rfl rfl (by decide) inX6_count_X3 flX6_count_97 rfl dX6_count_60 ?_
    refine x_iret rfl ?_ dX6_count_63
    have hk : kN4 3 = 0 := rfl
    exact ⟨by rw [hk]; show _ = some (Value.int (zI (cntN b ((L : Nat) : Int) 3))); rw [show cntN b ((L : Nat) : Int) 3 = ((L : Nat) : Int) from rfl], rfl⟩
  · refine x_tsd (tgt := 64) (by omega) (by omega) (by decide) dX6_count_1 ?_
    refine x_aload_n 65 rfl dX6_count_64 0 rfl ?_
    refine x_bipush 67 rfl dX6_count_65 (z := (-2)) (by decide) ?_
    refine x_bipush 69 rfl dX6_count_67 (z := (-2)) (by decide) ?_
    refine x_callV 72 rfl (c_X6_refuse G wn go sp ia ka tq wh nm ra rf 1 (-2) (-2) (by decide) (by decide) (by decide)) [0, 1] rfl (by decide) 0 rfl rfl gX6_count_X6_refuse rfl rfl rfl hd_X6_refuse ⟨Nat.le_of_ble_eq_true rfl, Nat.le_of_ble_eq_true rfl⟩ (As := [.int (zI (-2)), .int (zI (-2))]) (rest := []) rfl rfl (Nat.le_of_ble_eq_true rfl) dX6_count_69 ⟨Nat.zero_le _, Nat.zero_le _⟩ (fun v w hq => ?_)
    obtain ⟨rfl, rfl⟩ := hq
    refine ⟨rfl, ?_⟩
    refine x_wp (ws' := [(wn, .inr (5, [.ref go, .ref sp, .ref ia, .ref ka, .ref tq, .ref wh, .ref nm, .ref ra])), (ra, aI G 3 (rfC false rf 1)), (tq, txE ta (zup sc 0 ((L : Nat) : Int))), (go, goE ga ((n : Nat) : Int) ((d : Nat) : Int) ((c : Nat) : Int)), (ga 0, aI G 36 (gf 0)), (ga 1, aI G 7 (gf 1)), (ga 2, aI G 7 (gf 2)), (ga 3, aI G 7 (gf 3)), (ga 4, aI G 7 (gf 4)), (ga 5, aI G 6 (gf 5)), (ga 6, aI G 6 (gf 6)), (ga 7, aI G 8 (gf 7))]) rfl ?_
    refine x_iret rfl ?_ dX6_count_72
    have hk : kN4 what = 1 := by unfold kN4; exact if_neg (by omega)
    exact ⟨by rw [hk] <;> rfl, by rw [hk] <;> rfl⟩

abbrev P_X6_digest (G : XG) (go : Nat) (ga : Nat → Nat) (b : Nat → Int) (n : Nat) (d : Nat) (c : Nat) (gf : Nat → Nat → Int) (wn : Nat) (sp : Nat) (ia : Nat) (ka : Nat) (tq : Nat) (wh : Nat) (nm : Nat) (ra : Nat) (ta : Nat → Nat) (sc : Nat → Int) (L : Nat) : Option Value → va_W → Prop := fun r ws => r = some (.long (zL (dgN b n d c ((L : Nat) : Int)))) ∧ ws = [(wn, .inr (5, [.ref go, .ref sp, .ref ia, .ref ka, .ref tq, .ref wh, .ref nm, .ref ra])), (tq, txE ta (zup sc 0 ((L : Nat) : Int))), (go, goE ga ((n : Nat) : Int) ((d : Nat) : Int) ((c : Nat) : Int)), (ga 0, aI G 36 (gf 0)), (ga 1, aI G 7 (gf 1)), (ga 2, aI G 7 (gf 2)), (ga 3, aI G 7 (gf 3)), (ga 4, aI G 7 (gf 4)), (ga 5, aI G 6 (gf 5)), (ga 6, aI G 6 (gf 6)), (ga 7, aI G 8 (gf 7))]
abbrev W_X6_digest (G : XG) (E : XE) (go : Nat) (ga : Nat → Nat) (b : Nat → Int) (n : Nat) (d : Nat) (c : Nat) (gf : Nat → Nat → Int) (wn : Nat) (sp : Nat) (ia : Nat) (ka : Nat) (tq : Nat) (wh : Nat) (nm : Nat) (ra : Nat) (ta : Nat → Nat) (sc : Nat → Int) (L : Nat) (pc : Nat) (lv : List (Nat × Value)) (st : List Value) (ws : va_W) : Prop := Wx G E (rmL 1) cX6_digest 3 RX6 wsX6_digest (some .long) "digest" 0 0 (P_X6_digest G go ga b n d c gf wn sp ia ka tq wh nm ra ta sc L) 0 0 pc lv st ws
theorem flX6_digest_10 : Cond.fieldLink RX6 10 (TX6 0).1 (TX6 0).2.1 (TX6 0).2.2.1 ∈ wsX6_digest := by decide +kernel
theorem flX6_digest_30 : Cond.fieldLink RX6 30 (TX6 4).1 (TX6 4).2.1 (TX6 4).2.2.1 ∈ wsX6_digest := by decide +kernel
theorem flX6_digest_97 : Cond.fieldLink RX6 97 (TX3 0).1 (TX3 0).2.1 (TX3 0).2.2.1 ∈ wsX6_digest := by decide +kernel
theorem flX6_digest_119 : Cond.fieldLink RX6 119 (TX0 2).1 (TX0 2).2.1 (TX0 2).2.2.1 ∈ wsX6_digest := by decide +kernel
theorem flX6_digest_132 : Cond.fieldLink RX6 132 (TX0 0).1 (TX0 0).2.1 (TX0 0).2.2.1 ∈ wsX6_digest := by decide +kernel
theorem flX6_digest_181 : Cond.fieldLink RX6 181 (TX0 1).1 (TX0 1).2.1 (TX0 1).2.2.1 ∈ wsX6_digest := by decide +kernel
theorem inX6_digest_X0 : ∀ w ∈ u_ws RX0 TX0 11, w ∈ wsX6_digest := fun _ h => List.mem_cons_of_mem _ (List.mem_append_left _ (List.mem_append_right _ h))
theorem inX6_digest_X3 : ∀ w ∈ u_ws RX3 TX3 9, w ∈ wsX6_digest := fun _ h => List.mem_cons_of_mem _ (List.mem_append_right _ h)
theorem inX6_digest_X6 : ∀ w ∈ u_ws RX6 TX6 8, w ∈ wsX6_digest := fun _ h => List.mem_cons_of_mem _ (List.mem_append_left _ (List.mem_append_left _ (List.mem_append_right _ h)))
theorem wX6_digest_cl196 : Cond.constantLong RX6 196 (zL 757) ∈ wsX6_digest := by decide +kernel
theorem wX6_digest_cl198 : Cond.constantLong RX6 198 (zL 31) ∈ wsX6_digest := by decide +kernel
set_option maxHeartbeats 4000000 in
set_option maxRecDepth 100000 in
/-- digest -/
theorem c_X6_digest (G : XG) (go : Nat) (ga : Nat → Nat) (b : Nat → Int) (n d c : Nat) (gf : Nat → Nat → Int) (I : Inv b n d c) (R : GR b n d c gf) (wn sp ia ka tq wh nm ra : Nat) (ta : Nat → Nat) (sc : Nat → Int) (L : Nat) (hL2 : L ≤ 200) : Con G yX6_digest wsX6_digest (rmL 1) 0 0 [.ref wn] ([(wn, .inr (5, [.ref go, .ref sp, .ref ia, .ref ka, .ref tq, .ref wh, .ref nm, .ref ra])), (tq, txE ta (zup sc 0 ((L : Nat) : Int))), (go, goE ga ((n : Nat) : Int) ((d : Nat) : Int) ((c : Nat) : Int)), (ga 0, aI G 36 (gf 0)), (ga 1, aI G 7 (gf 1)), (ga 2, aI G 7 (gf 2)), (ga 3, aI G 7 (gf 3)), (ga 4, aI G 7 (gf 4)), (ga 5, aI G 6 (gf 5)), (ga 6, aI G 6 (gf 6)), (ga 7, aI G 8 (gf 7))]) (P_X6_digest G go ga b n d c gf wn sp ia ka tq wh nm ra ta sc L) := by
  refine x_start (cc := cX6_digest) (nL := 3) (ret := (some .long)) (by decide) rfl (Nat.le_of_ble_eq_true rfl) (fun E => ?_)
  show W_X6_digest G E go ga b n d c gf wn sp ia ka tq wh nm ra ta sc L 0 [(0, .ref wn)] [] ([(wn, .inr (5, [.ref go, .ref sp, .ref ia, .ref ka, .ref tq, .ref wh, .ref nm, .ref ra])), (tq, txE ta (zup sc 0 ((L : Nat) : Int))), (go, goE ga ((n : Nat) : Int) ((d : Nat) : Int) ((c : Nat) : Int)), (ga 0, aI G 36 (gf 0)), (ga 1, aI G 7 (gf 1)), (ga 2, aI G 7 (gf 2)), (ga 3, aI G 7 (gf 3)), (ga 4, aI G 7 (gf 4)), (ga 5, aI G 6 (gf 5)), (ga 6, aI G 6 (gf 6)), (ga 7, aI G 8 (gf 7))])
  have hn7 := I.n7
  have hd6 := I.d6
  have hc8 := I.c8
  refine x_ldc2 3 rfl (v := zL 757) wX6_digest_cl196 dX6_digest_0 ?_
  refine x_lstore_n 4 rfl (lv' := [(1, .long (zL 757)), (0, .ref wn)]) dX6_digest_3 (by decide) rfl ?_
  refine x_ldc2 7 rfl (v := zL 31) wX6_digest_cl198 dX6_digest_4 ?_
  refine x_lload_n 8 rfl dX6_digest_7 0 rfl ?_
  refine x_lmul 9 rfl dX6_digest_8 (z := 31 * 757) (rfl) ?_
  refine x_aload_n 10 rfl dX6_digest_9 1 rfl ?_
  refine x_get 13 rfl (v := .ref go) 0 0 rfl rfl (by decide) inX6_digest_X6 flX6_digest_10 rfl dX6_digest_10 ?_
  refine x_get 16 rfl (v := .int (zI ((n : Nat) : Int))) 2 0 rfl rfl (by decide) inX6_digest_X0 flX6_digest_132 rfl dX6_digest_13 ?_
  refine x_i2l 17 rfl dX6_digest_16 (z := (zL ((n : Nat) : Int))) (zI_i2l (by omega)) ?_
  refine x_ladd 18 rfl dX6_digest_17 (z := (31 * 757) + ((n : Nat) : Int)) (rfl) ?_
  refine x_lstore_n 19 rfl (lv' := [(1, .long (zL ((31 * 757) + ((n : Nat) : Int)))), (0, .ref wn)]) dX6_digest_18 (by decide) rfl ?_
  refine x_ldc2 22 rfl (v := zL 31) wX6_digest_cl198 dX6_digest_19 ?_
  refine x_lload_n 23 rfl dX6_digest_22 0 rfl ?_
  refine x_lmul 24 rfl dX6_digest_23 (z := 31 * ((31 * 757) + ((n : Nat) : Int))) (rfl) ?_
  refine x_aload_n 25 rfl dX6_digest_24 1 rfl ?_
  refine x_get 28 rfl (v := .ref go) 0 0 rfl rfl (by decide) inX6_digest_X6 flX6_digest_10 rfl dX6_digest_25 ?_
  refine x_get 31 rfl (v := .int (zI ((d : Nat) : Int))) 2 1 rfl rfl (by decide) inX6_digest_X0 flX6_digest_181 rfl dX6_digest_28 ?_
  refine x_i2l 32 rfl dX6_digest_31 (z := (zL ((d : Nat) : Int))) (zI_i2l (by omega)) ?_
  refine x_ladd 33 rfl dX6_digest_32 (z := (31 * ((31 * 757) + ((n : Nat) : Int))) + ((d : Nat) : Int)) (rfl) ?_
  refine x_lstore_n 34 rfl (lv' := [(1, .long (zL ((31 * ((31 * 757) + ((n : Nat) : Int))) + ((d : Nat) : Int)))), (0, .ref wn)]) dX6_digest_33 (by decide) rfl ?_
  refine x_ldc2 37 rfl (v := zL 31) wX6_digest_cl198 dX6_digest_34 ?_
  refine x_lload_n 38 rfl dX6_digest_37 0 rfl ?_
  refine x_lmul 39 rfl dX6_digest_38 (z := 31 * ((31 * ((31 * 757) + ((n : Nat) : Int))) + ((d : Nat) : Int))) (rfl) ?_
  refine x_aload_n 40 rfl dX6_digest_39 1 rfl ?_
  refine x_get 43 rfl (v := .ref go) 0 0 rfl rfl (by decide) inX6_digest_X6 flX6_digest_10 rfl dX6_digest_40 ?_
  refine x_get 46 rfl (v := .int (zI ((c : Nat) : Int))) 2 2 rfl rfl (by decide) inX6_digest_X0 flX6_digest_119 rfl dX6_digest_43 ?_
  refine x_i2l 47 rfl dX6_digest_46 (z := (zL ((c : Nat) : Int))) (zI_i2l (by omega)) ?_
  refine x_ladd 48 rfl dX6_digest_47 (z := (31 * ((31 * ((31 * 757) + ((n : Nat) : Int))) + ((d : Nat) : Int))) + ((c : Nat) : Int)) (rfl) ?_
  refine x_lstore_n 49 rfl (lv' := [(1, .long (zL ((31 * ((31 * ((31 * 757) + ((n : Nat) : Int))) + ((d : Nat) : Int))) + ((c : Nat) : Int)))), (0, .ref wn)]) dX6_digest_48 (by decide) rfl ?_
  refine x_ldc2 52 rfl (v := zL 31) wX6_digest_cl198 dX6_digest_49 ?_
  refine x_lload_n 53 rfl dX6_digest_52 0 rfl ?_
  refine x_lmul 54 rfl dX6_digest_53 (z := 31 * ((31 * ((31 * ((31 * 757) + ((n : Nat) : Int))) + ((d : Nat) : Int))) + ((c : Nat) : Int))) (rfl) ?_
  refine x_aload_n 55 rfl dX6_digest_54 1 rfl ?_
  refine x_get 58 rfl (v := .ref tq) 0 4 rfl rfl (by decide) inX6_digest_X6 flX6_digest_30 rfl dX6_digest_55 ?_
  refine x_get 61 rfl (v := .int (zI ((L : Nat) : Int))) 1 0 rfl rfl (by decide) inX6_digest_X3 flX6_digest_97 rfl dX6_digest_58 ?_
  refine x_i2l 62 rfl dX6_digest_61 (z := (zL ((L : Nat) : Int))) (zI_i2l (by omega)) ?_
  refine x_ladd 63 rfl dX6_digest_62 (z := (31 * ((31 * ((31 * ((31 * 757) + ((n : Nat) : Int))) + ((d : Nat) : Int))) + ((c : Nat) : Int))) + ((L : Nat) : Int)) (rfl) ?_
  refine x_lstore_n 64 rfl (lv' := [(1, .long (zL ((31 * ((31 * ((31 * ((31 * 757) + ((n : Nat) : Int))) + ((d : Nat) : Int))) + ((c : Nat) : Int))) + ((L : Nat) : Int)))), (0, .ref wn)]) dX6_digest_63 (by decide) rfl ?_
  refine x_aload_n 65 rfl dX6_digest_64 1 rfl ?_
  refine x_get 68 rfl (v := .ref go) 0 0 rfl rfl (by decide) inX6_digest_X6 flX6_digest_10 rfl dX6_digest_65 ?_
  refine x_lload_n 69 rfl dX6_digest_68 0 rfl ?_
  refine x_callV 72 rfl (c_X0_digestOn G go ga b n d c gf I R ((31 * ((31 * ((31 * ((31 * 757) + ((n : Nat) : Int))) + ((d : Nat) : Int))) + ((c : Nat) : Int))) + ((L : Nat) : Int))) [2, 3, 4, 5, 6, 7, 8, 9, 10] rfl (by decide) 2 rfl rfl gX6_digest_X0_digestOn rfl rfl rfl hd_X0_digestOn ⟨Nat.le_of_ble_eq_true rfl, Nat.le_of_ble_eq_true rfl⟩ (As := [.long (zL ((31 * ((31 * ((31 * ((31 * 757) + ((n : Nat) : Int))) + ((d : Nat) : Int))) + ((c : Nat) : Int))) + ((L : Nat) : Int)))]) (rest := []) rfl rfl (Nat.le_of_ble_eq_true rfl) dX6_digest_69 ⟨Nat.zero_le _, Nat.zero_le _⟩ (fun v w hq => ?_)
  obtain ⟨rfl, rfl⟩ := hq
  refine ⟨rfl, ?_⟩
  refine x_wp (ws' := [(wn, .inr (5, [.ref go, .ref sp, .ref ia, .ref ka, .ref tq, .ref wh, .ref nm, .ref ra])), (tq, txE ta (zup sc 0 ((L : Nat) : Int))), (go, goE ga ((n : Nat) : Int) ((d : Nat) : Int) ((c : Nat) : Int)), (ga 0, aI G 36 (gf 0)), (ga 1, aI G 7 (gf 1)), (ga 2, aI G 7 (gf 2)), (ga 3, aI G 7 (gf 3)), (ga 4, aI G 7 (gf 4)), (ga 5, aI G 6 (gf 5)), (ga 6, aI G 6 (gf 6)), (ga 7, aI G 8 (gf 7))]) rfl ?_
  refine x_lret rfl ?_ dX6_digest_72
  exact ⟨rfl, rfl⟩

