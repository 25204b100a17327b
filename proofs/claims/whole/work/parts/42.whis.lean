theorem hd_X5_turners : yX5_turners.cls = RX5 ∧ yX5_turners.cls ≠ "java/lang/invoke/MethodHandle" ∧ yX5_turners.cls ≠ "java/lang/invoke/VarHandle" ∧ (parseMethodDescriptor yX5_turners.desc).map (fun d => d.parameters.length) = some 4 := by decide +kernel
theorem hd_X5_listen : yX5_listen.cls = RX5 ∧ yX5_listen.cls ≠ "java/lang/invoke/MethodHandle" ∧ yX5_listen.cls ≠ "java/lang/invoke/VarHandle" ∧ (parseMethodDescriptor yX5_listen.desc).map (fun d => d.parameters.length) = some 3 := by decide +kernel
theorem hd_X5_turnersReady : yX5_turnersReady.cls = RX5 ∧ yX5_turnersReady.cls ≠ "java/lang/invoke/MethodHandle" ∧ yX5_turnersReady.cls ≠ "java/lang/invoke/VarHandle" ∧ (parseMethodDescriptor yX5_turnersReady.desc).map (fun d => d.parameters.length) = some 3 := by decide +kernel
theorem hd_X5_findWhistled : yX5_findWhistled.cls = RX5 ∧ yX5_findWhistled.cls ≠ "java/lang/invoke/MethodHandle" ∧ yX5_findWhistled.cls ≠ "java/lang/invoke/VarHandle" ∧ (parseMethodDescriptor yX5_findWhistled.desc).map (fun d => d.parameters.length) = some 4 := by decide +kernel
theorem hd_X5_isTakenFor : yX5_isTakenFor.cls = RX5 ∧ yX5_isTakenFor.cls ≠ "java/lang/invoke/MethodHandle" ∧ yX5_isTakenFor.cls ≠ "java/lang/invoke/VarHandle" ∧ (parseMethodDescriptor yX5_isTakenFor.desc).map (fun d => d.parameters.length) = some 3 := by decide +kernel
theorem hd_X5_turnsBy : yX5_turnsBy.cls = RX5 ∧ yX5_turnsBy.cls ≠ "java/lang/invoke/MethodHandle" ∧ yX5_turnsBy.cls ≠ "java/lang/invoke/VarHandle" ∧ (parseMethodDescriptor yX5_turnsBy.desc).map (fun d => d.parameters.length) = some 4 := by decide +kernel
theorem hd_X5_findClashes : yX5_findClashes.cls = RX5 ∧ yX5_findClashes.cls ≠ "java/lang/invoke/MethodHandle" ∧ yX5_findClashes.cls ≠ "java/lang/invoke/VarHandle" ∧ (parseMethodDescriptor yX5_findClashes.desc).map (fun d => d.parameters.length) = some 1 := by decide +kernel
theorem hd_X5_fewestInEachPair : yX5_fewestInEachPair.cls = RX5 ∧ yX5_fewestInEachPair.cls ≠ "java/lang/invoke/MethodHandle" ∧ yX5_fewestInEachPair.cls ≠ "java/lang/invoke/VarHandle" ∧ (parseMethodDescriptor yX5_fewestInEachPair.desc).map (fun d => d.parameters.length) = some 1 := by decide +kernel
theorem hd_X5_isInEachPair : yX5_isInEachPair.cls = RX5 ∧ yX5_isInEachPair.cls ≠ "java/lang/invoke/MethodHandle" ∧ yX5_isInEachPair.cls ≠ "java/lang/invoke/VarHandle" ∧ (parseMethodDescriptor yX5_isInEachPair.desc).map (fun d => d.parameters.length) = some 2 := by decide +kernel
theorem hd_X5_standsAlone : yX5_standsAlone.cls = RX5 ∧ yX5_standsAlone.cls ≠ "java/lang/invoke/MethodHandle" ∧ yX5_standsAlone.cls ≠ "java/lang/invoke/VarHandle" ∧ (parseMethodDescriptor yX5_standsAlone.desc).map (fun d => d.parameters.length) = some 3 := by decide +kernel
theorem hd_X5_leastNewEnd : yX5_leastNewEnd.cls = RX5 ∧ yX5_leastNewEnd.cls ≠ "java/lang/invoke/MethodHandle" ∧ yX5_leastNewEnd.cls ≠ "java/lang/invoke/VarHandle" ∧ (parseMethodDescriptor yX5_leastNewEnd.desc).map (fun d => d.parameters.length) = some 2 := by decide +kernel
theorem hd_X5_sendWord : yX5_sendWord.cls = RX5 ∧ yX5_sendWord.cls ≠ "java/lang/invoke/MethodHandle" ∧ yX5_sendWord.cls ≠ "java/lang/invoke/VarHandle" ∧ (parseMethodDescriptor yX5_sendWord.desc).map (fun d => d.parameters.length) = some 3 := by decide +kernel
theorem hd_X5_findCallable : yX5_findCallable.cls = RX5 ∧ yX5_findCallable.cls ≠ "java/lang/invoke/MethodHandle" ∧ yX5_findCallable.cls ≠ "java/lang/invoke/VarHandle" ∧ (parseMethodDescriptor yX5_findCallable.desc).map (fun d => d.parameters.length) = some 2 := by decide +kernel
theorem hd_X5_passOn : yX5_passOn.cls = RX5 ∧ yX5_passOn.cls ≠ "java/lang/invoke/MethodHandle" ∧ yX5_passOn.cls ≠ "java/lang/invoke/VarHandle" ∧ (parseMethodDescriptor yX5_passOn.desc).map (fun d => d.parameters.length) = some 2 := by decide +kernel
theorem hd_X5_lastCaller : yX5_lastCaller.cls = RX5 ∧ yX5_lastCaller.cls ≠ "java/lang/invoke/MethodHandle" ∧ yX5_lastCaller.cls ≠ "java/lang/invoke/VarHandle" ∧ (parseMethodDescriptor yX5_lastCaller.desc).map (fun d => d.parameters.length) = some 2 := by decide +kernel
theorem his_vt {ear own w : Nat} (hv : vt own) (hw : w < 4) : leftN (if ear = 2 ∨ ear = 5 then halfN own else own) w = 1 ∨ vt (leftN (if ear = 2 ∨ ear = 5 then halfN own else own) w) := by
  have ho := vt_lt hv
  by_cases e : ear = 2 ∨ ear = 5
  · rw [if_pos e]; exact left_vt _ (vt_lt (half_vt own ho hv)) (half_vt own ho hv) w hw
  · rw [if_neg e]; exact left_vt _ ho hv w hw
abbrev P_X5_turnsBy (G : XG) (wh : Nat) (wa : Nat → Nat) (fo : Int) (le : Int) (e0 : Int) (o0 : Int) (l0 : Int) (a0 : Bool) (g : Int) (ear : Nat) (own : Nat) (tune : Nat) : Option Value → va_W → Prop := fun r ws => ∃ e1 o1 l1 : Int, ∃ a1 : Bool, r = some (.int (zB (tkW (g + 1).toNat ear own tune))) ∧ ws = [(wh, whE wa fo le), (wa 1, .inr (1, [.int (zI e1), .int (zI o1), .int (zI l1), .int (zB a1)]))]
abbrev W_X5_turnsBy (G : XG) (E : XE) (wh : Nat) (wa : Nat → Nat) (fo : Int) (le : Int) (e0 : Int) (o0 : Int) (l0 : Int) (a0 : Bool) (g : Int) (ear : Nat) (own : Nat) (tune : Nat) (pc : Nat) (lv : List (Nat × Value)) (st : List Value) (ws : va_W) : Prop := Wx G E (rmL 3) cX5_turnsBy 6 RX5 wsX5_turnsBy (some .boolean) "turnsBy" 0 0 (P_X5_turnsBy G wh wa fo le e0 o0 l0 a0 g ear own tune) 0 0 pc lv st ws
theorem flX5_turnsBy_28 : Cond.fieldLink RX5 28 (TX5 1).1 (TX5 1).2.1 (TX5 1).2.2.1 ∈ wsX5_turnsBy := by decide +kernel
theorem inX5_turnsBy_X5 : ∀ w ∈ u_ws RX5 TX5 7, w ∈ wsX5_turnsBy := fun _ h => List.mem_cons_of_mem _ (List.mem_append_left _ (List.mem_append_right _ h))
set_option maxHeartbeats 4000000 in
set_option maxRecDepth 100000 in
/-- turnsBy -/
theorem c_X5_turnsBy (G : XG) (wh : Nat) (wa : Nat → Nat) (fo le : Int) (e0 o0 l0 : Int) (a0 : Bool) (g : Int) (ear own tune : Nat) (hg : -1 ≤ g ∧ g ≤ 3) (he : ear < 6) (hv : vt own) (ht : vt tune) : Con G yX5_turnsBy wsX5_turnsBy (rmL 3) 0 0 [.ref wh, .int (zI g), .int (zI ((ear : Nat) : Int)), .int (zI ((own : Nat) : Int)), .int (zI ((tune : Nat) : Int))] ([(wh, whE wa fo le), (wa 1, .inr (1, [.int (zI e0), .int (zI o0), .int (zI l0), .int (zB a0)]))]) (P_X5_turnsBy G wh wa fo le e0 o0 l0 a0 g ear own tune) := by
  refine x_start (cc := cX5_turnsBy) (nL := 6) (ret := (some .boolean)) (by decide) rfl (Nat.le_of_ble_eq_true rfl) (fun E => ?_)
  show W_X5_turnsBy G E wh wa fo le e0 o0 l0 a0 g ear own tune 0 [(0, .ref wh), (1, .int (zI g)), (2, .int (zI ((ear : Nat) : Int))), (3, .int (zI ((own : Nat) : Int))), (4, .int (zI ((tune : Nat) : Int)))] [] ([(wh, whE wa fo le), (wa 1, .inr (1, [.int (zI e0), .int (zI o0), .int (zI l0), .int (zB a0)]))])
  have ho := vt_lt hv
  have htt := vt_lt ht
  refine x_iconst 1 rfl dX5_turnsBy_0 (z := 0) (by decide) ?_
  refine x_istore 3 rfl (lv' := [(5, .int (zI 0)), (0, .ref wh), (1, .int (zI g)), (2, .int (zI ((ear : Nat) : Int))), (3, .int (zI ((own : Nat) : Int))), (4, .int (zI ((tune : Nat) : Int)))]) dX5_turnsBy_1 (by decide) rfl ?_
  have L3 : ∀ (f3 : Nat) (w : Nat) (e1 : Int) (o1 : Int) (l1 : Int) (a1 : Bool) (hw : (w : Int) ≤ g + 1) (hk : anyF (fun w => turnsN ear own tune w) w = false), 5 - w < f3 → W_X5_turnsBy G E wh wa fo le e0 o0 l0 a0 g ear own tune 3 [(0, .ref wh), (1, .int (zI g)), (2, .int (zI ((ear : Nat) : Int))), (3, .int (zI ((own : Nat) : Int))), (4, .int (zI ((tune : Nat) : Int))), (5, .int (zI ((w : Nat) : Int)))] [] ([(wh, whE wa fo le), (wa 1, .inr (1, [.int (zI e1), .int (zI o1), .int (zI l1), .int (zB a1)]))]) := by
    intro f3
    induction f3 with
    | zero => intro w e1 o1 l1 a1 hw hk hf3; exact absurd hf3 (Nat.not_lt_zero _)
    | succ f3 ih3 =>
      intro w e1 o1 l1 a1 hw hk hf3
      refine x_iload 5 rfl dX5_turnsBy_3 5 rfl ?_
      refine x_iload_n 6 rfl dX5_turnsBy_5 1 rfl ?_
      refine x_icmp_gt 9 rfl (tgt := 47) dX5_turnsBy_6 (by decide) (by omega) (by omega) (fun h6 => ?_) (fun h6 => ?_)
      · skip
        refine x_iconst 48 rfl dX5_turnsBy_47 (z := 0) (by decide) ?_
        refine x_int (y := zB (tkW (g + 1).toNat ear own tune)) (zB_f (by unfold tkW; rw [show (g + 1).toNat = w by omega]; exact hk)) ?_
        refine x_zret rfl ?_ dX5_turnsBy_48
        exact ⟨_, _, _, _, rfl, rfl⟩
      · skip
        refine x_aload_n 10 rfl dX5_turnsBy_9 0 rfl ?_
        refine x_get 13 rfl (v := .ref (wa 1)) 0 1 rfl rfl (by decide) inX5_turnsBy_X5 flX5_turnsBy_28 rfl dX5_turnsBy_10 ?_
        refine x_iload_n 14 rfl dX5_turnsBy_13 2 rfl ?_
        refine x_iload_n 15 rfl dX5_turnsBy_14 3 rfl ?_
        refine x_iload 17 rfl dX5_turnsBy_15 5 rfl ?_
        refine x_callV 20 rfl (c_X1_makeReady G (wa 1) e1 o1 l1 a1 ear own w (by omega) (hv) (by omega)) [1] rfl (by decide) 1 rfl rfl gX5_turnsBy_X1_makeReady rfl rfl rfl hd_X1_makeReady ⟨Nat.le_of_ble_eq_true rfl, Nat.le_of_ble_eq_true rfl⟩ (As := [.int (zI ((ear : Nat) : Int)), .int (zI ((own : Nat) : Int)), .int (zI ((w : Nat) : Int))]) (rest := []) rfl rfl (Nat.le_of_ble_eq_true rfl) dX5_turnsBy_17 ⟨Nat.zero_le _, Nat.zero_le _⟩ (fun v w hq => ?_)
        obtain ⟨rfl, rfl⟩ := hq
        refine ⟨rfl, ?_⟩
        refine x_ws (ws' := [(wh, whE wa fo le), (wa 1, .inr (1, [.int (zI ((ear : Nat) : Int)), .int (zI ((own : Nat) : Int)), .int (zI ((leftN (if ear = 2 ∨ ear = 5 then halfN own else own) w : Nat) : Int)), .int (zB (decide (ear = 5 ∧ 1 < w)))]))]) (rfl) ?_
        refine x_aload_n 21 rfl dX5_turnsBy_20 0 rfl ?_
        refine x_get 24 rfl (v := .ref (wa 1)) 0 1 rfl rfl (by decide) inX5_turnsBy_X5 flX5_turnsBy_28 rfl dX5_turnsBy_21 ?_
        refine x_iload 26 rfl dX5_turnsBy_24 4 rfl ?_
        refine x_iload 28 rfl dX5_turnsBy_26 4 rfl ?_
        refine x_iload 30 rfl dX5_turnsBy_28 5 rfl ?_
        refine x_callS0 33 rfl (c_X4_lessLost G tune w ht (by omega)) (fun _ _ h => h.2) gX5_turnsBy_X4_lessLost rfl rfl rfl hd_X4_lessLost ⟨Nat.le_of_ble_eq_true rfl, Nat.le_of_ble_eq_true rfl⟩ (As := [.int (zI ((tune : Nat) : Int)), .int (zI ((w : Nat) : Int))]) (rest := [.int (zI ((tune : Nat) : Int)), .ref (wa 1)]) rfl rfl (Nat.le_of_ble_eq_true rfl) dX5_turnsBy_30 ⟨Nat.zero_le _, Nat.zero_le _⟩ (fun v hq => ?_)
        obtain ⟨rfl, -⟩ := hq
        have hLv : leftN (if ear = 2 ∨ ear = 5 then halfN own else own) w = 1 ∨ vt (leftN (if ear = 2 ∨ ear = 5 then halfN own else own) w) := his_vt hv (by omega)
        refine x_callV 36 rfl (c_X1_turnsAt G (wa 1) ear own (leftN (if ear = 2 ∨ ear = 5 then halfN own else own) w) (decide (ear = 5 ∧ 1 < w)) tune (leftN tune w) (by omega) (by omega) (by omega) (left_vt tune htt ht w (by omega)) (hLv)) [1] rfl (by decide) 1 rfl rfl gX5_turnsBy_X1_turnsAt rfl rfl rfl hd_X1_turnsAt ⟨Nat.le_of_ble_eq_true rfl, Nat.le_of_ble_eq_true rfl⟩ (As := [.int (zI ((tune : Nat) : Int)), .int (zI ((leftN tune w : Nat) : Int))]) (rest := []) rfl rfl (Nat.le_of_ble_eq_true rfl) dX5_turnsBy_33 ⟨Nat.zero_le _, Nat.zero_le _⟩ (fun v w hq => ?_)
        obtain ⟨rfl, rfl⟩ := hq
        refine ⟨rfl, ?_⟩
        refine x_ws (ws' := [(wh, whE wa fo le), (wa 1, .inr (1, [.int (zI ((ear : Nat) : Int)), .int (zI ((own : Nat) : Int)), .int (zI ((leftN (if ear = 2 ∨ ear = 5 then halfN own else own) w : Nat) : Int)), .int (zB (decide (ear = 5 ∧ 1 < w)))]))]) (rfl) ?_
        refine x_int (y := (zB (turnsN ear own tune w))) (congrArg zB (tAt_turns he hv ht (by omega))) ?_
        refine x_bif_eq 39 rfl (tgt := 41) dX5_turnsBy_36 (by decide) (fun h36 => ?_) (fun h36 => ?_)
        · skip
          have hno : turnsN ear own tune w = false := by assumption
          refine x_iinc 44 rfl (lv' := [(5, .int (zI ((w + 1 : Nat) : Int))), (0, .ref wh), (1, .int (zI g)), (2, .int (zI ((ear : Nat) : Int))), (3, .int (zI ((own : Nat) : Int))), (4, .int (zI ((tune : Nat) : Int)))]) dX5_turnsBy_41 5 rfl (b := ((w + 1 : Nat) : Int)) (by omega) (by decide) rfl ?_
          refine x_goto dX5_turnsBy_44 (tgt := 3) (by decide) ?_
          refine x_lv [1, 2, 3, 4, 5, 0] rfl ?_
          exact ih3 (w + 1) ((ear : Nat) : Int) ((own : Nat) : Int) ((leftN (if ear = 2 ∨ ear = 5 then halfN own else own) w : Nat) : Int) (decide (ear = 5 ∧ 1 < w)) (by omega) (anyF_f hk hno) (by omega)
        · skip
          refine x_iconst 40 rfl dX5_turnsBy_39 (z := 1) (by decide) ?_
          refine x_int (y := zB (tkW (g + 1).toNat ear own tune)) (zB_t ((anyF_iff _ _).mpr ⟨w, by omega, (by assumption : turnsN ear own tune w = true)⟩)) ?_
          refine x_zret rfl ?_ dX5_turnsBy_40
          exact ⟨_, _, _, _, rfl, rfl⟩
  refine x_lv [1, 2, 3, 4, 5, 0] rfl ?_
  exact L3 _ 0 e0 o0 l0 a0 (by omega) (rfl) (Nat.lt_succ_self _)

abbrev P_X5_isTakenFor (G : XG) (go : Nat) (ga : Nat → Nat) (b : Nat → Int) (n : Nat) (d : Nat) (c : Nat) (gf : Nat → Nat → Int) (wh : Nat) (wa : Nat → Nat) (fo : Int) (le : Int) (e0 : Int) (o0 : Int) (l0 : Int) (a0 : Bool) (x : Nat) (y : Nat) : Option Value → va_W → Prop := fun r ws => ∃ e1 o1 l1 : Int, ∃ a1 : Bool, r = some (.int (zB (tkP b x y))) ∧ ws = [(wh, whE wa fo le), (wa 1, .inr (1, [.int (zI e1), .int (zI o1), .int (zI l1), .int (zB a1)])), (go, goE ga ((n : Nat) : Int) ((d : Nat) : Int) ((c : Nat) : Int)), (ga 0, aI G 36 (gf 0)), (ga 1, aI G 7 (gf 1)), (ga 2, aI G 7 (gf 2)), (ga 3, aI G 7 (gf 3)), (ga 4, aI G 7 (gf 4)), (ga 5, aI G 6 (gf 5)), (ga 6, aI G 6 (gf 6)), (ga 7, aI G 8 (gf 7))]
abbrev W_X5_isTakenFor (G : XG) (E : XE) (go : Nat) (ga : Nat → Nat) (b : Nat → Int) (n : Nat) (d : Nat) (c : Nat) (gf : Nat → Nat → Int) (wh : Nat) (wa : Nat → Nat) (fo : Int) (le : Int) (e0 : Int) (o0 : Int) (l0 : Int) (a0 : Bool) (x : Nat) (y : Nat) (pc : Nat) (lv : List (Nat × Value)) (st : List Value) (ws : va_W) : Prop := Wx G E (rmL 4) cX5_isTakenFor 5 RX5 wsX5_isTakenFor (some .boolean) "isTakenFor" 0 0 (P_X5_isTakenFor G go ga b n d c gf wh wa fo le e0 o0 l0 a0 x y) 0 0 pc lv st ws
theorem flX5_isTakenFor_46 : Cond.fieldLink RX5 46 (TX0 4).1 (TX0 4).2.1 (TX0 4).2.2.1 ∈ wsX5_isTakenFor := by decide +kernel
theorem flX5_isTakenFor_49 : Cond.fieldLink RX5 49 (TX0 5).1 (TX0 5).2.1 (TX0 5).2.2.1 ∈ wsX5_isTakenFor := by decide +kernel
theorem inX5_isTakenFor_X0 : ∀ w ∈ u_ws RX0 TX0 11, w ∈ wsX5_isTakenFor := fun _ h => List.mem_cons_of_mem _ (List.mem_append_left _ (List.mem_append_left _ (List.mem_append_right _ h)))
set_option maxHeartbeats 4000000 in
set_option maxRecDepth 100000 in
/-- isTakenFor -/
theorem c_X5_isTakenFor (G : XG) (go : Nat) (ga : Nat → Nat) (b : Nat → Int) (n d c : Nat) (gf : Nat → Nat → Int) (I : Inv b n d c) (R : GR b n d c gf) (wh : Nat) (wa : Nat → Nat) (fo le : Int) (e0 o0 l0 : Int) (a0 : Bool) (x y : Nat) (hx : x < n) (hy : y < n) : Con G yX5_isTakenFor wsX5_isTakenFor (rmL 4) 0 0 [.ref wh, .ref go, .int (zI ((x : Nat) : Int)), .int (zI ((y : Nat) : Int))] ([(wh, whE wa fo le), (wa 1, .inr (1, [.int (zI e0), .int (zI o0), .int (zI l0), .int (zB a0)])), (go, goE ga ((n : Nat) : Int) ((d : Nat) : Int) ((c : Nat) : Int)), (ga 0, aI G 36 (gf 0)), (ga 1, aI G 7 (gf 1)), (ga 2, aI G 7 (gf 2)), (ga 3, aI G 7 (gf 3)), (ga 4, aI G 7 (gf 4)), (ga 5, aI G 6 (gf 5)), (ga 6, aI G 6 (gf 6)), (ga 7, aI G 8 (gf 7))]) (P_X5_isTakenFor G go ga b n d c gf wh wa fo le e0 o0 l0 a0 x y) := by
  refine x_start (cc := cX5_isTakenFor) (nL := 5) (ret := (some .boolean)) (by decide) rfl (Nat.le_of_ble_eq_true rfl) (fun E => ?_)
  show W_X5_isTakenFor G E go ga b n d c gf wh wa fo le e0 o0 l0 a0 x y 0 [(0, .ref wh), (1, .ref go), (2, .int (zI ((x : Nat) : Int))), (3, .int (zI ((y : Nat) : Int)))] [] ([(wh, whE wa fo le), (wa 1, .inr (1, [.int (zI e0), .int (zI o0), .int (zI l0), .int (zB a0)])), (go, goE ga ((n : Nat) : Int) ((d : Nat) : Int) ((c : Nat) : Int)), (ga 0, aI G 36 (gf 0)), (ga 1, aI G 7 (gf 1)), (ga 2, aI G 7 (gf 2)), (ga 3, aI G 7 (gf 3)), (ga 4, aI G 7 (gf 4)), (ga 5, aI G 6 (gf 5)), (ga 6, aI G 6 (gf 6)), (ga 7, aI G 8 (gf 7))])
  have hn7 := I.n7
  have hd6 := I.d6
  have hc8 := I.c8
  have hrr := wdN_r I hx hy
  have hey := I.e hy
  have hty := I.t hy
  have htx := I.t hx
  refine x_aload_n 1 rfl dX5_isTakenFor_0 1 rfl ?_
  refine x_iload_n 2 rfl dX5_isTakenFor_1 2 rfl ?_
  refine x_iload_n 3 rfl dX5_isTakenFor_2 3 rfl ?_
  refine x_callV 6 rfl (c_X0_greatestSharedWind G go ga b n d c gf I R x y (by omega) (by omega)) [2, 3, 4, 5, 6, 7, 8, 9, 10] rfl (by decide) 2 rfl rfl gX5_isTakenFor_X0_greatestSharedWind rfl rfl rfl hd_X0_greatestSharedWind ⟨Nat.le_of_ble_eq_true rfl, Nat.le_of_ble_eq_true rfl⟩ (As := [.int (zI ((x : Nat) : Int)), .int (zI ((y : Nat) : Int))]) (rest := []) rfl rfl (Nat.le_of_ble_eq_true rfl) dX5_isTakenFor_3 ⟨Nat.zero_le _, Nat.zero_le _⟩ (fun v w hq => ?_)
  obtain ⟨rfl, rfl⟩ := hq
  refine ⟨rfl, ?_⟩
  refine x_ws (ws' := [(wh, whE wa fo le), (wa 1, .inr (1, [.int (zI e0), .int (zI o0), .int (zI l0), .int (zB a0)])), (go, goE ga ((n : Nat) : Int) ((d : Nat) : Int) ((c : Nat) : Int)), (ga 0, aI G 36 (gf 0)), (ga 1, aI G 7 (gf 1)), (ga 2, aI G 7 (gf 2)), (ga 3, aI G 7 (gf 3)), (ga 4, aI G 7 (gf 4)), (ga 5, aI G 6 (gf 5)), (ga 6, aI G 6 (gf 6)), (ga 7, aI G 8 (gf 7))]) (rfl) ?_
  refine x_istore 8 rfl (lv' := [(4, .int (zI (wdN b x y))), (0, .ref wh), (1, .ref go), (2, .int (zI ((x : Nat) : Int))), (3, .int (zI ((y : Nat) : Int)))]) dX5_isTakenFor_6 (by decide) rfl ?_
  refine x_aload_n 9 rfl dX5_isTakenFor_8 1 rfl ?_
  refine x_iload 11 rfl dX5_isTakenFor_9 0 rfl ?_
  refine x_aload_n 12 rfl dX5_isTakenFor_11 2 rfl ?_
  refine x_get 15 rfl (v := .ref (ga 1)) 2 4 rfl rfl (by decide) inX5_isTakenFor_X0 flX5_isTakenFor_46 rfl dX5_isTakenFor_12 ?_
  refine x_iload_n 16 rfl dX5_isTakenFor_15 4 rfl ?_
  refine x_iald 17 rfl 4 y rfl (⟨by omega, by omega⟩) (by decide) (v := ((eN b y : Nat) : Int)) (R.e I hy) dX5_isTakenFor_16 ?_
  refine x_aload_n 18 rfl dX5_isTakenFor_17 2 rfl ?_
  refine x_get 21 rfl (v := .ref (ga 2)) 2 5 rfl rfl (by decide) inX5_isTakenFor_X0 flX5_isTakenFor_49 rfl dX5_isTakenFor_18 ?_
  refine x_iload_n 22 rfl dX5_isTakenFor_21 4 rfl ?_
  refine x_iald 23 rfl 5 y rfl (⟨by omega, by omega⟩) (by decide) (v := ((tN b y : Nat) : Int)) (R.t I hy) dX5_isTakenFor_22 ?_
  refine x_aload_n 24 rfl dX5_isTakenFor_23 2 rfl ?_
  refine x_get 27 rfl (v := .ref (ga 2)) 2 5 rfl rfl (by decide) inX5_isTakenFor_X0 flX5_isTakenFor_49 rfl dX5_isTakenFor_24 ?_
  refine x_iload_n 28 rfl dX5_isTakenFor_27 3 rfl ?_
  refine x_iald 29 rfl 5 x rfl (⟨by omega, by omega⟩) (by decide) (v := ((tN b x : Nat) : Int)) (R.t I hx) dX5_isTakenFor_28 ?_
  refine x_callV 32 rfl (c_X5_turnsBy G wh wa fo le e0 o0 l0 a0 (wdN b x y) (eN b y) (tN b y) (tN b x) (by omega) (by omega) (hty.2) (htx.2)) [0, 1] rfl (by decide) 0 rfl rfl gX5_isTakenFor_X5_turnsBy rfl rfl rfl hd_X5_turnsBy ⟨Nat.le_of_ble_eq_true rfl, Nat.le_of_ble_eq_true rfl⟩ (As := [.int (zI (wdN b x y)), .int (zI ((eN b y : Nat) : Int)), .int (zI ((tN b y : Nat) : Int)), .int (zI ((tN b x : Nat) : Int))]) (rest := []) rfl rfl (Nat.le_of_ble_eq_true rfl) dX5_isTakenFor_29 ⟨Nat.zero_le _, Nat.zero_le _⟩ (fun v w hq => ?_)
  obtain ⟨ez_1, oz_1, lz_1, az_1, rfl, rfl⟩ := hq
  refine ⟨rfl, ?_⟩
  refine x_ws (ws' := [(wh, whE wa fo le), (wa 1, .inr (1, [.int (zI ez_1), .int (zI oz_1), .int (zI lz_1), .int (zB az_1)])), (go, goE ga ((n : Nat) : Int) ((d : Nat) : Int) ((c : Nat) : Int)), (ga 0, aI G 36 (gf 0)), (ga 1, aI G 7 (gf 1)), (ga 2, aI G 7 (gf 2)), (ga 3, aI G 7 (gf 3)), (ga 4, aI G 7 (gf 4)), (ga 5, aI G 6 (gf 5)), (ga 6, aI G 6 (gf 6)), (ga 7, aI G 8 (gf 7))]) (rfl) ?_
  refine x_zret rfl ?_ dX5_isTakenFor_32
  exact ⟨_, _, _, _, rfl, rfl⟩

