theorem hd_X5_turners : yX5_turners.cls = RX5 ∧ yX5_turners.cls ≠ "java/lang/invoke/MethodHandle" ∧ yX5_turners.cls ≠ "java/lang/invoke/VarHandle" ∧ (parseMethodDescriptor yX5_turners.desc).map (fun d => d.parameters.length) = some 4 := by decide +kernel
theorem hd_X5_listen : yX5_listen.cls = RX5 ∧ yX5_listen.cls ≠ "java/lang/invoke/MethodHandle" ∧ yX5_listen.cls ≠ "java/lang/invoke/VarHandle" ∧ (parseMethodDescriptor yX5_listen.desc).map (fun d => d.parameters.length) = some 3 := by decide +kernel
theorem hd_X5_turnersReady : yX5_turnersReady.cls = RX5 ∧ yX5_turnersReady.cls ≠ "java/lang/invoke/MethodHandle" ∧ yX5_turnersReady.cls ≠ "java/lang/invoke/VarHandle" ∧ (parseMethodDescriptor yX5_turnersReady.desc).map (fun d => d.parameters.length) = some 3 := by decide +kernel
theorem hd_X5_findWhistled : yX5_findWhistled.cls = RX5 ∧ yX5_findWhistled.cls ≠ "java/lang/invoke/MethodHandle" ∧ yX5_findWhistled.cls ≠ "java/lang/invoke/VarHandle" ∧ (parseMethodDescriptor yX5_findWhistled.desc).map (fun d => d.parameters.length) = some 4 := by decide +kernel
theorem hd_X5_isTakenFor : yX5_isTakenFor.cls = RX5 ∧ yX5_isTakenFor.cls ≠ "java/lang/invoke/MethodHandle" ∧ yX5_isTakenFor.cls ≠ "java/lang/invoke/VarHandle" ∧ (parseMethodDescriptor yX5_isTakenFor.desc).map (fun d => d.parameters.length) = some 3 := by decide +kernel
theorem hd_X5_turnsBy : yX5_turnsBy.cls = RX5 ∧ yX5_turnsBy.cls ≠ "java/lang/invoke/MethodHandle" ∧ yX5_turnsBy.cls ≠ "java/lang/invoke/VarHandle" ∧ (parseMethodDescriptor yX5_turnsBy.desc).map (fun d => d.parameters.length) = some 4 := by decide +kernel
theorem hd_X5_findClashes : yX5_findClashes.cls = RX5 ∧ yX5_findClashes.cls ≠ "java/lang/invoke/MethodHandle" ∧ yX5_findClashes.cls ≠ "java/lang/invoke/VarHandle" ∧ (parseMethodDescriptor yX5_findClashes.desc).map (fun d => d.parameters.length) = some 1 := by decide +kernel
theorem hd_X5_fewestInEachPair : yX5_fewestInEachPair.cls = RX5 ∧ yX5_fewestInEachPair.cls ≠ "java/lang/invoke/MethodHandle" ∧ yX5_fewestInEachPair.cls ≠ "java/lang/invoke/VarHandle" ∧ (parseMethodDescriptor yX5_fewestInEachPair.desc).map (fun d => d.parameters.length) = some 1 := by decide +kernel
theorem hd_X5_isInEachPair : yX5_isInEachPair.cls = RX5 ∧ yX5_isInEachPair.cls ≠ "java/lang/invoke/MethodHandle" ∧ yX5_isInEachPair.cls ≠ "java/lang/invoke/VarHandle" ∧ (parseMethodDescriptor yX5_isInEachPair.desc).map (fun d => d.parameters.length) = some 2 := by decide +kernel
theorem hd_X5_standsAlone : yX5_standsAlone.cls = RX5 ∧ yX5_standsAlone.cls ≠ "java/lang/invoke/MethodHandle" ∧ yX5_standsAlone.cls ≠ "java/lang/invoke/VarHandle" ∧ (parseMethodDescriptor yX5_standsAlone.desc).map (fun d => d.parameters.length) = some 3 := by decide +kernel
theorem hd_X5_leastNewEnd : yX5_leastNewEnd.cls = RX5 ∧ yX5_leastNewEnd.cls ≠ "java/lang/invoke/MethodHandle" ∧ yX5_leastNewEnd.cls ≠ "java/lang/invoke/VarHandle" ∧ (parseMethodDescriptor yX5_leastNewEnd.desc).map (fun d => d.parameters.length) = some 2 := by decide +kernel
theorem hd_X5_sendWord : yX5_sendWord.cls = RX5 ∧ yX5_sendWord.cls ≠ "java/lang/invoke/MethodHandle" ∧ yX5_sendWord.cls ≠ "java/lang/invoke/VarHandle" ∧ (parseMethodDescriptor yX5_sendWord.desc).map (fun d => d.parameters.length) = some 3 := by decide +kernel
theorem hd_X5_findCallable : yX5_findCallable.cls = RX5 ∧ yX5_findCallable.cls ≠ "java/lang/invoke/MethodHandle" ∧ yX5_findCallable.cls ≠ "java/lang/invoke/VarHandle" ∧ (parseMethodDescriptor yX5_findCallable.desc).map (fun d => d.parameters.length) = some 2 := by decide +kernel
theorem hd_X5_passOn : yX5_passOn.cls = RX5 ∧ yX5_passOn.cls ≠ "java/lang/invoke/MethodHandle" ∧ yX5_passOn.cls ≠ "java/lang/invoke/VarHandle" ∧ (parseMethodDescriptor yX5_passOn.desc).map (fun d => d.parameters.length) = some 2 := by decide +kernel
theorem hd_X5_lastCaller : yX5_lastCaller.cls = RX5 ∧ yX5_lastCaller.cls ≠ "java/lang/invoke/MethodHandle" ∧ yX5_lastCaller.cls ≠ "java/lang/invoke/VarHandle" ∧ (parseMethodDescriptor yX5_lastCaller.desc).map (fun d => d.parameters.length) = some 2 := by decide +kernel
theorem his_vt {ear own w : Nat} (hv : vt own) (hw : w < 4) : leftN (if ear = 2 ∨ ear = 5 then halfN own else own) w = 1 ∨ vt (leftN (if ear = 2 ∨ ear = 5 then halfN own else own) w) := by
  have ho := vt_lt hv
  by_cases e : ear = 2 ∨ ear = 5
  · rw [if_pos e]; exact left_vt _ (vt_lt (half_vt own ho hv)) (half_vt own ho hv) w hw
  · rw [if_neg e]; exact left_vt _ ho hv w hw
abbrev P_X5_turnsBy (G : XG) (wh : Nat) (wa : Nat → Nat) (fo : Int) (le : Int) (e0 : Int) (o0 : Int) (l0 : Int) (a0 : Bool) (g : Int) (ear : Nat) (own : Nat) (tune : Nat) : Option Value → va_W → Prop := fun r ws => ∃ e1 o1 l1 : Int, ∃ a1 : Bool, r = some (.int (zB (tkW (g + 1).toNat ear own tune))) ∧ ws = [(wh, whE wa fo le), (wa 1, .inr (1, [.int (zI e1), .int (zI o1), .int (zI l1), .int (zB a1)]))]
abbrev W_X5_turnsBy (G : XG) (E : XE) (wh : Nat) (wa : Nat → Nat) (fo : Int) (le : Int) (e0 : Int) (o0 : Int) (l0 : Int) (a0 : Bool) (g : Int) (ear : Nat) (own : Nat) (tune : Nat) (pc : Nat) (lv : List (Nat × Value)) (st : List Value) (ws : va_W) : Prop := Wx G E (rmL 3) cX5_turnsBy 6 RX5 wsX5_turnsBy (some .boolean) "turnsBy" 0 0 (P_X5_turnsBy G wh wa fo le e0 o0 l0 a0 g ear own tune) 0 0 pc lv st ws
theorem flX5_turnsBy_28 : Cond.fieldLink RX5 28 (TX5 1).1 (TX5 1).2.1 (TX5 1).2.2.1 ∈ wsX5_turnsBy := by decide +kernel
theorem inX5_turnsBy_X5 : ∀ w ∈ u_ws RX5 TX5 7, w ∈ wsX5_turnsBy := fun _ h => List.mem_cons_of_mem _ (List.mem_append_left _ (List.mem_append_right _ h))
set_option maxHeartbeats 4000000 in
set_option maxRecDepth 100000 in
/-- turnsBy -/
theorem c_X5_turnsBy (G : XG) (wh : Nat) (wa : Nat → Nat) (fo le : Int) (e0 o0 l0 : Int) (a0 : Bool) (g : Int) (ear own tune : Nat) (hg : -1 ≤ g ∧ g ≤ 3) (he : ear < 6) (hv : vt own) (ht : vt tune) : Con G yX5_turnsBy wsX5_turnsBy (rmL 3) 0 0 [.ref wh, .int (zI g), .int (zI ((ear : Nat) : Int)), .int (zI ((own : Nat) : Int)), .int (zI ((tune : Nat) : Int))] ([(wh, whE wa fo le), (wa 1, .inr (1, [.int (zI e0), .int (zI o0), .int (zI l0), .int (zB a0)]))]) (P_X5_turnsBy G wh wa fo le e0 o0 l0 a0 g ear own tune) := by
  refine x_start (cc := cX5_turnsBy) (nL := 6) (ret := (some .boolean)) (by decide) rfl (Nat.le_of_ble_eq_true rfl) (fun E => ?_)
  show W_X5_turnsBy G E wh wa fo le e0 o0 l0 a0 g ear own tune 0 [(0, .ref wh), (1, .int (zI g)), (2, .int (zI ((ear : Nat) : Int))), (3, .int (zI ((own : Nat) : Int))), (4, .int (zI ((tune : Nat) : Int)))] [] ([(wh, whE wa fo le), (wa 1, .inr (1, [.int (zI e0), .int (zI o0), .int (zI l0), .int (zB a0)]))])
  have ho := vt_lt hv
  have htt := vt_lt ht
  refine x_iconst 1 rfl dX5_turnsBy_0 (z := 0) (by decide) ?_
  refine x_istore 3 rfl (lv' := [(5, .int (zI 0)), (0, .ref wh), (1, .int (zI g)), (2, .int (zI ((ear : Nat) : Int))), (3, .int (zI ((own : Nat) : Int))), (4, .int (zI ((tune : Nat) : Int)))]) dX5_turnsBy_1 (by decide) rfl ?_
  have L3 : ∀ (f3 : Nat) (w : Nat) (e1 : Int) (o1 : Int) (l1 : Int) (a1 : Bool) (hw : (w : Int) ≤ g + 1) (hk : anyF (fun w => turnsN ear own tune w) w = false), 5 - w < f3 → W_X5_turnsBy G E wh wa fo le e0 o0 l0 a0 g ear own tune 3 [(0, .ref wh), (1, .int (zI g)), (2, .int (zI ((ear : Nat) : Int))), (3, .int (zI ((own : Nat) : Int))), (4, .int (zI ((tune : Nat) : Int))), (5, .int (zI ((w : Nat) : Int)))] [] ([(wh, whE wa fo le), (wa 1, .inr (1, [.int (zI e1), .int (zI o1), .int (zI l1), .int (zB a1)]))]) := by
    intro f3
    induction f3 with
    | zero => intro w e1 o1 l1 a1 hw hk hf3; exact absurd hf3 (Nat.not_lt_zero _)
    | succ f3 ih3 =>
      intro w e1 o1 l1 a1 hw hk hf3
      refine x_iload 5 rfl dX5_turnsBy_3 5 rfl ?_
      refine x_iload_n 6 rfl dX5_turnsBy_5 1 rfl ?_
      refine x_icmp_gt 9 rfl (tgt := 47) dX5_turnsBy_6 (by decide) (by omega) (by omega) (fun h6 => ?_) (fun h6 => ?_)
      · skip
        refine x_iconst 48 rfl dX5_turnsBy_47 (z := 0) (by decide) ?_
        refine x_int (y := zB (tkW (g + 1).toNat ear own tune)) (zB_f (by unfold tkW; rw [show (g + 1).toNat = w by omega]; exact hk)) ?_
        refine x_zret rfl ?_ dX5_turnsBy_48
        exact ⟨_, _, _, _, rfl, rfl⟩
      · skip
        refine x_aload_n 10 rfl dX5_turnsBy_9 0 rfl ?_
        refine x_get 13 rfl (v := .ref (wa 1)) 0 1 rfl rfl (by decide) inX5_turnsBy_X5 flX5_turnsBy_28 rfl dX5_turnsBy_10 ?_
        refine x_iload_n 14 rfl dX5_turnsBy_13 2 rfl ?_
        refine x_iload_n 15 rfl dX5_turnsBy_14 3 rfl ?_
        refine x_iload 17 rfl dX5_turnsBy_15 5 rfl ?_
        refine x_callV 20 rfl (c_X1_makeReady G (wa 1) e1 o1 l1 a1 ear own w (by omega) (hv) (by omega)) [1] rfl (by decide) 1 rfl rfl gX5_turnsBy_X1_makeReady rfl rfl rfl hd_X1_makeReady ⟨Nat.le_of_ble_eq_true rfl, Nat.le_of_ble_eq_true rfl⟩ (As := [.int (zI ((ear : Nat) : Int)), .int (zI ((own : Nat) : Int)), .int (zI ((w : Nat) : Int))]) (rest := []) rfl rfl (Nat.le_of_ble_eq_true rfl) dX5_turnsBy_17 ⟨Nat.zero_le _, Nat.zero_le _⟩ (fun v w hq => ?_)
        obtain ⟨rfl, rfl⟩ := hq
        refine ⟨rfl, ?_⟩
        refine x_ws (ws' := [(wh, whE wa fo le), (wa 1, .inr (1, [.int (zI ((ear : Nat) : Int)), .int (zI ((own : Nat) : Int)), .int (zI ((leftN (if ear = 2 ∨ ear = 5 then halfN own else own) w : Nat) : Int)), .int (zB (decide (ear = 5 ∧ 1 < w)))]))]) (rfl) ?_
        refine x_aload_n 21 rfl dX5_turnsBy_20 0 rfl ?_
        refine x_get 24 rfl (v := .ref (wa 1)) 0 1 rfl rfl (by decide) inX5_turnsBy_X5 flX5_turnsBy_28 rfl dX5_turnsBy_21 ?_
        refine x_iload 26 rfl dX5_turnsBy_24 4 rfl ?_
        refine x_iload 28 rfl dX5_turnsBy_26 4 rfl ?_
        refine x_iload 30 rfl dX5_turnsBy_28 5 rfl ?_
        refine x_callS0 33 rfl (c_X4_lessLost G tune w ht (by omega)) (fun _ _ h => h.2) gX5_turnsBy_X4_lessLost rfl rfl rfl hd_X4_lessLost ⟨Nat.le_of_ble_eq_true rfl, Nat.le_of_ble_eq_true rfl⟩ (As := [.int (zI ((tune : Nat) : Int)), .int (zI ((w : Nat) : Int))]) (rest := [.int (zI ((tune : Nat) : Int)), .ref (wa 1)]) rfl rfl (Nat.le_of_ble_eq_true rfl) dX5_turnsBy_30 ⟨Nat.zero_le _, Nat.zero_le _⟩ (fun v hq => ?_)
        obtain ⟨rfl, -⟩ := hq
        have hLv : leftN (if ear = 2 ∨ ear = 5 then halfN own else own) w = 1 ∨ vt (leftN (if ear = 2 ∨ ear = 5 then halfN own else own) w) := his_vt hv (by omega)
        refine x_callV 36 rfl (c_X1_turnsAt G (wa 1) ear own (leftN (if ear = 2 ∨ ear = 5 then halfN own else own) w) (decide (ear = 5 ∧ 1 < w)) tune (leftN tune w) (by omega) (by omega) (by omega) (left_vt tune htt ht w (by omega)) (hLv)) [1] rfl (by decide) 1 rfl rfl gX5_turnsBy_X1_turnsAt rfl rfl rfl hd_X1_turnsAt ⟨Nat.le_of_ble_eq_true rfl, Nat.le_of_ble_eq_true rfl⟩ (As := [.int (zI ((tune : Nat) : Int)), .int (zI ((leftN tune w : Nat) : Int))]) (rest := []) rfl rfl (Nat.le_of_ble_eq_true rfl) dX5_turnsBy_33 ⟨Nat.zero_le _, Nat.zero_le _⟩ (fun v w hq => ?_)
        obtain ⟨rfl, rfl⟩ := hq
        refine ⟨rfl, ?_⟩
        refine x_ws (ws' := [(wh, whE wa fo le), (wa 1, .inr (1, [.int (zI ((ear : Nat) : Int)), .int (zI ((own : Nat) : Int)), .int (zI ((leftN (if ear = 2 ∨ ear = 5 then halfN own else own) w : Nat) : Int)), .int (zB (decide (ear = 5 ∧ 1 < w)))]))]) (rfl) ?_
        refine x_int (y := (zB (turnsN ear own tune w))) (congrArg zB (tAt_turns he hv ht (by omega))) ?_
        refine x_bif_eq 39 rfl (tgt := 41) dX5_turnsBy_36 (by decide) (fun h36 => ?_) (fun h36 => ?_)
        · skip
          have hno : turnsN ear own tune w = false := by assumption
          refine x_iinc 44 rfl (lv' := [(5, .int (zI ((w + 1 : Nat) : Int))), (0, .ref wh), (1, .int (zI g)), (2, .int (zI ((ear : Nat) : Int))), (3, .int (zI ((own : Nat) : Int))), (4, .int (zI ((tune : Nat) : Int)))]) dX5_turnsBy_41 5 rfl (b := ((w + 1 : Nat) : Int)) (by omega) (by decide) rfl ?_
          refine x_goto dX5_turnsBy_44 (tgt := 3) (by decide) ?_
          refine x_lv [1, 2, 3, 4, 5, 0] rfl ?_
          exact ih3 (w + 1) ((ear : Nat) : Int) ((own : Nat) : Int) ((leftN (if ear = 2 ∨ ear = 5 then halfN own else own) w : Nat) : Int) (decide (ear = 5 ∧ 1 < w)) (by omega) (anyF_f hk hno) (by omega)
        · skip
          refine x_iconst 40 rfl dX5_turnsBy_39 (z := 1) (by decide) ?_
          refine x_int (y := zB (tkW (g + 1).toNat ear own tune)) (zB_t ((anyF_iff _ _).mpr ⟨w, by omega, (by assumption : turnsN ear own tune w = true)⟩)) ?_
          refine x_zret rfl ?_ dX5_turnsBy_40
          exact ⟨_, _, _, _, rfl, rfl⟩
  refine x_lv [1, 2, 3, 4, 5, 0] rfl ?_
  exact L3 _ 0 e0 o0 l0 a0 (by omega) (rfl) (Nat.lt_succ_self _)

abbrev P_X5_isTakenFor (G : XG) (go : Nat) (ga : Nat → Nat) (b : Nat → Int) (n : Nat) (d : Nat) (c : Nat) (gf : Nat → Nat → Int) (wh : Nat) (wa : Nat → Nat) (fo : Int) (le : Int) (e0 : Int) (o0 : Int) (l0 : Int) (a0 : Bool) (x : Nat) (y : Nat) : Option Value → va_W → Prop := fun r ws => ∃ e1 o1 l1 : Int, ∃ a1 : Bool, r = some (.int (zB (tkP b x y))) ∧ ws = [(wh, whE wa fo le), (wa 1, .inr (1, [.int (zI e1), .int (zI o1), .int (zI l1), .int (zB a1)])), (go, goE ga ((n : Nat) : Int) ((d : Nat) : Int) ((c : Nat) : Int)), (ga 0, aI G 36 (gf 0)), (ga 1, aI G 7 (gf 1)), (ga 2, aI G 7 (gf 2)), (ga 3, aI G 7 (gf 3)), (ga 4, aI G 7 (gf 4)), (ga 5, aI G 6 (gf 5)), (ga 6, aI G 6 (gf 6)), (ga 7, aI G 8 (gf 7))]
abbrev W_X5_isTakenFor (G : XG) (E : XE) (go : Nat) (ga : Nat → Nat) (b : Nat → Int) (n : Nat) (d : Nat) (c : Nat) (gf : Nat → Nat → Int) (wh : Nat) (wa : Nat → Nat) (fo : Int) (le : Int) (e0 : Int) (o0 : Int) (l0 : Int) (a0 : Bool) (x : Nat) (y : Nat) (pc : Nat) (lv : List (Nat × Value)) (st : List Value) (ws : va_W) : Prop := Wx G E (rmL 4) cX5_isTakenFor 5 RX5 wsX5_isTakenFor (some .boolean) "isTakenFor" 0 0 (P_X5_isTakenFor G go ga b n d c gf wh wa fo le e0 o0 l0 a0 x y) 0 0 pc lv st ws
theorem flX5_isTakenFor_46 : Cond.fieldLink RX5 46 (TX0 4).1 (TX0 4).2.1 (TX0 4).2.2.1 ∈ wsX5_isTakenFor := by decide +kernel
theorem flX5_isTakenFor_49 : Cond.fieldLink RX5 49 (TX0 5).1 (TX0 5).2.1 (TX0 5).2.2.1 ∈ wsX5_isTakenFor := by decide +kernel
theorem inX5_isTakenFor_X0 : ∀ w ∈ u_ws RX0 TX0 11, w ∈ wsX5_isTakenFor := fun _ h => List.mem_cons_of_mem _ (List.mem_append_left _ (List.mem_append_left _ (List.mem_append_right _ h)))
set_option maxHeartbeats 4000000 in
set_option maxRecDepth 100000 in
/-- isTakenFor -/
theorem c_X5_isTakenFor (G : XG) (go : Nat) (ga : Nat → Nat) (b : Nat → Int) (n d c : Nat) (gf : Nat → Nat → Int) (I : Inv b n d c) (R : GR b n d c gf) (wh : Nat) (wa : Nat → Nat) (fo le : Int) (e0 o0 l0 : Int) (a0 : Bool) (x y : Nat) (hx : x < n) (hy : y < n) : Con G yX5_isTakenFor wsX5_isTakenFor (rmL 4) 0 0 [.ref wh, .ref go, .int (zI ((x : Nat) : Int)), .int (zI ((y : Nat) : Int))] ([(wh, whE wa fo le), (wa 1, .inr (1, [.int (zI e0), .int (zI o0), .int (zI l0), .int (zB a0)])), (go, goE ga ((n : Nat) : Int) ((d : Nat) : Int) ((c : Nat) : Int)), (ga 0, aI G 36 (gf 0)), (ga 1, aI G 7 (gf 1)), (ga 2, aI G 7 (gf 2)), (ga 3, aI G 7 (gf 3)), (ga 4, aI G 7 (gf 4)), (ga 5, aI G 6 (gf 5)), (ga 6, aI G 6 (gf 6)), (ga 7, aI G 8 (gf 7))]) (P_X5_isTakenFor G go ga b n d c gf wh wa fo le e0 o0 l0 a0 x y) := by
  refine x_start (cc := cX5_isTakenFor) (nL := 5) (ret := (some .boolean)) (by decide) rfl (Nat.le_of_ble_eq_true rfl) (fun E => ?_)
  show W_X5_isTakenFor G E go ga b n d c gf wh wa fo le e0 o0 l0 a0 x y 0 [(0, .ref wh), (1, .ref go), (2, .int (zI ((x : Nat) : Int))), (3, .int (zI ((y : Nat) : Int)))] [] ([(wh, whE wa fo le), (wa 1, .inr (1, [.int (zI e0), .int (zI o0), .int (zI l0), .int (zB a0)])), (go, goE ga ((n : Nat) : Int) ((d : Nat) : Int) ((c : Nat) : Int)), (ga 0, aI G 36 (gf 0)), (ga 1, aI G 7 (gf 1)), (ga 2, aI G 7 (gf 2)), (ga 3, aI G 7 (gf 3)), (ga 4, aI G 7 (gf 4)), (ga 5, aI G 6 (gf 5)), (ga 6, aI G 6 (gf 6)), (ga 7, aI G 8 (gf 7))])
  have hn7 := I.n7
  have hd6 := I.d6
  have hc8 := I.c8
  have hrr := wdN_r I hx hy
  have hey := I.e hy
  have hty := I.t hy
  have htx := I.t hx
  refine x_aload_n 1 rfl dX5_isTakenFor_0 1 rfl ?_
  refine x_iload_n 2 rfl dX5_isTakenFor_1 2 rfl ?_
  refine x_iload_n 3 rfl dX5_isTakenFor_2 3 rfl ?_
  refine x_callV 6 rfl (c_X0_greatestSharedWind G go ga b n d c gf I R x y (by omega) (by omega)) [2, 3, 4, 5, 6, 7, 8, 9, 10] rfl (by decide) 2 rfl rfl gX5_isTakenFor_X0_greatestSharedWind rfl rfl rfl hd_X0_greatestSharedWind ⟨Nat.le_of_ble_eq_true rfl, Nat.le_of_ble_eq_true rfl⟩ (As := [.int (zI ((x : Nat) : Int)), .int (zI ((y : Nat) : Int))]) (rest := []) rfl rfl (Nat.le_of_ble_eq_true rfl) dX5_isTakenFor_3 ⟨Nat.zero_le _, Nat.zero_le _⟩ (fun v w hq => ?_)
  obtain ⟨rfl, rfl⟩ := hq
  refine ⟨rfl, ?_⟩
  refine x_ws (ws' := [(wh, whE wa fo le), (wa 1, .inr (1, [.int (zI e0), .int (zI o0), .int (zI l0), .int (zB a0)])), (go, goE ga ((n : Nat) : Int) ((d : Nat) : Int) ((c : Nat) : Int)), (ga 0, aI G 36 (gf 0)), (ga 1, aI G 7 (gf 1)), (ga 2, aI G 7 (gf 2)), (ga 3, aI G 7 (gf 3)), (ga 4, aI G 7 (gf 4)), (ga 5, aI G 6 (gf 5)), (ga 6, aI G 6 (gf 6)), (ga 7, aI G 8 (gf 7))]) (rfl) ?_
  refine x_istore 8 rfl (lv' := [(4, .int (zI (wdN b x y))), (0, .ref wh), (1, .ref go), (2, .int (zI ((x : Nat) : Int))), (3, .int (zI ((y : Nat) : Int)))]) dX5_isTakenFor_6 (by decide) rfl ?_
  refine x_aload_n 9 rfl dX5_isTakenFor_8 1 rfl ?_
  refine x_iload 11 rfl dX5_isTakenFor_9 0 rfl ?_
  refine x_aload_n 12 rfl dX5_isTakenFor_11 2 rfl ?_
  refine x_get 15 rfl (v := .ref (ga 1)) 2 4 rfl rfl (by decide) inX5_isTakenFor_X0 flX5_isTakenFor_46 rfl dX5_isTakenFor_12 ?_
  refine x_iload_n 16 rfl dX5_isTakenFor_15 4 rfl ?_
  refine x_iald 17 rfl 4 y rfl (⟨by omega, by omega⟩) (by decide) (v := ((eN b y : Nat) : Int)) (R.e I hy) dX5_isTakenFor_16 ?_
  refine x_aload_n 18 rfl dX5_isTakenFor_17 2 rfl ?_
  refine x_get 21 rfl (v := .ref (ga 2)) 2 5 rfl rfl (by decide) inX5_isTakenFor_X0 flX5_isTakenFor_49 rfl dX5_isTakenFor_18 ?_
  refine x_iload_n 22 rfl dX5_isTakenFor_21 4 rfl ?_
  refine x_iald 23 rfl 5 y rfl (⟨by omega, by omega⟩) (by decide) (v := ((tN b y : Nat) : Int)) (R.t I hy) dX5_isTakenFor_22 ?_
  refine x_aload_n 24 rfl dX5_isTakenFor_23 2 rfl ?_
  refine x_get 27 rfl (v := .ref (ga 2)) 2 5 rfl rfl (by decide) inX5_isTakenFor_X0 flX5_isTakenFor_49 rfl dX5_isTakenFor_24 ?_
  refine x_iload_n 28 rfl dX5_isTakenFor_27 3 rfl ?_
  refine x_iald 29 rfl 5 x rfl (⟨by omega, by omega⟩) (by decide) (v := ((tN b x : Nat) : Int)) (R.t I hx) dX5_isTakenFor_28 ?_
  refine x_callV 32 rfl (c_X5_turnsBy G wh wa fo le e0 o0 l0 a0 (wdN b x y) (eN b y) (tN b y) (tN b x) (by omega) (by omega) (hty.2) (htx.2)) [0, 1] rfl (by decide) 0 rfl rfl gX5_isTakenFor_X5_turnsBy rfl rfl rfl hd_X5_turnsBy ⟨Nat.le_of_ble_eq_true rfl, Nat.le_of_ble_eq_true rfl⟩ (As := [.int (zI (wdN b x y)), .int (zI ((eN b y : Nat) : Int)), .int (zI ((tN b y : Nat) : Int)), .int (zI ((tN b x : Nat) : Int))]) (rest := []) rfl rfl (Nat.le_of_ble_eq_true rfl) dX5_isTakenFor_29 ⟨Nat.zero_le _, Nat.zero_le _⟩ (fun v w hq => ?_)
  obtain ⟨ez_1, oz_1, lz_1, az_1, rfl, rfl⟩ := hq
  refine ⟨rfl, ?_⟩
  refine x_ws (ws' := [(wh, whE wa fo le), (wa 1, .inr (1, [.int (zI ez_1), .int (zI oz_1), .int (zI lz_1), .int (zB az_1)])), (go, goE ga ((n : Nat) : Int) ((d : Nat) : Int) ((c : Nat) : Int)), (ga 0, aI G 36 (gf 0)), (ga 1, aI G 7 (gf 1)), (ga 2, aI G 7 (gf 2)), (ga 3, aI G 7 (gf 3)), (ga 4, aI G 7 (gf 4)), (ga 5, aI G 6 (gf 5)), (ga 6, aI G 6 (gf 6)), (ga 7, aI G 8 (gf 7))]) (rfl) ?_
  refine x_zret rfl ?_ dX5_isTakenFor_32
  exact ⟨_, _, _, _, rfl, rfl⟩

def clG (b : Nat → Int) (x e : Nat) : Bool := decide (x ≠ e) && clP b x e
theorem clG_e {b : Nat → Int} {x e : Nat} (h : x = e) : clG b x e = false := by unfold clG; rw [decide_eq_false (by omega)]; rfl
theorem clG_f {b : Nat → Int} {x e : Nat} (h : tkP b x e = false) (g : tkP b e x = false) : clG b x e = false := by
  unfold clG; rw [show clP b x e = (tkP b x e || tkP b e x) from rfl, h, g]; exact Bool.and_false _
theorem clG_1 {b : Nat → Int} {x e : Nat} (n : ¬ x = e) (h : tkP b x e = true) : clG b x e = true := by
  unfold clG; rw [show clP b x e = (tkP b x e || tkP b e x) from rfl, h, decide_eq_true n]; rfl
theorem clG_2 {b : Nat → Int} {x e : Nat} (n : ¬ x = e) (h : tkP b e x = true) : clG b x e = true := by
  unfold clG; rw [show clP b x e = (tkP b x e || tkP b e x) from rfl, h, decide_eq_true n, Bool.or_true]; rfl
abbrev P_X5_findClashes (G : XG) (go : Nat) (ga : Nat → Nat) (b : Nat → Int) (n : Nat) (d : Nat) (c : Nat) (gf : Nat → Nat → Int) (wh : Nat) (wa : Nat → Nat) (fo : Int) (le : Int) (e0 : Int) (o0 : Int) (l0 : Int) (a0 : Bool) (cf : Nat → Int) : Option Value → va_W → Prop := fun r ws => ∃ e1 o1 l1 : Int, ∃ a1 : Bool, ∃ cf' : Nat → Int, r = none ∧ ws = [(wh, whE wa fo le), (wa 1, .inr (1, [.int (zI e1), .int (zI o1), .int (zI l1), .int (zB a1)])), (wa 3, aI G 7 cf'), (go, goE ga ((n : Nat) : Int) ((d : Nat) : Int) ((c : Nat) : Int)), (ga 0, aI G 36 (gf 0)), (ga 1, aI G 7 (gf 1)), (ga 2, aI G 7 (gf 2)), (ga 3, aI G 7 (gf 3)), (ga 4, aI G 7 (gf 4)), (ga 5, aI G 6 (gf 5)), (ga 6, aI G 6 (gf 6)), (ga 7, aI G 8 (gf 7))] ∧ ∀ i, i < n → cf' i = ((bitF (clG b i) n : Nat) : Int)
abbrev W_X5_findClashes (G : XG) (E : XE) (go : Nat) (ga : Nat → Nat) (b : Nat → Int) (n : Nat) (d : Nat) (c : Nat) (gf : Nat → Nat → Int) (wh : Nat) (wa : Nat → Nat) (fo : Int) (le : Int) (e0 : Int) (o0 : Int) (l0 : Int) (a0 : Bool) (cf : Nat → Int) (pc : Nat) (lv : List (Nat × Value)) (st : List Value) (ws : va_W) : Prop := Wx G E (rmL 5) cX5_findClashes 4 RX5 wsX5_findClashes none "findClashes" 0 0 (P_X5_findClashes G go ga b n d c gf wh wa fo le e0 o0 l0 a0 cf) 0 0 pc lv st ws
theorem flX5_findClashes_15 : Cond.fieldLink RX5 15 (TX5 3).1 (TX5 3).2.1 (TX5 3).2.2.1 ∈ wsX5_findClashes := by decide +kernel
theorem flX5_findClashes_36 : Cond.fieldLink RX5 36 (TX0 0).1 (TX0 0).2.1 (TX0 0).2.2.1 ∈ wsX5_findClashes := by decide +kernel
theorem inX5_findClashes_X0 : ∀ w ∈ u_ws RX0 TX0 11, w ∈ wsX5_findClashes := fun _ h => List.mem_cons_of_mem _ (List.mem_append_left _ (List.mem_append_left _ (List.mem_append_right _ h)))
theorem inX5_findClashes_X5 : ∀ w ∈ u_ws RX5 TX5 7, w ∈ wsX5_findClashes := fun _ h => List.mem_cons_of_mem _ (List.mem_append_left _ (List.mem_append_right _ h))
set_option maxHeartbeats 4000000 in
set_option maxRecDepth 100000 in
/-- findClashes -/
theorem c_X5_findClashes (G : XG) (go : Nat) (ga : Nat → Nat) (b : Nat → Int) (n d c : Nat) (gf : Nat → Nat → Int) (I : Inv b n d c) (R : GR b n d c gf) (wh : Nat) (wa : Nat → Nat) (fo le : Int) (e0 o0 l0 : Int) (a0 : Bool) (cf : Nat → Int)  : Con G yX5_findClashes wsX5_findClashes (rmL 5) 0 0 [.ref wh, .ref go] ([(wh, whE wa fo le), (wa 1, .inr (1, [.int (zI e0), .int (zI o0), .int (zI l0), .int (zB a0)])), (wa 3, aI G 7 cf), (go, goE ga ((n : Nat) : Int) ((d : Nat) : Int) ((c : Nat) : Int)), (ga 0, aI G 36 (gf 0)), (ga 1, aI G 7 (gf 1)), (ga 2, aI G 7 (gf 2)), (ga 3, aI G 7 (gf 3)), (ga 4, aI G 7 (gf 4)), (ga 5, aI G 6 (gf 5)), (ga 6, aI G 6 (gf 6)), (ga 7, aI G 8 (gf 7))]) (P_X5_findClashes G go ga b n d c gf wh wa fo le e0 o0 l0 a0 cf) := by
  refine x_start (cc := cX5_findClashes) (nL := 4) (ret := none) (by decide) rfl (Nat.le_of_ble_eq_true rfl) (fun E => ?_)
  show W_X5_findClashes G E go ga b n d c gf wh wa fo le e0 o0 l0 a0 cf 0 [(0, .ref wh), (1, .ref go)] [] ([(wh, whE wa fo le), (wa 1, .inr (1, [.int (zI e0), .int (zI o0), .int (zI l0), .int (zB a0)])), (wa 3, aI G 7 cf), (go, goE ga ((n : Nat) : Int) ((d : Nat) : Int) ((c : Nat) : Int)), (ga 0, aI G 36 (gf 0)), (ga 1, aI G 7 (gf 1)), (ga 2, aI G 7 (gf 2)), (ga 3, aI G 7 (gf 3)), (ga 4, aI G 7 (gf 4)), (ga 5, aI G 6 (gf 5)), (ga 6, aI G 6 (gf 6)), (ga 7, aI G 8 (gf 7))])
  have hn7 := I.n7
  have hd6 := I.d6
  have hc8 := I.c8
  refine x_iconst 1 rfl dX5_findClashes_0 (z := 0) (by decide) ?_
  refine x_istore_n 2 rfl (lv' := [(2, .int (zI 0)), (0, .ref wh), (1, .ref go)]) dX5_findClashes_1 (by decide) rfl ?_
  have L2 : ∀ (f2 : Nat) (x : Nat) (f : Nat → Int) (e1 : Int) (o1 : Int) (l1 : Int) (a1 : Bool) (hx : x ≤ n) (hf : ∀ i, i < x → f i = ((bitF (clG b i) n : Nat) : Int)), n - x < f2 → W_X5_findClashes G E go ga b n d c gf wh wa fo le e0 o0 l0 a0 cf 2 [(0, .ref wh), (1, .ref go), (2, .int (zI ((x : Nat) : Int)))] [] ([(wh, whE wa fo le), (wa 1, .inr (1, [.int (zI e1), .int (zI o1), .int (zI l1), .int (zB a1)])), (wa 3, aI G 7 f), (go, goE ga ((n : Nat) : Int) ((d : Nat) : Int) ((c : Nat) : Int)), (ga 0, aI G 36 (gf 0)), (ga 1, aI G 7 (gf 1)), (ga 2, aI G 7 (gf 2)), (ga 3, aI G 7 (gf 3)), (ga 4, aI G 7 (gf 4)), (ga 5, aI G 6 (gf 5)), (ga 6, aI G 6 (gf 6)), (ga 7, aI G 8 (gf 7))]) := by
    intro f2
    induction f2 with
    | zero => intro x f e1 o1 l1 a1 hx hf hf2; exact absurd hf2 (Nat.not_lt_zero _)
    | succ f2 ih2 =>
      intro x f e1 o1 l1 a1 hx hf hf2
      refine x_iload_n 3 rfl dX5_findClashes_2 2 rfl ?_
      refine x_aload_n 4 rfl dX5_findClashes_3 1 rfl ?_
      refine x_get 7 rfl (v := .int (zI ((n : Nat) : Int))) 3 0 rfl rfl (by decide) inX5_findClashes_X0 flX5_findClashes_36 rfl dX5_findClashes_4 ?_
      refine x_icmp_ge 10 rfl (tgt := 76) dX5_findClashes_7 (by decide) (by omega) (by omega) (fun h7 => ?_) (fun h7 => ?_)
      · skip
        refine x_vret rfl ?_ dX5_findClashes_76
        have e : x = n := by omega
        exact ⟨_, _, _, _, f, rfl, rfl, fun i hi => hf i (by omega)⟩
      · skip
        refine x_aload_n 11 rfl dX5_findClashes_10 0 rfl ?_
        refine x_get 14 rfl (v := .ref (wa 3)) 0 3 rfl rfl (by decide) inX5_findClashes_X5 flX5_findClashes_15 rfl dX5_findClashes_11 ?_
        refine x_iload_n 15 rfl dX5_findClashes_14 2 rfl ?_
        refine x_iconst 16 rfl dX5_findClashes_15 (z := 0) (by decide) ?_
        refine x_iast 17 rfl 2 x rfl (⟨by omega, by omega⟩) (by decide) (ws' := [(wh, whE wa fo le), (wa 1, .inr (1, [.int (zI e1), .int (zI o1), .int (zI l1), .int (zB a1)])), (wa 3, aI G 7 (zup f x 0)), (go, goE ga ((n : Nat) : Int) ((d : Nat) : Int) ((c : Nat) : Int)), (ga 0, aI G 36 (gf 0)), (ga 1, aI G 7 (gf 1)), (ga 2, aI G 7 (gf 2)), (ga 3, aI G 7 (gf 3)), (ga 4, aI G 7 (gf 4)), (ga 5, aI G 6 (gf 5)), (ga 6, aI G 6 (gf 6)), (ga 7, aI G 8 (gf 7))]) (rfl) dX5_findClashes_16 ?_
        refine x_iconst 18 rfl dX5_findClashes_17 (z := 0) (by decide) ?_
        refine x_istore_n 19 rfl (lv' := [(3, .int (zI 0)), (0, .ref wh), (1, .ref go), (2, .int (zI ((x : Nat) : Int)))]) dX5_findClashes_18 (by decide) rfl ?_
        have L19 : ∀ (f19 : Nat) (y : Nat) (f : Nat → Int) (e1 : Int) (o1 : Int) (l1 : Int) (a1 : Bool) (hy : y ≤ n) (hf : ∀ i, i < x → f i = ((bitF (clG b i) n : Nat) : Int)) (hfx : f x = ((bitF (clG b x) y : Nat) : Int)), n - y < f19 → W_X5_findClashes G E go ga b n d c gf wh wa fo le e0 o0 l0 a0 cf 19 [(0, .ref wh), (1, .ref go), (2, .int (zI ((x : Nat) : Int))), (3, .int (zI ((y : Nat) : Int)))] [] ([(wh, whE wa fo le), (wa 1, .inr (1, [.int (zI e1), .int (zI o1), .int (zI l1), .int (zB a1)])), (wa 3, aI G 7 f), (go, goE ga ((n : Nat) : Int) ((d : Nat) : Int) ((c : Nat) : Int)), (ga 0, aI G 36 (gf 0)), (ga 1, aI G 7 (gf 1)), (ga 2, aI G 7 (gf 2)), (ga 3, aI G 7 (gf 3)), (ga 4, aI G 7 (gf 4)), (ga 5, aI G 6 (gf 5)), (ga 6, aI G 6 (gf 6)), (ga 7, aI G 8 (gf 7))]) := by
          intro f19
          induction f19 with
          | zero => intro y f e1 o1 l1 a1 hy hf hfx hf19; exact absurd hf19 (Nat.not_lt_zero _)
          | succ f19 ih19 =>
            intro y f e1 o1 l1 a1 hy hf hfx hf19
            refine x_iload_n 20 rfl dX5_findClashes_19 3 rfl ?_
            refine x_aload_n 21 rfl dX5_findClashes_20 1 rfl ?_
            refine x_get 24 rfl (v := .int (zI ((n : Nat) : Int))) 3 0 rfl rfl (by decide) inX5_findClashes_X0 flX5_findClashes_36 rfl dX5_findClashes_21 ?_
            refine x_icmp_ge 27 rfl (tgt := 70) dX5_findClashes_24 (by decide) (by omega) (by omega) (fun h24 => ?_) (fun h24 => ?_)
            · skip
              refine x_iinc 73 rfl (lv' := [(2, .int (zI ((x + 1 : Nat) : Int))), (0, .ref wh), (1, .ref go), (3, .int (zI ((y : Nat) : Int)))]) dX5_findClashes_70 2 rfl (b := ((x + 1 : Nat) : Int)) (by omega) (by decide) rfl ?_
              refine x_goto dX5_findClashes_73 (tgt := 2) (by decide) ?_
              refine x_lv [1, 2, 0] rfl ?_
              exact ih2 (x + 1) f e1 o1 l1 a1 (by omega) (fun i hi => by
        by_cases e : i = x
        · subst e; rw [hfx, show y = n by omega]
        · exact hf i (by omega)) (by omega)
            · skip
              refine x_iload_n 28 rfl dX5_findClashes_27 2 rfl ?_
              refine x_iload_n 29 rfl dX5_findClashes_28 3 rfl ?_
              refine x_icmp_eq 32 rfl (tgt := 64) dX5_findClashes_29 (by decide) (by omega) (by omega) (fun h29 => ?_) (fun h29 => ?_)
              · skip
                refine x_iinc 67 rfl (lv' := [(3, .int (zI ((y + 1 : Nat) : Int))), (0, .ref wh), (1, .ref go), (2, .int (zI ((x : Nat) : Int)))]) dX5_findClashes_64 3 rfl (b := ((y + 1 : Nat) : Int)) (by omega) (by decide) rfl ?_
                refine x_goto dX5_findClashes_67 (tgt := 19) (by decide) ?_
                refine x_lv [1, 2, 3, 0] rfl ?_
                exact ih19 (y + 1) f e1 o1 l1 a1 (by omega) (hf) (by rw [hfx, bitF_f (f := clG b x) (k := y) (by first | exact clG_e (by omega) | exact clG_f (by assumption) (by assumption))]) (by omega)
              · skip
                refine x_aload_n 33 rfl dX5_findClashes_32 0 rfl ?_
                refine x_aload_n 34 rfl dX5_findClashes_33 1 rfl ?_
                refine x_iload_n 35 rfl dX5_findClashes_34 2 rfl ?_
                refine x_iload_n 36 rfl dX5_findClashes_35 3 rfl ?_
                refine x_callV 39 rfl (c_X5_isTakenFor G go ga b n d c gf I R wh wa fo le e1 o1 l1 a1 x y (by omega) (by omega)) [0, 1, 3, 4, 5, 6, 7, 8, 9, 10, 11] rfl (by decide) 0 rfl rfl gX5_findClashes_X5_isTakenFor rfl rfl rfl hd_X5_isTakenFor ⟨Nat.le_of_ble_eq_true rfl, Nat.le_of_ble_eq_true rfl⟩ (As := [.ref go, .int (zI ((x : Nat) : Int)), .int (zI ((y : Nat) : Int))]) (rest := []) rfl rfl (Nat.le_of_ble_eq_true rfl) dX5_findClashes_36 ⟨Nat.zero_le _, Nat.zero_le _⟩ (fun v w hq => ?_)
                obtain ⟨ez_1, oz_1, lz_1, az_1, rfl, rfl⟩ := hq
                refine ⟨rfl, ?_⟩
                refine x_ws (ws' := [(wh, whE wa fo le), (wa 1, .inr (1, [.int (zI ez_1), .int (zI oz_1), .int (zI lz_1), .int (zB az_1)])), (wa 3, aI G 7 f), (go, goE ga ((n : Nat) : Int) ((d : Nat) : Int) ((c : Nat) : Int)), (ga 0, aI G 36 (gf 0)), (ga 1, aI G 7 (gf 1)), (ga 2, aI G 7 (gf 2)), (ga 3, aI G 7 (gf 3)), (ga 4, aI G 7 (gf 4)), (ga 5, aI G 6 (gf 5)), (ga 6, aI G 6 (gf 6)), (ga 7, aI G 8 (gf 7))]) (rfl) ?_
                refine x_bif_ne 42 rfl (tgt := 52) dX5_findClashes_39 (by decide) (fun h39 => ?_) (fun h39 => ?_)
                · skip
                  refine x_aload_n 53 rfl dX5_findClashes_52 0 rfl ?_
                  refine x_get 56 rfl (v := .ref (wa 3)) 0 3 rfl rfl (by decide) inX5_findClashes_X5 flX5_findClashes_15 rfl dX5_findClashes_53 ?_
                  refine x_iload_n 57 rfl dX5_findClashes_56 2 rfl ?_
                  refine x_dup2 58 rfl dX5_findClashes_57 rfl rfl ?_
                  refine x_iald 59 rfl 2 x rfl (⟨by omega, by omega⟩) (by decide) (v := ((bitF (clG b x) y : Nat) : Int)) (hfx) dX5_findClashes_58 ?_
                  have hbl := bitF_lt (clG b x) y
                  have hpk : 2 ^ y ≤ 2 ^ 6 := Nat.pow_le_pow_right (by decide) (by omega)
                  refine x_iconst 60 rfl dX5_findClashes_59 (z := 1) (by decide) ?_
                  refine x_iload_n 61 rfl dX5_findClashes_60 3 rfl ?_
                  refine x_ishl 62 rfl dX5_findClashes_61 (z := ((2 ^ y : Nat) : Int)) (zI_shl1 (i := y) (by omega)) ?_
                  refine x_ior 63 rfl dX5_findClashes_62 (z := (((bitF (clG b x) y) ||| (2 ^ y) : Nat) : Int)) (zI_or (a := (bitF (clG b x) y)) (b := (2 ^ y)) (by omega) (by omega)) ?_
                  refine x_iast 64 rfl 2 x rfl (⟨by omega, by omega⟩) (by decide) (ws' := [(wh, whE wa fo le), (wa 1, .inr (1, [.int (zI ez_1), .int (zI oz_1), .int (zI lz_1), .int (zB az_1)])), (wa 3, aI G 7 (zup f x (((bitF (clG b x) y) ||| (2 ^ y) : Nat) : Int))), (go, goE ga ((n : Nat) : Int) ((d : Nat) : Int) ((c : Nat) : Int)), (ga 0, aI G 36 (gf 0)), (ga 1, aI G 7 (gf 1)), (ga 2, aI G 7 (gf 2)), (ga 3, aI G 7 (gf 3)), (ga 4, aI G 7 (gf 4)), (ga 5, aI G 6 (gf 5)), (ga 6, aI G 6 (gf 6)), (ga 7, aI G 8 (gf 7))]) (rfl) dX5_findClashes_63 ?_
                  refine x_iinc 67 rfl (lv' := [(3, .int (zI ((y + 1 : Nat) : Int))), (0, .ref wh), (1, .ref go), (2, .int (zI ((x : Nat) : Int)))]) dX5_findClashes_64 3 rfl (b := ((y + 1 : Nat) : Int)) (by omega) (by decide) rfl ?_
                  refine x_goto dX5_findClashes_67 (tgt := 19) (by decide) ?_
                  refine x_lv [1, 2, 3, 0] rfl ?_
                  exact ih19 (y + 1) (zup f x (((bitF (clG b x) y) ||| (2 ^ y) : Nat) : Int)) ez_1 oz_1 lz_1 az_1 (by omega) (fun i hi => (zup_n _ _ (by omega)).trans (hf i hi)) (by rw [zup_s, bitF_t (f := clG b x) (k := y) (by first | exact clG_1 (by omega) (by assumption) | exact clG_2 (by omega) (by assumption))]) (by omega)
                · skip
                  refine x_aload_n 43 rfl dX5_findClashes_42 0 rfl ?_
                  refine x_aload_n 44 rfl dX5_findClashes_43 1 rfl ?_
                  refine x_iload_n 45 rfl dX5_findClashes_44 3 rfl ?_
                  refine x_iload_n 46 rfl dX5_findClashes_45 2 rfl ?_
                  refine x_callV 49 rfl (c_X5_isTakenFor G go ga b n d c gf I R wh wa fo le ez_1 oz_1 lz_1 az_1 y x (by omega) (by omega)) [0, 1, 3, 4, 5, 6, 7, 8, 9, 10, 11] rfl (by decide) 0 rfl rfl gX5_findClashes_X5_isTakenFor rfl rfl rfl hd_X5_isTakenFor ⟨Nat.le_of_ble_eq_true rfl, Nat.le_of_ble_eq_true rfl⟩ (As := [.ref go, .int (zI ((y : Nat) : Int)), .int (zI ((x : Nat) : Int))]) (rest := []) rfl rfl (Nat.le_of_ble_eq_true rfl) dX5_findClashes_46 ⟨Nat.zero_le _, Nat.zero_le _⟩ (fun v w hq => ?_)
                  obtain ⟨ez_2, oz_2, lz_2, az_2, rfl, rfl⟩ := hq
                  refine ⟨rfl, ?_⟩
                  refine x_ws (ws' := [(wh, whE wa fo le), (wa 1, .inr (1, [.int (zI ez_2), .int (zI oz_2), .int (zI lz_2), .int (zB az_2)])), (wa 3, aI G 7 f), (go, goE ga ((n : Nat) : Int) ((d : Nat) : Int) ((c : Nat) : Int)), (ga 0, aI G 36 (gf 0)), (ga 1, aI G 7 (gf 1)), (ga 2, aI G 7 (gf 2)), (ga 3, aI G 7 (gf 3)), (ga 4, aI G 7 (gf 4)), (ga 5, aI G 6 (gf 5)), (ga 6, aI G 6 (gf 6)), (ga 7, aI G 8 (gf 7))]) (rfl) ?_
                  refine x_bif_eq 52 rfl (tgt := 64) dX5_findClashes_49 (by decide) (fun h49 => ?_) (fun h49 => ?_)
                  · skip
                    refine x_iinc 67 rfl (lv' := [(3, .int (zI ((y + 1 : Nat) : Int))), (0, .ref wh), (1, .ref go), (2, .int (zI ((x : Nat) : Int)))]) dX5_findClashes_64 3 rfl (b := ((y + 1 : Nat) : Int)) (by omega) (by decide) rfl ?_
                    refine x_goto dX5_findClashes_67 (tgt := 19) (by decide) ?_
                    refine x_lv [1, 2, 3, 0] rfl ?_
                    exact ih19 (y + 1) f ez_2 oz_2 lz_2 az_2 (by omega) (hf) (by rw [hfx, bitF_f (f := clG b x) (k := y) (by first | exact clG_e (by omega) | exact clG_f (by assumption) (by assumption))]) (by omega)
                  · skip
                    refine x_aload_n 53 rfl dX5_findClashes_52 0 rfl ?_
                    refine x_get 56 rfl (v := .ref (wa 3)) 0 3 rfl rfl (by decide) inX5_findClashes_X5 flX5_findClashes_15 rfl dX5_findClashes_53 ?_
                    refine x_iload_n 57 rfl dX5_findClashes_56 2 rfl ?_
                    refine x_dup2 58 rfl dX5_findClashes_57 rfl rfl ?_
                    refine x_iald 59 rfl 2 x rfl (⟨by omega, by omega⟩) (by decide) (v := ((bitF (clG b x) y : Nat) : Int)) (hfx) dX5_findClashes_58 ?_
                    have hbl := bitF_lt (clG b x) y
                    have hpk : 2 ^ y ≤ 2 ^ 6 := Nat.pow_le_pow_right (by decide) (by omega)
                    refine x_iconst 60 rfl dX5_findClashes_59 (z := 1) (by decide) ?_
                    refine x_iload_n 61 rfl dX5_findClashes_60 3 rfl ?_
                    refine x_ishl 62 rfl dX5_findClashes_61 (z := ((2 ^ y : Nat) : Int)) (zI_shl1 (i := y) (by omega)) ?_
                    refine x_ior 63 rfl dX5_findClashes_62 (z := (((bitF (clG b x) y) ||| (2 ^ y) : Nat) : Int)) (zI_or (a := (bitF (clG b x) y)) (b := (2 ^ y)) (by omega) (by omega)) ?_
                    refine x_iast 64 rfl 2 x rfl (⟨by omega, by omega⟩) (by decide) (ws' := [(wh, whE wa fo le), (wa 1, .inr (1, [.int (zI ez_2), .int (zI oz_2), .int (zI lz_2), .int (zB az_2)])), (wa 3, aI G 7 (zup f x (((bitF (clG b x) y) ||| (2 ^ y) : Nat) : Int))), (go, goE ga ((n : Nat) : Int) ((d : Nat) : Int) ((c : Nat) : Int)), (ga 0, aI G 36 (gf 0)), (ga 1, aI G 7 (gf 1)), (ga 2, aI G 7 (gf 2)), (ga 3, aI G 7 (gf 3)), (ga 4, aI G 7 (gf 4)), (ga 5, aI G 6 (gf 5)), (ga 6, aI G 6 (gf 6)), (ga 7, aI G 8 (gf 7))]) (rfl) dX5_findClashes_63 ?_
                    refine x_iinc 67 rfl (lv' := [(3, .int (zI ((y + 1 : Nat) : Int))), (0, .ref wh), (1, .ref go), (2, .int (zI ((x : Nat) : Int)))]) dX5_findClashes_64 3 rfl (b := ((y + 1 : Nat) : Int)) (by omega) (by decide) rfl ?_
                    refine x_goto dX5_findClashes_67 (tgt := 19) (by decide) ?_
                    refine x_lv [1, 2, 3, 0] rfl ?_
                    exact ih19 (y + 1) (zup f x (((bitF (clG b x) y) ||| (2 ^ y) : Nat) : Int)) ez_2 oz_2 lz_2 az_2 (by omega) (fun i hi => (zup_n _ _ (by omega)).trans (hf i hi)) (by rw [zup_s, bitF_t (f := clG b x) (k := y) (by first | exact clG_1 (by omega) (by assumption) | exact clG_2 (by omega) (by assumption))]) (by omega)
        refine x_lv [1, 2, 3, 0] rfl ?_
        exact L19 _ 0 (zup f x 0) e1 o1 l1 a1 (by omega) (fun i hi => (zup_n _ _ (by omega)).trans (hf i hi)) (zup_s _ _ _) (Nat.lt_succ_self _)
  refine x_lv [1, 2, 0] rfl ?_
  exact L2 _ 0 cf e0 o0 l0 a0 (by omega) (fun i hi => absurd hi (Nat.not_lt_zero _)) (Nat.lt_succ_self _)

theorem ownF_e {b : Nat → Int} {p tune x : Nat} (h : x = p) : ownF b p tune x = true := by unfold ownF; rw [decide_eq_true h]; rfl
theorem own_cl (b : Nat → Int) (p tune x : Nat) : clN b p tune x (tN b x) = (tkW (wdN b p x + 1).toNat (eN b x) (tN b x) tune || tkW (wdN b p x + 1).toNat (eN b p) tune (tN b x)) := by
  rw [show clN b p tune x (tN b x) = (tkW (wdM b p x) (eN b x) (tN b x) tune || tkW (wdM b x p) (eN b p) tune (tN b x)) from rfl, wdM_sym b x p]; rfl
theorem ownF_t {b : Nat → Int} {p tune x : Nat} (h1 : tkW (wdN b p x + 1).toNat (eN b x) (tN b x) tune = false) (h2 : tkW (wdN b p x + 1).toNat (eN b p) tune (tN b x) = false) : ownF b p tune x = true := by
  unfold ownF; rw [own_cl, h1, h2]; exact Bool.or_true _
theorem ownF_1 {b : Nat → Int} {p tune x : Nat} (n : ¬ x = p) (h1 : tkW (wdN b p x + 1).toNat (eN b x) (tN b x) tune = true) : ownF b p tune x = false := by
  unfold ownF; rw [own_cl, h1, decide_eq_false n]; rfl
theorem ownF_2 {b : Nat → Int} {p tune x : Nat} (n : ¬ x = p) (h2 : tkW (wdN b p x + 1).toNat (eN b p) tune (tN b x) = true) : ownF b p tune x = false := by
  unfold ownF; rw [own_cl, h2, decide_eq_false n, Bool.or_true]; rfl
theorem ownN_no {b : Nat → Int} {n p tune x : Nat} (hx : x < n) (h : ownF b p tune x = false) : ownN b n p tune = false := by
  cases e : ownN b n p tune with
  | false => rfl
  | true => rw [(allF_iff _ _).mp e x hx] at h; cases h
abbrev P_X5_standsAlone (G : XG) (go : Nat) (ga : Nat → Nat) (b : Nat → Int) (n : Nat) (d : Nat) (c : Nat) (gf : Nat → Nat → Int) (wh : Nat) (wa : Nat → Nat) (fo : Int) (le : Int) (e0 : Int) (o0 : Int) (l0 : Int) (a0 : Bool) (p : Nat) (tune : Nat) : Option Value → va_W → Prop := fun r ws => ∃ e1 o1 l1 : Int, ∃ a1 : Bool, r = some (.int (zB (ownN b n p tune))) ∧ ws = [(wh, whE wa fo le), (wa 1, .inr (1, [.int (zI e1), .int (zI o1), .int (zI l1), .int (zB a1)])), (go, goE ga ((n : Nat) : Int) ((d : Nat) : Int) ((c : Nat) : Int)), (ga 0, aI G 36 (gf 0)), (ga 1, aI G 7 (gf 1)), (ga 2, aI G 7 (gf 2)), (ga 3, aI G 7 (gf 3)), (ga 4, aI G 7 (gf 4)), (ga 5, aI G 6 (gf 5)), (ga 6, aI G 6 (gf 6)), (ga 7, aI G 8 (gf 7))]
abbrev W_X5_standsAlone (G : XG) (E : XE) (go : Nat) (ga : Nat → Nat) (b : Nat → Int) (n : Nat) (d : Nat) (c : Nat) (gf : Nat → Nat → Int) (wh : Nat) (wa : Nat → Nat) (fo : Int) (le : Int) (e0 : Int) (o0 : Int) (l0 : Int) (a0 : Bool) (p : Nat) (tune : Nat) (pc : Nat) (lv : List (Nat × Value)) (st : List Value) (ws : va_W) : Prop := Wx G E (rmL 4) cX5_standsAlone 6 RX5 wsX5_standsAlone (some .boolean) "standsAlone" 0 0 (P_X5_standsAlone G go ga b n d c gf wh wa fo le e0 o0 l0 a0 p tune) 0 0 pc lv st ws
theorem flX5_standsAlone_36 : Cond.fieldLink RX5 36 (TX0 0).1 (TX0 0).2.1 (TX0 0).2.2.1 ∈ wsX5_standsAlone := by decide +kernel
theorem flX5_standsAlone_46 : Cond.fieldLink RX5 46 (TX0 4).1 (TX0 4).2.1 (TX0 4).2.2.1 ∈ wsX5_standsAlone := by decide +kernel
theorem flX5_standsAlone_49 : Cond.fieldLink RX5 49 (TX0 5).1 (TX0 5).2.1 (TX0 5).2.2.1 ∈ wsX5_standsAlone := by decide +kernel
theorem inX5_standsAlone_X0 : ∀ w ∈ u_ws RX0 TX0 11, w ∈ wsX5_standsAlone := fun _ h => List.mem_cons_of_mem _ (List.mem_append_left _ (List.mem_append_left _ (List.mem_append_right _ h)))
set_option maxHeartbeats 4000000 in
set_option maxRecDepth 100000 in
/-- standsAlone -/
theorem c_X5_standsAlone (G : XG) (go : Nat) (ga : Nat → Nat) (b : Nat → Int) (n d c : Nat) (gf : Nat → Nat → Int) (I : Inv b n d c) (R : GR b n d c gf) (wh : Nat) (wa : Nat → Nat) (fo le : Int) (e0 o0 l0 : Int) (a0 : Bool) (p tune : Nat) (hp : p < n) (ht : vt tune)  : Con G yX5_standsAlone wsX5_standsAlone (rmL 4) 0 0 [.ref wh, .ref go, .int (zI ((p : Nat) : Int)), .int (zI ((tune : Nat) : Int))] ([(wh, whE wa fo le), (wa 1, .inr (1, [.int (zI e0), .int (zI o0), .int (zI l0), .int (zB a0)])), (go, goE ga ((n : Nat) : Int) ((d : Nat) : Int) ((c : Nat) : Int)), (ga 0, aI G 36 (gf 0)), (ga 1, aI G 7 (gf 1)), (ga 2, aI G 7 (gf 2)), (ga 3, aI G 7 (gf 3)), (ga 4, aI G 7 (gf 4)), (ga 5, aI G 6 (gf 5)), (ga 6, aI G 6 (gf 6)), (ga 7, aI G 8 (gf 7))]) (P_X5_standsAlone G go ga b n d c gf wh wa fo le e0 o0 l0 a0 p tune) := by
  refine x_start (cc := cX5_standsAlone) (nL := 6) (ret := (some .boolean)) (by decide) rfl (Nat.le_of_ble_eq_true rfl) (fun E => ?_)
  show W_X5_standsAlone G E go ga b n d c gf wh wa fo le e0 o0 l0 a0 p tune 0 [(0, .ref wh), (1, .ref go), (2, .int (zI ((p : Nat) : Int))), (3, .int (zI ((tune : Nat) : Int)))] [] ([(wh, whE wa fo le), (wa 1, .inr (1, [.int (zI e0), .int (zI o0), .int (zI l0), .int (zB a0)])), (go, goE ga ((n : Nat) : Int) ((d : Nat) : Int) ((c : Nat) : Int)), (ga 0, aI G 36 (gf 0)), (ga 1, aI G 7 (gf 1)), (ga 2, aI G 7 (gf 2)), (ga 3, aI G 7 (gf 3)), (ga 4, aI G 7 (gf 4)), (ga 5, aI G 6 (gf 5)), (ga 6, aI G 6 (gf 6)), (ga 7, aI G 8 (gf 7))])
  have hn7 := I.n7
  have hd6 := I.d6
  have hc8 := I.c8
  have hep := I.e hp
  have htt := vt_lt ht
  refine x_iconst 1 rfl dX5_standsAlone_0 (z := 0) (by decide) ?_
  refine x_istore 3 rfl (lv' := [(4, .int (zI 0)), (0, .ref wh), (1, .ref go), (2, .int (zI ((p : Nat) : Int))), (3, .int (zI ((tune : Nat) : Int)))]) dX5_standsAlone_1 (by decide) rfl ?_
  have L3 : ∀ (f3 : Nat) (x : Nat) (e1 : Int) (o1 : Int) (l1 : Int) (a1 : Bool) (hx : x ≤ n) (hk : allF (ownF b p tune) x = true), n - x < f3 → W_X5_standsAlone G E go ga b n d c gf wh wa fo le e0 o0 l0 a0 p tune 3 [(0, .ref wh), (1, .ref go), (2, .int (zI ((p : Nat) : Int))), (3, .int (zI ((tune : Nat) : Int))), (4, .int (zI ((x : Nat) : Int)))] [] ([(wh, whE wa fo le), (wa 1, .inr (1, [.int (zI e1), .int (zI o1), .int (zI l1), .int (zB a1)])), (go, goE ga ((n : Nat) : Int) ((d : Nat) : Int) ((c : Nat) : Int)), (ga 0, aI G 36 (gf 0)), (ga 1, aI G 7 (gf 1)), (ga 2, aI G 7 (gf 2)), (ga 3, aI G 7 (gf 3)), (ga 4, aI G 7 (gf 4)), (ga 5, aI G 6 (gf 5)), (ga 6, aI G 6 (gf 6)), (ga 7, aI G 8 (gf 7))]) := by
    intro f3
    induction f3 with
    | zero => intro x e1 o1 l1 a1 hx hk hf3; exact absurd hf3 (Nat.not_lt_zero _)
    | succ f3 ih3 =>
      intro x e1 o1 l1 a1 hx hk hf3
      refine x_iload 5 rfl dX5_standsAlone_3 4 rfl ?_
      refine x_aload_n 6 rfl dX5_standsAlone_5 1 rfl ?_
      refine x_get 9 rfl (v := .int (zI ((n : Nat) : Int))) 2 0 rfl rfl (by decide) inX5_standsAlone_X0 flX5_standsAlone_36 rfl dX5_standsAlone_6 ?_
      refine x_icmp_ge 12 rfl (tgt := 87) dX5_standsAlone_9 (by decide) (by omega) (by omega) (fun h9 => ?_) (fun h9 => ?_)
      · skip
        refine x_iconst 88 rfl dX5_standsAlone_87 (z := 1) (by decide) ?_
        refine x_int (y := zB (ownN b n p tune)) (zB_t (by unfold ownN; rw [show n = x by omega]; exact hk)) ?_
        refine x_zret rfl ?_ dX5_standsAlone_88
        exact ⟨_, _, _, _, rfl, rfl⟩
      · skip
        refine x_iload 14 rfl dX5_standsAlone_12 4 rfl ?_
        refine x_iload_n 15 rfl dX5_standsAlone_14 2 rfl ?_
        refine x_icmp_ne 18 rfl (tgt := 21) dX5_standsAlone_15 (by decide) (by omega) (by omega) (fun h15 => ?_) (fun h15 => ?_)
        · skip
          have hxn : x < n := by omega
          have hrr := wdN_r I hp hxn
          have hex := I.e hxn
          have htx := I.t hxn
          refine x_aload_n 22 rfl dX5_standsAlone_21 1 rfl ?_
          refine x_iload_n 23 rfl dX5_standsAlone_22 2 rfl ?_
          refine x_iload 25 rfl dX5_standsAlone_23 4 rfl ?_
          refine x_callV 28 rfl (c_X0_greatestSharedWind G go ga b n d c gf I R p x (by omega) (by omega)) [2, 3, 4, 5, 6, 7, 8, 9, 10] rfl (by decide) 2 rfl rfl gX5_standsAlone_X0_greatestSharedWind rfl rfl rfl hd_X0_greatestSharedWind ⟨Nat.le_of_ble_eq_true rfl, Nat.le_of_ble_eq_true rfl⟩ (As := [.int (zI ((p : Nat) : Int)), .int (zI ((x : Nat) : Int))]) (rest := []) rfl rfl (Nat.le_of_ble_eq_true rfl) dX5_standsAlone_25 ⟨Nat.zero_le _, Nat.zero_le _⟩ (fun v w hq => ?_)
          obtain ⟨rfl, rfl⟩ := hq
          refine ⟨rfl, ?_⟩
          refine x_ws (ws' := [(wh, whE wa fo le), (wa 1, .inr (1, [.int (zI e1), .int (zI o1), .int (zI l1), .int (zB a1)])), (go, goE ga ((n : Nat) : Int) ((d : Nat) : Int) ((c : Nat) : Int)), (ga 0, aI G 36 (gf 0)), (ga 1, aI G 7 (gf 1)), (ga 2, aI G 7 (gf 2)), (ga 3, aI G 7 (gf 3)), (ga 4, aI G 7 (gf 4)), (ga 5, aI G 6 (gf 5)), (ga 6, aI G 6 (gf 6)), (ga 7, aI G 8 (gf 7))]) (rfl) ?_
          refine x_istore 30 rfl (lv' := [(5, .int (zI (wdN b p x))), (0, .ref wh), (1, .ref go), (2, .int (zI ((p : Nat) : Int))), (3, .int (zI ((tune : Nat) : Int))), (4, .int (zI ((x : Nat) : Int)))]) dX5_standsAlone_28 (by decide) rfl ?_
          refine x_aload_n 31 rfl dX5_standsAlone_30 1 rfl ?_
          refine x_iload 33 rfl dX5_standsAlone_31 0 rfl ?_
          refine x_aload_n 34 rfl dX5_standsAlone_33 2 rfl ?_
          refine x_get 37 rfl (v := .ref (ga 1)) 2 4 rfl rfl (by decide) inX5_standsAlone_X0 flX5_standsAlone_46 rfl dX5_standsAlone_34 ?_
          refine x_iload 39 rfl dX5_standsAlone_37 5 rfl ?_
          refine x_iald 40 rfl 4 x rfl (⟨by omega, by omega⟩) (by decide) (v := ((eN b x : Nat) : Int)) (R.e I hxn) dX5_standsAlone_39 ?_
          refine x_aload_n 41 rfl dX5_standsAlone_40 2 rfl ?_
          refine x_get 44 rfl (v := .ref (ga 2)) 2 5 rfl rfl (by decide) inX5_standsAlone_X0 flX5_standsAlone_49 rfl dX5_standsAlone_41 ?_
          refine x_iload 46 rfl dX5_standsAlone_44 5 rfl ?_
          refine x_iald 47 rfl 5 x rfl (⟨by omega, by omega⟩) (by decide) (v := ((tN b x : Nat) : Int)) (R.t I hxn) dX5_standsAlone_46 ?_
          refine x_iload_n 48 rfl dX5_standsAlone_47 4 rfl ?_
          refine x_callV 51 rfl (c_X5_turnsBy G wh wa fo le e1 o1 l1 a1 (wdN b p x) (eN b x) (tN b x) tune (by omega) (by omega) (htx.2) (ht)) [0, 1] rfl (by decide) 0 rfl rfl gX5_standsAlone_X5_turnsBy rfl rfl rfl hd_X5_turnsBy ⟨Nat.le_of_ble_eq_true rfl, Nat.le_of_ble_eq_true rfl⟩ (As := [.int (zI (wdN b p x)), .int (zI ((eN b x : Nat) : Int)), .int (zI ((tN b x : Nat) : Int)), .int (zI ((tune : Nat) : Int))]) (rest := []) rfl rfl (Nat.le_of_ble_eq_true rfl) dX5_standsAlone_48 ⟨Nat.zero_le _, Nat.zero_le _⟩ (fun v w hq => ?_)
          obtain ⟨ez_1, oz_1, lz_1, az_1, rfl, rfl⟩ := hq
          refine ⟨rfl, ?_⟩
          refine x_ws (ws' := [(wh, whE wa fo le), (wa 1, .inr (1, [.int (zI ez_1), .int (zI oz_1), .int (zI lz_1), .int (zB az_1)])), (go, goE ga ((n : Nat) : Int) ((d : Nat) : Int) ((c : Nat) : Int)), (ga 0, aI G 36 (gf 0)), (ga 1, aI G 7 (gf 1)), (ga 2, aI G 7 (gf 2)), (ga 3, aI G 7 (gf 3)), (ga 4, aI G 7 (gf 4)), (ga 5, aI G 6 (gf 5)), (ga 6, aI G 6 (gf 6)), (ga 7, aI G 8 (gf 7))]) (rfl) ?_
          refine x_bif_eq 54 rfl (tgt := 56) dX5_standsAlone_51 (by decide) (fun h51 => ?_) (fun h51 => ?_)
          · skip
            refine x_aload_n 57 rfl dX5_standsAlone_56 1 rfl ?_
            refine x_iload 59 rfl dX5_standsAlone_57 0 rfl ?_
            refine x_aload_n 60 rfl dX5_standsAlone_59 2 rfl ?_
            refine x_get 63 rfl (v := .ref (ga 1)) 2 4 rfl rfl (by decide) inX5_standsAlone_X0 flX5_standsAlone_46 rfl dX5_standsAlone_60 ?_
            refine x_iload_n 64 rfl dX5_standsAlone_63 3 rfl ?_
            refine x_iald 65 rfl 4 p rfl (⟨by omega, by omega⟩) (by decide) (v := ((eN b p : Nat) : Int)) (R.e I hp) dX5_standsAlone_64 ?_
            refine x_iload_n 66 rfl dX5_standsAlone_65 4 rfl ?_
            refine x_aload_n 67 rfl dX5_standsAlone_66 2 rfl ?_
            refine x_get 70 rfl (v := .ref (ga 2)) 2 5 rfl rfl (by decide) inX5_standsAlone_X0 flX5_standsAlone_49 rfl dX5_standsAlone_67 ?_
            refine x_iload 72 rfl dX5_standsAlone_70 5 rfl ?_
            refine x_iald 73 rfl 5 x rfl (⟨by omega, by omega⟩) (by decide) (v := ((tN b x : Nat) : Int)) (R.t I hxn) dX5_standsAlone_72 ?_
            refine x_callV 76 rfl (c_X5_turnsBy G wh wa fo le ez_1 oz_1 lz_1 az_1 (wdN b p x) (eN b p) tune (tN b x) (by omega) (by omega) (ht) (htx.2)) [0, 1] rfl (by decide) 0 rfl rfl gX5_standsAlone_X5_turnsBy rfl rfl rfl hd_X5_turnsBy ⟨Nat.le_of_ble_eq_true rfl, Nat.le_of_ble_eq_true rfl⟩ (As := [.int (zI (wdN b p x)), .int (zI ((eN b p : Nat) : Int)), .int (zI ((tune : Nat) : Int)), .int (zI ((tN b x : Nat) : Int))]) (rest := []) rfl rfl (Nat.le_of_ble_eq_true rfl) dX5_standsAlone_73 ⟨Nat.zero_le _, Nat.zero_le _⟩ (fun v w hq => ?_)
            obtain ⟨ez_2, oz_2, lz_2, az_2, rfl, rfl⟩ := hq
            refine ⟨rfl, ?_⟩
            refine x_ws (ws' := [(wh, whE wa fo le), (wa 1, .inr (1, [.int (zI ez_2), .int (zI oz_2), .int (zI lz_2), .int (zB az_2)])), (go, goE ga ((n : Nat) : Int) ((d : Nat) : Int) ((c : Nat) : Int)), (ga 0, aI G 36 (gf 0)), (ga 1, aI G 7 (gf 1)), (ga 2, aI G 7 (gf 2)), (ga 3, aI G 7 (gf 3)), (ga 4, aI G 7 (gf 4)), (ga 5, aI G 6 (gf 5)), (ga 6, aI G 6 (gf 6)), (ga 7, aI G 8 (gf 7))]) (rfl) ?_
            refine x_bif_eq 79 rfl (tgt := 81) dX5_standsAlone_76 (by decide) (fun h76 => ?_) (fun h76 => ?_)
            · skip
              refine x_iinc 84 rfl (lv' := [(4, .int (zI ((x + 1 : Nat) : Int))), (5, .int (zI (wdN b p x))), (0, .ref wh), (1, .ref go), (2, .int (zI ((p : Nat) : Int))), (3, .int (zI ((tune : Nat) : Int)))]) dX5_standsAlone_81 5 rfl (b := ((x + 1 : Nat) : Int)) (by omega) (by decide) rfl ?_
              refine x_goto dX5_standsAlone_84 (tgt := 3) (by decide) ?_
              refine x_lv [2, 3, 4, 5, 0] rfl ?_
              exact ih3 (x + 1) ez_2 oz_2 lz_2 az_2 (by omega) (allF_t hk (by first | exact ownF_e (by omega) | exact ownF_t (by assumption) (by assumption))) (by omega)
            · skip
              refine x_iconst 80 rfl dX5_standsAlone_79 (z := 0) (by decide) ?_
              refine x_int (y := zB (ownN b n p tune)) (zB_f (ownN_no (x := x) (by omega) (by first | exact ownF_1 (by omega) (by assumption) | exact ownF_2 (by omega) (by assumption)))) ?_
              refine x_zret rfl ?_ dX5_standsAlone_80
              exact ⟨_, _, _, _, rfl, rfl⟩
          · skip
            refine x_iconst 55 rfl dX5_standsAlone_54 (z := 0) (by decide) ?_
            refine x_int (y := zB (ownN b n p tune)) (zB_f (ownN_no (x := x) (by omega) (by first | exact ownF_1 (by omega) (by assumption) | exact ownF_2 (by omega) (by assumption)))) ?_
            refine x_zret rfl ?_ dX5_standsAlone_55
            exact ⟨_, _, _, _, rfl, rfl⟩
        · skip
          refine x_goto dX5_standsAlone_18 (tgt := 81) (by decide) ?_
          refine x_iinc 84 rfl (lv' := [(4, .int (zI ((x + 1 : Nat) : Int))), (0, .ref wh), (1, .ref go), (2, .int (zI ((p : Nat) : Int))), (3, .int (zI ((tune : Nat) : Int)))]) dX5_standsAlone_81 4 rfl (b := ((x + 1 : Nat) : Int)) (by omega) (by decide) rfl ?_
          refine x_goto dX5_standsAlone_84 (tgt := 3) (by decide) ?_
          refine x_lv [1, 2, 3, 4, 0] rfl ?_
          exact ih3 (x + 1) e1 o1 l1 a1 (by omega) (allF_t hk (by first | exact ownF_e (by omega) | exact ownF_t (by assumption) (by assumption))) (by omega)
  refine x_lv [1, 2, 3, 4, 0] rfl ?_
  exact L3 _ 0 e0 o0 l0 a0 (by omega) (rfl) (Nat.lt_succ_self _)

theorem leF_z {f : Nat → Bool} : ∀ (k lo m : Nat), (∀ i, lo ≤ i → i < lo + k → f i = false) → leF f lo (k + m) = leF f (lo + k) m
  | 0, lo, m, _ => by rw [Nat.zero_add]; rfl
  | k + 1, lo, m, h => by
    rw [leF_f (by omega) (h lo (by omega) (by omega)), show k + 1 + m - 1 = k + m by omega, leF_z k (lo + 1) m (fun i h1 h2 => h i (by omega) (by omega)), show lo + 1 + k = lo + (k + 1) by omega]
theorem leF_end {f : Nat → Bool} : ∀ (k lo m : Nat), (∀ i, lo + k ≤ i → i < lo + k + m → f i = false) → leF f lo (k + m) = leF f lo k
  | 0, lo, m, h => by
    have e := leF_z (f := f) m lo 0 (fun i h1 h2 => h i (by omega) (by omega))
    rw [Nat.zero_add]; exact e
  | k + 1, lo, m, h => by
    cases hf : f lo with
    | true => rw [leF_t (by omega) hf, leF_t (by omega) hf]
    | false => rw [leF_f (by omega) hf, leF_f (by omega) hf, show k + 1 + m - 1 = k + m by omega, leF_end k (lo + 1) m (fun i h1 h2 => h i (by omega) (by omega))]; rfl
theorem leF_congr {f g : Nat → Bool} : ∀ (k lo : Nat), (∀ i, lo ≤ i → i < lo + k → f i = g i) → leF f lo k = leF g lo k
  | 0, _, _ => rfl
  | k + 1, lo, h => by
    cases hf : f lo with
    | true => rw [leF_t (by omega) hf, leF_t (by omega) ((h lo (by omega) (by omega)).symm.trans hf)]
    | false => rw [leF_f (by omega) hf, leF_f (by omega) ((h lo (by omega) (by omega)).symm.trans hf)]; exact leF_congr k (lo + 1) (fun i h1 h2 => h i (by omega) (by omega))
theorem br_note {t k m : Nat} (hm : 4 ^ k = m) (hk : k ≤ 4) (h1 : 4 * m ≤ t) (h2 : t < 8 * m) : noteN t 0 = t / m % 4 := by
  have hp : 4 ^ (k + 1) = m * 4 := by rw [Nat.pow_succ, hm]
  have e : notesN t = k + 1 := each_notes_eq (by omega) (by omega) (by omega) (by omega)
  unfold noteN; rw [e, show k + 1 - 1 - 0 = k by omega, hm]
theorem br_narrow {b : Nat → Int} {n p k m S : Nat} (hv : vt (tN b p)) (hk : notesN (tN b p) = k + 1) (hm : 4 ^ k = m) (hS : tN b p / m * m = S) : k ≤ 4 ∧ m ≤ 256 ∧ 4 * m ≤ S ∧ S + m ≤ 8 * m ∧ brN b n p = leF (ownN b n p) S m := by
  have hn := notes_vt (tN b p) (vt_lt hv) hv
  have hk4 : k ≤ 4 := by omega
  have hp : 4 ^ (k + 1) = m * 4 := by rw [Nat.pow_succ, hm]
  have hm0 : 0 < m := by rw [← hm]; exact Nat.pow_pos (by decide)
  have hm2 : m ≤ 256 := by rw [← hm]; exact Nat.le_trans (Nat.pow_le_pow_right (by decide) hk4) (by decide)
  have ht := each_notes hv
  rw [hk, hp] at ht
  have q4 : 4 ≤ tN b p / m := (Nat.le_div_iff_mul_le hm0).mpr (by omega)
  have q8 : tN b p / m < 8 := (Nat.div_lt_iff_lt_mul hm0).mpr (by omega)
  have s1 : 4 * m ≤ S := by rw [← hS]; exact Nat.mul_le_mul_right m q4
  have s2 : S + m ≤ 8 * m := by
    have := Nat.mul_le_mul_right m (show tN b p / m + 1 ≤ 8 by omega)
    rw [Nat.succ_mul, hS] at this; exact this
  have nt : noteN (tN b p) 0 = tN b p / m % 4 := br_note hm hk4 (by omega) (by omega)
  have key : ∀ i, 4 * m ≤ i → i < 8 * m → (noteN i 0 = noteN (tN b p) 0 ↔ S ≤ i ∧ i < S + m) := by
    intro i h1 h2
    rw [br_note hm hk4 h1 h2, nt]
    have i4 : 4 ≤ i / m := (Nat.le_div_iff_mul_le hm0).mpr (by omega)
    have i8 : i / m < 8 := (Nat.div_lt_iff_lt_mul hm0).mpr (by omega)
    have a1 := Nat.le_div_iff_mul_le (x := tN b p / m) (y := i) hm0
    have a2 := Nat.div_lt_iff_lt_mul (x := i) (y := tN b p / m + 1) hm0
    rw [Nat.succ_mul, hS] at a2
    rw [hS] at a1
    rw [← a1, ← a2]
    omega
  refine ⟨hk4, hm2, s1, s2, ?_⟩
  have no : ∀ i, 4 * m ≤ i → i < 8 * m → ¬ (S ≤ i ∧ i < S + m) → brG b n p i = false := by
    intro i h1 h2 h3
    unfold brG; rw [decide_eq_false (fun e => h3 ((key i h1 h2).mp e))]; rfl
  have z1 := leF_z (f := brG b n p) (S - 4 * m) (4 * m) (m + (8 * m - S - m)) (fun i h1 h2 => no i (by omega) (by omega) (by omega))
  rw [show S - 4 * m + (m + (8 * m - S - m)) = 4 * m by omega, show 4 * m + (S - 4 * m) = S by omega] at z1
  have z2 := leF_end (f := brG b n p) m S (8 * m - S - m) (fun i h1 h2 => no i (by omega) (by omega) (by omega))
  unfold brN
  rw [hk, hp, Nat.mul_comm m 4, z1, z2]
  exact leF_congr m S (fun i h1 h2 => by unfold brG; rw [decide_eq_true ((key i (by omega) (by omega)).mpr ⟨h1, by omega⟩)]; exact Bool.true_and _)
abbrev P_X5_leastNewEnd (G : XG) (go : Nat) (ga : Nat → Nat) (b : Nat → Int) (n : Nat) (d : Nat) (c : Nat) (gf : Nat → Nat → Int) (wh : Nat) (wa : Nat → Nat) (fo : Int) (le : Int) (e0 : Int) (o0 : Int) (l0 : Int) (a0 : Bool) (p : Nat) : Option Value → va_W → Prop := fun r ws => ∃ e1 o1 l1 : Int, ∃ a1 : Bool, r = some (.int (zI (brN b n p))) ∧ ws = [(wh, whE wa fo le), (wa 1, .inr (1, [.int (zI e1), .int (zI o1), .int (zI l1), .int (zB a1)])), (go, goE ga ((n : Nat) : Int) ((d : Nat) : Int) ((c : Nat) : Int)), (ga 0, aI G 36 (gf 0)), (ga 1, aI G 7 (gf 1)), (ga 2, aI G 7 (gf 2)), (ga 3, aI G 7 (gf 3)), (ga 4, aI G 7 (gf 4)), (ga 5, aI G 6 (gf 5)), (ga 6, aI G 6 (gf 6)), (ga 7, aI G 8 (gf 7))]
abbrev W_X5_leastNewEnd (G : XG) (E : XE) (go : Nat) (ga : Nat → Nat) (b : Nat → Int) (n : Nat) (d : Nat) (c : Nat) (gf : Nat → Nat → Int) (wh : Nat) (wa : Nat → Nat) (fo : Int) (le : Int) (e0 : Int) (o0 : Int) (l0 : Int) (a0 : Bool) (p : Nat) (pc : Nat) (lv : List (Nat × Value)) (st : List Value) (ws : va_W) : Prop := Wx G E (rmL 5) cX5_leastNewEnd 8 RX5 wsX5_leastNewEnd (some .int) "leastNewEnd" 0 0 (P_X5_leastNewEnd G go ga b n d c gf wh wa fo le e0 o0 l0 a0 p) 0 0 pc lv st ws
theorem flX5_leastNewEnd_49 : Cond.fieldLink RX5 49 (TX0 5).1 (TX0 5).2.1 (TX0 5).2.2.1 ∈ wsX5_leastNewEnd := by decide +kernel
theorem inX5_leastNewEnd_X0 : ∀ w ∈ u_ws RX0 TX0 11, w ∈ wsX5_leastNewEnd := fun _ h => List.mem_cons_of_mem _ (List.mem_append_left _ (List.mem_append_left _ (List.mem_append_right _ h)))
set_option maxHeartbeats 4000000 in
set_option maxRecDepth 100000 in
/-- leastNewEnd -/
theorem c_X5_leastNewEnd (G : XG) (go : Nat) (ga : Nat → Nat) (b : Nat → Int) (n d c : Nat) (gf : Nat → Nat → Int) (I : Inv b n d c) (R : GR b n d c gf) (wh : Nat) (wa : Nat → Nat) (fo le : Int) (e0 o0 l0 : Int) (a0 : Bool) (p : Nat) (hp : p < n)  : Con G yX5_leastNewEnd wsX5_leastNewEnd (rmL 5) 0 0 [.ref wh, .ref go, .int (zI ((p : Nat) : Int))] ([(wh, whE wa fo le), (wa 1, .inr (1, [.int (zI e0), .int (zI o0), .int (zI l0), .int (zB a0)])), (go, goE ga ((n : Nat) : Int) ((d : Nat) : Int) ((c : Nat) : Int)), (ga 0, aI G 36 (gf 0)), (ga 1, aI G 7 (gf 1)), (ga 2, aI G 7 (gf 2)), (ga 3, aI G 7 (gf 3)), (ga 4, aI G 7 (gf 4)), (ga 5, aI G 6 (gf 5)), (ga 6, aI G 6 (gf 6)), (ga 7, aI G 8 (gf 7))]) (P_X5_leastNewEnd G go ga b n d c gf wh wa fo le e0 o0 l0 a0 p) := by
  refine x_start (cc := cX5_leastNewEnd) (nL := 8) (ret := (some .int)) (by decide) rfl (Nat.le_of_ble_eq_true rfl) (fun E => ?_)
  show W_X5_leastNewEnd G E go ga b n d c gf wh wa fo le e0 o0 l0 a0 p 0 [(0, .ref wh), (1, .ref go), (2, .int (zI ((p : Nat) : Int)))] [] ([(wh, whE wa fo le), (wa 1, .inr (1, [.int (zI e0), .int (zI o0), .int (zI l0), .int (zB a0)])), (go, goE ga ((n : Nat) : Int) ((d : Nat) : Int) ((c : Nat) : Int)), (ga 0, aI G 36 (gf 0)), (ga 1, aI G 7 (gf 1)), (ga 2, aI G 7 (gf 2)), (ga 3, aI G 7 (gf 3)), (ga 4, aI G 7 (gf 4)), (ga 5, aI G 6 (gf 5)), (ga 6, aI G 6 (gf 6)), (ga 7, aI G 8 (gf 7))])
  have hn7 := I.n7
  have hd6 := I.d6
  have hc8 := I.c8
  have hv := (I.t hp).2
  have htt := vt_lt hv
  have hnv := notes_vt (tN b p) htt hv
  obtain ⟨k, hk⟩ : ∃ k, notesN (tN b p) = k + 1 := ⟨notesN (tN b p) - 1, by omega⟩
  obtain ⟨m, hm⟩ : ∃ m, 4 ^ k = m := ⟨_, rfl⟩
  obtain ⟨S, hS⟩ : ∃ S, tN b p / m * m = S := ⟨_, rfl⟩
  obtain ⟨hk4, hm2, hs1, hs2, hbr⟩ := br_narrow (n := n) hv hk hm hS
  have e2 : 2 ^ (2 * k) = m := (Nat.pow_mul 2 2 k).trans hm
  have hle : tN b p / m * m ≤ tN b p := Nat.div_mul_le_self _ _
  refine x_aload_n 1 rfl dX5_leastNewEnd_0 1 rfl ?_
  refine x_get 4 rfl (v := .ref (ga 2)) 2 5 rfl rfl (by decide) inX5_leastNewEnd_X0 flX5_leastNewEnd_49 rfl dX5_leastNewEnd_1 ?_
  refine x_iload_n 5 rfl dX5_leastNewEnd_4 2 rfl ?_
  refine x_iald 6 rfl 5 p rfl (⟨by omega, by omega⟩) (by decide) (v := ((tN b p : Nat) : Int)) (R.t I hp) dX5_leastNewEnd_5 ?_
  refine x_istore_n 7 rfl (lv' := [(3, .int (zI ((tN b p : Nat) : Int))), (0, .ref wh), (1, .ref go), (2, .int (zI ((p : Nat) : Int)))]) dX5_leastNewEnd_6 (by decide) rfl ?_
  refine x_iconst 8 rfl dX5_leastNewEnd_7 (z := 2) (by decide) ?_
  refine x_iload_n 9 rfl dX5_leastNewEnd_8 0 rfl ?_
  refine x_callS0 12 rfl (c_X4_notes_v G (tN b p) hv) (fun _ _ h => h.2) gX5_leastNewEnd_X4_notes rfl rfl rfl hd_X4_notes ⟨Nat.le_of_ble_eq_true rfl, Nat.le_of_ble_eq_true rfl⟩ (As := [.int (zI ((tN b p : Nat) : Int))]) (rest := [.int (zI 2)]) rfl rfl (Nat.le_of_ble_eq_true rfl) dX5_leastNewEnd_9 ⟨Nat.zero_le _, Nat.zero_le _⟩ (fun v hq => ?_)
  obtain ⟨rfl, -⟩ := hq
  refine x_int (congrArg zI (by rw [hk] : ((notesN (tN b p) : Nat) : Int) = ((k + 1 : Nat) : Int))) ?_
  refine x_iconst 13 rfl dX5_leastNewEnd_12 (z := 1) (by decide) ?_
  refine x_isub 14 rfl dX5_leastNewEnd_13 (z := ((k : Nat) : Int)) (by omega) ?_
  refine x_imul 15 rfl dX5_leastNewEnd_14 (z := ((2 * k : Nat) : Int)) (by omega) ?_
  refine x_istore 17 rfl (lv' := [(4, .int (zI ((2 * k : Nat) : Int))), (3, .int (zI ((tN b p : Nat) : Int))), (0, .ref wh), (1, .ref go), (2, .int (zI ((p : Nat) : Int)))]) dX5_leastNewEnd_15 (by decide) rfl ?_
  refine x_iload_n 18 rfl dX5_leastNewEnd_17 1 rfl ?_
  refine x_iload 20 rfl dX5_leastNewEnd_18 0 rfl ?_
  refine x_ishr 21 rfl dX5_leastNewEnd_20 (z := ((tN b p / m : Nat) : Int)) (hm ▸ zI_shr4 (k := k) (by omega) (by omega) (by omega)) ?_
  refine x_iload 23 rfl dX5_leastNewEnd_21 0 rfl ?_
  refine x_ishl 24 rfl dX5_leastNewEnd_23 (z := ((S : Nat) : Int)) (by have h := zI_shl (a := tN b p / m) (i := 2 * k) (by rw [e2]; omega) (by omega); rw [e2, hS] at h; exact h) ?_
  refine x_istore 26 rfl (lv' := [(5, .int (zI ((S : Nat) : Int))), (4, .int (zI ((2 * k : Nat) : Int))), (3, .int (zI ((tN b p : Nat) : Int))), (0, .ref wh), (1, .ref go), (2, .int (zI ((p : Nat) : Int)))]) dX5_leastNewEnd_24 (by decide) rfl ?_
  refine x_iconst 27 rfl dX5_leastNewEnd_26 (z := 1) (by decide) ?_
  refine x_iload 29 rfl dX5_leastNewEnd_27 1 rfl ?_
  refine x_ishl 30 rfl dX5_leastNewEnd_29 (z := ((m : Nat) : Int)) (by have h := zI_shl1 (i := 2 * k) (by omega); rw [e2] at h; exact h) ?_
  refine x_istore 32 rfl (lv' := [(6, .int (zI ((m : Nat) : Int))), (5, .int (zI ((S : Nat) : Int))), (4, .int (zI ((2 * k : Nat) : Int))), (3, .int (zI ((tN b p : Nat) : Int))), (0, .ref wh), (1, .ref go), (2, .int (zI ((p : Nat) : Int)))]) dX5_leastNewEnd_30 (by decide) rfl ?_
  refine x_iconst 33 rfl dX5_leastNewEnd_32 (z := 0) (by decide) ?_
  refine x_istore 35 rfl (lv' := [(7, .int (zI 0)), (6, .int (zI ((m : Nat) : Int))), (5, .int (zI ((S : Nat) : Int))), (4, .int (zI ((2 * k : Nat) : Int))), (3, .int (zI ((tN b p : Nat) : Int))), (0, .ref wh), (1, .ref go), (2, .int (zI ((p : Nat) : Int)))]) dX5_leastNewEnd_33 (by decide) rfl ?_
  have L35 : ∀ (f35 : Nat) (e : Nat) (e1 : Int) (o1 : Int) (l1 : Int) (a1 : Bool) (he : e ≤ m) (hL : leF (ownN b n p) S m = leF (ownN b n p) (S + e) (m - e)), m - e < f35 → W_X5_leastNewEnd G E go ga b n d c gf wh wa fo le e0 o0 l0 a0 p 35 [(0, .ref wh), (1, .ref go), (2, .int (zI ((p : Nat) : Int))), (3, .int (zI ((tN b p : Nat) : Int))), (4, .int (zI ((2 * k : Nat) : Int))), (5, .int (zI ((S : Nat) : Int))), (6, .int (zI ((m : Nat) : Int))), (7, .int (zI ((e : Nat) : Int)))] [] ([(wh, whE wa fo le), (wa 1, .inr (1, [.int (zI e1), .int (zI o1), .int (zI l1), .int (zB a1)])), (go, goE ga ((n : Nat) : Int) ((d : Nat) : Int) ((c : Nat) : Int)), (ga 0, aI G 36 (gf 0)), (ga 1, aI G 7 (gf 1)), (ga 2, aI G 7 (gf 2)), (ga 3, aI G 7 (gf 3)), (ga 4, aI G 7 (gf 4)), (ga 5, aI G 6 (gf 5)), (ga 6, aI G 6 (gf 6)), (ga 7, aI G 8 (gf 7))]) := by
    intro f35
    induction f35 with
    | zero => intro e e1 o1 l1 a1 he hL hf35; exact absurd hf35 (Nat.not_lt_zero _)
    | succ f35 ih35 =>
      intro e e1 o1 l1 a1 he hL hf35
      refine x_iload 37 rfl dX5_leastNewEnd_35 7 rfl ?_
      refine x_iload 39 rfl dX5_leastNewEnd_37 6 rfl ?_
      refine x_icmp_ge 42 rfl (tgt := 68) dX5_leastNewEnd_39 (by decide) (by omega) (by omega) (fun h39 => ?_) (fun h39 => ?_)
      · skip
        refine x_iconst 69 rfl dX5_leastNewEnd_68 (z := (-1)) (by decide) ?_
        refine x_iret rfl ?_ dX5_leastNewEnd_69
        have hz : brN b n p = -1 := by rw [hbr, hL, show m - e = 0 by omega]; rfl
        exact ⟨_, _, _, _, by rw [hz], rfl⟩
      · skip
        refine x_aload_n 43 rfl dX5_leastNewEnd_42 0 rfl ?_
        refine x_aload_n 44 rfl dX5_leastNewEnd_43 1 rfl ?_
        refine x_iload_n 45 rfl dX5_leastNewEnd_44 2 rfl ?_
        refine x_iload 47 rfl dX5_leastNewEnd_45 5 rfl ?_
        refine x_iload 49 rfl dX5_leastNewEnd_47 7 rfl ?_
        refine x_iadd 50 rfl dX5_leastNewEnd_49 (z := ((S + e : Nat) : Int)) (by omega) ?_
        refine x_callV 53 rfl (c_X5_standsAlone G go ga b n d c gf I R wh wa fo le e1 o1 l1 a1 p (S + e) (by omega) (each_vt (k := k + 1) (by omega) (by omega) (by rw [Nat.pow_succ, hm]; omega) (by rw [Nat.pow_succ, hm]; omega))) [0, 1, 2, 3, 4, 5, 6, 7, 8, 9, 10] rfl (by decide) 0 rfl rfl gX5_leastNewEnd_X5_standsAlone rfl rfl rfl hd_X5_standsAlone ⟨Nat.le_of_ble_eq_true rfl, Nat.le_of_ble_eq_true rfl⟩ (As := [.ref go, .int (zI ((p : Nat) : Int)), .int (zI ((S + e : Nat) : Int))]) (rest := []) rfl rfl (Nat.le_of_ble_eq_true rfl) dX5_leastNewEnd_50 ⟨Nat.zero_le _, Nat.zero_le _⟩ (fun v w hq => ?_)
        obtain ⟨ez_1, oz_1, lz_1, az_1, rfl, rfl⟩ := hq
        refine ⟨rfl, ?_⟩
        refine x_ws (ws' := [(wh, whE wa fo le), (wa 1, .inr (1, [.int (zI ez_1), .int (zI oz_1), .int (zI lz_1), .int (zB az_1)])), (go, goE ga ((n : Nat) : Int) ((d : Nat) : Int) ((c : Nat) : Int)), (ga 0, aI G 36 (gf 0)), (ga 1, aI G 7 (gf 1)), (ga 2, aI G 7 (gf 2)), (ga 3, aI G 7 (gf 3)), (ga 4, aI G 7 (gf 4)), (ga 5, aI G 6 (gf 5)), (ga 6, aI G 6 (gf 6)), (ga 7, aI G 8 (gf 7))]) (rfl) ?_
        refine x_bif_eq 56 rfl (tgt := 62) dX5_leastNewEnd_53 (by decide) (fun h53 => ?_) (fun h53 => ?_)
        · skip
          refine x_iinc 65 rfl (lv' := [(7, .int (zI ((e + 1 : Nat) : Int))), (0, .ref wh), (1, .ref go), (2, .int (zI ((p : Nat) : Int))), (3, .int (zI ((tN b p : Nat) : Int))), (4, .int (zI ((2 * k : Nat) : Int))), (5, .int (zI ((S : Nat) : Int))), (6, .int (zI ((m : Nat) : Int)))]) dX5_leastNewEnd_62 7 rfl (b := ((e + 1 : Nat) : Int)) (by omega) (by decide) rfl ?_
          refine x_goto dX5_leastNewEnd_65 (tgt := 35) (by decide) ?_
          refine x_lv [1, 2, 3, 4, 5, 6, 7, 0] rfl ?_
          exact ih35 (e + 1) ez_1 oz_1 lz_1 az_1 (by omega) (by rw [hL, leF_f (by omega) (by assumption), Nat.sub_sub]; rfl) (by omega)
        · skip
          refine x_iload 58 rfl dX5_leastNewEnd_56 5 rfl ?_
          refine x_iload 60 rfl dX5_leastNewEnd_58 7 rfl ?_
          refine x_iadd 61 rfl dX5_leastNewEnd_60 (z := ((S + e : Nat) : Int)) (by omega) ?_
          refine x_iret rfl ?_ dX5_leastNewEnd_61
          have hz : brN b n p = ((S + e : Nat) : Int) := by rw [hbr, hL]; exact leF_t (by omega) (by assumption)
          exact ⟨_, _, _, _, by rw [hz], rfl⟩
  refine x_lv [5, 6, 7, 4, 3, 2, 1, 0] rfl ?_
  exact L35 _ 0 e0 o0 l0 a0 (by omega) (rfl) (Nat.lt_succ_self _)

