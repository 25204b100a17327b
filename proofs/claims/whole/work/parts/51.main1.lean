theorem hd_X6_refuse : yX6_refuse.cls = RX6 ∧ yX6_refuse.cls ≠ "java/lang/invoke/MethodHandle" ∧ yX6_refuse.cls ≠ "java/lang/invoke/VarHandle" ∧ (parseMethodDescriptor yX6_refuse.desc).map (fun d => d.parameters.length) = some 2 := by decide +kernel
theorem hd_X6_counted : yX6_counted.cls = RX6 ∧ yX6_counted.cls ≠ "java/lang/invoke/MethodHandle" ∧ yX6_counted.cls ≠ "java/lang/invoke/VarHandle" ∧ (parseMethodDescriptor yX6_counted.desc).map (fun d => d.parameters.length) = some 1 := by decide +kernel
theorem hd_X6_isCall : yX6_isCall.cls ≠ "java/lang/invoke/MethodHandle" ∧ yX6_isCall.cls ≠ "java/lang/invoke/VarHandle" ∧ (parseMethodDescriptor yX6_isCall.desc).map (fun d => d.parameters.length) = some 3 := by decide +kernel
theorem hd_X6_hears : yX6_hears.cls = RX6 ∧ yX6_hears.cls ≠ "java/lang/invoke/MethodHandle" ∧ yX6_hears.cls ≠ "java/lang/invoke/VarHandle" ∧ (parseMethodDescriptor yX6_hears.desc).map (fun d => d.parameters.length) = some 3 := by decide +kernel
theorem hd_X6_one : yX6_one.cls = RX6 ∧ yX6_one.cls ≠ "java/lang/invoke/MethodHandle" ∧ yX6_one.cls ≠ "java/lang/invoke/VarHandle" ∧ (parseMethodDescriptor yX6_one.desc).map (fun d => d.parameters.length) = some 4 := by decide +kernel
theorem hd_X6_rename : yX6_rename.cls = RX6 ∧ yX6_rename.cls ≠ "java/lang/invoke/MethodHandle" ∧ yX6_rename.cls ≠ "java/lang/invoke/VarHandle" ∧ (parseMethodDescriptor yX6_rename.desc).map (fun d => d.parameters.length) = some 2 := by decide +kernel
theorem hd_X6_move : yX6_move.cls = RX6 ∧ yX6_move.cls ≠ "java/lang/invoke/MethodHandle" ∧ yX6_move.cls ≠ "java/lang/invoke/VarHandle" ∧ (parseMethodDescriptor yX6_move.desc).map (fun d => d.parameters.length) = some 2 := by decide +kernel
theorem hd_X6_dead : yX6_dead.cls = RX6 ∧ yX6_dead.cls ≠ "java/lang/invoke/MethodHandle" ∧ yX6_dead.cls ≠ "java/lang/invoke/VarHandle" ∧ (parseMethodDescriptor yX6_dead.desc).map (fun d => d.parameters.length) = some 2 := by decide +kernel
theorem hd_X6_comes : yX6_comes.cls = RX6 ∧ yX6_comes.cls ≠ "java/lang/invoke/MethodHandle" ∧ yX6_comes.cls ≠ "java/lang/invoke/VarHandle" ∧ (parseMethodDescriptor yX6_comes.desc).map (fun d => d.parameters.length) = some 2 := by decide +kernel
theorem hd_X6_type : yX6_type.cls = RX6 ∧ yX6_type.cls ≠ "java/lang/invoke/MethodHandle" ∧ yX6_type.cls ≠ "java/lang/invoke/VarHandle" ∧ (parseMethodDescriptor yX6_type.desc).map (fun d => d.parameters.length) = some 2 := by decide +kernel
theorem hd_X6_clear : yX6_clear.cls = RX6 ∧ yX6_clear.cls ≠ "java/lang/invoke/MethodHandle" ∧ yX6_clear.cls ≠ "java/lang/invoke/VarHandle" ∧ (parseMethodDescriptor yX6_clear.desc).map (fun d => d.parameters.length) = some 0 := by decide +kernel
theorem hd_X6_read : yX6_read.cls = RX6 ∧ yX6_read.cls ≠ "java/lang/invoke/MethodHandle" ∧ yX6_read.cls ≠ "java/lang/invoke/VarHandle" ∧ (parseMethodDescriptor yX6_read.desc).map (fun d => d.parameters.length) = some 0 := by decide +kernel
theorem hd_X6_call : yX6_call.cls = RX6 ∧ yX6_call.cls ≠ "java/lang/invoke/MethodHandle" ∧ yX6_call.cls ≠ "java/lang/invoke/VarHandle" ∧ (parseMethodDescriptor yX6_call.desc).map (fun d => d.parameters.length) = some 3 := by decide +kernel
theorem hd_X6_whistle : yX6_whistle.cls = RX6 ∧ yX6_whistle.cls ≠ "java/lang/invoke/MethodHandle" ∧ yX6_whistle.cls ≠ "java/lang/invoke/VarHandle" ∧ (parseMethodDescriptor yX6_whistle.desc).map (fun d => d.parameters.length) = some 3 := by decide +kernel
theorem hd_X6_turned : yX6_turned.cls = RX6 ∧ yX6_turned.cls ≠ "java/lang/invoke/MethodHandle" ∧ yX6_turned.cls ≠ "java/lang/invoke/VarHandle" ∧ (parseMethodDescriptor yX6_turned.desc).map (fun d => d.parameters.length) = some 1 := by decide +kernel
theorem hd_X6_heardOf : yX6_heardOf.cls = RX6 ∧ yX6_heardOf.cls ≠ "java/lang/invoke/MethodHandle" ∧ yX6_heardOf.cls ≠ "java/lang/invoke/VarHandle" ∧ (parseMethodDescriptor yX6_heardOf.desc).map (fun d => d.parameters.length) = some 1 := by decide +kernel
theorem hd_X6_undo : yX6_undo.cls = RX6 ∧ yX6_undo.cls ≠ "java/lang/invoke/MethodHandle" ∧ yX6_undo.cls ≠ "java/lang/invoke/VarHandle" ∧ (parseMethodDescriptor yX6_undo.desc).map (fun d => d.parameters.length) = some 0 := by decide +kernel
theorem hd_X6_taken : yX6_taken.cls = RX6 ∧ yX6_taken.cls ≠ "java/lang/invoke/MethodHandle" ∧ yX6_taken.cls ≠ "java/lang/invoke/VarHandle" ∧ (parseMethodDescriptor yX6_taken.desc).map (fun d => d.parameters.length) = some 2 := by decide +kernel
theorem hd_X6_clash : yX6_clash.cls = RX6 ∧ yX6_clash.cls ≠ "java/lang/invoke/MethodHandle" ∧ yX6_clash.cls ≠ "java/lang/invoke/VarHandle" ∧ (parseMethodDescriptor yX6_clash.desc).map (fun d => d.parameters.length) = some 1 := by decide +kernel
theorem hd_X6_alter : yX6_alter.cls = RX6 ∧ yX6_alter.cls ≠ "java/lang/invoke/MethodHandle" ∧ yX6_alter.cls ≠ "java/lang/invoke/VarHandle" ∧ (parseMethodDescriptor yX6_alter.desc).map (fun d => d.parameters.length) = some 0 := by decide +kernel
theorem hd_X6_names : yX6_names.cls = RX6 ∧ yX6_names.cls ≠ "java/lang/invoke/MethodHandle" ∧ yX6_names.cls ≠ "java/lang/invoke/VarHandle" ∧ (parseMethodDescriptor yX6_names.desc).map (fun d => d.parameters.length) = some 1 := by decide +kernel
theorem hd_X6_bride : yX6_bride.cls = RX6 ∧ yX6_bride.cls ≠ "java/lang/invoke/MethodHandle" ∧ yX6_bride.cls ≠ "java/lang/invoke/VarHandle" ∧ (parseMethodDescriptor yX6_bride.desc).map (fun d => d.parameters.length) = some 1 := by decide +kernel
theorem hd_X6_thief : yX6_thief.cls = RX6 ∧ yX6_thief.cls ≠ "java/lang/invoke/MethodHandle" ∧ yX6_thief.cls ≠ "java/lang/invoke/VarHandle" ∧ (parseMethodDescriptor yX6_thief.desc).map (fun d => d.parameters.length) = some 3 := by decide +kernel
theorem hd_X6_whistled : yX6_whistled.cls = RX6 ∧ yX6_whistled.cls ≠ "java/lang/invoke/MethodHandle" ∧ yX6_whistled.cls ≠ "java/lang/invoke/VarHandle" ∧ (parseMethodDescriptor yX6_whistled.desc).map (fun d => d.parameters.length) = some 4 := by decide +kernel
theorem hd_X6_word : yX6_word.cls = RX6 ∧ yX6_word.cls ≠ "java/lang/invoke/MethodHandle" ∧ yX6_word.cls ≠ "java/lang/invoke/VarHandle" ∧ (parseMethodDescriptor yX6_word.desc).map (fun d => d.parameters.length) = some 4 := by decide +kernel
theorem hd_X6_free : yX6_free.cls = RX6 ∧ yX6_free.cls ≠ "java/lang/invoke/MethodHandle" ∧ yX6_free.cls ≠ "java/lang/invoke/VarHandle" ∧ (parseMethodDescriptor yX6_free.desc).map (fun d => d.parameters.length) = some 2 := by decide +kernel
theorem hd_X6_image : yX6_image.cls = RX6 ∧ yX6_image.cls ≠ "java/lang/invoke/MethodHandle" ∧ yX6_image.cls ≠ "java/lang/invoke/VarHandle" ∧ (parseMethodDescriptor yX6_image.desc).map (fun d => d.parameters.length) = some 1 := by decide +kernel
theorem hd_X6_from : yX6_from.cls = RX6 ∧ yX6_from.cls ≠ "java/lang/invoke/MethodHandle" ∧ yX6_from.cls ≠ "java/lang/invoke/VarHandle" ∧ (parseMethodDescriptor yX6_from.desc).map (fun d => d.parameters.length) = some 1 := by decide +kernel
theorem hd_X6_status : yX6_status.cls = RX6 ∧ yX6_status.cls ≠ "java/lang/invoke/MethodHandle" ∧ yX6_status.cls ≠ "java/lang/invoke/VarHandle" ∧ (parseMethodDescriptor yX6_status.desc).map (fun d => d.parameters.length) = some 1 := by decide +kernel
theorem hd_X6_count : yX6_count.cls = RX6 ∧ yX6_count.cls ≠ "java/lang/invoke/MethodHandle" ∧ yX6_count.cls ≠ "java/lang/invoke/VarHandle" ∧ (parseMethodDescriptor yX6_count.desc).map (fun d => d.parameters.length) = some 1 := by decide +kernel
theorem hd_X6_digest : yX6_digest.cls = RX6 ∧ yX6_digest.cls ≠ "java/lang/invoke/MethodHandle" ∧ yX6_digest.cls ≠ "java/lang/invoke/VarHandle" ∧ (parseMethodDescriptor yX6_digest.desc).map (fun d => d.parameters.length) = some 0 := by decide +kernel
abbrev P_X6_refuse (G : XG) (wn : Nat) (go : Nat) (sp : Nat) (ia : Nat) (ka : Nat) (tq : Nat) (wh : Nat) (nm : Nat) (ra : Nat) (rf : Nat → Int) (k : Nat) (rs : Int) (a : Int) : Option Value → va_W → Prop := fun r ws => r = some (.int (zI a)) ∧ ws = [(wn, .inr (5, [.ref go, .ref sp, .ref ia, .ref ka, .ref tq, .ref wh, .ref nm, .ref ra])), (ra, aI G 3 (rfC false rf k))]
abbrev W_X6_refuse (G : XG) (E : XE) (wn : Nat) (go : Nat) (sp : Nat) (ia : Nat) (ka : Nat) (tq : Nat) (wh : Nat) (nm : Nat) (ra : Nat) (rf : Nat → Int) (k : Nat) (rs : Int) (a : Int) (pc : Nat) (lv : List (Nat × Value)) (st : List Value) (ws : va_W) : Prop := Wx G E (rmL 0) cX6_refuse 4 RX6 wsX6_refuse (some .int) "refuse" 0 0 (P_X6_refuse G wn go sp ia ka tq wh nm ra rf k rs a) 0 0 pc lv st ws
theorem flX6_refuse_48 : Cond.fieldLink RX6 48 (TX6 7).1 (TX6 7).2.1 (TX6 7).2.2.1 ∈ wsX6_refuse := by decide +kernel
theorem inX6_refuse_X6 : ∀ w ∈ u_ws RX6 TX6 8, w ∈ wsX6_refuse := fun _ h => List.mem_cons_of_mem _ (List.mem_append_right _ h)
set_option maxHeartbeats 4000000 in
set_option maxRecDepth 100000 in
/-- refuse -/
theorem c_X6_refuse (G : XG) (wn go sp ia ka tq wh nm ra : Nat) (rf : Nat → Int) (k : Nat) (rs a : Int) (hk : 1 ≤ k ∧ k ≤ 3) (hr : rs = -1 - ((k : Nat) : Int)) (ha : Z32 a) : Con G yX6_refuse wsX6_refuse (rmL 0) 0 0 [.ref wn, .int (zI rs), .int (zI a)] ([(wn, .inr (5, [.ref go, .ref sp, .ref ia, .ref ka, .ref tq, .ref wh, .ref nm, .ref ra])), (ra, aI G 3 rf)]) (P_X6_refuse G wn go sp ia ka tq wh nm ra rf k rs a) := by
  refine x_start (cc := cX6_refuse) (nL := 4) (ret := (some .int)) (by decide) rfl (Nat.le_of_ble_eq_true rfl) (fun E => ?_)
  show W_X6_refuse G E wn go sp ia ka tq wh nm ra rf k rs a 0 [(0, .ref wn), (1, .int (zI rs)), (2, .int (zI a))] [] ([(wn, .inr (5, [.ref go, .ref sp, .ref ia, .ref ka, .ref tq, .ref wh, .ref nm, .ref ra])), (ra, aI G 3 rf)])
  refine x_bipush 2 rfl dX6_refuse_0 (z := (-2)) (by decide) ?_
  refine x_iload_n 3 rfl dX6_refuse_2 1 rfl ?_
  refine x_isub 4 rfl dX6_refuse_3 (z := ((k - 1 : Nat) : Int)) (by omega) ?_
  refine x_istore_n 5 rfl (lv' := [(3, .int (zI ((k - 1 : Nat) : Int))), (0, .ref wn), (1, .int (zI rs)), (2, .int (zI a))]) dX6_refuse_4 (by decide) rfl ?_
  refine x_iload_n 6 rfl dX6_refuse_5 0 rfl ?_
  refine x_if_lt 9 rfl (tgt := 28) dX6_refuse_6 (by decide) (by omega) (fun h6 => ?_) (fun h6 => ?_)
  · skip
    refine x_iload_n 29 rfl dX6_refuse_28 3 rfl ?_
    refine x_iret rfl ?_ dX6_refuse_29
    exact absurd hk (by omega)
  · skip
    refine x_iload_n 10 rfl dX6_refuse_9 0 rfl ?_
    refine x_aload_n 11 rfl dX6_refuse_10 1 rfl ?_
    refine x_get 14 rfl (v := .ref ra) 0 7 rfl rfl (by decide) inX6_refuse_X6 flX6_refuse_48 rfl dX6_refuse_11 ?_
    refine x_alenI 15 rfl 1 rfl dX6_refuse_14 ?_
    refine x_icmp_ge 18 rfl (tgt := 28) dX6_refuse_15 (by decide) (by omega) (by omega) (fun h15 => ?_) (fun h15 => ?_)
    · skip
      refine x_iload_n 29 rfl dX6_refuse_28 3 rfl ?_
      refine x_iret rfl ?_ dX6_refuse_29
      exact absurd hk (by omega)
    · skip
      refine x_aload_n 19 rfl dX6_refuse_18 1 rfl ?_
      refine x_get 22 rfl (v := .ref ra) 0 7 rfl rfl (by decide) inX6_refuse_X6 flX6_refuse_48 rfl dX6_refuse_19 ?_
      refine x_iload_n 23 rfl dX6_refuse_22 0 rfl ?_
      refine x_dup2 24 rfl dX6_refuse_23 rfl rfl ?_
      refine x_iald 25 rfl 1 (k - 1) rfl (⟨by omega, by omega⟩) (by decide) (v := rf (k - 1)) (rfl) dX6_refuse_24 ?_
      refine x_iconst 26 rfl dX6_refuse_25 (z := 1) (by decide) ?_
      refine x_iadd 27 rfl dX6_refuse_26 (z := (rf (k - 1)) + 1) (rfl) ?_
      refine x_iast 28 rfl 1 (k - 1) rfl (⟨by omega, by omega⟩) (by decide) (ws' := [(wn, .inr (5, [.ref go, .ref sp, .ref ia, .ref ka, .ref tq, .ref wh, .ref nm, .ref ra])), (ra, aI G 3 (zup rf (k - 1) ((rf (k - 1)) + 1)))]) (rfl) dX6_refuse_27 ?_
      refine x_iload_n 29 rfl dX6_refuse_28 3 rfl ?_
      refine x_iret rfl ?_ dX6_refuse_29
      obtain ⟨j, rfl⟩ : ∃ j, k = j + 1 := ⟨k - 1, by omega⟩
      exact ⟨rfl, rfl⟩

abbrev P_X6_counted (G : XG) (wn : Nat) (go : Nat) (sp : Nat) (ia : Nat) (ka : Nat) (tq : Nat) (wh : Nat) (nm : Nat) (ra : Nat) (rf : Nat → Int) (k : Nat) (q : Int) : Option Value → va_W → Prop := fun r ws => r = some (.int (zI (rC k q))) ∧ ws = [(wn, .inr (5, [.ref go, .ref sp, .ref ia, .ref ka, .ref tq, .ref wh, .ref nm, .ref ra])), (ra, aI G 3 (rfC false rf k))]
abbrev W_X6_counted (G : XG) (E : XE) (wn : Nat) (go : Nat) (sp : Nat) (ia : Nat) (ka : Nat) (tq : Nat) (wh : Nat) (nm : Nat) (ra : Nat) (rf : Nat → Int) (k : Nat) (q : Int) (pc : Nat) (lv : List (Nat × Value)) (st : List Value) (ws : va_W) : Prop := Wx G E (rmL 1) cX6_counted 2 RX6 wsX6_counted (some .int) "counted" 0 0 (P_X6_counted G wn go sp ia ka tq wh nm ra rf k q) 0 0 pc lv st ws
set_option maxHeartbeats 4000000 in
set_option maxRecDepth 100000 in
/-- counted -/
theorem c_X6_counted (G : XG) (wn go sp ia ka tq wh nm ra : Nat) (rf : Nat → Int) (k : Nat) (q : Int) (hk : k ≤ 3) (hr : 0 ≤ q ∧ q ≤ 100000) : Con G yX6_counted wsX6_counted (rmL 1) 0 0 [.ref wn, .int (zI (rC k q))] ([(wn, .inr (5, [.ref go, .ref sp, .ref ia, .ref ka, .ref tq, .ref wh, .ref nm, .ref ra])), (ra, aI G 3 rf)]) (P_X6_counted G wn go sp ia ka tq wh nm ra rf k q) := by
  refine x_start (cc := cX6_counted) (nL := 2) (ret := (some .int)) (by decide) rfl (Nat.le_of_ble_eq_true rfl) (fun E => ?_)
  show W_X6_counted G E wn go sp ia ka tq wh nm ra rf k q 0 [(0, .ref wn), (1, .int (zI (rC k q)))] [] ([(wn, .inr (5, [.ref go, .ref sp, .ref ia, .ref ka, .ref tq, .ref wh, .ref nm, .ref ra])), (ra, aI G 3 rf)])
  have hc := rC_r (k := k) (r := q) hk hr.1
  have hc2 : rC k q ≤ -2 → k ≠ 0 ∧ rC k q = -1 - ((k : Nat) : Int) := by unfold rC; intro h; (repeat' split at h) <;> (repeat' split) <;> omega
  refine x_iload_n 1 rfl dX6_counted_0 1 rfl ?_
  refine x_bipush 3 rfl dX6_counted_1 (z := (-2)) (by decide) ?_
  refine x_icmp_gt 6 rfl (tgt := 15) dX6_counted_3 (by decide) (by omega) (by decide) (fun h3 => ?_) (fun h3 => ?_)
  · skip
    refine x_iload_n 16 rfl dX6_counted_15 1 rfl ?_
    refine x_iret rfl ?_ dX6_counted_16
    have k0 : k = 0 := by unfold rC at h3; (repeat' split at h3) <;> omega
    exact ⟨rfl, by rw [k0] <;> rfl⟩
  · skip
    refine x_aload_n 7 rfl dX6_counted_6 0 rfl ?_
    refine x_iload_n 8 rfl dX6_counted_7 1 rfl ?_
    refine x_iload_n 9 rfl dX6_counted_8 1 rfl ?_
    refine x_callV 12 rfl (c_X6_refuse G wn go sp ia ka tq wh nm ra rf k (rC k q) (rC k q) (by have := hc2 (by omega); omega) (hc2 (by omega)).2 (by omega)) [0, 1] rfl (by decide) 0 rfl rfl gX6_counted_X6_refuse rfl rfl rfl hd_X6_refuse ⟨Nat.le_of_ble_eq_true rfl, Nat.le_of_ble_eq_true rfl⟩ (As := [.int (zI (rC k q)), .int (zI (rC k q))]) (rest := []) rfl rfl (Nat.le_of_ble_eq_true rfl) dX6_counted_9 ⟨Nat.zero_le _, Nat.zero_le _⟩ (fun v w hq => ?_)
    obtain ⟨rfl, rfl⟩ := hq
    refine ⟨rfl, ?_⟩
    refine x_ws (ws' := [(wn, .inr (5, [.ref go, .ref sp, .ref ia, .ref ka, .ref tq, .ref wh, .ref nm, .ref ra])), (ra, aI G 3 (rfC false rf k))]) (rfl) ?_
    refine x_goto dX6_counted_12 (tgt := 16) (by decide) ?_
    refine x_iret rfl ?_ dX6_counted_16
    exact ⟨rfl, rfl⟩

abbrev P_X6_isCall (G : XG) (place : Int) (tune : Int) (wind : Int) : Option Value → va_W → Prop := fun r ws => r = some (.int (zB (decide (kL place tune wind = 0)))) ∧ ws = []
abbrev W_X6_isCall (G : XG) (E : XE) (place : Int) (tune : Int) (wind : Int) (pc : Nat) (lv : List (Nat × Value)) (st : List Value) (ws : va_W) : Prop := Wx G E (rmL 2) cX6_isCall 3 RX6 wsX6_isCall (some .boolean) "isCall" 0 0 (P_X6_isCall G place tune wind) 0 0 pc lv st ws
set_option maxHeartbeats 4000000 in
set_option maxRecDepth 100000 in
/-- isCall -/
theorem c_X6_isCall (G : XG) (place tune wind : Int) (h1 : Z32 place) (h2 : Z32 tune) (h3 : Z32 wind) : Con G yX6_isCall wsX6_isCall (rmL 2) 0 0 [.int (zI place), .int (zI tune), .int (zI wind)] ([]) (P_X6_isCall G place tune wind) := by
  refine x_start (cc := cX6_isCall) (nL := 3) (ret := (some .boolean)) (by decide) rfl (Nat.le_of_ble_eq_true rfl) (fun E => ?_)
  show W_X6_isCall G E place tune wind 0 [(0, .int (zI place)), (1, .int (zI tune)), (2, .int (zI wind))] [] ([])
  refine x_iload_n 1 rfl dX6_isCall_0 0 rfl ?_
  refine x_bipush 3 rfl dX6_isCall_1 (z := 6) (by decide) ?_
  refine x_callS0 6 rfl (c_X6_isBelow G place 6 (by omega) (by omega)) (fun _ _ h => h.2) gX6_isCall_X6_isBelow rfl rfl rfl hd_X6_isBelow ⟨Nat.le_of_ble_eq_true rfl, Nat.le_of_ble_eq_true rfl⟩ (As := [.int (zI place), .int (zI 6)]) (rest := []) rfl rfl (Nat.le_of_ble_eq_true rfl) dX6_isCall_3 ⟨Nat.zero_le _, Nat.zero_le _⟩ (fun v hq => ?_)
  obtain ⟨rfl, -⟩ := hq
  refine x_bif_eq 9 rfl (tgt := 28) dX6_isCall_6 (by decide) (fun h6 => ?_) (fun h6 => ?_)
  · have h6 := of_decide_eq_false h6
    refine x_iconst 29 rfl dX6_isCall_28 (z := 0) (by decide) ?_
    refine x_int (y := zB (decide (kL place tune wind = 0))) (zB_n (by unfold kL; rw [if_neg (fun hh => by first | omega | (simp [*] at hh; done) | (obtain ⟨ha, hb, hc, hd⟩ := hh; first | omega | simp_all) | (obtain ⟨ha, hb, hc⟩ := hh; first | omega | simp_all) | (obtain ⟨ha, hb⟩ := hh; first | omega | simp_all))]; decide)) ?_
    refine x_zret rfl ?_ dX6_isCall_29
    exact ⟨rfl, rfl⟩
  · have h6 := of_decide_eq_true h6
    refine x_iload_n 10 rfl dX6_isCall_9 1 rfl ?_
    refine x_callS0 13 rfl (c_X4_isTune G tune (by omega)) (fun _ _ h => h.2) gX6_isCall_X4_isTune rfl rfl rfl hd_X4_isTune ⟨Nat.le_of_ble_eq_true rfl, Nat.le_of_ble_eq_true rfl⟩ (As := [.int (zI tune)]) (rest := []) rfl rfl (Nat.le_of_ble_eq_true rfl) dX6_isCall_10 ⟨Nat.zero_le _, Nat.zero_le _⟩ (fun v hq => ?_)
    obtain ⟨rfl, -⟩ := hq
    refine x_bif_eq 16 rfl (tgt := 28) dX6_isCall_13 (by decide) (fun h13 => ?_) (fun h13 => ?_)
    · skip
      refine x_iconst 29 rfl dX6_isCall_28 (z := 0) (by decide) ?_
      refine x_int (y := zB (decide (kL place tune wind = 0))) (zB_n (by unfold kL; rw [if_neg (fun hh => by first | omega | (simp [*] at hh; done) | (obtain ⟨ha, hb, hc, hd⟩ := hh; first | omega | simp_all) | (obtain ⟨ha, hb, hc⟩ := hh; first | omega | simp_all) | (obtain ⟨ha, hb⟩ := hh; first | omega | simp_all))]; decide)) ?_
      refine x_zret rfl ?_ dX6_isCall_29
      exact ⟨rfl, rfl⟩
    · skip
      refine x_iload_n 17 rfl dX6_isCall_16 2 rfl ?_
      refine x_iconst 18 rfl dX6_isCall_17 (z := 4) (by decide) ?_
      refine x_callS0 21 rfl (c_X6_isBelow G wind 4 (by omega) (by omega)) (fun _ _ h => h.2) gX6_isCall_X6_isBelow rfl rfl rfl hd_X6_isBelow ⟨Nat.le_of_ble_eq_true rfl, Nat.le_of_ble_eq_true rfl⟩ (As := [.int (zI wind), .int (zI 4)]) (rest := []) rfl rfl (Nat.le_of_ble_eq_true rfl) dX6_isCall_18 ⟨Nat.zero_le _, Nat.zero_le _⟩ (fun v hq => ?_)
      obtain ⟨rfl, -⟩ := hq
      refine x_bif_eq 24 rfl (tgt := 28) dX6_isCall_21 (by decide) (fun h21 => ?_) (fun h21 => ?_)
      · have h21 := of_decide_eq_false h21
        refine x_iconst 29 rfl dX6_isCall_28 (z := 0) (by decide) ?_
        refine x_int (y := zB (decide (kL place tune wind = 0))) (zB_n (by unfold kL; rw [if_neg (fun hh => by first | omega | (simp [*] at hh; done) | (obtain ⟨ha, hb, hc, hd⟩ := hh; first | omega | simp_all) | (obtain ⟨ha, hb, hc⟩ := hh; first | omega | simp_all) | (obtain ⟨ha, hb⟩ := hh; first | omega | simp_all))]; decide)) ?_
        refine x_zret rfl ?_ dX6_isCall_29
        exact ⟨rfl, rfl⟩
      · have h21 := of_decide_eq_true h21
        refine x_iconst 25 rfl dX6_isCall_24 (z := 1) (by decide) ?_
        refine x_goto dX6_isCall_25 (tgt := 29) (by decide) ?_
        refine x_int (y := zB (decide (kL place tune wind = 0))) (zB_d (by unfold kL; exact if_pos ⟨by omega, by assumption, by omega⟩)) ?_
        refine x_zret rfl ?_ dX6_isCall_29
        exact ⟨rfl, rfl⟩

abbrev P_X6_hears (G : XG) (go : Nat) (ga : Nat → Nat) (b : Nat → Int) (n : Nat) (d : Nat) (c : Nat) (gf : Nat → Nat → Int) (wn : Nat) (sp : Nat) (ia : Nat) (ka : Nat) (tq : Nat) (wh : Nat) (nm : Nat) (ra : Nat) (rf : Nat → Int) (p : Int) (q : Int) (w : Int) : Option Value → va_W → Prop := fun r ws => ∃ n' d' c' : Nat, ∃ gf' : Nat → Nat → Int, r = some (.int (zI (rH b p q w))) ∧ ws = [(wn, .inr (5, [.ref go, .ref sp, .ref ia, .ref ka, .ref tq, .ref wh, .ref nm, .ref ra])), (ra, aI G 3 (rfC false rf (kH p q w))), (go, goE ga ((n' : Nat) : Int) ((d' : Nat) : Int) ((c' : Nat) : Int)), (ga 0, aI G 36 (gf' 0)), (ga 1, aI G 7 (gf' 1)), (ga 2, aI G 7 (gf' 2)), (ga 3, aI G 7 (gf' 3)), (ga 4, aI G 7 (gf' 4)), (ga 5, aI G 6 (gf' 5)), (ga 6, aI G 6 (gf' 6)), (ga 7, aI G 8 (gf' 7))] ∧ Inv (bH b p q w) n' d' c' ∧ GR (bH b p q w) n' d' c' gf'
abbrev W_X6_hears (G : XG) (E : XE) (go : Nat) (ga : Nat → Nat) (b : Nat → Int) (n : Nat) (d : Nat) (c : Nat) (gf : Nat → Nat → Int) (wn : Nat) (sp : Nat) (ia : Nat) (ka : Nat) (tq : Nat) (wh : Nat) (nm : Nat) (ra : Nat) (rf : Nat → Int) (p : Int) (q : Int) (w : Int) (pc : Nat) (lv : List (Nat × Value)) (st : List Value) (ws : va_W) : Prop := Wx G E (rmL 2) cX6_hears 5 RX6 wsX6_hears (some .int) "hears" 0 0 (P_X6_hears G go ga b n d c gf wn sp ia ka tq wh nm ra rf p q w) 0 0 pc lv st ws
theorem flX6_hears_10 : Cond.fieldLink RX6 10 (TX6 0).1 (TX6 0).2.1 (TX6 0).2.2.1 ∈ wsX6_hears := by decide +kernel
theorem inX6_hears_X6 : ∀ w ∈ u_ws RX6 TX6 8, w ∈ wsX6_hears := fun _ h => List.mem_cons_of_mem _ (List.mem_append_left _ (List.mem_append_right _ h))
set_option maxHeartbeats 4000000 in
set_option maxRecDepth 100000 in
/-- hears -/
theorem c_X6_hears (G : XG) (go : Nat) (ga : Nat → Nat) (b : Nat → Int) (n d c : Nat) (gf : Nat → Nat → Int) (I : Inv b n d c) (R : GR b n d c gf) (wn sp ia ka tq wh nm ra : Nat) (rf : Nat → Int) (p q w : Int) (hp : Z32 p) (hq : Z32 q) (hw : Z32 w) : Con G yX6_hears wsX6_hears (rmL 2) 0 0 [.ref wn, .int (zI p), .int (zI q), .int (zI w)] ([(wn, .inr (5, [.ref go, .ref sp, .ref ia, .ref ka, .ref tq, .ref wh, .ref nm, .ref ra])), (ra, aI G 3 rf), (go, goE ga ((n : Nat) : Int) ((d : Nat) : Int) ((c : Nat) : Int)), (ga 0, aI G 36 (gf 0)), (ga 1, aI G 7 (gf 1)), (ga 2, aI G 7 (gf 2)), (ga 3, aI G 7 (gf 3)), (ga 4, aI G 7 (gf 4)), (ga 5, aI G 6 (gf 5)), (ga 6, aI G 6 (gf 6)), (ga 7, aI G 8 (gf 7))]) (P_X6_hears G go ga b n d c gf wn sp ia ka tq wh nm ra rf p q w) := by
  refine x_start (cc := cX6_hears) (nL := 5) (ret := (some .int)) (by decide) rfl (Nat.le_of_ble_eq_true rfl) (fun E => ?_)
  show W_X6_hears G E go ga b n d c gf wn sp ia ka tq wh nm ra rf p q w 0 [(0, .ref wn), (1, .int (zI p)), (2, .int (zI q)), (3, .int (zI w))] [] ([(wn, .inr (5, [.ref go, .ref sp, .ref ia, .ref ka, .ref tq, .ref wh, .ref nm, .ref ra])), (ra, aI G 3 rf), (go, goE ga ((n : Nat) : Int) ((d : Nat) : Int) ((c : Nat) : Int)), (ga 0, aI G 36 (gf 0)), (ga 1, aI G 7 (gf 1)), (ga 2, aI G 7 (gf 2)), (ga 3, aI G 7 (gf 3)), (ga 4, aI G 7 (gf 4)), (ga 5, aI G 6 (gf 5)), (ga 6, aI G 6 (gf 6)), (ga 7, aI G 8 (gf 7))])
  have hn7 := I.n7
  have hd6 := I.d6
  have hc8 := I.c8
  refine x_aload_n 1 rfl dX6_hears_0 0 rfl ?_
  refine x_get 4 rfl (v := .ref go) 0 0 rfl rfl (by decide) inX6_hears_X6 flX6_hears_10 rfl dX6_hears_1 ?_
  refine x_iload_n 5 rfl dX6_hears_4 1 rfl ?_
  refine x_iload_n 6 rfl dX6_hears_5 2 rfl ?_
  refine x_iload_n 7 rfl dX6_hears_6 3 rfl ?_
  refine x_callV 10 rfl (c_X0_tellWind G go ga b n d c gf I R p q w (by omega) (by omega) (by omega)) [2, 3, 4, 5, 6, 7, 8, 9, 10] rfl (by decide) 2 rfl rfl gX6_hears_X0_tellWind rfl rfl rfl hd_X0_tellWind ⟨Nat.le_of_ble_eq_true rfl, Nat.le_of_ble_eq_true rfl⟩ (As := [.int (zI p), .int (zI q), .int (zI w)]) (rest := []) rfl rfl (Nat.le_of_ble_eq_true rfl) dX6_hears_7 ⟨Nat.zero_le _, Nat.zero_le _⟩ (fun v w hq => ?_)
  obtain ⟨gf', rfl, rfl, R'⟩ := hq
  refine ⟨rfl, ?_⟩
  refine x_ws (ws' := [(wn, .inr (5, [.ref go, .ref sp, .ref ia, .ref ka, .ref tq, .ref wh, .ref nm, .ref ra])), (ra, aI G 3 rf), (go, goE ga ((n : Nat) : Int) ((d : Nat) : Int) ((c : Nat) : Int)), (ga 0, aI G 36 (gf' 0)), (ga 1, aI G 7 (gf' 1)), (ga 2, aI G 7 (gf' 2)), (ga 3, aI G 7 (gf' 3)), (ga 4, aI G 7 (gf' 4)), (ga 5, aI G 6 (gf' 5)), (ga 6, aI G 6 (gf' 6)), (ga 7, aI G 8 (gf' 7))]) (rfl) ?_
  have hr := rW_r I hp hq hw
  have hk01 : kH p q w = 0 ∨ kH p q w = 1 := by unfold kH; split <;> omega
  refine x_istore 12 rfl (lv' := [(4, .int (zI (rW b p q w))), (0, .ref wn), (1, .int (zI p)), (2, .int (zI q)), (3, .int (zI w))]) dX6_hears_10 (by decide) rfl ?_
  refine x_iload 14 rfl dX6_hears_12 0 rfl ?_
  refine x_bipush 16 rfl dX6_hears_14 (z := (-2)) (by decide) ?_
  refine x_icmp_ne 19 rfl (tgt := 30) dX6_hears_16 (by decide) (by omega) (by decide) (fun h16 => ?_) (fun h16 => ?_)
  · skip
    refine x_iload 32 rfl dX6_hears_30 0 rfl ?_
    refine x_iret rfl ?_ dX6_hears_32
    have hk : kH p q w = 0 := by omega
    exact ⟨_, _, _, gf', by unfold rH rW; rw [hk] <;> rfl, by rw [hk] <;> rfl, Inv_bH I _ _ _, R'⟩
  · skip
    refine x_aload_n 20 rfl dX6_hears_19 1 rfl ?_
    refine x_bipush 22 rfl dX6_hears_20 (z := (-2)) (by decide) ?_
    refine x_bipush 24 rfl dX6_hears_22 (z := (-10)) (by decide) ?_
    refine x_callV 27 rfl (c_X6_refuse G wn go sp ia ka tq wh nm ra rf 1 (-2) (-10) (by decide) (by decide) (by decide)) [0, 1] rfl (by decide) 0 rfl rfl gX6_hears_X6_refuse rfl rfl rfl hd_X6_refuse ⟨Nat.le_of_ble_eq_true rfl, Nat.le_of_ble_eq_true rfl⟩ (As := [.int (zI (-2)), .int (zI (-10))]) (rest := []) rfl rfl (Nat.le_of_ble_eq_true rfl) dX6_hears_24 ⟨Nat.zero_le _, Nat.zero_le _⟩ (fun v w hq => ?_)
    obtain ⟨rfl, rfl⟩ := hq
    refine ⟨rfl, ?_⟩
    refine x_ws (ws' := [(wn, .inr (5, [.ref go, .ref sp, .ref ia, .ref ka, .ref tq, .ref wh, .ref nm, .ref ra])), (ra, aI G 3 (rfC false rf 1)), (go, goE ga ((n : Nat) : Int) ((d : Nat) : Int) ((c : Nat) : Int)), (ga 0, aI G 36 (gf' 0)), (ga 1, aI G 7 (gf' 1)), (ga 2, aI G 7 (gf' 2)), (ga 3, aI G 7 (gf' 3)), (ga 4, aI G 7 (gf' 4)), (ga 5, aI G 6 (gf' 5)), (ga 6, aI G 6 (gf' 6)), (ga 7, aI G 8 (gf' 7))]) (rfl) ?_
    refine x_goto dX6_hears_27 (tgt := 32) (by decide) ?_
    refine x_iret rfl ?_ dX6_hears_32
    have hk : kH p q w = 1 := by omega
    exact ⟨_, _, _, gf', by unfold rH; rw [hk] <;> rfl, by rw [hk], Inv_bH I _ _ _, R'⟩

abbrev P_X6_one (G : XG) (go : Nat) (ga : Nat → Nat) (b : Nat → Int) (n : Nat) (d : Nat) (c : Nat) (gf : Nat → Nat → Int) (wn : Nat) (sp : Nat) (ia : Nat) (ka : Nat) (tq : Nat) (wh : Nat) (nm : Nat) (ra : Nat) (rf : Nat → Int) (ear : Int) (tune : Int) (place : Int) (kin : Int) : Option Value → va_W → Prop := fun r ws => ∃ n' d' c' : Nat, ∃ gf' : Nat → Nat → Int, r = some (.int (zI (rC (kO n ear tune place kin) ((n : Nat) : Int)))) ∧ ws = [(wn, .inr (5, [.ref go, .ref sp, .ref ia, .ref ka, .ref tq, .ref wh, .ref nm, .ref ra])), (ra, aI G 3 (rfC false rf (kO n ear tune place kin))), (go, goE ga ((n' : Nat) : Int) ((d' : Nat) : Int) ((c' : Nat) : Int)), (ga 0, aI G 36 (gf' 0)), (ga 1, aI G 7 (gf' 1)), (ga 2, aI G 7 (gf' 2)), (ga 3, aI G 7 (gf' 3)), (ga 4, aI G 7 (gf' 4)), (ga 5, aI G 6 (gf' 5)), (ga 6, aI G 6 (gf' 6)), (ga 7, aI G 8 (gf' 7))] ∧ Inv (bO b n ear tune place kin) n' d' c' ∧ GR (bO b n ear tune place kin) n' d' c' gf'
abbrev W_X6_one (G : XG) (E : XE) (go : Nat) (ga : Nat → Nat) (b : Nat → Int) (n : Nat) (d : Nat) (c : Nat) (gf : Nat → Nat → Int) (wn : Nat) (sp : Nat) (ia : Nat) (ka : Nat) (tq : Nat) (wh : Nat) (nm : Nat) (ra : Nat) (rf : Nat → Int) (ear : Int) (tune : Int) (place : Int) (kin : Int) (pc : Nat) (lv : List (Nat × Value)) (st : List Value) (ws : va_W) : Prop := Wx G E (rmL 3) cX6_one 5 RX6 wsX6_one (some .int) "one" 0 0 (P_X6_one G go ga b n d c gf wn sp ia ka tq wh nm ra rf ear tune place kin) 0 0 pc lv st ws
theorem flX6_one_10 : Cond.fieldLink RX6 10 (TX6 0).1 (TX6 0).2.1 (TX6 0).2.2.1 ∈ wsX6_one := by decide +kernel
theorem inX6_one_X6 : ∀ w ∈ u_ws RX6 TX6 8, w ∈ wsX6_one := fun _ h => List.mem_cons_of_mem _ (List.mem_append_left _ (List.mem_append_right _ h))
set_option maxHeartbeats 4000000 in
set_option maxRecDepth 100000 in
/-- one -/
theorem c_X6_one (G : XG) (go : Nat) (ga : Nat → Nat) (b : Nat → Int) (n d c : Nat) (gf : Nat → Nat → Int) (I : Inv b n d c) (R : GR b n d c gf) (wn sp ia ka tq wh nm ra : Nat) (rf : Nat → Int) (ear tune place kin : Int) (h1 : Z32 ear) (h2 : Z32 tune) (h3 : Z32 place) (h4 : Z32 kin) : Con G yX6_one wsX6_one (rmL 3) 0 0 [.ref wn, .int (zI ear), .int (zI tune), .int (zI place), .int (zI kin)] ([(wn, .inr (5, [.ref go, .ref sp, .ref ia, .ref ka, .ref tq, .ref wh, .ref nm, .ref ra])), (ra, aI G 3 rf), (go, goE ga ((n : Nat) : Int) ((d : Nat) : Int) ((c : Nat) : Int)), (ga 0, aI G 36 (gf 0)), (ga 1, aI G 7 (gf 1)), (ga 2, aI G 7 (gf 2)), (ga 3, aI G 7 (gf 3)), (ga 4, aI G 7 (gf 4)), (ga 5, aI G 6 (gf 5)), (ga 6, aI G 6 (gf 6)), (ga 7, aI G 8 (gf 7))]) (P_X6_one G go ga b n d c gf wn sp ia ka tq wh nm ra rf ear tune place kin) := by
  refine x_start (cc := cX6_one) (nL := 5) (ret := (some .int)) (by decide) rfl (Nat.le_of_ble_eq_true rfl) (fun E => ?_)
  show W_X6_one G E go ga b n d c gf wn sp ia ka tq wh nm ra rf ear tune place kin 0 [(0, .ref wn), (1, .int (zI ear)), (2, .int (zI tune)), (3, .int (zI place)), (4, .int (zI kin))] [] ([(wn, .inr (5, [.ref go, .ref sp, .ref ia, .ref ka, .ref tq, .ref wh, .ref nm, .ref ra])), (ra, aI G 3 rf), (go, goE ga ((n : Nat) : Int) ((d : Nat) : Int) ((c : Nat) : Int)), (ga 0, aI G 36 (gf 0)), (ga 1, aI G 7 (gf 1)), (ga 2, aI G 7 (gf 2)), (ga 3, aI G 7 (gf 3)), (ga 4, aI G 7 (gf 4)), (ga 5, aI G 6 (gf 5)), (ga 6, aI G 6 (gf 6)), (ga 7, aI G 8 (gf 7))])
  have hn7 := I.n7
  have hd6 := I.d6
  have hc8 := I.c8
  refine x_aload_n 1 rfl dX6_one_0 0 rfl ?_
  refine x_aload_n 2 rfl dX6_one_1 0 rfl ?_
  refine x_get 5 rfl (v := .ref go) 0 0 rfl rfl (by decide) inX6_one_X6 flX6_one_10 rfl dX6_one_2 ?_
  refine x_iload_n 6 rfl dX6_one_5 1 rfl ?_
  refine x_iload_n 7 rfl dX6_one_6 2 rfl ?_
  refine x_iload_n 8 rfl dX6_one_7 3 rfl ?_
  refine x_iload 10 rfl dX6_one_8 4 rfl ?_
  refine x_callV 13 rfl (c_X0_tellPerson G go ga b n d c gf I R ear tune place kin (by omega) (by omega) (by omega) (by omega)) [2, 3, 4, 5, 6, 7, 8, 9, 10] rfl (by decide) 2 rfl rfl gX6_one_X0_tellPerson rfl rfl rfl hd_X0_tellPerson ⟨Nat.le_of_ble_eq_true rfl, Nat.le_of_ble_eq_true rfl⟩ (As := [.int (zI ear), .int (zI tune), .int (zI place), .int (zI kin)]) (rest := [.ref wn]) rfl rfl (Nat.le_of_ble_eq_true rfl) dX6_one_10 ⟨Nat.zero_le _, Nat.zero_le _⟩ (fun v w hq => ?_)
  obtain ⟨gf', rfl, rfl, R'⟩ := hq
  refine ⟨rfl, ?_⟩
  refine x_ws (ws' := [(wn, .inr (5, [.ref go, .ref sp, .ref ia, .ref ka, .ref tq, .ref wh, .ref nm, .ref ra])), (ra, aI G 3 rf), (go, goE ga ((if kO n ear tune place kin = 0 then n + 1 else n : Nat) : Int) ((d : Nat) : Int) ((c : Nat) : Int)), (ga 0, aI G 36 (gf' 0)), (ga 1, aI G 7 (gf' 1)), (ga 2, aI G 7 (gf' 2)), (ga 3, aI G 7 (gf' 3)), (ga 4, aI G 7 (gf' 4)), (ga 5, aI G 6 (gf' 5)), (ga 6, aI G 6 (gf' 6)), (ga 7, aI G 8 (gf' 7))]) (rfl) ?_
  refine x_callV 16 rfl (c_X6_counted G wn go sp ia ka tq wh nm ra rf (kO n ear tune place kin) ((n : Nat) : Int) (kO_r _ _ _ _ _) (by omega)) [0, 1] rfl (by decide) 0 rfl rfl gX6_one_X6_counted rfl rfl rfl hd_X6_counted ⟨Nat.le_of_ble_eq_true rfl, Nat.le_of_ble_eq_true rfl⟩ (As := [.int (zI (rC (kO n ear tune place kin) ((n : Nat) : Int)))]) (rest := []) rfl rfl (Nat.le_of_ble_eq_true rfl) dX6_one_13 ⟨Nat.zero_le _, Nat.zero_le _⟩ (fun v w hq => ?_)
  obtain ⟨rfl, rfl⟩ := hq
  refine ⟨rfl, ?_⟩
  refine x_ws (ws' := [(wn, .inr (5, [.ref go, .ref sp, .ref ia, .ref ka, .ref tq, .ref wh, .ref nm, .ref ra])), (ra, aI G 3 (rfC false rf (kO n ear tune place kin))), (go, goE ga ((if kO n ear tune place kin = 0 then n + 1 else n : Nat) : Int) ((d : Nat) : Int) ((c : Nat) : Int)), (ga 0, aI G 36 (gf' 0)), (ga 1, aI G 7 (gf' 1)), (ga 2, aI G 7 (gf' 2)), (ga 3, aI G 7 (gf' 3)), (ga 4, aI G 7 (gf' 4)), (ga 5, aI G 6 (gf' 5)), (ga 6, aI G 6 (gf' 6)), (ga 7, aI G 8 (gf' 7))]) (rfl) ?_
  refine x_iret rfl ?_ dX6_one_16
  exact ⟨_, _, _, _, rfl, rfl, Inv_bO I _ _ _ _, R'⟩

abbrev P_X6_dead (G : XG) (go : Nat) (ga : Nat → Nat) (b : Nat → Int) (n : Nat) (d : Nat) (c : Nat) (gf : Nat → Nat → Int) (wn : Nat) (sp : Nat) (ia : Nat) (ka : Nat) (tq : Nat) (wh : Nat) (nm : Nat) (ra : Nat) (rf : Nat → Int) (tune : Int) (year : Int) : Option Value → va_W → Prop := fun r ws => ∃ n' d' c' : Nat, ∃ gf' : Nat → Nat → Int, r = some (.int (zI (rC (kD d tune year) ((d : Nat) : Int)))) ∧ ws = [(wn, .inr (5, [.ref go, .ref sp, .ref ia, .ref ka, .ref tq, .ref wh, .ref nm, .ref ra])), (ra, aI G 3 (rfC false rf (kD d tune year))), (go, goE ga ((n' : Nat) : Int) ((d' : Nat) : Int) ((c' : Nat) : Int)), (ga 0, aI G 36 (gf' 0)), (ga 1, aI G 7 (gf' 1)), (ga 2, aI G 7 (gf' 2)), (ga 3, aI G 7 (gf' 3)), (ga 4, aI G 7 (gf' 4)), (ga 5, aI G 6 (gf' 5)), (ga 6, aI G 6 (gf' 6)), (ga 7, aI G 8 (gf' 7))] ∧ Inv (bD b d tune year) n' d' c' ∧ GR (bD b d tune year) n' d' c' gf'
abbrev W_X6_dead (G : XG) (E : XE) (go : Nat) (ga : Nat → Nat) (b : Nat → Int) (n : Nat) (d : Nat) (c : Nat) (gf : Nat → Nat → Int) (wn : Nat) (sp : Nat) (ia : Nat) (ka : Nat) (tq : Nat) (wh : Nat) (nm : Nat) (ra : Nat) (rf : Nat → Int) (tune : Int) (year : Int) (pc : Nat) (lv : List (Nat × Value)) (st : List Value) (ws : va_W) : Prop := Wx G E (rmL 3) cX6_dead 3 RX6 wsX6_dead (some .int) "dead" 0 0 (P_X6_dead G go ga b n d c gf wn sp ia ka tq wh nm ra rf tune year) 0 0 pc lv st ws
theorem flX6_dead_10 : Cond.fieldLink RX6 10 (TX6 0).1 (TX6 0).2.1 (TX6 0).2.2.1 ∈ wsX6_dead := by decide +kernel
theorem inX6_dead_X6 : ∀ w ∈ u_ws RX6 TX6 8, w ∈ wsX6_dead := fun _ h => List.mem_cons_of_mem _ (List.mem_append_left _ (List.mem_append_right _ h))
set_option maxHeartbeats 4000000 in
set_option maxRecDepth 100000 in
/-- dead -/
theorem c_X6_dead (G : XG) (go : Nat) (ga : Nat → Nat) (b : Nat → Int) (n d c : Nat) (gf : Nat → Nat → Int) (I : Inv b n d c) (R : GR b n d c gf) (wn sp ia ka tq wh nm ra : Nat) (rf : Nat → Int) (tune year : Int) (h1 : Z32 tune) (h2 : Z32 year) : Con G yX6_dead wsX6_dead (rmL 3) 0 0 [.ref wn, .int (zI tune), .int (zI year)] ([(wn, .inr (5, [.ref go, .ref sp, .ref ia, .ref ka, .ref tq, .ref wh, .ref nm, .ref ra])), (ra, aI G 3 rf), (go, goE ga ((n : Nat) : Int) ((d : Nat) : Int) ((c : Nat) : Int)), (ga 0, aI G 36 (gf 0)), (ga 1, aI G 7 (gf 1)), (ga 2, aI G 7 (gf 2)), (ga 3, aI G 7 (gf 3)), (ga 4, aI G 7 (gf 4)), (ga 5, aI G 6 (gf 5)), (ga 6, aI G 6 (gf 6)), (ga 7, aI G 8 (gf 7))]) (P_X6_dead G go ga b n d c gf wn sp ia ka tq wh nm ra rf tune year) := by
  refine x_start (cc := cX6_dead) (nL := 3) (ret := (some .int)) (by decide) rfl (Nat.le_of_ble_eq_true rfl) (fun E => ?_)
  show W_X6_dead G E go ga b n d c gf wn sp ia ka tq wh nm ra rf tune year 0 [(0, .ref wn), (1, .int (zI tune)), (2, .int (zI year))] [] ([(wn, .inr (5, [.ref go, .ref sp, .ref ia, .ref ka, .ref tq, .ref wh, .ref nm, .ref ra])), (ra, aI G 3 rf), (go, goE ga ((n : Nat) : Int) ((d : Nat) : Int) ((c : Nat) : Int)), (ga 0, aI G 36 (gf 0)), (ga 1, aI G 7 (gf 1)), (ga 2, aI G 7 (gf 2)), (ga 3, aI G 7 (gf 3)), (ga 4, aI G 7 (gf 4)), (ga 5, aI G 6 (gf 5)), (ga 6, aI G 6 (gf 6)), (ga 7, aI G 8 (gf 7))])
  have hn7 := I.n7
  have hd6 := I.d6
  have hc8 := I.c8
  refine x_aload_n 1 rfl dX6_dead_0 0 rfl ?_
  refine x_aload_n 2 rfl dX6_dead_1 0 rfl ?_
  refine x_get 5 rfl (v := .ref go) 0 0 rfl rfl (by decide) inX6_dead_X6 flX6_dead_10 rfl dX6_dead_2 ?_
  refine x_iload_n 6 rfl dX6_dead_5 1 rfl ?_
  refine x_iload_n 7 rfl dX6_dead_6 2 rfl ?_
  refine x_callV 10 rfl (c_X0_tellDead G go ga b n d c gf I R tune year (by omega) (by omega)) [2, 3, 4, 5, 6, 7, 8, 9, 10] rfl (by decide) 2 rfl rfl gX6_dead_X0_tellDead rfl rfl rfl hd_X0_tellDead ⟨Nat.le_of_ble_eq_true rfl, Nat.le_of_ble_eq_true rfl⟩ (As := [.int (zI tune), .int (zI year)]) (rest := [.ref wn]) rfl rfl (Nat.le_of_ble_eq_true rfl) dX6_dead_7 ⟨Nat.zero_le _, Nat.zero_le _⟩ (fun v w hq => ?_)
  obtain ⟨gf', rfl, rfl, R'⟩ := hq
  refine ⟨rfl, ?_⟩
  refine x_ws (ws' := [(wn, .inr (5, [.ref go, .ref sp, .ref ia, .ref ka, .ref tq, .ref wh, .ref nm, .ref ra])), (ra, aI G 3 rf), (go, goE ga ((n : Nat) : Int) ((if kD d tune year = 0 then d + 1 else d : Nat) : Int) ((c : Nat) : Int)), (ga 0, aI G 36 (gf' 0)), (ga 1, aI G 7 (gf' 1)), (ga 2, aI G 7 (gf' 2)), (ga 3, aI G 7 (gf' 3)), (ga 4, aI G 7 (gf' 4)), (ga 5, aI G 6 (gf' 5)), (ga 6, aI G 6 (gf' 6)), (ga 7, aI G 8 (gf' 7))]) (rfl) ?_
  refine x_callV 13 rfl (c_X6_counted G wn go sp ia ka tq wh nm ra rf (kD d tune year) ((d : Nat) : Int) (kD_r _ _ _) (by omega)) [0, 1] rfl (by decide) 0 rfl rfl gX6_dead_X6_counted rfl rfl rfl hd_X6_counted ⟨Nat.le_of_ble_eq_true rfl, Nat.le_of_ble_eq_true rfl⟩ (As := [.int (zI (rC (kD d tune year) ((d : Nat) : Int)))]) (rest := []) rfl rfl (Nat.le_of_ble_eq_true rfl) dX6_dead_10 ⟨Nat.zero_le _, Nat.zero_le _⟩ (fun v w hq => ?_)
  obtain ⟨rfl, rfl⟩ := hq
  refine ⟨rfl, ?_⟩
  refine x_ws (ws' := [(wn, .inr (5, [.ref go, .ref sp, .ref ia, .ref ka, .ref tq, .ref wh, .ref nm, .ref ra])), (ra, aI G 3 (rfC false rf (kD d tune year))), (go, goE ga ((n : Nat) : Int) ((if kD d tune year = 0 then d + 1 else d : Nat) : Int) ((c : Nat) : Int)), (ga 0, aI G 36 (gf' 0)), (ga 1, aI G 7 (gf' 1)), (ga 2, aI G 7 (gf' 2)), (ga 3, aI G 7 (gf' 3)), (ga 4, aI G 7 (gf' 4)), (ga 5, aI G 6 (gf' 5)), (ga 6, aI G 6 (gf' 6)), (ga 7, aI G 8 (gf' 7))]) (rfl) ?_
  refine x_iret rfl ?_ dX6_dead_13
  exact ⟨_, _, _, _, rfl, rfl, Inv_bD I _ _, R'⟩

theorem GR_set {b : Nat → Int} {n d c : Nat} {gf : Nat → Nat → Int} (R : GR b n d c gf) (I : Inv b n d c) {p w : Nat} (hp : p < n) (hw : w < 4) (v : Int) : GR (zup b (18 + 4 * p + w) v) n d c (zup gf (1 + w) (zup (gf (1 + w)) p v)) := by
  have hn7 := I.n7
  have key : ∀ q, q < 4 → (∀ i, i < n → gf (1 + q) i = b (18 + 4 * i + q)) → ∀ i, i < n → zup gf (1 + w) (zup (gf (1 + w)) p v) (1 + q) i = zup b (18 + 4 * p + w) v (18 + 4 * i + q) := by
    intro q hq h i hi
    by_cases e : q = w
    · subst e
      rw [zup_s]
      by_cases e2 : i = p
      · subst e2; rw [zup_s, zup_s]
      · rw [zup_n _ _ e2, zup_n _ _ (by omega)]; exact h i hi
    · rw [zup_n gf _ (by omega), zup_n _ _ (by omega)]; exact h i hi
  refine ⟨fun i j hi hj => ?_, fun i hi => ⟨?_, ?_, ?_, ?_⟩, fun i hi => ?_, fun i hi => ?_⟩
  · rw [zup_n gf _ (by omega), R.1 i j hi hj]
    exact (upN_far (fun k hk => zup_n _ _ (by omega)) hi hj).symm
  · exact key 0 (by omega) (fun i hi => (R.2.1 i hi).1) i hi
  · exact key 1 (by omega) (fun i hi => (R.2.1 i hi).2.1) i hi
  · exact key 2 (by omega) (fun i hi => (R.2.1 i hi).2.2.1) i hi
  · exact key 3 (by omega) (fun i hi => (R.2.1 i hi).2.2.2) i hi
  · rw [zup_n gf _ (by omega), zup_n gf _ (by omega), zup_n _ _ (by omega), zup_n _ _ (by omega)]; exact R.2.2.1 i hi
  · rw [zup_n gf _ (by omega), zup_n _ _ (by omega)]; exact R.2.2.2 i hi
theorem Inv_set {b : Nat → Int} {n d c : Nat} (I : Inv b n d c) {p w : Nat} (hp : p < n) (hw : w = 1 ∨ w = 2) {v : Int} (hv : (w = 1 → isT v = true) ∧ (w = 2 → 0 ≤ v ∧ v ≤ 5)) : Inv (zup b (18 + 4 * p + w) v) n d c := by
  obtain ⟨i1, i2, i3, i4, i5, i6, i7, i8, i9, i10⟩ := I
  refine ⟨by rw [zup_n _ _ (by omega)]; exact i1, i2, by rw [zup_n _ _ (by omega)]; exact i3, i4, by rw [zup_n _ _ (by omega)]; exact i5, i6, fun k hk => ?_, fun q hq => ?_, fun k hk => ?_, fun k hk => ?_⟩
  · rw [zup_n _ _ (by omega)]; exact i7 k hk
  · have h := i8 q hq
    rw [zup_n b _ (j := 18 + 4 * q + 0) (by omega), zup_n b _ (j := 18 + 4 * q + 3) (by omega)]
    by_cases e : q = p
    · subst e
      rcases hw with rfl | rfl
      · rw [zup_s, zup_n b _ (by omega)]; exact ⟨h.1, hv.1 rfl, h.2.2⟩
      · rw [zup_n b _ (by omega), zup_s]; exact ⟨h.1, h.2.1, hv.2 rfl, h.2.2.2⟩
    · rw [zup_n b _ (by omega), zup_n b _ (by omega)]; exact h
  · rw [zup_n _ _ (by omega), zup_n _ _ (by omega)]; exact i9 k hk
  · rw [zup_n _ _ (by omega)]; exact i10 k hk
theorem GR_call {b : Nat → Int} {n d c : Nat} {gf : Nat → Nat → Int} (R : GR b n d c gf) (I : Inv b n d c) (v : Int) (z : Int) : GR (zup (zup b (58 + c) v) 17 z) n d (c + 1) (zup gf 7 (zup (gf 7) c v)) := by
  have hn7 := I.n7; have hd6 := I.d6
  refine ⟨fun i j hi hj => ?_, fun i hi => ?_, fun i hi => ?_, fun i hi => ?_⟩
  · rw [zup_n gf _ (by decide), R.1 i j hi hj]
    exact (upN_far (fun k hk => by rw [zup_n _ _ (by omega), zup_n _ _ (by omega)]) hi hj).symm
  · rw [zup_n gf _ (by decide), zup_n gf _ (by decide), zup_n gf _ (by decide), zup_n gf _ (by decide), zup_n _ _ (by omega), zup_n _ _ (by omega), zup_n _ _ (by omega), zup_n _ _ (by omega), zup_n _ _ (by omega), zup_n _ _ (by omega), zup_n _ _ (by omega), zup_n _ _ (by omega)]; exact R.2.1 i hi
  · rw [zup_n gf _ (by decide), zup_n gf _ (by decide), zup_n _ _ (by omega), zup_n _ _ (by omega), zup_n _ _ (by omega), zup_n _ _ (by omega)]; exact R.2.2.1 i hi
  · rw [zup_s, zup_n (zup b (58 + c) v) _ (show 58 + i ≠ 17 by omega)]
    by_cases e : i = c
    · subst e; rw [zup_s, zup_s]
    · rw [zup_n _ _ e, zup_n _ _ (by omega)]; exact R.2.2.2 i (by omega)
theorem Inv_call {b : Nat → Int} {n d c : Nat} (I : Inv b n d c) (hc : c < 8) {v : Int} (hv : 0 ≤ v ∧ v ≤ 127) : Inv (zup (zup b (58 + c) v) 17 ((c + 1 : Nat) : Int)) n d (c + 1) := by
  obtain ⟨i1, i2, i3, i4, i5, i6, i7, i8, i9, i10⟩ := I
  refine ⟨by rw [zup_n _ _ (by omega), zup_n _ _ (by omega)]; exact i1, i2, by rw [zup_n _ _ (by omega), zup_n _ _ (by omega)]; exact i3, i4, zup_s _ _ _, by omega, fun k hk => ?_, fun q hq => ?_, fun k hk => ?_, fun k hk => ?_⟩
  · rw [zup_n _ _ (by omega), zup_n _ _ (by omega)]; exact i7 k hk
  · rw [zup_n _ _ (by omega), zup_n _ _ (by omega), zup_n _ _ (by omega), zup_n _ _ (by omega), zup_n _ _ (by omega), zup_n _ _ (by omega), zup_n _ _ (by omega), zup_n _ _ (by omega)]; exact i8 q hq
  · rw [zup_n _ _ (by omega), zup_n _ _ (by omega), zup_n _ _ (by omega), zup_n _ _ (by omega)]; exact i9 k hk
  · rw [zup_n _ _ (by omega)]
    by_cases e : k = c
    · subst e; rw [zup_s]; exact hv
    · rw [zup_n _ _ (by omega)]; exact i10 k (by omega)
theorem GR_undo {b : Nat → Int} {n d c c' : Nat} {gf : Nat → Nat → Int} (R : GR b n d c gf) (I : Inv b n d c) (hc : c' ≤ c) (z : Int) : GR (zup b 17 z) n d c' gf := by
  have hn7 := I.n7; have hd6 := I.d6
  refine ⟨fun i j hi hj => ?_, fun i hi => ?_, fun i hi => ?_, fun i hi => ?_⟩
  · rw [R.1 i j hi hj]
    exact (upN_far (fun k hk => by rw [zup_n _ _ (by omega)]) hi hj).symm
  · rw [zup_n _ _ (by omega), zup_n _ _ (by omega), zup_n _ _ (by omega), zup_n _ _ (by omega)]; exact R.2.1 i hi
  · rw [zup_n _ _ (by omega), zup_n _ _ (by omega)]; exact R.2.2.1 i hi
  · rw [zup_n _ _ (by omega)]; exact R.2.2.2 i (by omega)
theorem Inv_undo {b : Nat → Int} {n d c c' : Nat} (I : Inv b n d c) (hc : c' ≤ c) : Inv (zup b 17 ((c' : Nat) : Int)) n d c' := by
  obtain ⟨i1, i2, i3, i4, i5, i6, i7, i8, i9, i10⟩ := I
  refine ⟨by rw [zup_n _ _ (by omega)]; exact i1, i2, by rw [zup_n _ _ (by omega)]; exact i3, i4, zup_s _ _ _, by omega, fun k hk => ?_, fun q hq => ?_, fun k hk => ?_, fun k hk => ?_⟩
  · rw [zup_n _ _ (by omega)]; exact i7 k hk
  · rw [zup_n _ _ (by omega), zup_n _ _ (by omega), zup_n _ _ (by omega), zup_n _ _ (by omega)]; exact i8 q hq
  · rw [zup_n _ _ (by omega), zup_n _ _ (by omega)]; exact i9 k hk
  · rw [zup_n _ _ (by omega)]; exact i10 k (by omega)
abbrev P_X6_rename (G : XG) (go : Nat) (ga : Nat → Nat) (b : Nat → Int) (n : Nat) (d : Nat) (c : Nat) (gf : Nat → Nat → Int) (wn : Nat) (sp : Nat) (ia : Nat) (ka : Nat) (tq : Nat) (wh : Nat) (nm : Nat) (ra : Nat) (rf : Nat → Int) (p : Int) (tune : Int) : Option Value → va_W → Prop := fun r ws => ∃ n' d' c' : Nat, ∃ gf' : Nat → Nat → Int, r = some (.int (zI (rC (kR n p tune) (b (18 + 4 * p.toNat + 1))))) ∧ ws = [(wn, .inr (5, [.ref go, .ref sp, .ref ia, .ref ka, .ref tq, .ref wh, .ref nm, .ref ra])), (ra, aI G 3 (rfC false rf (kR n p tune))), (go, goE ga ((n' : Nat) : Int) ((d' : Nat) : Int) ((c' : Nat) : Int)), (ga 0, aI G 36 (gf' 0)), (ga 1, aI G 7 (gf' 1)), (ga 2, aI G 7 (gf' 2)), (ga 3, aI G 7 (gf' 3)), (ga 4, aI G 7 (gf' 4)), (ga 5, aI G 6 (gf' 5)), (ga 6, aI G 6 (gf' 6)), (ga 7, aI G 8 (gf' 7))] ∧ Inv (bR b n p tune) n' d' c' ∧ GR (bR b n p tune) n' d' c' gf'
abbrev W_X6_rename (G : XG) (E : XE) (go : Nat) (ga : Nat → Nat) (b : Nat → Int) (n : Nat) (d : Nat) (c : Nat) (gf : Nat → Nat → Int) (wn : Nat) (sp : Nat) (ia : Nat) (ka : Nat) (tq : Nat) (wh : Nat) (nm : Nat) (ra : Nat) (rf : Nat → Int) (p : Int) (tune : Int) (pc : Nat) (lv : List (Nat × Value)) (st : List Value) (ws : va_W) : Prop := Wx G E (rmL 2) cX6_rename 4 RX6 wsX6_rename (some .int) "rename" 0 0 (P_X6_rename G go ga b n d c gf wn sp ia ka tq wh nm ra rf p tune) 0 0 pc lv st ws
theorem flX6_rename_10 : Cond.fieldLink RX6 10 (TX6 0).1 (TX6 0).2.1 (TX6 0).2.2.1 ∈ wsX6_rename := by decide +kernel
theorem flX6_rename_77 : Cond.fieldLink RX6 77 (TX0 5).1 (TX0 5).2.1 (TX0 5).2.2.1 ∈ wsX6_rename := by decide +kernel
theorem inX6_rename_X0 : ∀ w ∈ u_ws RX0 TX0 11, w ∈ wsX6_rename := fun _ h => List.mem_cons_of_mem _ (List.mem_append_right _ h)
theorem inX6_rename_X6 : ∀ w ∈ u_ws RX6 TX6 8, w ∈ wsX6_rename := fun _ h => List.mem_cons_of_mem _ (List.mem_append_left _ (List.mem_append_right _ h))
set_option maxHeartbeats 4000000 in
set_option maxRecDepth 100000 in
/-- rename -/
theorem c_X6_rename (G : XG) (go : Nat) (ga : Nat → Nat) (b : Nat → Int) (n d c : Nat) (gf : Nat → Nat → Int) (I : Inv b n d c) (R : GR b n d c gf) (wn sp ia ka tq wh nm ra : Nat) (rf : Nat → Int) (p tune : Int) (h1 : Z32 p) (h2 : Z32 tune) : Con G yX6_rename wsX6_rename (rmL 2) 0 0 [.ref wn, .int (zI p), .int (zI tune)] ([(wn, .inr (5, [.ref go, .ref sp, .ref ia, .ref ka, .ref tq, .ref wh, .ref nm, .ref ra])), (ra, aI G 3 rf), (go, goE ga ((n : Nat) : Int) ((d : Nat) : Int) ((c : Nat) : Int)), (ga 0, aI G 36 (gf 0)), (ga 1, aI G 7 (gf 1)), (ga 2, aI G 7 (gf 2)), (ga 3, aI G 7 (gf 3)), (ga 4, aI G 7 (gf 4)), (ga 5, aI G 6 (gf 5)), (ga 6, aI G 6 (gf 6)), (ga 7, aI G 8 (gf 7))]) (P_X6_rename G go ga b n d c gf wn sp ia ka tq wh nm ra rf p tune) := by
  refine x_start (cc := cX6_rename) (nL := 4) (ret := (some .int)) (by decide) rfl (Nat.le_of_ble_eq_true rfl) (fun E => ?_)
  show W_X6_rename G E go ga b n d c gf wn sp ia ka tq wh nm ra rf p tune 0 [(0, .ref wn), (1, .int (zI p)), (2, .int (zI tune))] [] ([(wn, .inr (5, [.ref go, .ref sp, .ref ia, .ref ka, .ref tq, .ref wh, .ref nm, .ref ra])), (ra, aI G 3 rf), (go, goE ga ((n : Nat) : Int) ((d : Nat) : Int) ((c : Nat) : Int)), (ga 0, aI G 36 (gf 0)), (ga 1, aI G 7 (gf 1)), (ga 2, aI G 7 (gf 2)), (ga 3, aI G 7 (gf 3)), (ga 4, aI G 7 (gf 4)), (ga 5, aI G 6 (gf 5)), (ga 6, aI G 6 (gf 6)), (ga 7, aI G 8 (gf 7))])
  have hn7 := I.n7
  have hd6 := I.d6
  have hc8 := I.c8
  refine x_aload_n 1 rfl dX6_rename_0 0 rfl ?_
  refine x_get 4 rfl (v := .ref go) 0 0 rfl rfl (by decide) inX6_rename_X6 flX6_rename_10 rfl dX6_rename_1 ?_
  refine x_iload_n 5 rfl dX6_rename_4 1 rfl ?_
  refine x_callV 8 rfl (c_X0_isPerson G go ga b n d c gf I R p (by omega)) [2, 3, 4, 5, 6, 7, 8, 9, 10] rfl (by decide) 2 rfl rfl gX6_rename_X0_isPerson rfl rfl rfl hd_X0_isPerson ⟨Nat.le_of_ble_eq_true rfl, Nat.le_of_ble_eq_true rfl⟩ (As := [.int (zI p)]) (rest := []) rfl rfl (Nat.le_of_ble_eq_true rfl) dX6_rename_5 ⟨Nat.zero_le _, Nat.zero_le _⟩ (fun v w hq => ?_)
  obtain ⟨rfl, rfl⟩ := hq
  refine ⟨rfl, ?_⟩
  refine x_ws (ws' := [(wn, .inr (5, [.ref go, .ref sp, .ref ia, .ref ka, .ref tq, .ref wh, .ref nm, .ref ra])), (ra, aI G 3 rf), (go, goE ga ((n : Nat) : Int) ((d : Nat) : Int) ((c : Nat) : Int)), (ga 0, aI G 36 (gf 0)), (ga 1, aI G 7 (gf 1)), (ga 2, aI G 7 (gf 2)), (ga 3, aI G 7 (gf 3)), (ga 4, aI G 7 (gf 4)), (ga 5, aI G 6 (gf 5)), (ga 6, aI G 6 (gf 6)), (ga 7, aI G 8 (gf 7))]) (rfl) ?_
  refine x_bif_eq 11 rfl (tgt := 18) dX6_rename_8 (by decide) (fun h8 => ?_) (fun h8 => ?_)
  · have h8 := of_decide_eq_false h8
    refine x_aload_n 19 rfl dX6_rename_18 0 rfl ?_
    refine x_bipush 21 rfl dX6_rename_19 (z := (-2)) (by decide) ?_
    refine x_bipush 23 rfl dX6_rename_21 (z := (-2)) (by decide) ?_
    refine x_callV 26 rfl (c_X6_refuse G wn go sp ia ka tq wh nm ra rf 1 (-2) (-2) (by decide) (by decide) (by decide)) [0, 1] rfl (by decide) 0 rfl rfl gX6_rename_X6_refuse rfl rfl rfl hd_X6_refuse ⟨Nat.le_of_ble_eq_true rfl, Nat.le_of_ble_eq_true rfl⟩ (As := [.int (zI (-2)), .int (zI (-2))]) (rest := []) rfl rfl (Nat.le_of_ble_eq_true rfl) dX6_rename_23 ⟨Nat.zero_le _, Nat.zero_le _⟩ (fun v w hq => ?_)
    obtain ⟨rfl, rfl⟩ := hq
    refine ⟨rfl, ?_⟩
    refine x_ws (ws' := [(wn, .inr (5, [.ref go, .ref sp, .ref ia, .ref ka, .ref tq, .ref wh, .ref nm, .ref ra])), (ra, aI G 3 (rfC false rf 1)), (go, goE ga ((n : Nat) : Int) ((d : Nat) : Int) ((c : Nat) : Int)), (ga 0, aI G 36 (gf 0)), (ga 1, aI G 7 (gf 1)), (ga 2, aI G 7 (gf 2)), (ga 3, aI G 7 (gf 3)), (ga 4, aI G 7 (gf 4)), (ga 5, aI G 6 (gf 5)), (ga 6, aI G 6 (gf 6)), (ga 7, aI G 8 (gf 7))]) (rfl) ?_
    refine x_iret rfl ?_ dX6_rename_26
    have hk : kR n p tune = 1 := by unfold kR; exact if_neg (fun hh => by first | omega | (simp [*] at hh; done) | (obtain ⟨ha, hb, hc, hd⟩ := hh; first | omega | simp_all) | (obtain ⟨ha, hb, hc⟩ := hh; first | omega | simp_all) | (obtain ⟨ha, hb⟩ := hh; first | omega | simp_all))
    exact ⟨_, _, _, _, by rw [hk] <;> rfl, by rw [hk] <;> rfl, by unfold bR; rw [hk]; exact I, by unfold bR; rw [hk]; exact R⟩
  · have h8 := of_decide_eq_true h8
    refine x_iload_n 12 rfl dX6_rename_11 2 rfl ?_
    refine x_callS0 15 rfl (c_X4_isTune G tune (by omega)) (fun _ _ h => h.2) gX6_rename_X4_isTune rfl rfl rfl hd_X4_isTune ⟨Nat.le_of_ble_eq_true rfl, Nat.le_of_ble_eq_true rfl⟩ (As := [.int (zI tune)]) (rest := []) rfl rfl (Nat.le_of_ble_eq_true rfl) dX6_rename_12 ⟨Nat.zero_le _, Nat.zero_le _⟩ (fun v hq => ?_)
    obtain ⟨rfl, -⟩ := hq
    refine x_bif_ne 18 rfl (tgt := 27) dX6_rename_15 (by decide) (fun h15 => ?_) (fun h15 => ?_)
    · skip
      obtain ⟨p, rfl⟩ : ∃ zk : Nat, p = (zk : Int) := ⟨Int.toNat p, by omega⟩
      refine x_aload_n 28 rfl dX6_rename_27 0 rfl ?_
      refine x_get 31 rfl (v := .ref go) 0 0 rfl rfl (by decide) inX6_rename_X6 flX6_rename_10 rfl dX6_rename_28 ?_
      refine x_get 34 rfl (v := .ref (ga 2)) 2 5 rfl rfl (by decide) inX6_rename_X0 flX6_rename_77 rfl dX6_rename_31 ?_
      refine x_iload_n 35 rfl dX6_rename_34 1 rfl ?_
      refine x_iald 36 rfl 5 p rfl (⟨by omega, by omega⟩) (by decide) (v := b (18 + 4 * p + 1)) ((R.2.1 p (by omega)).2.1) dX6_rename_35 ?_
      refine x_istore_n 37 rfl (lv' := [(3, .int (zI (b (18 + 4 * p + 1)))), (0, .ref wn), (1, .int (zI ((p : Nat) : Int))), (2, .int (zI tune))]) dX6_rename_36 (by decide) rfl ?_
      refine x_aload_n 38 rfl dX6_rename_37 1 rfl ?_
      refine x_get 41 rfl (v := .ref go) 0 0 rfl rfl (by decide) inX6_rename_X6 flX6_rename_10 rfl dX6_rename_38 ?_
      refine x_get 44 rfl (v := .ref (ga 2)) 2 5 rfl rfl (by decide) inX6_rename_X0 flX6_rename_77 rfl dX6_rename_41 ?_
      refine x_iload_n 45 rfl dX6_rename_44 2 rfl ?_
      refine x_iload_n 46 rfl dX6_rename_45 3 rfl ?_
      refine x_iast 47 rfl 5 p rfl (⟨by omega, by omega⟩) (by decide) (ws' := [(wn, .inr (5, [.ref go, .ref sp, .ref ia, .ref ka, .ref tq, .ref wh, .ref nm, .ref ra])), (ra, aI G 3 rf), (go, goE ga ((n : Nat) : Int) ((d : Nat) : Int) ((c : Nat) : Int)), (ga 0, aI G 36 (gf 0)), (ga 1, aI G 7 (gf 1)), (ga 2, aI G 7 (zup (gf 2) p tune)), (ga 3, aI G 7 (gf 3)), (ga 4, aI G 7 (gf 4)), (ga 5, aI G 6 (gf 5)), (ga 6, aI G 6 (gf 6)), (ga 7, aI G 8 (gf 7))]) (rfl) dX6_rename_46 ?_
      refine x_iload_n 48 rfl dX6_rename_47 0 rfl ?_
      refine x_iret rfl ?_ dX6_rename_48
      have hk : kR n p tune = 0 := by unfold kR; exact if_pos ⟨by omega, by assumption⟩
      exact ⟨_, _, _, zup gf 2 (zup (gf 2) p tune), by rw [hk] <;> rfl, by rw [hk] <;> rfl, by unfold bR; rw [hk]; exact Inv_set I (by omega) (by omega) ⟨fun _ => by assumption, fun h => by cases h⟩, by unfold bR; rw [hk]; exact GR_set R I (by omega) (by decide) tune⟩
    · skip
      refine x_aload_n 19 rfl dX6_rename_18 0 rfl ?_
      refine x_bipush 21 rfl dX6_rename_19 (z := (-2)) (by decide) ?_
      refine x_bipush 23 rfl dX6_rename_21 (z := (-2)) (by decide) ?_
      refine x_callV 26 rfl (c_X6_refuse G wn go sp ia ka tq wh nm ra rf 1 (-2) (-2) (by decide) (by decide) (by decide)) [0, 1] rfl (by decide) 0 rfl rfl gX6_rename_X6_refuse rfl rfl rfl hd_X6_refuse ⟨Nat.le_of_ble_eq_true rfl, Nat.le_of_ble_eq_true rfl⟩ (As := [.int (zI (-2)), .int (zI (-2))]) (rest := []) rfl rfl (Nat.le_of_ble_eq_true rfl) dX6_rename_23 ⟨Nat.zero_le _, Nat.zero_le _⟩ (fun v w hq => ?_)
      obtain ⟨rfl, rfl⟩ := hq
      refine ⟨rfl, ?_⟩
      refine x_ws (ws' := [(wn, .inr (5, [.ref go, .ref sp, .ref ia, .ref ka, .ref tq, .ref wh, .ref nm, .ref ra])), (ra, aI G 3 (rfC false rf 1)), (go, goE ga ((n : Nat) : Int) ((d : Nat) : Int) ((c : Nat) : Int)), (ga 0, aI G 36 (gf 0)), (ga 1, aI G 7 (gf 1)), (ga 2, aI G 7 (gf 2)), (ga 3, aI G 7 (gf 3)), (ga 4, aI G 7 (gf 4)), (ga 5, aI G 6 (gf 5)), (ga 6, aI G 6 (gf 6)), (ga 7, aI G 8 (gf 7))]) (rfl) ?_
      refine x_iret rfl ?_ dX6_rename_26
      have hk : kR n p tune = 1 := by unfold kR; exact if_neg (fun hh => by first | omega | (simp [*] at hh; done) | (obtain ⟨ha, hb, hc, hd⟩ := hh; first | omega | simp_all) | (obtain ⟨ha, hb, hc⟩ := hh; first | omega | simp_all) | (obtain ⟨ha, hb⟩ := hh; first | omega | simp_all))
      exact ⟨_, _, _, _, by rw [hk] <;> rfl, by rw [hk] <;> rfl, by unfold bR; rw [hk]; exact I, by unfold bR; rw [hk]; exact R⟩

abbrev P_X6_move (G : XG) (go : Nat) (ga : Nat → Nat) (b : Nat → Int) (n : Nat) (d : Nat) (c : Nat) (gf : Nat → Nat → Int) (wn : Nat) (sp : Nat) (ia : Nat) (ka : Nat) (tq : Nat) (wh : Nat) (nm : Nat) (ra : Nat) (rf : Nat → Int) (p : Int) (place : Int) : Option Value → va_W → Prop := fun r ws => ∃ n' d' c' : Nat, ∃ gf' : Nat → Nat → Int, r = some (.int (zI (rC (kM n p place) (b (18 + 4 * p.toNat + 2))))) ∧ ws = [(wn, .inr (5, [.ref go, .ref sp, .ref ia, .ref ka, .ref tq, .ref wh, .ref nm, .ref ra])), (ra, aI G 3 (rfC false rf (kM n p place))), (go, goE ga ((n' : Nat) : Int) ((d' : Nat) : Int) ((c' : Nat) : Int)), (ga 0, aI G 36 (gf' 0)), (ga 1, aI G 7 (gf' 1)), (ga 2, aI G 7 (gf' 2)), (ga 3, aI G 7 (gf' 3)), (ga 4, aI G 7 (gf' 4)), (ga 5, aI G 6 (gf' 5)), (ga 6, aI G 6 (gf' 6)), (ga 7, aI G 8 (gf' 7))] ∧ Inv (bM b n p place) n' d' c' ∧ GR (bM b n p place) n' d' c' gf'
abbrev W_X6_move (G : XG) (E : XE) (go : Nat) (ga : Nat → Nat) (b : Nat → Int) (n : Nat) (d : Nat) (c : Nat) (gf : Nat → Nat → Int) (wn : Nat) (sp : Nat) (ia : Nat) (ka : Nat) (tq : Nat) (wh : Nat) (nm : Nat) (ra : Nat) (rf : Nat → Int) (p : Int) (place : Int) (pc : Nat) (lv : List (Nat × Value)) (st : List Value) (ws : va_W) : Prop := Wx G E (rmL 2) cX6_move 4 RX6 wsX6_move (some .int) "move" 0 0 (P_X6_move G go ga b n d c gf wn sp ia ka tq wh nm ra rf p place) 0 0 pc lv st ws
theorem flX6_move_10 : Cond.fieldLink RX6 10 (TX6 0).1 (TX6 0).2.1 (TX6 0).2.2.1 ∈ wsX6_move := by decide +kernel
theorem flX6_move_84 : Cond.fieldLink RX6 84 (TX0 6).1 (TX0 6).2.1 (TX0 6).2.2.1 ∈ wsX6_move := by decide +kernel
theorem inX6_move_X0 : ∀ w ∈ u_ws RX0 TX0 11, w ∈ wsX6_move := fun _ h => List.mem_cons_of_mem _ (List.mem_append_right _ h)
theorem inX6_move_X6 : ∀ w ∈ u_ws RX6 TX6 8, w ∈ wsX6_move := fun _ h => List.mem_cons_of_mem _ (List.mem_append_left _ (List.mem_append_right _ h))
set_option maxHeartbeats 4000000 in
set_option maxRecDepth 100000 in
/-- move -/
theorem c_X6_move (G : XG) (go : Nat) (ga : Nat → Nat) (b : Nat → Int) (n d c : Nat) (gf : Nat → Nat → Int) (I : Inv b n d c) (R : GR b n d c gf) (wn sp ia ka tq wh nm ra : Nat) (rf : Nat → Int) (p place : Int) (h1 : Z32 p) (h2 : Z32 place) : Con G yX6_move wsX6_move (rmL 2) 0 0 [.ref wn, .int (zI p), .int (zI place)] ([(wn, .inr (5, [.ref go, .ref sp, .ref ia, .ref ka, .ref tq, .ref wh, .ref nm, .ref ra])), (ra, aI G 3 rf), (go, goE ga ((n : Nat) : Int) ((d : Nat) : Int) ((c : Nat) : Int)), (ga 0, aI G 36 (gf 0)), (ga 1, aI G 7 (gf 1)), (ga 2, aI G 7 (gf 2)), (ga 3, aI G 7 (gf 3)), (ga 4, aI G 7 (gf 4)), (ga 5, aI G 6 (gf 5)), (ga 6, aI G 6 (gf 6)), (ga 7, aI G 8 (gf 7))]) (P_X6_move G go ga b n d c gf wn sp ia ka tq wh nm ra rf p place) := by
  refine x_start (cc := cX6_move) (nL := 4) (ret := (some .int)) (by decide) rfl (Nat.le_of_ble_eq_true rfl) (fun E => ?_)
  show W_X6_move G E go ga b n d c gf wn sp ia ka tq wh nm ra rf p place 0 [(0, .ref wn), (1, .int (zI p)), (2, .int (zI place))] [] ([(wn, .inr (5, [.ref go, .ref sp, .ref ia, .ref ka, .ref tq, .ref wh, .ref nm, .ref ra])), (ra, aI G 3 rf), (go, goE ga ((n : Nat) : Int) ((d : Nat) : Int) ((c : Nat) : Int)), (ga 0, aI G 36 (gf 0)), (ga 1, aI G 7 (gf 1)), (ga 2, aI G 7 (gf 2)), (ga 3, aI G 7 (gf 3)), (ga 4, aI G 7 (gf 4)), (ga 5, aI G 6 (gf 5)), (ga 6, aI G 6 (gf 6)), (ga 7, aI G 8 (gf 7))])
  have hn7 := I.n7
  have hd6 := I.d6
  have hc8 := I.c8
  refine x_aload_n 1 rfl dX6_move_0 0 rfl ?_
  refine x_get 4 rfl (v := .ref go) 0 0 rfl rfl (by decide) inX6_move_X6 flX6_move_10 rfl dX6_move_1 ?_
  refine x_iload_n 5 rfl dX6_move_4 1 rfl ?_
  refine x_callV 8 rfl (c_X0_isPerson G go ga b n d c gf I R p (by omega)) [2, 3, 4, 5, 6, 7, 8, 9, 10] rfl (by decide) 2 rfl rfl gX6_move_X0_isPerson rfl rfl rfl hd_X0_isPerson ⟨Nat.le_of_ble_eq_true rfl, Nat.le_of_ble_eq_true rfl⟩ (As := [.int (zI p)]) (rest := []) rfl rfl (Nat.le_of_ble_eq_true rfl) dX6_move_5 ⟨Nat.zero_le _, Nat.zero_le _⟩ (fun v w hq => ?_)
  obtain ⟨rfl, rfl⟩ := hq
  refine ⟨rfl, ?_⟩
  refine x_ws (ws' := [(wn, .inr (5, [.ref go, .ref sp, .ref ia, .ref ka, .ref tq, .ref wh, .ref nm, .ref ra])), (ra, aI G 3 rf), (go, goE ga ((n : Nat) : Int) ((d : Nat) : Int) ((c : Nat) : Int)), (ga 0, aI G 36 (gf 0)), (ga 1, aI G 7 (gf 1)), (ga 2, aI G 7 (gf 2)), (ga 3, aI G 7 (gf 3)), (ga 4, aI G 7 (gf 4)), (ga 5, aI G 6 (gf 5)), (ga 6, aI G 6 (gf 6)), (ga 7, aI G 8 (gf 7))]) (rfl) ?_
  refine x_bif_eq 11 rfl (tgt := 20) dX6_move_8 (by decide) (fun h8 => ?_) (fun h8 => ?_)
  · have h8 := of_decide_eq_false h8
    refine x_aload_n 21 rfl dX6_move_20 0 rfl ?_
    refine x_bipush 23 rfl dX6_move_21 (z := (-2)) (by decide) ?_
    refine x_bipush 25 rfl dX6_move_23 (z := (-2)) (by decide) ?_
    refine x_callV 28 rfl (c_X6_refuse G wn go sp ia ka tq wh nm ra rf 1 (-2) (-2) (by decide) (by decide) (by decide)) [0, 1] rfl (by decide) 0 rfl rfl gX6_move_X6_refuse rfl rfl rfl hd_X6_refuse ⟨Nat.le_of_ble_eq_true rfl, Nat.le_of_ble_eq_true rfl⟩ (As := [.int (zI (-2)), .int (zI (-2))]) (rest := []) rfl rfl (Nat.le_of_ble_eq_true rfl) dX6_move_25 ⟨Nat.zero_le _, Nat.zero_le _⟩ (fun v w hq => ?_)
    obtain ⟨rfl, rfl⟩ := hq
    refine ⟨rfl, ?_⟩
    refine x_ws (ws' := [(wn, .inr (5, [.ref go, .ref sp, .ref ia, .ref ka, .ref tq, .ref wh, .ref nm, .ref ra])), (ra, aI G 3 (rfC false rf 1)), (go, goE ga ((n : Nat) : Int) ((d : Nat) : Int) ((c : Nat) : Int)), (ga 0, aI G 36 (gf 0)), (ga 1, aI G 7 (gf 1)), (ga 2, aI G 7 (gf 2)), (ga 3, aI G 7 (gf 3)), (ga 4, aI G 7 (gf 4)), (ga 5, aI G 6 (gf 5)), (ga 6, aI G 6 (gf 6)), (ga 7, aI G 8 (gf 7))]) (rfl) ?_
    refine x_iret rfl ?_ dX6_move_28
    have hk : kM n p place = 1 := by unfold kM; exact if_neg (fun hh => by first | omega | (simp [*] at hh; done) | (obtain ⟨ha, hb, hc, hd⟩ := hh; first | omega | simp_all) | (obtain ⟨ha, hb, hc⟩ := hh; first | omega | simp_all) | (obtain ⟨ha, hb⟩ := hh; first | omega | simp_all))
    exact ⟨_, _, _, _, by rw [hk] <;> rfl, by rw [hk] <;> rfl, by unfold bM; rw [hk]; exact I, by unfold bM; rw [hk]; exact R⟩
  · have h8 := of_decide_eq_true h8
    refine x_iload_n 12 rfl dX6_move_11 2 rfl ?_
    refine x_bipush 14 rfl dX6_move_12 (z := 6) (by decide) ?_
    refine x_callS0 17 rfl (c_X6_isBelow G place 6 (by omega) (by omega)) (fun _ _ h => h.2) gX6_move_X6_isBelow rfl rfl rfl hd_X6_isBelow ⟨Nat.le_of_ble_eq_true rfl, Nat.le_of_ble_eq_true rfl⟩ (As := [.int (zI place), .int (zI 6)]) (rest := []) rfl rfl (Nat.le_of_ble_eq_true rfl) dX6_move_14 ⟨Nat.zero_le _, Nat.zero_le _⟩ (fun v hq => ?_)
    obtain ⟨rfl, -⟩ := hq
    refine x_bif_ne 20 rfl (tgt := 29) dX6_move_17 (by decide) (fun h17 => ?_) (fun h17 => ?_)
    · have h17 := of_decide_eq_true h17
      obtain ⟨p, rfl⟩ : ∃ zk : Nat, p = (zk : Int) := ⟨Int.toNat p, by omega⟩
      refine x_aload_n 30 rfl dX6_move_29 0 rfl ?_
      refine x_get 33 rfl (v := .ref go) 0 0 rfl rfl (by decide) inX6_move_X6 flX6_move_10 rfl dX6_move_30 ?_
      refine x_get 36 rfl (v := .ref (ga 3)) 2 6 rfl rfl (by decide) inX6_move_X0 flX6_move_84 rfl dX6_move_33 ?_
      refine x_iload_n 37 rfl dX6_move_36 1 rfl ?_
      refine x_iald 38 rfl 6 p rfl (⟨by omega, by omega⟩) (by decide) (v := b (18 + 4 * p + 2)) ((R.2.1 p (by omega)).2.2.1) dX6_move_37 ?_
      refine x_istore_n 39 rfl (lv' := [(3, .int (zI (b (18 + 4 * p + 2)))), (0, .ref wn), (1, .int (zI ((p : Nat) : Int))), (2, .int (zI place))]) dX6_move_38 (by decide) rfl ?_
      refine x_aload_n 40 rfl dX6_move_39 1 rfl ?_
      refine x_get 43 rfl (v := .ref go) 0 0 rfl rfl (by decide) inX6_move_X6 flX6_move_10 rfl dX6_move_40 ?_
      refine x_get 46 rfl (v := .ref (ga 3)) 2 6 rfl rfl (by decide) inX6_move_X0 flX6_move_84 rfl dX6_move_43 ?_
      refine x_iload_n 47 rfl dX6_move_46 2 rfl ?_
      refine x_iload_n 48 rfl dX6_move_47 3 rfl ?_
      refine x_iast 49 rfl 6 p rfl (⟨by omega, by omega⟩) (by decide) (ws' := [(wn, .inr (5, [.ref go, .ref sp, .ref ia, .ref ka, .ref tq, .ref wh, .ref nm, .ref ra])), (ra, aI G 3 rf), (go, goE ga ((n : Nat) : Int) ((d : Nat) : Int) ((c : Nat) : Int)), (ga 0, aI G 36 (gf 0)), (ga 1, aI G 7 (gf 1)), (ga 2, aI G 7 (gf 2)), (ga 3, aI G 7 (zup (gf 3) p place)), (ga 4, aI G 7 (gf 4)), (ga 5, aI G 6 (gf 5)), (ga 6, aI G 6 (gf 6)), (ga 7, aI G 8 (gf 7))]) (rfl) dX6_move_48 ?_
      refine x_iload_n 50 rfl dX6_move_49 0 rfl ?_
      refine x_iret rfl ?_ dX6_move_50
      have hk : kM n p place = 0 := by unfold kM; exact if_pos ⟨by omega, by omega⟩
      exact ⟨_, _, _, zup gf 3 (zup (gf 3) p place), by rw [hk] <;> rfl, by rw [hk] <;> rfl, by unfold bM; rw [hk]; exact Inv_set I (by omega) (by omega) ⟨fun h => (by cases h), fun _ => by omega⟩, by unfold bM; rw [hk]; exact GR_set R I (by omega) (by decide) place⟩
    · have h17 := of_decide_eq_false h17
      refine x_aload_n 21 rfl dX6_move_20 0 rfl ?_
      refine x_bipush 23 rfl dX6_move_21 (z := (-2)) (by decide) ?_
      refine x_bipush 25 rfl dX6_move_23 (z := (-2)) (by decide) ?_
      refine x_callV 28 rfl (c_X6_refuse G wn go sp ia ka tq wh nm ra rf 1 (-2) (-2) (by decide) (by decide) (by decide)) [0, 1] rfl (by decide) 0 rfl rfl gX6_move_X6_refuse rfl rfl rfl hd_X6_refuse ⟨Nat.le_of_ble_eq_true rfl, Nat.le_of_ble_eq_true rfl⟩ (As := [.int (zI (-2)), .int (zI (-2))]) (rest := []) rfl rfl (Nat.le_of_ble_eq_true rfl) dX6_move_25 ⟨Nat.zero_le _, Nat.zero_le _⟩ (fun v w hq => ?_)
      obtain ⟨rfl, rfl⟩ := hq
      refine ⟨rfl, ?_⟩
      refine x_ws (ws' := [(wn, .inr (5, [.ref go, .ref sp, .ref ia, .ref ka, .ref tq, .ref wh, .ref nm, .ref ra])), (ra, aI G 3 (rfC false rf 1)), (go, goE ga ((n : Nat) : Int) ((d : Nat) : Int) ((c : Nat) : Int)), (ga 0, aI G 36 (gf 0)), (ga 1, aI G 7 (gf 1)), (ga 2, aI G 7 (gf 2)), (ga 3, aI G 7 (gf 3)), (ga 4, aI G 7 (gf 4)), (ga 5, aI G 6 (gf 5)), (ga 6, aI G 6 (gf 6)), (ga 7, aI G 8 (gf 7))]) (rfl) ?_
      refine x_iret rfl ?_ dX6_move_28
      have hk : kM n p place = 1 := by unfold kM; exact if_neg (fun hh => by first | omega | (simp [*] at hh; done) | (obtain ⟨ha, hb, hc, hd⟩ := hh; first | omega | simp_all) | (obtain ⟨ha, hb, hc⟩ := hh; first | omega | simp_all) | (obtain ⟨ha, hb⟩ := hh; first | omega | simp_all))
      exact ⟨_, _, _, _, by rw [hk] <;> rfl, by rw [hk] <;> rfl, by unfold bM; rw [hk]; exact I, by unfold bM; rw [hk]; exact R⟩

abbrev P_X6_comes (G : XG) (wn : Nat) (go : Nat) (sp : Nat) (ia : Nat) (ka : Nat) (tq : Nat) (wh : Nat) (nm : Nat) (ra : Nat) (rf : Nat → Int) (tune : Int) (wind : Int) : Option Value → va_W → Prop := fun r ws => r = some (.int (zI (rC (kC tune wind) ((leftN tune.toNat wind.toNat : Nat) : Int)))) ∧ ws = [(wn, .inr (5, [.ref go, .ref sp, .ref ia, .ref ka, .ref tq, .ref wh, .ref nm, .ref ra])), (ra, aI G 3 (rfC false rf (kC tune wind)))]
abbrev W_X6_comes (G : XG) (E : XE) (wn : Nat) (go : Nat) (sp : Nat) (ia : Nat) (ka : Nat) (tq : Nat) (wh : Nat) (nm : Nat) (ra : Nat) (rf : Nat → Int) (tune : Int) (wind : Int) (pc : Nat) (lv : List (Nat × Value)) (st : List Value) (ws : va_W) : Prop := Wx G E (rmL 2) cX6_comes 3 RX6 wsX6_comes (some .int) "comes" 0 0 (P_X6_comes G wn go sp ia ka tq wh nm ra rf tune wind) 0 0 pc lv st ws
set_option maxHeartbeats 4000000 in
set_option maxRecDepth 100000 in
/-- comes -/
theorem c_X6_comes (G : XG) (wn go sp ia ka tq wh nm ra : Nat) (rf : Nat → Int) (tune wind : Int) (h1 : Z32 tune) (h2 : Z32 wind) : Con G yX6_comes wsX6_comes (rmL 2) 0 0 [.ref wn, .int (zI tune), .int (zI wind)] ([(wn, .inr (5, [.ref go, .ref sp, .ref ia, .ref ka, .ref tq, .ref wh, .ref nm, .ref ra])), (ra, aI G 3 rf)]) (P_X6_comes G wn go sp ia ka tq wh nm ra rf tune wind) := by
  refine x_start (cc := cX6_comes) (nL := 3) (ret := (some .int)) (by decide) rfl (Nat.le_of_ble_eq_true rfl) (fun E => ?_)
  show W_X6_comes G E wn go sp ia ka tq wh nm ra rf tune wind 0 [(0, .ref wn), (1, .int (zI tune)), (2, .int (zI wind))] [] ([(wn, .inr (5, [.ref go, .ref sp, .ref ia, .ref ka, .ref tq, .ref wh, .ref nm, .ref ra])), (ra, aI G 3 rf)])
  refine x_iload_n 1 rfl dX6_comes_0 1 rfl ?_
  refine x_callS0 4 rfl (c_X4_isTune G tune (by omega)) (fun _ _ h => h.2) gX6_comes_X4_isTune rfl rfl rfl hd_X4_isTune ⟨Nat.le_of_ble_eq_true rfl, Nat.le_of_ble_eq_true rfl⟩ (As := [.int (zI tune)]) (rest := []) rfl rfl (Nat.le_of_ble_eq_true rfl) dX6_comes_1 ⟨Nat.zero_le _, Nat.zero_le _⟩ (fun v hq => ?_)
  obtain ⟨rfl, -⟩ := hq
  refine x_bif_eq 7 rfl (tgt := 15) dX6_comes_4 (by decide) (fun h4 => ?_) (fun h4 => ?_)
  · skip
    refine x_aload_n 16 rfl dX6_comes_15 0 rfl ?_
    refine x_bipush 18 rfl dX6_comes_16 (z := (-2)) (by decide) ?_
    refine x_bipush 20 rfl dX6_comes_18 (z := (-2)) (by decide) ?_
    refine x_callV 23 rfl (c_X6_refuse G wn go sp ia ka tq wh nm ra rf 1 (-2) (-2) (by decide) (by decide) (by decide)) [0, 1] rfl (by decide) 0 rfl rfl gX6_comes_X6_refuse rfl rfl rfl hd_X6_refuse ⟨Nat.le_of_ble_eq_true rfl, Nat.le_of_ble_eq_true rfl⟩ (As := [.int (zI (-2)), .int (zI (-2))]) (rest := []) rfl rfl (Nat.le_of_ble_eq_true rfl) dX6_comes_20 ⟨Nat.zero_le _, Nat.zero_le _⟩ (fun v w hq => ?_)
    obtain ⟨rfl, rfl⟩ := hq
    refine ⟨rfl, ?_⟩
    refine x_ws (ws' := [(wn, .inr (5, [.ref go, .ref sp, .ref ia, .ref ka, .ref tq, .ref wh, .ref nm, .ref ra])), (ra, aI G 3 (rfC false rf 1))]) (rfl) ?_
    refine x_iret rfl ?_ dX6_comes_23
    have hk : kC tune wind = 1 := by unfold kC; exact if_neg (fun hh => by first | omega | (simp [*] at hh; done) | (obtain ⟨ha, hb, hc, hd⟩ := hh; first | omega | simp_all) | (obtain ⟨ha, hb, hc⟩ := hh; first | omega | simp_all) | (obtain ⟨ha, hb⟩ := hh; first | omega | simp_all))
    exact ⟨by rw [hk] <;> rfl, by rw [hk] <;> rfl⟩
  · skip
    refine x_iload_n 8 rfl dX6_comes_7 2 rfl ?_
    refine x_iconst 9 rfl dX6_comes_8 (z := 4) (by decide) ?_
    refine x_callS0 12 rfl (c_X6_isBelow G wind 4 (by omega) (by omega)) (fun _ _ h => h.2) gX6_comes_X6_isBelow rfl rfl rfl hd_X6_isBelow ⟨Nat.le_of_ble_eq_true rfl, Nat.le_of_ble_eq_true rfl⟩ (As := [.int (zI wind), .int (zI 4)]) (rest := []) rfl rfl (Nat.le_of_ble_eq_true rfl) dX6_comes_9 ⟨Nat.zero_le _, Nat.zero_le _⟩ (fun v hq => ?_)
    obtain ⟨rfl, -⟩ := hq
    refine x_bif_ne 15 rfl (tgt := 24) dX6_comes_12 (by decide) (fun h12 => ?_) (fun h12 => ?_)
    · have h12 := of_decide_eq_true h12
      have htp : 0 ≤ tune ∧ tune ≤ 2047 := by have := h4; unfold isT at this; rw [decide_eq_true_iff] at this; omega
      obtain ⟨tune, rfl⟩ : ∃ zk : Nat, tune = (zk : Int) := ⟨Int.toNat tune, by omega⟩
      obtain ⟨wind, rfl⟩ : ∃ zk : Nat, wind = (zk : Int) := ⟨Int.toNat wind, by omega⟩
      refine x_iload_n 25 rfl dX6_comes_24 1 rfl ?_
      refine x_iload_n 26 rfl dX6_comes_25 2 rfl ?_
      refine x_callS0 29 rfl (c_X4_lessLost G tune wind (isT_nat.mp h4) (by omega)) (fun _ _ h => h.2) gX6_comes_X4_lessLost rfl rfl rfl hd_X4_lessLost ⟨Nat.le_of_ble_eq_true rfl, Nat.le_of_ble_eq_true rfl⟩ (As := [.int (zI ((tune : Nat) : Int)), .int (zI ((wind : Nat) : Int))]) (rest := []) rfl rfl (Nat.le_of_ble_eq_true rfl) dX6_comes_26 ⟨Nat.zero_le _, Nat.zero_le _⟩ (fun v hq => ?_)
      obtain ⟨rfl, -⟩ := hq
      refine x_iret rfl ?_ dX6_comes_29
      have hk : kC tune wind = 0 := by unfold kC; exact if_pos ⟨h4, by omega⟩
      exact ⟨by rw [hk] <;> rfl, by rw [hk] <;> rfl⟩
    · have h12 := of_decide_eq_false h12
      refine x_aload_n 16 rfl dX6_comes_15 0 rfl ?_
      refine x_bipush 18 rfl dX6_comes_16 (z := (-2)) (by decide) ?_
      refine x_bipush 20 rfl dX6_comes_18 (z := (-2)) (by decide) ?_
      refine x_callV 23 rfl (c_X6_refuse G wn go sp ia ka tq wh nm ra rf 1 (-2) (-2) (by decide) (by decide) (by decide)) [0, 1] rfl (by decide) 0 rfl rfl gX6_comes_X6_refuse rfl rfl rfl hd_X6_refuse ⟨Nat.le_of_ble_eq_true rfl, Nat.le_of_ble_eq_true rfl⟩ (As := [.int (zI (-2)), .int (zI (-2))]) (rest := []) rfl rfl (Nat.le_of_ble_eq_true rfl) dX6_comes_20 ⟨Nat.zero_le _, Nat.zero_le _⟩ (fun v w hq => ?_)
      obtain ⟨rfl, rfl⟩ := hq
      refine ⟨rfl, ?_⟩
      refine x_ws (ws' := [(wn, .inr (5, [.ref go, .ref sp, .ref ia, .ref ka, .ref tq, .ref wh, .ref nm, .ref ra])), (ra, aI G 3 (rfC false rf 1))]) (rfl) ?_
      refine x_iret rfl ?_ dX6_comes_23
      have hk : kC tune wind = 1 := by unfold kC; exact if_neg (fun hh => by first | omega | (simp [*] at hh; done) | (obtain ⟨ha, hb, hc, hd⟩ := hh; first | omega | simp_all) | (obtain ⟨ha, hb, hc⟩ := hh; first | omega | simp_all) | (obtain ⟨ha, hb⟩ := hh; first | omega | simp_all))
      exact ⟨by rw [hk] <;> rfl, by rw [hk] <;> rfl⟩

abbrev P_X6_type (G : XG) (wn : Nat) (go : Nat) (sp : Nat) (ia : Nat) (ka : Nat) (tq : Nat) (wh : Nat) (nm : Nat) (ra : Nat) (rf : Nat → Int) (ta : Nat → Nat) (sc : Nat → Int) (tx : Nat → Int) (L : Nat) (v : Int64) (n : Int) : Option Value → va_W → Prop := fun r ws => ∃ tx' : Nat → Int, r = some (.int (zI (rC (kY L n) ((L : Int) + n)))) ∧ ws = [(wn, .inr (5, [.ref go, .ref sp, .ref ia, .ref ka, .ref tq, .ref wh, .ref nm, .ref ra])), (ra, aI G 3 (rfC false rf (kY L n))), (tq, txE ta (zup sc 0 (if kY L n = 0 then (L : Int) + n else (L : Int)))), (ta 0, aI G 200 tx')] ∧ (∀ j, j < 200 → tx' j = (if kY L n = 0 then tyT tx L v n.toNat else tx) j)
abbrev W_X6_type (G : XG) (E : XE) (wn : Nat) (go : Nat) (sp : Nat) (ia : Nat) (ka : Nat) (tq : Nat) (wh : Nat) (nm : Nat) (ra : Nat) (rf : Nat → Int) (ta : Nat → Nat) (sc : Nat → Int) (tx : Nat → Int) (L : Nat) (v : Int64) (n : Int) (pc : Nat) (lv : List (Nat × Value)) (st : List Value) (ws : va_W) : Prop := Wx G E (rmL 2) cX6_type 4 RX6 wsX6_type (some .int) "type" 0 0 (P_X6_type G wn go sp ia ka tq wh nm ra rf ta sc tx L v n) 0 0 pc lv st ws
theorem flX6_type_30 : Cond.fieldLink RX6 30 (TX6 4).1 (TX6 4).2.1 (TX6 4).2.2.1 ∈ wsX6_type := by decide +kernel
theorem inX6_type_X6 : ∀ w ∈ u_ws RX6 TX6 8, w ∈ wsX6_type := fun _ h => List.mem_cons_of_mem _ (List.mem_append_left _ (List.mem_append_right _ h))
set_option maxHeartbeats 4000000 in
set_option maxRecDepth 100000 in
/-- type -/
theorem c_X6_type (G : XG) (wn go sp ia ka tq wh nm ra : Nat) (rf : Nat → Int) (ta : Nat → Nat) (sc : Nat → Int) (tx : Nat → Int) (L : Nat) (hL2 : L ≤ 200) (v : Int64) (n : Int) (h1 : Z32 n) : Con G yX6_type wsX6_type (rmL 2) 0 0 [.ref wn, .long v, .int (zI n)] ([(wn, .inr (5, [.ref go, .ref sp, .ref ia, .ref ka, .ref tq, .ref wh, .ref nm, .ref ra])), (ra, aI G 3 rf), (tq, txE ta (zup sc 0 ((L : Nat) : Int))), (ta 0, aI G 200 tx)]) (P_X6_type G wn go sp ia ka tq wh nm ra rf ta sc tx L v n) := by
  refine x_start (cc := cX6_type) (nL := 4) (ret := (some .int)) (by decide) rfl (Nat.le_of_ble_eq_true rfl) (fun E => ?_)
  show W_X6_type G E wn go sp ia ka tq wh nm ra rf ta sc tx L v n 0 [(0, .ref wn), (1, .long v), (3, .int (zI n))] [] ([(wn, .inr (5, [.ref go, .ref sp, .ref ia, .ref ka, .ref tq, .ref wh, .ref nm, .ref ra])), (ra, aI G 3 rf), (tq, txE ta (zup sc 0 ((L : Nat) : Int))), (ta 0, aI G 200 tx)])
  refine x_iload_n 1 rfl dX6_type_0 2 rfl ?_
  refine x_iconst 2 rfl dX6_type_1 (z := 1) (by decide) ?_
  refine x_icmp_lt 5 rfl (tgt := 11) dX6_type_2 (by decide) (by omega) (by decide) (fun h2 => ?_) (fun h2 => ?_)
  · skip
    refine x_aload_n 12 rfl dX6_type_11 0 rfl ?_
    refine x_bipush 14 rfl dX6_type_12 (z := (-2)) (by decide) ?_
    refine x_bipush 16 rfl dX6_type_14 (z := (-2)) (by decide) ?_
    refine x_callV 19 rfl (c_X6_refuse G wn go sp ia ka tq wh nm ra rf 1 (-2) (-2) (by decide) (by decide) (by decide)) [0, 1] rfl (by decide) 0 rfl rfl gX6_type_X6_refuse rfl rfl rfl hd_X6_refuse ⟨Nat.le_of_ble_eq_true rfl, Nat.le_of_ble_eq_true rfl⟩ (As := [.int (zI (-2)), .int (zI (-2))]) (rest := []) rfl rfl (Nat.le_of_ble_eq_true rfl) dX6_type_16 ⟨Nat.zero_le _, Nat.zero_le _⟩ (fun v w hq => ?_)
    obtain ⟨rfl, rfl⟩ := hq
    refine ⟨rfl, ?_⟩
    refine x_ws (ws' := [(wn, .inr (5, [.ref go, .ref sp, .ref ia, .ref ka, .ref tq, .ref wh, .ref nm, .ref ra])), (ra, aI G 3 (rfC false rf 1)), (tq, txE ta (zup sc 0 ((L : Nat) : Int))), (ta 0, aI G 200 tx)]) (rfl) ?_
    refine x_iret rfl ?_ dX6_type_19
    have hk : kY L n = 1 := by unfold kY; exact if_neg (by omega)
    exact ⟨tx, by rw [hk] <;> rfl, by rw [hk] <;> rfl, fun j _ => by rw [hk] <;> rfl⟩
  · skip
    refine x_iload_n 6 rfl dX6_type_5 2 rfl ?_
    refine x_bipush 8 rfl dX6_type_6 (z := 8) (by decide) ?_
    refine x_icmp_le 11 rfl (tgt := 20) dX6_type_8 (by decide) (by omega) (by decide) (fun h8 => ?_) (fun h8 => ?_)
    · skip
      obtain ⟨n, rfl⟩ : ∃ zk : Nat, n = (zk : Int) := ⟨Int.toNat n, by omega⟩
      refine x_aload_n 21 rfl dX6_type_20 0 rfl ?_
      refine x_aload_n 22 rfl dX6_type_21 0 rfl ?_
      refine x_get 25 rfl (v := .ref tq) 0 4 rfl rfl (by decide) inX6_type_X6 flX6_type_30 rfl dX6_type_22 ?_
      refine x_lload_n 26 rfl dX6_type_25 1 rfl ?_
      refine x_iload_n 27 rfl dX6_type_26 2 rfl ?_
      refine x_callV 30 rfl (c_X3_add G tq ta (zup sc 0 ((L : Nat) : Int)) tx L v n (hL2) (by omega)) [2, 3] rfl (by decide) 2 rfl rfl gX6_type_X3_add rfl rfl rfl hd_X3_add ⟨Nat.le_of_ble_eq_true rfl, Nat.le_of_ble_eq_true rfl⟩ (As := [.long v, .int (zI ((n : Nat) : Int))]) (rest := [.ref wn]) rfl rfl (Nat.le_of_ble_eq_true rfl) dX6_type_27 ⟨Nat.zero_le _, Nat.zero_le _⟩ (fun v w hq => ?_)
      obtain ⟨tx', rfl, rfl, htx'⟩ := hq
      refine ⟨rfl, ?_⟩
      refine x_ws (ws' := [(wn, .inr (5, [.ref go, .ref sp, .ref ia, .ref ka, .ref tq, .ref wh, .ref nm, .ref ra])), (ra, aI G 3 rf), (tq, txE ta (zup sc 0 (if 200 < L + n then (L : Int) else (L : Int) + n))), (ta 0, aI G 200 tx')]) (rfl) ?_
      refine x_int (congrArg zI (by by_cases q : 200 < L + n; (rw [if_pos q, if_pos q] <;> rfl); (rw [if_neg q, if_neg q] <;> rfl) : (if 200 < L + n then -4 else (L : Int) + n) = rC (if 200 < L + n then 3 else 0) ((L : Int) + n))) ?_
      have hky : kY L ((n : Nat) : Int) = (if 200 < L + n then 3 else 0) := by unfold kY; rw [if_pos (by omega)]; rcases Nat.lt_or_ge 200 (L + n) with q | q; (rw [if_pos q, if_pos (by omega)]); (rw [if_neg (by omega), if_neg (by omega)])
      refine x_callV 33 rfl (c_X6_counted G wn go sp ia ka tq wh nm ra rf (if 200 < L + n then 3 else 0) ((L : Int) + n) (by split <;> omega) (by omega)) [0, 1] rfl (by decide) 0 rfl rfl gX6_type_X6_counted rfl rfl rfl hd_X6_counted ⟨Nat.le_of_ble_eq_true rfl, Nat.le_of_ble_eq_true rfl⟩ (As := [.int (zI (rC (if 200 < L + n then 3 else 0) ((L : Int) + n)))]) (rest := []) rfl rfl (Nat.le_of_ble_eq_true rfl) dX6_type_30 ⟨Nat.zero_le _, Nat.zero_le _⟩ (fun v w hq => ?_)
      obtain ⟨rfl, rfl⟩ := hq
      refine ⟨rfl, ?_⟩
      refine x_ws (ws' := [(wn, .inr (5, [.ref go, .ref sp, .ref ia, .ref ka, .ref tq, .ref wh, .ref nm, .ref ra])), (ra, aI G 3 (rfC false rf (if 200 < L + n then 3 else 0))), (tq, txE ta (zup sc 0 (if 200 < L + n then (L : Int) else (L : Int) + n))), (ta 0, aI G 200 tx')]) (rfl) ?_
      refine x_iret rfl ?_ dX6_type_33
      by_cases q : 200 < L + n
      · have hk : kY L ((n : Nat) : Int) = 3 := by rw [hky, if_pos q]
        exact ⟨tx', by rw [hk, if_pos q], by rw [hk, if_pos q, if_pos q] <;> rfl, fun j hj => by rw [htx' j hj, if_pos q, hk] <;> rfl⟩
      · have hk : kY L ((n : Nat) : Int) = 0 := by rw [hky, if_neg q]
        exact ⟨tx', by rw [hk, if_neg q], by rw [hk, if_neg q, if_neg q] <;> rfl, fun j hj => by rw [htx' j hj, if_neg q, hk] <;> rfl⟩
    · skip
      refine x_aload_n 12 rfl dX6_type_11 0 rfl ?_
      refine x_bipush 14 rfl dX6_type_12 (z := (-2)) (by decide) ?_
      refine x_bipush 16 rfl dX6_type_14 (z := (-2)) (by decide) ?_
      refine x_callV 19 rfl (c_X6_refuse G wn go sp ia ka tq wh nm ra rf 1 (-2) (-2) (by decide) (by decide) (by decide)) [0, 1] rfl (by decide) 0 rfl rfl gX6_type_X6_refuse rfl rfl rfl hd_X6_refuse ⟨Nat.le_of_ble_eq_true rfl, Nat.le_of_ble_eq_true rfl⟩ (As := [.int (zI (-2)), .int (zI (-2))]) (rest := []) rfl rfl (Nat.le_of_ble_eq_true rfl) dX6_type_16 ⟨Nat.zero_le _, Nat.zero_le _⟩ (fun v w hq => ?_)
      obtain ⟨rfl, rfl⟩ := hq
      refine ⟨rfl, ?_⟩
      refine x_ws (ws' := [(wn, .inr (5, [.ref go, .ref sp, .ref ia, .ref ka, .ref tq, .ref wh, .ref nm, .ref ra])), (ra, aI G 3 (rfC false rf 1)), (tq, txE ta (zup sc 0 ((L : Nat) : Int))), (ta 0, aI G 200 tx)]) (rfl) ?_
      refine x_iret rfl ?_ dX6_type_19
      have hk : kY L n = 1 := by unfold kY; exact if_neg (by omega)
      exact ⟨tx, by rw [hk] <;> rfl, by rw [hk] <;> rfl, fun j _ => by rw [hk] <;> rfl⟩

abbrev P_X6_clear (G : XG) (wn : Nat) (go : Nat) (sp : Nat) (ia : Nat) (ka : Nat) (tq : Nat) (wh : Nat) (nm : Nat) (ra : Nat) (ta : Nat → Nat) (sc : Nat → Int) (L : Nat) : Option Value → va_W → Prop := fun r ws => r = some (.int (zI ((L : Nat) : Int))) ∧ ws = [(wn, .inr (5, [.ref go, .ref sp, .ref ia, .ref ka, .ref tq, .ref wh, .ref nm, .ref ra])), (tq, txE ta (zup sc 0 0))]
abbrev W_X6_clear (G : XG) (E : XE) (wn : Nat) (go : Nat) (sp : Nat) (ia : Nat) (ka : Nat) (tq : Nat) (wh : Nat) (nm : Nat) (ra : Nat) (ta : Nat → Nat) (sc : Nat → Int) (L : Nat) (pc : Nat) (lv : List (Nat × Value)) (st : List Value) (ws : va_W) : Prop := Wx G E (rmL 0) cX6_clear 2 RX6 wsX6_clear (some .int) "clear" 0 0 (P_X6_clear G wn go sp ia ka tq wh nm ra ta sc L) 0 0 pc lv st ws
theorem flX6_clear_30 : Cond.fieldLink RX6 30 (TX6 4).1 (TX6 4).2.1 (TX6 4).2.2.1 ∈ wsX6_clear := by decide +kernel
theorem flX6_clear_97 : Cond.fieldLink RX6 97 (TX3 0).1 (TX3 0).2.1 (TX3 0).2.2.1 ∈ wsX6_clear := by decide +kernel
theorem inX6_clear_X3 : ∀ w ∈ u_ws RX3 TX3 9, w ∈ wsX6_clear := fun _ h => List.mem_cons_of_mem _ (List.mem_append_right _ h)
theorem inX6_clear_X6 : ∀ w ∈ u_ws RX6 TX6 8, w ∈ wsX6_clear := fun _ h => List.mem_cons_of_mem _ (List.mem_append_left _ (List.mem_append_right _ h))
set_option maxHeartbeats 4000000 in
set_option maxRecDepth 100000 in
/-- clear -/
theorem c_X6_clear (G : XG) (wn go sp ia ka tq wh nm ra : Nat) (ta : Nat → Nat) (sc : Nat → Int) (L : Nat) : Con G yX6_clear wsX6_clear (rmL 0) 0 0 [.ref wn] ([(wn, .inr (5, [.ref go, .ref sp, .ref ia, .ref ka, .ref tq, .ref wh, .ref nm, .ref ra])), (tq, txE ta (zup sc 0 ((L : Nat) : Int)))]) (P_X6_clear G wn go sp ia ka tq wh nm ra ta sc L) := by
  refine x_start (cc := cX6_clear) (nL := 2) (ret := (some .int)) (by decide) rfl (Nat.le_of_ble_eq_true rfl) (fun E => ?_)
  show W_X6_clear G E wn go sp ia ka tq wh nm ra ta sc L 0 [(0, .ref wn)] [] ([(wn, .inr (5, [.ref go, .ref sp, .ref ia, .ref ka, .ref tq, .ref wh, .ref nm, .ref ra])), (tq, txE ta (zup sc 0 ((L : Nat) : Int)))])
  refine x_aload_n 1 rfl dX6_clear_0 0 rfl ?_
  refine x_get 4 rfl (v := .ref tq) 0 4 rfl rfl (by decide) inX6_clear_X6 flX6_clear_30 rfl dX6_clear_1 ?_
  refine x_get 7 rfl (v := .int (zI ((L : Nat) : Int))) 1 0 rfl rfl (by decide) inX6_clear_X3 flX6_clear_97 rfl dX6_clear_4 ?_
  refine x_istore_n 8 rfl (lv' := [(1, .int (zI ((L : Nat) : Int))), (0, .ref wn)]) dX6_clear_7 (by decide) rfl ?_
  refine x_aload_n 9 rfl dX6_clear_8 1 rfl ?_
  refine x_get 12 rfl (v := .ref tq) 0 4 rfl rfl (by decide) inX6_clear_X6 flX6_clear_30 rfl dX6_clear_9 ?_
  refine x_iconst 13 rfl dX6_clear_12 (z := 0) (by decide) ?_
  refine x_put 16 rfl 1 0 rfl rfl (by decide) inX6_clear_X3 flX6_clear_97 tyX3_ok nmX3 rfl rfl rfl rfl (Nat.le_of_ble_eq_true rfl) (ws' := [(wn, .inr (5, [.ref go, .ref sp, .ref ia, .ref ka, .ref tq, .ref wh, .ref nm, .ref ra])), (tq, txE ta (zup sc 0 0))]) rfl dX6_clear_13 ?_
  refine x_iload_n 17 rfl dX6_clear_16 0 rfl ?_
  refine x_iret rfl ?_ dX6_clear_17
  exact ⟨rfl, rfl⟩

theorem kL_of {place tune wind : Int} (h : kL place tune wind = 0) : (0 ≤ place ∧ place ≤ 5) ∧ isT tune = true ∧ (0 ≤ wind ∧ wind ≤ 3) := by
  unfold kL at h; split at h
  · assumption
  · cases h
theorem kL_1 {place tune wind : Int} (h : ¬ kL place tune wind = 0) : kL place tune wind = 1 := by
  unfold kL at h ⊢; split
  · rename_i q; exact absurd (if_pos q) h
  · rfl
abbrev P_X6_call (G : XG) (go : Nat) (ga : Nat → Nat) (b : Nat → Int) (n : Nat) (d : Nat) (c : Nat) (gf : Nat → Nat → Int) (wn : Nat) (sp : Nat) (ia : Nat) (ka : Nat) (tq : Nat) (wh : Nat) (nm : Nat) (ra : Nat) (rf : Nat → Int) (wa : Nat → Nat) (fo : Int) (le : Int) (la : Nat → Nat) (F : Nat → LsT) (place : Int) (tune : Int) (wind : Int) : Option Value → va_W → Prop := fun r ws => ∃ F' : Nat → LsT, r = some (.int (zI (rC (kL place tune wind) ((calN b n place.toNat tune.toNat wind.toNat : Nat) : Int)))) ∧ ws = [(wn, .inr (5, [.ref go, .ref sp, .ref ia, .ref ka, .ref tq, .ref wh, .ref nm, .ref ra])), (ra, aI G 3 (rfC false rf (kL place tune wind))), (wh, whE wa fo le), (wa 0, aN G 7 (laF la)), (go, goE ga ((n : Nat) : Int) ((d : Nat) : Int) ((c : Nat) : Int)), (ga 0, aI G 36 (gf 0)), (ga 1, aI G 7 (gf 1)), (ga 2, aI G 7 (gf 2)), (ga 3, aI G 7 (gf 3)), (ga 4, aI G 7 (gf 4)), (ga 5, aI G 6 (gf 5)), (ga 6, aI G 6 (gf 6)), (ga 7, aI G 8 (gf 7))] ++ lsW la F'
abbrev W_X6_call (G : XG) (E : XE) (go : Nat) (ga : Nat → Nat) (b : Nat → Int) (n : Nat) (d : Nat) (c : Nat) (gf : Nat → Nat → Int) (wn : Nat) (sp : Nat) (ia : Nat) (ka : Nat) (tq : Nat) (wh : Nat) (nm : Nat) (ra : Nat) (rf : Nat → Int) (wa : Nat → Nat) (fo : Int) (le : Int) (la : Nat → Nat) (F : Nat → LsT) (place : Int) (tune : Int) (wind : Int) (pc : Nat) (lv : List (Nat × Value)) (st : List Value) (ws : va_W) : Prop := Wx G E (rmL 5) cX6_call 4 RX6 wsX6_call (some .int) "call" 0 0 (P_X6_call G go ga b n d c gf wn sp ia ka tq wh nm ra rf wa fo le la F place tune wind) 0 0 pc lv st ws
theorem flX6_call_10 : Cond.fieldLink RX6 10 (TX6 0).1 (TX6 0).2.1 (TX6 0).2.2.1 ∈ wsX6_call := by decide +kernel
theorem flX6_call_37 : Cond.fieldLink RX6 37 (TX6 5).1 (TX6 5).2.1 (TX6 5).2.2.1 ∈ wsX6_call := by decide +kernel
theorem inX6_call_X6 : ∀ w ∈ u_ws RX6 TX6 8, w ∈ wsX6_call := fun _ h => List.mem_cons_of_mem _ (List.mem_append_left _ (List.mem_append_left _ (List.mem_append_left _ (List.mem_append_right _ h))))
set_option maxHeartbeats 4000000 in
set_option maxRecDepth 100000 in
/-- call -/
theorem c_X6_call (G : XG) (go : Nat) (ga : Nat → Nat) (b : Nat → Int) (n d c : Nat) (gf : Nat → Nat → Int) (I : Inv b n d c) (R : GR b n d c gf) (wn sp ia ka tq wh nm ra : Nat) (rf : Nat → Int) (wa : Nat → Nat) (fo le : Int) (la : Nat → Nat) (F : Nat → LsT) (place tune wind : Int) (h1 : Z32 place) (h2 : Z32 tune) (h3 : Z32 wind) : Con G yX6_call wsX6_call (rmL 5) 0 0 [.ref wn, .int (zI place), .int (zI tune), .int (zI wind)] ([(wn, .inr (5, [.ref go, .ref sp, .ref ia, .ref ka, .ref tq, .ref wh, .ref nm, .ref ra])), (ra, aI G 3 rf), (wh, whE wa fo le), (wa 0, aN G 7 (laF la)), (go, goE ga ((n : Nat) : Int) ((d : Nat) : Int) ((c : Nat) : Int)), (ga 0, aI G 36 (gf 0)), (ga 1, aI G 7 (gf 1)), (ga 2, aI G 7 (gf 2)), (ga 3, aI G 7 (gf 3)), (ga 4, aI G 7 (gf 4)), (ga 5, aI G 6 (gf 5)), (ga 6, aI G 6 (gf 6)), (ga 7, aI G 8 (gf 7))] ++ lsW la F) (P_X6_call G go ga b n d c gf wn sp ia ka tq wh nm ra rf wa fo le la F place tune wind) := by
  refine x_start (cc := cX6_call) (nL := 4) (ret := (some .int)) (by decide) rfl (Nat.le_of_ble_eq_true rfl) (fun E => ?_)
  show W_X6_call G E go ga b n d c gf wn sp ia ka tq wh nm ra rf wa fo le la F place tune wind 0 [(0, .ref wn), (1, .int (zI place)), (2, .int (zI tune)), (3, .int (zI wind))] [] ([(wn, .inr (5, [.ref go, .ref sp, .ref ia, .ref ka, .ref tq, .ref wh, .ref nm, .ref ra])), (ra, aI G 3 rf), (wh, whE wa fo le), (wa 0, aN G 7 (laF la)), (go, goE ga ((n : Nat) : Int) ((d : Nat) : Int) ((c : Nat) : Int)), (ga 0, aI G 36 (gf 0)), (ga 1, aI G 7 (gf 1)), (ga 2, aI G 7 (gf 2)), (ga 3, aI G 7 (gf 3)), (ga 4, aI G 7 (gf 4)), (ga 5, aI G 6 (gf 5)), (ga 6, aI G 6 (gf 6)), (ga 7, aI G 8 (gf 7))] ++ lsW la F)
  have hn7 := I.n7
  have hd6 := I.d6
  have hc8 := I.c8
  refine x_iload_n 1 rfl dX6_call_0 1 rfl ?_
  refine x_iload_n 2 rfl dX6_call_1 2 rfl ?_
  refine x_iload_n 3 rfl dX6_call_2 3 rfl ?_
  refine x_callS0 6 rfl (c_X6_isCall G place tune wind (by omega) (by omega) (by omega)) (fun _ _ h => h.2) gX6_call_X6_isCall rfl rfl rfl hd_X6_isCall ⟨Nat.le_of_ble_eq_true rfl, Nat.le_of_ble_eq_true rfl⟩ (As := [.int (zI place), .int (zI tune), .int (zI wind)]) (rest := []) rfl rfl (Nat.le_of_ble_eq_true rfl) dX6_call_3 ⟨Nat.zero_le _, Nat.zero_le _⟩ (fun v hq => ?_)
  obtain ⟨rfl, -⟩ := hq
  refine x_bif_ne 9 rfl (tgt := 18) dX6_call_6 (by decide) (fun h6 => ?_) (fun h6 => ?_)
  · have h6 := of_decide_eq_true h6
    have hv : (0 ≤ place ∧ place ≤ 5) ∧ isT tune = true ∧ (0 ≤ wind ∧ wind ≤ 3) := kL_of h6
    have htp : 0 ≤ tune ∧ tune ≤ 2047 := by have := hv.2.1; unfold isT at this; rw [decide_eq_true_iff] at this; omega
    obtain ⟨place, rfl⟩ : ∃ zk : Nat, place = (zk : Int) := ⟨Int.toNat place, by omega⟩
    obtain ⟨tune, rfl⟩ : ∃ zk : Nat, tune = (zk : Int) := ⟨Int.toNat tune, by omega⟩
    obtain ⟨wind, rfl⟩ : ∃ zk : Nat, wind = (zk : Int) := ⟨Int.toNat wind, by omega⟩
    refine x_aload_n 19 rfl dX6_call_18 0 rfl ?_
    refine x_get 22 rfl (v := .ref wh) 0 5 rfl rfl (by decide) inX6_call_X6 flX6_call_37 rfl dX6_call_19 ?_
    refine x_aload_n 23 rfl dX6_call_22 0 rfl ?_
    refine x_get 26 rfl (v := .ref go) 0 0 rfl rfl (by decide) inX6_call_X6 flX6_call_10 rfl dX6_call_23 ?_
    refine x_iload_n 27 rfl dX6_call_26 1 rfl ?_
    refine x_iload_n 28 rfl dX6_call_27 2 rfl ?_
    refine x_iload_n 29 rfl dX6_call_28 3 rfl ?_
    refine x_callV 32 rfl (c_X5_turners G go ga b n d c gf I R wh wa fo le la F place wind tune (by omega) (by omega) ((isT_nat.mp hv.2.1))) [2, 3, 4, 5, 6, 7, 8, 9, 10, 11, 12, 13, 14, 15, 16, 17, 18, 19] rfl (by decide) 2 rfl rfl gX6_call_X5_turners rfl rfl rfl hd_X5_turners ⟨Nat.le_of_ble_eq_true rfl, Nat.le_of_ble_eq_true rfl⟩ (As := [.ref go, .int (zI ((place : Nat) : Int)), .int (zI ((tune : Nat) : Int)), .int (zI ((wind : Nat) : Int))]) (rest := []) rfl rfl (Nat.le_of_ble_eq_true rfl) dX6_call_29 ⟨Nat.zero_le _, Nat.zero_le _⟩ (fun v w hq => ?_)
    obtain ⟨Fz_1, rfl, rfl⟩ := hq
    refine ⟨rfl, ?_⟩
    refine x_ws (ws' := [(wn, .inr (5, [.ref go, .ref sp, .ref ia, .ref ka, .ref tq, .ref wh, .ref nm, .ref ra])), (ra, aI G 3 rf), (wh, whE wa fo le), (wa 0, aN G 7 (laF la)), (go, goE ga ((n : Nat) : Int) ((d : Nat) : Int) ((c : Nat) : Int)), (ga 0, aI G 36 (gf 0)), (ga 1, aI G 7 (gf 1)), (ga 2, aI G 7 (gf 2)), (ga 3, aI G 7 (gf 3)), (ga 4, aI G 7 (gf 4)), (ga 5, aI G 6 (gf 5)), (ga 6, aI G 6 (gf 6)), (ga 7, aI G 8 (gf 7))] ++ lsW la Fz_1) (rfl) ?_
    refine x_iret rfl ?_ dX6_call_32
    have hk := h6
    exact ⟨_, by rw [hk] <;> rfl, by rw [hk] <;> rfl⟩
  · have h6 := of_decide_eq_false h6
    refine x_aload_n 10 rfl dX6_call_9 0 rfl ?_
    refine x_bipush 12 rfl dX6_call_10 (z := (-2)) (by decide) ?_
    refine x_bipush 14 rfl dX6_call_12 (z := (-2)) (by decide) ?_
    refine x_callV 17 rfl (c_X6_refuse G wn go sp ia ka tq wh nm ra rf 1 (-2) (-2) (by decide) (by decide) (by decide)) [0, 1] rfl (by decide) 0 rfl rfl gX6_call_X6_refuse rfl rfl rfl hd_X6_refuse ⟨Nat.le_of_ble_eq_true rfl, Nat.le_of_ble_eq_true rfl⟩ (As := [.int (zI (-2)), .int (zI (-2))]) (rest := []) rfl rfl (Nat.le_of_ble_eq_true rfl) dX6_call_14 ⟨Nat.zero_le _, Nat.zero_le _⟩ (fun v w hq => ?_)
    obtain ⟨rfl, rfl⟩ := hq
    refine ⟨rfl, ?_⟩
    refine x_ws (ws' := [(wn, .inr (5, [.ref go, .ref sp, .ref ia, .ref ka, .ref tq, .ref wh, .ref nm, .ref ra])), (ra, aI G 3 (rfC false rf 1)), (wh, whE wa fo le), (wa 0, aN G 7 (laF la)), (go, goE ga ((n : Nat) : Int) ((d : Nat) : Int) ((c : Nat) : Int)), (ga 0, aI G 36 (gf 0)), (ga 1, aI G 7 (gf 1)), (ga 2, aI G 7 (gf 2)), (ga 3, aI G 7 (gf 3)), (ga 4, aI G 7 (gf 4)), (ga 5, aI G 6 (gf 5)), (ga 6, aI G 6 (gf 6)), (ga 7, aI G 8 (gf 7))] ++ lsW la F) (rfl) ?_
    refine x_iret rfl ?_ dX6_call_17
    have hk := kL_1 h6
    exact ⟨F, by rw [hk] <;> rfl, by rw [hk] <;> rfl⟩

abbrev P_X6_whistle (G : XG) (go : Nat) (ga : Nat → Nat) (b : Nat → Int) (n : Nat) (d : Nat) (c : Nat) (gf : Nat → Nat → Int) (wn : Nat) (sp : Nat) (ia : Nat) (ka : Nat) (tq : Nat) (wh : Nat) (nm : Nat) (ra : Nat) (rf : Nat → Int) (wa : Nat → Nat) (fo : Int) (le : Int) (la : Nat → Nat) (F : Nat → LsT) (place : Int) (tune : Int) (wind : Int) : Option Value → va_W → Prop := fun r ws => ∃ F' : Nat → LsT, ∃ n' d' c' : Nat, ∃ gf' : Nat → Nat → Int, r = some (.int (zI (rC (kW c place tune wind) ((c : Nat) : Int)))) ∧ ws = [(wn, .inr (5, [.ref go, .ref sp, .ref ia, .ref ka, .ref tq, .ref wh, .ref nm, .ref ra])), (ra, aI G 3 (rfC false rf (kW c place tune wind))), (wh, whE wa fo le), (wa 0, aN G 7 (laF la)), (go, goE ga ((n' : Nat) : Int) ((d' : Nat) : Int) ((c' : Nat) : Int)), (ga 0, aI G 36 (gf' 0)), (ga 1, aI G 7 (gf' 1)), (ga 2, aI G 7 (gf' 2)), (ga 3, aI G 7 (gf' 3)), (ga 4, aI G 7 (gf' 4)), (ga 5, aI G 6 (gf' 5)), (ga 6, aI G 6 (gf' 6)), (ga 7, aI G 8 (gf' 7))] ++ lsW la F' ∧ Inv (bW b n c place tune wind) n' d' c' ∧ GR (bW b n c place tune wind) n' d' c' gf'
abbrev W_X6_whistle (G : XG) (E : XE) (go : Nat) (ga : Nat → Nat) (b : Nat → Int) (n : Nat) (d : Nat) (c : Nat) (gf : Nat → Nat → Int) (wn : Nat) (sp : Nat) (ia : Nat) (ka : Nat) (tq : Nat) (wh : Nat) (nm : Nat) (ra : Nat) (rf : Nat → Int) (wa : Nat → Nat) (fo : Int) (le : Int) (la : Nat → Nat) (F : Nat → LsT) (place : Int) (tune : Int) (wind : Int) (pc : Nat) (lv : List (Nat × Value)) (st : List Value) (ws : va_W) : Prop := Wx G E (rmL 5) cX6_whistle 4 RX6 wsX6_whistle (some .int) "whistle" 0 0 (P_X6_whistle G go ga b n d c gf wn sp ia ka tq wh nm ra rf wa fo le la F place tune wind) 0 0 pc lv st ws
theorem flX6_whistle_10 : Cond.fieldLink RX6 10 (TX6 0).1 (TX6 0).2.1 (TX6 0).2.2.1 ∈ wsX6_whistle := by decide +kernel
theorem flX6_whistle_37 : Cond.fieldLink RX6 37 (TX6 5).1 (TX6 5).2.1 (TX6 5).2.2.1 ∈ wsX6_whistle := by decide +kernel
theorem flX6_whistle_119 : Cond.fieldLink RX6 119 (TX0 2).1 (TX0 2).2.1 (TX0 2).2.2.1 ∈ wsX6_whistle := by decide +kernel
theorem flX6_whistle_122 : Cond.fieldLink RX6 122 (TX0 10).1 (TX0 10).2.1 (TX0 10).2.2.1 ∈ wsX6_whistle := by decide +kernel
theorem inX6_whistle_X0 : ∀ w ∈ u_ws RX0 TX0 11, w ∈ wsX6_whistle := fun _ h => List.mem_cons_of_mem _ (List.mem_append_left _ (List.mem_append_left _ (List.mem_append_right _ h)))
theorem inX6_whistle_X6 : ∀ w ∈ u_ws RX6 TX6 8, w ∈ wsX6_whistle := fun _ h => List.mem_cons_of_mem _ (List.mem_append_left _ (List.mem_append_left _ (List.mem_append_left _ (List.mem_append_right _ h))))
set_option maxHeartbeats 4000000 in
set_option maxRecDepth 100000 in
/-- whistle -/
theorem c_X6_whistle (G : XG) (go : Nat) (ga : Nat → Nat) (b : Nat → Int) (n d c : Nat) (gf : Nat → Nat → Int) (I : Inv b n d c) (R : GR b n d c gf) (wn sp ia ka tq wh nm ra : Nat) (rf : Nat → Int) (wa : Nat → Nat) (fo le : Int) (la : Nat → Nat) (F : Nat → LsT) (place tune wind : Int) (h1 : Z32 place) (h2 : Z32 tune) (h3 : Z32 wind) : Con G yX6_whistle wsX6_whistle (rmL 5) 0 0 [.ref wn, .int (zI place), .int (zI tune), .int (zI wind)] ([(wn, .inr (5, [.ref go, .ref sp, .ref ia, .ref ka, .ref tq, .ref wh, .ref nm, .ref ra])), (ra, aI G 3 rf), (wh, whE wa fo le), (wa 0, aN G 7 (laF la)), (go, goE ga ((n : Nat) : Int) ((d : Nat) : Int) ((c : Nat) : Int)), (ga 0, aI G 36 (gf 0)), (ga 1, aI G 7 (gf 1)), (ga 2, aI G 7 (gf 2)), (ga 3, aI G 7 (gf 3)), (ga 4, aI G 7 (gf 4)), (ga 5, aI G 6 (gf 5)), (ga 6, aI G 6 (gf 6)), (ga 7, aI G 8 (gf 7))] ++ lsW la F) (P_X6_whistle G go ga b n d c gf wn sp ia ka tq wh nm ra rf wa fo le la F place tune wind) := by
  refine x_start (cc := cX6_whistle) (nL := 4) (ret := (some .int)) (by decide) rfl (Nat.le_of_ble_eq_true rfl) (fun E => ?_)
  show W_X6_whistle G E go ga b n d c gf wn sp ia ka tq wh nm ra rf wa fo le la F place tune wind 0 [(0, .ref wn), (1, .int (zI place)), (2, .int (zI tune)), (3, .int (zI wind))] [] ([(wn, .inr (5, [.ref go, .ref sp, .ref ia, .ref ka, .ref tq, .ref wh, .ref nm, .ref ra])), (ra, aI G 3 rf), (wh, whE wa fo le), (wa 0, aN G 7 (laF la)), (go, goE ga ((n : Nat) : Int) ((d : Nat) : Int) ((c : Nat) : Int)), (ga 0, aI G 36 (gf 0)), (ga 1, aI G 7 (gf 1)), (ga 2, aI G 7 (gf 2)), (ga 3, aI G 7 (gf 3)), (ga 4, aI G 7 (gf 4)), (ga 5, aI G 6 (gf 5)), (ga 6, aI G 6 (gf 6)), (ga 7, aI G 8 (gf 7))] ++ lsW la F)
  have hn7 := I.n7
  have hd6 := I.d6
  have hc8 := I.c8
  refine x_iload_n 1 rfl dX6_whistle_0 1 rfl ?_
  refine x_iload_n 2 rfl dX6_whistle_1 2 rfl ?_
  refine x_iload_n 3 rfl dX6_whistle_2 3 rfl ?_
  refine x_callS0 6 rfl (c_X6_isCall G place tune wind (by omega) (by omega) (by omega)) (fun _ _ h => h.2) gX6_whistle_X6_isCall rfl rfl rfl hd_X6_isCall ⟨Nat.le_of_ble_eq_true rfl, Nat.le_of_ble_eq_true rfl⟩ (As := [.int (zI place), .int (zI tune), .int (zI wind)]) (rest := []) rfl rfl (Nat.le_of_ble_eq_true rfl) dX6_whistle_3 ⟨Nat.zero_le _, Nat.zero_le _⟩ (fun v hq => ?_)
  obtain ⟨rfl, -⟩ := hq
  refine x_bif_ne 9 rfl (tgt := 18) dX6_whistle_6 (by decide) (fun h6 => ?_) (fun h6 => ?_)
  · have h6 := of_decide_eq_true h6
    refine x_aload_n 19 rfl dX6_whistle_18 0 rfl ?_
    refine x_get 22 rfl (v := .ref go) 0 0 rfl rfl (by decide) inX6_whistle_X6 flX6_whistle_10 rfl dX6_whistle_19 ?_
    refine x_get 25 rfl (v := .int (zI ((c : Nat) : Int))) 4 2 rfl rfl (by decide) inX6_whistle_X0 flX6_whistle_119 rfl dX6_whistle_22 ?_
    refine x_bipush 27 rfl dX6_whistle_25 (z := 8) (by decide) ?_
    refine x_icmp_lt 30 rfl (tgt := 39) dX6_whistle_27 (by decide) (by omega) (by decide) (fun h27 => ?_) (fun h27 => ?_)
    · skip
      have hv : (0 ≤ place ∧ place ≤ 5) ∧ isT tune = true ∧ (0 ≤ wind ∧ wind ≤ 3) := kL_of h6
      have htp : 0 ≤ tune ∧ tune ≤ 2047 := by have := hv.2.1; unfold isT at this; rw [decide_eq_true_iff] at this; omega
      obtain ⟨place, rfl⟩ : ∃ zk : Nat, place = (zk : Int) := ⟨Int.toNat place, by omega⟩
      obtain ⟨tune, rfl⟩ : ∃ zk : Nat, tune = (zk : Int) := ⟨Int.toNat tune, by omega⟩
      obtain ⟨wind, rfl⟩ : ∃ zk : Nat, wind = (zk : Int) := ⟨Int.toNat wind, by omega⟩
      refine x_aload_n 40 rfl dX6_whistle_39 0 rfl ?_
      refine x_get 43 rfl (v := .ref go) 0 0 rfl rfl (by decide) inX6_whistle_X6 flX6_whistle_10 rfl dX6_whistle_40 ?_
      refine x_get 46 rfl (v := .ref (ga 7)) 4 10 rfl rfl (by decide) inX6_whistle_X0 flX6_whistle_122 rfl dX6_whistle_43 ?_
      refine x_aload_n 47 rfl dX6_whistle_46 0 rfl ?_
      refine x_get 50 rfl (v := .ref go) 0 0 rfl rfl (by decide) inX6_whistle_X6 flX6_whistle_10 rfl dX6_whistle_47 ?_
      refine x_get 53 rfl (v := .int (zI ((c : Nat) : Int))) 4 2 rfl rfl (by decide) inX6_whistle_X0 flX6_whistle_119 rfl dX6_whistle_50 ?_
      refine x_aload_n 54 rfl dX6_whistle_53 0 rfl ?_
      refine x_get 57 rfl (v := .ref wh) 0 5 rfl rfl (by decide) inX6_whistle_X6 flX6_whistle_37 rfl dX6_whistle_54 ?_
      refine x_aload_n 58 rfl dX6_whistle_57 0 rfl ?_
      refine x_get 61 rfl (v := .ref go) 0 0 rfl rfl (by decide) inX6_whistle_X6 flX6_whistle_10 rfl dX6_whistle_58 ?_
      refine x_iload_n 62 rfl dX6_whistle_61 1 rfl ?_
      refine x_iload_n 63 rfl dX6_whistle_62 2 rfl ?_
      refine x_iload_n 64 rfl dX6_whistle_63 3 rfl ?_
      refine x_callV 67 rfl (c_X5_turners G go ga b n d c gf I R wh wa fo le la F place wind tune (by omega) (by omega) ((isT_nat.mp hv.2.1))) [2, 3, 4, 5, 6, 7, 8, 9, 10, 11, 12, 13, 14, 15, 16, 17, 18, 19] rfl (by decide) 2 rfl rfl gX6_whistle_X5_turners rfl rfl rfl hd_X5_turners ⟨Nat.le_of_ble_eq_true rfl, Nat.le_of_ble_eq_true rfl⟩ (As := [.ref go, .int (zI ((place : Nat) : Int)), .int (zI ((tune : Nat) : Int)), .int (zI ((wind : Nat) : Int))]) (rest := [.int (zI ((c : Nat) : Int)), .ref (ga 7)]) rfl rfl (Nat.le_of_ble_eq_true rfl) dX6_whistle_64 ⟨Nat.zero_le _, Nat.zero_le _⟩ (fun v w hq => ?_)
      obtain ⟨Fz_1, rfl, rfl⟩ := hq
      refine ⟨rfl, ?_⟩
      refine x_ws (ws' := [(wn, .inr (5, [.ref go, .ref sp, .ref ia, .ref ka, .ref tq, .ref wh, .ref nm, .ref ra])), (ra, aI G 3 rf), (wh, whE wa fo le), (wa 0, aN G 7 (laF la)), (go, goE ga ((n : Nat) : Int) ((d : Nat) : Int) ((c : Nat) : Int)), (ga 0, aI G 36 (gf 0)), (ga 1, aI G 7 (gf 1)), (ga 2, aI G 7 (gf 2)), (ga 3, aI G 7 (gf 3)), (ga 4, aI G 7 (gf 4)), (ga 5, aI G 6 (gf 5)), (ga 6, aI G 6 (gf 6)), (ga 7, aI G 8 (gf 7))] ++ lsW la Fz_1) (rfl) ?_
      have hcl := calN_lt I place tune wind
      refine x_iast 68 rfl 12 c rfl (⟨by omega, by omega⟩) (by decide) (ws' := [(wn, .inr (5, [.ref go, .ref sp, .ref ia, .ref ka, .ref tq, .ref wh, .ref nm, .ref ra])), (ra, aI G 3 rf), (wh, whE wa fo le), (wa 0, aN G 7 (laF la)), (go, goE ga ((n : Nat) : Int) ((d : Nat) : Int) ((c : Nat) : Int)), (ga 0, aI G 36 (gf 0)), (ga 1, aI G 7 (gf 1)), (ga 2, aI G 7 (gf 2)), (ga 3, aI G 7 (gf 3)), (ga 4, aI G 7 (gf 4)), (ga 5, aI G 6 (gf 5)), (ga 6, aI G 6 (gf 6)), (ga 7, aI G 8 (zup (gf 7) c ((calN b n place tune wind : Nat) : Int)))] ++ lsW la Fz_1) (rfl) dX6_whistle_67 ?_
      refine x_aload_n 69 rfl dX6_whistle_68 0 rfl ?_
      refine x_get 72 rfl (v := .ref go) 0 0 rfl rfl (by decide) inX6_whistle_X6 flX6_whistle_10 rfl dX6_whistle_69 ?_
      refine x_dup 73 rfl dX6_whistle_72 rfl ?_
      refine x_get 76 rfl (v := .int (zI ((c : Nat) : Int))) 4 2 rfl rfl (by decide) inX6_whistle_X0 flX6_whistle_119 rfl dX6_whistle_73 ?_
      refine x_iconst 77 rfl dX6_whistle_76 (z := 1) (by decide) ?_
      refine x_iadd 78 rfl dX6_whistle_77 (z := ((c + 1 : Nat) : Int)) (by omega) ?_
      refine x_put 81 rfl 4 2 rfl rfl (by decide) inX6_whistle_X0 flX6_whistle_119 tyX0_ok nmX0 rfl rfl rfl rfl (Nat.le_of_ble_eq_true rfl) (ws' := [(wn, .inr (5, [.ref go, .ref sp, .ref ia, .ref ka, .ref tq, .ref wh, .ref nm, .ref ra])), (ra, aI G 3 rf), (wh, whE wa fo le), (wa 0, aN G 7 (laF la)), (go, goE ga ((n : Nat) : Int) ((d : Nat) : Int) ((c + 1 : Nat) : Int)), (ga 0, aI G 36 (gf 0)), (ga 1, aI G 7 (gf 1)), (ga 2, aI G 7 (gf 2)), (ga 3, aI G 7 (gf 3)), (ga 4, aI G 7 (gf 4)), (ga 5, aI G 6 (gf 5)), (ga 6, aI G 6 (gf 6)), (ga 7, aI G 8 (zup (gf 7) c ((calN b n place tune wind : Nat) : Int)))] ++ lsW la Fz_1) rfl dX6_whistle_78 ?_
      refine x_aload_n 82 rfl dX6_whistle_81 0 rfl ?_
      refine x_get 85 rfl (v := .ref go) 0 0 rfl rfl (by decide) inX6_whistle_X6 flX6_whistle_10 rfl dX6_whistle_82 ?_
      refine x_get 88 rfl (v := .int (zI ((c + 1 : Nat) : Int))) 4 2 rfl rfl (by decide) inX6_whistle_X0 flX6_whistle_119 rfl dX6_whistle_85 ?_
      refine x_iconst 89 rfl dX6_whistle_88 (z := 1) (by decide) ?_
      refine x_isub 90 rfl dX6_whistle_89 (z := ((c + 1 : Nat) : Int) - 1) (rfl) ?_
      refine x_iret rfl ?_ dX6_whistle_90
      have hk : kW c place tune wind = 0 := by unfold kW; rw [if_pos hv, if_neg (by omega)]
      exact ⟨_, n, d, c + 1, zup gf 7 (zup (gf 7) c ((calN b n place tune wind : Nat) : Int)), by rw [hk]; exact congrArg (fun z => some (Value.int (zI z))) (by omega : ((c + 1 : Nat) : Int) - 1 = (c : Int)), by rw [hk] <;> rfl, by unfold bW; rw [hk]; exact Inv_call I (by omega) (by have := calN_lt I (Int.toNat ((place : Nat) : Int)) (Int.toNat ((tune : Nat) : Int)) (Int.toNat ((wind : Nat) : Int)); omega), by unfold bW; rw [hk]; exact GR_call R I _ _⟩
    · skip
      refine x_aload_n 31 rfl dX6_whistle_30 0 rfl ?_
      refine x_bipush 33 rfl dX6_whistle_31 (z := (-4)) (by decide) ?_
      refine x_bipush 35 rfl dX6_whistle_33 (z := (-4)) (by decide) ?_
      refine x_callV 38 rfl (c_X6_refuse G wn go sp ia ka tq wh nm ra rf 3 (-4) (-4) (by decide) (by decide) (by decide)) [0, 1] rfl (by decide) 0 rfl rfl gX6_whistle_X6_refuse rfl rfl rfl hd_X6_refuse ⟨Nat.le_of_ble_eq_true rfl, Nat.le_of_ble_eq_true rfl⟩ (As := [.int (zI (-4)), .int (zI (-4))]) (rest := []) rfl rfl (Nat.le_of_ble_eq_true rfl) dX6_whistle_35 ⟨Nat.zero_le _, Nat.zero_le _⟩ (fun v w hq => ?_)
      obtain ⟨rfl, rfl⟩ := hq
      refine ⟨rfl, ?_⟩
      refine x_ws (ws' := [(wn, .inr (5, [.ref go, .ref sp, .ref ia, .ref ka, .ref tq, .ref wh, .ref nm, .ref ra])), (ra, aI G 3 (rfC false rf 3)), (wh, whE wa fo le), (wa 0, aN G 7 (laF la)), (go, goE ga ((n : Nat) : Int) ((d : Nat) : Int) ((c : Nat) : Int)), (ga 0, aI G 36 (gf 0)), (ga 1, aI G 7 (gf 1)), (ga 2, aI G 7 (gf 2)), (ga 3, aI G 7 (gf 3)), (ga 4, aI G 7 (gf 4)), (ga 5, aI G 6 (gf 5)), (ga 6, aI G 6 (gf 6)), (ga 7, aI G 8 (gf 7))] ++ lsW la F) (rfl) ?_
      refine x_iret rfl ?_ dX6_whistle_38
      have hk : kW c place tune wind = 3 := by unfold kW; rw [if_pos (kL_of h6), if_pos (by omega)]
      exact ⟨F, _, _, _, _, by rw [hk] <;> rfl, by rw [hk] <;> rfl, by unfold bW; rw [hk]; exact I, by unfold bW; rw [hk]; exact R⟩
  · have h6 := of_decide_eq_false h6
    refine x_aload_n 10 rfl dX6_whistle_9 0 rfl ?_
    refine x_bipush 12 rfl dX6_whistle_10 (z := (-2)) (by decide) ?_
    refine x_bipush 14 rfl dX6_whistle_12 (z := (-2)) (by decide) ?_
    refine x_callV 17 rfl (c_X6_refuse G wn go sp ia ka tq wh nm ra rf 1 (-2) (-2) (by decide) (by decide) (by decide)) [0, 1] rfl (by decide) 0 rfl rfl gX6_whistle_X6_refuse rfl rfl rfl hd_X6_refuse ⟨Nat.le_of_ble_eq_true rfl, Nat.le_of_ble_eq_true rfl⟩ (As := [.int (zI (-2)), .int (zI (-2))]) (rest := []) rfl rfl (Nat.le_of_ble_eq_true rfl) dX6_whistle_14 ⟨Nat.zero_le _, Nat.zero_le _⟩ (fun v w hq => ?_)
    obtain ⟨rfl, rfl⟩ := hq
    refine ⟨rfl, ?_⟩
    refine x_ws (ws' := [(wn, .inr (5, [.ref go, .ref sp, .ref ia, .ref ka, .ref tq, .ref wh, .ref nm, .ref ra])), (ra, aI G 3 (rfC false rf 1)), (wh, whE wa fo le), (wa 0, aN G 7 (laF la)), (go, goE ga ((n : Nat) : Int) ((d : Nat) : Int) ((c : Nat) : Int)), (ga 0, aI G 36 (gf 0)), (ga 1, aI G 7 (gf 1)), (ga 2, aI G 7 (gf 2)), (ga 3, aI G 7 (gf 3)), (ga 4, aI G 7 (gf 4)), (ga 5, aI G 6 (gf 5)), (ga 6, aI G 6 (gf 6)), (ga 7, aI G 8 (gf 7))] ++ lsW la F) (rfl) ?_
    refine x_iret rfl ?_ dX6_whistle_17
    have hk : kW c place tune wind = 1 := by have := kL_1 h6; unfold kL at this; unfold kW; split at this; (cases this); (rename_i q; exact if_neg q)
    exact ⟨F, _, _, _, _, by rw [hk] <;> rfl, by rw [hk] <;> rfl, by unfold bW; rw [hk]; exact I, by unfold bW; rw [hk]; exact R⟩

abbrev P_X6_turned (G : XG) (go : Nat) (ga : Nat → Nat) (b : Nat → Int) (n : Nat) (d : Nat) (c : Nat) (gf : Nat → Nat → Int) (wn : Nat) (sp : Nat) (ia : Nat) (ka : Nat) (tq : Nat) (wh : Nat) (nm : Nat) (ra : Nat) (rf : Nat → Int) (call : Int) : Option Value → va_W → Prop := fun r ws => r = some (.int (zI (rC (kT c call) (b (58 + call.toNat))))) ∧ ws = [(wn, .inr (5, [.ref go, .ref sp, .ref ia, .ref ka, .ref tq, .ref wh, .ref nm, .ref ra])), (ra, aI G 3 (rfC false rf (kT c call))), (go, goE ga ((n : Nat) : Int) ((d : Nat) : Int) ((c : Nat) : Int)), (ga 0, aI G 36 (gf 0)), (ga 1, aI G 7 (gf 1)), (ga 2, aI G 7 (gf 2)), (ga 3, aI G 7 (gf 3)), (ga 4, aI G 7 (gf 4)), (ga 5, aI G 6 (gf 5)), (ga 6, aI G 6 (gf 6)), (ga 7, aI G 8 (gf 7))]
abbrev W_X6_turned (G : XG) (E : XE) (go : Nat) (ga : Nat → Nat) (b : Nat → Int) (n : Nat) (d : Nat) (c : Nat) (gf : Nat → Nat → Int) (wn : Nat) (sp : Nat) (ia : Nat) (ka : Nat) (tq : Nat) (wh : Nat) (nm : Nat) (ra : Nat) (rf : Nat → Int) (call : Int) (pc : Nat) (lv : List (Nat × Value)) (st : List Value) (ws : va_W) : Prop := Wx G E (rmL 1) cX6_turned 2 RX6 wsX6_turned (some .int) "turned" 0 0 (P_X6_turned G go ga b n d c gf wn sp ia ka tq wh nm ra rf call) 0 0 pc lv st ws
theorem flX6_turned_10 : Cond.fieldLink RX6 10 (TX6 0).1 (TX6 0).2.1 (TX6 0).2.2.1 ∈ wsX6_turned := by decide +kernel
theorem flX6_turned_119 : Cond.fieldLink RX6 119 (TX0 2).1 (TX0 2).2.1 (TX0 2).2.2.1 ∈ wsX6_turned := by decide +kernel
theorem flX6_turned_122 : Cond.fieldLink RX6 122 (TX0 10).1 (TX0 10).2.1 (TX0 10).2.2.1 ∈ wsX6_turned := by decide +kernel
theorem inX6_turned_X0 : ∀ w ∈ u_ws RX0 TX0 11, w ∈ wsX6_turned := fun _ h => List.mem_cons_of_mem _ (List.mem_append_right _ h)
theorem inX6_turned_X6 : ∀ w ∈ u_ws RX6 TX6 8, w ∈ wsX6_turned := fun _ h => List.mem_cons_of_mem _ (List.mem_append_left _ (List.mem_append_right _ h))
set_option maxHeartbeats 4000000 in
set_option maxRecDepth 100000 in
/-- turned -/
theorem c_X6_turned (G : XG) (go : Nat) (ga : Nat → Nat) (b : Nat → Int) (n d c : Nat) (gf : Nat → Nat → Int) (I : Inv b n d c) (R : GR b n d c gf) (wn sp ia ka tq wh nm ra : Nat) (rf : Nat → Int) (call : Int) (h1 : Z32 call) : Con G yX6_turned wsX6_turned (rmL 1) 0 0 [.ref wn, .int (zI call)] ([(wn, .inr (5, [.ref go, .ref sp, .ref ia, .ref ka, .ref tq, .ref wh, .ref nm, .ref ra])), (ra, aI G 3 rf), (go, goE ga ((n : Nat) : Int) ((d : Nat) : Int) ((c : Nat) : Int)), (ga 0, aI G 36 (gf 0)), (ga 1, aI G 7 (gf 1)), (ga 2, aI G 7 (gf 2)), (ga 3, aI G 7 (gf 3)), (ga 4, aI G 7 (gf 4)), (ga 5, aI G 6 (gf 5)), (ga 6, aI G 6 (gf 6)), (ga 7, aI G 8 (gf 7))]) (P_X6_turned G go ga b n d c gf wn sp ia ka tq wh nm ra rf call) := by
  refine x_start (cc := cX6_turned) (nL := 2) (ret := (some .int)) (by decide) rfl (Nat.le_of_ble_eq_true rfl) (fun E => ?_)
  show W_X6_turned G E go ga b n d c gf wn sp ia ka tq wh nm ra rf call 0 [(0, .ref wn), (1, .int (zI call))] [] ([(wn, .inr (5, [.ref go, .ref sp, .ref ia, .ref ka, .ref tq, .ref wh, .ref nm, .ref ra])), (ra, aI G 3 rf), (go, goE ga ((n : Nat) : Int) ((d : Nat) : Int) ((c : Nat) : Int)), (ga 0, aI G 36 (gf 0)), (ga 1, aI G 7 (gf 1)), (ga 2, aI G 7 (gf 2)), (ga 3, aI G 7 (gf 3)), (ga 4, aI G 7 (gf 4)), (ga 5, aI G 6 (gf 5)), (ga 6, aI G 6 (gf 6)), (ga 7, aI G 8 (gf 7))])
  have hn7 := I.n7
  have hd6 := I.d6
  have hc8 := I.c8
  refine x_iload_n 1 rfl dX6_turned_0 1 rfl ?_
  refine x_aload_n 2 rfl dX6_turned_1 0 rfl ?_
  refine x_get 5 rfl (v := .ref go) 0 0 rfl rfl (by decide) inX6_turned_X6 flX6_turned_10 rfl dX6_turned_2 ?_
  refine x_get 8 rfl (v := .int (zI ((c : Nat) : Int))) 2 2 rfl rfl (by decide) inX6_turned_X0 flX6_turned_119 rfl dX6_turned_5 ?_
  refine x_callS0 11 rfl (c_X6_isBelow G call ((c : Nat) : Int) (by omega) (by omega)) (fun _ _ h => h.2) gX6_turned_X6_isBelow rfl rfl rfl hd_X6_isBelow ⟨Nat.le_of_ble_eq_true rfl, Nat.le_of_ble_eq_true rfl⟩ (As := [.int (zI call), .int (zI ((c : Nat) : Int))]) (rest := []) rfl rfl (Nat.le_of_ble_eq_true rfl) dX6_turned_8 ⟨Nat.zero_le _, Nat.zero_le _⟩ (fun v hq => ?_)
  obtain ⟨rfl, -⟩ := hq
  refine x_bif_ne 14 rfl (tgt := 23) dX6_turned_11 (by decide) (fun h11 => ?_) (fun h11 => ?_)
  · have h11 := of_decide_eq_true h11
    obtain ⟨call, rfl⟩ : ∃ zk : Nat, call = (zk : Int) := ⟨Int.toNat call, by omega⟩
    refine x_aload_n 24 rfl dX6_turned_23 0 rfl ?_
    refine x_get 27 rfl (v := .ref go) 0 0 rfl rfl (by decide) inX6_turned_X6 flX6_turned_10 rfl dX6_turned_24 ?_
    refine x_get 30 rfl (v := .ref (ga 7)) 2 10 rfl rfl (by decide) inX6_turned_X0 flX6_turned_122 rfl dX6_turned_27 ?_
    refine x_iload_n 31 rfl dX6_turned_30 1 rfl ?_
    refine x_iald 32 rfl 10 call rfl (⟨by omega, by omega⟩) (by decide) (v := b (58 + call)) (R.2.2.2 call (by omega)) dX6_turned_31 ?_
    refine x_iret rfl ?_ dX6_turned_32
    have hk : kT c call = 0 := by unfold kT; exact if_pos (by omega)
    exact ⟨by rw [hk] <;> rfl, by rw [hk] <;> rfl⟩
  · have h11 := of_decide_eq_false h11
    refine x_aload_n 15 rfl dX6_turned_14 0 rfl ?_
    refine x_bipush 17 rfl dX6_turned_15 (z := (-2)) (by decide) ?_
    refine x_bipush 19 rfl dX6_turned_17 (z := (-2)) (by decide) ?_
    refine x_callV 22 rfl (c_X6_refuse G wn go sp ia ka tq wh nm ra rf 1 (-2) (-2) (by decide) (by decide) (by decide)) [0, 1] rfl (by decide) 0 rfl rfl gX6_turned_X6_refuse rfl rfl rfl hd_X6_refuse ⟨Nat.le_of_ble_eq_true rfl, Nat.le_of_ble_eq_true rfl⟩ (As := [.int (zI (-2)), .int (zI (-2))]) (rest := []) rfl rfl (Nat.le_of_ble_eq_true rfl) dX6_turned_19 ⟨Nat.zero_le _, Nat.zero_le _⟩ (fun v w hq => ?_)
    obtain ⟨rfl, rfl⟩ := hq
    refine ⟨rfl, ?_⟩
    refine x_ws (ws' := [(wn, .inr (5, [.ref go, .ref sp, .ref ia, .ref ka, .ref tq, .ref wh, .ref nm, .ref ra])), (ra, aI G 3 (rfC false rf 1)), (go, goE ga ((n : Nat) : Int) ((d : Nat) : Int) ((c : Nat) : Int)), (ga 0, aI G 36 (gf 0)), (ga 1, aI G 7 (gf 1)), (ga 2, aI G 7 (gf 2)), (ga 3, aI G 7 (gf 3)), (ga 4, aI G 7 (gf 4)), (ga 5, aI G 6 (gf 5)), (ga 6, aI G 6 (gf 6)), (ga 7, aI G 8 (gf 7))]) (rfl) ?_
    refine x_iret rfl ?_ dX6_turned_22
    have hk : kT c call = 1 := by unfold kT; exact if_neg (fun hh => by first | omega | (simp [*] at hh; done) | (obtain ⟨ha, hb, hc, hd⟩ := hh; first | omega | simp_all) | (obtain ⟨ha, hb, hc⟩ := hh; first | omega | simp_all) | (obtain ⟨ha, hb⟩ := hh; first | omega | simp_all))
    exact ⟨by rw [hk] <;> rfl, by rw [hk] <;> rfl⟩

abbrev P_X6_heardOf (G : XG) (go : Nat) (ga : Nat → Nat) (b : Nat → Int) (n : Nat) (d : Nat) (c : Nat) (gf : Nat → Nat → Int) (wn : Nat) (sp : Nat) (ia : Nat) (ka : Nat) (tq : Nat) (wh : Nat) (nm : Nat) (ra : Nat) (rf : Nat → Int) (p : Int) : Option Value → va_W → Prop := fun r ws => r = some (.int (zI (rC (kI n p) ((hrd b p.toNat c : Nat) : Int)))) ∧ ws = [(wn, .inr (5, [.ref go, .ref sp, .ref ia, .ref ka, .ref tq, .ref wh, .ref nm, .ref ra])), (ra, aI G 3 (rfC false rf (kI n p))), (go, goE ga ((n : Nat) : Int) ((d : Nat) : Int) ((c : Nat) : Int)), (ga 0, aI G 36 (gf 0)), (ga 1, aI G 7 (gf 1)), (ga 2, aI G 7 (gf 2)), (ga 3, aI G 7 (gf 3)), (ga 4, aI G 7 (gf 4)), (ga 5, aI G 6 (gf 5)), (ga 6, aI G 6 (gf 6)), (ga 7, aI G 8 (gf 7))]
abbrev W_X6_heardOf (G : XG) (E : XE) (go : Nat) (ga : Nat → Nat) (b : Nat → Int) (n : Nat) (d : Nat) (c : Nat) (gf : Nat → Nat → Int) (wn : Nat) (sp : Nat) (ia : Nat) (ka : Nat) (tq : Nat) (wh : Nat) (nm : Nat) (ra : Nat) (rf : Nat → Int) (p : Int) (pc : Nat) (lv : List (Nat × Value)) (st : List Value) (ws : va_W) : Prop := Wx G E (rmL 2) cX6_heardOf 4 RX6 wsX6_heardOf (some .int) "heardOf" 0 0 (P_X6_heardOf G go ga b n d c gf wn sp ia ka tq wh nm ra rf p) 0 0 pc lv st ws
theorem flX6_heardOf_10 : Cond.fieldLink RX6 10 (TX6 0).1 (TX6 0).2.1 (TX6 0).2.2.1 ∈ wsX6_heardOf := by decide +kernel
theorem flX6_heardOf_119 : Cond.fieldLink RX6 119 (TX0 2).1 (TX0 2).2.1 (TX0 2).2.2.1 ∈ wsX6_heardOf := by decide +kernel
theorem flX6_heardOf_122 : Cond.fieldLink RX6 122 (TX0 10).1 (TX0 10).2.1 (TX0 10).2.2.1 ∈ wsX6_heardOf := by decide +kernel
theorem inX6_heardOf_X0 : ∀ w ∈ u_ws RX0 TX0 11, w ∈ wsX6_heardOf := fun _ h => List.mem_cons_of_mem _ (List.mem_append_right _ h)
theorem inX6_heardOf_X6 : ∀ w ∈ u_ws RX6 TX6 8, w ∈ wsX6_heardOf := fun _ h => List.mem_cons_of_mem _ (List.mem_append_left _ (List.mem_append_right _ h))
set_option maxHeartbeats 4000000 in
set_option maxRecDepth 100000 in
/-- heardOf -/
theorem c_X6_heardOf (G : XG) (go : Nat) (ga : Nat → Nat) (b : Nat → Int) (n d c : Nat) (gf : Nat → Nat → Int) (I : Inv b n d c) (R : GR b n d c gf) (wn sp ia ka tq wh nm ra : Nat) (rf : Nat → Int) (p : Int) (h1 : Z32 p) : Con G yX6_heardOf wsX6_heardOf (rmL 2) 0 0 [.ref wn, .int (zI p)] ([(wn, .inr (5, [.ref go, .ref sp, .ref ia, .ref ka, .ref tq, .ref wh, .ref nm, .ref ra])), (ra, aI G 3 rf), (go, goE ga ((n : Nat) : Int) ((d : Nat) : Int) ((c : Nat) : Int)), (ga 0, aI G 36 (gf 0)), (ga 1, aI G 7 (gf 1)), (ga 2, aI G 7 (gf 2)), (ga 3, aI G 7 (gf 3)), (ga 4, aI G 7 (gf 4)), (ga 5, aI G 6 (gf 5)), (ga 6, aI G 6 (gf 6)), (ga 7, aI G 8 (gf 7))]) (P_X6_heardOf G go ga b n d c gf wn sp ia ka tq wh nm ra rf p) := by
  refine x_start (cc := cX6_heardOf) (nL := 4) (ret := (some .int)) (by decide) rfl (Nat.le_of_ble_eq_true rfl) (fun E => ?_)
  show W_X6_heardOf G E go ga b n d c gf wn sp ia ka tq wh nm ra rf p 0 [(0, .ref wn), (1, .int (zI p))] [] ([(wn, .inr (5, [.ref go, .ref sp, .ref ia, .ref ka, .ref tq, .ref wh, .ref nm, .ref ra])), (ra, aI G 3 rf), (go, goE ga ((n : Nat) : Int) ((d : Nat) : Int) ((c : Nat) : Int)), (ga 0, aI G 36 (gf 0)), (ga 1, aI G 7 (gf 1)), (ga 2, aI G 7 (gf 2)), (ga 3, aI G 7 (gf 3)), (ga 4, aI G 7 (gf 4)), (ga 5, aI G 6 (gf 5)), (ga 6, aI G 6 (gf 6)), (ga 7, aI G 8 (gf 7))])
  have hn7 := I.n7
  have hd6 := I.d6
  have hc8 := I.c8
  refine x_aload_n 1 rfl dX6_heardOf_0 0 rfl ?_
  refine x_get 4 rfl (v := .ref go) 0 0 rfl rfl (by decide) inX6_heardOf_X6 flX6_heardOf_10 rfl dX6_heardOf_1 ?_
  refine x_iload_n 5 rfl dX6_heardOf_4 1 rfl ?_
  refine x_callV 8 rfl (c_X0_isPerson G go ga b n d c gf I R p (by omega)) [2, 3, 4, 5, 6, 7, 8, 9, 10] rfl (by decide) 2 rfl rfl gX6_heardOf_X0_isPerson rfl rfl rfl hd_X0_isPerson ⟨Nat.le_of_ble_eq_true rfl, Nat.le_of_ble_eq_true rfl⟩ (As := [.int (zI p)]) (rest := []) rfl rfl (Nat.le_of_ble_eq_true rfl) dX6_heardOf_5 ⟨Nat.zero_le _, Nat.zero_le _⟩ (fun v w hq => ?_)
  obtain ⟨rfl, rfl⟩ := hq
  refine ⟨rfl, ?_⟩
  refine x_ws (ws' := [(wn, .inr (5, [.ref go, .ref sp, .ref ia, .ref ka, .ref tq, .ref wh, .ref nm, .ref ra])), (ra, aI G 3 rf), (go, goE ga ((n : Nat) : Int) ((d : Nat) : Int) ((c : Nat) : Int)), (ga 0, aI G 36 (gf 0)), (ga 1, aI G 7 (gf 1)), (ga 2, aI G 7 (gf 2)), (ga 3, aI G 7 (gf 3)), (ga 4, aI G 7 (gf 4)), (ga 5, aI G 6 (gf 5)), (ga 6, aI G 6 (gf 6)), (ga 7, aI G 8 (gf 7))]) (rfl) ?_
  refine x_bif_ne 11 rfl (tgt := 20) dX6_heardOf_8 (by decide) (fun h8 => ?_) (fun h8 => ?_)
  · have h8 := of_decide_eq_true h8
    obtain ⟨p, rfl⟩ : ∃ zk : Nat, p = (zk : Int) := ⟨Int.toNat p, by omega⟩
    refine x_iconst 21 rfl dX6_heardOf_20 (z := 0) (by decide) ?_
    refine x_istore_n 22 rfl (lv' := [(2, .int (zI 0)), (0, .ref wn), (1, .int (zI ((p : Nat) : Int)))]) dX6_heardOf_21 (by decide) rfl ?_
    refine x_iconst 23 rfl dX6_heardOf_22 (z := 0) (by decide) ?_
    refine x_istore_n 24 rfl (lv' := [(3, .int (zI 0)), (2, .int (zI 0)), (0, .ref wn), (1, .int (zI ((p : Nat) : Int)))]) dX6_heardOf_23 (by decide) rfl ?_
    have L24 : ∀ (fz24 : Nat) (k : Nat) (hk0 : k ≤ c) (hr : hrd b p k ≤ k), c - k < fz24 → W_X6_heardOf G E go ga b n d c gf wn sp ia ka tq wh nm ra rf p 24 [(0, .ref wn), (1, .int (zI ((p : Nat) : Int))), (2, .int (zI ((hrd b p k : Nat) : Int))), (3, .int (zI ((k : Nat) : Int)))] [] ([(wn, .inr (5, [.ref go, .ref sp, .ref ia, .ref ka, .ref tq, .ref wh, .ref nm, .ref ra])), (ra, aI G 3 rf), (go, goE ga ((n : Nat) : Int) ((d : Nat) : Int) ((c : Nat) : Int)), (ga 0, aI G 36 (gf 0)), (ga 1, aI G 7 (gf 1)), (ga 2, aI G 7 (gf 2)), (ga 3, aI G 7 (gf 3)), (ga 4, aI G 7 (gf 4)), (ga 5, aI G 6 (gf 5)), (ga 6, aI G 6 (gf 6)), (ga 7, aI G 8 (gf 7))]) := by
      intro fz24
      induction fz24 with
      | zero => intro k hk0 hr hf24; exact absurd hf24 (Nat.not_lt_zero _)
      | succ fz24 ih24 =>
        intro k hk0 hr hf24
        refine x_iload_n 25 rfl dX6_heardOf_24 3 rfl ?_
        refine x_aload_n 26 rfl dX6_heardOf_25 0 rfl ?_
        refine x_get 29 rfl (v := .ref go) 0 0 rfl rfl (by decide) inX6_heardOf_X6 flX6_heardOf_10 rfl dX6_heardOf_26 ?_
        refine x_get 32 rfl (v := .int (zI ((c : Nat) : Int))) 2 2 rfl rfl (by decide) inX6_heardOf_X0 flX6_heardOf_119 rfl dX6_heardOf_29 ?_
        refine x_icmp_ge 35 rfl (tgt := 57) dX6_heardOf_32 (by decide) (by omega) (by omega) (fun h32 => ?_) (fun h32 => ?_)
        · skip
          refine x_iload_n 58 rfl dX6_heardOf_57 2 rfl ?_
          refine x_iret rfl ?_ dX6_heardOf_58
          have hk : kI n p = 0 := by unfold kI; exact if_pos (by omega)
          have e : k = c := by omega
          exact ⟨by rw [hk, e] <;> rfl, by rw [hk] <;> rfl⟩
        · skip
          have hb := I.cc (k := k) (by omega)
          have hz : b (58 + k) = (((b (58 + k)).toNat : Nat) : Int) := by omega
          obtain ⟨u, hu⟩ : ∃ u, u = (b (58 + k)).toNat / 2 ^ p := ⟨_, rfl⟩
          have hu2 : u ≤ (b (58 + k)).toNat := by rw [hu]; exact Nat.div_le_self _ _
          refine x_iload_n 36 rfl dX6_heardOf_35 2 rfl ?_
          refine x_aload_n 37 rfl dX6_heardOf_36 0 rfl ?_
          refine x_get 40 rfl (v := .ref go) 0 0 rfl rfl (by decide) inX6_heardOf_X6 flX6_heardOf_10 rfl dX6_heardOf_37 ?_
          refine x_get 43 rfl (v := .ref (ga 7)) 2 10 rfl rfl (by decide) inX6_heardOf_X0 flX6_heardOf_122 rfl dX6_heardOf_40 ?_
          refine x_iload_n 44 rfl dX6_heardOf_43 3 rfl ?_
          refine x_iald 45 rfl 10 k rfl (⟨by omega, by omega⟩) (by decide) (v := (((b (58 + k)).toNat : Nat) : Int)) ((R.2.2.2 k (by omega)).trans hz) dX6_heardOf_44 ?_
          refine x_iload_n 46 rfl dX6_heardOf_45 1 rfl ?_
          refine x_ishr 47 rfl dX6_heardOf_46 (z := (((b (58 + k)).toNat / 2 ^ p : Nat) : Int)) (zI_shr (t := (b (58 + k)).toNat) (i := p) (by omega) (by omega)) ?_
          refine x_iconst 48 rfl dX6_heardOf_47 (z := 1) (by decide) ?_
          refine x_iand 49 rfl dX6_heardOf_48 (z := (((b (58 + k)).toNat / 2 ^ p % 2 : Nat) : Int)) (zI_and1 (t := (b (58 + k)).toNat / 2 ^ p) (by omega)) ?_
          refine x_iadd 50 rfl dX6_heardOf_49 (z := ((hrd b p k + (b (58 + k)).toNat / 2 ^ p % 2 : Nat) : Int)) (rfl) ?_
          refine x_istore_n 51 rfl (lv' := [(2, .int (zI ((hrd b p k + (b (58 + k)).toNat / 2 ^ p % 2 : Nat) : Int))), (0, .ref wn), (1, .int (zI ((p : Nat) : Int))), (3, .int (zI ((k : Nat) : Int)))]) dX6_heardOf_50 (by decide) rfl ?_
          refine x_iinc 54 rfl (lv' := [(3, .int (zI ((k + 1 : Nat) : Int))), (2, .int (zI ((hrd b p k + (b (58 + k)).toNat / 2 ^ p % 2 : Nat) : Int))), (0, .ref wn), (1, .int (zI ((p : Nat) : Int)))]) dX6_heardOf_51 3 rfl (b := ((k + 1 : Nat) : Int)) (by omega) (by decide) rfl ?_
          refine x_goto dX6_heardOf_54 (tgt := 24) (by decide) ?_
          refine x_lve (congrArg (fun zz : Int => ([(3, .int (zI ((k + 1 : Nat) : Int))), (2, .int (zI zz)), (0, .ref wn), (1, .int (zI ((p : Nat) : Int)))] : List (Nat × Value))) (rfl : ((hrd b p k + (b (58 + k)).toNat / 2 ^ p % 2 : Nat) : Int) = ((hrd b p (k + 1) : Nat) : Int))) ?_
          refine x_lv [2, 3, 1, 0] rfl ?_
          exact ih24 (k + 1) (by omega) (by show hrd b p k + (b (58 + k)).toNat / 2 ^ p % 2 ≤ k + 1; omega) (by omega)
    refine x_lve (congrArg (fun zz : Int => ([(3, .int (zI 0)), (2, .int (zI zz)), (0, .ref wn), (1, .int (zI ((p : Nat) : Int)))] : List (Nat × Value))) (rfl : 0 = ((hrd b p 0 : Nat) : Int))) ?_
    refine x_lv [2, 3, 1, 0] rfl ?_
    exact L24 _ 0 (by omega) (Nat.le_refl 0) (Nat.lt_succ_self _)
  · have h8 := of_decide_eq_false h8
    refine x_aload_n 12 rfl dX6_heardOf_11 0 rfl ?_
    refine x_bipush 14 rfl dX6_heardOf_12 (z := (-2)) (by decide) ?_
    refine x_bipush 16 rfl dX6_heardOf_14 (z := (-2)) (by decide) ?_
    refine x_callV 19 rfl (c_X6_refuse G wn go sp ia ka tq wh nm ra rf 1 (-2) (-2) (by decide) (by decide) (by decide)) [0, 1] rfl (by decide) 0 rfl rfl gX6_heardOf_X6_refuse rfl rfl rfl hd_X6_refuse ⟨Nat.le_of_ble_eq_true rfl, Nat.le_of_ble_eq_true rfl⟩ (As := [.int (zI (-2)), .int (zI (-2))]) (rest := []) rfl rfl (Nat.le_of_ble_eq_true rfl) dX6_heardOf_16 ⟨Nat.zero_le _, Nat.zero_le _⟩ (fun v w hq => ?_)
    obtain ⟨rfl, rfl⟩ := hq
    refine ⟨rfl, ?_⟩
    refine x_ws (ws' := [(wn, .inr (5, [.ref go, .ref sp, .ref ia, .ref ka, .ref tq, .ref wh, .ref nm, .ref ra])), (ra, aI G 3 (rfC false rf 1)), (go, goE ga ((n : Nat) : Int) ((d : Nat) : Int) ((c : Nat) : Int)), (ga 0, aI G 36 (gf 0)), (ga 1, aI G 7 (gf 1)), (ga 2, aI G 7 (gf 2)), (ga 3, aI G 7 (gf 3)), (ga 4, aI G 7 (gf 4)), (ga 5, aI G 6 (gf 5)), (ga 6, aI G 6 (gf 6)), (ga 7, aI G 8 (gf 7))]) (rfl) ?_
    refine x_iret rfl ?_ dX6_heardOf_19
    have hk : kI n p = 1 := by unfold kI; exact if_neg (fun hh => by first | omega | (simp [*] at hh; done) | (obtain ⟨ha, hb, hc, hd⟩ := hh; first | omega | simp_all) | (obtain ⟨ha, hb, hc⟩ := hh; first | omega | simp_all) | (obtain ⟨ha, hb⟩ := hh; first | omega | simp_all))
    exact ⟨by rw [hk] <;> rfl, by rw [hk] <;> rfl⟩

abbrev P_X6_undo (G : XG) (go : Nat) (ga : Nat → Nat) (b : Nat → Int) (n : Nat) (d : Nat) (c : Nat) (gf : Nat → Nat → Int) (wn : Nat) (sp : Nat) (ia : Nat) (ka : Nat) (tq : Nat) (wh : Nat) (nm : Nat) (ra : Nat) (rf : Nat → Int) : Option Value → va_W → Prop := fun r ws => ∃ n' d' c' : Nat, ∃ gf' : Nat → Nat → Int, r = some (.int (zI (rC (kU c) ((c - 1 : Nat) : Int)))) ∧ ws = [(wn, .inr (5, [.ref go, .ref sp, .ref ia, .ref ka, .ref tq, .ref wh, .ref nm, .ref ra])), (ra, aI G 3 (rfC false rf (kU c))), (go, goE ga ((n' : Nat) : Int) ((d' : Nat) : Int) ((c' : Nat) : Int)), (ga 0, aI G 36 (gf' 0)), (ga 1, aI G 7 (gf' 1)), (ga 2, aI G 7 (gf' 2)), (ga 3, aI G 7 (gf' 3)), (ga 4, aI G 7 (gf' 4)), (ga 5, aI G 6 (gf' 5)), (ga 6, aI G 6 (gf' 6)), (ga 7, aI G 8 (gf' 7))] ∧ Inv (bU b c) n' d' c' ∧ GR (bU b c) n' d' c' gf'
abbrev W_X6_undo (G : XG) (E : XE) (go : Nat) (ga : Nat → Nat) (b : Nat → Int) (n : Nat) (d : Nat) (c : Nat) (gf : Nat → Nat → Int) (wn : Nat) (sp : Nat) (ia : Nat) (ka : Nat) (tq : Nat) (wh : Nat) (nm : Nat) (ra : Nat) (rf : Nat → Int) (pc : Nat) (lv : List (Nat × Value)) (st : List Value) (ws : va_W) : Prop := Wx G E (rmL 1) cX6_undo 1 RX6 wsX6_undo (some .int) "undo" 0 0 (P_X6_undo G go ga b n d c gf wn sp ia ka tq wh nm ra rf) 0 0 pc lv st ws
theorem flX6_undo_10 : Cond.fieldLink RX6 10 (TX6 0).1 (TX6 0).2.1 (TX6 0).2.2.1 ∈ wsX6_undo := by decide +kernel
theorem flX6_undo_119 : Cond.fieldLink RX6 119 (TX0 2).1 (TX0 2).2.1 (TX0 2).2.2.1 ∈ wsX6_undo := by decide +kernel
theorem inX6_undo_X0 : ∀ w ∈ u_ws RX0 TX0 11, w ∈ wsX6_undo := fun _ h => List.mem_cons_of_mem _ (List.mem_append_right _ h)
theorem inX6_undo_X6 : ∀ w ∈ u_ws RX6 TX6 8, w ∈ wsX6_undo := fun _ h => List.mem_cons_of_mem _ (List.mem_append_left _ (List.mem_append_right _ h))
set_option maxHeartbeats 4000000 in
set_option maxRecDepth 100000 in
/-- undo -/
theorem c_X6_undo (G : XG) (go : Nat) (ga : Nat → Nat) (b : Nat → Int) (n d c : Nat) (gf : Nat → Nat → Int) (I : Inv b n d c) (R : GR b n d c gf) (wn sp ia ka tq wh nm ra : Nat) (rf : Nat → Int)  : Con G yX6_undo wsX6_undo (rmL 1) 0 0 [.ref wn] ([(wn, .inr (5, [.ref go, .ref sp, .ref ia, .ref ka, .ref tq, .ref wh, .ref nm, .ref ra])), (ra, aI G 3 rf), (go, goE ga ((n : Nat) : Int) ((d : Nat) : Int) ((c : Nat) : Int)), (ga 0, aI G 36 (gf 0)), (ga 1, aI G 7 (gf 1)), (ga 2, aI G 7 (gf 2)), (ga 3, aI G 7 (gf 3)), (ga 4, aI G 7 (gf 4)), (ga 5, aI G 6 (gf 5)), (ga 6, aI G 6 (gf 6)), (ga 7, aI G 8 (gf 7))]) (P_X6_undo G go ga b n d c gf wn sp ia ka tq wh nm ra rf) := by
  refine x_start (cc := cX6_undo) (nL := 1) (ret := (some .int)) (by decide) rfl (Nat.le_of_ble_eq_true rfl) (fun E => ?_)
  show W_X6_undo G E go ga b n d c gf wn sp ia ka tq wh nm ra rf 0 [(0, .ref wn)] [] ([(wn, .inr (5, [.ref go, .ref sp, .ref ia, .ref ka, .ref tq, .ref wh, .ref nm, .ref ra])), (ra, aI G 3 rf), (go, goE ga ((n : Nat) : Int) ((d : Nat) : Int) ((c : Nat) : Int)), (ga 0, aI G 36 (gf 0)), (ga 1, aI G 7 (gf 1)), (ga 2, aI G 7 (gf 2)), (ga 3, aI G 7 (gf 3)), (ga 4, aI G 7 (gf 4)), (ga 5, aI G 6 (gf 5)), (ga 6, aI G 6 (gf 6)), (ga 7, aI G 8 (gf 7))])
  have hn7 := I.n7
  have hd6 := I.d6
  have hc8 := I.c8
  refine x_aload_n 1 rfl dX6_undo_0 0 rfl ?_
  refine x_get 4 rfl (v := .ref go) 0 0 rfl rfl (by decide) inX6_undo_X6 flX6_undo_10 rfl dX6_undo_1 ?_
  refine x_get 7 rfl (v := .int (zI ((c : Nat) : Int))) 2 2 rfl rfl (by decide) inX6_undo_X0 flX6_undo_119 rfl dX6_undo_4 ?_
  refine x_iconst 8 rfl dX6_undo_7 (z := 1) (by decide) ?_
  refine x_icmp_ge 11 rfl (tgt := 20) dX6_undo_8 (by decide) (by omega) (by decide) (fun h8 => ?_) (fun h8 => ?_)
  · skip
    refine x_aload_n 21 rfl dX6_undo_20 0 rfl ?_
    refine x_get 24 rfl (v := .ref go) 0 0 rfl rfl (by decide) inX6_undo_X6 flX6_undo_10 rfl dX6_undo_21 ?_
    refine x_dup 25 rfl dX6_undo_24 rfl ?_
    refine x_get 28 rfl (v := .int (zI ((c : Nat) : Int))) 2 2 rfl rfl (by decide) inX6_undo_X0 flX6_undo_119 rfl dX6_undo_25 ?_
    refine x_iconst 29 rfl dX6_undo_28 (z := 1) (by decide) ?_
    refine x_isub 30 rfl dX6_undo_29 (z := ((c - 1 : Nat) : Int)) (by omega) ?_
    refine x_put 33 rfl 2 2 rfl rfl (by decide) inX6_undo_X0 flX6_undo_119 tyX0_ok nmX0 rfl rfl rfl rfl (Nat.le_of_ble_eq_true rfl) (ws' := [(wn, .inr (5, [.ref go, .ref sp, .ref ia, .ref ka, .ref tq, .ref wh, .ref nm, .ref ra])), (ra, aI G 3 rf), (go, goE ga ((n : Nat) : Int) ((d : Nat) : Int) ((c - 1 : Nat) : Int)), (ga 0, aI G 36 (gf 0)), (ga 1, aI G 7 (gf 1)), (ga 2, aI G 7 (gf 2)), (ga 3, aI G 7 (gf 3)), (ga 4, aI G 7 (gf 4)), (ga 5, aI G 6 (gf 5)), (ga 6, aI G 6 (gf 6)), (ga 7, aI G 8 (gf 7))]) rfl dX6_undo_30 ?_
    refine x_aload_n 34 rfl dX6_undo_33 0 rfl ?_
    refine x_get 37 rfl (v := .ref go) 0 0 rfl rfl (by decide) inX6_undo_X6 flX6_undo_10 rfl dX6_undo_34 ?_
    refine x_get 40 rfl (v := .int (zI ((c - 1 : Nat) : Int))) 2 2 rfl rfl (by decide) inX6_undo_X0 flX6_undo_119 rfl dX6_undo_37 ?_
    refine x_iret rfl ?_ dX6_undo_40
    have hk : kU c = 0 := by unfold kU; exact if_neg (by omega)
    exact ⟨_, _, _, gf, by rw [hk] <;> rfl, by rw [hk] <;> rfl, by unfold bU; rw [hk]; exact Inv_undo I (by omega), by unfold bU; rw [hk]; exact GR_undo R I (by omega) _⟩
  · skip
    refine x_aload_n 12 rfl dX6_undo_11 0 rfl ?_
    refine x_bipush 14 rfl dX6_undo_12 (z := (-3)) (by decide) ?_
    refine x_bipush 16 rfl dX6_undo_14 (z := (-3)) (by decide) ?_
    refine x_callV 19 rfl (c_X6_refuse G wn go sp ia ka tq wh nm ra rf 2 (-3) (-3) (by decide) (by decide) (by decide)) [0, 1] rfl (by decide) 0 rfl rfl gX6_undo_X6_refuse rfl rfl rfl hd_X6_refuse ⟨Nat.le_of_ble_eq_true rfl, Nat.le_of_ble_eq_true rfl⟩ (As := [.int (zI (-3)), .int (zI (-3))]) (rest := []) rfl rfl (Nat.le_of_ble_eq_true rfl) dX6_undo_16 ⟨Nat.zero_le _, Nat.zero_le _⟩ (fun v w hq => ?_)
    obtain ⟨rfl, rfl⟩ := hq
    refine ⟨rfl, ?_⟩
    refine x_ws (ws' := [(wn, .inr (5, [.ref go, .ref sp, .ref ia, .ref ka, .ref tq, .ref wh, .ref nm, .ref ra])), (ra, aI G 3 (rfC false rf 2)), (go, goE ga ((n : Nat) : Int) ((d : Nat) : Int) ((c : Nat) : Int)), (ga 0, aI G 36 (gf 0)), (ga 1, aI G 7 (gf 1)), (ga 2, aI G 7 (gf 2)), (ga 3, aI G 7 (gf 3)), (ga 4, aI G 7 (gf 4)), (ga 5, aI G 6 (gf 5)), (ga 6, aI G 6 (gf 6)), (ga 7, aI G 8 (gf 7))]) (rfl) ?_
    refine x_iret rfl ?_ dX6_undo_19
    have hk : kU c = 2 := by unfold kU; exact if_pos (by omega)
    exact ⟨_, _, _, _, by rw [hk] <;> rfl, by rw [hk] <;> rfl, by unfold bU; rw [hk]; exact I, by unfold bU; rw [hk]; exact R⟩

