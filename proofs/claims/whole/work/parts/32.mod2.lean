theorem hd_X7_refuses : yX7_refuses.cls = RX7 ∧ yX7_refuses.cls ≠ "java/lang/invoke/MethodHandle" ∧ yX7_refuses.cls ≠ "java/lang/invoke/VarHandle" ∧ (parseMethodDescriptor yX7_refuses.desc).map (fun d => d.parameters.length) = some 2 := by decide +kernel
theorem hd_X7_bad : yX7_bad.cls = RX7 ∧ yX7_bad.cls ≠ "java/lang/invoke/MethodHandle" ∧ yX7_bad.cls ≠ "java/lang/invoke/VarHandle" ∧ (parseMethodDescriptor yX7_bad.desc).map (fun d => d.parameters.length) = some 0 := by decide +kernel
theorem hd_X7_no : yX7_no.cls = RX7 ∧ yX7_no.cls ≠ "java/lang/invoke/MethodHandle" ∧ yX7_no.cls ≠ "java/lang/invoke/VarHandle" ∧ (parseMethodDescriptor yX7_no.desc).map (fun d => d.parameters.length) = some 0 := by decide +kernel
theorem hd_X7_full : yX7_full.cls = RX7 ∧ yX7_full.cls ≠ "java/lang/invoke/MethodHandle" ∧ yX7_full.cls ≠ "java/lang/invoke/VarHandle" ∧ (parseMethodDescriptor yX7_full.desc).map (fun d => d.parameters.length) = some 0 := by decide +kernel
theorem hd_X7_empties : yX7_empties.cls = RX7 ∧ yX7_empties.cls ≠ "java/lang/invoke/MethodHandle" ∧ yX7_empties.cls ≠ "java/lang/invoke/VarHandle" ∧ (parseMethodDescriptor yX7_empties.desc).map (fun d => d.parameters.length) = some 0 := by decide +kernel
theorem hd_X7_isOne : yX7_isOne.cls = RX7 ∧ yX7_isOne.cls ≠ "java/lang/invoke/MethodHandle" ∧ yX7_isOne.cls ≠ "java/lang/invoke/VarHandle" ∧ (parseMethodDescriptor yX7_isOne.desc).map (fun d => d.parameters.length) = some 1 := by decide +kernel
theorem hd_X7_upTo : yX7_upTo.cls = RX7 ∧ yX7_upTo.cls ≠ "java/lang/invoke/MethodHandle" ∧ yX7_upTo.cls ≠ "java/lang/invoke/VarHandle" ∧ (parseMethodDescriptor yX7_upTo.desc).map (fun d => d.parameters.length) = some 2 := by decide +kernel
theorem hd_X7_of : yX7_of.cls = RX7 ∧ yX7_of.cls ≠ "java/lang/invoke/MethodHandle" ∧ yX7_of.cls ≠ "java/lang/invoke/VarHandle" ∧ (parseMethodDescriptor yX7_of.desc).map (fun d => d.parameters.length) = some 2 := by decide +kernel
theorem hd_X7_called : yX7_called.cls = RX7 ∧ yX7_called.cls ≠ "java/lang/invoke/MethodHandle" ∧ yX7_called.cls ≠ "java/lang/invoke/VarHandle" ∧ (parseMethodDescriptor yX7_called.desc).map (fun d => d.parameters.length) = some 3 := by decide +kernel
theorem hd_X7_windOf : yX7_windOf.cls = RX7 ∧ yX7_windOf.cls ≠ "java/lang/invoke/MethodHandle" ∧ yX7_windOf.cls ≠ "java/lang/invoke/VarHandle" ∧ (parseMethodDescriptor yX7_windOf.desc).map (fun d => d.parameters.length) = some 2 := by decide +kernel
theorem hd_X7_takenBy : yX7_takenBy.cls = RX7 ∧ yX7_takenBy.cls ≠ "java/lang/invoke/MethodHandle" ∧ yX7_takenBy.cls ≠ "java/lang/invoke/VarHandle" ∧ (parseMethodDescriptor yX7_takenBy.desc).map (fun d => d.parameters.length) = some 4 := by decide +kernel
theorem hd_X7_clashes : yX7_clashes.cls = RX7 ∧ yX7_clashes.cls ≠ "java/lang/invoke/MethodHandle" ∧ yX7_clashes.cls ≠ "java/lang/invoke/VarHandle" ∧ (parseMethodDescriptor yX7_clashes.desc).map (fun d => d.parameters.length) = some 4 := by decide +kernel
abbrev P_X7_refuses (G : XG) (mo : Nat) (ad : Nat → Nat) (qt : Bool) (sc : Nat → Int) (rf : Nat → Int) (k : Nat) (v : Int) : Option Value → va_W → Prop := fun r w => r = some (.int (zI v)) ∧ w = [(mo, moE ad qt sc), (ad 4, aI G 3 (rfU qt rf k))]
abbrev W_X7_refuses (G : XG) (E : XE) (mo : Nat) (ad : Nat → Nat) (qt : Bool) (sc : Nat → Int) (rf : Nat → Int) (k : Nat) (v : Int) (pc : Nat) (lv : List (Nat × Value)) (st : List Value) (ws : va_W) : Prop := Wx G E (rmL 0) cX7_refuses 3 RX7 wsX7_refuses (some .int) "refuses" 0 0 (P_X7_refuses G mo ad qt sc rf k v) 0 0 pc lv st ws
theorem flX7_refuses_23 : Cond.fieldLink RX7 23 (TX7 4).1 (TX7 4).2.1 (TX7 4).2.2.1 ∈ wsX7_refuses := by decide +kernel
theorem flX7_refuses_47 : Cond.fieldLink RX7 47 (TX7 5).1 (TX7 5).2.1 (TX7 5).2.2.1 ∈ wsX7_refuses := by decide +kernel
theorem inX7_refuses_X7 : ∀ w ∈ u_ws RX7 TX7 18, w ∈ wsX7_refuses := fun _ h => List.mem_cons_of_mem _ (List.mem_append_right _ h)
set_option maxHeartbeats 4000000 in
set_option maxRecDepth 100000 in
/-- refuses -/
theorem c_X7_refuses (G : XG) (mo : Nat) (ad : Nat → Nat) (qt : Bool) (sc : Nat → Int) (rf : Nat → Int) (k : Nat) (v : Int) (hk : k < 3) : Con G yX7_refuses wsX7_refuses (rmL 0) 0 0 [.ref mo, .int (zI ((k : Nat) : Int)), .int (zI v)] ([(mo, moE ad qt sc), (ad 4, aI G 3 rf)]) (P_X7_refuses G mo ad qt sc rf k v) := by
  refine x_start (cc := cX7_refuses) (nL := 3) (ret := (some .int)) (by decide) rfl (Nat.le_of_ble_eq_true rfl) (fun E => ?_)
  show W_X7_refuses G E mo ad qt sc rf k v 0 [(0, .ref mo), (1, .int (zI ((k : Nat) : Int))), (2, .int (zI v))] [] ([(mo, moE ad qt sc), (ad 4, aI G 3 rf)])
  refine x_aload_n 1 rfl dX7_refuses_0 0 rfl ?_
  refine x_get 4 rfl (v := .ref (ad 4)) 0 4 rfl rfl (by decide) inX7_refuses_X7 flX7_refuses_23 rfl dX7_refuses_1 ?_
  refine x_iload_n 5 rfl dX7_refuses_4 1 rfl ?_
  refine x_dup2 6 rfl dX7_refuses_5 rfl rfl ?_
  refine x_iald 7 rfl 1 k rfl (⟨by omega, by omega⟩) (by decide) (v := rf k) (rfl) dX7_refuses_6 ?_
  refine x_aload_n 8 rfl dX7_refuses_7 0 rfl ?_
  refine x_get 11 rfl (v := .int (zB qt)) 0 5 rfl rfl (by decide) inX7_refuses_X7 flX7_refuses_47 rfl dX7_refuses_8 ?_
  refine x_bif_eq 14 rfl (tgt := 18) dX7_refuses_11 (by decide) (fun h11 => ?_) (fun h11 => ?_)
  · skip
    have e : rfU qt rf k = zup rf k (rf k + 1) := by unfold rfU; rw [if_neg (by rw [h11]; decide)]
    refine x_iconst 19 rfl dX7_refuses_18 (z := 1) (by decide) ?_
    refine x_iadd 20 rfl dX7_refuses_19 (z := (rf k) + 1) (rfl) ?_
    refine x_iast 21 rfl 1 k rfl (⟨by omega, by omega⟩) (by decide) (ws' := [(mo, moE ad qt sc), (ad 4, aI G 3 (zup rf k ((rf k) + 1)))]) (rfl) dX7_refuses_20 ?_
    refine x_iload_n 22 rfl dX7_refuses_21 2 rfl ?_
    refine x_iret rfl ?_ dX7_refuses_22
    exact ⟨rfl, by rw [e]⟩
  · skip
    have e : rfU qt rf k = zup rf k (rf k + 0) := by unfold rfU; rw [if_pos h11]
    refine x_iconst 15 rfl dX7_refuses_14 (z := 0) (by decide) ?_
    refine x_goto dX7_refuses_15 (tgt := 19) (by decide) ?_
    refine x_iadd 20 rfl dX7_refuses_19 (z := (rf k) + 0) (rfl) ?_
    refine x_iast 21 rfl 1 k rfl (⟨by omega, by omega⟩) (by decide) (ws' := [(mo, moE ad qt sc), (ad 4, aI G 3 (zup rf k ((rf k) + 0)))]) (rfl) dX7_refuses_20 ?_
    refine x_iload_n 22 rfl dX7_refuses_21 2 rfl ?_
    refine x_iret rfl ?_ dX7_refuses_22
    exact ⟨rfl, by rw [e]⟩

abbrev P_X7_bad (G : XG) (mo : Nat) (ad : Nat → Nat) (qt : Bool) (sc : Nat → Int) (rf : Nat → Int) : Option Value → va_W → Prop := fun r w => r = some (.int (zI (-2))) ∧ w = [(mo, moE ad qt sc), (ad 4, aI G 3 (rfU qt rf 0))]
abbrev W_X7_bad (G : XG) (E : XE) (mo : Nat) (ad : Nat → Nat) (qt : Bool) (sc : Nat → Int) (rf : Nat → Int) (pc : Nat) (lv : List (Nat × Value)) (st : List Value) (ws : va_W) : Prop := Wx G E (rmL 1) cX7_bad 1 RX7 wsX7_bad (some .int) "bad" 0 0 (P_X7_bad G mo ad qt sc rf) 0 0 pc lv st ws
set_option maxHeartbeats 4000000 in
set_option maxRecDepth 100000 in
/-- bad -/
theorem c_X7_bad (G : XG) (mo : Nat) (ad : Nat → Nat) (qt : Bool) (sc : Nat → Int) (rf : Nat → Int) : Con G yX7_bad wsX7_bad (rmL 1) 0 0 [.ref mo] ([(mo, moE ad qt sc), (ad 4, aI G 3 rf)]) (P_X7_bad G mo ad qt sc rf) := by
  refine x_start (cc := cX7_bad) (nL := 1) (ret := (some .int)) (by decide) rfl (Nat.le_of_ble_eq_true rfl) (fun E => ?_)
  show W_X7_bad G E mo ad qt sc rf 0 [(0, .ref mo)] [] ([(mo, moE ad qt sc), (ad 4, aI G 3 rf)])
  refine x_aload_n 1 rfl dX7_bad_0 0 rfl ?_
  refine x_iconst 2 rfl dX7_bad_1 (z := 0) (by decide) ?_
  refine x_bipush 4 rfl dX7_bad_2 (z := (-2)) (by decide) ?_
  refine x_callV 7 rfl (c_X7_refuses G mo ad qt sc rf 0 (-2) (by omega)) [0, 1] rfl (by decide) 0 rfl rfl gX7_bad_X7_refuses rfl rfl rfl hd_X7_refuses ⟨Nat.le_of_ble_eq_true rfl, Nat.le_of_ble_eq_true rfl⟩ (As := [.int (zI 0), .int (zI (-2))]) (rest := []) rfl rfl (Nat.le_of_ble_eq_true rfl) dX7_bad_4 ⟨Nat.zero_le _, Nat.zero_le _⟩ (fun v w hq => ?_)
  obtain ⟨rfl, rfl⟩ := hq
  refine ⟨rfl, ?_⟩
  refine x_ws (ws' := [(mo, moE ad qt sc), (ad 4, aI G 3 (rfU qt rf 0))]) (rfl) ?_
  refine x_iret rfl ?_ dX7_bad_7
  exact ⟨rfl, rfl⟩

abbrev P_X7_no (G : XG) (mo : Nat) (ad : Nat → Nat) (qt : Bool) (sc : Nat → Int) (rf : Nat → Int) : Option Value → va_W → Prop := fun r w => r = some (.int (zI (-3))) ∧ w = [(mo, moE ad qt sc), (ad 4, aI G 3 (rfU qt rf 1))]
abbrev W_X7_no (G : XG) (E : XE) (mo : Nat) (ad : Nat → Nat) (qt : Bool) (sc : Nat → Int) (rf : Nat → Int) (pc : Nat) (lv : List (Nat × Value)) (st : List Value) (ws : va_W) : Prop := Wx G E (rmL 1) cX7_no 1 RX7 wsX7_no (some .int) "no" 0 0 (P_X7_no G mo ad qt sc rf) 0 0 pc lv st ws
set_option maxHeartbeats 4000000 in
set_option maxRecDepth 100000 in
/-- no -/
theorem c_X7_no (G : XG) (mo : Nat) (ad : Nat → Nat) (qt : Bool) (sc : Nat → Int) (rf : Nat → Int) : Con G yX7_no wsX7_no (rmL 1) 0 0 [.ref mo] ([(mo, moE ad qt sc), (ad 4, aI G 3 rf)]) (P_X7_no G mo ad qt sc rf) := by
  refine x_start (cc := cX7_no) (nL := 1) (ret := (some .int)) (by decide) rfl (Nat.le_of_ble_eq_true rfl) (fun E => ?_)
  show W_X7_no G E mo ad qt sc rf 0 [(0, .ref mo)] [] ([(mo, moE ad qt sc), (ad 4, aI G 3 rf)])
  refine x_aload_n 1 rfl dX7_no_0 0 rfl ?_
  refine x_iconst 2 rfl dX7_no_1 (z := 1) (by decide) ?_
  refine x_bipush 4 rfl dX7_no_2 (z := (-3)) (by decide) ?_
  refine x_callV 7 rfl (c_X7_refuses G mo ad qt sc rf 1 (-3) (by omega)) [0, 1] rfl (by decide) 0 rfl rfl gX7_no_X7_refuses rfl rfl rfl hd_X7_refuses ⟨Nat.le_of_ble_eq_true rfl, Nat.le_of_ble_eq_true rfl⟩ (As := [.int (zI 1), .int (zI (-3))]) (rest := []) rfl rfl (Nat.le_of_ble_eq_true rfl) dX7_no_4 ⟨Nat.zero_le _, Nat.zero_le _⟩ (fun v w hq => ?_)
  obtain ⟨rfl, rfl⟩ := hq
  refine ⟨rfl, ?_⟩
  refine x_ws (ws' := [(mo, moE ad qt sc), (ad 4, aI G 3 (rfU qt rf 1))]) (rfl) ?_
  refine x_iret rfl ?_ dX7_no_7
  exact ⟨rfl, rfl⟩

abbrev P_X7_full (G : XG) (mo : Nat) (ad : Nat → Nat) (qt : Bool) (sc : Nat → Int) (rf : Nat → Int) : Option Value → va_W → Prop := fun r w => r = some (.int (zI (-4))) ∧ w = [(mo, moE ad qt sc), (ad 4, aI G 3 (rfU qt rf 2))]
abbrev W_X7_full (G : XG) (E : XE) (mo : Nat) (ad : Nat → Nat) (qt : Bool) (sc : Nat → Int) (rf : Nat → Int) (pc : Nat) (lv : List (Nat × Value)) (st : List Value) (ws : va_W) : Prop := Wx G E (rmL 1) cX7_full 1 RX7 wsX7_full (some .int) "full" 0 0 (P_X7_full G mo ad qt sc rf) 0 0 pc lv st ws
set_option maxHeartbeats 4000000 in
set_option maxRecDepth 100000 in
/-- full -/
theorem c_X7_full (G : XG) (mo : Nat) (ad : Nat → Nat) (qt : Bool) (sc : Nat → Int) (rf : Nat → Int) : Con G yX7_full wsX7_full (rmL 1) 0 0 [.ref mo] ([(mo, moE ad qt sc), (ad 4, aI G 3 rf)]) (P_X7_full G mo ad qt sc rf) := by
  refine x_start (cc := cX7_full) (nL := 1) (ret := (some .int)) (by decide) rfl (Nat.le_of_ble_eq_true rfl) (fun E => ?_)
  show W_X7_full G E mo ad qt sc rf 0 [(0, .ref mo)] [] ([(mo, moE ad qt sc), (ad 4, aI G 3 rf)])
  refine x_aload_n 1 rfl dX7_full_0 0 rfl ?_
  refine x_iconst 2 rfl dX7_full_1 (z := 2) (by decide) ?_
  refine x_bipush 4 rfl dX7_full_2 (z := (-4)) (by decide) ?_
  refine x_callV 7 rfl (c_X7_refuses G mo ad qt sc rf 2 (-4) (by omega)) [0, 1] rfl (by decide) 0 rfl rfl gX7_full_X7_refuses rfl rfl rfl hd_X7_refuses ⟨Nat.le_of_ble_eq_true rfl, Nat.le_of_ble_eq_true rfl⟩ (As := [.int (zI 2), .int (zI (-4))]) (rest := []) rfl rfl (Nat.le_of_ble_eq_true rfl) dX7_full_4 ⟨Nat.zero_le _, Nat.zero_le _⟩ (fun v w hq => ?_)
  obtain ⟨rfl, rfl⟩ := hq
  refine ⟨rfl, ?_⟩
  refine x_ws (ws' := [(mo, moE ad qt sc), (ad 4, aI G 3 (rfU qt rf 2))]) (rfl) ?_
  refine x_iret rfl ?_ dX7_full_7
  exact ⟨rfl, rfl⟩

abbrev P_X7_empties (G : XG) (mo : Nat) (ad : Nat → Nat) (qt : Bool) (sc : Nat → Int) (b : Nat → Int) : Option Value → va_W → Prop := fun r w => r = none ∧ w = [(mo, moE ad qt sc), (ad 0, aI G 66 empB)]
abbrev W_X7_empties (G : XG) (E : XE) (mo : Nat) (ad : Nat → Nat) (qt : Bool) (sc : Nat → Int) (b : Nat → Int) (pc : Nat) (lv : List (Nat × Value)) (st : List Value) (ws : va_W) : Prop := Wx G E (rmL 0) cX7_empties 2 RX7 wsX7_empties none "empties" 0 0 (P_X7_empties G mo ad qt sc b) 0 0 pc lv st ws
theorem flX7_empties_7 : Cond.fieldLink RX7 7 (TX7 0).1 (TX7 0).2.1 (TX7 0).2.2.1 ∈ wsX7_empties := by decide +kernel
theorem inX7_empties_X7 : ∀ w ∈ u_ws RX7 TX7 18, w ∈ wsX7_empties := fun _ h => List.mem_cons_of_mem _ (List.mem_append_right _ h)
set_option maxHeartbeats 4000000 in
set_option maxRecDepth 100000 in
/-- empties -/
theorem c_X7_empties (G : XG) (mo : Nat) (ad : Nat → Nat) (qt : Bool) (sc : Nat → Int) (b : Nat → Int) : Con G yX7_empties wsX7_empties (rmL 0) 0 0 [.ref mo] ([(mo, moE ad qt sc), (ad 0, aI G 66 b)]) (P_X7_empties G mo ad qt sc b) := by
  refine x_start (cc := cX7_empties) (nL := 2) (ret := none) (by decide) rfl (Nat.le_of_ble_eq_true rfl) (fun E => ?_)
  show W_X7_empties G E mo ad qt sc b 0 [(0, .ref mo)] [] ([(mo, moE ad qt sc), (ad 0, aI G 66 b)])
  refine x_iconst 1 rfl dX7_empties_0 (z := 0) (by decide) ?_
  refine x_istore_n 2 rfl (lv' := [(1, .int (zI 0)), (0, .ref mo)]) dX7_empties_1 (by decide) rfl ?_
  have L2 : ∀ (f2 : Nat) (k : Nat) (f : Nat → Int) (hk : k ≤ 66) (hf : ∀ j, j < k → f j = empB j), 66 - k < f2 → W_X7_empties G E mo ad qt sc b 2 [(0, .ref mo), (1, .int (zI ((k : Nat) : Int)))] [] ([(mo, moE ad qt sc), (ad 0, aI G 66 f)]) := by
    intro f2
    induction f2 with
    | zero => intro k f hk hf hf2; exact absurd hf2 (Nat.not_lt_zero _)
    | succ f2 ih2 =>
      intro k f hk hf hf2
      refine x_iload_n 3 rfl dX7_empties_2 1 rfl ?_
      refine x_bipush 5 rfl dX7_empties_3 (z := 66) (by decide) ?_
      refine x_icmp_ge 8 rfl (tgt := 31) dX7_empties_5 (by decide) (by omega) (by decide) (fun h5 => ?_) (fun h5 => ?_)
      · skip
        refine x_arr 1 rfl (fun j hj => hf j (by omega)) (ws' := [(mo, moE ad qt sc), (ad 0, aI G 66 empB)]) rfl ?_
        refine x_vret rfl ?_ dX7_empties_31
        exact ⟨rfl, rfl⟩
      · skip
        refine x_aload_n 9 rfl dX7_empties_8 0 rfl ?_
        refine x_get 12 rfl (v := .ref (ad 0)) 0 0 rfl rfl (by decide) inX7_empties_X7 flX7_empties_7 rfl dX7_empties_9 ?_
        refine x_iload_n 13 rfl dX7_empties_12 1 rfl ?_
        refine x_iload_n 14 rfl dX7_empties_13 1 rfl ?_
        refine x_bipush 16 rfl dX7_empties_14 (z := 15) (by decide) ?_
        refine x_icmp_ge 19 rfl (tgt := 23) dX7_empties_16 (by decide) (by omega) (by decide) (fun h16 => ?_) (fun h16 => ?_)
        · skip
          refine x_iconst 24 rfl dX7_empties_23 (z := 0) (by decide) ?_
          refine x_iast 25 rfl 1 k rfl (⟨by omega, by omega⟩) (by decide) (ws' := [(mo, moE ad qt sc), (ad 0, aI G 66 (zup f k 0))]) (rfl) dX7_empties_24 ?_
          refine x_iinc 28 rfl (lv' := [(1, .int (zI ((k + 1 : Nat) : Int))), (0, .ref mo)]) dX7_empties_25 1 rfl (b := ((k + 1 : Nat) : Int)) (by omega) (by decide) rfl ?_
          refine x_goto dX7_empties_28 (tgt := 2) (by decide) ?_
          refine x_lv [1, 0] rfl ?_
          exact ih2 (k + 1) (zup f k 0) (by omega) (fun j hj => by
              by_cases e : j = k
              · subst e; rw [zup_s]; unfold empB; first | rw [if_pos (by omega)] | rw [if_neg (by omega)]
              · rw [zup_n _ _ e]; exact hf j (by omega)) (by omega)
        · skip
          refine x_iconst 20 rfl dX7_empties_19 (z := (-1)) (by decide) ?_
          refine x_goto dX7_empties_20 (tgt := 24) (by decide) ?_
          refine x_iast 25 rfl 1 k rfl (⟨by omega, by omega⟩) (by decide) (ws' := [(mo, moE ad qt sc), (ad 0, aI G 66 (zup f k (-1)))]) (rfl) dX7_empties_24 ?_
          refine x_iinc 28 rfl (lv' := [(1, .int (zI ((k + 1 : Nat) : Int))), (0, .ref mo)]) dX7_empties_25 1 rfl (b := ((k + 1 : Nat) : Int)) (by omega) (by decide) rfl ?_
          refine x_goto dX7_empties_28 (tgt := 2) (by decide) ?_
          refine x_lv [1, 0] rfl ?_
          exact ih2 (k + 1) (zup f k (-1)) (by omega) (fun j hj => by
              by_cases e : j = k
              · subst e; rw [zup_s]; unfold empB; first | rw [if_pos (by omega)] | rw [if_neg (by omega)]
              · rw [zup_n _ _ e]; exact hf j (by omega)) (by omega)
  refine x_lv [1, 0] rfl ?_
  exact L2 _ 0 b (by omega) (fun j hj => absurd hj (Nat.not_lt_zero _)) (Nat.lt_succ_self _)

abbrev P_X7_isOne (G : XG) (mo : Nat) (ad : Nat → Nat) (qt : Bool) (sc : Nat → Int) (b : Nat → Int) (n : Nat) (p : Int) : Option Value → va_W → Prop := fun r w => r = some (.int (zB (decide (0 ≤ p ∧ p < (n : Int))))) ∧ w = [(mo, moE ad qt sc), (ad 0, aI G 66 b)]
abbrev W_X7_isOne (G : XG) (E : XE) (mo : Nat) (ad : Nat → Nat) (qt : Bool) (sc : Nat → Int) (b : Nat → Int) (n : Nat) (p : Int) (pc : Nat) (lv : List (Nat × Value)) (st : List Value) (ws : va_W) : Prop := Wx G E (rmL 1) cX7_isOne 2 RX7 wsX7_isOne (some .boolean) "isOne" 0 0 (P_X7_isOne G mo ad qt sc b n p) 0 0 pc lv st ws
theorem flX7_isOne_7 : Cond.fieldLink RX7 7 (TX7 0).1 (TX7 0).2.1 (TX7 0).2.2.1 ∈ wsX7_isOne := by decide +kernel
theorem inX7_isOne_X7 : ∀ w ∈ u_ws RX7 TX7 18, w ∈ wsX7_isOne := fun _ h => List.mem_cons_of_mem _ (List.mem_append_right _ h)
set_option maxHeartbeats 4000000 in
set_option maxRecDepth 100000 in
/-- isOne -/
theorem c_X7_isOne (G : XG) (mo : Nat) (ad : Nat → Nat) (qt : Bool) (sc : Nat → Int) (b : Nat → Int) (n : Nat) (hn : b 15 = (n : Int)) (hn7 : n ≤ 7) (p : Int) (hp : Z32 p) : Con G yX7_isOne wsX7_isOne (rmL 1) 0 0 [.ref mo, .int (zI p)] ([(mo, moE ad qt sc), (ad 0, aI G 66 b)]) (P_X7_isOne G mo ad qt sc b n p) := by
  refine x_start (cc := cX7_isOne) (nL := 2) (ret := (some .boolean)) (by decide) rfl (Nat.le_of_ble_eq_true rfl) (fun E => ?_)
  show W_X7_isOne G E mo ad qt sc b n p 0 [(0, .ref mo), (1, .int (zI p))] [] ([(mo, moE ad qt sc), (ad 0, aI G 66 b)])
  refine x_iload_n 1 rfl dX7_isOne_0 1 rfl ?_
  refine x_i2l 2 rfl dX7_isOne_1 (z := (zL p)) (zI_i2l (by omega)) ?_
  refine x_lconst 3 rfl dX7_isOne_2 (z := 0) (by decide) ?_
  refine x_aload_n 4 rfl dX7_isOne_3 0 rfl ?_
  refine x_get 7 rfl (v := .ref (ad 0)) 0 0 rfl rfl (by decide) inX7_isOne_X7 flX7_isOne_7 rfl dX7_isOne_4 ?_
  refine x_bipush 9 rfl dX7_isOne_7 (z := 15) (by decide) ?_
  refine x_iald 10 rfl 1 15 rfl (⟨by omega, by omega⟩) (by decide) (v := ((n : Nat) : Int)) (hn) dX7_isOne_9 ?_
  refine x_iconst 11 rfl dX7_isOne_10 (z := 1) (by decide) ?_
  refine x_isub 12 rfl dX7_isOne_11 (z := ((n : Nat) : Int) - 1) (rfl) ?_
  refine x_i2l 13 rfl dX7_isOne_12 (z := (zL (((n : Nat) : Int) - 1))) (zI_i2l (by omega)) ?_
  refine x_callS0 16 rfl (c_X7_in G p 0 (((n : Nat) : Int) - 1) (by omega) (by omega) (by omega)) (fun _ _ h => h.2) gX7_isOne_X7_in rfl rfl rfl hd_X7_in ⟨Nat.le_of_ble_eq_true rfl, Nat.le_of_ble_eq_true rfl⟩ (As := [.long (zL p), .long (zL 0), .long (zL (((n : Nat) : Int) - 1))]) (rest := []) rfl rfl (Nat.le_of_ble_eq_true rfl) dX7_isOne_13 ⟨Nat.zero_le _, Nat.zero_le _⟩ (fun v hq => ?_)
  obtain ⟨rfl, -⟩ := hq
  refine x_int (y := (zB (decide (0 ≤ p ∧ p < (n : Int))))) (congrArg zB (decide_eq_decide.mpr (by omega))) ?_
  refine x_zret rfl ?_ dX7_isOne_16
  exact ⟨rfl, rfl⟩

abbrev P_X7_upTo (G : XG) (mo : Nat) (ad : Nat → Nat) (qt : Bool) (sc : Nat → Int) (b : Nat → Int) (p : Nat) (q : Nat) : Option Value → va_W → Prop := fun r w => r = some (.int (zI (upN b p q))) ∧ w = [(mo, moE ad qt sc), (ad 0, aI G 66 b)]
abbrev W_X7_upTo (G : XG) (E : XE) (mo : Nat) (ad : Nat → Nat) (qt : Bool) (sc : Nat → Int) (b : Nat → Int) (p : Nat) (q : Nat) (pc : Nat) (lv : List (Nat × Value)) (st : List Value) (ws : va_W) : Prop := Wx G E (rmL 0) cX7_upTo 3 RX7 wsX7_upTo (some .int) "upTo" 0 0 (P_X7_upTo G mo ad qt sc b p q) 0 0 pc lv st ws
theorem flX7_upTo_7 : Cond.fieldLink RX7 7 (TX7 0).1 (TX7 0).2.1 (TX7 0).2.2.1 ∈ wsX7_upTo := by decide +kernel
theorem inX7_upTo_X7 : ∀ w ∈ u_ws RX7 TX7 18, w ∈ wsX7_upTo := fun _ h => List.mem_cons_of_mem _ (List.mem_append_right _ h)
set_option maxHeartbeats 4000000 in
set_option maxRecDepth 100000 in
/-- upTo -/
theorem c_X7_upTo (G : XG) (mo : Nat) (ad : Nat → Nat) (qt : Bool) (sc : Nat → Int) (b : Nat → Int) (p q : Nat) (hp : p < 6) (hq : q < 6) : Con G yX7_upTo wsX7_upTo (rmL 0) 0 0 [.ref mo, .int (zI ((p : Nat) : Int)), .int (zI ((q : Nat) : Int))] ([(mo, moE ad qt sc), (ad 0, aI G 66 b)]) (P_X7_upTo G mo ad qt sc b p q) := by
  refine x_start (cc := cX7_upTo) (nL := 3) (ret := (some .int)) (by decide) rfl (Nat.le_of_ble_eq_true rfl) (fun E => ?_)
  show W_X7_upTo G E mo ad qt sc b p q 0 [(0, .ref mo), (1, .int (zI ((p : Nat) : Int))), (2, .int (zI ((q : Nat) : Int)))] [] ([(mo, moE ad qt sc), (ad 0, aI G 66 b)])
  have hpp : p * (p - 1) ≤ 5 * 4 := Nat.mul_le_mul (by omega) (by omega)
  have hqq : q * (q - 1) ≤ 5 * 4 := Nat.mul_le_mul (by omega) (by omega)
  refine x_iload_n 1 rfl dX7_upTo_0 1 rfl ?_
  refine x_iload_n 2 rfl dX7_upTo_1 2 rfl ?_
  refine x_icmp_ne 5 rfl (tgt := 9) dX7_upTo_2 (by decide) (by omega) (by omega) (fun h2 => ?_) (fun h2 => ?_)
  · skip
    refine x_iload_n 10 rfl dX7_upTo_9 1 rfl ?_
    refine x_iload_n 11 rfl dX7_upTo_10 2 rfl ?_
    refine x_icmp_le 14 rfl (tgt := 31) dX7_upTo_11 (by decide) (by omega) (by omega) (fun h11 => ?_) (fun h11 => ?_)
    · skip
      refine x_aload_n 32 rfl dX7_upTo_31 0 rfl ?_
      refine x_get 35 rfl (v := .ref (ad 0)) 0 0 rfl rfl (by decide) inX7_upTo_X7 flX7_upTo_7 rfl dX7_upTo_32 ?_
      refine x_iload_n 36 rfl dX7_upTo_35 2 rfl ?_
      refine x_iload_n 37 rfl dX7_upTo_36 2 rfl ?_
      refine x_iconst 38 rfl dX7_upTo_37 (z := 1) (by decide) ?_
      refine x_isub 39 rfl dX7_upTo_38 (z := ((q - 1 : Nat) : Int)) (by omega) ?_
      refine x_imul 40 rfl dX7_upTo_39 (z := ((q * (q - 1) : Nat) : Int)) ((Int.natCast_mul _ _).symm) ?_
      refine x_iconst 41 rfl dX7_upTo_40 (z := 2) (by decide) ?_
      refine x_idiv 42 rfl dX7_upTo_41 (z := (((q * (q - 1)) / 2 : Nat) : Int)) (by decide) (zI_div (a := (q * (q - 1))) (d := 2) (by omega) (by omega) (by omega)) ?_
      refine x_iload_n 43 rfl dX7_upTo_42 1 rfl ?_
      refine x_iadd 44 rfl dX7_upTo_43 (z := (((q * (q - 1)) / 2 + p : Nat) : Int)) (by omega) ?_
      refine x_iald 45 rfl 1 ((q * (q - 1)) / 2 + p) rfl (⟨by omega, by omega⟩) (by decide) (v := b ((q * (q - 1)) / 2 + p)) (rfl) dX7_upTo_44 ?_
      refine x_iret rfl ?_ dX7_upTo_45
      exact ⟨by rw [show upN b p q = b ((q * (q - 1)) / 2 + p) by unfold upN; rw [if_neg (by omega), if_neg (by omega)]], rfl⟩
    · skip
      refine x_aload_n 15 rfl dX7_upTo_14 0 rfl ?_
      refine x_get 18 rfl (v := .ref (ad 0)) 0 0 rfl rfl (by decide) inX7_upTo_X7 flX7_upTo_7 rfl dX7_upTo_15 ?_
      refine x_iload_n 19 rfl dX7_upTo_18 1 rfl ?_
      refine x_iload_n 20 rfl dX7_upTo_19 1 rfl ?_
      refine x_iconst 21 rfl dX7_upTo_20 (z := 1) (by decide) ?_
      refine x_isub 22 rfl dX7_upTo_21 (z := ((p - 1 : Nat) : Int)) (by omega) ?_
      refine x_imul 23 rfl dX7_upTo_22 (z := ((p * (p - 1) : Nat) : Int)) ((Int.natCast_mul _ _).symm) ?_
      refine x_iconst 24 rfl dX7_upTo_23 (z := 2) (by decide) ?_
      refine x_idiv 25 rfl dX7_upTo_24 (z := (((p * (p - 1)) / 2 : Nat) : Int)) (by decide) (zI_div (a := (p * (p - 1))) (d := 2) (by omega) (by omega) (by omega)) ?_
      refine x_iload_n 26 rfl dX7_upTo_25 2 rfl ?_
      refine x_iadd 27 rfl dX7_upTo_26 (z := (((p * (p - 1)) / 2 + q : Nat) : Int)) (by omega) ?_
      refine x_iald 28 rfl 1 ((p * (p - 1)) / 2 + q) rfl (⟨by omega, by omega⟩) (by decide) (v := b ((p * (p - 1)) / 2 + q)) (rfl) dX7_upTo_27 ?_
      refine x_goto dX7_upTo_28 (tgt := 45) (by decide) ?_
      refine x_iret rfl ?_ dX7_upTo_45
      exact ⟨by rw [show upN b p q = b ((p * (p - 1)) / 2 + q) by unfold upN; rw [if_neg (by omega), if_pos (by omega)]], rfl⟩
  · skip
    refine x_iconst 6 rfl dX7_upTo_5 (z := 3) (by decide) ?_
    refine x_goto dX7_upTo_6 (tgt := 45) (by decide) ?_
    refine x_iret rfl ?_ dX7_upTo_45
    exact ⟨by rw [show upN b p q = 3 by unfold upN; rw [if_pos (by omega)]], rfl⟩

abbrev P_X7_of (G : XG) (mo : Nat) (ad : Nat → Nat) (qt : Bool) (sc : Nat → Int) (b : Nat → Int) (p : Nat) (w : Nat) : Option Value → va_W → Prop := fun r ws => r = some (.int (zI (b (18 + 4 * p + w)))) ∧ ws = [(mo, moE ad qt sc), (ad 0, aI G 66 b)]
abbrev W_X7_of (G : XG) (E : XE) (mo : Nat) (ad : Nat → Nat) (qt : Bool) (sc : Nat → Int) (b : Nat → Int) (p : Nat) (w : Nat) (pc : Nat) (lv : List (Nat × Value)) (st : List Value) (ws : va_W) : Prop := Wx G E (rmL 0) cX7_of 3 RX7 wsX7_of (some .int) "of" 0 0 (P_X7_of G mo ad qt sc b p w) 0 0 pc lv st ws
theorem flX7_of_7 : Cond.fieldLink RX7 7 (TX7 0).1 (TX7 0).2.1 (TX7 0).2.2.1 ∈ wsX7_of := by decide +kernel
theorem inX7_of_X7 : ∀ w ∈ u_ws RX7 TX7 18, w ∈ wsX7_of := fun _ h => List.mem_cons_of_mem _ (List.mem_append_right _ h)
set_option maxHeartbeats 4000000 in
set_option maxRecDepth 100000 in
/-- of -/
theorem c_X7_of (G : XG) (mo : Nat) (ad : Nat → Nat) (qt : Bool) (sc : Nat → Int) (b : Nat → Int) (p w : Nat) (hp : p < 7) (hw : w < 4) : Con G yX7_of wsX7_of (rmL 0) 0 0 [.ref mo, .int (zI ((p : Nat) : Int)), .int (zI ((w : Nat) : Int))] ([(mo, moE ad qt sc), (ad 0, aI G 66 b)]) (P_X7_of G mo ad qt sc b p w) := by
  refine x_start (cc := cX7_of) (nL := 3) (ret := (some .int)) (by decide) rfl (Nat.le_of_ble_eq_true rfl) (fun E => ?_)
  show W_X7_of G E mo ad qt sc b p w 0 [(0, .ref mo), (1, .int (zI ((p : Nat) : Int))), (2, .int (zI ((w : Nat) : Int)))] [] ([(mo, moE ad qt sc), (ad 0, aI G 66 b)])
  refine x_aload_n 1 rfl dX7_of_0 0 rfl ?_
  refine x_get 4 rfl (v := .ref (ad 0)) 0 0 rfl rfl (by decide) inX7_of_X7 flX7_of_7 rfl dX7_of_1 ?_
  refine x_bipush 6 rfl dX7_of_4 (z := 18) (by decide) ?_
  refine x_iconst 7 rfl dX7_of_6 (z := 4) (by decide) ?_
  refine x_iload_n 8 rfl dX7_of_7 1 rfl ?_
  refine x_imul 9 rfl dX7_of_8 (z := ((4 * p : Nat) : Int)) (by omega) ?_
  refine x_iadd 10 rfl dX7_of_9 (z := ((18 + (4 * p) : Nat) : Int)) (by omega) ?_
  refine x_iload_n 11 rfl dX7_of_10 2 rfl ?_
  refine x_iadd 12 rfl dX7_of_11 (z := ((18 + (4 * p) + w : Nat) : Int)) (by omega) ?_
  refine x_iald 13 rfl 1 (18 + (4 * p) + w) rfl (⟨by omega, by omega⟩) (by decide) (v := b (18 + (4 * p) + w)) (rfl) dX7_of_12 ?_
  refine x_iret rfl ?_ dX7_of_13
  exact ⟨rfl, rfl⟩

abbrev P_X7_called (G : XG) (mo : Nat) (ad : Nat → Nat) (qt : Bool) (sc : Nat → Int) (b : Nat → Int) (n : Nat) (d : Nat) (c : Nat) (pl : Nat) (tune : Nat) (wind : Nat) : Option Value → va_W → Prop := fun r ws => r = some (.int (zI ((calN b n pl tune wind : Nat) : Int))) ∧ ws = [(mo, moE ad qt sc), (ad 0, aI G 66 b)]
abbrev W_X7_called (G : XG) (E : XE) (mo : Nat) (ad : Nat → Nat) (qt : Bool) (sc : Nat → Int) (b : Nat → Int) (n : Nat) (d : Nat) (c : Nat) (pl : Nat) (tune : Nat) (wind : Nat) (pc : Nat) (lv : List (Nat × Value)) (st : List Value) (ws : va_W) : Prop := Wx G E (rmL 4) cX7_called 7 RX7 wsX7_called (some .int) "called" 0 0 (P_X7_called G mo ad qt sc b n d c pl tune wind) 0 0 pc lv st ws
theorem flX7_called_7 : Cond.fieldLink RX7 7 (TX7 0).1 (TX7 0).2.1 (TX7 0).2.2.1 ∈ wsX7_called := by decide +kernel
theorem inX7_called_X7 : ∀ w ∈ u_ws RX7 TX7 18, w ∈ wsX7_called := fun _ h => List.mem_cons_of_mem _ (List.mem_append_right _ h)
set_option maxHeartbeats 4000000 in
set_option maxRecDepth 100000 in
/-- called -/
theorem c_X7_called (G : XG) (mo : Nat) (ad : Nat → Nat) (qt : Bool) (sc : Nat → Int) (b : Nat → Int) (n d c : Nat) (I : Inv b n d c) (pl tune wind : Nat) (hp : pl < 6) (hv : vt tune) (hw : wind < 4) : Con G yX7_called wsX7_called (rmL 4) 0 0 [.ref mo, .int (zI ((pl : Nat) : Int)), .int (zI ((tune : Nat) : Int)), .int (zI ((wind : Nat) : Int))] ([(mo, moE ad qt sc), (ad 0, aI G 66 b)]) (P_X7_called G mo ad qt sc b n d c pl tune wind) := by
  refine x_start (cc := cX7_called) (nL := 7) (ret := (some .int)) (by decide) rfl (Nat.le_of_ble_eq_true rfl) (fun E => ?_)
  show W_X7_called G E mo ad qt sc b n d c pl tune wind 0 [(0, .ref mo), (1, .int (zI ((pl : Nat) : Int))), (2, .int (zI ((tune : Nat) : Int))), (3, .int (zI ((wind : Nat) : Int)))] [] ([(mo, moE ad qt sc), (ad 0, aI G 66 b)])
  have hn := I.n1
  have hn7 := I.n7
  have hv8 := vt_lt hv
  refine x_iconst 1 rfl dX7_called_0 (z := 0) (by decide) ?_
  refine x_istore 3 rfl (lv' := [(4, .int (zI 0)), (0, .ref mo), (1, .int (zI ((pl : Nat) : Int))), (2, .int (zI ((tune : Nat) : Int))), (3, .int (zI ((wind : Nat) : Int)))]) dX7_called_1 (by decide) rfl ?_
  refine x_iconst 4 rfl dX7_called_3 (z := 0) (by decide) ?_
  refine x_istore 6 rfl (lv' := [(5, .int (zI 0)), (4, .int (zI 0)), (0, .ref mo), (1, .int (zI ((pl : Nat) : Int))), (2, .int (zI ((tune : Nat) : Int))), (3, .int (zI ((wind : Nat) : Int)))]) dX7_called_4 (by decide) rfl ?_
  have L6 : ∀ (f6 : Nat) (k : Nat) (hk : k ≤ n), n - k < f6 → W_X7_called G E mo ad qt sc b n d c pl tune wind 6 [(0, .ref mo), (1, .int (zI ((pl : Nat) : Int))), (2, .int (zI ((tune : Nat) : Int))), (3, .int (zI ((wind : Nat) : Int))), (4, .int (zI ((bitF (tb b pl tune wind) k : Nat) : Int))), (5, .int (zI ((k : Nat) : Int)))] [] ([(mo, moE ad qt sc), (ad 0, aI G 66 b)]) := by
    intro f6
    induction f6 with
    | zero => intro k hk hf6; exact absurd hf6 (Nat.not_lt_zero _)
    | succ f6 ih6 =>
      intro k hk hf6
      refine x_iload 8 rfl dX7_called_6 5 rfl ?_
      refine x_aload_n 9 rfl dX7_called_8 0 rfl ?_
      refine x_get 12 rfl (v := .ref (ad 0)) 0 0 rfl rfl (by decide) inX7_called_X7 flX7_called_7 rfl dX7_called_9 ?_
      refine x_bipush 14 rfl dX7_called_12 (z := 15) (by decide) ?_
      refine x_iald 15 rfl 1 15 rfl (⟨by omega, by omega⟩) (by decide) (v := ((n : Nat) : Int)) (hn) dX7_called_14 ?_
      refine x_icmp_ge 18 rfl (tgt := 87) dX7_called_15 (by decide) (by omega) (by omega) (fun h15 => ?_) (fun h15 => ?_)
      · skip
        refine x_iload 89 rfl dX7_called_87 4 rfl ?_
        refine x_iret rfl ?_ dX7_called_89
        have e : k = n := by omega
        exact ⟨by rw [e]; rfl, rfl⟩
      · skip
        refine x_aload_n 19 rfl dX7_called_18 0 rfl ?_
        refine x_iload_n 20 rfl dX7_called_19 1 rfl ?_
        refine x_aload_n 21 rfl dX7_called_20 0 rfl ?_
        refine x_iload 23 rfl dX7_called_21 5 rfl ?_
        refine x_iconst 24 rfl dX7_called_23 (z := 2) (by decide) ?_
        refine x_callV 27 rfl (c_X7_of G mo ad qt sc b k 2 (by omega) (by omega)) [0, 1] rfl (by decide) 0 rfl rfl gX7_called_X7_of rfl rfl rfl hd_X7_of ⟨Nat.le_of_ble_eq_true rfl, Nat.le_of_ble_eq_true rfl⟩ (As := [.int (zI ((k : Nat) : Int)), .int (zI 2)]) (rest := [.int (zI ((pl : Nat) : Int)), .ref mo]) rfl rfl (Nat.le_of_ble_eq_true rfl) dX7_called_24 ⟨Nat.zero_le _, Nat.zero_le _⟩ (fun v w hq => ?_)
        obtain ⟨rfl, rfl⟩ := hq
        refine ⟨rfl, ?_⟩
        refine x_ws (ws' := [(mo, moE ad qt sc), (ad 0, aI G 66 b)]) (rfl) ?_
        refine x_int (congrArg zI ((I.p (by omega)).1 : b (18 + 4 * k + 2) = ((plN b k : Nat) : Int))) ?_
        refine x_callV 30 rfl (c_X7_upTo G mo ad qt sc b pl (plN b k) (by omega) ((I.p (by omega)).2)) [0, 1] rfl (by decide) 0 rfl rfl gX7_called_X7_upTo rfl rfl rfl hd_X7_upTo ⟨Nat.le_of_ble_eq_true rfl, Nat.le_of_ble_eq_true rfl⟩ (As := [.int (zI ((pl : Nat) : Int)), .int (zI ((plN b k : Nat) : Int))]) (rest := []) rfl rfl (Nat.le_of_ble_eq_true rfl) dX7_called_27 ⟨Nat.zero_le _, Nat.zero_le _⟩ (fun v w hq => ?_)
        obtain ⟨rfl, rfl⟩ := hq
        refine ⟨rfl, ?_⟩
        refine x_ws (ws' := [(mo, moE ad qt sc), (ad 0, aI G 66 b)]) (rfl) ?_
        refine x_iload_n 31 rfl dX7_called_30 3 rfl ?_
        refine x_icmp_lt 34 rfl (tgt := 60) dX7_called_31 (by decide) (by have := upN_r I (p := pl) (q := plN b k) (by omega) (I.p (by omega)).2; omega) (by omega) (fun h31 => ?_) (fun h31 => ?_)
        · skip
          refine x_iconst 61 rfl dX7_called_60 (z := 0) (by decide) ?_
          refine x_istore 63 rfl (lv' := [(6, .int (zI 0)), (0, .ref mo), (1, .int (zI ((pl : Nat) : Int))), (2, .int (zI ((tune : Nat) : Int))), (3, .int (zI ((wind : Nat) : Int))), (4, .int (zI ((bitF (tb b pl tune wind) k : Nat) : Int))), (5, .int (zI ((k : Nat) : Int)))]) dX7_called_61 (by decide) rfl ?_
          refine x_iload 65 rfl dX7_called_63 5 rfl ?_
          refine x_iload 67 rfl dX7_called_65 0 rfl ?_
          refine x_if_eq 70 rfl (tgt := 77) dX7_called_67 (by decide) (by omega) (fun h67 => ?_) (fun h67 => ?_)
          · skip
            refine x_iconst 78 rfl dX7_called_77 (z := 0) (by decide) ?_
            have hbl := bitF_lt (tb b pl tune wind) k
            have hpk : 2 ^ k ≤ 2 ^ 6 := Nat.pow_le_pow_right (by decide) (by omega)
            refine x_ior 79 rfl dX7_called_78 (z := (((bitF (tb b pl tune wind) k) ||| 0 : Nat) : Int)) (zI_or (a := (bitF (tb b pl tune wind) k)) (b := 0) (by omega) (by omega)) ?_
            refine x_istore 81 rfl (lv' := [(4, .int (zI (((bitF (tb b pl tune wind) k) ||| 0 : Nat) : Int))), (6, .int (zI 0)), (0, .ref mo), (1, .int (zI ((pl : Nat) : Int))), (2, .int (zI ((tune : Nat) : Int))), (3, .int (zI ((wind : Nat) : Int))), (5, .int (zI ((k : Nat) : Int)))]) dX7_called_79 (by decide) rfl ?_
            refine x_iinc 84 rfl (lv' := [(5, .int (zI ((k + 1 : Nat) : Int))), (4, .int (zI (((bitF (tb b pl tune wind) k) ||| 0 : Nat) : Int))), (6, .int (zI 0)), (0, .ref mo), (1, .int (zI ((pl : Nat) : Int))), (2, .int (zI ((tune : Nat) : Int))), (3, .int (zI ((wind : Nat) : Int)))]) dX7_called_81 6 rfl (b := ((k + 1 : Nat) : Int)) (by omega) (by decide) rfl ?_
            refine x_goto dX7_called_84 (tgt := 6) (by decide) ?_
            refine x_lve (congrArg (fun zz : Int => ([(5, .int (zI ((k + 1 : Nat) : Int))), (4, .int (zI zz)), (6, .int (zI 0)), (0, .ref mo), (1, .int (zI ((pl : Nat) : Int))), (2, .int (zI ((tune : Nat) : Int))), (3, .int (zI ((wind : Nat) : Int)))] : List (Nat × Value))) (by rw [bitF_f (tb_f1 h31), Nat.or_zero] : (((bitF (tb b pl tune wind) k) ||| 0 : Nat) : Int) = ((bitF (tb b pl tune wind) (k + 1) : Nat) : Int))) ?_
            refine x_lv [3, 4, 5, 6, 1, 0] rfl ?_
            exact ih6 (k + 1) (by omega) (by omega)
          · skip
            exact absurd h67 (by decide)
        · skip
          refine x_aload_n 35 rfl dX7_called_34 0 rfl ?_
          refine x_iload 37 rfl dX7_called_35 5 rfl ?_
          refine x_iconst 38 rfl dX7_called_37 (z := 0) (by decide) ?_
          refine x_callV 41 rfl (c_X7_of G mo ad qt sc b k 0 (by omega) (by omega)) [0, 1] rfl (by decide) 0 rfl rfl gX7_called_X7_of rfl rfl rfl hd_X7_of ⟨Nat.le_of_ble_eq_true rfl, Nat.le_of_ble_eq_true rfl⟩ (As := [.int (zI ((k : Nat) : Int)), .int (zI 0)]) (rest := []) rfl rfl (Nat.le_of_ble_eq_true rfl) dX7_called_38 ⟨Nat.zero_le _, Nat.zero_le _⟩ (fun v w hq => ?_)
          obtain ⟨rfl, rfl⟩ := hq
          refine ⟨rfl, ?_⟩
          refine x_ws (ws' := [(mo, moE ad qt sc), (ad 0, aI G 66 b)]) (rfl) ?_
          refine x_int (congrArg zI ((I.e (by omega)).1 : b (18 + 4 * k + 0) = ((eN b k : Nat) : Int))) ?_
          refine x_aload_n 42 rfl dX7_called_41 0 rfl ?_
          refine x_iload 44 rfl dX7_called_42 5 rfl ?_
          refine x_iconst 45 rfl dX7_called_44 (z := 1) (by decide) ?_
          refine x_callV 48 rfl (c_X7_of G mo ad qt sc b k 1 (by omega) (by omega)) [0, 1] rfl (by decide) 0 rfl rfl gX7_called_X7_of rfl rfl rfl hd_X7_of ⟨Nat.le_of_ble_eq_true rfl, Nat.le_of_ble_eq_true rfl⟩ (As := [.int (zI ((k : Nat) : Int)), .int (zI 1)]) (rest := [.int (zI ((eN b k : Nat) : Int))]) rfl rfl (Nat.le_of_ble_eq_true rfl) dX7_called_45 ⟨Nat.zero_le _, Nat.zero_le _⟩ (fun v w hq => ?_)
          obtain ⟨rfl, rfl⟩ := hq
          refine ⟨rfl, ?_⟩
          refine x_ws (ws' := [(mo, moE ad qt sc), (ad 0, aI G 66 b)]) (rfl) ?_
          refine x_int (congrArg zI ((I.t (by omega)).1 : b (18 + 4 * k + 1) = ((tN b k : Nat) : Int))) ?_
          refine x_iload_n 49 rfl dX7_called_48 2 rfl ?_
          refine x_iload_n 50 rfl dX7_called_49 3 rfl ?_
          refine x_callS0 53 rfl (c_X7_turns G (eN b k) (tN b k) tune wind ((I.e (by omega)).2) ((I.t (by omega)).2) (hv) (by omega)) (fun _ _ h => h.2) gX7_called_X7_turns rfl rfl rfl hd_X7_turns ⟨Nat.le_of_ble_eq_true rfl, Nat.le_of_ble_eq_true rfl⟩ (As := [.int (zI ((eN b k : Nat) : Int)), .int (zI ((tN b k : Nat) : Int)), .int (zI ((tune : Nat) : Int)), .int (zI ((wind : Nat) : Int))]) (rest := []) rfl rfl (Nat.le_of_ble_eq_true rfl) dX7_called_50 ⟨Nat.zero_le _, Nat.zero_le _⟩ (fun v hq => ?_)
          obtain ⟨rfl, -⟩ := hq
          refine x_bif_eq 56 rfl (tgt := 60) dX7_called_53 (by decide) (fun h53 => ?_) (fun h53 => ?_)
          · skip
            refine x_iconst 61 rfl dX7_called_60 (z := 0) (by decide) ?_
            refine x_istore 63 rfl (lv' := [(6, .int (zI 0)), (0, .ref mo), (1, .int (zI ((pl : Nat) : Int))), (2, .int (zI ((tune : Nat) : Int))), (3, .int (zI ((wind : Nat) : Int))), (4, .int (zI ((bitF (tb b pl tune wind) k : Nat) : Int))), (5, .int (zI ((k : Nat) : Int)))]) dX7_called_61 (by decide) rfl ?_
            refine x_iload 65 rfl dX7_called_63 5 rfl ?_
            refine x_iload 67 rfl dX7_called_65 0 rfl ?_
            refine x_if_eq 70 rfl (tgt := 77) dX7_called_67 (by decide) (by omega) (fun h67 => ?_) (fun h67 => ?_)
            · skip
              refine x_iconst 78 rfl dX7_called_77 (z := 0) (by decide) ?_
              have hbl := bitF_lt (tb b pl tune wind) k
              have hpk : 2 ^ k ≤ 2 ^ 6 := Nat.pow_le_pow_right (by decide) (by omega)
              refine x_ior 79 rfl dX7_called_78 (z := (((bitF (tb b pl tune wind) k) ||| 0 : Nat) : Int)) (zI_or (a := (bitF (tb b pl tune wind) k)) (b := 0) (by omega) (by omega)) ?_
              refine x_istore 81 rfl (lv' := [(4, .int (zI (((bitF (tb b pl tune wind) k) ||| 0 : Nat) : Int))), (6, .int (zI 0)), (0, .ref mo), (1, .int (zI ((pl : Nat) : Int))), (2, .int (zI ((tune : Nat) : Int))), (3, .int (zI ((wind : Nat) : Int))), (5, .int (zI ((k : Nat) : Int)))]) dX7_called_79 (by decide) rfl ?_
              refine x_iinc 84 rfl (lv' := [(5, .int (zI ((k + 1 : Nat) : Int))), (4, .int (zI (((bitF (tb b pl tune wind) k) ||| 0 : Nat) : Int))), (6, .int (zI 0)), (0, .ref mo), (1, .int (zI ((pl : Nat) : Int))), (2, .int (zI ((tune : Nat) : Int))), (3, .int (zI ((wind : Nat) : Int)))]) dX7_called_81 6 rfl (b := ((k + 1 : Nat) : Int)) (by omega) (by decide) rfl ?_
              refine x_goto dX7_called_84 (tgt := 6) (by decide) ?_
              refine x_lve (congrArg (fun zz : Int => ([(5, .int (zI ((k + 1 : Nat) : Int))), (4, .int (zI zz)), (6, .int (zI 0)), (0, .ref mo), (1, .int (zI ((pl : Nat) : Int))), (2, .int (zI ((tune : Nat) : Int))), (3, .int (zI ((wind : Nat) : Int)))] : List (Nat × Value))) (by rw [bitF_f (tb_f2 h53), Nat.or_zero] : (((bitF (tb b pl tune wind) k) ||| 0 : Nat) : Int) = ((bitF (tb b pl tune wind) (k + 1) : Nat) : Int))) ?_
              refine x_lv [3, 4, 5, 6, 1, 0] rfl ?_
              exact ih6 (k + 1) (by omega) (by omega)
            · skip
              exact absurd h67 (by decide)
          · skip
            refine x_iconst 57 rfl dX7_called_56 (z := 1) (by decide) ?_
            refine x_goto dX7_called_57 (tgt := 61) (by decide) ?_
            refine x_istore 63 rfl (lv' := [(6, .int (zI 1)), (0, .ref mo), (1, .int (zI ((pl : Nat) : Int))), (2, .int (zI ((tune : Nat) : Int))), (3, .int (zI ((wind : Nat) : Int))), (4, .int (zI ((bitF (tb b pl tune wind) k : Nat) : Int))), (5, .int (zI ((k : Nat) : Int)))]) dX7_called_61 (by decide) rfl ?_
            refine x_iload 65 rfl dX7_called_63 5 rfl ?_
            refine x_iload 67 rfl dX7_called_65 0 rfl ?_
            refine x_if_eq 70 rfl (tgt := 77) dX7_called_67 (by decide) (by omega) (fun h67 => ?_) (fun h67 => ?_)
            · skip
              exact absurd h67 (by decide)
            · skip
              refine x_iconst 71 rfl dX7_called_70 (z := 1) (by decide) ?_
              refine x_iload 73 rfl dX7_called_71 6 rfl ?_
              refine x_ishl 74 rfl dX7_called_73 (z := ((2 ^ k : Nat) : Int)) (zI_shl1 (i := k) (by omega)) ?_
              refine x_goto dX7_called_74 (tgt := 78) (by decide) ?_
              have hbl := bitF_lt (tb b pl tune wind) k
              have hpk : 2 ^ k ≤ 2 ^ 6 := Nat.pow_le_pow_right (by decide) (by omega)
              refine x_ior 79 rfl dX7_called_78 (z := (((bitF (tb b pl tune wind) k) ||| (2 ^ k) : Nat) : Int)) (zI_or (a := (bitF (tb b pl tune wind) k)) (b := (2 ^ k)) (by omega) (by omega)) ?_
              refine x_istore 81 rfl (lv' := [(4, .int (zI (((bitF (tb b pl tune wind) k) ||| (2 ^ k) : Nat) : Int))), (6, .int (zI 1)), (0, .ref mo), (1, .int (zI ((pl : Nat) : Int))), (2, .int (zI ((tune : Nat) : Int))), (3, .int (zI ((wind : Nat) : Int))), (5, .int (zI ((k : Nat) : Int)))]) dX7_called_79 (by decide) rfl ?_
              refine x_iinc 84 rfl (lv' := [(5, .int (zI ((k + 1 : Nat) : Int))), (4, .int (zI (((bitF (tb b pl tune wind) k) ||| (2 ^ k) : Nat) : Int))), (6, .int (zI 1)), (0, .ref mo), (1, .int (zI ((pl : Nat) : Int))), (2, .int (zI ((tune : Nat) : Int))), (3, .int (zI ((wind : Nat) : Int)))]) dX7_called_81 6 rfl (b := ((k + 1 : Nat) : Int)) (by omega) (by decide) rfl ?_
              refine x_goto dX7_called_84 (tgt := 6) (by decide) ?_
              refine x_lve (congrArg (fun zz : Int => ([(5, .int (zI ((k + 1 : Nat) : Int))), (4, .int (zI zz)), (6, .int (zI 1)), (0, .ref mo), (1, .int (zI ((pl : Nat) : Int))), (2, .int (zI ((tune : Nat) : Int))), (3, .int (zI ((wind : Nat) : Int)))] : List (Nat × Value))) (by rw [bitF_t (tb_t h31 h53)] : (((bitF (tb b pl tune wind) k) ||| (2 ^ k) : Nat) : Int) = ((bitF (tb b pl tune wind) (k + 1) : Nat) : Int))) ?_
              refine x_lv [3, 4, 5, 6, 1, 0] rfl ?_
              exact ih6 (k + 1) (by omega) (by omega)
  refine x_lve (congrArg (fun zz : Int => ([(5, .int (zI 0)), (4, .int (zI zz)), (0, .ref mo), (1, .int (zI ((pl : Nat) : Int))), (2, .int (zI ((tune : Nat) : Int))), (3, .int (zI ((wind : Nat) : Int)))] : List (Nat × Value))) (rfl : 0 = ((bitF (tb b pl tune wind) 0 : Nat) : Int))) ?_
  refine x_lv [2, 3, 4, 5, 1, 0] rfl ?_
  exact L6 _ 0 (by omega) (Nat.lt_succ_self _)

abbrev P_X7_windOf (G : XG) (mo : Nat) (ad : Nat → Nat) (qt : Bool) (sc : Nat → Int) (b : Nat → Int) (n : Nat) (d : Nat) (c : Nat) (x : Nat) (y : Nat) : Option Value → va_W → Prop := fun r ws => r = some (.int (zI (wdN b x y))) ∧ ws = [(mo, moE ad qt sc), (ad 0, aI G 66 b)]
abbrev W_X7_windOf (G : XG) (E : XE) (mo : Nat) (ad : Nat → Nat) (qt : Bool) (sc : Nat → Int) (b : Nat → Int) (n : Nat) (d : Nat) (c : Nat) (x : Nat) (y : Nat) (pc : Nat) (lv : List (Nat × Value)) (st : List Value) (ws : va_W) : Prop := Wx G E (rmL 1) cX7_windOf 8 RX7 wsX7_windOf (some .int) "windOf" 0 0 (P_X7_windOf G mo ad qt sc b n d c x y) 0 0 pc lv st ws
set_option maxHeartbeats 4000000 in
set_option maxRecDepth 100000 in
/-- windOf -/
theorem c_X7_windOf (G : XG) (mo : Nat) (ad : Nat → Nat) (qt : Bool) (sc : Nat → Int) (b : Nat → Int) (n d c : Nat) (I : Inv b n d c) (x y : Nat) (hx : x < n) (hy : y < n) : Con G yX7_windOf wsX7_windOf (rmL 1) 0 0 [.ref mo, .int (zI ((x : Nat) : Int)), .int (zI ((y : Nat) : Int))] ([(mo, moE ad qt sc), (ad 0, aI G 66 b)]) (P_X7_windOf G mo ad qt sc b n d c x y) := by
  refine x_start (cc := cX7_windOf) (nL := 8) (ret := (some .int)) (by decide) rfl (Nat.le_of_ble_eq_true rfl) (fun E => ?_)
  show W_X7_windOf G E mo ad qt sc b n d c x y 0 [(0, .ref mo), (1, .int (zI ((x : Nat) : Int))), (2, .int (zI ((y : Nat) : Int)))] [] ([(mo, moE ad qt sc), (ad 0, aI G 66 b)])
  have hn := I.n1
  have hn7 := I.n7
  refine x_iconst 1 rfl dX7_windOf_0 (z := (-1)) (by decide) ?_
  refine x_istore_n 2 rfl (lv' := [(3, .int (zI (-1))), (0, .ref mo), (1, .int (zI ((x : Nat) : Int))), (2, .int (zI ((y : Nat) : Int)))]) dX7_windOf_1 (by decide) rfl ?_
  refine x_iconst 3 rfl dX7_windOf_2 (z := 0) (by decide) ?_
  refine x_istore 5 rfl (lv' := [(4, .int (zI 0)), (3, .int (zI (-1))), (0, .ref mo), (1, .int (zI ((x : Nat) : Int))), (2, .int (zI ((y : Nat) : Int)))]) dX7_windOf_3 (by decide) rfl ?_
  have L5 : ∀ (f5 : Nat) (k : Nat) (hk : k ≤ 6), 6 - k < f5 → W_X7_windOf G E mo ad qt sc b n d c x y 5 [(0, .ref mo), (1, .int (zI ((x : Nat) : Int))), (2, .int (zI ((y : Nat) : Int))), (3, .int (zI (wdF b x y k))), (4, .int (zI ((k : Nat) : Int)))] [] ([(mo, moE ad qt sc), (ad 0, aI G 66 b)]) := by
    intro f5
    induction f5 with
    | zero => intro k hk hf5; exact absurd hf5 (Nat.not_lt_zero _)
    | succ f5 ih5 =>
      intro k hk hf5
      refine x_iload 7 rfl dX7_windOf_5 4 rfl ?_
      refine x_bipush 9 rfl dX7_windOf_7 (z := 6) (by decide) ?_
      refine x_icmp_ge 12 rfl (tgt := 75) dX7_windOf_9 (by decide) (by omega) (by decide) (fun h9 => ?_) (fun h9 => ?_)
      · skip
        refine x_iload_n 76 rfl dX7_windOf_75 3 rfl ?_
        refine x_iret rfl ?_ dX7_windOf_76
        have e : k = 6 := by omega
        exact ⟨by rw [e]; rfl, rfl⟩
      · skip
        have h1 := upN_r I (p := k) (q := plN b x) (by omega) (I.p hx).2
        have h2 := upN_r I (p := k) (q := plN b y) (by omega) (I.p hy).2
        have h3 := wdF_r I hx hy k (by omega)
        refine x_aload_n 13 rfl dX7_windOf_12 0 rfl ?_
        refine x_iload 15 rfl dX7_windOf_13 4 rfl ?_
        refine x_aload_n 16 rfl dX7_windOf_15 0 rfl ?_
        refine x_iload_n 17 rfl dX7_windOf_16 1 rfl ?_
        refine x_iconst 18 rfl dX7_windOf_17 (z := 2) (by decide) ?_
        refine x_callV 21 rfl (c_X7_of G mo ad qt sc b x 2 (by omega) (by omega)) [0, 1] rfl (by decide) 0 rfl rfl gX7_windOf_X7_of rfl rfl rfl hd_X7_of ⟨Nat.le_of_ble_eq_true rfl, Nat.le_of_ble_eq_true rfl⟩ (As := [.int (zI ((x : Nat) : Int)), .int (zI 2)]) (rest := [.int (zI ((k : Nat) : Int)), .ref mo]) rfl rfl (Nat.le_of_ble_eq_true rfl) dX7_windOf_18 ⟨Nat.zero_le _, Nat.zero_le _⟩ (fun v w hq => ?_)
        obtain ⟨rfl, rfl⟩ := hq
        refine ⟨rfl, ?_⟩
        refine x_ws (ws' := [(mo, moE ad qt sc), (ad 0, aI G 66 b)]) (rfl) ?_
        refine x_int (congrArg zI ((I.p (by omega)).1 : b (18 + 4 * x + 2) = ((plN b x : Nat) : Int))) ?_
        refine x_callV 24 rfl (c_X7_upTo G mo ad qt sc b k (plN b x) (by omega) ((I.p hx).2)) [0, 1] rfl (by decide) 0 rfl rfl gX7_windOf_X7_upTo rfl rfl rfl hd_X7_upTo ⟨Nat.le_of_ble_eq_true rfl, Nat.le_of_ble_eq_true rfl⟩ (As := [.int (zI ((k : Nat) : Int)), .int (zI ((plN b x : Nat) : Int))]) (rest := []) rfl rfl (Nat.le_of_ble_eq_true rfl) dX7_windOf_21 ⟨Nat.zero_le _, Nat.zero_le _⟩ (fun v w hq => ?_)
        obtain ⟨rfl, rfl⟩ := hq
        refine ⟨rfl, ?_⟩
        refine x_ws (ws' := [(mo, moE ad qt sc), (ad 0, aI G 66 b)]) (rfl) ?_
        refine x_istore 26 rfl (lv' := [(5, .int (zI (upN b k (plN b x)))), (0, .ref mo), (1, .int (zI ((x : Nat) : Int))), (2, .int (zI ((y : Nat) : Int))), (3, .int (zI (wdF b x y k))), (4, .int (zI ((k : Nat) : Int)))]) dX7_windOf_24 (by decide) rfl ?_
        refine x_aload_n 27 rfl dX7_windOf_26 1 rfl ?_
        refine x_iload 29 rfl dX7_windOf_27 5 rfl ?_
        refine x_aload_n 30 rfl dX7_windOf_29 1 rfl ?_
        refine x_iload_n 31 rfl dX7_windOf_30 3 rfl ?_
        refine x_iconst 32 rfl dX7_windOf_31 (z := 2) (by decide) ?_
        refine x_callV 35 rfl (c_X7_of G mo ad qt sc b y 2 (by omega) (by omega)) [0, 1] rfl (by decide) 0 rfl rfl gX7_windOf_X7_of rfl rfl rfl hd_X7_of ⟨Nat.le_of_ble_eq_true rfl, Nat.le_of_ble_eq_true rfl⟩ (As := [.int (zI ((y : Nat) : Int)), .int (zI 2)]) (rest := [.int (zI ((k : Nat) : Int)), .ref mo]) rfl rfl (Nat.le_of_ble_eq_true rfl) dX7_windOf_32 ⟨Nat.zero_le _, Nat.zero_le _⟩ (fun v w hq => ?_)
        obtain ⟨rfl, rfl⟩ := hq
        refine ⟨rfl, ?_⟩
        refine x_ws (ws' := [(mo, moE ad qt sc), (ad 0, aI G 66 b)]) (rfl) ?_
        refine x_int (congrArg zI ((I.p (by omega)).1 : b (18 + 4 * y + 2) = ((plN b y : Nat) : Int))) ?_
        refine x_callV 38 rfl (c_X7_upTo G mo ad qt sc b k (plN b y) (by omega) ((I.p hy).2)) [0, 1] rfl (by decide) 0 rfl rfl gX7_windOf_X7_upTo rfl rfl rfl hd_X7_upTo ⟨Nat.le_of_ble_eq_true rfl, Nat.le_of_ble_eq_true rfl⟩ (As := [.int (zI ((k : Nat) : Int)), .int (zI ((plN b y : Nat) : Int))]) (rest := []) rfl rfl (Nat.le_of_ble_eq_true rfl) dX7_windOf_35 ⟨Nat.zero_le _, Nat.zero_le _⟩ (fun v w hq => ?_)
        obtain ⟨rfl, rfl⟩ := hq
        refine ⟨rfl, ?_⟩
        refine x_ws (ws' := [(mo, moE ad qt sc), (ad 0, aI G 66 b)]) (rfl) ?_
        refine x_istore 40 rfl (lv' := [(6, .int (zI (upN b k (plN b y)))), (5, .int (zI (upN b k (plN b x)))), (0, .ref mo), (1, .int (zI ((x : Nat) : Int))), (2, .int (zI ((y : Nat) : Int))), (3, .int (zI (wdF b x y k))), (4, .int (zI ((k : Nat) : Int)))]) dX7_windOf_38 (by decide) rfl ?_
        refine x_iload 42 rfl dX7_windOf_40 1 rfl ?_
        refine x_iload 44 rfl dX7_windOf_42 0 rfl ?_
        refine x_icmp_ge 47 rfl (tgt := 52) dX7_windOf_44 (by decide) (by omega) (by omega) (fun h44 => ?_) (fun h44 => ?_)
        · skip
          refine x_iload 54 rfl dX7_windOf_52 0 rfl ?_
          refine x_istore 56 rfl (lv' := [(7, .int (zI (upN b k (plN b y)))), (6, .int (zI (upN b k (plN b y)))), (5, .int (zI (upN b k (plN b x)))), (0, .ref mo), (1, .int (zI ((x : Nat) : Int))), (2, .int (zI ((y : Nat) : Int))), (3, .int (zI (wdF b x y k))), (4, .int (zI ((k : Nat) : Int)))]) dX7_windOf_54 (by decide) rfl ?_
          refine x_iload 58 rfl dX7_windOf_56 0 rfl ?_
          refine x_iload_n 59 rfl dX7_windOf_58 6 rfl ?_
          refine x_icmp_le 62 rfl (tgt := 67) dX7_windOf_59 (by decide) (by omega) (by omega) (fun h59 => ?_) (fun h59 => ?_)
          · skip
            refine x_iload_n 68 rfl dX7_windOf_67 6 rfl ?_
            refine x_istore_n 69 rfl (lv' := [(3, .int (zI (wdF b x y k))), (7, .int (zI (upN b k (plN b y)))), (6, .int (zI (upN b k (plN b y)))), (5, .int (zI (upN b k (plN b x)))), (0, .ref mo), (1, .int (zI ((x : Nat) : Int))), (2, .int (zI ((y : Nat) : Int))), (4, .int (zI ((k : Nat) : Int)))]) dX7_windOf_68 (by decide) rfl ?_
            refine x_iinc 72 rfl (lv' := [(4, .int (zI ((k + 1 : Nat) : Int))), (3, .int (zI (wdF b x y k))), (7, .int (zI (upN b k (plN b y)))), (6, .int (zI (upN b k (plN b y)))), (5, .int (zI (upN b k (plN b x)))), (0, .ref mo), (1, .int (zI ((x : Nat) : Int))), (2, .int (zI ((y : Nat) : Int)))]) dX7_windOf_69 7 rfl (b := ((k + 1 : Nat) : Int)) (by omega) (by decide) rfl ?_
            refine x_goto dX7_windOf_72 (tgt := 5) (by decide) ?_
            refine x_lve (congrArg (fun zz : Int => ([(4, .int (zI ((k + 1 : Nat) : Int))), (3, .int (zI zz)), (7, .int (zI (upN b k (plN b y)))), (6, .int (zI (upN b k (plN b y)))), (5, .int (zI (upN b k (plN b x)))), (0, .ref mo), (1, .int (zI ((x : Nat) : Int))), (2, .int (zI ((y : Nat) : Int)))] : List (Nat × Value))) (by show wdF b x y k = max (wdF b x y k) (min (upN b k (plN b x)) (upN b k (plN b y))); omega : wdF b x y k = wdF b x y (k + 1))) ?_
            refine x_lv [5, 6, 7, 1, 0] rfl ?_
            exact ih5 (k + 1) (by omega) (by omega)
          · skip
            refine x_iload 64 rfl dX7_windOf_62 0 rfl ?_
            refine x_goto dX7_windOf_64 (tgt := 68) (by decide) ?_
            refine x_istore_n 69 rfl (lv' := [(3, .int (zI (upN b k (plN b y)))), (7, .int (zI (upN b k (plN b y)))), (6, .int (zI (upN b k (plN b y)))), (5, .int (zI (upN b k (plN b x)))), (0, .ref mo), (1, .int (zI ((x : Nat) : Int))), (2, .int (zI ((y : Nat) : Int))), (4, .int (zI ((k : Nat) : Int)))]) dX7_windOf_68 (by decide) rfl ?_
            refine x_iinc 72 rfl (lv' := [(4, .int (zI ((k + 1 : Nat) : Int))), (3, .int (zI (upN b k (plN b y)))), (7, .int (zI (upN b k (plN b y)))), (6, .int (zI (upN b k (plN b y)))), (5, .int (zI (upN b k (plN b x)))), (0, .ref mo), (1, .int (zI ((x : Nat) : Int))), (2, .int (zI ((y : Nat) : Int)))]) dX7_windOf_69 7 rfl (b := ((k + 1 : Nat) : Int)) (by omega) (by decide) rfl ?_
            refine x_goto dX7_windOf_72 (tgt := 5) (by decide) ?_
            refine x_lve (congrArg (fun zz : Int => ([(4, .int (zI ((k + 1 : Nat) : Int))), (3, .int (zI zz)), (7, .int (zI (upN b k (plN b y)))), (6, .int (zI (upN b k (plN b y)))), (5, .int (zI (upN b k (plN b x)))), (0, .ref mo), (1, .int (zI ((x : Nat) : Int))), (2, .int (zI ((y : Nat) : Int)))] : List (Nat × Value))) (by show upN b k (plN b y) = max (wdF b x y k) (min (upN b k (plN b x)) (upN b k (plN b y))); omega : upN b k (plN b y) = wdF b x y (k + 1))) ?_
            refine x_lv [5, 6, 7, 1, 0] rfl ?_
            exact ih5 (k + 1) (by omega) (by omega)
        · skip
          refine x_iload 49 rfl dX7_windOf_47 1 rfl ?_
          refine x_goto dX7_windOf_49 (tgt := 54) (by decide) ?_
          refine x_istore 56 rfl (lv' := [(7, .int (zI (upN b k (plN b x)))), (6, .int (zI (upN b k (plN b y)))), (5, .int (zI (upN b k (plN b x)))), (0, .ref mo), (1, .int (zI ((x : Nat) : Int))), (2, .int (zI ((y : Nat) : Int))), (3, .int (zI (wdF b x y k))), (4, .int (zI ((k : Nat) : Int)))]) dX7_windOf_54 (by decide) rfl ?_
          refine x_iload 58 rfl dX7_windOf_56 0 rfl ?_
          refine x_iload_n 59 rfl dX7_windOf_58 6 rfl ?_
          refine x_icmp_le 62 rfl (tgt := 67) dX7_windOf_59 (by decide) (by omega) (by omega) (fun h59 => ?_) (fun h59 => ?_)
          · skip
            refine x_iload_n 68 rfl dX7_windOf_67 6 rfl ?_
            refine x_istore_n 69 rfl (lv' := [(3, .int (zI (wdF b x y k))), (7, .int (zI (upN b k (plN b x)))), (6, .int (zI (upN b k (plN b y)))), (5, .int (zI (upN b k (plN b x)))), (0, .ref mo), (1, .int (zI ((x : Nat) : Int))), (2, .int (zI ((y : Nat) : Int))), (4, .int (zI ((k : Nat) : Int)))]) dX7_windOf_68 (by decide) rfl ?_
            refine x_iinc 72 rfl (lv' := [(4, .int (zI ((k + 1 : Nat) : Int))), (3, .int (zI (wdF b x y k))), (7, .int (zI (upN b k (plN b x)))), (6, .int (zI (upN b k (plN b y)))), (5, .int (zI (upN b k (plN b x)))), (0, .ref mo), (1, .int (zI ((x : Nat) : Int))), (2, .int (zI ((y : Nat) : Int)))]) dX7_windOf_69 7 rfl (b := ((k + 1 : Nat) : Int)) (by omega) (by decide) rfl ?_
            refine x_goto dX7_windOf_72 (tgt := 5) (by decide) ?_
            refine x_lve (congrArg (fun zz : Int => ([(4, .int (zI ((k + 1 : Nat) : Int))), (3, .int (zI zz)), (7, .int (zI (upN b k (plN b x)))), (6, .int (zI (upN b k (plN b y)))), (5, .int (zI (upN b k (plN b x)))), (0, .ref mo), (1, .int (zI ((x : Nat) : Int))), (2, .int (zI ((y : Nat) : Int)))] : List (Nat × Value))) (by show wdF b x y k = max (wdF b x y k) (min (upN b k (plN b x)) (upN b k (plN b y))); omega : wdF b x y k = wdF b x y (k + 1))) ?_
            refine x_lv [5, 6, 7, 1, 0] rfl ?_
            exact ih5 (k + 1) (by omega) (by omega)
          · skip
            refine x_iload 64 rfl dX7_windOf_62 0 rfl ?_
            refine x_goto dX7_windOf_64 (tgt := 68) (by decide) ?_
            refine x_istore_n 69 rfl (lv' := [(3, .int (zI (upN b k (plN b x)))), (7, .int (zI (upN b k (plN b x)))), (6, .int (zI (upN b k (plN b y)))), (5, .int (zI (upN b k (plN b x)))), (0, .ref mo), (1, .int (zI ((x : Nat) : Int))), (2, .int (zI ((y : Nat) : Int))), (4, .int (zI ((k : Nat) : Int)))]) dX7_windOf_68 (by decide) rfl ?_
            refine x_iinc 72 rfl (lv' := [(4, .int (zI ((k + 1 : Nat) : Int))), (3, .int (zI (upN b k (plN b x)))), (7, .int (zI (upN b k (plN b x)))), (6, .int (zI (upN b k (plN b y)))), (5, .int (zI (upN b k (plN b x)))), (0, .ref mo), (1, .int (zI ((x : Nat) : Int))), (2, .int (zI ((y : Nat) : Int)))]) dX7_windOf_69 7 rfl (b := ((k + 1 : Nat) : Int)) (by omega) (by decide) rfl ?_
            refine x_goto dX7_windOf_72 (tgt := 5) (by decide) ?_
            refine x_lve (congrArg (fun zz : Int => ([(4, .int (zI ((k + 1 : Nat) : Int))), (3, .int (zI zz)), (7, .int (zI (upN b k (plN b x)))), (6, .int (zI (upN b k (plN b y)))), (5, .int (zI (upN b k (plN b x)))), (0, .ref mo), (1, .int (zI ((x : Nat) : Int))), (2, .int (zI ((y : Nat) : Int)))] : List (Nat × Value))) (by show upN b k (plN b x) = max (wdF b x y k) (min (upN b k (plN b x)) (upN b k (plN b y))); omega : upN b k (plN b x) = wdF b x y (k + 1))) ?_
            refine x_lv [5, 6, 7, 1, 0] rfl ?_
            exact ih5 (k + 1) (by omega) (by omega)
  refine x_lve (congrArg (fun zz : Int => ([(4, .int (zI 0)), (3, .int (zI zz)), (0, .ref mo), (1, .int (zI ((x : Nat) : Int))), (2, .int (zI ((y : Nat) : Int)))] : List (Nat × Value))) (rfl : (-1) = wdF b x y 0)) ?_
  refine x_lv [2, 3, 4, 1, 0] rfl ?_
  exact L5 _ 0 (by omega) (Nat.lt_succ_self _)

abbrev P_X7_takenBy (G : XG) (mo : Nat) (ad : Nat → Nat) (qt : Bool) (sc : Nat → Int) (b : Nat → Int) (n : Nat) (d : Nat) (c : Nat) (x : Nat) (tune : Nat) (y : Nat) (own : Nat) : Option Value → va_W → Prop := fun r ws => r = some (.int (zB (tkN b x tune y own))) ∧ ws = [(mo, moE ad qt sc), (ad 0, aI G 66 b)]
abbrev W_X7_takenBy (G : XG) (E : XE) (mo : Nat) (ad : Nat → Nat) (qt : Bool) (sc : Nat → Int) (b : Nat → Int) (n : Nat) (d : Nat) (c : Nat) (x : Nat) (tune : Nat) (y : Nat) (own : Nat) (pc : Nat) (lv : List (Nat × Value)) (st : List Value) (ws : va_W) : Prop := Wx G E (rmL 4) cX7_takenBy 8 RX7 wsX7_takenBy (some .boolean) "takenBy" 0 0 (P_X7_takenBy G mo ad qt sc b n d c x tune y own) 0 0 pc lv st ws
set_option maxHeartbeats 4000000 in
set_option maxRecDepth 100000 in
/-- takenBy -/
theorem c_X7_takenBy (G : XG) (mo : Nat) (ad : Nat → Nat) (qt : Bool) (sc : Nat → Int) (b : Nat → Int) (n d c : Nat) (I : Inv b n d c) (x tune y own : Nat) (hx : x < n) (ht : vt tune) (hy : y < n) (ho : vt own) : Con G yX7_takenBy wsX7_takenBy (rmL 4) 0 0 [.ref mo, .int (zI ((x : Nat) : Int)), .int (zI ((tune : Nat) : Int)), .int (zI ((y : Nat) : Int)), .int (zI ((own : Nat) : Int))] ([(mo, moE ad qt sc), (ad 0, aI G 66 b)]) (P_X7_takenBy G mo ad qt sc b n d c x tune y own) := by
  refine x_start (cc := cX7_takenBy) (nL := 8) (ret := (some .boolean)) (by decide) rfl (Nat.le_of_ble_eq_true rfl) (fun E => ?_)
  show W_X7_takenBy G E mo ad qt sc b n d c x tune y own 0 [(0, .ref mo), (1, .int (zI ((x : Nat) : Int))), (2, .int (zI ((tune : Nat) : Int))), (3, .int (zI ((y : Nat) : Int))), (4, .int (zI ((own : Nat) : Int)))] [] ([(mo, moE ad qt sc), (ad 0, aI G 66 b)])
  have hn := I.n1
  have hn7 := I.n7
  have hm := wdM_r I hx hy
  refine x_iconst 1 rfl dX7_takenBy_0 (z := 0) (by decide) ?_
  refine x_istore 3 rfl (lv' := [(5, .int (zI 0)), (0, .ref mo), (1, .int (zI ((x : Nat) : Int))), (2, .int (zI ((tune : Nat) : Int))), (3, .int (zI ((y : Nat) : Int))), (4, .int (zI ((own : Nat) : Int)))]) dX7_takenBy_1 (by decide) rfl ?_
  refine x_aload_n 4 rfl dX7_takenBy_3 1 rfl ?_
  refine x_iload_n 5 rfl dX7_takenBy_4 2 rfl ?_
  refine x_iload_n 6 rfl dX7_takenBy_5 4 rfl ?_
  refine x_callV 9 rfl (c_X7_windOf G mo ad qt sc b n d c I x y (by omega) (by omega)) [0, 1] rfl (by decide) 0 rfl rfl gX7_takenBy_X7_windOf rfl rfl rfl hd_X7_windOf ⟨Nat.le_of_ble_eq_true rfl, Nat.le_of_ble_eq_true rfl⟩ (As := [.int (zI ((x : Nat) : Int)), .int (zI ((y : Nat) : Int))]) (rest := []) rfl rfl (Nat.le_of_ble_eq_true rfl) dX7_takenBy_6 ⟨Nat.zero_le _, Nat.zero_le _⟩ (fun v w hq => ?_)
  obtain ⟨rfl, rfl⟩ := hq
  refine ⟨rfl, ?_⟩
  refine x_ws (ws' := [(mo, moE ad qt sc), (ad 0, aI G 66 b)]) (rfl) ?_
  refine x_istore 11 rfl (lv' := [(6, .int (zI (wdN b x y))), (5, .int (zI 0)), (0, .ref mo), (1, .int (zI ((x : Nat) : Int))), (2, .int (zI ((tune : Nat) : Int))), (3, .int (zI ((y : Nat) : Int))), (4, .int (zI ((own : Nat) : Int)))]) dX7_takenBy_9 (by decide) rfl ?_
  refine x_iconst 12 rfl dX7_takenBy_11 (z := 0) (by decide) ?_
  refine x_istore 14 rfl (lv' := [(7, .int (zI 0)), (6, .int (zI (wdN b x y))), (5, .int (zI 0)), (0, .ref mo), (1, .int (zI ((x : Nat) : Int))), (2, .int (zI ((tune : Nat) : Int))), (3, .int (zI ((y : Nat) : Int))), (4, .int (zI ((own : Nat) : Int)))]) dX7_takenBy_12 (by decide) rfl ?_
  have L14 : ∀ (f14 : Nat) (k : Nat) (hk : k ≤ wdM b x y), wdM b x y - k < f14 → W_X7_takenBy G E mo ad qt sc b n d c x tune y own 14 [(0, .ref mo), (1, .int (zI ((x : Nat) : Int))), (2, .int (zI ((tune : Nat) : Int))), (3, .int (zI ((y : Nat) : Int))), (4, .int (zI ((own : Nat) : Int))), (5, .int (zB (anyF (fun w => turnsN (eN b y) own tune w) k))), (6, .int (zI (wdN b x y))), (7, .int (zI ((k : Nat) : Int)))] [] ([(mo, moE ad qt sc), (ad 0, aI G 66 b)]) := by
    intro f14
    induction f14 with
    | zero => intro k hk hf14; exact absurd hf14 (Nat.not_lt_zero _)
    | succ f14 ih14 =>
      intro k hk hf14
      refine x_iload 16 rfl dX7_takenBy_14 7 rfl ?_
      refine x_iload 18 rfl dX7_takenBy_16 6 rfl ?_
      refine x_icmp_gt 21 rfl (tgt := 56) dX7_takenBy_18 (by decide) (by omega) (by omega) (fun h18 => ?_) (fun h18 => ?_)
      · skip
        refine x_iload 58 rfl dX7_takenBy_56 5 rfl ?_
        refine x_zret rfl ?_ dX7_takenBy_58
        have e : k = wdM b x y := by omega
        exact ⟨by rw [e]; rfl, rfl⟩
      · skip
        refine x_iload 23 rfl dX7_takenBy_21 5 rfl ?_
        refine x_bif_ne 26 rfl (tgt := 43) dX7_takenBy_23 (by decide) (fun h23 => ?_) (fun h23 => ?_)
        · skip
          refine x_iconst 44 rfl dX7_takenBy_43 (z := 1) (by decide) ?_
          refine x_goto dX7_takenBy_44 (tgt := 48) (by decide) ?_
          refine x_istore 50 rfl (lv' := [(5, .int (zI 1)), (0, .ref mo), (1, .int (zI ((x : Nat) : Int))), (2, .int (zI ((tune : Nat) : Int))), (3, .int (zI ((y : Nat) : Int))), (4, .int (zI ((own : Nat) : Int))), (6, .int (zI (wdN b x y))), (7, .int (zI ((k : Nat) : Int)))]) dX7_takenBy_48 (by decide) rfl ?_
          refine x_iinc 53 rfl (lv' := [(7, .int (zI ((k + 1 : Nat) : Int))), (5, .int (zI 1)), (0, .ref mo), (1, .int (zI ((x : Nat) : Int))), (2, .int (zI ((tune : Nat) : Int))), (3, .int (zI ((y : Nat) : Int))), (4, .int (zI ((own : Nat) : Int))), (6, .int (zI (wdN b x y)))]) dX7_takenBy_50 7 rfl (b := ((k + 1 : Nat) : Int)) (by omega) (by decide) rfl ?_
          refine x_goto dX7_takenBy_53 (tgt := 14) (by decide) ?_
          refine x_lve (congrArg (fun zz : Int32 => ([(7, .int (zI ((k + 1 : Nat) : Int))), (5, .int zz), (0, .ref mo), (1, .int (zI ((x : Nat) : Int))), (2, .int (zI ((tune : Nat) : Int))), (3, .int (zI ((y : Nat) : Int))), (4, .int (zI ((own : Nat) : Int))), (6, .int (zI (wdN b x y)))] : List (Nat × Value))) (zB_t (anyF_t1 h23) : (zI 1) = (zB (anyF (fun w => turnsN (eN b y) own tune w) (k + 1))))) ?_
          refine x_lv [2, 3, 4, 5, 6, 1, 7, 0] rfl ?_
          exact ih14 (k + 1) (by omega) (by omega)
        · skip
          refine x_aload_n 27 rfl dX7_takenBy_26 0 rfl ?_
          refine x_iload_n 28 rfl dX7_takenBy_27 3 rfl ?_
          refine x_iconst 29 rfl dX7_takenBy_28 (z := 0) (by decide) ?_
          refine x_callV 32 rfl (c_X7_of G mo ad qt sc b y 0 (by omega) (by omega)) [0, 1] rfl (by decide) 0 rfl rfl gX7_takenBy_X7_of rfl rfl rfl hd_X7_of ⟨Nat.le_of_ble_eq_true rfl, Nat.le_of_ble_eq_true rfl⟩ (As := [.int (zI ((y : Nat) : Int)), .int (zI 0)]) (rest := []) rfl rfl (Nat.le_of_ble_eq_true rfl) dX7_takenBy_29 ⟨Nat.zero_le _, Nat.zero_le _⟩ (fun v w hq => ?_)
          obtain ⟨rfl, rfl⟩ := hq
          refine ⟨rfl, ?_⟩
          refine x_ws (ws' := [(mo, moE ad qt sc), (ad 0, aI G 66 b)]) (rfl) ?_
          refine x_int (congrArg zI ((I.e (by omega)).1 : b (18 + 4 * y + 0) = ((eN b y : Nat) : Int))) ?_
          refine x_iload 34 rfl dX7_takenBy_32 4 rfl ?_
          refine x_iload_n 35 rfl dX7_takenBy_34 2 rfl ?_
          refine x_iload 37 rfl dX7_takenBy_35 7 rfl ?_
          refine x_callS0 40 rfl (c_X7_turns G (eN b y) own tune k ((I.e hy).2) (ho) (ht) (by omega)) (fun _ _ h => h.2) gX7_takenBy_X7_turns rfl rfl rfl hd_X7_turns ⟨Nat.le_of_ble_eq_true rfl, Nat.le_of_ble_eq_true rfl⟩ (As := [.int (zI ((eN b y : Nat) : Int)), .int (zI ((own : Nat) : Int)), .int (zI ((tune : Nat) : Int)), .int (zI ((k : Nat) : Int))]) (rest := []) rfl rfl (Nat.le_of_ble_eq_true rfl) dX7_takenBy_37 ⟨Nat.zero_le _, Nat.zero_le _⟩ (fun v hq => ?_)
          obtain ⟨rfl, -⟩ := hq
          refine x_bif_eq 43 rfl (tgt := 47) dX7_takenBy_40 (by decide) (fun h40 => ?_) (fun h40 => ?_)
          · skip
            refine x_iconst 48 rfl dX7_takenBy_47 (z := 0) (by decide) ?_
            refine x_istore 50 rfl (lv' := [(5, .int (zI 0)), (0, .ref mo), (1, .int (zI ((x : Nat) : Int))), (2, .int (zI ((tune : Nat) : Int))), (3, .int (zI ((y : Nat) : Int))), (4, .int (zI ((own : Nat) : Int))), (6, .int (zI (wdN b x y))), (7, .int (zI ((k : Nat) : Int)))]) dX7_takenBy_48 (by decide) rfl ?_
            refine x_iinc 53 rfl (lv' := [(7, .int (zI ((k + 1 : Nat) : Int))), (5, .int (zI 0)), (0, .ref mo), (1, .int (zI ((x : Nat) : Int))), (2, .int (zI ((tune : Nat) : Int))), (3, .int (zI ((y : Nat) : Int))), (4, .int (zI ((own : Nat) : Int))), (6, .int (zI (wdN b x y)))]) dX7_takenBy_50 7 rfl (b := ((k + 1 : Nat) : Int)) (by omega) (by decide) rfl ?_
            refine x_goto dX7_takenBy_53 (tgt := 14) (by decide) ?_
            refine x_lve (congrArg (fun zz : Int32 => ([(7, .int (zI ((k + 1 : Nat) : Int))), (5, .int zz), (0, .ref mo), (1, .int (zI ((x : Nat) : Int))), (2, .int (zI ((tune : Nat) : Int))), (3, .int (zI ((y : Nat) : Int))), (4, .int (zI ((own : Nat) : Int))), (6, .int (zI (wdN b x y)))] : List (Nat × Value))) (zB_f (anyF_f (f := (fun w => turnsN (eN b y) own tune w)) h23 h40) : (zI 0) = (zB (anyF (fun w => turnsN (eN b y) own tune w) (k + 1))))) ?_
            refine x_lv [2, 3, 4, 5, 6, 1, 7, 0] rfl ?_
            exact ih14 (k + 1) (by omega) (by omega)
          · skip
            refine x_iconst 44 rfl dX7_takenBy_43 (z := 1) (by decide) ?_
            refine x_goto dX7_takenBy_44 (tgt := 48) (by decide) ?_
            refine x_istore 50 rfl (lv' := [(5, .int (zI 1)), (0, .ref mo), (1, .int (zI ((x : Nat) : Int))), (2, .int (zI ((tune : Nat) : Int))), (3, .int (zI ((y : Nat) : Int))), (4, .int (zI ((own : Nat) : Int))), (6, .int (zI (wdN b x y))), (7, .int (zI ((k : Nat) : Int)))]) dX7_takenBy_48 (by decide) rfl ?_
            refine x_iinc 53 rfl (lv' := [(7, .int (zI ((k + 1 : Nat) : Int))), (5, .int (zI 1)), (0, .ref mo), (1, .int (zI ((x : Nat) : Int))), (2, .int (zI ((tune : Nat) : Int))), (3, .int (zI ((y : Nat) : Int))), (4, .int (zI ((own : Nat) : Int))), (6, .int (zI (wdN b x y)))]) dX7_takenBy_50 7 rfl (b := ((k + 1 : Nat) : Int)) (by omega) (by decide) rfl ?_
            refine x_goto dX7_takenBy_53 (tgt := 14) (by decide) ?_
            refine x_lve (congrArg (fun zz : Int32 => ([(7, .int (zI ((k + 1 : Nat) : Int))), (5, .int zz), (0, .ref mo), (1, .int (zI ((x : Nat) : Int))), (2, .int (zI ((tune : Nat) : Int))), (3, .int (zI ((y : Nat) : Int))), (4, .int (zI ((own : Nat) : Int))), (6, .int (zI (wdN b x y)))] : List (Nat × Value))) (zB_t (anyF_t2 (f := (fun w => turnsN (eN b y) own tune w)) h40) : (zI 1) = (zB (anyF (fun w => turnsN (eN b y) own tune w) (k + 1))))) ?_
            refine x_lv [2, 3, 4, 5, 6, 1, 7, 0] rfl ?_
            exact ih14 (k + 1) (by omega) (by omega)
  refine x_lve (congrArg (fun zz : Int32 => ([(7, .int (zI 0)), (6, .int (zI (wdN b x y))), (5, .int zz), (0, .ref mo), (1, .int (zI ((x : Nat) : Int))), (2, .int (zI ((tune : Nat) : Int))), (3, .int (zI ((y : Nat) : Int))), (4, .int (zI ((own : Nat) : Int)))] : List (Nat × Value))) (rfl : (zI 0) = (zB (anyF (fun w => turnsN (eN b y) own tune w) 0)))) ?_
  refine x_lv [3, 4, 5, 6, 7, 2, 1, 0] rfl ?_
  exact L14 _ 0 (by omega) (Nat.lt_succ_self _)

abbrev P_X7_clashes (G : XG) (mo : Nat) (ad : Nat → Nat) (qt : Bool) (sc : Nat → Int) (b : Nat → Int) (n : Nat) (d : Nat) (c : Nat) (x : Nat) (tune : Nat) (y : Nat) (own : Nat) : Option Value → va_W → Prop := fun r ws => r = some (.int (zB (clN b x tune y own))) ∧ ws = [(mo, moE ad qt sc), (ad 0, aI G 66 b)]
abbrev W_X7_clashes (G : XG) (E : XE) (mo : Nat) (ad : Nat → Nat) (qt : Bool) (sc : Nat → Int) (b : Nat → Int) (n : Nat) (d : Nat) (c : Nat) (x : Nat) (tune : Nat) (y : Nat) (own : Nat) (pc : Nat) (lv : List (Nat × Value)) (st : List Value) (ws : va_W) : Prop := Wx G E (rmL 5) cX7_clashes 5 RX7 wsX7_clashes (some .boolean) "clashes" 0 0 (P_X7_clashes G mo ad qt sc b n d c x tune y own) 0 0 pc lv st ws
set_option maxHeartbeats 4000000 in
set_option maxRecDepth 100000 in
/-- clashes -/
theorem c_X7_clashes (G : XG) (mo : Nat) (ad : Nat → Nat) (qt : Bool) (sc : Nat → Int) (b : Nat → Int) (n d c : Nat) (I : Inv b n d c) (x tune y own : Nat) (hx : x < n) (ht : vt tune) (hy : y < n) (ho : vt own) : Con G yX7_clashes wsX7_clashes (rmL 5) 0 0 [.ref mo, .int (zI ((x : Nat) : Int)), .int (zI ((tune : Nat) : Int)), .int (zI ((y : Nat) : Int)), .int (zI ((own : Nat) : Int))] ([(mo, moE ad qt sc), (ad 0, aI G 66 b)]) (P_X7_clashes G mo ad qt sc b n d c x tune y own) := by
  refine x_start (cc := cX7_clashes) (nL := 5) (ret := (some .boolean)) (by decide) rfl (Nat.le_of_ble_eq_true rfl) (fun E => ?_)
  show W_X7_clashes G E mo ad qt sc b n d c x tune y own 0 [(0, .ref mo), (1, .int (zI ((x : Nat) : Int))), (2, .int (zI ((tune : Nat) : Int))), (3, .int (zI ((y : Nat) : Int))), (4, .int (zI ((own : Nat) : Int)))] [] ([(mo, moE ad qt sc), (ad 0, aI G 66 b)])
  refine x_aload_n 1 rfl dX7_clashes_0 0 rfl ?_
  refine x_iload_n 2 rfl dX7_clashes_1 1 rfl ?_
  refine x_iload_n 3 rfl dX7_clashes_2 2 rfl ?_
  refine x_iload_n 4 rfl dX7_clashes_3 3 rfl ?_
  refine x_iload 6 rfl dX7_clashes_4 4 rfl ?_
  refine x_callV 9 rfl (c_X7_takenBy G mo ad qt sc b n d c I x tune y own (by omega) ht (by omega) ho) [0, 1] rfl (by decide) 0 rfl rfl gX7_clashes_X7_takenBy rfl rfl rfl hd_X7_takenBy ⟨Nat.le_of_ble_eq_true rfl, Nat.le_of_ble_eq_true rfl⟩ (As := [.int (zI ((x : Nat) : Int)), .int (zI ((tune : Nat) : Int)), .int (zI ((y : Nat) : Int)), .int (zI ((own : Nat) : Int))]) (rest := []) rfl rfl (Nat.le_of_ble_eq_true rfl) dX7_clashes_6 ⟨Nat.zero_le _, Nat.zero_le _⟩ (fun v w hq => ?_)
  obtain ⟨rfl, rfl⟩ := hq
  refine ⟨rfl, ?_⟩
  refine x_ws (ws' := [(mo, moE ad qt sc), (ad 0, aI G 66 b)]) (rfl) ?_
  refine x_bif_ne 12 rfl (tgt := 24) dX7_clashes_9 (by decide) (fun h9 => ?_) (fun h9 => ?_)
  · skip
    refine x_iconst 25 rfl dX7_clashes_24 (z := 1) (by decide) ?_
    refine x_goto dX7_clashes_25 (tgt := 29) (by decide) ?_
    refine x_int (y := zB (clN b x tune y own)) (zB_t (by unfold clN; first | (rw [h9]; rfl) | (rw [h21]; exact Bool.or_true _))) ?_
    refine x_zret rfl ?_ dX7_clashes_29
    exact ⟨rfl, rfl⟩
  · skip
    refine x_aload_n 13 rfl dX7_clashes_12 0 rfl ?_
    refine x_iload_n 14 rfl dX7_clashes_13 3 rfl ?_
    refine x_iload 16 rfl dX7_clashes_14 4 rfl ?_
    refine x_iload_n 17 rfl dX7_clashes_16 1 rfl ?_
    refine x_iload_n 18 rfl dX7_clashes_17 2 rfl ?_
    refine x_callV 21 rfl (c_X7_takenBy G mo ad qt sc b n d c I y own x tune (by omega) ho (by omega) ht) [0, 1] rfl (by decide) 0 rfl rfl gX7_clashes_X7_takenBy rfl rfl rfl hd_X7_takenBy ⟨Nat.le_of_ble_eq_true rfl, Nat.le_of_ble_eq_true rfl⟩ (As := [.int (zI ((y : Nat) : Int)), .int (zI ((own : Nat) : Int)), .int (zI ((x : Nat) : Int)), .int (zI ((tune : Nat) : Int))]) (rest := []) rfl rfl (Nat.le_of_ble_eq_true rfl) dX7_clashes_18 ⟨Nat.zero_le _, Nat.zero_le _⟩ (fun v w hq => ?_)
    obtain ⟨rfl, rfl⟩ := hq
    refine ⟨rfl, ?_⟩
    refine x_ws (ws' := [(mo, moE ad qt sc), (ad 0, aI G 66 b)]) (rfl) ?_
    refine x_bif_eq 24 rfl (tgt := 28) dX7_clashes_21 (by decide) (fun h21 => ?_) (fun h21 => ?_)
    · skip
      refine x_iconst 29 rfl dX7_clashes_28 (z := 0) (by decide) ?_
      refine x_int (y := zB (clN b x tune y own)) (zB_f (by unfold clN; rw [h9, h21]; rfl)) ?_
      refine x_zret rfl ?_ dX7_clashes_29
      exact ⟨rfl, rfl⟩
    · skip
      refine x_iconst 25 rfl dX7_clashes_24 (z := 1) (by decide) ?_
      refine x_goto dX7_clashes_25 (tgt := 29) (by decide) ?_
      refine x_int (y := zB (clN b x tune y own)) (zB_t (by unfold clN; first | (rw [h9]; rfl) | (rw [h21]; exact Bool.or_true _))) ?_
      refine x_zret rfl ?_ dX7_clashes_29
      exact ⟨rfl, rfl⟩

