theorem hd_X4_notes : yX4_notes.cls ≠ "java/lang/invoke/MethodHandle" ∧ yX4_notes.cls ≠ "java/lang/invoke/VarHandle" ∧ (parseMethodDescriptor yX4_notes.desc).map (fun d => d.parameters.length) = some 1 := by decide +kernel
theorem hd_X4_isTune : yX4_isTune.cls ≠ "java/lang/invoke/MethodHandle" ∧ yX4_isTune.cls ≠ "java/lang/invoke/VarHandle" ∧ (parseMethodDescriptor yX4_isTune.desc).map (fun d => d.parameters.length) = some 1 := by decide +kernel
theorem hd_X4_firstHalf : yX4_firstHalf.cls ≠ "java/lang/invoke/MethodHandle" ∧ yX4_firstHalf.cls ≠ "java/lang/invoke/VarHandle" ∧ (parseMethodDescriptor yX4_firstHalf.desc).map (fun d => d.parameters.length) = some 1 := by decide +kernel
theorem hd_X4_lessLost : yX4_lessLost.cls ≠ "java/lang/invoke/MethodHandle" ∧ yX4_lessLost.cls ≠ "java/lang/invoke/VarHandle" ∧ (parseMethodDescriptor yX4_lessLost.desc).map (fun d => d.parameters.length) = some 2 := by decide +kernel
theorem hd_X4_lisped : yX4_lisped.cls ≠ "java/lang/invoke/MethodHandle" ∧ yX4_lisped.cls ≠ "java/lang/invoke/VarHandle" ∧ (parseMethodDescriptor yX4_lisped.desc).map (fun d => d.parameters.length) = some 1 := by decide +kernel
theorem hd_X4_begins : yX4_begins.cls ≠ "java/lang/invoke/MethodHandle" ∧ yX4_begins.cls ≠ "java/lang/invoke/VarHandle" ∧ (parseMethodDescriptor yX4_begins.desc).map (fun d => d.parameters.length) = some 2 := by decide +kernel
theorem hd_X6_isBelow : yX6_isBelow.cls ≠ "java/lang/invoke/MethodHandle" ∧ yX6_isBelow.cls ≠ "java/lang/invoke/VarHandle" ∧ (parseMethodDescriptor yX6_isBelow.desc).map (fun d => d.parameters.length) = some 2 := by decide +kernel
theorem xn_RX0_55 : Cond.methodLinkNest RX0 55 yX6_isBelow RX6 ∈ xN := by simp [xN]
abbrev P_X6_isBelow (G : XG) (a : Int) (b : Int) : Option Value → va_W → Prop := fun v w => v = some (.int (zB (decide (0 ≤ a ∧ a < b)))) ∧ w = []
abbrev W_X6_isBelow (G : XG) (E : XE) (a : Int) (b : Int) (pc : Nat) (lv : List (Nat × Value)) (st : List Value) (ws : va_W) : Prop := Wx G E (rmL 0) cX6_isBelow 2 RX6 wsX6_isBelow (some .boolean) "isBelow" 0 0 (P_X6_isBelow G a b) 0 0 pc lv st ws
set_option maxHeartbeats 4000000 in
set_option maxRecDepth 100000 in
/-- isBelow: 0 ≤ a < b -/
theorem c_X6_isBelow (G : XG) (a b : Int) (ha : Z32 a) (hb : Z32 b) : Con G yX6_isBelow wsX6_isBelow (rmL 0) 0 0 [.int (zI a), .int (zI b)] ([]) (P_X6_isBelow G a b) := by
  refine x_start (cc := cX6_isBelow) (nL := 2) (ret := (some .boolean)) (by decide) rfl (Nat.le_of_ble_eq_true rfl) (fun E => ?_)
  show W_X6_isBelow G E a b 0 [(0, .int (zI a)), (1, .int (zI b))] [] ([])
  refine x_iload_n 1 rfl dX6_isBelow_0 0 rfl ?_
  refine x_if_lt 4 rfl (tgt := 13) dX6_isBelow_1 (by decide) (by omega) (fun h1 => ?_) (fun h1 => ?_)
  · skip
    refine x_iconst 14 rfl dX6_isBelow_13 (z := 0) (by decide) ?_
    refine x_int (y := zB (decide (0 ≤ a ∧ a < b))) (zB_n (by omega)) ?_
    refine x_zret rfl ?_ dX6_isBelow_14
    exact ⟨rfl, rfl⟩
  · skip
    refine x_iload_n 5 rfl dX6_isBelow_4 0 rfl ?_
    refine x_iload_n 6 rfl dX6_isBelow_5 1 rfl ?_
    refine x_icmp_ge 9 rfl (tgt := 13) dX6_isBelow_6 (by decide) (by omega) (by omega) (fun h6 => ?_) (fun h6 => ?_)
    · skip
      refine x_iconst 14 rfl dX6_isBelow_13 (z := 0) (by decide) ?_
      refine x_int (y := zB (decide (0 ≤ a ∧ a < b))) (zB_n (by omega)) ?_
      refine x_zret rfl ?_ dX6_isBelow_14
      exact ⟨rfl, rfl⟩
    · skip
      refine x_iconst 10 rfl dX6_isBelow_9 (z := 1) (by decide) ?_
      refine x_goto dX6_isBelow_10 (tgt := 14) (by decide) ?_
      refine x_int (y := zB (decide (0 ≤ a ∧ a < b))) (zB_d (by omega)) ?_
      refine x_zret rfl ?_ dX6_isBelow_14
      exact ⟨rfl, rfl⟩

abbrev P_X4_notes (G : XG) (z : Int) : Option Value → va_W → Prop := fun v w => v = some (.int (zI (cnN z))) ∧ w = []
abbrev W_X4_notes (G : XG) (E : XE) (z : Int) (pc : Nat) (lv : List (Nat × Value)) (st : List Value) (ws : va_W) : Prop := Wx G E (rmL 0) cX4_notes 2 RX4 wsX4_notes (some .int) "notes" 0 0 (P_X4_notes G z) 0 0 pc lv st ws
set_option maxHeartbeats 4000000 in
set_option maxRecDepth 100000 in
/-- Tune.notes -/
theorem c_X4_notes (G : XG) (z : Int) (hz : Z32 z) : Con G yX4_notes wsX4_notes (rmL 0) 0 0 [.int (zI z)] ([]) (P_X4_notes G z) := by
  refine x_start (cc := cX4_notes) (nL := 2) (ret := (some .int)) (by decide) rfl (Nat.le_of_ble_eq_true rfl) (fun E => ?_)
  show W_X4_notes G E z 0 [(0, .int (zI z))] [] ([])
  refine x_iconst 1 rfl dX4_notes_0 (z := 1) (by decide) ?_
  refine x_istore_n 2 rfl (lv' := [(1, .int (zI 1)), (0, .int (zI z))]) dX4_notes_1 (by decide) rfl ?_
  refine x_iload_n 3 rfl dX4_notes_2 0 rfl ?_
  refine x_iconst 4 rfl dX4_notes_3 (z := 5) (by decide) ?_
  refine x_icmp_gt 7 rfl (tgt := 24) dX4_notes_4 (by decide) (by decide) (by decide) (fun h4 => ?_) (fun h4 => ?_)
  · skip
    exact absurd h4 (by decide)
  · skip
    refine x_iload_n 8 rfl dX4_notes_7 1 rfl ?_
    refine x_iconst 9 rfl dX4_notes_8 (z := 2) (by decide) ?_
    refine x_iload_n 10 rfl dX4_notes_9 0 rfl ?_
    refine x_imul 11 rfl dX4_notes_10 (z := 2) (by decide) ?_
    refine x_ishr 12 rfl dX4_notes_11 (z := z / 4) (zI_shrI (by omega) 2 4 (by decide) rfl) ?_
    refine x_iconst 13 rfl dX4_notes_12 (z := 1) (by decide) ?_
    refine x_icmp_ne 16 rfl (tgt := 18) dX4_notes_13 (by decide) (by omega) (by decide) (fun h13 => ?_) (fun h13 => ?_)
    · skip
      refine x_iinc 21 rfl (lv' := [(1, .int (zI 2)), (0, .int (zI z))]) dX4_notes_18 0 rfl (b := 2) (by decide) (by decide) rfl ?_
      refine x_goto dX4_notes_21 (tgt := 2) (by decide) ?_
      refine x_iload_n 3 rfl dX4_notes_2 0 rfl ?_
      refine x_iconst 4 rfl dX4_notes_3 (z := 5) (by decide) ?_
      refine x_icmp_gt 7 rfl (tgt := 24) dX4_notes_4 (by decide) (by decide) (by decide) (fun h4 => ?_) (fun h4 => ?_)
      · skip
        exact absurd h4 (by decide)
      · skip
        refine x_iload_n 8 rfl dX4_notes_7 1 rfl ?_
        refine x_iconst 9 rfl dX4_notes_8 (z := 2) (by decide) ?_
        refine x_iload_n 10 rfl dX4_notes_9 0 rfl ?_
        refine x_imul 11 rfl dX4_notes_10 (z := 4) (by decide) ?_
        refine x_ishr 12 rfl dX4_notes_11 (z := z / 16) (zI_shrI (by omega) 4 16 (by decide) rfl) ?_
        refine x_iconst 13 rfl dX4_notes_12 (z := 1) (by decide) ?_
        refine x_icmp_ne 16 rfl (tgt := 18) dX4_notes_13 (by decide) (by omega) (by decide) (fun h13 => ?_) (fun h13 => ?_)
        · skip
          refine x_iinc 21 rfl (lv' := [(1, .int (zI 3)), (0, .int (zI z))]) dX4_notes_18 0 rfl (b := 3) (by decide) (by decide) rfl ?_
          refine x_goto dX4_notes_21 (tgt := 2) (by decide) ?_
          refine x_iload_n 3 rfl dX4_notes_2 0 rfl ?_
          refine x_iconst 4 rfl dX4_notes_3 (z := 5) (by decide) ?_
          refine x_icmp_gt 7 rfl (tgt := 24) dX4_notes_4 (by decide) (by decide) (by decide) (fun h4 => ?_) (fun h4 => ?_)
          · skip
            exact absurd h4 (by decide)
          · skip
            refine x_iload_n 8 rfl dX4_notes_7 1 rfl ?_
            refine x_iconst 9 rfl dX4_notes_8 (z := 2) (by decide) ?_
            refine x_iload_n 10 rfl dX4_notes_9 0 rfl ?_
            refine x_imul 11 rfl dX4_notes_10 (z := 6) (by decide) ?_
            refine x_ishr 12 rfl dX4_notes_11 (z := z / 64) (zI_shrI (by omega) 6 64 (by decide) rfl) ?_
            refine x_iconst 13 rfl dX4_notes_12 (z := 1) (by decide) ?_
            refine x_icmp_ne 16 rfl (tgt := 18) dX4_notes_13 (by decide) (by omega) (by decide) (fun h13 => ?_) (fun h13 => ?_)
            · skip
              refine x_iinc 21 rfl (lv' := [(1, .int (zI 4)), (0, .int (zI z))]) dX4_notes_18 0 rfl (b := 4) (by decide) (by decide) rfl ?_
              refine x_goto dX4_notes_21 (tgt := 2) (by decide) ?_
              refine x_iload_n 3 rfl dX4_notes_2 0 rfl ?_
              refine x_iconst 4 rfl dX4_notes_3 (z := 5) (by decide) ?_
              refine x_icmp_gt 7 rfl (tgt := 24) dX4_notes_4 (by decide) (by decide) (by decide) (fun h4 => ?_) (fun h4 => ?_)
              · skip
                exact absurd h4 (by decide)
              · skip
                refine x_iload_n 8 rfl dX4_notes_7 1 rfl ?_
                refine x_iconst 9 rfl dX4_notes_8 (z := 2) (by decide) ?_
                refine x_iload_n 10 rfl dX4_notes_9 0 rfl ?_
                refine x_imul 11 rfl dX4_notes_10 (z := 8) (by decide) ?_
                refine x_ishr 12 rfl dX4_notes_11 (z := z / 256) (zI_shrI (by omega) 8 256 (by decide) rfl) ?_
                refine x_iconst 13 rfl dX4_notes_12 (z := 1) (by decide) ?_
                refine x_icmp_ne 16 rfl (tgt := 18) dX4_notes_13 (by decide) (by omega) (by decide) (fun h13 => ?_) (fun h13 => ?_)
                · skip
                  refine x_iinc 21 rfl (lv' := [(1, .int (zI 5)), (0, .int (zI z))]) dX4_notes_18 0 rfl (b := 5) (by decide) (by decide) rfl ?_
                  refine x_goto dX4_notes_21 (tgt := 2) (by decide) ?_
                  refine x_iload_n 3 rfl dX4_notes_2 0 rfl ?_
                  refine x_iconst 4 rfl dX4_notes_3 (z := 5) (by decide) ?_
                  refine x_icmp_gt 7 rfl (tgt := 24) dX4_notes_4 (by decide) (by decide) (by decide) (fun h4 => ?_) (fun h4 => ?_)
                  · skip
                    exact absurd h4 (by decide)
                  · skip
                    refine x_iload_n 8 rfl dX4_notes_7 1 rfl ?_
                    refine x_iconst 9 rfl dX4_notes_8 (z := 2) (by decide) ?_
                    refine x_iload_n 10 rfl dX4_notes_9 0 rfl ?_
                    refine x_imul 11 rfl dX4_notes_10 (z := 10) (by decide) ?_
                    refine x_ishr 12 rfl dX4_notes_11 (z := z / 1024) (zI_shrI (by omega) 10 1024 (by decide) rfl) ?_
                    refine x_iconst 13 rfl dX4_notes_12 (z := 1) (by decide) ?_
                    refine x_icmp_ne 16 rfl (tgt := 18) dX4_notes_13 (by decide) (by omega) (by decide) (fun h13 => ?_) (fun h13 => ?_)
                    · skip
                      refine x_iinc 21 rfl (lv' := [(1, .int (zI 6)), (0, .int (zI z))]) dX4_notes_18 0 rfl (b := 6) (by decide) (by decide) rfl ?_
                      refine x_goto dX4_notes_21 (tgt := 2) (by decide) ?_
                      refine x_iload_n 3 rfl dX4_notes_2 0 rfl ?_
                      refine x_iconst 4 rfl dX4_notes_3 (z := 5) (by decide) ?_
                      refine x_icmp_gt 7 rfl (tgt := 24) dX4_notes_4 (by decide) (by decide) (by decide) (fun h4 => ?_) (fun h4 => ?_)
                      · skip
                        refine x_iconst 25 rfl dX4_notes_24 (z := 0) (by decide) ?_
                        refine x_iret rfl ?_ dX4_notes_25
                        exact ⟨by rw [cnN_of z 0 (by omega)], rfl⟩
                      · skip
                        exact absurd h4 (by decide)
                    · skip
                      refine x_iload_n 17 rfl dX4_notes_16 0 rfl ?_
                      refine x_iret rfl ?_ dX4_notes_17
                      exact ⟨by rw [cnN_of z 5 (by omega)], rfl⟩
                · skip
                  refine x_iload_n 17 rfl dX4_notes_16 0 rfl ?_
                  refine x_iret rfl ?_ dX4_notes_17
                  exact ⟨by rw [cnN_of z 4 (by omega)], rfl⟩
            · skip
              refine x_iload_n 17 rfl dX4_notes_16 0 rfl ?_
              refine x_iret rfl ?_ dX4_notes_17
              exact ⟨by rw [cnN_of z 3 (by omega)], rfl⟩
        · skip
          refine x_iload_n 17 rfl dX4_notes_16 0 rfl ?_
          refine x_iret rfl ?_ dX4_notes_17
          exact ⟨by rw [cnN_of z 2 (by omega)], rfl⟩
    · skip
      refine x_iload_n 17 rfl dX4_notes_16 0 rfl ?_
      refine x_iret rfl ?_ dX4_notes_17
      exact ⟨by rw [cnN_of z 1 (by omega)], rfl⟩

abbrev P_X4_isTune (G : XG) (z : Int) : Option Value → va_W → Prop := fun v w => v = some (.int (zB (isT z))) ∧ w = []
abbrev W_X4_isTune (G : XG) (E : XE) (z : Int) (pc : Nat) (lv : List (Nat × Value)) (st : List Value) (ws : va_W) : Prop := Wx G E (rmL 1) cX4_isTune 1 RX4 wsX4_isTune (some .boolean) "isTune" 0 0 (P_X4_isTune G z) 0 0 pc lv st ws
set_option maxHeartbeats 4000000 in
set_option maxRecDepth 100000 in
/-- Tune.isTune -/
theorem c_X4_isTune (G : XG) (z : Int) (hz : Z32 z) : Con G yX4_isTune wsX4_isTune (rmL 1) 0 0 [.int (zI z)] ([]) (P_X4_isTune G z) := by
  refine x_start (cc := cX4_isTune) (nL := 1) (ret := (some .boolean)) (by decide) rfl (Nat.le_of_ble_eq_true rfl) (fun E => ?_)
  show W_X4_isTune G E z 0 [(0, .int (zI z))] [] ([])
  refine x_iload_n 1 rfl dX4_isTune_0 0 rfl ?_
  refine x_callS 4 rfl (c_X4_notes G z (by omega)) [] rfl (by decide) gX4_isTune_X4_notes rfl rfl rfl hd_X4_notes ⟨Nat.le_of_ble_eq_true rfl, Nat.le_of_ble_eq_true rfl⟩ (As := [.int (zI z)]) (rest := []) rfl rfl (Nat.le_of_ble_eq_true rfl) dX4_isTune_1 ⟨Nat.zero_le _, Nat.zero_le _⟩ (fun v w hq => ?_)
  obtain ⟨rfl, rfl⟩ := hq
  refine ⟨rfl, ?_⟩
  refine x_if_le 7 rfl (tgt := 11) dX4_isTune_4 (by decide) (by have := cnN_range z; omega) (fun h4 => ?_) (fun h4 => ?_)
  · skip
    refine x_iconst 12 rfl dX4_isTune_11 (z := 0) (by decide) ?_
    refine x_int (y := zB (isT z)) (zB_f (by cases h : isT z with | false => rfl | true => exact absurd ((cnN_pos z).mpr h) (by omega))) ?_
    refine x_zret rfl ?_ dX4_isTune_12
    exact ⟨rfl, rfl⟩
  · skip
    refine x_iconst 8 rfl dX4_isTune_7 (z := 1) (by decide) ?_
    refine x_goto dX4_isTune_8 (tgt := 12) (by decide) ?_
    refine x_int (y := zB (isT z)) (zB_t ((cnN_pos z).mp (by omega))) ?_
    refine x_zret rfl ?_ dX4_isTune_12
    exact ⟨rfl, rfl⟩

