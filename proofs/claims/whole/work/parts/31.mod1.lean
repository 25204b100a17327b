theorem hd_X7_in : yX7_in.cls ≠ "java/lang/invoke/MethodHandle" ∧ yX7_in.cls ≠ "java/lang/invoke/VarHandle" ∧ (parseMethodDescriptor yX7_in.desc).map (fun d => d.parameters.length) = some 3 := by decide +kernel
theorem hd_X7_isPlace : yX7_isPlace.cls ≠ "java/lang/invoke/MethodHandle" ∧ yX7_isPlace.cls ≠ "java/lang/invoke/VarHandle" ∧ (parseMethodDescriptor yX7_isPlace.desc).map (fun d => d.parameters.length) = some 1 := by decide +kernel
theorem hd_X7_isWind : yX7_isWind.cls ≠ "java/lang/invoke/MethodHandle" ∧ yX7_isWind.cls ≠ "java/lang/invoke/VarHandle" ∧ (parseMethodDescriptor yX7_isWind.desc).map (fun d => d.parameters.length) = some 1 := by decide +kernel
theorem hd_X7_isTune : yX7_isTune.cls ≠ "java/lang/invoke/MethodHandle" ∧ yX7_isTune.cls ≠ "java/lang/invoke/VarHandle" ∧ (parseMethodDescriptor yX7_isTune.desc).map (fun d => d.parameters.length) = some 1 := by decide +kernel
theorem hd_X7_notes : yX7_notes.cls ≠ "java/lang/invoke/MethodHandle" ∧ yX7_notes.cls ≠ "java/lang/invoke/VarHandle" ∧ (parseMethodDescriptor yX7_notes.desc).map (fun d => d.parameters.length) = some 1 := by decide +kernel
theorem hd_X7_note : yX7_note.cls ≠ "java/lang/invoke/MethodHandle" ∧ yX7_note.cls ≠ "java/lang/invoke/VarHandle" ∧ (parseMethodDescriptor yX7_note.desc).map (fun d => d.parameters.length) = some 2 := by decide +kernel
theorem hd_X7_front : yX7_front.cls ≠ "java/lang/invoke/MethodHandle" ∧ yX7_front.cls ≠ "java/lang/invoke/VarHandle" ∧ (parseMethodDescriptor yX7_front.desc).map (fun d => d.parameters.length) = some 2 := by decide +kernel
theorem hd_X7_left : yX7_left.cls ≠ "java/lang/invoke/MethodHandle" ∧ yX7_left.cls ≠ "java/lang/invoke/VarHandle" ∧ (parseMethodDescriptor yX7_left.desc).map (fun d => d.parameters.length) = some 2 := by decide +kernel
theorem hd_X7_lisped : yX7_lisped.cls ≠ "java/lang/invoke/MethodHandle" ∧ yX7_lisped.cls ≠ "java/lang/invoke/VarHandle" ∧ (parseMethodDescriptor yX7_lisped.desc).map (fun d => d.parameters.length) = some 1 := by decide +kernel
theorem hd_X7_turns : yX7_turns.cls ≠ "java/lang/invoke/MethodHandle" ∧ yX7_turns.cls ≠ "java/lang/invoke/VarHandle" ∧ (parseMethodDescriptor yX7_turns.desc).map (fun d => d.parameters.length) = some 4 := by decide +kernel
theorem hd_X7_tuneOf : yX7_tuneOf.cls ≠ "java/lang/invoke/MethodHandle" ∧ yX7_tuneOf.cls ≠ "java/lang/invoke/VarHandle" ∧ (parseMethodDescriptor yX7_tuneOf.desc).map (fun d => d.parameters.length) = some 1 := by decide +kernel
theorem hd_X7_bits : yX7_bits.cls ≠ "java/lang/invoke/MethodHandle" ∧ yX7_bits.cls ≠ "java/lang/invoke/VarHandle" ∧ (parseMethodDescriptor yX7_bits.desc).map (fun d => d.parameters.length) = some 1 := by decide +kernel
abbrev P_X7_in (G : XG) (a : Int) (b : Int) (c : Int) : Option Value → va_W → Prop := fun v w => v = some (.int (zB (decide (b ≤ a ∧ a ≤ c)))) ∧ w = []
abbrev W_X7_in (G : XG) (E : XE) (a : Int) (b : Int) (c : Int) (pc : Nat) (lv : List (Nat × Value)) (st : List Value) (ws : va_W) : Prop := Wx G E (rmL 0) cX7_in 6 RX7 wsX7_in (some .boolean) "in" 0 0 (P_X7_in G a b c) 0 0 pc lv st ws
set_option maxHeartbeats 4000000 in
set_option maxRecDepth 100000 in
/-- in -/
theorem c_X7_in (G : XG) (a b c : Int) (ha : Z32 a) (hb : Z32 b) (hc : Z32 c) : Con G yX7_in wsX7_in (rmL 0) 0 0 [.long (zL a), .long (zL b), .long (zL c)] ([]) (P_X7_in G a b c) := by
  refine x_start (cc := cX7_in) (nL := 6) (ret := (some .boolean)) (by decide) rfl (Nat.le_of_ble_eq_true rfl) (fun E => ?_)
  show W_X7_in G E a b c 0 [(0, .long (zL a)), (2, .long (zL b)), (4, .long (zL c))] [] ([])
  refine x_lload_n 1 rfl dX7_in_0 0 rfl ?_
  refine x_lload_n 2 rfl dX7_in_1 1 rfl ?_
  refine x_lcmp 3 rfl dX7_in_2 (z := cmZ a b) (zL_cmp (by omega) (by omega)) ?_
  refine x_if_lt 6 rfl (tgt := 17) dX7_in_3 (by decide) (by unfold cmZ; (repeat' split) <;> omega) (fun h3 => ?_) (fun h3 => ?_)
  · skip
    have h3 : a < b := by unfold cmZ at h3; (repeat' split at h3) <;> omega
    refine x_iconst 18 rfl dX7_in_17 (z := 0) (by decide) ?_
    refine x_int (y := zB (decide (b ≤ a ∧ a ≤ c))) (zB_n (by omega)) ?_
    refine x_zret rfl ?_ dX7_in_18
    exact ⟨rfl, rfl⟩
  · skip
    have h3 : b ≤ a := by unfold cmZ at h3; (repeat' split at h3) <;> omega
    refine x_lload_n 7 rfl dX7_in_6 0 rfl ?_
    refine x_lload 9 rfl dX7_in_7 2 rfl ?_
    refine x_lcmp 10 rfl dX7_in_9 (z := cmZ a c) (zL_cmp (by omega) (by omega)) ?_
    refine x_if_gt 13 rfl (tgt := 17) dX7_in_10 (by decide) (by unfold cmZ; (repeat' split) <;> omega) (fun h10 => ?_) (fun h10 => ?_)
    · skip
      have h10 : c < a := by unfold cmZ at h10; (repeat' split at h10) <;> omega
      refine x_iconst 18 rfl dX7_in_17 (z := 0) (by decide) ?_
      refine x_int (y := zB (decide (b ≤ a ∧ a ≤ c))) (zB_n (by omega)) ?_
      refine x_zret rfl ?_ dX7_in_18
      exact ⟨rfl, rfl⟩
    · skip
      have h10 : a ≤ c := by unfold cmZ at h10; (repeat' split at h10) <;> omega
      refine x_iconst 14 rfl dX7_in_13 (z := 1) (by decide) ?_
      refine x_goto dX7_in_14 (tgt := 18) (by decide) ?_
      refine x_int (y := zB (decide (b ≤ a ∧ a ≤ c))) (zB_d (by omega)) ?_
      refine x_zret rfl ?_ dX7_in_18
      exact ⟨rfl, rfl⟩

abbrev P_X7_isPlace (G : XG) (z : Int) : Option Value → va_W → Prop := fun v w => v = some (.int (zB (decide (0 ≤ z ∧ z ≤ 5)))) ∧ w = []
abbrev W_X7_isPlace (G : XG) (E : XE) (z : Int) (pc : Nat) (lv : List (Nat × Value)) (st : List Value) (ws : va_W) : Prop := Wx G E (rmL 1) cX7_isPlace 1 RX7 wsX7_isPlace (some .boolean) "isPlace" 0 0 (P_X7_isPlace G z) 0 0 pc lv st ws
theorem wX7_isPlace_cl55 : Cond.constantLong RX7 55 (zL 5) ∈ wsX7_isPlace := by decide +kernel
set_option maxHeartbeats 4000000 in
set_option maxRecDepth 100000 in
/-- isPlace -/
theorem c_X7_isPlace (G : XG) (z : Int) (hz : Z32 z) : Con G yX7_isPlace wsX7_isPlace (rmL 1) 0 0 [.int (zI z)] ([]) (P_X7_isPlace G z) := by
  refine x_start (cc := cX7_isPlace) (nL := 1) (ret := (some .boolean)) (by decide) rfl (Nat.le_of_ble_eq_true rfl) (fun E => ?_)
  show W_X7_isPlace G E z 0 [(0, .int (zI z))] [] ([])
  refine x_iload_n 1 rfl dX7_isPlace_0 0 rfl ?_
  refine x_i2l 2 rfl dX7_isPlace_1 (z := (zL z)) (zI_i2l (by omega)) ?_
  refine x_lconst 3 rfl dX7_isPlace_2 (z := 0) (by decide) ?_
  refine x_ldc2 6 rfl (v := zL 5) wX7_isPlace_cl55 dX7_isPlace_3 ?_
  refine x_callS0 9 rfl (c_X7_in G z 0 5 (by omega) (by omega) (by decide)) (fun _ _ h => h.2) gX7_isPlace_X7_in rfl rfl rfl hd_X7_in ⟨Nat.le_of_ble_eq_true rfl, Nat.le_of_ble_eq_true rfl⟩ (As := [.long (zL z), .long (zL 0), .long (zL 5)]) (rest := []) rfl rfl (Nat.le_of_ble_eq_true rfl) dX7_isPlace_6 ⟨Nat.zero_le _, Nat.zero_le _⟩ (fun v hq => ?_)
  obtain ⟨rfl, -⟩ := hq
  refine x_zret rfl ?_ dX7_isPlace_9
  exact ⟨rfl, rfl⟩

abbrev P_X7_isWind (G : XG) (z : Int) : Option Value → va_W → Prop := fun v w => v = some (.int (zB (decide (0 ≤ z ∧ z ≤ 3)))) ∧ w = []
abbrev W_X7_isWind (G : XG) (E : XE) (z : Int) (pc : Nat) (lv : List (Nat × Value)) (st : List Value) (ws : va_W) : Prop := Wx G E (rmL 1) cX7_isWind 1 RX7 wsX7_isWind (some .boolean) "isWind" 0 0 (P_X7_isWind G z) 0 0 pc lv st ws
theorem wX7_isWind_cl61 : Cond.constantLong RX7 61 (zL 3) ∈ wsX7_isWind := by decide +kernel
set_option maxHeartbeats 4000000 in
set_option maxRecDepth 100000 in
/-- isWind -/
theorem c_X7_isWind (G : XG) (z : Int) (hz : Z32 z) : Con G yX7_isWind wsX7_isWind (rmL 1) 0 0 [.int (zI z)] ([]) (P_X7_isWind G z) := by
  refine x_start (cc := cX7_isWind) (nL := 1) (ret := (some .boolean)) (by decide) rfl (Nat.le_of_ble_eq_true rfl) (fun E => ?_)
  show W_X7_isWind G E z 0 [(0, .int (zI z))] [] ([])
  refine x_iload_n 1 rfl dX7_isWind_0 0 rfl ?_
  refine x_i2l 2 rfl dX7_isWind_1 (z := (zL z)) (zI_i2l (by omega)) ?_
  refine x_lconst 3 rfl dX7_isWind_2 (z := 0) (by decide) ?_
  refine x_ldc2 6 rfl (v := zL 3) wX7_isWind_cl61 dX7_isWind_3 ?_
  refine x_callS0 9 rfl (c_X7_in G z 0 3 (by omega) (by omega) (by decide)) (fun _ _ h => h.2) gX7_isWind_X7_in rfl rfl rfl hd_X7_in ⟨Nat.le_of_ble_eq_true rfl, Nat.le_of_ble_eq_true rfl⟩ (As := [.long (zL z), .long (zL 0), .long (zL 3)]) (rest := []) rfl rfl (Nat.le_of_ble_eq_true rfl) dX7_isWind_6 ⟨Nat.zero_le _, Nat.zero_le _⟩ (fun v hq => ?_)
  obtain ⟨rfl, -⟩ := hq
  refine x_zret rfl ?_ dX7_isWind_9
  exact ⟨rfl, rfl⟩

abbrev P_X7_isTune (G : XG) (z : Int) : Option Value → va_W → Prop := fun v w => v = some (.int (zB (isT z))) ∧ w = []
abbrev W_X7_isTune (G : XG) (E : XE) (z : Int) (pc : Nat) (lv : List (Nat × Value)) (st : List Value) (ws : va_W) : Prop := Wx G E (rmL 1) cX7_isTune 1 RX7 wsX7_isTune (some .boolean) "isTune" 0 0 (P_X7_isTune G z) 0 0 pc lv st ws
theorem wX7_isTune_cl63 : Cond.constantLong RX7 63 (zL 4) ∈ wsX7_isTune := by decide +kernel
theorem wX7_isTune_cl65 : Cond.constantLong RX7 65 (zL 7) ∈ wsX7_isTune := by decide +kernel
theorem wX7_isTune_cl67 : Cond.constantLong RX7 67 (zL 16) ∈ wsX7_isTune := by decide +kernel
theorem wX7_isTune_cl69 : Cond.constantLong RX7 69 (zL 31) ∈ wsX7_isTune := by decide +kernel
theorem wX7_isTune_cl71 : Cond.constantLong RX7 71 (zL 64) ∈ wsX7_isTune := by decide +kernel
theorem wX7_isTune_cl73 : Cond.constantLong RX7 73 (zL 127) ∈ wsX7_isTune := by decide +kernel
theorem wX7_isTune_cl75 : Cond.constantLong RX7 75 (zL 256) ∈ wsX7_isTune := by decide +kernel
theorem wX7_isTune_cl77 : Cond.constantLong RX7 77 (zL 511) ∈ wsX7_isTune := by decide +kernel
theorem wX7_isTune_cl79 : Cond.constantLong RX7 79 (zL 1024) ∈ wsX7_isTune := by decide +kernel
theorem wX7_isTune_cl81 : Cond.constantLong RX7 81 (zL 2047) ∈ wsX7_isTune := by decide +kernel
set_option maxHeartbeats 4000000 in
set_option maxRecDepth 100000 in
/-- isTune -/
theorem c_X7_isTune (G : XG) (z : Int) (hz : Z32 z) : Con G yX7_isTune wsX7_isTune (rmL 1) 0 0 [.int (zI z)] ([]) (P_X7_isTune G z) := by
  refine x_start (cc := cX7_isTune) (nL := 1) (ret := (some .boolean)) (by decide) rfl (Nat.le_of_ble_eq_true rfl) (fun E => ?_)
  show W_X7_isTune G E z 0 [(0, .int (zI z))] [] ([])
  refine x_iload_n 1 rfl dX7_isTune_0 0 rfl ?_
  refine x_i2l 2 rfl dX7_isTune_1 (z := (zL z)) (zI_i2l (by omega)) ?_
  refine x_ldc2 5 rfl (v := zL 4) wX7_isTune_cl63 dX7_isTune_2 ?_
  refine x_ldc2 8 rfl (v := zL 7) wX7_isTune_cl65 dX7_isTune_5 ?_
  refine x_callS0 11 rfl (c_X7_in G z 4 7 (by omega) (by decide) (by decide)) (fun _ _ h => h.2) gX7_isTune_X7_in rfl rfl rfl hd_X7_in ⟨Nat.le_of_ble_eq_true rfl, Nat.le_of_ble_eq_true rfl⟩ (As := [.long (zL z), .long (zL 4), .long (zL 7)]) (rest := []) rfl rfl (Nat.le_of_ble_eq_true rfl) dX7_isTune_8 ⟨Nat.zero_le _, Nat.zero_le _⟩ (fun v hq => ?_)
  obtain ⟨rfl, -⟩ := hq
  refine x_bif_ne 14 rfl (tgt := 70) dX7_isTune_11 (by decide) (fun h11 => ?_) (fun h11 => ?_)
  · have h11 := of_decide_eq_true h11
    refine x_iconst 71 rfl dX7_isTune_70 (z := 1) (by decide) ?_
    refine x_goto dX7_isTune_71 (tgt := 75) (by decide) ?_
    refine x_int (y := zB (isT z)) (zB_d (by omega)) ?_
    refine x_zret rfl ?_ dX7_isTune_75
    exact ⟨rfl, rfl⟩
  · have h11 := of_decide_eq_false h11
    refine x_iload_n 15 rfl dX7_isTune_14 0 rfl ?_
    refine x_i2l 16 rfl dX7_isTune_15 (z := (zL z)) (zI_i2l (by omega)) ?_
    refine x_ldc2 19 rfl (v := zL 16) wX7_isTune_cl67 dX7_isTune_16 ?_
    refine x_ldc2 22 rfl (v := zL 31) wX7_isTune_cl69 dX7_isTune_19 ?_
    refine x_callS0 25 rfl (c_X7_in G z 16 31 (by omega) (by decide) (by decide)) (fun _ _ h => h.2) gX7_isTune_X7_in rfl rfl rfl hd_X7_in ⟨Nat.le_of_ble_eq_true rfl, Nat.le_of_ble_eq_true rfl⟩ (As := [.long (zL z), .long (zL 16), .long (zL 31)]) (rest := []) rfl rfl (Nat.le_of_ble_eq_true rfl) dX7_isTune_22 ⟨Nat.zero_le _, Nat.zero_le _⟩ (fun v hq => ?_)
    obtain ⟨rfl, -⟩ := hq
    refine x_bif_ne 28 rfl (tgt := 70) dX7_isTune_25 (by decide) (fun h25 => ?_) (fun h25 => ?_)
    · have h25 := of_decide_eq_true h25
      refine x_iconst 71 rfl dX7_isTune_70 (z := 1) (by decide) ?_
      refine x_goto dX7_isTune_71 (tgt := 75) (by decide) ?_
      refine x_int (y := zB (isT z)) (zB_d (by omega)) ?_
      refine x_zret rfl ?_ dX7_isTune_75
      exact ⟨rfl, rfl⟩
    · have h25 := of_decide_eq_false h25
      refine x_iload_n 29 rfl dX7_isTune_28 0 rfl ?_
      refine x_i2l 30 rfl dX7_isTune_29 (z := (zL z)) (zI_i2l (by omega)) ?_
      refine x_ldc2 33 rfl (v := zL 64) wX7_isTune_cl71 dX7_isTune_30 ?_
      refine x_ldc2 36 rfl (v := zL 127) wX7_isTune_cl73 dX7_isTune_33 ?_
      refine x_callS0 39 rfl (c_X7_in G z 64 127 (by omega) (by decide) (by decide)) (fun _ _ h => h.2) gX7_isTune_X7_in rfl rfl rfl hd_X7_in ⟨Nat.le_of_ble_eq_true rfl, Nat.le_of_ble_eq_true rfl⟩ (As := [.long (zL z), .long (zL 64), .long (zL 127)]) (rest := []) rfl rfl (Nat.le_of_ble_eq_true rfl) dX7_isTune_36 ⟨Nat.zero_le _, Nat.zero_le _⟩ (fun v hq => ?_)
      obtain ⟨rfl, -⟩ := hq
      refine x_bif_ne 42 rfl (tgt := 70) dX7_isTune_39 (by decide) (fun h39 => ?_) (fun h39 => ?_)
      · have h39 := of_decide_eq_true h39
        refine x_iconst 71 rfl dX7_isTune_70 (z := 1) (by decide) ?_
        refine x_goto dX7_isTune_71 (tgt := 75) (by decide) ?_
        refine x_int (y := zB (isT z)) (zB_d (by omega)) ?_
        refine x_zret rfl ?_ dX7_isTune_75
        exact ⟨rfl, rfl⟩
      · have h39 := of_decide_eq_false h39
        refine x_iload_n 43 rfl dX7_isTune_42 0 rfl ?_
        refine x_i2l 44 rfl dX7_isTune_43 (z := (zL z)) (zI_i2l (by omega)) ?_
        refine x_ldc2 47 rfl (v := zL 256) wX7_isTune_cl75 dX7_isTune_44 ?_
        refine x_ldc2 50 rfl (v := zL 511) wX7_isTune_cl77 dX7_isTune_47 ?_
        refine x_callS0 53 rfl (c_X7_in G z 256 511 (by omega) (by decide) (by decide)) (fun _ _ h => h.2) gX7_isTune_X7_in rfl rfl rfl hd_X7_in ⟨Nat.le_of_ble_eq_true rfl, Nat.le_of_ble_eq_true rfl⟩ (As := [.long (zL z), .long (zL 256), .long (zL 511)]) (rest := []) rfl rfl (Nat.le_of_ble_eq_true rfl) dX7_isTune_50 ⟨Nat.zero_le _, Nat.zero_le _⟩ (fun v hq => ?_)
        obtain ⟨rfl, -⟩ := hq
        refine x_bif_ne 56 rfl (tgt := 70) dX7_isTune_53 (by decide) (fun h53 => ?_) (fun h53 => ?_)
        · have h53 := of_decide_eq_true h53
          refine x_iconst 71 rfl dX7_isTune_70 (z := 1) (by decide) ?_
          refine x_goto dX7_isTune_71 (tgt := 75) (by decide) ?_
          refine x_int (y := zB (isT z)) (zB_d (by omega)) ?_
          refine x_zret rfl ?_ dX7_isTune_75
          exact ⟨rfl, rfl⟩
        · have h53 := of_decide_eq_false h53
          refine x_iload_n 57 rfl dX7_isTune_56 0 rfl ?_
          refine x_i2l 58 rfl dX7_isTune_57 (z := (zL z)) (zI_i2l (by omega)) ?_
          refine x_ldc2 61 rfl (v := zL 1024) wX7_isTune_cl79 dX7_isTune_58 ?_
          refine x_ldc2 64 rfl (v := zL 2047) wX7_isTune_cl81 dX7_isTune_61 ?_
          refine x_callS0 67 rfl (c_X7_in G z 1024 2047 (by omega) (by decide) (by decide)) (fun _ _ h => h.2) gX7_isTune_X7_in rfl rfl rfl hd_X7_in ⟨Nat.le_of_ble_eq_true rfl, Nat.le_of_ble_eq_true rfl⟩ (As := [.long (zL z), .long (zL 1024), .long (zL 2047)]) (rest := []) rfl rfl (Nat.le_of_ble_eq_true rfl) dX7_isTune_64 ⟨Nat.zero_le _, Nat.zero_le _⟩ (fun v hq => ?_)
          obtain ⟨rfl, -⟩ := hq
          refine x_bif_eq 70 rfl (tgt := 74) dX7_isTune_67 (by decide) (fun h67 => ?_) (fun h67 => ?_)
          · have h67 := of_decide_eq_false h67
            refine x_iconst 75 rfl dX7_isTune_74 (z := 0) (by decide) ?_
            refine x_int (y := zB (isT z)) (zB_n (by omega)) ?_
            refine x_zret rfl ?_ dX7_isTune_75
            exact ⟨rfl, rfl⟩
          · have h67 := of_decide_eq_true h67
            refine x_iconst 71 rfl dX7_isTune_70 (z := 1) (by decide) ?_
            refine x_goto dX7_isTune_71 (tgt := 75) (by decide) ?_
            refine x_int (y := zB (isT z)) (zB_d (by omega)) ?_
            refine x_zret rfl ?_ dX7_isTune_75
            exact ⟨rfl, rfl⟩

abbrev P_X7_notes (G : XG) (t : Nat) : Option Value → va_W → Prop := fun v w => v = some (.int (zI ((notesN t : Nat) : Int))) ∧ w = []
abbrev W_X7_notes (G : XG) (E : XE) (t : Nat) (pc : Nat) (lv : List (Nat × Value)) (st : List Value) (ws : va_W) : Prop := Wx G E (rmL 0) cX7_notes 3 RX7 wsX7_notes (some .int) "notes" 0 0 (P_X7_notes G t) 0 0 pc lv st ws
set_option maxHeartbeats 4000000 in
set_option maxRecDepth 100000 in
/-- notes -/
theorem c_X7_notes (G : XG) (t : Nat) (ht : t < 2147483648) : Con G yX7_notes wsX7_notes (rmL 0) 0 0 [.int (zI ((t : Nat) : Int))] ([]) (P_X7_notes G t) := by
  refine x_start (cc := cX7_notes) (nL := 3) (ret := (some .int)) (by decide) rfl (Nat.le_of_ble_eq_true rfl) (fun E => ?_)
  show W_X7_notes G E t 0 [(0, .int (zI ((t : Nat) : Int)))] [] ([])
  refine x_iconst 1 rfl dX7_notes_0 (z := 0) (by decide) ?_
  refine x_istore_n 2 rfl (lv' := [(1, .int (zI 0)), (0, .int (zI ((t : Nat) : Int)))]) dX7_notes_1 (by decide) rfl ?_
  refine x_iload_n 3 rfl dX7_notes_2 1 rfl ?_
  refine x_istore_n 4 rfl (lv' := [(2, .int (zI ((t : Nat) : Int))), (1, .int (zI 0)), (0, .int (zI ((t : Nat) : Int)))]) dX7_notes_3 (by decide) rfl ?_
  have L4 : ∀ (f4 : Nat) (l : Nat) (n : Nat) (hl : l < 2147483648) (hn : notesN t = n + notesN l), l < f4 → W_X7_notes G E t 4 [(0, .int (zI ((t : Nat) : Int))), (1, .int (zI ((n : Nat) : Int))), (2, .int (zI ((l : Nat) : Int)))] [] ([]) := by
    intro f4
    induction f4 with
    | zero => intro l n hl hn hf4; exact absurd hf4 (Nat.not_lt_zero _)
    | succ f4 ih4 =>
      intro l n hl hn hf4
      refine x_iload_n 5 rfl dX7_notes_4 2 rfl ?_
      refine x_iconst 6 rfl dX7_notes_5 (z := 3) (by decide) ?_
      refine x_icmp_le 9 rfl (tgt := 19) dX7_notes_6 (by decide) (by omega) (by decide) (fun h6 => ?_) (fun h6 => ?_)
      · skip
        refine x_iload_n 20 rfl dX7_notes_19 1 rfl ?_
        refine x_iret rfl ?_ dX7_notes_20
        have h0 := notes_le3 l (by omega)
        exact ⟨by rw [hn, h0]; rfl, rfl⟩
      · skip
        refine x_iload_n 10 rfl dX7_notes_9 2 rfl ?_
        refine x_iconst 11 rfl dX7_notes_10 (z := 4) (by decide) ?_
        refine x_idiv 12 rfl dX7_notes_11 (z := ((l / 4 : Nat) : Int)) (by decide) (zI_div (a := l) (d := 4) (by omega) (by omega) (by omega)) ?_
        refine x_istore_n 13 rfl (lv' := [(2, .int (zI ((l / 4 : Nat) : Int))), (0, .int (zI ((t : Nat) : Int))), (1, .int (zI ((n : Nat) : Int)))]) dX7_notes_12 (by decide) rfl ?_
        refine x_iinc 16 rfl (lv' := [(1, .int (zI ((n + 1 : Nat) : Int))), (2, .int (zI ((l / 4 : Nat) : Int))), (0, .int (zI ((t : Nat) : Int)))]) dX7_notes_13 2 rfl (b := ((n + 1 : Nat) : Int)) (by omega) (by decide) rfl ?_
        refine x_goto dX7_notes_16 (tgt := 4) (by decide) ?_
        refine x_lv [2, 0, 1] rfl ?_
        exact ih4 (l / 4) (n + 1) (by omega) (by have := notes_step (t := l) (by omega) hl; omega) (by omega)
  refine x_lv [2, 1, 0] rfl ?_
  exact L4 _ t 0 (by omega) (by omega) (Nat.lt_succ_self _)

abbrev P_X7_note (G : XG) (t : Nat) (i : Nat) : Option Value → va_W → Prop := fun v w => v = some (.int (zI ((noteN t i : Nat) : Int))) ∧ w = []
abbrev W_X7_note (G : XG) (E : XE) (t : Nat) (i : Nat) (pc : Nat) (lv : List (Nat × Value)) (st : List Value) (ws : va_W) : Prop := Wx G E (rmL 1) cX7_note 2 RX7 wsX7_note (some .int) "note" 0 0 (P_X7_note G t i) 0 0 pc lv st ws
set_option maxHeartbeats 4000000 in
set_option maxRecDepth 100000 in
/-- note -/
theorem c_X7_note (G : XG) (t i : Nat) (hv : vt t) (hi : i < notesN t) : Con G yX7_note wsX7_note (rmL 1) 0 0 [.int (zI ((t : Nat) : Int)), .int (zI ((i : Nat) : Int))] ([]) (P_X7_note G t i) := by
  refine x_start (cc := cX7_note) (nL := 2) (ret := (some .int)) (by decide) rfl (Nat.le_of_ble_eq_true rfl) (fun E => ?_)
  show W_X7_note G E t i 0 [(0, .int (zI ((t : Nat) : Int))), (1, .int (zI ((i : Nat) : Int)))] [] ([])
  have ht := vt_lt hv
  have hn := notes_vt t ht hv
  obtain ⟨q, hq⟩ : ∃ q, q = t / 4 ^ (notesN t - 1 - i) := ⟨_, rfl⟩
  have hq8 : q ≤ t := by rw [hq]; exact Nat.div_le_self _ _
  refine x_iload_n 1 rfl dX7_note_0 0 rfl ?_
  refine x_iconst 2 rfl dX7_note_1 (z := 2) (by decide) ?_
  refine x_iload_n 3 rfl dX7_note_2 0 rfl ?_
  refine x_callS0 6 rfl (c_X7_notes G t (by omega)) (fun _ _ h => h.2) gX7_note_X7_notes rfl rfl rfl hd_X7_notes ⟨Nat.le_of_ble_eq_true rfl, Nat.le_of_ble_eq_true rfl⟩ (As := [.int (zI ((t : Nat) : Int))]) (rest := [.int (zI 2), .int (zI ((t : Nat) : Int))]) rfl rfl (Nat.le_of_ble_eq_true rfl) dX7_note_3 ⟨Nat.zero_le _, Nat.zero_le _⟩ (fun v hq => ?_)
  obtain ⟨rfl, -⟩ := hq
  refine x_iconst 7 rfl dX7_note_6 (z := 1) (by decide) ?_
  refine x_isub 8 rfl dX7_note_7 (z := ((notesN t : Nat) : Int) - 1) (rfl) ?_
  refine x_iload_n 9 rfl dX7_note_8 1 rfl ?_
  refine x_isub 10 rfl dX7_note_9 (z := (((notesN t : Nat) : Int) - 1) - ((i : Nat) : Int)) (rfl) ?_
  refine x_imul 11 rfl dX7_note_10 (z := 2 * ((((notesN t : Nat) : Int) - 1) - ((i : Nat) : Int))) (rfl) ?_
  refine x_ishr 12 rfl dX7_note_11 (z := ((q : Nat) : Int)) (by rw [hq]; exact zI_shr4 (by omega) (by omega) (by omega)) ?_
  refine x_iconst 13 rfl dX7_note_12 (z := 3) (by decide) ?_
  refine x_iand 14 rfl dX7_note_13 (z := ((noteN t i : Nat) : Int)) (by unfold noteN; rw [← hq]; exact zI_and3 (t := q) (by omega)) ?_
  refine x_iret rfl ?_ dX7_note_14
  exact ⟨rfl, rfl⟩

abbrev P_X7_front (G : XG) (t : Nat) (n : Nat) : Option Value → va_W → Prop := fun v w => v = some (.int (zI ((frontN t n : Nat) : Int))) ∧ w = []
abbrev W_X7_front (G : XG) (E : XE) (t : Nat) (n : Nat) (pc : Nat) (lv : List (Nat × Value)) (st : List Value) (ws : va_W) : Prop := Wx G E (rmL 1) cX7_front 2 RX7 wsX7_front (some .int) "front" 0 0 (P_X7_front G t n) 0 0 pc lv st ws
set_option maxHeartbeats 4000000 in
set_option maxRecDepth 100000 in
/-- front -/
theorem c_X7_front (G : XG) (t n : Nat) (ht : t < 2147483648) (hn : n ≤ notesN t) : Con G yX7_front wsX7_front (rmL 1) 0 0 [.int (zI ((t : Nat) : Int)), .int (zI ((n : Nat) : Int))] ([]) (P_X7_front G t n) := by
  refine x_start (cc := cX7_front) (nL := 2) (ret := (some .int)) (by decide) rfl (Nat.le_of_ble_eq_true rfl) (fun E => ?_)
  show W_X7_front G E t n 0 [(0, .int (zI ((t : Nat) : Int))), (1, .int (zI ((n : Nat) : Int)))] [] ([])
  have h16 := notes_15 ht
  refine x_iload_n 1 rfl dX7_front_0 0 rfl ?_
  refine x_iconst 2 rfl dX7_front_1 (z := 2) (by decide) ?_
  refine x_iload_n 3 rfl dX7_front_2 0 rfl ?_
  refine x_callS0 6 rfl (c_X7_notes G t (by omega)) (fun _ _ h => h.2) gX7_front_X7_notes rfl rfl rfl hd_X7_notes ⟨Nat.le_of_ble_eq_true rfl, Nat.le_of_ble_eq_true rfl⟩ (As := [.int (zI ((t : Nat) : Int))]) (rest := [.int (zI 2), .int (zI ((t : Nat) : Int))]) rfl rfl (Nat.le_of_ble_eq_true rfl) dX7_front_3 ⟨Nat.zero_le _, Nat.zero_le _⟩ (fun v hq => ?_)
  obtain ⟨rfl, -⟩ := hq
  refine x_iload_n 7 rfl dX7_front_6 1 rfl ?_
  refine x_isub 8 rfl dX7_front_7 (z := ((notesN t : Nat) : Int) - ((n : Nat) : Int)) (rfl) ?_
  refine x_imul 9 rfl dX7_front_8 (z := 2 * (((notesN t : Nat) : Int) - ((n : Nat) : Int))) (rfl) ?_
  refine x_ishr 10 rfl dX7_front_9 (z := ((frontN t n : Nat) : Int)) (zI_shr4 (k := notesN t - n) (by omega) (by omega) (by omega)) ?_
  refine x_iret rfl ?_ dX7_front_10
  exact ⟨rfl, rfl⟩

abbrev P_X7_left (G : XG) (t : Nat) (w : Nat) : Option Value → va_W → Prop := fun v ws => v = some (.int (zI ((leftN t w : Nat) : Int))) ∧ ws = []
abbrev W_X7_left (G : XG) (E : XE) (t : Nat) (w : Nat) (pc : Nat) (lv : List (Nat × Value)) (st : List Value) (ws : va_W) : Prop := Wx G E (rmL 2) cX7_left 4 RX7 wsX7_left (some .int) "left" 0 0 (P_X7_left G t w) 0 0 pc lv st ws
set_option maxHeartbeats 4000000 in
set_option maxRecDepth 100000 in
/-- left -/
theorem c_X7_left (G : XG) (t w : Nat) (hv : vt t) (hw : w < 4) : Con G yX7_left wsX7_left (rmL 2) 0 0 [.int (zI ((t : Nat) : Int)), .int (zI ((w : Nat) : Int))] ([]) (P_X7_left G t w) := by
  refine x_start (cc := cX7_left) (nL := 4) (ret := (some .int)) (by decide) rfl (Nat.le_of_ble_eq_true rfl) (fun E => ?_)
  show W_X7_left G E t w 0 [(0, .int (zI ((t : Nat) : Int))), (1, .int (zI ((w : Nat) : Int)))] [] ([])
  have ht := vt_lt hv
  have hn := notes_vt t ht hv
  refine x_iconst 1 rfl dX7_left_0 (z := 1) (by decide) ?_
  refine x_istore_n 2 rfl (lv' := [(2, .int (zI 1)), (0, .int (zI ((t : Nat) : Int))), (1, .int (zI ((w : Nat) : Int)))]) dX7_left_1 (by decide) rfl ?_
  refine x_iconst 3 rfl dX7_left_2 (z := 0) (by decide) ?_
  refine x_istore_n 4 rfl (lv' := [(3, .int (zI 0)), (2, .int (zI 1)), (0, .int (zI ((t : Nat) : Int))), (1, .int (zI ((w : Nat) : Int)))]) dX7_left_3 (by decide) rfl ?_
  have L4 : ∀ (f4 : Nat) (i : Nat) (hi : i ≤ notesN t), notesN t - i < f4 → W_X7_left G E t w 4 [(0, .int (zI ((t : Nat) : Int))), (1, .int (zI ((w : Nat) : Int))), (2, .int (zI ((leftN (t / 4 ^ (notesN t - i)) w : Nat) : Int))), (3, .int (zI ((i : Nat) : Int)))] [] ([]) := by
    intro f4
    induction f4 with
    | zero => intro i hi hf4; exact absurd hf4 (Nat.not_lt_zero _)
    | succ f4 ih4 =>
      intro i hi hf4
      refine x_iload_n 5 rfl dX7_left_4 3 rfl ?_
      refine x_iload_n 6 rfl dX7_left_5 0 rfl ?_
      refine x_callS0 9 rfl (c_X7_notes G t (by omega)) (fun _ _ h => h.2) gX7_left_X7_notes rfl rfl rfl hd_X7_notes ⟨Nat.le_of_ble_eq_true rfl, Nat.le_of_ble_eq_true rfl⟩ (As := [.int (zI ((t : Nat) : Int))]) (rest := [.int (zI ((i : Nat) : Int))]) rfl rfl (Nat.le_of_ble_eq_true rfl) dX7_left_6 ⟨Nat.zero_le _, Nat.zero_le _⟩ (fun v hq => ?_)
      obtain ⟨rfl, -⟩ := hq
      refine x_icmp_ge 12 rfl (tgt := 43) dX7_left_9 (by decide) (by omega) (by omega) (fun h9 => ?_) (fun h9 => ?_)
      · skip
        refine x_iload_n 44 rfl dX7_left_43 2 rfl ?_
        refine x_iret rfl ?_ dX7_left_44
        obtain rfl : i = notesN t := by omega
        exact ⟨by rw [Nat.sub_self, Nat.pow_zero, Nat.div_one], rfl⟩
      · skip
        obtain ⟨q, hq⟩ : ∃ q, q = t / 4 ^ (notesN t - 1 - i) := ⟨_, rfl⟩
        have hqv := ((div_vt t ht hv (notesN t - 1 - i) (by omega)).1 (by omega)).1
        rw [← hq] at hqv
        have hq8 := vt_lt hqv
        have e4 : q / 4 = t / 4 ^ (notesN t - i) := by rw [hq, ← div4s, show notesN t - 1 - i + 1 = notesN t - i by omega]
        have hno : noteN t i = q % 4 := by unfold noteN; rw [← hq]
        have hq4 : 4 ≤ q := by unfold vt at hqv; omega
        have hs := left_step q hq8 w hw hq4
        rw [e4] at hs
        refine x_iload_n 13 rfl dX7_left_12 0 rfl ?_
        refine x_iload_n 14 rfl dX7_left_13 3 rfl ?_
        refine x_callS0 17 rfl (c_X7_note G t i hv (by omega)) (fun _ _ h => h.2) gX7_left_X7_note rfl rfl rfl hd_X7_note ⟨Nat.le_of_ble_eq_true rfl, Nat.le_of_ble_eq_true rfl⟩ (As := [.int (zI ((t : Nat) : Int)), .int (zI ((i : Nat) : Int))]) (rest := []) rfl rfl (Nat.le_of_ble_eq_true rfl) dX7_left_14 ⟨Nat.zero_le _, Nat.zero_le _⟩ (fun v hq => ?_)
        obtain ⟨rfl, -⟩ := hq
        refine x_iconst 18 rfl dX7_left_17 (z := 3) (by decide) ?_
        refine x_iload_n 19 rfl dX7_left_18 1 rfl ?_
        refine x_isub 20 rfl dX7_left_19 (z := 3 - ((w : Nat) : Int)) (rfl) ?_
        refine x_icmp_le 23 rfl (tgt := 27) dX7_left_20 (by decide) (by have := note_lt t i; omega) (by omega) (fun h20 => ?_) (fun h20 => ?_)
        · skip
          refine x_iconst 28 rfl dX7_left_27 (z := 4) (by decide) ?_
          refine x_iload_n 29 rfl dX7_left_28 2 rfl ?_
          refine x_imul 30 rfl dX7_left_29 (z := ((4 * (leftN (t / 4 ^ (notesN t - i)) w) : Nat) : Int)) (by omega) ?_
          refine x_iload_n 31 rfl dX7_left_30 0 rfl ?_
          refine x_iload_n 32 rfl dX7_left_31 3 rfl ?_
          refine x_callS0 35 rfl (c_X7_note G t i hv (by omega)) (fun _ _ h => h.2) gX7_left_X7_note rfl rfl rfl hd_X7_note ⟨Nat.le_of_ble_eq_true rfl, Nat.le_of_ble_eq_true rfl⟩ (As := [.int (zI ((t : Nat) : Int)), .int (zI ((i : Nat) : Int))]) (rest := [.int (zI ((4 * (leftN (t / 4 ^ (notesN t - i)) w) : Nat) : Int))]) rfl rfl (Nat.le_of_ble_eq_true rfl) dX7_left_32 ⟨Nat.zero_le _, Nat.zero_le _⟩ (fun v hq => ?_)
          obtain ⟨rfl, -⟩ := hq
          refine x_iadd 36 rfl dX7_left_35 (z := ((4 * (leftN (t / 4 ^ (notesN t - i)) w) + (noteN t i) : Nat) : Int)) (by omega) ?_
          refine x_istore_n 37 rfl (lv' := [(2, .int (zI ((4 * (leftN (t / 4 ^ (notesN t - i)) w) + (noteN t i) : Nat) : Int))), (0, .int (zI ((t : Nat) : Int))), (1, .int (zI ((w : Nat) : Int))), (3, .int (zI ((i : Nat) : Int)))]) dX7_left_36 (by decide) rfl ?_
          refine x_iinc 40 rfl (lv' := [(3, .int (zI ((i + 1 : Nat) : Int))), (2, .int (zI ((4 * (leftN (t / 4 ^ (notesN t - i)) w) + (noteN t i) : Nat) : Int))), (0, .int (zI ((t : Nat) : Int))), (1, .int (zI ((w : Nat) : Int)))]) dX7_left_37 3 rfl (b := ((i + 1 : Nat) : Int)) (by omega) (by decide) rfl ?_
          refine x_goto dX7_left_40 (tgt := 4) (by decide) ?_
          refine x_lve (congrArg (fun zz : Int => ([(3, .int (zI ((i + 1 : Nat) : Int))), (2, .int (zI zz)), (0, .int (zI ((t : Nat) : Int))), (1, .int (zI ((w : Nat) : Int)))] : List (Nat × Value))) (by rw [show notesN t - (i + 1) = notesN t - 1 - i by omega, ← hq, hs]; split <;> omega : ((4 * (leftN (t / 4 ^ (notesN t - i)) w) + (noteN t i) : Nat) : Int) = ((leftN (t / 4 ^ (notesN t - (i + 1))) w : Nat) : Int))) ?_
          refine x_lv [2, 3, 1, 0] rfl ?_
          exact ih4 (i + 1) (by omega) (by omega)
        · skip
          refine x_iload_n 24 rfl dX7_left_23 2 rfl ?_
          refine x_goto dX7_left_24 (tgt := 36) (by decide) ?_
          refine x_istore_n 37 rfl (lv' := [(2, .int (zI ((leftN (t / 4 ^ (notesN t - i)) w : Nat) : Int))), (0, .int (zI ((t : Nat) : Int))), (1, .int (zI ((w : Nat) : Int))), (3, .int (zI ((i : Nat) : Int)))]) dX7_left_36 (by decide) rfl ?_
          refine x_iinc 40 rfl (lv' := [(3, .int (zI ((i + 1 : Nat) : Int))), (2, .int (zI ((leftN (t / 4 ^ (notesN t - i)) w : Nat) : Int))), (0, .int (zI ((t : Nat) : Int))), (1, .int (zI ((w : Nat) : Int)))]) dX7_left_37 3 rfl (b := ((i + 1 : Nat) : Int)) (by omega) (by decide) rfl ?_
          refine x_goto dX7_left_40 (tgt := 4) (by decide) ?_
          refine x_lve (congrArg (fun zz : Int => ([(3, .int (zI ((i + 1 : Nat) : Int))), (2, .int (zI zz)), (0, .int (zI ((t : Nat) : Int))), (1, .int (zI ((w : Nat) : Int)))] : List (Nat × Value))) (by rw [show notesN t - (i + 1) = notesN t - 1 - i by omega, ← hq, hs]; split <;> omega : ((leftN (t / 4 ^ (notesN t - i)) w : Nat) : Int) = ((leftN (t / 4 ^ (notesN t - (i + 1))) w : Nat) : Int))) ?_
          refine x_lv [2, 3, 1, 0] rfl ?_
          exact ih4 (i + 1) (by omega) (by omega)
  refine x_lve (congrArg (fun zz : Int => ([(3, .int (zI 0)), (2, .int (zI zz)), (0, .int (zI ((t : Nat) : Int))), (1, .int (zI ((w : Nat) : Int)))] : List (Nat × Value))) (by rw [Nat.sub_zero, (div_vt t ht hv (notesN t) (by omega)).2.1 rfl]; rfl : 1 = ((leftN (t / 4 ^ (notesN t - 0)) w : Nat) : Int))) ?_
  refine x_lv [2, 3, 1, 0] rfl ?_
  exact L4 _ 0 (by omega) (Nat.lt_succ_self _)

abbrev P_X7_lisped (G : XG) (t : Nat) : Option Value → va_W → Prop := fun v ws => v = some (.int (zI ((lispN t : Nat) : Int))) ∧ ws = []
abbrev W_X7_lisped (G : XG) (E : XE) (t : Nat) (pc : Nat) (lv : List (Nat × Value)) (st : List Value) (ws : va_W) : Prop := Wx G E (rmL 2) cX7_lisped 3 RX7 wsX7_lisped (some .int) "lisped" 0 0 (P_X7_lisped G t) 0 0 pc lv st ws
set_option maxHeartbeats 4000000 in
set_option maxRecDepth 100000 in
/-- lisped -/
theorem c_X7_lisped (G : XG) (t : Nat) (hv : vt t) : Con G yX7_lisped wsX7_lisped (rmL 2) 0 0 [.int (zI ((t : Nat) : Int))] ([]) (P_X7_lisped G t) := by
  refine x_start (cc := cX7_lisped) (nL := 3) (ret := (some .int)) (by decide) rfl (Nat.le_of_ble_eq_true rfl) (fun E => ?_)
  show W_X7_lisped G E t 0 [(0, .int (zI ((t : Nat) : Int)))] [] ([])
  have ht := vt_lt hv
  have hn := notes_vt t ht hv
  refine x_iconst 1 rfl dX7_lisped_0 (z := 1) (by decide) ?_
  refine x_istore_n 2 rfl (lv' := [(1, .int (zI 1)), (0, .int (zI ((t : Nat) : Int)))]) dX7_lisped_1 (by decide) rfl ?_
  refine x_iconst 3 rfl dX7_lisped_2 (z := 0) (by decide) ?_
  refine x_istore_n 4 rfl (lv' := [(2, .int (zI 0)), (1, .int (zI 1)), (0, .int (zI ((t : Nat) : Int)))]) dX7_lisped_3 (by decide) rfl ?_
  have L4 : ∀ (f4 : Nat) (i : Nat) (hi : i ≤ notesN t), notesN t - i < f4 → W_X7_lisped G E t 4 [(0, .int (zI ((t : Nat) : Int))), (1, .int (zI ((lispN (t / 4 ^ (notesN t - i)) : Nat) : Int))), (2, .int (zI ((i : Nat) : Int)))] [] ([]) := by
    intro f4
    induction f4 with
    | zero => intro i hi hf4; exact absurd hf4 (Nat.not_lt_zero _)
    | succ f4 ih4 =>
      intro i hi hf4
      refine x_iload_n 5 rfl dX7_lisped_4 2 rfl ?_
      refine x_iload_n 6 rfl dX7_lisped_5 0 rfl ?_
      refine x_callS0 9 rfl (c_X7_notes G t (by omega)) (fun _ _ h => h.2) gX7_lisped_X7_notes rfl rfl rfl hd_X7_notes ⟨Nat.le_of_ble_eq_true rfl, Nat.le_of_ble_eq_true rfl⟩ (As := [.int (zI ((t : Nat) : Int))]) (rest := [.int (zI ((i : Nat) : Int))]) rfl rfl (Nat.le_of_ble_eq_true rfl) dX7_lisped_6 ⟨Nat.zero_le _, Nat.zero_le _⟩ (fun v hq => ?_)
      obtain ⟨rfl, -⟩ := hq
      refine x_icmp_ge 12 rfl (tgt := 41) dX7_lisped_9 (by decide) (by omega) (by omega) (fun h9 => ?_) (fun h9 => ?_)
      · skip
        refine x_iload_n 42 rfl dX7_lisped_41 1 rfl ?_
        refine x_iret rfl ?_ dX7_lisped_42
        obtain rfl : i = notesN t := by omega
        exact ⟨by rw [Nat.sub_self, Nat.pow_zero, Nat.div_one], rfl⟩
      · skip
        obtain ⟨q, hq⟩ : ∃ q, q = t / 4 ^ (notesN t - 1 - i) := ⟨_, rfl⟩
        have hqv := ((div_vt t ht hv (notesN t - 1 - i) (by omega)).1 (by omega)).1
        rw [← hq] at hqv
        have hq8 := vt_lt hqv
        have e4 : q / 4 = t / 4 ^ (notesN t - i) := by rw [hq, ← div4s, show notesN t - 1 - i + 1 = notesN t - i by omega]
        have hno : noteN t i = q % 4 := by unfold noteN; rw [← hq]
        have hq4 : 4 ≤ q := by unfold vt at hqv; omega
        have hs := lisp_step q hq8 hq4
        rw [e4] at hs
        refine x_iconst 13 rfl dX7_lisped_12 (z := 4) (by decide) ?_
        refine x_iload_n 14 rfl dX7_lisped_13 1 rfl ?_
        refine x_imul 15 rfl dX7_lisped_14 (z := ((4 * (lispN (t / 4 ^ (notesN t - i))) : Nat) : Int)) (by omega) ?_
        refine x_iload_n 16 rfl dX7_lisped_15 0 rfl ?_
        refine x_iload_n 17 rfl dX7_lisped_16 2 rfl ?_
        refine x_callS0 20 rfl (c_X7_note G t i hv (by omega)) (fun _ _ h => h.2) gX7_lisped_X7_note rfl rfl rfl hd_X7_note ⟨Nat.le_of_ble_eq_true rfl, Nat.le_of_ble_eq_true rfl⟩ (As := [.int (zI ((t : Nat) : Int)), .int (zI ((i : Nat) : Int))]) (rest := [.int (zI ((4 * (lispN (t / 4 ^ (notesN t - i))) : Nat) : Int))]) rfl rfl (Nat.le_of_ble_eq_true rfl) dX7_lisped_17 ⟨Nat.zero_le _, Nat.zero_le _⟩ (fun v hq => ?_)
        obtain ⟨rfl, -⟩ := hq
        refine x_iconst 21 rfl dX7_lisped_20 (z := 2) (by decide) ?_
        refine x_icmp_ne 24 rfl (tgt := 28) dX7_lisped_21 (by decide) (by have := note_lt t i; omega) (by decide) (fun h21 => ?_) (fun h21 => ?_)
        · skip
          refine x_iload_n 29 rfl dX7_lisped_28 0 rfl ?_
          refine x_iload_n 30 rfl dX7_lisped_29 2 rfl ?_
          refine x_callS0 33 rfl (c_X7_note G t i hv (by omega)) (fun _ _ h => h.2) gX7_lisped_X7_note rfl rfl rfl hd_X7_note ⟨Nat.le_of_ble_eq_true rfl, Nat.le_of_ble_eq_true rfl⟩ (As := [.int (zI ((t : Nat) : Int)), .int (zI ((i : Nat) : Int))]) (rest := [.int (zI ((4 * (lispN (t / 4 ^ (notesN t - i))) : Nat) : Int))]) rfl rfl (Nat.le_of_ble_eq_true rfl) dX7_lisped_30 ⟨Nat.zero_le _, Nat.zero_le _⟩ (fun v hq => ?_)
          obtain ⟨rfl, -⟩ := hq
          refine x_iadd 34 rfl dX7_lisped_33 (z := ((4 * (lispN (t / 4 ^ (notesN t - i))) + (noteN t i) : Nat) : Int)) (by omega) ?_
          refine x_istore_n 35 rfl (lv' := [(1, .int (zI ((4 * (lispN (t / 4 ^ (notesN t - i))) + (noteN t i) : Nat) : Int))), (0, .int (zI ((t : Nat) : Int))), (2, .int (zI ((i : Nat) : Int)))]) dX7_lisped_34 (by decide) rfl ?_
          refine x_iinc 38 rfl (lv' := [(2, .int (zI ((i + 1 : Nat) : Int))), (1, .int (zI ((4 * (lispN (t / 4 ^ (notesN t - i))) + (noteN t i) : Nat) : Int))), (0, .int (zI ((t : Nat) : Int)))]) dX7_lisped_35 2 rfl (b := ((i + 1 : Nat) : Int)) (by omega) (by decide) rfl ?_
          refine x_goto dX7_lisped_38 (tgt := 4) (by decide) ?_
          refine x_lve (congrArg (fun zz : Int => ([(2, .int (zI ((i + 1 : Nat) : Int))), (1, .int (zI zz)), (0, .int (zI ((t : Nat) : Int)))] : List (Nat × Value))) (by rw [show notesN t - (i + 1) = notesN t - 1 - i by omega, ← hq, hs]; split <;> omega : ((4 * (lispN (t / 4 ^ (notesN t - i))) + (noteN t i) : Nat) : Int) = ((lispN (t / 4 ^ (notesN t - (i + 1))) : Nat) : Int))) ?_
          refine x_lv [2, 1, 0] rfl ?_
          exact ih4 (i + 1) (by omega) (by omega)
        · skip
          refine x_iconst 25 rfl dX7_lisped_24 (z := 1) (by decide) ?_
          refine x_goto dX7_lisped_25 (tgt := 33) (by decide) ?_
          refine x_iadd 34 rfl dX7_lisped_33 (z := ((4 * (lispN (t / 4 ^ (notesN t - i))) + 1 : Nat) : Int)) (by omega) ?_
          refine x_istore_n 35 rfl (lv' := [(1, .int (zI ((4 * (lispN (t / 4 ^ (notesN t - i))) + 1 : Nat) : Int))), (0, .int (zI ((t : Nat) : Int))), (2, .int (zI ((i : Nat) : Int)))]) dX7_lisped_34 (by decide) rfl ?_
          refine x_iinc 38 rfl (lv' := [(2, .int (zI ((i + 1 : Nat) : Int))), (1, .int (zI ((4 * (lispN (t / 4 ^ (notesN t - i))) + 1 : Nat) : Int))), (0, .int (zI ((t : Nat) : Int)))]) dX7_lisped_35 2 rfl (b := ((i + 1 : Nat) : Int)) (by omega) (by decide) rfl ?_
          refine x_goto dX7_lisped_38 (tgt := 4) (by decide) ?_
          refine x_lve (congrArg (fun zz : Int => ([(2, .int (zI ((i + 1 : Nat) : Int))), (1, .int (zI zz)), (0, .int (zI ((t : Nat) : Int)))] : List (Nat × Value))) (by rw [show notesN t - (i + 1) = notesN t - 1 - i by omega, ← hq, hs]; split <;> omega : ((4 * (lispN (t / 4 ^ (notesN t - i))) + 1 : Nat) : Int) = ((lispN (t / 4 ^ (notesN t - (i + 1))) : Nat) : Int))) ?_
          refine x_lv [2, 1, 0] rfl ?_
          exact ih4 (i + 1) (by omega) (by omega)
  refine x_lve (congrArg (fun zz : Int => ([(2, .int (zI 0)), (1, .int (zI zz)), (0, .int (zI ((t : Nat) : Int)))] : List (Nat × Value))) (by rw [Nat.sub_zero, (div_vt t ht hv (notesN t) (by omega)).2.1 rfl]; rfl : 1 = ((lispN (t / 4 ^ (notesN t - 0)) : Nat) : Int))) ?_
  refine x_lv [2, 1, 0] rfl ?_
  exact L4 _ 0 (by omega) (Nat.lt_succ_self _)

abbrev P_X7_turns (G : XG) (ear : Nat) (own : Nat) (tune : Nat) (wind : Nat) : Option Value → va_W → Prop := fun v ws => v = some (.int (zB (turnsN ear own tune wind))) ∧ ws = []
abbrev W_X7_turns (G : XG) (E : XE) (ear : Nat) (own : Nat) (tune : Nat) (wind : Nat) (pc : Nat) (lv : List (Nat × Value)) (st : List Value) (ws : va_W) : Prop := Wx G E (rmL 3) cX7_turns 8 RX7 wsX7_turns (some .boolean) "turns" 0 0 (P_X7_turns G ear own tune wind) 0 0 pc lv st ws
set_option maxHeartbeats 4000000 in
set_option maxRecDepth 100000 in
/-- turns -/
theorem c_X7_turns (G : XG) (ear own tune wind : Nat) (he : ear < 6) (hv : vt own) (htv : vt tune) (hw : wind < 4) : Con G yX7_turns wsX7_turns (rmL 3) 0 0 [.int (zI ((ear : Nat) : Int)), .int (zI ((own : Nat) : Int)), .int (zI ((tune : Nat) : Int)), .int (zI ((wind : Nat) : Int))] ([]) (P_X7_turns G ear own tune wind) := by
  refine x_start (cc := cX7_turns) (nL := 8) (ret := (some .boolean)) (by decide) rfl (Nat.le_of_ble_eq_true rfl) (fun E => ?_)
  show W_X7_turns G E ear own tune wind 0 [(0, .int (zI ((ear : Nat) : Int))), (1, .int (zI ((own : Nat) : Int))), (2, .int (zI ((tune : Nat) : Int))), (3, .int (zI ((wind : Nat) : Int)))] [] ([])
  have ho := vt_lt hv
  have ht := vt_lt htv
  have hn := notes_vt own ho hv
  have hlc := left_vt tune ht htv wind hw
  have hlo := left_vt own ho hv wind hw
  have hlh := left_vt (halfN own) (vt_lt (half_vt own ho hv)) (half_vt own ho hv) wind hw
  have hlc8 : leftN tune wind < 2048 := by unfold vt at hlc; omega
  have hlo8 : leftN own wind < 2048 := by unfold vt at hlo; omega
  have hlh8 : leftN (halfN own) wind < 2048 := by unfold vt at hlh; omega
  refine x_iload_n 1 rfl dX7_turns_0 0 rfl ?_
  refine x_iconst 2 rfl dX7_turns_1 (z := 4) (by decide) ?_
  refine x_icmp_ne 5 rfl (tgt := 16) dX7_turns_2 (by decide) (by omega) (by decide) (fun h2 => ?_) (fun h2 => ?_)
  · skip
    refine x_iload_n 17 rfl dX7_turns_16 2 rfl ?_
    refine x_iload_n 18 rfl dX7_turns_17 3 rfl ?_
    refine x_callS0 21 rfl (c_X7_left G tune wind htv (by omega)) (fun _ _ h => h.2) gX7_turns_X7_left rfl rfl rfl hd_X7_left ⟨Nat.le_of_ble_eq_true rfl, Nat.le_of_ble_eq_true rfl⟩ (As := [.int (zI ((tune : Nat) : Int)), .int (zI ((wind : Nat) : Int))]) (rest := []) rfl rfl (Nat.le_of_ble_eq_true rfl) dX7_turns_18 ⟨Nat.zero_le _, Nat.zero_le _⟩ (fun v hq => ?_)
    obtain ⟨rfl, -⟩ := hq
    refine x_istore 23 rfl (lv' := [(4, .int (zI ((leftN tune wind : Nat) : Int))), (0, .int (zI ((ear : Nat) : Int))), (1, .int (zI ((own : Nat) : Int))), (2, .int (zI ((tune : Nat) : Int))), (3, .int (zI ((wind : Nat) : Int)))]) dX7_turns_21 (by decide) rfl ?_
    refine x_iload_n 24 rfl dX7_turns_23 1 rfl ?_
    refine x_iconst 25 rfl dX7_turns_24 (z := 2) (by decide) ?_
    refine x_icmp_eq 28 rfl (tgt := 33) dX7_turns_25 (by decide) (by omega) (by decide) (fun h25 => ?_) (fun h25 => ?_)
    · skip
      refine x_iconst 34 rfl dX7_turns_33 (z := 1) (by decide) ?_
      refine x_goto dX7_turns_34 (tgt := 38) (by decide) ?_
      refine x_istore 40 rfl (lv' := [(5, .int (zI 1)), (4, .int (zI ((leftN tune wind : Nat) : Int))), (0, .int (zI ((ear : Nat) : Int))), (1, .int (zI ((own : Nat) : Int))), (2, .int (zI ((tune : Nat) : Int))), (3, .int (zI ((wind : Nat) : Int)))]) dX7_turns_38 (by decide) rfl ?_
      refine x_iload 42 rfl dX7_turns_40 0 rfl ?_
      refine x_if_eq 45 rfl (tgt := 60) dX7_turns_42 (by decide) (by omega) (fun h42 => ?_) (fun h42 => ?_)
      · skip
        exact absurd h42 (by decide)
      · skip
        refine x_iload_n 46 rfl dX7_turns_45 3 rfl ?_
        refine x_iload_n 47 rfl dX7_turns_46 3 rfl ?_
        refine x_callS0 50 rfl (c_X7_notes G own (by omega)) (fun _ _ h => h.2) gX7_turns_X7_notes rfl rfl rfl hd_X7_notes ⟨Nat.le_of_ble_eq_true rfl, Nat.le_of_ble_eq_true rfl⟩ (As := [.int (zI ((own : Nat) : Int))]) (rest := [.int (zI ((own : Nat) : Int))]) rfl rfl (Nat.le_of_ble_eq_true rfl) dX7_turns_47 ⟨Nat.zero_le _, Nat.zero_le _⟩ (fun v hq => ?_)
        obtain ⟨rfl, -⟩ := hq
        refine x_iconst 51 rfl dX7_turns_50 (z := 1) (by decide) ?_
        refine x_iadd 52 rfl dX7_turns_51 (z := ((notesN own + 1 : Nat) : Int)) (by omega) ?_
        refine x_iconst 53 rfl dX7_turns_52 (z := 2) (by decide) ?_
        refine x_idiv 54 rfl dX7_turns_53 (z := (((notesN own + 1) / 2 : Nat) : Int)) (by decide) (zI_div (a := (notesN own + 1)) (d := 2) (by omega) (by omega) (by omega)) ?_
        refine x_callS0 57 rfl (c_X7_front G own ((notesN own + 1) / 2) (by omega) (by omega)) (fun _ _ h => h.2) gX7_turns_X7_front rfl rfl rfl hd_X7_front ⟨Nat.le_of_ble_eq_true rfl, Nat.le_of_ble_eq_true rfl⟩ (As := [.int (zI ((own : Nat) : Int)), .int (zI (((notesN own + 1) / 2 : Nat) : Int))]) (rest := []) rfl rfl (Nat.le_of_ble_eq_true rfl) dX7_turns_54 ⟨Nat.zero_le _, Nat.zero_le _⟩ (fun v hq => ?_)
        obtain ⟨rfl, -⟩ := hq
        refine x_int (congrArg zI (by show ((own / 4 ^ (notesN own - (notesN own + 1) / 2) : Nat) : Int) = ((own / 4 ^ (notesN own / 2) : Nat) : Int); rw [show notesN own - (notesN own + 1) / 2 = notesN own / 2 by omega] : ((frontN own ((notesN own + 1) / 2) : Nat) : Int) = ((halfN own : Nat) : Int))) ?_
        refine x_goto dX7_turns_57 (tgt := 61) (by decide) ?_
        refine x_iload_n 62 rfl dX7_turns_61 5 rfl ?_
        refine x_callS0 65 rfl (c_X7_left G (halfN own) wind (half_vt own ho hv) (by omega)) (fun _ _ h => h.2) gX7_turns_X7_left rfl rfl rfl hd_X7_left ⟨Nat.le_of_ble_eq_true rfl, Nat.le_of_ble_eq_true rfl⟩ (As := [.int (zI ((halfN own : Nat) : Int)), .int (zI ((wind : Nat) : Int))]) (rest := []) rfl rfl (Nat.le_of_ble_eq_true rfl) dX7_turns_62 ⟨Nat.zero_le _, Nat.zero_le _⟩ (fun v hq => ?_)
        obtain ⟨rfl, -⟩ := hq
        refine x_istore 67 rfl (lv' := [(6, .int (zI ((leftN (halfN own) wind : Nat) : Int))), (5, .int (zI 1)), (4, .int (zI ((leftN tune wind : Nat) : Int))), (0, .int (zI ((ear : Nat) : Int))), (1, .int (zI ((own : Nat) : Int))), (2, .int (zI ((tune : Nat) : Int))), (3, .int (zI ((wind : Nat) : Int)))]) dX7_turns_65 (by decide) rfl ?_
        refine x_iload 69 rfl dX7_turns_67 2 rfl ?_
        refine x_iconst 70 rfl dX7_turns_69 (z := 1) (by decide) ?_
        refine x_icmp_eq 73 rfl (tgt := 89) dX7_turns_70 (by decide) (by omega) (by decide) (fun h70 => ?_) (fun h70 => ?_)
        · skip
          refine x_iconst 90 rfl dX7_turns_89 (z := 0) (by decide) ?_
          refine x_int (y := zB (turnsN ear own tune wind)) (zB_f (tN_n (by omega) (by rw [if_pos (show ear = 2 ∨ ear = 5 by omega)]; omega))) ?_
          refine x_zret rfl ?_ dX7_turns_90
          exact ⟨rfl, rfl⟩
        · skip
          refine x_iload 75 rfl dX7_turns_73 0 rfl ?_
          refine x_iconst 76 rfl dX7_turns_75 (z := 1) (by decide) ?_
          refine x_icmp_eq 79 rfl (tgt := 89) dX7_turns_76 (by decide) (by omega) (by decide) (fun h76 => ?_) (fun h76 => ?_)
          · skip
            refine x_iconst 90 rfl dX7_turns_89 (z := 0) (by decide) ?_
            refine x_int (y := zB (turnsN ear own tune wind)) (zB_f (tN_n (by omega) (by rw [if_pos (show ear = 2 ∨ ear = 5 by omega)]; omega))) ?_
            refine x_zret rfl ?_ dX7_turns_90
            exact ⟨rfl, rfl⟩
          · skip
            refine x_iload_n 80 rfl dX7_turns_79 3 rfl ?_
            refine x_iconst 81 rfl dX7_turns_80 (z := 5) (by decide) ?_
            refine x_icmp_ne 84 rfl (tgt := 91) dX7_turns_81 (by decide) (by omega) (by decide) (fun h81 => ?_) (fun h81 => ?_)
            · skip
              have c1 : leftN tune wind ≠ 1 := by omega
              refine x_iload 93 rfl dX7_turns_91 1 rfl ?_
              refine x_if_eq 96 rfl (tgt := 130) dX7_turns_93 (by decide) (by omega) (fun h93 => ?_) (fun h93 => ?_)
              · skip
                exact absurd h93 (by decide)
              · skip
                refine x_iload 98 rfl dX7_turns_96 2 rfl ?_
                refine x_callS0 101 rfl (c_X7_notes G (leftN tune wind) (by omega)) (fun _ _ h => h.2) gX7_turns_X7_notes rfl rfl rfl hd_X7_notes ⟨Nat.le_of_ble_eq_true rfl, Nat.le_of_ble_eq_true rfl⟩ (As := [.int (zI ((leftN tune wind : Nat) : Int))]) (rest := []) rfl rfl (Nat.le_of_ble_eq_true rfl) dX7_turns_98 ⟨Nat.zero_le _, Nat.zero_le _⟩ (fun v hq => ?_)
                obtain ⟨rfl, -⟩ := hq
                refine x_iload 103 rfl dX7_turns_101 0 rfl ?_
                refine x_callS0 106 rfl (c_X7_notes G (leftN (halfN own) wind) (by omega)) (fun _ _ h => h.2) gX7_turns_X7_notes rfl rfl rfl hd_X7_notes ⟨Nat.le_of_ble_eq_true rfl, Nat.le_of_ble_eq_true rfl⟩ (As := [.int (zI ((leftN (halfN own) wind : Nat) : Int))]) (rest := [.int (zI ((notesN (leftN tune wind) : Nat) : Int))]) rfl rfl (Nat.le_of_ble_eq_true rfl) dX7_turns_103 ⟨Nat.zero_le _, Nat.zero_le _⟩ (fun v hq => ?_)
                obtain ⟨rfl, -⟩ := hq
                refine x_icmp_lt 109 rfl (tgt := 128) dX7_turns_106 (by decide) (by have := notes_15 (t := leftN tune wind) (by omega); omega) (by have := notes_15 (t := leftN (halfN own) wind) (by omega); omega) (fun h106 => ?_) (fun h106 => ?_)
                · skip
                  refine x_iconst 129 rfl dX7_turns_128 (z := 0) (by decide) ?_
                  refine x_int (y := zB (turnsN ear own tune wind)) (zB_f (by rw [tN_h (by rw [if_pos (show ear = 2 ∨ ear = 5 by omega)]; omega) (by omega)]; exact decide_eq_false (by omega))) ?_
                  refine x_zret rfl ?_ dX7_turns_129
                  exact ⟨rfl, rfl⟩
                · skip
                  refine x_iload 111 rfl dX7_turns_109 2 rfl ?_
                  refine x_iload 113 rfl dX7_turns_111 0 rfl ?_
                  refine x_callS0 116 rfl (c_X7_notes G (leftN (halfN own) wind) (by omega)) (fun _ _ h => h.2) gX7_turns_X7_notes rfl rfl rfl hd_X7_notes ⟨Nat.le_of_ble_eq_true rfl, Nat.le_of_ble_eq_true rfl⟩ (As := [.int (zI ((leftN (halfN own) wind : Nat) : Int))]) (rest := [.int (zI ((leftN tune wind : Nat) : Int))]) rfl rfl (Nat.le_of_ble_eq_true rfl) dX7_turns_113 ⟨Nat.zero_le _, Nat.zero_le _⟩ (fun v hq => ?_)
                  obtain ⟨rfl, -⟩ := hq
                  refine x_callS0 119 rfl (c_X7_front G (leftN tune wind) (notesN (leftN (halfN own) wind)) (by omega) (by omega)) (fun _ _ h => h.2) gX7_turns_X7_front rfl rfl rfl hd_X7_front ⟨Nat.le_of_ble_eq_true rfl, Nat.le_of_ble_eq_true rfl⟩ (As := [.int (zI ((leftN tune wind : Nat) : Int)), .int (zI ((notesN (leftN (halfN own) wind) : Nat) : Int))]) (rest := []) rfl rfl (Nat.le_of_ble_eq_true rfl) dX7_turns_116 ⟨Nat.zero_le _, Nat.zero_le _⟩ (fun v hq => ?_)
                  obtain ⟨rfl, -⟩ := hq
                  refine x_iload 121 rfl dX7_turns_119 0 rfl ?_
                  refine x_icmp_ne 124 rfl (tgt := 128) dX7_turns_121 (by decide) (by have : frontN (leftN tune wind) (notesN (leftN (halfN own) wind)) ≤ leftN tune wind := Nat.div_le_self _ _; omega) (by omega) (fun h121 => ?_) (fun h121 => ?_)
                  · skip
                    refine x_iconst 129 rfl dX7_turns_128 (z := 0) (by decide) ?_
                    refine x_int (y := zB (turnsN ear own tune wind)) (zB_f (by rw [tN_h (by rw [if_pos (show ear = 2 ∨ ear = 5 by omega)]; omega) (by omega)]; exact decide_eq_false (by omega))) ?_
                    refine x_zret rfl ?_ dX7_turns_129
                    exact ⟨rfl, rfl⟩
                  · skip
                    refine x_iconst 125 rfl dX7_turns_124 (z := 1) (by decide) ?_
                    refine x_goto dX7_turns_125 (tgt := 129) (by decide) ?_
                    refine x_int (y := zB (turnsN ear own tune wind)) (zB_t (by rw [tN_h (by rw [if_pos (show ear = 2 ∨ ear = 5 by omega)]; omega) (by omega)]; exact decide_eq_true (by omega))) ?_
                    refine x_zret rfl ?_ dX7_turns_129
                    exact ⟨rfl, rfl⟩
            · skip
              refine x_iload_n 85 rfl dX7_turns_84 6 rfl ?_
              refine x_iconst 86 rfl dX7_turns_85 (z := 1) (by decide) ?_
              refine x_icmp_le 89 rfl (tgt := 91) dX7_turns_86 (by decide) (by omega) (by decide) (fun h86 => ?_) (fun h86 => ?_)
              · skip
                have c1 : leftN tune wind ≠ 1 := by omega
                refine x_iload 93 rfl dX7_turns_91 1 rfl ?_
                refine x_if_eq 96 rfl (tgt := 130) dX7_turns_93 (by decide) (by omega) (fun h93 => ?_) (fun h93 => ?_)
                · skip
                  exact absurd h93 (by decide)
                · skip
                  refine x_iload 98 rfl dX7_turns_96 2 rfl ?_
                  refine x_callS0 101 rfl (c_X7_notes G (leftN tune wind) (by omega)) (fun _ _ h => h.2) gX7_turns_X7_notes rfl rfl rfl hd_X7_notes ⟨Nat.le_of_ble_eq_true rfl, Nat.le_of_ble_eq_true rfl⟩ (As := [.int (zI ((leftN tune wind : Nat) : Int))]) (rest := []) rfl rfl (Nat.le_of_ble_eq_true rfl) dX7_turns_98 ⟨Nat.zero_le _, Nat.zero_le _⟩ (fun v hq => ?_)
                  obtain ⟨rfl, -⟩ := hq
                  refine x_iload 103 rfl dX7_turns_101 0 rfl ?_
                  refine x_callS0 106 rfl (c_X7_notes G (leftN (halfN own) wind) (by omega)) (fun _ _ h => h.2) gX7_turns_X7_notes rfl rfl rfl hd_X7_notes ⟨Nat.le_of_ble_eq_true rfl, Nat.le_of_ble_eq_true rfl⟩ (As := [.int (zI ((leftN (halfN own) wind : Nat) : Int))]) (rest := [.int (zI ((notesN (leftN tune wind) : Nat) : Int))]) rfl rfl (Nat.le_of_ble_eq_true rfl) dX7_turns_103 ⟨Nat.zero_le _, Nat.zero_le _⟩ (fun v hq => ?_)
                  obtain ⟨rfl, -⟩ := hq
                  refine x_icmp_lt 109 rfl (tgt := 128) dX7_turns_106 (by decide) (by have := notes_15 (t := leftN tune wind) (by omega); omega) (by have := notes_15 (t := leftN (halfN own) wind) (by omega); omega) (fun h106 => ?_) (fun h106 => ?_)
                  · skip
                    refine x_iconst 129 rfl dX7_turns_128 (z := 0) (by decide) ?_
                    refine x_int (y := zB (turnsN ear own tune wind)) (zB_f (by rw [tN_h (by rw [if_pos (show ear = 2 ∨ ear = 5 by omega)]; omega) (by omega)]; exact decide_eq_false (by omega))) ?_
                    refine x_zret rfl ?_ dX7_turns_129
                    exact ⟨rfl, rfl⟩
                  · skip
                    refine x_iload 111 rfl dX7_turns_109 2 rfl ?_
                    refine x_iload 113 rfl dX7_turns_111 0 rfl ?_
                    refine x_callS0 116 rfl (c_X7_notes G (leftN (halfN own) wind) (by omega)) (fun _ _ h => h.2) gX7_turns_X7_notes rfl rfl rfl hd_X7_notes ⟨Nat.le_of_ble_eq_true rfl, Nat.le_of_ble_eq_true rfl⟩ (As := [.int (zI ((leftN (halfN own) wind : Nat) : Int))]) (rest := [.int (zI ((leftN tune wind : Nat) : Int))]) rfl rfl (Nat.le_of_ble_eq_true rfl) dX7_turns_113 ⟨Nat.zero_le _, Nat.zero_le _⟩ (fun v hq => ?_)
                    obtain ⟨rfl, -⟩ := hq
                    refine x_callS0 119 rfl (c_X7_front G (leftN tune wind) (notesN (leftN (halfN own) wind)) (by omega) (by omega)) (fun _ _ h => h.2) gX7_turns_X7_front rfl rfl rfl hd_X7_front ⟨Nat.le_of_ble_eq_true rfl, Nat.le_of_ble_eq_true rfl⟩ (As := [.int (zI ((leftN tune wind : Nat) : Int)), .int (zI ((notesN (leftN (halfN own) wind) : Nat) : Int))]) (rest := []) rfl rfl (Nat.le_of_ble_eq_true rfl) dX7_turns_116 ⟨Nat.zero_le _, Nat.zero_le _⟩ (fun v hq => ?_)
                    obtain ⟨rfl, -⟩ := hq
                    refine x_iload 121 rfl dX7_turns_119 0 rfl ?_
                    refine x_icmp_ne 124 rfl (tgt := 128) dX7_turns_121 (by decide) (by have : frontN (leftN tune wind) (notesN (leftN (halfN own) wind)) ≤ leftN tune wind := Nat.div_le_self _ _; omega) (by omega) (fun h121 => ?_) (fun h121 => ?_)
                    · skip
                      refine x_iconst 129 rfl dX7_turns_128 (z := 0) (by decide) ?_
                      refine x_int (y := zB (turnsN ear own tune wind)) (zB_f (by rw [tN_h (by rw [if_pos (show ear = 2 ∨ ear = 5 by omega)]; omega) (by omega)]; exact decide_eq_false (by omega))) ?_
                      refine x_zret rfl ?_ dX7_turns_129
                      exact ⟨rfl, rfl⟩
                    · skip
                      refine x_iconst 125 rfl dX7_turns_124 (z := 1) (by decide) ?_
                      refine x_goto dX7_turns_125 (tgt := 129) (by decide) ?_
                      refine x_int (y := zB (turnsN ear own tune wind)) (zB_t (by rw [tN_h (by rw [if_pos (show ear = 2 ∨ ear = 5 by omega)]; omega) (by omega)]; exact decide_eq_true (by omega))) ?_
                      refine x_zret rfl ?_ dX7_turns_129
                      exact ⟨rfl, rfl⟩
              · skip
                refine x_iconst 90 rfl dX7_turns_89 (z := 0) (by decide) ?_
                refine x_int (y := zB (turnsN ear own tune wind)) (zB_f (tN_n (by omega) (by rw [if_pos (show ear = 2 ∨ ear = 5 by omega)]; omega))) ?_
                refine x_zret rfl ?_ dX7_turns_90
                exact ⟨rfl, rfl⟩
    · skip
      refine x_iload_n 29 rfl dX7_turns_28 1 rfl ?_
      refine x_iconst 30 rfl dX7_turns_29 (z := 5) (by decide) ?_
      refine x_icmp_ne 33 rfl (tgt := 37) dX7_turns_30 (by decide) (by omega) (by decide) (fun h30 => ?_) (fun h30 => ?_)
      · skip
        refine x_iconst 38 rfl dX7_turns_37 (z := 0) (by decide) ?_
        refine x_istore 40 rfl (lv' := [(5, .int (zI 0)), (4, .int (zI ((leftN tune wind : Nat) : Int))), (0, .int (zI ((ear : Nat) : Int))), (1, .int (zI ((own : Nat) : Int))), (2, .int (zI ((tune : Nat) : Int))), (3, .int (zI ((wind : Nat) : Int)))]) dX7_turns_38 (by decide) rfl ?_
        refine x_iload 42 rfl dX7_turns_40 0 rfl ?_
        refine x_if_eq 45 rfl (tgt := 60) dX7_turns_42 (by decide) (by omega) (fun h42 => ?_) (fun h42 => ?_)
        · skip
          refine x_iload_n 61 rfl dX7_turns_60 3 rfl ?_
          refine x_iload_n 62 rfl dX7_turns_61 5 rfl ?_
          refine x_callS0 65 rfl (c_X7_left G own wind hv (by omega)) (fun _ _ h => h.2) gX7_turns_X7_left rfl rfl rfl hd_X7_left ⟨Nat.le_of_ble_eq_true rfl, Nat.le_of_ble_eq_true rfl⟩ (As := [.int (zI ((own : Nat) : Int)), .int (zI ((wind : Nat) : Int))]) (rest := []) rfl rfl (Nat.le_of_ble_eq_true rfl) dX7_turns_62 ⟨Nat.zero_le _, Nat.zero_le _⟩ (fun v hq => ?_)
          obtain ⟨rfl, -⟩ := hq
          refine x_istore 67 rfl (lv' := [(6, .int (zI ((leftN own wind : Nat) : Int))), (5, .int (zI 0)), (4, .int (zI ((leftN tune wind : Nat) : Int))), (0, .int (zI ((ear : Nat) : Int))), (1, .int (zI ((own : Nat) : Int))), (2, .int (zI ((tune : Nat) : Int))), (3, .int (zI ((wind : Nat) : Int)))]) dX7_turns_65 (by decide) rfl ?_
          refine x_iload 69 rfl dX7_turns_67 2 rfl ?_
          refine x_iconst 70 rfl dX7_turns_69 (z := 1) (by decide) ?_
          refine x_icmp_eq 73 rfl (tgt := 89) dX7_turns_70 (by decide) (by omega) (by decide) (fun h70 => ?_) (fun h70 => ?_)
          · skip
            refine x_iconst 90 rfl dX7_turns_89 (z := 0) (by decide) ?_
            refine x_int (y := zB (turnsN ear own tune wind)) (zB_f (tN_n (by omega) (by rw [if_neg (show ¬ (ear = 2 ∨ ear = 5) by omega)]; omega))) ?_
            refine x_zret rfl ?_ dX7_turns_90
            exact ⟨rfl, rfl⟩
          · skip
            refine x_iload 75 rfl dX7_turns_73 0 rfl ?_
            refine x_iconst 76 rfl dX7_turns_75 (z := 1) (by decide) ?_
            refine x_icmp_eq 79 rfl (tgt := 89) dX7_turns_76 (by decide) (by omega) (by decide) (fun h76 => ?_) (fun h76 => ?_)
            · skip
              refine x_iconst 90 rfl dX7_turns_89 (z := 0) (by decide) ?_
              refine x_int (y := zB (turnsN ear own tune wind)) (zB_f (tN_n (by omega) (by rw [if_neg (show ¬ (ear = 2 ∨ ear = 5) by omega)]; omega))) ?_
              refine x_zret rfl ?_ dX7_turns_90
              exact ⟨rfl, rfl⟩
            · skip
              refine x_iload_n 80 rfl dX7_turns_79 3 rfl ?_
              refine x_iconst 81 rfl dX7_turns_80 (z := 5) (by decide) ?_
              refine x_icmp_ne 84 rfl (tgt := 91) dX7_turns_81 (by decide) (by omega) (by decide) (fun h81 => ?_) (fun h81 => ?_)
              · skip
                have c1 : leftN tune wind ≠ 1 := by omega
                refine x_iload 93 rfl dX7_turns_91 1 rfl ?_
                refine x_if_eq 96 rfl (tgt := 130) dX7_turns_93 (by decide) (by omega) (fun h93 => ?_) (fun h93 => ?_)
                · skip
                  refine x_iload_n 131 rfl dX7_turns_130 3 rfl ?_
                  refine x_if_ne 134 rfl (tgt := 149) dX7_turns_131 (by decide) (by omega) (fun h131 => ?_) (fun h131 => ?_)
                  · skip
                    refine x_iload 151 rfl dX7_turns_149 2 rfl ?_
                    refine x_callS0 154 rfl (c_X7_lisped G (leftN tune wind) ((hlc.resolve_left c1))) (fun _ _ h => h.2) gX7_turns_X7_lisped rfl rfl rfl hd_X7_lisped ⟨Nat.le_of_ble_eq_true rfl, Nat.le_of_ble_eq_true rfl⟩ (As := [.int (zI ((leftN tune wind : Nat) : Int))]) (rest := []) rfl rfl (Nat.le_of_ble_eq_true rfl) dX7_turns_151 ⟨Nat.zero_le _, Nat.zero_le _⟩ (fun v hq => ?_)
                    obtain ⟨rfl, -⟩ := hq
                    refine x_iload 156 rfl dX7_turns_154 0 rfl ?_
                    refine x_callS0 159 rfl (c_X7_lisped G (leftN own wind) ((hlo.resolve_left (by omega)))) (fun _ _ h => h.2) gX7_turns_X7_lisped rfl rfl rfl hd_X7_lisped ⟨Nat.le_of_ble_eq_true rfl, Nat.le_of_ble_eq_true rfl⟩ (As := [.int (zI ((leftN own wind : Nat) : Int))]) (rest := [.int (zI ((lispN (leftN tune wind) : Nat) : Int))]) rfl rfl (Nat.le_of_ble_eq_true rfl) dX7_turns_156 ⟨Nat.zero_le _, Nat.zero_le _⟩ (fun v hq => ?_)
                    obtain ⟨rfl, -⟩ := hq
                    refine x_icmp_ne 162 rfl (tgt := 166) dX7_turns_159 (by decide) (by have := lisp_lt (leftN tune wind) hlc8; omega) (by have := lisp_lt (leftN own wind) hlo8; omega) (fun h159 => ?_) (fun h159 => ?_)
                    · skip
                      refine x_iconst 167 rfl dX7_turns_166 (z := 0) (by decide) ?_
                      refine x_istore 169 rfl (lv' := [(7, .int (zI 0)), (6, .int (zI ((leftN own wind : Nat) : Int))), (5, .int (zI 0)), (4, .int (zI ((leftN tune wind : Nat) : Int))), (0, .int (zI ((ear : Nat) : Int))), (1, .int (zI ((own : Nat) : Int))), (2, .int (zI ((tune : Nat) : Int))), (3, .int (zI ((wind : Nat) : Int)))]) dX7_turns_167 (by decide) rfl ?_
                      refine x_iload 171 rfl dX7_turns_169 0 rfl ?_
                      refine x_if_ne 174 rfl (tgt := 203) dX7_turns_171 (by decide) (by omega) (fun h171 => ?_) (fun h171 => ?_)
                      · skip
                        exact absurd h171 (by decide)
                      · skip
                        refine x_iload_n 175 rfl dX7_turns_174 4 rfl ?_
                        refine x_iconst 176 rfl dX7_turns_175 (z := 3) (by decide) ?_
                        refine x_icmp_ne 179 rfl (tgt := 207) dX7_turns_176 (by decide) (by omega) (by decide) (fun h176 => ?_) (fun h176 => ?_)
                        · skip
                          refine x_iconst 208 rfl dX7_turns_207 (z := 0) (by decide) ?_
                          refine x_int (y := zB (turnsN ear own tune wind)) (by first | exact zB_f (by rw [tN_p (by rw [if_neg (show ¬ (ear = 2 ∨ ear = 5) by omega)]; omega) (by omega)]; exact decide_eq_false (by omega)) | exact zB_f (by rw [tN_l (by rw [if_neg (show ¬ (ear = 2 ∨ ear = 5) by omega)]; omega) (by omega) (by omega) (by omega)]; exact decide_eq_false (by omega))) ?_
                          refine x_zret rfl ?_ dX7_turns_208
                          exact ⟨rfl, rfl⟩
                        · skip
                          refine x_iload 181 rfl dX7_turns_179 3 rfl ?_
                          refine x_callS0 184 rfl (c_X7_notes G (leftN tune wind) (by omega)) (fun _ _ h => h.2) gX7_turns_X7_notes rfl rfl rfl hd_X7_notes ⟨Nat.le_of_ble_eq_true rfl, Nat.le_of_ble_eq_true rfl⟩ (As := [.int (zI ((leftN tune wind : Nat) : Int))]) (rest := []) rfl rfl (Nat.le_of_ble_eq_true rfl) dX7_turns_181 ⟨Nat.zero_le _, Nat.zero_le _⟩ (fun v hq => ?_)
                          obtain ⟨rfl, -⟩ := hq
                          refine x_iload 186 rfl dX7_turns_184 1 rfl ?_
                          refine x_callS0 189 rfl (c_X7_notes G (leftN own wind) (by omega)) (fun _ _ h => h.2) gX7_turns_X7_notes rfl rfl rfl hd_X7_notes ⟨Nat.le_of_ble_eq_true rfl, Nat.le_of_ble_eq_true rfl⟩ (As := [.int (zI ((leftN own wind : Nat) : Int))]) (rest := [.int (zI ((notesN (leftN tune wind) : Nat) : Int))]) rfl rfl (Nat.le_of_ble_eq_true rfl) dX7_turns_186 ⟨Nat.zero_le _, Nat.zero_le _⟩ (fun v hq => ?_)
                          obtain ⟨rfl, -⟩ := hq
                          refine x_icmp_ne 192 rfl (tgt := 207) dX7_turns_189 (by decide) (by have := notes_15 (t := leftN tune wind) (by omega); omega) (by have := notes_15 (t := leftN own wind) (by omega); omega) (fun h189 => ?_) (fun h189 => ?_)
                          · skip
                            refine x_iconst 208 rfl dX7_turns_207 (z := 0) (by decide) ?_
                            refine x_int (y := zB (turnsN ear own tune wind)) (by first | exact zB_f (by rw [tN_p (by rw [if_neg (show ¬ (ear = 2 ∨ ear = 5) by omega)]; omega) (by omega)]; exact decide_eq_false (by omega)) | exact zB_f (by rw [tN_l (by rw [if_neg (show ¬ (ear = 2 ∨ ear = 5) by omega)]; omega) (by omega) (by omega) (by omega)]; exact decide_eq_false (by omega))) ?_
                            refine x_zret rfl ?_ dX7_turns_208
                            exact ⟨rfl, rfl⟩
                          · skip
                            refine x_iload 194 rfl dX7_turns_192 3 rfl ?_
                            refine x_iconst 195 rfl dX7_turns_194 (z := 4) (by decide) ?_
                            refine x_irem 196 rfl dX7_turns_195 (z := (((leftN tune wind) % 4 : Nat) : Int)) (by decide) (zI_rem (a := (leftN tune wind)) (d := 4) (by omega) (by omega) (by omega)) ?_
                            refine x_iload 198 rfl dX7_turns_196 1 rfl ?_
                            refine x_iconst 199 rfl dX7_turns_198 (z := 4) (by decide) ?_
                            refine x_irem 200 rfl dX7_turns_199 (z := (((leftN own wind) % 4 : Nat) : Int)) (by decide) (zI_rem (a := (leftN own wind)) (d := 4) (by omega) (by omega) (by omega)) ?_
                            refine x_icmp_ne 203 rfl (tgt := 207) dX7_turns_200 (by decide) (by omega) (by omega) (fun h200 => ?_) (fun h200 => ?_)
                            · skip
                              refine x_iconst 208 rfl dX7_turns_207 (z := 0) (by decide) ?_
                              refine x_int (y := zB (turnsN ear own tune wind)) (by first | exact zB_f (by rw [tN_p (by rw [if_neg (show ¬ (ear = 2 ∨ ear = 5) by omega)]; omega) (by omega)]; exact decide_eq_false (by omega)) | exact zB_f (by rw [tN_l (by rw [if_neg (show ¬ (ear = 2 ∨ ear = 5) by omega)]; omega) (by omega) (by omega) (by omega)]; exact decide_eq_false (by omega))) ?_
                              refine x_zret rfl ?_ dX7_turns_208
                              exact ⟨rfl, rfl⟩
                            · skip
                              refine x_iconst 204 rfl dX7_turns_203 (z := 1) (by decide) ?_
                              refine x_goto dX7_turns_204 (tgt := 208) (by decide) ?_
                              refine x_int (y := zB (turnsN ear own tune wind)) (by first | exact zB_t (by rw [tN_p (by rw [if_neg (show ¬ (ear = 2 ∨ ear = 5) by omega)]; omega) (by omega)]; exact decide_eq_true (by omega)) | exact zB_t (by rw [tN_l (by rw [if_neg (show ¬ (ear = 2 ∨ ear = 5) by omega)]; omega) (by omega) (by omega) (by omega)]; exact decide_eq_true (by omega))) ?_
                              refine x_zret rfl ?_ dX7_turns_208
                              exact ⟨rfl, rfl⟩
                    · skip
                      refine x_iconst 163 rfl dX7_turns_162 (z := 1) (by decide) ?_
                      refine x_goto dX7_turns_163 (tgt := 167) (by decide) ?_
                      refine x_istore 169 rfl (lv' := [(7, .int (zI 1)), (6, .int (zI ((leftN own wind : Nat) : Int))), (5, .int (zI 0)), (4, .int (zI ((leftN tune wind : Nat) : Int))), (0, .int (zI ((ear : Nat) : Int))), (1, .int (zI ((own : Nat) : Int))), (2, .int (zI ((tune : Nat) : Int))), (3, .int (zI ((wind : Nat) : Int)))]) dX7_turns_167 (by decide) rfl ?_
                      refine x_iload 171 rfl dX7_turns_169 0 rfl ?_
                      refine x_if_ne 174 rfl (tgt := 203) dX7_turns_171 (by decide) (by omega) (fun h171 => ?_) (fun h171 => ?_)
                      · skip
                        refine x_iconst 204 rfl dX7_turns_203 (z := 1) (by decide) ?_
                        refine x_goto dX7_turns_204 (tgt := 208) (by decide) ?_
                        refine x_int (y := zB (turnsN ear own tune wind)) (by first | exact zB_t (by rw [tN_p (by rw [if_neg (show ¬ (ear = 2 ∨ ear = 5) by omega)]; omega) (by omega)]; exact decide_eq_true (by omega)) | exact zB_t (by rw [tN_l (by rw [if_neg (show ¬ (ear = 2 ∨ ear = 5) by omega)]; omega) (by omega) (by omega) (by omega)]; exact decide_eq_true (by omega))) ?_
                        refine x_zret rfl ?_ dX7_turns_208
                        exact ⟨rfl, rfl⟩
                      · skip
                        exact absurd h171 (by decide)
                  · skip
                    refine x_iload 136 rfl dX7_turns_134 2 rfl ?_
                    refine x_iload 138 rfl dX7_turns_136 0 rfl ?_
                    refine x_icmp_ne 141 rfl (tgt := 145) dX7_turns_138 (by decide) (by omega) (by omega) (fun h138 => ?_) (fun h138 => ?_)
                    · skip
                      refine x_iconst 146 rfl dX7_turns_145 (z := 0) (by decide) ?_
                      refine x_goto dX7_turns_146 (tgt := 167) (by decide) ?_
                      refine x_istore 169 rfl (lv' := [(7, .int (zI 0)), (6, .int (zI ((leftN own wind : Nat) : Int))), (5, .int (zI 0)), (4, .int (zI ((leftN tune wind : Nat) : Int))), (0, .int (zI ((ear : Nat) : Int))), (1, .int (zI ((own : Nat) : Int))), (2, .int (zI ((tune : Nat) : Int))), (3, .int (zI ((wind : Nat) : Int)))]) dX7_turns_167 (by decide) rfl ?_
                      refine x_iload 171 rfl dX7_turns_169 0 rfl ?_
                      refine x_if_ne 174 rfl (tgt := 203) dX7_turns_171 (by decide) (by omega) (fun h171 => ?_) (fun h171 => ?_)
                      · skip
                        exact absurd h171 (by decide)
                      · skip
                        refine x_iload_n 175 rfl dX7_turns_174 4 rfl ?_
                        refine x_iconst 176 rfl dX7_turns_175 (z := 3) (by decide) ?_
                        refine x_icmp_ne 179 rfl (tgt := 207) dX7_turns_176 (by decide) (by omega) (by decide) (fun h176 => ?_) (fun h176 => ?_)
                        · skip
                          refine x_iconst 208 rfl dX7_turns_207 (z := 0) (by decide) ?_
                          refine x_int (y := zB (turnsN ear own tune wind)) (by first | exact zB_f (by rw [tN_p (by rw [if_neg (show ¬ (ear = 2 ∨ ear = 5) by omega)]; omega) (by omega)]; exact decide_eq_false (by omega)) | exact zB_f (by rw [tN_l (by rw [if_neg (show ¬ (ear = 2 ∨ ear = 5) by omega)]; omega) (by omega) (by omega) (by omega)]; exact decide_eq_false (by omega))) ?_
                          refine x_zret rfl ?_ dX7_turns_208
                          exact ⟨rfl, rfl⟩
                        · skip
                          refine x_iload 181 rfl dX7_turns_179 3 rfl ?_
                          refine x_callS0 184 rfl (c_X7_notes G (leftN tune wind) (by omega)) (fun _ _ h => h.2) gX7_turns_X7_notes rfl rfl rfl hd_X7_notes ⟨Nat.le_of_ble_eq_true rfl, Nat.le_of_ble_eq_true rfl⟩ (As := [.int (zI ((leftN tune wind : Nat) : Int))]) (rest := []) rfl rfl (Nat.le_of_ble_eq_true rfl) dX7_turns_181 ⟨Nat.zero_le _, Nat.zero_le _⟩ (fun v hq => ?_)
                          obtain ⟨rfl, -⟩ := hq
                          refine x_iload 186 rfl dX7_turns_184 1 rfl ?_
                          refine x_callS0 189 rfl (c_X7_notes G (leftN own wind) (by omega)) (fun _ _ h => h.2) gX7_turns_X7_notes rfl rfl rfl hd_X7_notes ⟨Nat.le_of_ble_eq_true rfl, Nat.le_of_ble_eq_true rfl⟩ (As := [.int (zI ((leftN own wind : Nat) : Int))]) (rest := [.int (zI ((notesN (leftN tune wind) : Nat) : Int))]) rfl rfl (Nat.le_of_ble_eq_true rfl) dX7_turns_186 ⟨Nat.zero_le _, Nat.zero_le _⟩ (fun v hq => ?_)
                          obtain ⟨rfl, -⟩ := hq
                          refine x_icmp_ne 192 rfl (tgt := 207) dX7_turns_189 (by decide) (by have := notes_15 (t := leftN tune wind) (by omega); omega) (by have := notes_15 (t := leftN own wind) (by omega); omega) (fun h189 => ?_) (fun h189 => ?_)
                          · skip
                            refine x_iconst 208 rfl dX7_turns_207 (z := 0) (by decide) ?_
                            refine x_int (y := zB (turnsN ear own tune wind)) (by first | exact zB_f (by rw [tN_p (by rw [if_neg (show ¬ (ear = 2 ∨ ear = 5) by omega)]; omega) (by omega)]; exact decide_eq_false (by omega)) | exact zB_f (by rw [tN_l (by rw [if_neg (show ¬ (ear = 2 ∨ ear = 5) by omega)]; omega) (by omega) (by omega) (by omega)]; exact decide_eq_false (by omega))) ?_
                            refine x_zret rfl ?_ dX7_turns_208
                            exact ⟨rfl, rfl⟩
                          · skip
                            refine x_iload 194 rfl dX7_turns_192 3 rfl ?_
                            refine x_iconst 195 rfl dX7_turns_194 (z := 4) (by decide) ?_
                            refine x_irem 196 rfl dX7_turns_195 (z := (((leftN tune wind) % 4 : Nat) : Int)) (by decide) (zI_rem (a := (leftN tune wind)) (d := 4) (by omega) (by omega) (by omega)) ?_
                            refine x_iload 198 rfl dX7_turns_196 1 rfl ?_
                            refine x_iconst 199 rfl dX7_turns_198 (z := 4) (by decide) ?_
                            refine x_irem 200 rfl dX7_turns_199 (z := (((leftN own wind) % 4 : Nat) : Int)) (by decide) (zI_rem (a := (leftN own wind)) (d := 4) (by omega) (by omega) (by omega)) ?_
                            refine x_icmp_ne 203 rfl (tgt := 207) dX7_turns_200 (by decide) (by omega) (by omega) (fun h200 => ?_) (fun h200 => ?_)
                            · skip
                              refine x_iconst 208 rfl dX7_turns_207 (z := 0) (by decide) ?_
                              refine x_int (y := zB (turnsN ear own tune wind)) (by first | exact zB_f (by rw [tN_p (by rw [if_neg (show ¬ (ear = 2 ∨ ear = 5) by omega)]; omega) (by omega)]; exact decide_eq_false (by omega)) | exact zB_f (by rw [tN_l (by rw [if_neg (show ¬ (ear = 2 ∨ ear = 5) by omega)]; omega) (by omega) (by omega) (by omega)]; exact decide_eq_false (by omega))) ?_
                              refine x_zret rfl ?_ dX7_turns_208
                              exact ⟨rfl, rfl⟩
                            · skip
                              refine x_iconst 204 rfl dX7_turns_203 (z := 1) (by decide) ?_
                              refine x_goto dX7_turns_204 (tgt := 208) (by decide) ?_
                              refine x_int (y := zB (turnsN ear own tune wind)) (by first | exact zB_t (by rw [tN_p (by rw [if_neg (show ¬ (ear = 2 ∨ ear = 5) by omega)]; omega) (by omega)]; exact decide_eq_true (by omega)) | exact zB_t (by rw [tN_l (by rw [if_neg (show ¬ (ear = 2 ∨ ear = 5) by omega)]; omega) (by omega) (by omega) (by omega)]; exact decide_eq_true (by omega))) ?_
                              refine x_zret rfl ?_ dX7_turns_208
                              exact ⟨rfl, rfl⟩
                    · skip
                      refine x_iconst 142 rfl dX7_turns_141 (z := 1) (by decide) ?_
                      refine x_goto dX7_turns_142 (tgt := 167) (by decide) ?_
                      refine x_istore 169 rfl (lv' := [(7, .int (zI 1)), (6, .int (zI ((leftN own wind : Nat) : Int))), (5, .int (zI 0)), (4, .int (zI ((leftN tune wind : Nat) : Int))), (0, .int (zI ((ear : Nat) : Int))), (1, .int (zI ((own : Nat) : Int))), (2, .int (zI ((tune : Nat) : Int))), (3, .int (zI ((wind : Nat) : Int)))]) dX7_turns_167 (by decide) rfl ?_
                      refine x_iload 171 rfl dX7_turns_169 0 rfl ?_
                      refine x_if_ne 174 rfl (tgt := 203) dX7_turns_171 (by decide) (by omega) (fun h171 => ?_) (fun h171 => ?_)
                      · skip
                        refine x_iconst 204 rfl dX7_turns_203 (z := 1) (by decide) ?_
                        refine x_goto dX7_turns_204 (tgt := 208) (by decide) ?_
                        refine x_int (y := zB (turnsN ear own tune wind)) (by first | exact zB_t (by rw [tN_p (by rw [if_neg (show ¬ (ear = 2 ∨ ear = 5) by omega)]; omega) (by omega)]; exact decide_eq_true (by omega)) | exact zB_t (by rw [tN_l (by rw [if_neg (show ¬ (ear = 2 ∨ ear = 5) by omega)]; omega) (by omega) (by omega) (by omega)]; exact decide_eq_true (by omega))) ?_
                        refine x_zret rfl ?_ dX7_turns_208
                        exact ⟨rfl, rfl⟩
                      · skip
                        exact absurd h171 (by decide)
                · skip
                  exact absurd h93 (by decide)
              · skip
                refine x_iload_n 85 rfl dX7_turns_84 6 rfl ?_
                refine x_iconst 86 rfl dX7_turns_85 (z := 1) (by decide) ?_
                refine x_icmp_le 89 rfl (tgt := 91) dX7_turns_86 (by decide) (by omega) (by decide) (fun h86 => ?_) (fun h86 => ?_)
                · skip
                  have c1 : leftN tune wind ≠ 1 := by omega
                  refine x_iload 93 rfl dX7_turns_91 1 rfl ?_
                  refine x_if_eq 96 rfl (tgt := 130) dX7_turns_93 (by decide) (by omega) (fun h93 => ?_) (fun h93 => ?_)
                  · skip
                    refine x_iload_n 131 rfl dX7_turns_130 3 rfl ?_
                    refine x_if_ne 134 rfl (tgt := 149) dX7_turns_131 (by decide) (by omega) (fun h131 => ?_) (fun h131 => ?_)
                    · skip
                      refine x_iload 151 rfl dX7_turns_149 2 rfl ?_
                      refine x_callS0 154 rfl (c_X7_lisped G (leftN tune wind) ((hlc.resolve_left c1))) (fun _ _ h => h.2) gX7_turns_X7_lisped rfl rfl rfl hd_X7_lisped ⟨Nat.le_of_ble_eq_true rfl, Nat.le_of_ble_eq_true rfl⟩ (As := [.int (zI ((leftN tune wind : Nat) : Int))]) (rest := []) rfl rfl (Nat.le_of_ble_eq_true rfl) dX7_turns_151 ⟨Nat.zero_le _, Nat.zero_le _⟩ (fun v hq => ?_)
                      obtain ⟨rfl, -⟩ := hq
                      refine x_iload 156 rfl dX7_turns_154 0 rfl ?_
                      refine x_callS0 159 rfl (c_X7_lisped G (leftN own wind) ((hlo.resolve_left (by omega)))) (fun _ _ h => h.2) gX7_turns_X7_lisped rfl rfl rfl hd_X7_lisped ⟨Nat.le_of_ble_eq_true rfl, Nat.le_of_ble_eq_true rfl⟩ (As := [.int (zI ((leftN own wind : Nat) : Int))]) (rest := [.int (zI ((lispN (leftN tune wind) : Nat) : Int))]) rfl rfl (Nat.le_of_ble_eq_true rfl) dX7_turns_156 ⟨Nat.zero_le _, Nat.zero_le _⟩ (fun v hq => ?_)
                      obtain ⟨rfl, -⟩ := hq
                      refine x_icmp_ne 162 rfl (tgt := 166) dX7_turns_159 (by decide) (by have := lisp_lt (leftN tune wind) hlc8; omega) (by have := lisp_lt (leftN own wind) hlo8; omega) (fun h159 => ?_) (fun h159 => ?_)
                      · skip
                        refine x_iconst 167 rfl dX7_turns_166 (z := 0) (by decide) ?_
                        refine x_istore 169 rfl (lv' := [(7, .int (zI 0)), (6, .int (zI ((leftN own wind : Nat) : Int))), (5, .int (zI 0)), (4, .int (zI ((leftN tune wind : Nat) : Int))), (0, .int (zI ((ear : Nat) : Int))), (1, .int (zI ((own : Nat) : Int))), (2, .int (zI ((tune : Nat) : Int))), (3, .int (zI ((wind : Nat) : Int)))]) dX7_turns_167 (by decide) rfl ?_
                        refine x_iload 171 rfl dX7_turns_169 0 rfl ?_
                        refine x_if_ne 174 rfl (tgt := 203) dX7_turns_171 (by decide) (by omega) (fun h171 => ?_) (fun h171 => ?_)
                        · skip
                          exact absurd h171 (by decide)
                        · skip
                          refine x_iload_n 175 rfl dX7_turns_174 4 rfl ?_
                          refine x_iconst 176 rfl dX7_turns_175 (z := 3) (by decide) ?_
                          refine x_icmp_ne 179 rfl (tgt := 207) dX7_turns_176 (by decide) (by omega) (by decide) (fun h176 => ?_) (fun h176 => ?_)
                          · skip
                            refine x_iconst 208 rfl dX7_turns_207 (z := 0) (by decide) ?_
                            refine x_int (y := zB (turnsN ear own tune wind)) (by first | exact zB_f (by rw [tN_p (by rw [if_neg (show ¬ (ear = 2 ∨ ear = 5) by omega)]; omega) (by omega)]; exact decide_eq_false (by omega)) | exact zB_f (by rw [tN_l (by rw [if_neg (show ¬ (ear = 2 ∨ ear = 5) by omega)]; omega) (by omega) (by omega) (by omega)]; exact decide_eq_false (by omega))) ?_
                            refine x_zret rfl ?_ dX7_turns_208
                            exact ⟨rfl, rfl⟩
                          · skip
                            refine x_iload 181 rfl dX7_turns_179 3 rfl ?_
                            refine x_callS0 184 rfl (c_X7_notes G (leftN tune wind) (by omega)) (fun _ _ h => h.2) gX7_turns_X7_notes rfl rfl rfl hd_X7_notes ⟨Nat.le_of_ble_eq_true rfl, Nat.le_of_ble_eq_true rfl⟩ (As := [.int (zI ((leftN tune wind : Nat) : Int))]) (rest := []) rfl rfl (Nat.le_of_ble_eq_true rfl) dX7_turns_181 ⟨Nat.zero_le _, Nat.zero_le _⟩ (fun v hq => ?_)
                            obtain ⟨rfl, -⟩ := hq
                            refine x_iload 186 rfl dX7_turns_184 1 rfl ?_
                            refine x_callS0 189 rfl (c_X7_notes G (leftN own wind) (by omega)) (fun _ _ h => h.2) gX7_turns_X7_notes rfl rfl rfl hd_X7_notes ⟨Nat.le_of_ble_eq_true rfl, Nat.le_of_ble_eq_true rfl⟩ (As := [.int (zI ((leftN own wind : Nat) : Int))]) (rest := [.int (zI ((notesN (leftN tune wind) : Nat) : Int))]) rfl rfl (Nat.le_of_ble_eq_true rfl) dX7_turns_186 ⟨Nat.zero_le _, Nat.zero_le _⟩ (fun v hq => ?_)
                            obtain ⟨rfl, -⟩ := hq
                            refine x_icmp_ne 192 rfl (tgt := 207) dX7_turns_189 (by decide) (by have := notes_15 (t := leftN tune wind) (by omega); omega) (by have := notes_15 (t := leftN own wind) (by omega); omega) (fun h189 => ?_) (fun h189 => ?_)
                            · skip
                              refine x_iconst 208 rfl dX7_turns_207 (z := 0) (by decide) ?_
                              refine x_int (y := zB (turnsN ear own tune wind)) (by first | exact zB_f (by rw [tN_p (by rw [if_neg (show ¬ (ear = 2 ∨ ear = 5) by omega)]; omega) (by omega)]; exact decide_eq_false (by omega)) | exact zB_f (by rw [tN_l (by rw [if_neg (show ¬ (ear = 2 ∨ ear = 5) by omega)]; omega) (by omega) (by omega) (by omega)]; exact decide_eq_false (by omega))) ?_
                              refine x_zret rfl ?_ dX7_turns_208
                              exact ⟨rfl, rfl⟩
                            · skip
                              refine x_iload 194 rfl dX7_turns_192 3 rfl ?_
                              refine x_iconst 195 rfl dX7_turns_194 (z := 4) (by decide) ?_
                              refine x_irem 196 rfl dX7_turns_195 (z := (((leftN tune wind) % 4 : Nat) : Int)) (by decide) (zI_rem (a := (leftN tune wind)) (d := 4) (by omega) (by omega) (by omega)) ?_
                              refine x_iload 198 rfl dX7_turns_196 1 rfl ?_
                              refine x_iconst 199 rfl dX7_turns_198 (z := 4) (by decide) ?_
                              refine x_irem 200 rfl dX7_turns_199 (z := (((leftN own wind) % 4 : Nat) : Int)) (by decide) (zI_rem (a := (leftN own wind)) (d := 4) (by omega) (by omega) (by omega)) ?_
                              refine x_icmp_ne 203 rfl (tgt := 207) dX7_turns_200 (by decide) (by omega) (by omega) (fun h200 => ?_) (fun h200 => ?_)
                              · skip
                                refine x_iconst 208 rfl dX7_turns_207 (z := 0) (by decide) ?_
                                refine x_int (y := zB (turnsN ear own tune wind)) (by first | exact zB_f (by rw [tN_p (by rw [if_neg (show ¬ (ear = 2 ∨ ear = 5) by omega)]; omega) (by omega)]; exact decide_eq_false (by omega)) | exact zB_f (by rw [tN_l (by rw [if_neg (show ¬ (ear = 2 ∨ ear = 5) by omega)]; omega) (by omega) (by omega) (by omega)]; exact decide_eq_false (by omega))) ?_
                                refine x_zret rfl ?_ dX7_turns_208
                                exact ⟨rfl, rfl⟩
                              · skip
                                refine x_iconst 204 rfl dX7_turns_203 (z := 1) (by decide) ?_
                                refine x_goto dX7_turns_204 (tgt := 208) (by decide) ?_
                                refine x_int (y := zB (turnsN ear own tune wind)) (by first | exact zB_t (by rw [tN_p (by rw [if_neg (show ¬ (ear = 2 ∨ ear = 5) by omega)]; omega) (by omega)]; exact decide_eq_true (by omega)) | exact zB_t (by rw [tN_l (by rw [if_neg (show ¬ (ear = 2 ∨ ear = 5) by omega)]; omega) (by omega) (by omega) (by omega)]; exact decide_eq_true (by omega))) ?_
                                refine x_zret rfl ?_ dX7_turns_208
                                exact ⟨rfl, rfl⟩
                      · skip
                        refine x_iconst 163 rfl dX7_turns_162 (z := 1) (by decide) ?_
                        refine x_goto dX7_turns_163 (tgt := 167) (by decide) ?_
                        refine x_istore 169 rfl (lv' := [(7, .int (zI 1)), (6, .int (zI ((leftN own wind : Nat) : Int))), (5, .int (zI 0)), (4, .int (zI ((leftN tune wind : Nat) : Int))), (0, .int (zI ((ear : Nat) : Int))), (1, .int (zI ((own : Nat) : Int))), (2, .int (zI ((tune : Nat) : Int))), (3, .int (zI ((wind : Nat) : Int)))]) dX7_turns_167 (by decide) rfl ?_
                        refine x_iload 171 rfl dX7_turns_169 0 rfl ?_
                        refine x_if_ne 174 rfl (tgt := 203) dX7_turns_171 (by decide) (by omega) (fun h171 => ?_) (fun h171 => ?_)
                        · skip
                          refine x_iconst 204 rfl dX7_turns_203 (z := 1) (by decide) ?_
                          refine x_goto dX7_turns_204 (tgt := 208) (by decide) ?_
                          refine x_int (y := zB (turnsN ear own tune wind)) (by first | exact zB_t (by rw [tN_p (by rw [if_neg (show ¬ (ear = 2 ∨ ear = 5) by omega)]; omega) (by omega)]; exact decide_eq_true (by omega)) | exact zB_t (by rw [tN_l (by rw [if_neg (show ¬ (ear = 2 ∨ ear = 5) by omega)]; omega) (by omega) (by omega) (by omega)]; exact decide_eq_true (by omega))) ?_
                          refine x_zret rfl ?_ dX7_turns_208
                          exact ⟨rfl, rfl⟩
                        · skip
                          exact absurd h171 (by decide)
                    · skip
                      refine x_iload 136 rfl dX7_turns_134 2 rfl ?_
                      refine x_iload 138 rfl dX7_turns_136 0 rfl ?_
                      refine x_icmp_ne 141 rfl (tgt := 145) dX7_turns_138 (by decide) (by omega) (by omega) (fun h138 => ?_) (fun h138 => ?_)
                      · skip
                        refine x_iconst 146 rfl dX7_turns_145 (z := 0) (by decide) ?_
                        refine x_goto dX7_turns_146 (tgt := 167) (by decide) ?_
                        refine x_istore 169 rfl (lv' := [(7, .int (zI 0)), (6, .int (zI ((leftN own wind : Nat) : Int))), (5, .int (zI 0)), (4, .int (zI ((leftN tune wind : Nat) : Int))), (0, .int (zI ((ear : Nat) : Int))), (1, .int (zI ((own : Nat) : Int))), (2, .int (zI ((tune : Nat) : Int))), (3, .int (zI ((wind : Nat) : Int)))]) dX7_turns_167 (by decide) rfl ?_
                        refine x_iload 171 rfl dX7_turns_169 0 rfl ?_
                        refine x_if_ne 174 rfl (tgt := 203) dX7_turns_171 (by decide) (by omega) (fun h171 => ?_) (fun h171 => ?_)
                        · skip
                          exact absurd h171 (by decide)
                        · skip
                          refine x_iload_n 175 rfl dX7_turns_174 4 rfl ?_
                          refine x_iconst 176 rfl dX7_turns_175 (z := 3) (by decide) ?_
                          refine x_icmp_ne 179 rfl (tgt := 207) dX7_turns_176 (by decide) (by omega) (by decide) (fun h176 => ?_) (fun h176 => ?_)
                          · skip
                            refine x_iconst 208 rfl dX7_turns_207 (z := 0) (by decide) ?_
                            refine x_int (y := zB (turnsN ear own tune wind)) (by first | exact zB_f (by rw [tN_p (by rw [if_neg (show ¬ (ear = 2 ∨ ear = 5) by omega)]; omega) (by omega)]; exact decide_eq_false (by omega)) | exact zB_f (by rw [tN_l (by rw [if_neg (show ¬ (ear = 2 ∨ ear = 5) by omega)]; omega) (by omega) (by omega) (by omega)]; exact decide_eq_false (by omega))) ?_
                            refine x_zret rfl ?_ dX7_turns_208
                            exact ⟨rfl, rfl⟩
                          · skip
                            refine x_iload 181 rfl dX7_turns_179 3 rfl ?_
                            refine x_callS0 184 rfl (c_X7_notes G (leftN tune wind) (by omega)) (fun _ _ h => h.2) gX7_turns_X7_notes rfl rfl rfl hd_X7_notes ⟨Nat.le_of_ble_eq_true rfl, Nat.le_of_ble_eq_true rfl⟩ (As := [.int (zI ((leftN tune wind : Nat) : Int))]) (rest := []) rfl rfl (Nat.le_of_ble_eq_true rfl) dX7_turns_181 ⟨Nat.zero_le _, Nat.zero_le _⟩ (fun v hq => ?_)
                            obtain ⟨rfl, -⟩ := hq
                            refine x_iload 186 rfl dX7_turns_184 1 rfl ?_
                            refine x_callS0 189 rfl (c_X7_notes G (leftN own wind) (by omega)) (fun _ _ h => h.2) gX7_turns_X7_notes rfl rfl rfl hd_X7_notes ⟨Nat.le_of_ble_eq_true rfl, Nat.le_of_ble_eq_true rfl⟩ (As := [.int (zI ((leftN own wind : Nat) : Int))]) (rest := [.int (zI ((notesN (leftN tune wind) : Nat) : Int))]) rfl rfl (Nat.le_of_ble_eq_true rfl) dX7_turns_186 ⟨Nat.zero_le _, Nat.zero_le _⟩ (fun v hq => ?_)
                            obtain ⟨rfl, -⟩ := hq
                            refine x_icmp_ne 192 rfl (tgt := 207) dX7_turns_189 (by decide) (by have := notes_15 (t := leftN tune wind) (by omega); omega) (by have := notes_15 (t := leftN own wind) (by omega); omega) (fun h189 => ?_) (fun h189 => ?_)
                            · skip
                              refine x_iconst 208 rfl dX7_turns_207 (z := 0) (by decide) ?_
                              refine x_int (y := zB (turnsN ear own tune wind)) (by first | exact zB_f (by rw [tN_p (by rw [if_neg (show ¬ (ear = 2 ∨ ear = 5) by omega)]; omega) (by omega)]; exact decide_eq_false (by omega)) | exact zB_f (by rw [tN_l (by rw [if_neg (show ¬ (ear = 2 ∨ ear = 5) by omega)]; omega) (by omega) (by omega) (by omega)]; exact decide_eq_false (by omega))) ?_
                              refine x_zret rfl ?_ dX7_turns_208
                              exact ⟨rfl, rfl⟩
                            · skip
                              refine x_iload 194 rfl dX7_turns_192 3 rfl ?_
                              refine x_iconst 195 rfl dX7_turns_194 (z := 4) (by decide) ?_
                              refine x_irem 196 rfl dX7_turns_195 (z := (((leftN tune wind) % 4 : Nat) : Int)) (by decide) (zI_rem (a := (leftN tune wind)) (d := 4) (by omega) (by omega) (by omega)) ?_
                              refine x_iload 198 rfl dX7_turns_196 1 rfl ?_
                              refine x_iconst 199 rfl dX7_turns_198 (z := 4) (by decide) ?_
                              refine x_irem 200 rfl dX7_turns_199 (z := (((leftN own wind) % 4 : Nat) : Int)) (by decide) (zI_rem (a := (leftN own wind)) (d := 4) (by omega) (by omega) (by omega)) ?_
                              refine x_icmp_ne 203 rfl (tgt := 207) dX7_turns_200 (by decide) (by omega) (by omega) (fun h200 => ?_) (fun h200 => ?_)
                              · skip
                                refine x_iconst 208 rfl dX7_turns_207 (z := 0) (by decide) ?_
                                refine x_int (y := zB (turnsN ear own tune wind)) (by first | exact zB_f (by rw [tN_p (by rw [if_neg (show ¬ (ear = 2 ∨ ear = 5) by omega)]; omega) (by omega)]; exact decide_eq_false (by omega)) | exact zB_f (by rw [tN_l (by rw [if_neg (show ¬ (ear = 2 ∨ ear = 5) by omega)]; omega) (by omega) (by omega) (by omega)]; exact decide_eq_false (by omega))) ?_
                                refine x_zret rfl ?_ dX7_turns_208
                                exact ⟨rfl, rfl⟩
                              · skip
                                refine x_iconst 204 rfl dX7_turns_203 (z := 1) (by decide) ?_
                                refine x_goto dX7_turns_204 (tgt := 208) (by decide) ?_
                                refine x_int (y := zB (turnsN ear own tune wind)) (by first | exact zB_t (by rw [tN_p (by rw [if_neg (show ¬ (ear = 2 ∨ ear = 5) by omega)]; omega) (by omega)]; exact decide_eq_true (by omega)) | exact zB_t (by rw [tN_l (by rw [if_neg (show ¬ (ear = 2 ∨ ear = 5) by omega)]; omega) (by omega) (by omega) (by omega)]; exact decide_eq_true (by omega))) ?_
                                refine x_zret rfl ?_ dX7_turns_208
                                exact ⟨rfl, rfl⟩
                      · skip
                        refine x_iconst 142 rfl dX7_turns_141 (z := 1) (by decide) ?_
                        refine x_goto dX7_turns_142 (tgt := 167) (by decide) ?_
                        refine x_istore 169 rfl (lv' := [(7, .int (zI 1)), (6, .int (zI ((leftN own wind : Nat) : Int))), (5, .int (zI 0)), (4, .int (zI ((leftN tune wind : Nat) : Int))), (0, .int (zI ((ear : Nat) : Int))), (1, .int (zI ((own : Nat) : Int))), (2, .int (zI ((tune : Nat) : Int))), (3, .int (zI ((wind : Nat) : Int)))]) dX7_turns_167 (by decide) rfl ?_
                        refine x_iload 171 rfl dX7_turns_169 0 rfl ?_
                        refine x_if_ne 174 rfl (tgt := 203) dX7_turns_171 (by decide) (by omega) (fun h171 => ?_) (fun h171 => ?_)
                        · skip
                          refine x_iconst 204 rfl dX7_turns_203 (z := 1) (by decide) ?_
                          refine x_goto dX7_turns_204 (tgt := 208) (by decide) ?_
                          refine x_int (y := zB (turnsN ear own tune wind)) (by first | exact zB_t (by rw [tN_p (by rw [if_neg (show ¬ (ear = 2 ∨ ear = 5) by omega)]; omega) (by omega)]; exact decide_eq_true (by omega)) | exact zB_t (by rw [tN_l (by rw [if_neg (show ¬ (ear = 2 ∨ ear = 5) by omega)]; omega) (by omega) (by omega) (by omega)]; exact decide_eq_true (by omega))) ?_
                          refine x_zret rfl ?_ dX7_turns_208
                          exact ⟨rfl, rfl⟩
                        · skip
                          exact absurd h171 (by decide)
                  · skip
                    exact absurd h93 (by decide)
                · skip
                  refine x_iconst 90 rfl dX7_turns_89 (z := 0) (by decide) ?_
                  refine x_int (y := zB (turnsN ear own tune wind)) (zB_f (tN_n (by omega) (by rw [if_neg (show ¬ (ear = 2 ∨ ear = 5) by omega)]; omega))) ?_
                  refine x_zret rfl ?_ dX7_turns_90
                  exact ⟨rfl, rfl⟩
        · skip
          exact absurd h42 (by decide)
      · skip
        refine x_iconst 34 rfl dX7_turns_33 (z := 1) (by decide) ?_
        refine x_goto dX7_turns_34 (tgt := 38) (by decide) ?_
        refine x_istore 40 rfl (lv' := [(5, .int (zI 1)), (4, .int (zI ((leftN tune wind : Nat) : Int))), (0, .int (zI ((ear : Nat) : Int))), (1, .int (zI ((own : Nat) : Int))), (2, .int (zI ((tune : Nat) : Int))), (3, .int (zI ((wind : Nat) : Int)))]) dX7_turns_38 (by decide) rfl ?_
        refine x_iload 42 rfl dX7_turns_40 0 rfl ?_
        refine x_if_eq 45 rfl (tgt := 60) dX7_turns_42 (by decide) (by omega) (fun h42 => ?_) (fun h42 => ?_)
        · skip
          exact absurd h42 (by decide)
        · skip
          refine x_iload_n 46 rfl dX7_turns_45 3 rfl ?_
          refine x_iload_n 47 rfl dX7_turns_46 3 rfl ?_
          refine x_callS0 50 rfl (c_X7_notes G own (by omega)) (fun _ _ h => h.2) gX7_turns_X7_notes rfl rfl rfl hd_X7_notes ⟨Nat.le_of_ble_eq_true rfl, Nat.le_of_ble_eq_true rfl⟩ (As := [.int (zI ((own : Nat) : Int))]) (rest := [.int (zI ((own : Nat) : Int))]) rfl rfl (Nat.le_of_ble_eq_true rfl) dX7_turns_47 ⟨Nat.zero_le _, Nat.zero_le _⟩ (fun v hq => ?_)
          obtain ⟨rfl, -⟩ := hq
          refine x_iconst 51 rfl dX7_turns_50 (z := 1) (by decide) ?_
          refine x_iadd 52 rfl dX7_turns_51 (z := ((notesN own + 1 : Nat) : Int)) (by omega) ?_
          refine x_iconst 53 rfl dX7_turns_52 (z := 2) (by decide) ?_
          refine x_idiv 54 rfl dX7_turns_53 (z := (((notesN own + 1) / 2 : Nat) : Int)) (by decide) (zI_div (a := (notesN own + 1)) (d := 2) (by omega) (by omega) (by omega)) ?_
          refine x_callS0 57 rfl (c_X7_front G own ((notesN own + 1) / 2) (by omega) (by omega)) (fun _ _ h => h.2) gX7_turns_X7_front rfl rfl rfl hd_X7_front ⟨Nat.le_of_ble_eq_true rfl, Nat.le_of_ble_eq_true rfl⟩ (As := [.int (zI ((own : Nat) : Int)), .int (zI (((notesN own + 1) / 2 : Nat) : Int))]) (rest := []) rfl rfl (Nat.le_of_ble_eq_true rfl) dX7_turns_54 ⟨Nat.zero_le _, Nat.zero_le _⟩ (fun v hq => ?_)
          obtain ⟨rfl, -⟩ := hq
          refine x_int (congrArg zI (by show ((own / 4 ^ (notesN own - (notesN own + 1) / 2) : Nat) : Int) = ((own / 4 ^ (notesN own / 2) : Nat) : Int); rw [show notesN own - (notesN own + 1) / 2 = notesN own / 2 by omega] : ((frontN own ((notesN own + 1) / 2) : Nat) : Int) = ((halfN own : Nat) : Int))) ?_
          refine x_goto dX7_turns_57 (tgt := 61) (by decide) ?_
          refine x_iload_n 62 rfl dX7_turns_61 5 rfl ?_
          refine x_callS0 65 rfl (c_X7_left G (halfN own) wind (half_vt own ho hv) (by omega)) (fun _ _ h => h.2) gX7_turns_X7_left rfl rfl rfl hd_X7_left ⟨Nat.le_of_ble_eq_true rfl, Nat.le_of_ble_eq_true rfl⟩ (As := [.int (zI ((halfN own : Nat) : Int)), .int (zI ((wind : Nat) : Int))]) (rest := []) rfl rfl (Nat.le_of_ble_eq_true rfl) dX7_turns_62 ⟨Nat.zero_le _, Nat.zero_le _⟩ (fun v hq => ?_)
          obtain ⟨rfl, -⟩ := hq
          refine x_istore 67 rfl (lv' := [(6, .int (zI ((leftN (halfN own) wind : Nat) : Int))), (5, .int (zI 1)), (4, .int (zI ((leftN tune wind : Nat) : Int))), (0, .int (zI ((ear : Nat) : Int))), (1, .int (zI ((own : Nat) : Int))), (2, .int (zI ((tune : Nat) : Int))), (3, .int (zI ((wind : Nat) : Int)))]) dX7_turns_65 (by decide) rfl ?_
          refine x_iload 69 rfl dX7_turns_67 2 rfl ?_
          refine x_iconst 70 rfl dX7_turns_69 (z := 1) (by decide) ?_
          refine x_icmp_eq 73 rfl (tgt := 89) dX7_turns_70 (by decide) (by omega) (by decide) (fun h70 => ?_) (fun h70 => ?_)
          · skip
            refine x_iconst 90 rfl dX7_turns_89 (z := 0) (by decide) ?_
            refine x_int (y := zB (turnsN ear own tune wind)) (zB_f (tN_n (by omega) (by rw [if_pos (show ear = 2 ∨ ear = 5 by omega)]; omega))) ?_
            refine x_zret rfl ?_ dX7_turns_90
            exact ⟨rfl, rfl⟩
          · skip
            refine x_iload 75 rfl dX7_turns_73 0 rfl ?_
            refine x_iconst 76 rfl dX7_turns_75 (z := 1) (by decide) ?_
            refine x_icmp_eq 79 rfl (tgt := 89) dX7_turns_76 (by decide) (by omega) (by decide) (fun h76 => ?_) (fun h76 => ?_)
            · skip
              refine x_iconst 90 rfl dX7_turns_89 (z := 0) (by decide) ?_
              refine x_int (y := zB (turnsN ear own tune wind)) (zB_f (tN_n (by omega) (by rw [if_pos (show ear = 2 ∨ ear = 5 by omega)]; omega))) ?_
              refine x_zret rfl ?_ dX7_turns_90
              exact ⟨rfl, rfl⟩
            · skip
              refine x_iload_n 80 rfl dX7_turns_79 3 rfl ?_
              refine x_iconst 81 rfl dX7_turns_80 (z := 5) (by decide) ?_
              refine x_icmp_ne 84 rfl (tgt := 91) dX7_turns_81 (by decide) (by omega) (by decide) (fun h81 => ?_) (fun h81 => ?_)
              · skip
                have c1 : leftN tune wind ≠ 1 := by omega
                refine x_iload 93 rfl dX7_turns_91 1 rfl ?_
                refine x_if_eq 96 rfl (tgt := 130) dX7_turns_93 (by decide) (by omega) (fun h93 => ?_) (fun h93 => ?_)
                · skip
                  exact absurd h93 (by decide)
                · skip
                  refine x_iload 98 rfl dX7_turns_96 2 rfl ?_
                  refine x_callS0 101 rfl (c_X7_notes G (leftN tune wind) (by omega)) (fun _ _ h => h.2) gX7_turns_X7_notes rfl rfl rfl hd_X7_notes ⟨Nat.le_of_ble_eq_true rfl, Nat.le_of_ble_eq_true rfl⟩ (As := [.int (zI ((leftN tune wind : Nat) : Int))]) (rest := []) rfl rfl (Nat.le_of_ble_eq_true rfl) dX7_turns_98 ⟨Nat.zero_le _, Nat.zero_le _⟩ (fun v hq => ?_)
                  obtain ⟨rfl, -⟩ := hq
                  refine x_iload 103 rfl dX7_turns_101 0 rfl ?_
                  refine x_callS0 106 rfl (c_X7_notes G (leftN (halfN own) wind) (by omega)) (fun _ _ h => h.2) gX7_turns_X7_notes rfl rfl rfl hd_X7_notes ⟨Nat.le_of_ble_eq_true rfl, Nat.le_of_ble_eq_true rfl⟩ (As := [.int (zI ((leftN (halfN own) wind : Nat) : Int))]) (rest := [.int (zI ((notesN (leftN tune wind) : Nat) : Int))]) rfl rfl (Nat.le_of_ble_eq_true rfl) dX7_turns_103 ⟨Nat.zero_le _, Nat.zero_le _⟩ (fun v hq => ?_)
                  obtain ⟨rfl, -⟩ := hq
                  refine x_icmp_lt 109 rfl (tgt := 128) dX7_turns_106 (by decide) (by have := notes_15 (t := leftN tune wind) (by omega); omega) (by have := notes_15 (t := leftN (halfN own) wind) (by omega); omega) (fun h106 => ?_) (fun h106 => ?_)
                  · skip
                    refine x_iconst 129 rfl dX7_turns_128 (z := 0) (by decide) ?_
                    refine x_int (y := zB (turnsN ear own tune wind)) (zB_f (by rw [tN_h (by rw [if_pos (show ear = 2 ∨ ear = 5 by omega)]; omega) (by omega)]; exact decide_eq_false (by omega))) ?_
                    refine x_zret rfl ?_ dX7_turns_129
                    exact ⟨rfl, rfl⟩
                  · skip
                    refine x_iload 111 rfl dX7_turns_109 2 rfl ?_
                    refine x_iload 113 rfl dX7_turns_111 0 rfl ?_
                    refine x_callS0 116 rfl (c_X7_notes G (leftN (halfN own) wind) (by omega)) (fun _ _ h => h.2) gX7_turns_X7_notes rfl rfl rfl hd_X7_notes ⟨Nat.le_of_ble_eq_true rfl, Nat.le_of_ble_eq_true rfl⟩ (As := [.int (zI ((leftN (halfN own) wind : Nat) : Int))]) (rest := [.int (zI ((leftN tune wind : Nat) : Int))]) rfl rfl (Nat.le_of_ble_eq_true rfl) dX7_turns_113 ⟨Nat.zero_le _, Nat.zero_le _⟩ (fun v hq => ?_)
                    obtain ⟨rfl, -⟩ := hq
                    refine x_callS0 119 rfl (c_X7_front G (leftN tune wind) (notesN (leftN (halfN own) wind)) (by omega) (by omega)) (fun _ _ h => h.2) gX7_turns_X7_front rfl rfl rfl hd_X7_front ⟨Nat.le_of_ble_eq_true rfl, Nat.le_of_ble_eq_true rfl⟩ (As := [.int (zI ((leftN tune wind : Nat) : Int)), .int (zI ((notesN (leftN (halfN own) wind) : Nat) : Int))]) (rest := []) rfl rfl (Nat.le_of_ble_eq_true rfl) dX7_turns_116 ⟨Nat.zero_le _, Nat.zero_le _⟩ (fun v hq => ?_)
                    obtain ⟨rfl, -⟩ := hq
                    refine x_iload 121 rfl dX7_turns_119 0 rfl ?_
                    refine x_icmp_ne 124 rfl (tgt := 128) dX7_turns_121 (by decide) (by have : frontN (leftN tune wind) (notesN (leftN (halfN own) wind)) ≤ leftN tune wind := Nat.div_le_self _ _; omega) (by omega) (fun h121 => ?_) (fun h121 => ?_)
                    · skip
                      refine x_iconst 129 rfl dX7_turns_128 (z := 0) (by decide) ?_
                      refine x_int (y := zB (turnsN ear own tune wind)) (zB_f (by rw [tN_h (by rw [if_pos (show ear = 2 ∨ ear = 5 by omega)]; omega) (by omega)]; exact decide_eq_false (by omega))) ?_
                      refine x_zret rfl ?_ dX7_turns_129
                      exact ⟨rfl, rfl⟩
                    · skip
                      refine x_iconst 125 rfl dX7_turns_124 (z := 1) (by decide) ?_
                      refine x_goto dX7_turns_125 (tgt := 129) (by decide) ?_
                      refine x_int (y := zB (turnsN ear own tune wind)) (zB_t (by rw [tN_h (by rw [if_pos (show ear = 2 ∨ ear = 5 by omega)]; omega) (by omega)]; exact decide_eq_true (by omega))) ?_
                      refine x_zret rfl ?_ dX7_turns_129
                      exact ⟨rfl, rfl⟩
              · skip
                refine x_iload_n 85 rfl dX7_turns_84 6 rfl ?_
                refine x_iconst 86 rfl dX7_turns_85 (z := 1) (by decide) ?_
                refine x_icmp_le 89 rfl (tgt := 91) dX7_turns_86 (by decide) (by omega) (by decide) (fun h86 => ?_) (fun h86 => ?_)
                · skip
                  have c1 : leftN tune wind ≠ 1 := by omega
                  refine x_iload 93 rfl dX7_turns_91 1 rfl ?_
                  refine x_if_eq 96 rfl (tgt := 130) dX7_turns_93 (by decide) (by omega) (fun h93 => ?_) (fun h93 => ?_)
                  · skip
                    exact absurd h93 (by decide)
                  · skip
                    refine x_iload 98 rfl dX7_turns_96 2 rfl ?_
                    refine x_callS0 101 rfl (c_X7_notes G (leftN tune wind) (by omega)) (fun _ _ h => h.2) gX7_turns_X7_notes rfl rfl rfl hd_X7_notes ⟨Nat.le_of_ble_eq_true rfl, Nat.le_of_ble_eq_true rfl⟩ (As := [.int (zI ((leftN tune wind : Nat) : Int))]) (rest := []) rfl rfl (Nat.le_of_ble_eq_true rfl) dX7_turns_98 ⟨Nat.zero_le _, Nat.zero_le _⟩ (fun v hq => ?_)
                    obtain ⟨rfl, -⟩ := hq
                    refine x_iload 103 rfl dX7_turns_101 0 rfl ?_
                    refine x_callS0 106 rfl (c_X7_notes G (leftN (halfN own) wind) (by omega)) (fun _ _ h => h.2) gX7_turns_X7_notes rfl rfl rfl hd_X7_notes ⟨Nat.le_of_ble_eq_true rfl, Nat.le_of_ble_eq_true rfl⟩ (As := [.int (zI ((leftN (halfN own) wind : Nat) : Int))]) (rest := [.int (zI ((notesN (leftN tune wind) : Nat) : Int))]) rfl rfl (Nat.le_of_ble_eq_true rfl) dX7_turns_103 ⟨Nat.zero_le _, Nat.zero_le _⟩ (fun v hq => ?_)
                    obtain ⟨rfl, -⟩ := hq
                    refine x_icmp_lt 109 rfl (tgt := 128) dX7_turns_106 (by decide) (by have := notes_15 (t := leftN tune wind) (by omega); omega) (by have := notes_15 (t := leftN (halfN own) wind) (by omega); omega) (fun h106 => ?_) (fun h106 => ?_)
                    · skip
                      refine x_iconst 129 rfl dX7_turns_128 (z := 0) (by decide) ?_
                      refine x_int (y := zB (turnsN ear own tune wind)) (zB_f (by rw [tN_h (by rw [if_pos (show ear = 2 ∨ ear = 5 by omega)]; omega) (by omega)]; exact decide_eq_false (by omega))) ?_
                      refine x_zret rfl ?_ dX7_turns_129
                      exact ⟨rfl, rfl⟩
                    · skip
                      refine x_iload 111 rfl dX7_turns_109 2 rfl ?_
                      refine x_iload 113 rfl dX7_turns_111 0 rfl ?_
                      refine x_callS0 116 rfl (c_X7_notes G (leftN (halfN own) wind) (by omega)) (fun _ _ h => h.2) gX7_turns_X7_notes rfl rfl rfl hd_X7_notes ⟨Nat.le_of_ble_eq_true rfl, Nat.le_of_ble_eq_true rfl⟩ (As := [.int (zI ((leftN (halfN own) wind : Nat) : Int))]) (rest := [.int (zI ((leftN tune wind : Nat) : Int))]) rfl rfl (Nat.le_of_ble_eq_true rfl) dX7_turns_113 ⟨Nat.zero_le _, Nat.zero_le _⟩ (fun v hq => ?_)
                      obtain ⟨rfl, -⟩ := hq
                      refine x_callS0 119 rfl (c_X7_front G (leftN tune wind) (notesN (leftN (halfN own) wind)) (by omega) (by omega)) (fun _ _ h => h.2) gX7_turns_X7_front rfl rfl rfl hd_X7_front ⟨Nat.le_of_ble_eq_true rfl, Nat.le_of_ble_eq_true rfl⟩ (As := [.int (zI ((leftN tune wind : Nat) : Int)), .int (zI ((notesN (leftN (halfN own) wind) : Nat) : Int))]) (rest := []) rfl rfl (Nat.le_of_ble_eq_true rfl) dX7_turns_116 ⟨Nat.zero_le _, Nat.zero_le _⟩ (fun v hq => ?_)
                      obtain ⟨rfl, -⟩ := hq
                      refine x_iload 121 rfl dX7_turns_119 0 rfl ?_
                      refine x_icmp_ne 124 rfl (tgt := 128) dX7_turns_121 (by decide) (by have : frontN (leftN tune wind) (notesN (leftN (halfN own) wind)) ≤ leftN tune wind := Nat.div_le_self _ _; omega) (by omega) (fun h121 => ?_) (fun h121 => ?_)
                      · skip
                        refine x_iconst 129 rfl dX7_turns_128 (z := 0) (by decide) ?_
                        refine x_int (y := zB (turnsN ear own tune wind)) (zB_f (by rw [tN_h (by rw [if_pos (show ear = 2 ∨ ear = 5 by omega)]; omega) (by omega)]; exact decide_eq_false (by omega))) ?_
                        refine x_zret rfl ?_ dX7_turns_129
                        exact ⟨rfl, rfl⟩
                      · skip
                        refine x_iconst 125 rfl dX7_turns_124 (z := 1) (by decide) ?_
                        refine x_goto dX7_turns_125 (tgt := 129) (by decide) ?_
                        refine x_int (y := zB (turnsN ear own tune wind)) (zB_t (by rw [tN_h (by rw [if_pos (show ear = 2 ∨ ear = 5 by omega)]; omega) (by omega)]; exact decide_eq_true (by omega))) ?_
                        refine x_zret rfl ?_ dX7_turns_129
                        exact ⟨rfl, rfl⟩
                · skip
                  refine x_iconst 90 rfl dX7_turns_89 (z := 0) (by decide) ?_
                  refine x_int (y := zB (turnsN ear own tune wind)) (zB_f (tN_n (by omega) (by rw [if_pos (show ear = 2 ∨ ear = 5 by omega)]; omega))) ?_
                  refine x_zret rfl ?_ dX7_turns_90
                  exact ⟨rfl, rfl⟩
  · skip
    refine x_iload_n 6 rfl dX7_turns_5 1 rfl ?_
    refine x_iload_n 7 rfl dX7_turns_6 2 rfl ?_
    refine x_icmp_ne 10 rfl (tgt := 14) dX7_turns_7 (by decide) (by omega) (by omega) (fun h7 => ?_) (fun h7 => ?_)
    · skip
      refine x_iconst 15 rfl dX7_turns_14 (z := 0) (by decide) ?_
      refine x_int (y := zB (turnsN ear own tune wind)) (zB_f (by rw [tN_b (by omega)]; exact decide_eq_false (by omega))) ?_
      refine x_zret rfl ?_ dX7_turns_15
      exact ⟨rfl, rfl⟩
    · skip
      refine x_iconst 11 rfl dX7_turns_10 (z := 1) (by decide) ?_
      refine x_goto dX7_turns_11 (tgt := 15) (by decide) ?_
      refine x_int (y := zB (turnsN ear own tune wind)) (zB_t (by rw [tN_b (by omega)]; exact decide_eq_true (by omega))) ?_
      refine x_zret rfl ?_ dX7_turns_15
      exact ⟨rfl, rfl⟩

abbrev P_X7_tuneOf (G : XG) (k : Nat) : Option Value → va_W → Prop := fun v w => v = some (.int (zI ((tuneOfN k : Nat) : Int))) ∧ w = []
abbrev W_X7_tuneOf (G : XG) (E : XE) (k : Nat) (pc : Nat) (lv : List (Nat × Value)) (st : List Value) (ws : va_W) : Prop := Wx G E (rmL 0) cX7_tuneOf 1 RX7 wsX7_tuneOf (some .int) "tuneOf" 0 0 (P_X7_tuneOf G k) 0 0 pc lv st ws
set_option maxHeartbeats 4000000 in
set_option maxRecDepth 100000 in
/-- tuneOf -/
theorem c_X7_tuneOf (G : XG) (k : Nat) (hk : k < 2147483000) : Con G yX7_tuneOf wsX7_tuneOf (rmL 0) 0 0 [.int (zI ((k : Nat) : Int))] ([]) (P_X7_tuneOf G k) := by
  refine x_start (cc := cX7_tuneOf) (nL := 1) (ret := (some .int)) (by decide) rfl (Nat.le_of_ble_eq_true rfl) (fun E => ?_)
  show W_X7_tuneOf G E k 0 [(0, .int (zI ((k : Nat) : Int)))] [] ([])
  refine x_iload_n 1 rfl dX7_tuneOf_0 0 rfl ?_
  refine x_iconst 2 rfl dX7_tuneOf_1 (z := 4) (by decide) ?_
  refine x_icmp_ge 5 rfl (tgt := 11) dX7_tuneOf_2 (by decide) (by omega) (by decide) (fun h2 => ?_) (fun h2 => ?_)
  · skip
    refine x_bipush 13 rfl dX7_tuneOf_11 (z := 12) (by decide) ?_
    refine x_iload_n 14 rfl dX7_tuneOf_13 0 rfl ?_
    refine x_iadd 15 rfl dX7_tuneOf_14 (z := ((12 + k : Nat) : Int)) (by omega) ?_
    refine x_iret rfl ?_ dX7_tuneOf_15
    exact ⟨by unfold tuneOfN; first | rw [if_pos (by omega)] | rw [if_neg (by omega)], rfl⟩
  · skip
    refine x_iconst 6 rfl dX7_tuneOf_5 (z := 4) (by decide) ?_
    refine x_iload_n 7 rfl dX7_tuneOf_6 0 rfl ?_
    refine x_iadd 8 rfl dX7_tuneOf_7 (z := ((4 + k : Nat) : Int)) (by omega) ?_
    refine x_goto dX7_tuneOf_8 (tgt := 15) (by decide) ?_
    refine x_iret rfl ?_ dX7_tuneOf_15
    exact ⟨by unfold tuneOfN; first | rw [if_pos (by omega)] | rw [if_neg (by omega)], rfl⟩

