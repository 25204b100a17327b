theorem hd_X4_notes : yX4_notes.cls ≠ "java/lang/invoke/MethodHandle" ∧ yX4_notes.cls ≠ "java/lang/invoke/VarHandle" ∧ (parseMethodDescriptor yX4_notes.desc).map (fun d => d.parameters.length) = some 1 := by decide +kernel
theorem hd_X4_isTune : yX4_isTune.cls ≠ "java/lang/invoke/MethodHandle" ∧ yX4_isTune.cls ≠ "java/lang/invoke/VarHandle" ∧ (parseMethodDescriptor yX4_isTune.desc).map (fun d => d.parameters.length) = some 1 := by decide +kernel
theorem hd_X4_firstHalf : yX4_firstHalf.cls ≠ "java/lang/invoke/MethodHandle" ∧ yX4_firstHalf.cls ≠ "java/lang/invoke/VarHandle" ∧ (parseMethodDescriptor yX4_firstHalf.desc).map (fun d => d.parameters.length) = some 1 := by decide +kernel
theorem hd_X4_lessLost : yX4_lessLost.cls ≠ "java/lang/invoke/MethodHandle" ∧ yX4_lessLost.cls ≠ "java/lang/invoke/VarHandle" ∧ (parseMethodDescriptor yX4_lessLost.desc).map (fun d => d.parameters.length) = some 2 := by decide +kernel
theorem hd_X4_lisped : yX4_lisped.cls ≠ "java/lang/invoke/MethodHandle" ∧ yX4_lisped.cls ≠ "java/lang/invoke/VarHandle" ∧ (parseMethodDescriptor yX4_lisped.desc).map (fun d => d.parameters.length) = some 1 := by decide +kernel
theorem hd_X4_begins : yX4_begins.cls ≠ "java/lang/invoke/MethodHandle" ∧ yX4_begins.cls ≠ "java/lang/invoke/VarHandle" ∧ (parseMethodDescriptor yX4_begins.desc).map (fun d => d.parameters.length) = some 2 := by decide +kernel
theorem hd_X6_isBelow : yX6_isBelow.cls ≠ "java/lang/invoke/MethodHandle" ∧ yX6_isBelow.cls ≠ "java/lang/invoke/VarHandle" ∧ (parseMethodDescriptor yX6_isBelow.desc).map (fun d => d.parameters.length) = some 2 := by decide +kernel
theorem xn_RX0_55 : Cond.methodLinkNest RX0 55 yX6_isBelow RX6 ∈ xN := by simp [xN]
abbrev P_X6_isBelow (G : XG) (a : Int) (b : Int) : Option Value → va_W → Prop := fun v w => v = some (.int (zB (decide (0 ≤ a ∧ a < b)))) ∧ w = []
abbrev W_X6_isBelow (G : XG) (E : XE) (a : Int) (b : Int) (pc : Nat) (lv : List (Nat × Value)) (st : List Value) (ws : va_W) : Prop := Wx G E (rmL 0) cX6_isBelow 2 RX6 wsX6_isBelow (some .boolean) "isBelow" 0 0 (P_X6_isBelow G a b) 0 0 pc lv st ws
set_option maxHeartbeats 4000000 in
set_option maxRecDepth 100000 in
/-- isBelow: 0 ≤ a < b -/
theorem c_X6_isBelow (G : XG) (a b : Int) (ha : Z32 a) (hb : Z32 b) : Con G yX6_isBelow wsX6_isBelow (rmL 0) 0 0 [.int (zI a), .int (zI b)] ([]) (P_X6_isBelow G a b) := by
  refine x_start (cc := cX6_isBelow) (nL := 2) (ret := (some .boolean)) (by decide) rfl (Nat.le_of_ble_eq_true rfl) (fun E => ?_)
  show W_X6_isBelow G E a b 0 [(0, .int (zI a)), (1, .int (zI b))] [] ([])
  refine x_iload_n 1 rfl dX6_isBelow_0 0 rfl ?_
  refine x_if_lt 4 rfl (tgt := 13) dX6_isBelow_1 (by decide) (by omega) (fun h1 => ?_) (fun h1 => ?_)
  · skip
    refine x_iconst 14 rfl dX6_isBelow_13 (z := 0) (by decide) ?_
    refine x_int (y := zB (decide (0 ≤ a ∧ a < b))) (zB_n (by omega)) ?_
    refine x_zret rfl ?_ dX6_isBelow_14
    exact ⟨rfl, rfl⟩
  · skip
    refine x_iload_n 5 rfl dX6_isBelow_4 0 rfl ?_
    refine x_iload_n 6 rfl dX6_isBelow_5 1 rfl ?_
    refine x_icmp_ge 9 rfl (tgt := 13) dX6_isBelow_6 (by decide) (by omega) (by omega) (fun h6 => ?_) (fun h6 => ?_)
    · skip
      refine x_iconst 14 rfl dX6_isBelow_13 (z := 0) (by decide) ?_
      refine x_int (y := zB (decide (0 ≤ a ∧ a < b))) (zB_n (by omega)) ?_
      refine x_zret rfl ?_ dX6_isBelow_14
      exact ⟨rfl, rfl⟩
    · skip
      refine x_iconst 10 rfl dX6_isBelow_9 (z := 1) (by decide) ?_
      refine x_goto dX6_isBelow_10 (tgt := 14) (by decide) ?_
      refine x_int (y := zB (decide (0 ≤ a ∧ a < b))) (zB_d (by omega)) ?_
      refine x_zret rfl ?_ dX6_isBelow_14
      exact ⟨rfl, rfl⟩

abbrev P_X4_notes (G : XG) (z : Int) : Option Value → va_W → Prop := fun v w => v = some (.int (zI (cnN z))) ∧ w = []
abbrev W_X4_notes (G : XG) (E : XE) (z : Int) (pc : Nat) (lv : List (Nat × Value)) (st : List Value) (ws : va_W) : Prop := Wx G E (rmL 0) cX4_notes 2 RX4 wsX4_notes (some .int) "notes" 0 0 (P_X4_notes G z) 0 0 pc lv st ws
set_option maxHeartbeats 4000000 in
set_option maxRecDepth 100000 in
/-- Tune.notes -/
theorem c_X4_notes (G : XG) (z : Int) (hz : Z32 z) : Con G yX4_notes wsX4_notes (rmL 0) 0 0 [.int (zI z)] ([]) (P_X4_notes G z) := by
  refine x_start (cc := cX4_notes) (nL := 2) (ret := (some .int)) (by decide) rfl (Nat.le_of_ble_eq_true rfl) (fun E => ?_)
  show W_X4_notes G E z 0 [(0, .int (zI z))] [] ([])
  refine x_iconst 1 rfl dX4_notes_0 (z := 1) (by decide) ?_
  refine x_istore_n 2 rfl (lv' := [(1, .int (zI 1)), (0, .int (zI z))]) dX4_notes_1 (by decide) rfl ?_
  refine x_iload_n 3 rfl dX4_notes_2 0 rfl ?_
  refine x_iconst 4 rfl dX4_notes_3 (z := 5) (by decide) ?_
  refine x_icmp_gt 7 rfl (tgt := 24) dX4_notes_4 (by decide) (by decide) (by decide) (fun h4 => ?_) (fun h4 => ?_)
  · skip
    exact absurd h4 (by decide)
  · skip
    refine x_iload_n 8 rfl dX4_notes_7 1 rfl ?_
    refine x_iconst 9 rfl dX4_notes_8 (z := 2) (by decide) ?_
    refine x_iload_n 10 rfl dX4_notes_9 0 rfl ?_
    refine x_imul 11 rfl dX4_notes_10 (z := 2) (by decide) ?_
    refine x_ishr 12 rfl dX4_notes_11 (z := z / 4) (zI_shrI (by omega) 2 4 (by decide) rfl) ?_
    refine x_iconst 13 rfl dX4_notes_12 (z := 1) (by decide) ?_
    refine x_icmp_ne 16 rfl (tgt := 18) dX4_notes_13 (by decide) (by omega) (by decide) (fun h13 => ?_) (fun h13 => ?_)
    · skip
      refine x_iinc 21 rfl (lv' := [(1, .int (zI 2)), (0, .int (zI z))]) dX4_notes_18 0 rfl (b := 2) (by decide) (by decide) rfl ?_
      refine x_goto dX4_notes_21 (tgt := 2) (by decide) ?_
      refine x_iload_n 3 rfl dX4_notes_2 0 rfl ?_
      refine x_iconst 4 rfl dX4_notes_3 (z := 5) (by decide) ?_
      refine x_icmp_gt 7 rfl (tgt := 24) dX4_notes_4 (by decide) (by decide) (by decide) (fun h4 => ?_) (fun h4 => ?_)
      · skip
        exact absurd h4 (by decide)
      · skip
        refine x_iload_n 8 rfl dX4_notes_7 1 rfl ?_
        refine x_iconst 9 rfl dX4_notes_8 (z := 2) (by decide) ?_
        refine x_iload_n 10 rfl dX4_notes_9 0 rfl ?_
        refine x_imul 11 rfl dX4_notes_10 (z := 4) (by decide) ?_
        refine x_ishr 12 rfl dX4_notes_11 (z := z / 16) (zI_shrI (by omega) 4 16 (by decide) rfl) ?_
        refine x_iconst 13 rfl dX4_notes_12 (z := 1) (by decide) ?_
        refine x_icmp_ne 16 rfl (tgt := 18) dX4_notes_13 (by decide) (by omega) (by decide) (fun h13 => ?_) (fun h13 => ?_)
        · skip
          refine x_iinc 21 rfl (lv' := [(1, .int (zI 3)), (0, .int (zI z))]) dX4_notes_18 0 rfl (b := 3) (by decide) (by decide) rfl ?_
          refine x_goto dX4_notes_21 (tgt := 2) (by decide) ?_
          refine x_iload_n 3 rfl dX4_notes_2 0 rfl ?_
          refine x_iconst 4 rfl dX4_notes_3 (z := 5) (by decide) ?_
          refine x_icmp_gt 7 rfl (tgt := 24) dX4_notes_4 (by decide) (by decide) (by decide) (fun h4 => ?_) (fun h4 => ?_)
          · skip
            exact absurd h4 (by decide)
          · skip
            refine x_iload_n 8 rfl dX4_notes_7 1 rfl ?_
            refine x_iconst 9 rfl dX4_notes_8 (z := 2) (by decide) ?_
            refine x_iload_n 10 rfl dX4_notes_9 0 rfl ?_
            refine x_imul 11 rfl dX4_notes_10 (z := 6) (by decide) ?_
            refine x_ishr 12 rfl dX4_notes_11 (z := z / 64) (zI_shrI (by omega) 6 64 (by decide) rfl) ?_
            refine x_iconst 13 rfl dX4_notes_12 (z := 1) (by decide) ?_
            refine x_icmp_ne 16 rfl (tgt := 18) dX4_notes_13 (by decide) (by omega) (by decide) (fun h13 => ?_) (fun h13 => ?_)
            · skip
              refine x_iinc 21 rfl (lv' := [(1, .int (zI 4)), (0, .int (zI z))]) dX4_notes_18 0 rfl (b := 4) (by decide) (by decide) rfl ?_
              refine x_goto dX4_notes_21 (tgt := 2) (by decide) ?_
              refine x_iload_n 3 rfl dX4_notes_2 0 rfl ?_
              refine x_iconst 4 rfl dX4_notes_3 (z := 5) (by decide) ?_
              refine x_icmp_gt 7 rfl (tgt := 24) dX4_notes_4 (by decide) (by decide) (by decide) (fun h4 => ?_) (fun h4 => ?_)
              · skip
                exact absurd h4 (by decide)
              · skip
                refine x_iload_n 8 rfl dX4_notes_7 1 rfl ?_
                refine x_iconst 9 rfl dX4_notes_8 (z := 2) (by decide) ?_
                refine x_iload_n 10 rfl dX4_notes_9 0 rfl ?_
                refine x_imul 11 rfl dX4_notes_10 (z := 8) (by decide) ?_
                refine x_ishr 12 rfl dX4_notes_11 (z := z / 256) (zI_shrI (by omega) 8 256 (by decide) rfl) ?_
                refine x_iconst 13 rfl dX4_notes_12 (z := 1) (by decide) ?_
                refine x_icmp_ne 16 rfl (tgt := 18) dX4_notes_13 (by decide) (by omega) (by decide) (fun h13 => ?_) (fun h13 => ?_)
                · skip
                  refine x_iinc 21 rfl (lv' := [(1, .int (zI 5)), (0, .int (zI z))]) dX4_notes_18 0 rfl (b := 5) (by decide) (by decide) rfl ?_
                  refine x_goto dX4_notes_21 (tgt := 2) (by decide) ?_
                  refine x_iload_n 3 rfl dX4_notes_2 0 rfl ?_
                  refine x_iconst 4 rfl dX4_notes_3 (z := 5) (by decide) ?_
                  refine x_icmp_gt 7 rfl (tgt := 24) dX4_notes_4 (by decide) (by decide) (by decide) (fun h4 => ?_) (fun h4 => ?_)
                  · skip
                    exact absurd h4 (by decide)
                  · skip
                    refine x_iload_n 8 rfl dX4_notes_7 1 rfl ?_
                    refine x_iconst 9 rfl dX4_notes_8 (z := 2) (by decide) ?_
                    refine x_iload_n 10 rfl dX4_notes_9 0 rfl ?_
                    refine x_imul 11 rfl dX4_notes_10 (z := 10) (by decide) ?_
                    refine x_ishr 12 rfl dX4_notes_11 (z := z / 1024) (zI_shrI (by omega) 10 1024 (by decide) rfl) ?_
                    refine x_iconst 13 rfl dX4_notes_12 (z := 1) (by decide) ?_
                    refine x_icmp_ne 16 rfl (tgt := 18) dX4_notes_13 (by decide) (by omega) (by decide) (fun h13 => ?_) (fun h13 => ?_)
                    · skip
                      refine x_iinc 21 rfl (lv' := [(1, .int (zI 6)), (0, .int (zI z))]) dX4_notes_18 0 rfl (b := 6) (by decide) (by decide) rfl ?_
                      refine x_goto dX4_notes_21 (tgt := 2) (by decide) ?_
                      refine x_iload_n 3 rfl dX4_notes_2 0 rfl ?_
                      refine x_iconst 4 rfl dX4_notes_3 (z := 5) (by decide) ?_
                      refine x_icmp_gt 7 rfl (tgt := 24) dX4_notes_4 (by decide) (by decide) (by decide) (fun h4 => ?_) (fun h4 => ?_)
                      · skip
                        refine x_iconst 25 rfl dX4_notes_24 (z := 0) (by decide) ?_
                        refine x_iret rfl ?_ dX4_notes_25
                        exact ⟨by rw [cnN_of z 0 (by omega)], rfl⟩
                      · skip
                        exact absurd h4 (by decide)
                    · skip
                      refine x_iload_n 17 rfl dX4_notes_16 0 rfl ?_
                      refine x_iret rfl ?_ dX4_notes_17
                      exact ⟨by rw [cnN_of z 5 (by omega)], rfl⟩
                · skip
                  refine x_iload_n 17 rfl dX4_notes_16 0 rfl ?_
                  refine x_iret rfl ?_ dX4_notes_17
                  exact ⟨by rw [cnN_of z 4 (by omega)], rfl⟩
            · skip
              refine x_iload_n 17 rfl dX4_notes_16 0 rfl ?_
              refine x_iret rfl ?_ dX4_notes_17
              exact ⟨by rw [cnN_of z 3 (by omega)], rfl⟩
        · skip
          refine x_iload_n 17 rfl dX4_notes_16 0 rfl ?_
          refine x_iret rfl ?_ dX4_notes_17
          exact ⟨by rw [cnN_of z 2 (by omega)], rfl⟩
    · skip
      refine x_iload_n 17 rfl dX4_notes_16 0 rfl ?_
      refine x_iret rfl ?_ dX4_notes_17
      exact ⟨by rw [cnN_of z 1 (by omega)], rfl⟩

theorem c_X4_notes_v (G : XG) (t : Nat) (hv : vt t) : Con G yX4_notes wsX4_notes (rmL 0) 0 0 [.int (zI ((t : Nat) : Int))] [] (fun v w => v = some (.int (zI ((notesN t : Nat) : Int))) ∧ w = []) := by
  have h := c_X4_notes G (t : Int) (by have := vt_lt hv; omega)
  unfold P_X4_notes at h
  rw [cn_notes t (vt_lt hv) hv] at h
  exact h
abbrev P_X4_isTune (G : XG) (z : Int) : Option Value → va_W → Prop := fun v w => v = some (.int (zB (isT z))) ∧ w = []
abbrev W_X4_isTune (G : XG) (E : XE) (z : Int) (pc : Nat) (lv : List (Nat × Value)) (st : List Value) (ws : va_W) : Prop := Wx G E (rmL 1) cX4_isTune 1 RX4 wsX4_isTune (some .boolean) "isTune" 0 0 (P_X4_isTune G z) 0 0 pc lv st ws
set_option maxHeartbeats 4000000 in
set_option maxRecDepth 100000 in
/-- Tune.isTune -/
theorem c_X4_isTune (G : XG) (z : Int) (hz : Z32 z) : Con G yX4_isTune wsX4_isTune (rmL 1) 0 0 [.int (zI z)] ([]) (P_X4_isTune G z) := by
  refine x_start (cc := cX4_isTune) (nL := 1) (ret := (some .boolean)) (by decide) rfl (Nat.le_of_ble_eq_true rfl) (fun E => ?_)
  show W_X4_isTune G E z 0 [(0, .int (zI z))] [] ([])
  refine x_iload_n 1 rfl dX4_isTune_0 0 rfl ?_
  refine x_callS0 4 rfl (c_X4_notes G z (by omega)) (fun _ _ h => h.2) gX4_isTune_X4_notes rfl rfl rfl hd_X4_notes ⟨Nat.le_of_ble_eq_true rfl, Nat.le_of_ble_eq_true rfl⟩ (As := [.int (zI z)]) (rest := []) rfl rfl (Nat.le_of_ble_eq_true rfl) dX4_isTune_1 ⟨Nat.zero_le _, Nat.zero_le _⟩ (fun v hq => ?_)
  obtain ⟨rfl, -⟩ := hq
  refine x_if_le 7 rfl (tgt := 11) dX4_isTune_4 (by decide) (by have := cnN_range z; omega) (fun h4 => ?_) (fun h4 => ?_)
  · skip
    refine x_iconst 12 rfl dX4_isTune_11 (z := 0) (by decide) ?_
    refine x_int (y := zB (isT z)) (zB_f (by cases h : isT z with | false => rfl | true => exact absurd ((cnN_pos z).mpr h) (by omega))) ?_
    refine x_zret rfl ?_ dX4_isTune_12
    exact ⟨rfl, rfl⟩
  · skip
    refine x_iconst 8 rfl dX4_isTune_7 (z := 1) (by decide) ?_
    refine x_goto dX4_isTune_8 (tgt := 12) (by decide) ?_
    refine x_int (y := zB (isT z)) (zB_t ((cnN_pos z).mp (by omega))) ?_
    refine x_zret rfl ?_ dX4_isTune_12
    exact ⟨rfl, rfl⟩

abbrev P_X4_firstHalf (G : XG) (t : Nat) : Option Value → va_W → Prop := fun v w => v = some (.int (zI ((halfN t : Nat) : Int))) ∧ w = []
abbrev W_X4_firstHalf (G : XG) (E : XE) (t : Nat) (pc : Nat) (lv : List (Nat × Value)) (st : List Value) (ws : va_W) : Prop := Wx G E (rmL 1) cX4_firstHalf 1 RX4 wsX4_firstHalf (some .int) "firstHalf" 0 0 (P_X4_firstHalf G t) 0 0 pc lv st ws
set_option maxHeartbeats 4000000 in
set_option maxRecDepth 100000 in
/-- Tune.firstHalf -/
theorem c_X4_firstHalf (G : XG) (t : Nat) (hv : vt t) : Con G yX4_firstHalf wsX4_firstHalf (rmL 1) 0 0 [.int (zI ((t : Nat) : Int))] ([]) (P_X4_firstHalf G t) := by
  refine x_start (cc := cX4_firstHalf) (nL := 1) (ret := (some .int)) (by decide) rfl (Nat.le_of_ble_eq_true rfl) (fun E => ?_)
  show W_X4_firstHalf G E t 0 [(0, .int (zI ((t : Nat) : Int)))] [] ([])
  have ht := vt_lt hv
  have hn := notes_vt t ht hv
  refine x_iload_n 1 rfl dX4_firstHalf_0 0 rfl ?_
  refine x_iconst 2 rfl dX4_firstHalf_1 (z := 2) (by decide) ?_
  refine x_iload_n 3 rfl dX4_firstHalf_2 0 rfl ?_
  refine x_callS0 6 rfl (c_X4_notes_v G t hv) (fun _ _ h => h.2) gX4_firstHalf_X4_notes rfl rfl rfl hd_X4_notes ⟨Nat.le_of_ble_eq_true rfl, Nat.le_of_ble_eq_true rfl⟩ (As := [.int (zI ((t : Nat) : Int))]) (rest := [.int (zI 2), .int (zI ((t : Nat) : Int))]) rfl rfl (Nat.le_of_ble_eq_true rfl) dX4_firstHalf_3 ⟨Nat.zero_le _, Nat.zero_le _⟩ (fun v hq => ?_)
  obtain ⟨rfl, -⟩ := hq
  refine x_iconst 7 rfl dX4_firstHalf_6 (z := 2) (by decide) ?_
  refine x_idiv 8 rfl dX4_firstHalf_7 (z := (((notesN t) / 2 : Nat) : Int)) (by decide) (zI_div (a := (notesN t)) (d := 2) (by omega) (by omega) (by omega)) ?_
  refine x_imul 9 rfl dX4_firstHalf_8 (z := ((2 * ((notesN t) / 2) : Nat) : Int)) (by omega) ?_
  refine x_ishr 10 rfl dX4_firstHalf_9 (z := ((halfN t : Nat) : Int)) (zI_shr4 (k := notesN t / 2) (by omega) (by omega) (by omega)) ?_
  refine x_iret rfl ?_ dX4_firstHalf_10
  exact ⟨rfl, rfl⟩

abbrev P_X4_lessLost (G : XG) (t : Nat) (w : Nat) : Option Value → va_W → Prop := fun v ws => v = some (.int (zI ((leftN t w : Nat) : Int))) ∧ ws = []
abbrev W_X4_lessLost (G : XG) (E : XE) (t : Nat) (w : Nat) (pc : Nat) (lv : List (Nat × Value)) (st : List Value) (ws : va_W) : Prop := Wx G E (rmL 1) cX4_lessLost 5 RX4 wsX4_lessLost (some .int) "lessLost" 0 0 (P_X4_lessLost G t w) 0 0 pc lv st ws
set_option maxHeartbeats 4000000 in
set_option maxRecDepth 100000 in
/-- Tune.lessLost -/
theorem c_X4_lessLost (G : XG) (t w : Nat) (hv : vt t) (hw : w < 4) : Con G yX4_lessLost wsX4_lessLost (rmL 1) 0 0 [.int (zI ((t : Nat) : Int)), .int (zI ((w : Nat) : Int))] ([]) (P_X4_lessLost G t w) := by
  refine x_start (cc := cX4_lessLost) (nL := 5) (ret := (some .int)) (by decide) rfl (Nat.le_of_ble_eq_true rfl) (fun E => ?_)
  show W_X4_lessLost G E t w 0 [(0, .int (zI ((t : Nat) : Int))), (1, .int (zI ((w : Nat) : Int)))] [] ([])
  have ht := vt_lt hv
  have hn := notes_vt t ht hv
  refine x_iload_n 1 rfl dX4_lessLost_0 1 rfl ?_
  refine x_iconst 2 rfl dX4_lessLost_1 (z := 1) (by decide) ?_
  refine x_icmp_ge 5 rfl (tgt := 7) dX4_lessLost_2 (by decide) (by omega) (by decide) (fun h2 => ?_) (fun h2 => ?_)
  · skip
    refine x_iconst 8 rfl dX4_lessLost_7 (z := 1) (by decide) ?_
    refine x_istore_n 9 rfl (lv' := [(2, .int (zI 1)), (0, .int (zI ((t : Nat) : Int))), (1, .int (zI ((w : Nat) : Int)))]) dX4_lessLost_8 (by decide) rfl ?_
    refine x_iload_n 10 rfl dX4_lessLost_9 1 rfl ?_
    refine x_callS0 13 rfl (c_X4_notes_v G t hv) (fun _ _ h => h.2) gX4_lessLost_X4_notes rfl rfl rfl hd_X4_notes ⟨Nat.le_of_ble_eq_true rfl, Nat.le_of_ble_eq_true rfl⟩ (As := [.int (zI ((t : Nat) : Int))]) (rest := []) rfl rfl (Nat.le_of_ble_eq_true rfl) dX4_lessLost_10 ⟨Nat.zero_le _, Nat.zero_le _⟩ (fun v hq => ?_)
    obtain ⟨rfl, -⟩ := hq
    refine x_iconst 14 rfl dX4_lessLost_13 (z := 1) (by decide) ?_
    refine x_isub 15 rfl dX4_lessLost_14 (z := ((notesN t : Nat) : Int) - 1) (rfl) ?_
    refine x_istore_n 16 rfl (lv' := [(3, .int (zI (((notesN t : Nat) : Int) - 1))), (2, .int (zI 1)), (0, .int (zI ((t : Nat) : Int))), (1, .int (zI ((w : Nat) : Int)))]) dX4_lessLost_15 (by decide) rfl ?_
    have L16 : ∀ (f16 : Nat) (j : Nat) (hj : j ≤ notesN t), j < f16 → W_X4_lessLost G E t w 16 [(0, .int (zI ((t : Nat) : Int))), (1, .int (zI ((w : Nat) : Int))), (2, .int (zI ((leftN (t / 4 ^ j) w : Nat) : Int))), (3, .int (zI (((j : Nat) : Int) - 1)))] [] ([]) := by
      intro f16
      induction f16 with
      | zero => intro j hj hf16; exact absurd hf16 (Nat.not_lt_zero _)
      | succ f16 ih16 =>
        intro j hj hf16
        refine x_iload_n 17 rfl dX4_lessLost_16 3 rfl ?_
        refine x_if_lt 20 rfl (tgt := 50) dX4_lessLost_17 (by decide) (by omega) (fun h17 => ?_) (fun h17 => ?_)
        · skip
          refine x_iload_n 51 rfl dX4_lessLost_50 2 rfl ?_
          refine x_iret rfl ?_ dX4_lessLost_51
          obtain rfl : j = 0 := by omega
          exact ⟨by rw [Nat.pow_zero, Nat.div_one], rfl⟩
        · skip
          obtain ⟨q, hq⟩ : ∃ q, q = t / 4 ^ (j - 1) := ⟨_, rfl⟩
          have hqv := ((div_vt t ht hv (j - 1) (by omega)).1 (by omega)).1
          rw [← hq] at hqv
          have hq8 := vt_lt hqv
          have hs := left_step q hq8 w hw (by unfold vt at hqv; omega)
          have e4 : q / 4 = t / 4 ^ j := by rw [hq, ← div4s, Nat.sub_add_cancel (by omega)]
          rw [e4] at hs
          refine x_iload_n 21 rfl dX4_lessLost_20 0 rfl ?_
          refine x_iconst 22 rfl dX4_lessLost_21 (z := 2) (by decide) ?_
          refine x_iload_n 23 rfl dX4_lessLost_22 3 rfl ?_
          refine x_imul 24 rfl dX4_lessLost_23 (z := 2 * (((j : Nat) : Int) - 1)) (rfl) ?_
          refine x_ishr 25 rfl dX4_lessLost_24 (z := ((q : Nat) : Int)) (by rw [hq]; exact zI_shr4 (by omega) (by omega) (by omega)) ?_
          refine x_iconst 26 rfl dX4_lessLost_25 (z := 3) (by decide) ?_
          refine x_iand 27 rfl dX4_lessLost_26 (z := ((q % 4 : Nat) : Int)) (zI_and3 (t := q) (by omega)) ?_
          refine x_istore 29 rfl (lv' := [(4, .int (zI ((q % 4 : Nat) : Int))), (0, .int (zI ((t : Nat) : Int))), (1, .int (zI ((w : Nat) : Int))), (2, .int (zI ((leftN (t / 4 ^ j) w : Nat) : Int))), (3, .int (zI (((j : Nat) : Int) - 1)))]) dX4_lessLost_27 (by decide) rfl ?_
          refine x_iload 31 rfl dX4_lessLost_29 0 rfl ?_
          refine x_iconst 32 rfl dX4_lessLost_31 (z := 3) (by decide) ?_
          refine x_iload_n 33 rfl dX4_lessLost_32 2 rfl ?_
          refine x_isub 34 rfl dX4_lessLost_33 (z := 3 - ((w : Nat) : Int)) (rfl) ?_
          refine x_icmp_gt 37 rfl (tgt := 44) dX4_lessLost_34 (by decide) (by omega) (by omega) (fun h34 => ?_) (fun h34 => ?_)
          · skip
            refine x_iinc 47 rfl (lv' := [(3, .int (zI (((j : Nat) : Int) - 1 - 1))), (4, .int (zI ((q % 4 : Nat) : Int))), (0, .int (zI ((t : Nat) : Int))), (1, .int (zI ((w : Nat) : Int))), (2, .int (zI ((leftN (t / 4 ^ j) w : Nat) : Int)))]) dX4_lessLost_44 4 rfl (b := ((j : Nat) : Int) - 1 - 1) (by omega) (by decide) rfl ?_
            refine x_goto dX4_lessLost_47 (tgt := 16) (by decide) ?_
            refine x_lve (congrArg (fun zz : Int => ([(3, .int (zI (((j : Nat) : Int) - 1 - 1))), (4, .int (zI ((q % 4 : Nat) : Int))), (0, .int (zI ((t : Nat) : Int))), (1, .int (zI ((w : Nat) : Int))), (2, .int (zI zz))] : List (Nat × Value))) (by rw [← hq, hs]; split <;> omega : ((leftN (t / 4 ^ j) w : Nat) : Int) = ((leftN (t / 4 ^ (j - 1)) w : Nat) : Int))) ?_
            refine x_lve (congrArg (fun zz : Int => ([(3, .int (zI zz)), (4, .int (zI ((q % 4 : Nat) : Int))), (0, .int (zI ((t : Nat) : Int))), (1, .int (zI ((w : Nat) : Int))), (2, .int (zI ((leftN (t / 4 ^ (j - 1)) w : Nat) : Int)))] : List (Nat × Value))) (by omega : ((j : Nat) : Int) - 1 - 1 = ((j - 1 : Nat) : Int) - 1)) ?_
            refine x_lv [2, 3, 4, 0] rfl ?_
            exact ih16 (j - 1) (by omega) (by omega)
          · skip
            refine x_iconst 38 rfl dX4_lessLost_37 (z := 4) (by decide) ?_
            refine x_iload_n 39 rfl dX4_lessLost_38 3 rfl ?_
            refine x_imul 40 rfl dX4_lessLost_39 (z := ((4 * (leftN (t / 4 ^ j) w) : Nat) : Int)) (by omega) ?_
            refine x_iload 42 rfl dX4_lessLost_40 0 rfl ?_
            refine x_iadd 43 rfl dX4_lessLost_42 (z := ((4 * (leftN (t / 4 ^ j) w) + (q % 4) : Nat) : Int)) (by omega) ?_
            refine x_istore_n 44 rfl (lv' := [(2, .int (zI ((4 * (leftN (t / 4 ^ j) w) + (q % 4) : Nat) : Int))), (4, .int (zI ((q % 4 : Nat) : Int))), (0, .int (zI ((t : Nat) : Int))), (1, .int (zI ((w : Nat) : Int))), (3, .int (zI (((j : Nat) : Int) - 1)))]) dX4_lessLost_43 (by decide) rfl ?_
            refine x_iinc 47 rfl (lv' := [(3, .int (zI (((j : Nat) : Int) - 1 - 1))), (2, .int (zI ((4 * (leftN (t / 4 ^ j) w) + (q % 4) : Nat) : Int))), (4, .int (zI ((q % 4 : Nat) : Int))), (0, .int (zI ((t : Nat) : Int))), (1, .int (zI ((w : Nat) : Int)))]) dX4_lessLost_44 4 rfl (b := ((j : Nat) : Int) - 1 - 1) (by omega) (by decide) rfl ?_
            refine x_goto dX4_lessLost_47 (tgt := 16) (by decide) ?_
            refine x_lve (congrArg (fun zz : Int => ([(3, .int (zI (((j : Nat) : Int) - 1 - 1))), (2, .int (zI zz)), (4, .int (zI ((q % 4 : Nat) : Int))), (0, .int (zI ((t : Nat) : Int))), (1, .int (zI ((w : Nat) : Int)))] : List (Nat × Value))) (by rw [← hq, hs]; split <;> omega : ((4 * (leftN (t / 4 ^ j) w) + (q % 4) : Nat) : Int) = ((leftN (t / 4 ^ (j - 1)) w : Nat) : Int))) ?_
            refine x_lve (congrArg (fun zz : Int => ([(3, .int (zI zz)), (2, .int (zI ((leftN (t / 4 ^ (j - 1)) w : Nat) : Int))), (4, .int (zI ((q % 4 : Nat) : Int))), (0, .int (zI ((t : Nat) : Int))), (1, .int (zI ((w : Nat) : Int)))] : List (Nat × Value))) (by omega : ((j : Nat) : Int) - 1 - 1 = ((j - 1 : Nat) : Int) - 1)) ?_
            refine x_lv [3, 4, 1, 0] rfl ?_
            exact ih16 (j - 1) (by omega) (by omega)
    refine x_lve (congrArg (fun zz : Int => ([(3, .int (zI (((notesN t : Nat) : Int) - 1))), (2, .int (zI zz)), (0, .int (zI ((t : Nat) : Int))), (1, .int (zI ((w : Nat) : Int)))] : List (Nat × Value))) (by rw [(div_vt t ht hv (notesN t) (by omega)).2.1 rfl]; rfl : 1 = ((leftN (t / 4 ^ (notesN t)) w : Nat) : Int))) ?_
    refine x_lv [2, 3, 1, 0] rfl ?_
    exact L16 _ (notesN t) (Nat.le_refl _) (Nat.lt_succ_self _)
  · skip
    refine x_iload_n 6 rfl dX4_lessLost_5 0 rfl ?_
    refine x_iret rfl ?_ dX4_lessLost_6
    exact ⟨by rw [show w = 0 by omega, left_0 t ht hv], rfl⟩

abbrev P_X4_lisped (G : XG) (t : Nat) : Option Value → va_W → Prop := fun v w => v = some (.int (zI ((lispN t : Nat) : Int))) ∧ w = []
abbrev W_X4_lisped (G : XG) (E : XE) (t : Nat) (pc : Nat) (lv : List (Nat × Value)) (st : List Value) (ws : va_W) : Prop := Wx G E (rmL 0) cX4_lisped 2 RX4 wsX4_lisped (some .int) "lisped" 0 0 (P_X4_lisped G t) 0 0 pc lv st ws
set_option maxHeartbeats 4000000 in
set_option maxRecDepth 100000 in
/-- Tune.lisped -/
theorem c_X4_lisped (G : XG) (t : Nat) (hv : vt t) : Con G yX4_lisped wsX4_lisped (rmL 0) 0 0 [.int (zI ((t : Nat) : Int))] ([]) (P_X4_lisped G t) := by
  refine x_start (cc := cX4_lisped) (nL := 2) (ret := (some .int)) (by decide) rfl (Nat.le_of_ble_eq_true rfl) (fun E => ?_)
  show W_X4_lisped G E t 0 [(0, .int (zI ((t : Nat) : Int)))] [] ([])
  have ht := vt_lt hv
  have h3 := lx3 t ht
  refine x_iload_n 1 rfl dX4_lisped_0 0 rfl ?_
  refine x_iconst 2 rfl dX4_lisped_1 (z := 1) (by decide) ?_
  refine x_ishr 3 rfl dX4_lisped_2 (z := ((t / 2 ^ 1 : Nat) : Int)) (zI_shr (t := t) (i := 1) (by omega) (by omega)) ?_
  refine x_iload_n 4 rfl dX4_lisped_3 0 rfl ?_
  refine x_iconst 5 rfl dX4_lisped_4 (z := (-1)) (by decide) ?_
  refine x_ixor 6 rfl dX4_lisped_5 (z := -1 - ((t : Nat) : Int)) (lx1 t ht) ?_
  refine x_iand 7 rfl dX4_lisped_6 (z := ((t / 2 ^ 1 &&& (4095 - t) : Nat) : Int)) (lx2 t ht) ?_
  refine x_sipush 10 rfl dX4_lisped_7 (z := 1365) (by decide) ?_
  refine x_iand 11 rfl dX4_lisped_10 (z := (((t / 2 ^ 1 &&& (4095 - t)) &&& 1365 : Nat) : Int)) (zI_and (a := (t / 2 ^ 1 &&& (4095 - t))) (b := 1365) (by omega) (by omega)) ?_
  refine x_istore_n 12 rfl (lv' := [(1, .int (zI (((t / 2 ^ 1 &&& (4095 - t)) &&& 1365 : Nat) : Int))), (0, .int (zI ((t : Nat) : Int)))]) dX4_lisped_11 (by decide) rfl ?_
  refine x_iload_n 13 rfl dX4_lisped_12 1 rfl ?_
  refine x_iload_n 14 rfl dX4_lisped_13 0 rfl ?_
  refine x_isub 15 rfl dX4_lisped_14 (z := ((lispN t : Nat) : Int)) (lx4 t ht hv) ?_
  refine x_iret rfl ?_ dX4_lisped_15
  exact ⟨rfl, rfl⟩

abbrev P_X4_begins (G : XG) (c : Nat) (l : Nat) : Option Value → va_W → Prop := fun v w => v = some (.int (zB (decide (c = l ∨ c / 4 = l ∨ c / 16 = l ∨ c / 64 = l ∨ c / 256 = l)))) ∧ w = []
abbrev W_X4_begins (G : XG) (E : XE) (c : Nat) (l : Nat) (pc : Nat) (lv : List (Nat × Value)) (st : List Value) (ws : va_W) : Prop := Wx G E (rmL 0) cX4_begins 3 RX4 wsX4_begins (some .boolean) "begins" 0 0 (P_X4_begins G c l) 0 0 pc lv st ws
set_option maxHeartbeats 4000000 in
set_option maxRecDepth 100000 in
/-- Tune.begins -/
theorem c_X4_begins (G : XG) (c l : Nat) (hc : c < 2147483648) (hl : l < 2147483648) : Con G yX4_begins wsX4_begins (rmL 0) 0 0 [.int (zI ((c : Nat) : Int)), .int (zI ((l : Nat) : Int))] ([]) (P_X4_begins G c l) := by
  refine x_start (cc := cX4_begins) (nL := 3) (ret := (some .boolean)) (by decide) rfl (Nat.le_of_ble_eq_true rfl) (fun E => ?_)
  show W_X4_begins G E c l 0 [(0, .int (zI ((c : Nat) : Int))), (1, .int (zI ((l : Nat) : Int)))] [] ([])
  refine x_iconst 1 rfl dX4_begins_0 (z := 0) (by decide) ?_
  refine x_istore_n 2 rfl (lv' := [(2, .int (zI 0)), (0, .int (zI ((c : Nat) : Int))), (1, .int (zI ((l : Nat) : Int)))]) dX4_begins_1 (by decide) rfl ?_
  refine x_iload_n 3 rfl dX4_begins_2 0 rfl ?_
  refine x_iconst 4 rfl dX4_begins_3 (z := 5) (by decide) ?_
  refine x_icmp_ge 7 rfl (tgt := 24) dX4_begins_4 (by decide) (by decide) (by decide) (fun h4 => ?_) (fun h4 => ?_)
  · skip
    exact absurd h4 (by decide)
  · skip
    refine x_iload_n 8 rfl dX4_begins_7 1 rfl ?_
    refine x_iconst 9 rfl dX4_begins_8 (z := 2) (by decide) ?_
    refine x_iload_n 10 rfl dX4_begins_9 0 rfl ?_
    refine x_imul 11 rfl dX4_begins_10 (z := 0) (by decide) ?_
    refine x_ishr 12 rfl dX4_begins_11 (z := ((c : Nat) : Int)) (by have := zI_shr4 (t := c) (k := 0) (z := 0) (by omega) (by omega) (by omega); simpa using this) ?_
    refine x_iload_n 13 rfl dX4_begins_12 2 rfl ?_
    refine x_icmp_ne 16 rfl (tgt := 18) dX4_begins_13 (by decide) (by omega) (by omega) (fun h13 => ?_) (fun h13 => ?_)
    · skip
      refine x_iinc 21 rfl (lv' := [(2, .int (zI 1)), (0, .int (zI ((c : Nat) : Int))), (1, .int (zI ((l : Nat) : Int)))]) dX4_begins_18 0 rfl (b := 1) (by decide) (by decide) rfl ?_
      refine x_goto dX4_begins_21 (tgt := 2) (by decide) ?_
      refine x_iload_n 3 rfl dX4_begins_2 0 rfl ?_
      refine x_iconst 4 rfl dX4_begins_3 (z := 5) (by decide) ?_
      refine x_icmp_ge 7 rfl (tgt := 24) dX4_begins_4 (by decide) (by decide) (by decide) (fun h4 => ?_) (fun h4 => ?_)
      · skip
        exact absurd h4 (by decide)
      · skip
        refine x_iload_n 8 rfl dX4_begins_7 1 rfl ?_
        refine x_iconst 9 rfl dX4_begins_8 (z := 2) (by decide) ?_
        refine x_iload_n 10 rfl dX4_begins_9 0 rfl ?_
        refine x_imul 11 rfl dX4_begins_10 (z := 2) (by decide) ?_
        refine x_ishr 12 rfl dX4_begins_11 (z := ((c / 4 : Nat) : Int)) (by have := zI_shr4 (t := c) (k := 1) (z := 2) (by omega) (by omega) (by omega); simpa using this) ?_
        refine x_iload_n 13 rfl dX4_begins_12 2 rfl ?_
        refine x_icmp_ne 16 rfl (tgt := 18) dX4_begins_13 (by decide) (by omega) (by omega) (fun h13 => ?_) (fun h13 => ?_)
        · skip
          refine x_iinc 21 rfl (lv' := [(2, .int (zI 2)), (0, .int (zI ((c : Nat) : Int))), (1, .int (zI ((l : Nat) : Int)))]) dX4_begins_18 0 rfl (b := 2) (by decide) (by decide) rfl ?_
          refine x_goto dX4_begins_21 (tgt := 2) (by decide) ?_
          refine x_iload_n 3 rfl dX4_begins_2 0 rfl ?_
          refine x_iconst 4 rfl dX4_begins_3 (z := 5) (by decide) ?_
          refine x_icmp_ge 7 rfl (tgt := 24) dX4_begins_4 (by decide) (by decide) (by decide) (fun h4 => ?_) (fun h4 => ?_)
          · skip
            exact absurd h4 (by decide)
          · skip
            refine x_iload_n 8 rfl dX4_begins_7 1 rfl ?_
            refine x_iconst 9 rfl dX4_begins_8 (z := 2) (by decide) ?_
            refine x_iload_n 10 rfl dX4_begins_9 0 rfl ?_
            refine x_imul 11 rfl dX4_begins_10 (z := 4) (by decide) ?_
            refine x_ishr 12 rfl dX4_begins_11 (z := ((c / 16 : Nat) : Int)) (by have := zI_shr4 (t := c) (k := 2) (z := 4) (by omega) (by omega) (by omega); simpa using this) ?_
            refine x_iload_n 13 rfl dX4_begins_12 2 rfl ?_
            refine x_icmp_ne 16 rfl (tgt := 18) dX4_begins_13 (by decide) (by omega) (by omega) (fun h13 => ?_) (fun h13 => ?_)
            · skip
              refine x_iinc 21 rfl (lv' := [(2, .int (zI 3)), (0, .int (zI ((c : Nat) : Int))), (1, .int (zI ((l : Nat) : Int)))]) dX4_begins_18 0 rfl (b := 3) (by decide) (by decide) rfl ?_
              refine x_goto dX4_begins_21 (tgt := 2) (by decide) ?_
              refine x_iload_n 3 rfl dX4_begins_2 0 rfl ?_
              refine x_iconst 4 rfl dX4_begins_3 (z := 5) (by decide) ?_
              refine x_icmp_ge 7 rfl (tgt := 24) dX4_begins_4 (by decide) (by decide) (by decide) (fun h4 => ?_) (fun h4 => ?_)
              · skip
                exact absurd h4 (by decide)
              · skip
                refine x_iload_n 8 rfl dX4_begins_7 1 rfl ?_
                refine x_iconst 9 rfl dX4_begins_8 (z := 2) (by decide) ?_
                refine x_iload_n 10 rfl dX4_begins_9 0 rfl ?_
                refine x_imul 11 rfl dX4_begins_10 (z := 6) (by decide) ?_
                refine x_ishr 12 rfl dX4_begins_11 (z := ((c / 64 : Nat) : Int)) (by have := zI_shr4 (t := c) (k := 3) (z := 6) (by omega) (by omega) (by omega); simpa using this) ?_
                refine x_iload_n 13 rfl dX4_begins_12 2 rfl ?_
                refine x_icmp_ne 16 rfl (tgt := 18) dX4_begins_13 (by decide) (by omega) (by omega) (fun h13 => ?_) (fun h13 => ?_)
                · skip
                  refine x_iinc 21 rfl (lv' := [(2, .int (zI 4)), (0, .int (zI ((c : Nat) : Int))), (1, .int (zI ((l : Nat) : Int)))]) dX4_begins_18 0 rfl (b := 4) (by decide) (by decide) rfl ?_
                  refine x_goto dX4_begins_21 (tgt := 2) (by decide) ?_
                  refine x_iload_n 3 rfl dX4_begins_2 0 rfl ?_
                  refine x_iconst 4 rfl dX4_begins_3 (z := 5) (by decide) ?_
                  refine x_icmp_ge 7 rfl (tgt := 24) dX4_begins_4 (by decide) (by decide) (by decide) (fun h4 => ?_) (fun h4 => ?_)
                  · skip
                    exact absurd h4 (by decide)
                  · skip
                    refine x_iload_n 8 rfl dX4_begins_7 1 rfl ?_
                    refine x_iconst 9 rfl dX4_begins_8 (z := 2) (by decide) ?_
                    refine x_iload_n 10 rfl dX4_begins_9 0 rfl ?_
                    refine x_imul 11 rfl dX4_begins_10 (z := 8) (by decide) ?_
                    refine x_ishr 12 rfl dX4_begins_11 (z := ((c / 256 : Nat) : Int)) (by have := zI_shr4 (t := c) (k := 4) (z := 8) (by omega) (by omega) (by omega); simpa using this) ?_
                    refine x_iload_n 13 rfl dX4_begins_12 2 rfl ?_
                    refine x_icmp_ne 16 rfl (tgt := 18) dX4_begins_13 (by decide) (by omega) (by omega) (fun h13 => ?_) (fun h13 => ?_)
                    · skip
                      refine x_iinc 21 rfl (lv' := [(2, .int (zI 5)), (0, .int (zI ((c : Nat) : Int))), (1, .int (zI ((l : Nat) : Int)))]) dX4_begins_18 0 rfl (b := 5) (by decide) (by decide) rfl ?_
                      refine x_goto dX4_begins_21 (tgt := 2) (by decide) ?_
                      refine x_iload_n 3 rfl dX4_begins_2 0 rfl ?_
                      refine x_iconst 4 rfl dX4_begins_3 (z := 5) (by decide) ?_
                      refine x_icmp_ge 7 rfl (tgt := 24) dX4_begins_4 (by decide) (by decide) (by decide) (fun h4 => ?_) (fun h4 => ?_)
                      · skip
                        refine x_iconst 25 rfl dX4_begins_24 (z := 0) (by decide) ?_
                        refine x_int (y := zB (decide (c = l ∨ c / 4 = l ∨ c / 16 = l ∨ c / 64 = l ∨ c / 256 = l))) (zB_n (by omega)) ?_
                        refine x_zret rfl ?_ dX4_begins_25
                        exact ⟨rfl, rfl⟩
                      · skip
                        exact absurd h4 (by decide)
                    · skip
                      refine x_iconst 17 rfl dX4_begins_16 (z := 1) (by decide) ?_
                      refine x_int (y := zB (decide (c = l ∨ c / 4 = l ∨ c / 16 = l ∨ c / 64 = l ∨ c / 256 = l))) (zB_d (by omega)) ?_
                      refine x_zret rfl ?_ dX4_begins_17
                      exact ⟨rfl, rfl⟩
                · skip
                  refine x_iconst 17 rfl dX4_begins_16 (z := 1) (by decide) ?_
                  refine x_int (y := zB (decide (c = l ∨ c / 4 = l ∨ c / 16 = l ∨ c / 64 = l ∨ c / 256 = l))) (zB_d (by omega)) ?_
                  refine x_zret rfl ?_ dX4_begins_17
                  exact ⟨rfl, rfl⟩
            · skip
              refine x_iconst 17 rfl dX4_begins_16 (z := 1) (by decide) ?_
              refine x_int (y := zB (decide (c = l ∨ c / 4 = l ∨ c / 16 = l ∨ c / 64 = l ∨ c / 256 = l))) (zB_d (by omega)) ?_
              refine x_zret rfl ?_ dX4_begins_17
              exact ⟨rfl, rfl⟩
        · skip
          refine x_iconst 17 rfl dX4_begins_16 (z := 1) (by decide) ?_
          refine x_int (y := zB (decide (c = l ∨ c / 4 = l ∨ c / 16 = l ∨ c / 64 = l ∨ c / 256 = l))) (zB_d (by omega)) ?_
          refine x_zret rfl ?_ dX4_begins_17
          exact ⟨rfl, rfl⟩
    · skip
      refine x_iconst 17 rfl dX4_begins_16 (z := 1) (by decide) ?_
      refine x_int (y := zB (decide (c = l ∨ c / 4 = l ∨ c / 16 = l ∨ c / 64 = l ∨ c / 256 = l))) (zB_d (by omega)) ?_
      refine x_zret rfl ?_ dX4_begins_17
      exact ⟨rfl, rfl⟩

theorem hd_X1_makeReady : yX1_makeReady.cls = RX1 ∧ yX1_makeReady.cls ≠ "java/lang/invoke/MethodHandle" ∧ yX1_makeReady.cls ≠ "java/lang/invoke/VarHandle" ∧ (parseMethodDescriptor yX1_makeReady.desc).map (fun d => d.parameters.length) = some 3 := by decide +kernel
theorem hd_X1_fallAsleep : yX1_fallAsleep.cls = RX1 ∧ yX1_fallAsleep.cls ≠ "java/lang/invoke/MethodHandle" ∧ yX1_fallAsleep.cls ≠ "java/lang/invoke/VarHandle" ∧ (parseMethodDescriptor yX1_fallAsleep.desc).map (fun d => d.parameters.length) = some 0 := by decide +kernel
theorem hd_X1_turnsAt : yX1_turnsAt.cls = RX1 ∧ yX1_turnsAt.cls ≠ "java/lang/invoke/MethodHandle" ∧ yX1_turnsAt.cls ≠ "java/lang/invoke/VarHandle" ∧ (parseMethodDescriptor yX1_turnsAt.desc).map (fun d => d.parameters.length) = some 2 := by decide +kernel
theorem hd_X1_turnsLisping : yX1_turnsLisping.cls = RX1 ∧ yX1_turnsLisping.cls ≠ "java/lang/invoke/MethodHandle" ∧ yX1_turnsLisping.cls ≠ "java/lang/invoke/VarHandle" ∧ (parseMethodDescriptor yX1_turnsLisping.desc).map (fun d => d.parameters.length) = some 1 := by decide +kernel
theorem hd_X1_mocks : yX1_mocks.cls = RX1 ∧ yX1_mocks.cls ≠ "java/lang/invoke/MethodHandle" ∧ yX1_mocks.cls ≠ "java/lang/invoke/VarHandle" ∧ (parseMethodDescriptor yX1_mocks.desc).map (fun d => d.parameters.length) = some 1 := by decide +kernel
abbrev P_X1_makeReady (G : XG) (q : Nat) (e0 : Int) (o0 : Int) (l0 : Int) (a0 : Bool) (ear : Nat) (own : Nat) (wind : Nat) : Option Value → va_W → Prop := fun v w => v = none ∧ w = [(q, .inr (1, [.int (zI ((ear : Nat) : Int)), .int (zI ((own : Nat) : Int)), .int (zI ((leftN (if ear = 2 ∨ ear = 5 then halfN own else own) wind : Nat) : Int)), .int (zB (decide (ear = 5 ∧ 1 < wind)))]))]
abbrev W_X1_makeReady (G : XG) (E : XE) (q : Nat) (e0 : Int) (o0 : Int) (l0 : Int) (a0 : Bool) (ear : Nat) (own : Nat) (wind : Nat) (pc : Nat) (lv : List (Nat × Value)) (st : List Value) (ws : va_W) : Prop := Wx G E (rmL 2) cX1_makeReady 5 RX1 wsX1_makeReady none "makeReady" 0 0 (P_X1_makeReady G q e0 o0 l0 a0 ear own wind) 0 0 pc lv st ws
theorem flX1_makeReady_9 : Cond.fieldLink RX1 9 (TX1 0).1 (TX1 0).2.1 (TX1 0).2.2.1 ∈ wsX1_makeReady := by decide +kernel
theorem flX1_makeReady_15 : Cond.fieldLink RX1 15 (TX1 1).1 (TX1 1).2.1 (TX1 1).2.2.1 ∈ wsX1_makeReady := by decide +kernel
theorem flX1_makeReady_28 : Cond.fieldLink RX1 28 (TX1 2).1 (TX1 2).2.1 (TX1 2).2.2.1 ∈ wsX1_makeReady := by decide +kernel
theorem flX1_makeReady_31 : Cond.fieldLink RX1 31 (TX1 3).1 (TX1 3).2.1 (TX1 3).2.2.1 ∈ wsX1_makeReady := by decide +kernel
theorem inX1_makeReady_X1 : ∀ w ∈ u_ws RX1 TX1 4, w ∈ wsX1_makeReady := fun _ h => List.mem_cons_of_mem _ (List.mem_append_right _ h)
set_option maxHeartbeats 4000000 in
set_option maxRecDepth 100000 in
/-- Listener.makeReady -/
theorem c_X1_makeReady (G : XG) (q : Nat) (e0 o0 l0 : Int) (a0 : Bool) (ear own wind : Nat) (he : ear < 6) (hv : vt own) (hw : wind < 4) : Con G yX1_makeReady wsX1_makeReady (rmL 2) 0 0 [.ref q, .int (zI ((ear : Nat) : Int)), .int (zI ((own : Nat) : Int)), .int (zI ((wind : Nat) : Int))] ([(q, .inr (1, [.int (zI e0), .int (zI o0), .int (zI l0), .int (zB a0)]))]) (P_X1_makeReady G q e0 o0 l0 a0 ear own wind) := by
  refine x_start (cc := cX1_makeReady) (nL := 5) (ret := none) (by decide) rfl (Nat.le_of_ble_eq_true rfl) (fun E => ?_)
  show W_X1_makeReady G E q e0 o0 l0 a0 ear own wind 0 [(0, .ref q), (1, .int (zI ((ear : Nat) : Int))), (2, .int (zI ((own : Nat) : Int))), (3, .int (zI ((wind : Nat) : Int)))] [] ([(q, .inr (1, [.int (zI e0), .int (zI o0), .int (zI l0), .int (zB a0)]))])
  have ho := vt_lt hv
  refine x_aload_n 1 rfl dX1_makeReady_0 0 rfl ?_
  refine x_iload_n 2 rfl dX1_makeReady_1 1 rfl ?_
  refine x_put 5 rfl 0 0 rfl rfl (by decide) inX1_makeReady_X1 flX1_makeReady_9 tyX1_ok nmX1 rfl rfl rfl rfl (Nat.le_of_ble_eq_true rfl) (ws' := [(q, .inr (1, [.int (zI ((ear : Nat) : Int)), .int (zI o0), .int (zI l0), .int (zB a0)]))]) rfl dX1_makeReady_2 ?_
  refine x_aload_n 6 rfl dX1_makeReady_5 0 rfl ?_
  refine x_iload_n 7 rfl dX1_makeReady_6 2 rfl ?_
  refine x_put 10 rfl 0 1 rfl rfl (by decide) inX1_makeReady_X1 flX1_makeReady_15 tyX1_ok nmX1 rfl rfl rfl rfl (Nat.le_of_ble_eq_true rfl) (ws' := [(q, .inr (1, [.int (zI ((ear : Nat) : Int)), .int (zI ((own : Nat) : Int)), .int (zI l0), .int (zB a0)]))]) rfl dX1_makeReady_7 ?_
  refine x_aload_n 11 rfl dX1_makeReady_10 0 rfl ?_
  refine x_get 14 rfl 0 0 rfl rfl (by decide) inX1_makeReady_X1 flX1_makeReady_9 rfl dX1_makeReady_11 ?_
  refine x_iconst 15 rfl dX1_makeReady_14 (z := 2) (by decide) ?_
  refine x_icmp_eq 18 rfl (tgt := 26) dX1_makeReady_15 (by decide) (by omega) (by decide) (fun h15 => ?_) (fun h15 => ?_)
  · skip
    refine x_iconst 27 rfl dX1_makeReady_26 (z := 1) (by decide) ?_
    refine x_goto dX1_makeReady_27 (tgt := 31) (by decide) ?_
    refine x_istore 33 rfl (lv' := [(4, .int (zI 1)), (0, .ref q), (1, .int (zI ((ear : Nat) : Int))), (2, .int (zI ((own : Nat) : Int))), (3, .int (zI ((wind : Nat) : Int)))]) dX1_makeReady_31 (by decide) rfl ?_
    refine x_aload_n 34 rfl dX1_makeReady_33 1 rfl ?_
    refine x_iload 36 rfl dX1_makeReady_34 0 rfl ?_
    refine x_if_eq 39 rfl (tgt := 49) dX1_makeReady_36 (by decide) (by omega) (fun h36 => ?_) (fun h36 => ?_)
    · skip
      exact absurd h36 (by decide)
    · skip
      refine x_aload_n 40 rfl dX1_makeReady_39 1 rfl ?_
      refine x_get 43 rfl 0 1 rfl rfl (by decide) inX1_makeReady_X1 flX1_makeReady_15 rfl dX1_makeReady_40 ?_
      refine x_callS0 46 rfl (c_X4_firstHalf G own hv) (fun _ _ h => h.2) gX1_makeReady_X4_firstHalf rfl rfl rfl hd_X4_firstHalf ⟨Nat.le_of_ble_eq_true rfl, Nat.le_of_ble_eq_true rfl⟩ (As := [.int (zI ((own : Nat) : Int))]) (rest := [.ref q]) rfl rfl (Nat.le_of_ble_eq_true rfl) dX1_makeReady_43 ⟨Nat.zero_le _, Nat.zero_le _⟩ (fun v hq => ?_)
      obtain ⟨rfl, -⟩ := hq
      refine x_goto dX1_makeReady_46 (tgt := 53) (by decide) ?_
      refine x_iload_n 54 rfl dX1_makeReady_53 4 rfl ?_
      refine x_callS0 57 rfl (c_X4_lessLost G (halfN own) wind (half_vt own ho hv) (by omega)) (fun _ _ h => h.2) gX1_makeReady_X4_lessLost rfl rfl rfl hd_X4_lessLost ⟨Nat.le_of_ble_eq_true rfl, Nat.le_of_ble_eq_true rfl⟩ (As := [.int (zI ((halfN own : Nat) : Int)), .int (zI ((wind : Nat) : Int))]) (rest := [.ref q]) rfl rfl (Nat.le_of_ble_eq_true rfl) dX1_makeReady_54 ⟨Nat.zero_le _, Nat.zero_le _⟩ (fun v hq => ?_)
      obtain ⟨rfl, -⟩ := hq
      refine x_int (congrArg zI (by rw [if_pos (by omega)] : ((leftN (halfN own) wind : Nat) : Int) = ((leftN (if ear = 2 ∨ ear = 5 then halfN own else own) wind : Nat) : Int))) ?_
      refine x_put 60 rfl 0 2 rfl rfl (by decide) inX1_makeReady_X1 flX1_makeReady_28 tyX1_ok nmX1 rfl rfl rfl rfl (Nat.le_of_ble_eq_true rfl) (ws' := [(q, .inr (1, [.int (zI ((ear : Nat) : Int)), .int (zI ((own : Nat) : Int)), .int (zI ((leftN (if ear = 2 ∨ ear = 5 then halfN own else own) wind : Nat) : Int)), .int (zB a0)]))]) rfl dX1_makeReady_57 ?_
      have L60 : W_X1_makeReady G E q e0 o0 l0 a0 ear own wind 60 [(0, .ref q), (1, .int (zI ((ear : Nat) : Int))), (2, .int (zI ((own : Nat) : Int))), (3, .int (zI ((wind : Nat) : Int)))] [] ([(q, .inr (1, [.int (zI ((ear : Nat) : Int)), .int (zI ((own : Nat) : Int)), .int (zI ((leftN (if ear = 2 ∨ ear = 5 then halfN own else own) wind : Nat) : Int)), .int (zB a0)]))]) := by
        refine x_aload_n 61 rfl dX1_makeReady_60 0 rfl ?_
        refine x_aload_n 62 rfl dX1_makeReady_61 0 rfl ?_
        refine x_get 65 rfl 0 0 rfl rfl (by decide) inX1_makeReady_X1 flX1_makeReady_9 rfl dX1_makeReady_62 ?_
        refine x_iconst 66 rfl dX1_makeReady_65 (z := 5) (by decide) ?_
        refine x_icmp_ne 69 rfl (tgt := 78) dX1_makeReady_66 (by decide) (by omega) (by decide) (fun h66 => ?_) (fun h66 => ?_)
        · skip
          refine x_iconst 79 rfl dX1_makeReady_78 (z := 0) (by decide) ?_
          refine x_int (y := (zB (decide (ear = 5 ∧ 1 < wind)))) (zB_n (by omega)) ?_
          refine x_put 82 rfl 0 3 rfl rfl (by decide) inX1_makeReady_X1 flX1_makeReady_31 tyX1_ok nmX1 rfl rfl (zB_nar _) (zB_fit _) (Nat.le_of_ble_eq_true rfl) (ws' := [(q, .inr (1, [.int (zI ((ear : Nat) : Int)), .int (zI ((own : Nat) : Int)), .int (zI ((leftN (if ear = 2 ∨ ear = 5 then halfN own else own) wind : Nat) : Int)), .int (zB (decide (ear = 5 ∧ 1 < wind)))]))]) rfl dX1_makeReady_79 ?_
          refine x_vret rfl ?_ dX1_makeReady_82
          exact ⟨rfl, rfl⟩
        · skip
          refine x_iload_n 70 rfl dX1_makeReady_69 3 rfl ?_
          refine x_iconst 71 rfl dX1_makeReady_70 (z := 1) (by decide) ?_
          refine x_icmp_le 74 rfl (tgt := 78) dX1_makeReady_71 (by decide) (by omega) (by decide) (fun h71 => ?_) (fun h71 => ?_)
          · skip
            refine x_iconst 79 rfl dX1_makeReady_78 (z := 0) (by decide) ?_
            refine x_int (y := (zB (decide (ear = 5 ∧ 1 < wind)))) (zB_n (by omega)) ?_
            refine x_put 82 rfl 0 3 rfl rfl (by decide) inX1_makeReady_X1 flX1_makeReady_31 tyX1_ok nmX1 rfl rfl (zB_nar _) (zB_fit _) (Nat.le_of_ble_eq_true rfl) (ws' := [(q, .inr (1, [.int (zI ((ear : Nat) : Int)), .int (zI ((own : Nat) : Int)), .int (zI ((leftN (if ear = 2 ∨ ear = 5 then halfN own else own) wind : Nat) : Int)), .int (zB (decide (ear = 5 ∧ 1 < wind)))]))]) rfl dX1_makeReady_79 ?_
            refine x_vret rfl ?_ dX1_makeReady_82
            exact ⟨rfl, rfl⟩
          · skip
            refine x_iconst 75 rfl dX1_makeReady_74 (z := 1) (by decide) ?_
            refine x_goto dX1_makeReady_75 (tgt := 79) (by decide) ?_
            refine x_int (y := (zB (decide (ear = 5 ∧ 1 < wind)))) (zB_d (by omega)) ?_
            refine x_put 82 rfl 0 3 rfl rfl (by decide) inX1_makeReady_X1 flX1_makeReady_31 tyX1_ok nmX1 rfl rfl (zB_nar _) (zB_fit _) (Nat.le_of_ble_eq_true rfl) (ws' := [(q, .inr (1, [.int (zI ((ear : Nat) : Int)), .int (zI ((own : Nat) : Int)), .int (zI ((leftN (if ear = 2 ∨ ear = 5 then halfN own else own) wind : Nat) : Int)), .int (zB (decide (ear = 5 ∧ 1 < wind)))]))]) rfl dX1_makeReady_79 ?_
            refine x_vret rfl ?_ dX1_makeReady_82
            exact ⟨rfl, rfl⟩
      refine x_lv [1, 2, 3, 4] rfl ?_
      exact L60 
  · skip
    refine x_aload_n 19 rfl dX1_makeReady_18 0 rfl ?_
    refine x_get 22 rfl 0 0 rfl rfl (by decide) inX1_makeReady_X1 flX1_makeReady_9 rfl dX1_makeReady_19 ?_
    refine x_iconst 23 rfl dX1_makeReady_22 (z := 5) (by decide) ?_
    refine x_icmp_ne 26 rfl (tgt := 30) dX1_makeReady_23 (by decide) (by omega) (by decide) (fun h23 => ?_) (fun h23 => ?_)
    · skip
      refine x_iconst 31 rfl dX1_makeReady_30 (z := 0) (by decide) ?_
      refine x_istore 33 rfl (lv' := [(4, .int (zI 0)), (0, .ref q), (1, .int (zI ((ear : Nat) : Int))), (2, .int (zI ((own : Nat) : Int))), (3, .int (zI ((wind : Nat) : Int)))]) dX1_makeReady_31 (by decide) rfl ?_
      refine x_aload_n 34 rfl dX1_makeReady_33 1 rfl ?_
      refine x_iload 36 rfl dX1_makeReady_34 0 rfl ?_
      refine x_if_eq 39 rfl (tgt := 49) dX1_makeReady_36 (by decide) (by omega) (fun h36 => ?_) (fun h36 => ?_)
      · skip
        refine x_aload_n 50 rfl dX1_makeReady_49 1 rfl ?_
        refine x_get 53 rfl 0 1 rfl rfl (by decide) inX1_makeReady_X1 flX1_makeReady_15 rfl dX1_makeReady_50 ?_
        refine x_iload_n 54 rfl dX1_makeReady_53 4 rfl ?_
        refine x_callS0 57 rfl (c_X4_lessLost G own wind hv (by omega)) (fun _ _ h => h.2) gX1_makeReady_X4_lessLost rfl rfl rfl hd_X4_lessLost ⟨Nat.le_of_ble_eq_true rfl, Nat.le_of_ble_eq_true rfl⟩ (As := [.int (zI ((own : Nat) : Int)), .int (zI ((wind : Nat) : Int))]) (rest := [.ref q]) rfl rfl (Nat.le_of_ble_eq_true rfl) dX1_makeReady_54 ⟨Nat.zero_le _, Nat.zero_le _⟩ (fun v hq => ?_)
        obtain ⟨rfl, -⟩ := hq
        refine x_int (congrArg zI (by rw [if_neg (by omega)] : ((leftN own wind : Nat) : Int) = ((leftN (if ear = 2 ∨ ear = 5 then halfN own else own) wind : Nat) : Int))) ?_
        refine x_put 60 rfl 0 2 rfl rfl (by decide) inX1_makeReady_X1 flX1_makeReady_28 tyX1_ok nmX1 rfl rfl rfl rfl (Nat.le_of_ble_eq_true rfl) (ws' := [(q, .inr (1, [.int (zI ((ear : Nat) : Int)), .int (zI ((own : Nat) : Int)), .int (zI ((leftN (if ear = 2 ∨ ear = 5 then halfN own else own) wind : Nat) : Int)), .int (zB a0)]))]) rfl dX1_makeReady_57 ?_
        have L60 : W_X1_makeReady G E q e0 o0 l0 a0 ear own wind 60 [(0, .ref q), (1, .int (zI ((ear : Nat) : Int))), (2, .int (zI ((own : Nat) : Int))), (3, .int (zI ((wind : Nat) : Int)))] [] ([(q, .inr (1, [.int (zI ((ear : Nat) : Int)), .int (zI ((own : Nat) : Int)), .int (zI ((leftN (if ear = 2 ∨ ear = 5 then halfN own else own) wind : Nat) : Int)), .int (zB a0)]))]) := by
          refine x_aload_n 61 rfl dX1_makeReady_60 0 rfl ?_
          refine x_aload_n 62 rfl dX1_makeReady_61 0 rfl ?_
          refine x_get 65 rfl 0 0 rfl rfl (by decide) inX1_makeReady_X1 flX1_makeReady_9 rfl dX1_makeReady_62 ?_
          refine x_iconst 66 rfl dX1_makeReady_65 (z := 5) (by decide) ?_
          refine x_icmp_ne 69 rfl (tgt := 78) dX1_makeReady_66 (by decide) (by omega) (by decide) (fun h66 => ?_) (fun h66 => ?_)
          · skip
            refine x_iconst 79 rfl dX1_makeReady_78 (z := 0) (by decide) ?_
            refine x_int (y := (zB (decide (ear = 5 ∧ 1 < wind)))) (zB_n (by omega)) ?_
            refine x_put 82 rfl 0 3 rfl rfl (by decide) inX1_makeReady_X1 flX1_makeReady_31 tyX1_ok nmX1 rfl rfl (zB_nar _) (zB_fit _) (Nat.le_of_ble_eq_true rfl) (ws' := [(q, .inr (1, [.int (zI ((ear : Nat) : Int)), .int (zI ((own : Nat) : Int)), .int (zI ((leftN (if ear = 2 ∨ ear = 5 then halfN own else own) wind : Nat) : Int)), .int (zB (decide (ear = 5 ∧ 1 < wind)))]))]) rfl dX1_makeReady_79 ?_
            refine x_vret rfl ?_ dX1_makeReady_82
            exact ⟨rfl, rfl⟩
          · skip
            refine x_iload_n 70 rfl dX1_makeReady_69 3 rfl ?_
            refine x_iconst 71 rfl dX1_makeReady_70 (z := 1) (by decide) ?_
            refine x_icmp_le 74 rfl (tgt := 78) dX1_makeReady_71 (by decide) (by omega) (by decide) (fun h71 => ?_) (fun h71 => ?_)
            · skip
              refine x_iconst 79 rfl dX1_makeReady_78 (z := 0) (by decide) ?_
              refine x_int (y := (zB (decide (ear = 5 ∧ 1 < wind)))) (zB_n (by omega)) ?_
              refine x_put 82 rfl 0 3 rfl rfl (by decide) inX1_makeReady_X1 flX1_makeReady_31 tyX1_ok nmX1 rfl rfl (zB_nar _) (zB_fit _) (Nat.le_of_ble_eq_true rfl) (ws' := [(q, .inr (1, [.int (zI ((ear : Nat) : Int)), .int (zI ((own : Nat) : Int)), .int (zI ((leftN (if ear = 2 ∨ ear = 5 then halfN own else own) wind : Nat) : Int)), .int (zB (decide (ear = 5 ∧ 1 < wind)))]))]) rfl dX1_makeReady_79 ?_
              refine x_vret rfl ?_ dX1_makeReady_82
              exact ⟨rfl, rfl⟩
            · skip
              refine x_iconst 75 rfl dX1_makeReady_74 (z := 1) (by decide) ?_
              refine x_goto dX1_makeReady_75 (tgt := 79) (by decide) ?_
              refine x_int (y := (zB (decide (ear = 5 ∧ 1 < wind)))) (zB_d (by omega)) ?_
              refine x_put 82 rfl 0 3 rfl rfl (by decide) inX1_makeReady_X1 flX1_makeReady_31 tyX1_ok nmX1 rfl rfl (zB_nar _) (zB_fit _) (Nat.le_of_ble_eq_true rfl) (ws' := [(q, .inr (1, [.int (zI ((ear : Nat) : Int)), .int (zI ((own : Nat) : Int)), .int (zI ((leftN (if ear = 2 ∨ ear = 5 then halfN own else own) wind : Nat) : Int)), .int (zB (decide (ear = 5 ∧ 1 < wind)))]))]) rfl dX1_makeReady_79 ?_
              refine x_vret rfl ?_ dX1_makeReady_82
              exact ⟨rfl, rfl⟩
        refine x_lv [1, 2, 3, 4] rfl ?_
        exact L60 
      · skip
        exact absurd h36 (by decide)
    · skip
      refine x_iconst 27 rfl dX1_makeReady_26 (z := 1) (by decide) ?_
      refine x_goto dX1_makeReady_27 (tgt := 31) (by decide) ?_
      refine x_istore 33 rfl (lv' := [(4, .int (zI 1)), (0, .ref q), (1, .int (zI ((ear : Nat) : Int))), (2, .int (zI ((own : Nat) : Int))), (3, .int (zI ((wind : Nat) : Int)))]) dX1_makeReady_31 (by decide) rfl ?_
      refine x_aload_n 34 rfl dX1_makeReady_33 1 rfl ?_
      refine x_iload 36 rfl dX1_makeReady_34 0 rfl ?_
      refine x_if_eq 39 rfl (tgt := 49) dX1_makeReady_36 (by decide) (by omega) (fun h36 => ?_) (fun h36 => ?_)
      · skip
        exact absurd h36 (by decide)
      · skip
        refine x_aload_n 40 rfl dX1_makeReady_39 1 rfl ?_
        refine x_get 43 rfl 0 1 rfl rfl (by decide) inX1_makeReady_X1 flX1_makeReady_15 rfl dX1_makeReady_40 ?_
        refine x_callS0 46 rfl (c_X4_firstHalf G own hv) (fun _ _ h => h.2) gX1_makeReady_X4_firstHalf rfl rfl rfl hd_X4_firstHalf ⟨Nat.le_of_ble_eq_true rfl, Nat.le_of_ble_eq_true rfl⟩ (As := [.int (zI ((own : Nat) : Int))]) (rest := [.ref q]) rfl rfl (Nat.le_of_ble_eq_true rfl) dX1_makeReady_43 ⟨Nat.zero_le _, Nat.zero_le _⟩ (fun v hq => ?_)
        obtain ⟨rfl, -⟩ := hq
        refine x_goto dX1_makeReady_46 (tgt := 53) (by decide) ?_
        refine x_iload_n 54 rfl dX1_makeReady_53 4 rfl ?_
        refine x_callS0 57 rfl (c_X4_lessLost G (halfN own) wind (half_vt own ho hv) (by omega)) (fun _ _ h => h.2) gX1_makeReady_X4_lessLost rfl rfl rfl hd_X4_lessLost ⟨Nat.le_of_ble_eq_true rfl, Nat.le_of_ble_eq_true rfl⟩ (As := [.int (zI ((halfN own : Nat) : Int)), .int (zI ((wind : Nat) : Int))]) (rest := [.ref q]) rfl rfl (Nat.le_of_ble_eq_true rfl) dX1_makeReady_54 ⟨Nat.zero_le _, Nat.zero_le _⟩ (fun v hq => ?_)
        obtain ⟨rfl, -⟩ := hq
        refine x_int (congrArg zI (by rw [if_pos (by omega)] : ((leftN (halfN own) wind : Nat) : Int) = ((leftN (if ear = 2 ∨ ear = 5 then halfN own else own) wind : Nat) : Int))) ?_
        refine x_put 60 rfl 0 2 rfl rfl (by decide) inX1_makeReady_X1 flX1_makeReady_28 tyX1_ok nmX1 rfl rfl rfl rfl (Nat.le_of_ble_eq_true rfl) (ws' := [(q, .inr (1, [.int (zI ((ear : Nat) : Int)), .int (zI ((own : Nat) : Int)), .int (zI ((leftN (if ear = 2 ∨ ear = 5 then halfN own else own) wind : Nat) : Int)), .int (zB a0)]))]) rfl dX1_makeReady_57 ?_
        have L60 : W_X1_makeReady G E q e0 o0 l0 a0 ear own wind 60 [(0, .ref q), (1, .int (zI ((ear : Nat) : Int))), (2, .int (zI ((own : Nat) : Int))), (3, .int (zI ((wind : Nat) : Int)))] [] ([(q, .inr (1, [.int (zI ((ear : Nat) : Int)), .int (zI ((own : Nat) : Int)), .int (zI ((leftN (if ear = 2 ∨ ear = 5 then halfN own else own) wind : Nat) : Int)), .int (zB a0)]))]) := by
          refine x_aload_n 61 rfl dX1_makeReady_60 0 rfl ?_
          refine x_aload_n 62 rfl dX1_makeReady_61 0 rfl ?_
          refine x_get 65 rfl 0 0 rfl rfl (by decide) inX1_makeReady_X1 flX1_makeReady_9 rfl dX1_makeReady_62 ?_
          refine x_iconst 66 rfl dX1_makeReady_65 (z := 5) (by decide) ?_
          refine x_icmp_ne 69 rfl (tgt := 78) dX1_makeReady_66 (by decide) (by omega) (by decide) (fun h66 => ?_) (fun h66 => ?_)
          · skip
            refine x_iconst 79 rfl dX1_makeReady_78 (z := 0) (by decide) ?_
            refine x_int (y := (zB (decide (ear = 5 ∧ 1 < wind)))) (zB_n (by omega)) ?_
            refine x_put 82 rfl 0 3 rfl rfl (by decide) inX1_makeReady_X1 flX1_makeReady_31 tyX1_ok nmX1 rfl rfl (zB_nar _) (zB_fit _) (Nat.le_of_ble_eq_true rfl) (ws' := [(q, .inr (1, [.int (zI ((ear : Nat) : Int)), .int (zI ((own : Nat) : Int)), .int (zI ((leftN (if ear = 2 ∨ ear = 5 then halfN own else own) wind : Nat) : Int)), .int (zB (decide (ear = 5 ∧ 1 < wind)))]))]) rfl dX1_makeReady_79 ?_
            refine x_vret rfl ?_ dX1_makeReady_82
            exact ⟨rfl, rfl⟩
          · skip
            refine x_iload_n 70 rfl dX1_makeReady_69 3 rfl ?_
            refine x_iconst 71 rfl dX1_makeReady_70 (z := 1) (by decide) ?_
            refine x_icmp_le 74 rfl (tgt := 78) dX1_makeReady_71 (by decide) (by omega) (by decide) (fun h71 => ?_) (fun h71 => ?_)
            · skip
              refine x_iconst 79 rfl dX1_makeReady_78 (z := 0) (by decide) ?_
              refine x_int (y := (zB (decide (ear = 5 ∧ 1 < wind)))) (zB_n (by omega)) ?_
              refine x_put 82 rfl 0 3 rfl rfl (by decide) inX1_makeReady_X1 flX1_makeReady_31 tyX1_ok nmX1 rfl rfl (zB_nar _) (zB_fit _) (Nat.le_of_ble_eq_true rfl) (ws' := [(q, .inr (1, [.int (zI ((ear : Nat) : Int)), .int (zI ((own : Nat) : Int)), .int (zI ((leftN (if ear = 2 ∨ ear = 5 then halfN own else own) wind : Nat) : Int)), .int (zB (decide (ear = 5 ∧ 1 < wind)))]))]) rfl dX1_makeReady_79 ?_
              refine x_vret rfl ?_ dX1_makeReady_82
              exact ⟨rfl, rfl⟩
            · skip
              refine x_iconst 75 rfl dX1_makeReady_74 (z := 1) (by decide) ?_
              refine x_goto dX1_makeReady_75 (tgt := 79) (by decide) ?_
              refine x_int (y := (zB (decide (ear = 5 ∧ 1 < wind)))) (zB_d (by omega)) ?_
              refine x_put 82 rfl 0 3 rfl rfl (by decide) inX1_makeReady_X1 flX1_makeReady_31 tyX1_ok nmX1 rfl rfl (zB_nar _) (zB_fit _) (Nat.le_of_ble_eq_true rfl) (ws' := [(q, .inr (1, [.int (zI ((ear : Nat) : Int)), .int (zI ((own : Nat) : Int)), .int (zI ((leftN (if ear = 2 ∨ ear = 5 then halfN own else own) wind : Nat) : Int)), .int (zB (decide (ear = 5 ∧ 1 < wind)))]))]) rfl dX1_makeReady_79 ?_
              refine x_vret rfl ?_ dX1_makeReady_82
              exact ⟨rfl, rfl⟩
        refine x_lv [1, 2, 3, 4] rfl ?_
        exact L60 

abbrev P_X1_fallAsleep (G : XG) (q : Nat) (e0 : Int) (o0 : Int) (l0 : Int) (a0 : Bool) : Option Value → va_W → Prop := fun v w => v = none ∧ w = [(q, .inr (1, [.int (zI e0), .int (zI o0), .int (zI l0), .int (zB true)]))]
abbrev W_X1_fallAsleep (G : XG) (E : XE) (q : Nat) (e0 : Int) (o0 : Int) (l0 : Int) (a0 : Bool) (pc : Nat) (lv : List (Nat × Value)) (st : List Value) (ws : va_W) : Prop := Wx G E (rmL 0) cX1_fallAsleep 1 RX1 wsX1_fallAsleep none "fallAsleep" 0 0 (P_X1_fallAsleep G q e0 o0 l0 a0) 0 0 pc lv st ws
theorem flX1_fallAsleep_31 : Cond.fieldLink RX1 31 (TX1 3).1 (TX1 3).2.1 (TX1 3).2.2.1 ∈ wsX1_fallAsleep := by decide +kernel
theorem inX1_fallAsleep_X1 : ∀ w ∈ u_ws RX1 TX1 4, w ∈ wsX1_fallAsleep := fun _ h => List.mem_cons_of_mem _ (List.mem_append_right _ h)
set_option maxHeartbeats 4000000 in
set_option maxRecDepth 100000 in
/-- Listener.fallAsleep -/
theorem c_X1_fallAsleep (G : XG) (q : Nat) (e0 o0 l0 : Int) (a0 : Bool) : Con G yX1_fallAsleep wsX1_fallAsleep (rmL 0) 0 0 [.ref q] ([(q, .inr (1, [.int (zI e0), .int (zI o0), .int (zI l0), .int (zB a0)]))]) (P_X1_fallAsleep G q e0 o0 l0 a0) := by
  refine x_start (cc := cX1_fallAsleep) (nL := 1) (ret := none) (by decide) rfl (Nat.le_of_ble_eq_true rfl) (fun E => ?_)
  show W_X1_fallAsleep G E q e0 o0 l0 a0 0 [(0, .ref q)] [] ([(q, .inr (1, [.int (zI e0), .int (zI o0), .int (zI l0), .int (zB a0)]))])
  refine x_aload_n 1 rfl dX1_fallAsleep_0 0 rfl ?_
  refine x_iconst 2 rfl dX1_fallAsleep_1 (z := 1) (by decide) ?_
  refine x_int (y := (zB true)) (rfl) ?_
  refine x_put 5 rfl 0 3 rfl rfl (by decide) inX1_fallAsleep_X1 flX1_fallAsleep_31 tyX1_ok nmX1 rfl rfl (zB_nar _) (zB_fit _) (Nat.le_of_ble_eq_true rfl) (ws' := [(q, .inr (1, [.int (zI e0), .int (zI o0), .int (zI l0), .int (zB true)]))]) rfl dX1_fallAsleep_2 ?_
  refine x_vret rfl ?_ dX1_fallAsleep_5
  exact ⟨rfl, rfl⟩

abbrev P_X1_turnsLisping (G : XG) (q : Nat) (ear : Nat) (own : Nat) (lf : Nat) (asl : Bool) (came : Nat) : Option Value → va_W → Prop := fun v w => v = some (.int (zB (decide (lispN came = lispN lf)))) ∧ w = [(q, .inr (1, [.int (zI ((ear : Nat) : Int)), .int (zI ((own : Nat) : Int)), .int (zI ((lf : Nat) : Int)), .int (zB asl)]))]
abbrev W_X1_turnsLisping (G : XG) (E : XE) (q : Nat) (ear : Nat) (own : Nat) (lf : Nat) (asl : Bool) (came : Nat) (pc : Nat) (lv : List (Nat × Value)) (st : List Value) (ws : va_W) : Prop := Wx G E (rmL 1) cX1_turnsLisping 2 RX1 wsX1_turnsLisping (some .boolean) "turnsLisping" 0 0 (P_X1_turnsLisping G q ear own lf asl came) 0 0 pc lv st ws
theorem flX1_turnsLisping_28 : Cond.fieldLink RX1 28 (TX1 2).1 (TX1 2).2.1 (TX1 2).2.2.1 ∈ wsX1_turnsLisping := by decide +kernel
theorem inX1_turnsLisping_X1 : ∀ w ∈ u_ws RX1 TX1 4, w ∈ wsX1_turnsLisping := fun _ h => List.mem_cons_of_mem _ (List.mem_append_right _ h)
set_option maxHeartbeats 4000000 in
set_option maxRecDepth 100000 in
/-- Listener.turnsLisping -/
theorem c_X1_turnsLisping (G : XG) (q ear own lf : Nat) (asl : Bool) (came : Nat) (hc : vt came) (hl : vt lf) : Con G yX1_turnsLisping wsX1_turnsLisping (rmL 1) 0 0 [.ref q, .int (zI ((came : Nat) : Int))] ([(q, .inr (1, [.int (zI ((ear : Nat) : Int)), .int (zI ((own : Nat) : Int)), .int (zI ((lf : Nat) : Int)), .int (zB asl)]))]) (P_X1_turnsLisping G q ear own lf asl came) := by
  refine x_start (cc := cX1_turnsLisping) (nL := 2) (ret := (some .boolean)) (by decide) rfl (Nat.le_of_ble_eq_true rfl) (fun E => ?_)
  show W_X1_turnsLisping G E q ear own lf asl came 0 [(0, .ref q), (1, .int (zI ((came : Nat) : Int)))] [] ([(q, .inr (1, [.int (zI ((ear : Nat) : Int)), .int (zI ((own : Nat) : Int)), .int (zI ((lf : Nat) : Int)), .int (zB asl)]))])
  refine x_iload_n 1 rfl dX1_turnsLisping_0 1 rfl ?_
  refine x_callS0 4 rfl (c_X4_lisped G came (hc)) (fun _ _ h => h.2) gX1_turnsLisping_X4_lisped rfl rfl rfl hd_X4_lisped ⟨Nat.le_of_ble_eq_true rfl, Nat.le_of_ble_eq_true rfl⟩ (As := [.int (zI ((came : Nat) : Int))]) (rest := []) rfl rfl (Nat.le_of_ble_eq_true rfl) dX1_turnsLisping_1 ⟨Nat.zero_le _, Nat.zero_le _⟩ (fun v hq => ?_)
  obtain ⟨rfl, -⟩ := hq
  refine x_aload_n 5 rfl dX1_turnsLisping_4 0 rfl ?_
  refine x_get 8 rfl 0 2 rfl rfl (by decide) inX1_turnsLisping_X1 flX1_turnsLisping_28 rfl dX1_turnsLisping_5 ?_
  refine x_callS0 11 rfl (c_X4_lisped G lf (hl)) (fun _ _ h => h.2) gX1_turnsLisping_X4_lisped rfl rfl rfl hd_X4_lisped ⟨Nat.le_of_ble_eq_true rfl, Nat.le_of_ble_eq_true rfl⟩ (As := [.int (zI ((lf : Nat) : Int))]) (rest := [.int (zI ((lispN came : Nat) : Int))]) rfl rfl (Nat.le_of_ble_eq_true rfl) dX1_turnsLisping_8 ⟨Nat.zero_le _, Nat.zero_le _⟩ (fun v hq => ?_)
  obtain ⟨rfl, -⟩ := hq
  refine x_icmp_ne 14 rfl (tgt := 18) dX1_turnsLisping_11 (by decide) (by have := lisp_lt came (vt_lt hc); omega) (by have := lisp_lt lf (vt_lt hl); omega) (fun h11 => ?_) (fun h11 => ?_)
  · skip
    refine x_iconst 19 rfl dX1_turnsLisping_18 (z := 0) (by decide) ?_
    refine x_int (y := zB (decide (lispN came = lispN lf))) (zB_n (by omega)) ?_
    refine x_zret rfl ?_ dX1_turnsLisping_19
    exact ⟨rfl, rfl⟩
  · skip
    refine x_iconst 15 rfl dX1_turnsLisping_14 (z := 1) (by decide) ?_
    refine x_goto dX1_turnsLisping_15 (tgt := 19) (by decide) ?_
    refine x_int (y := zB (decide (lispN came = lispN lf))) (zB_d (by omega)) ?_
    refine x_zret rfl ?_ dX1_turnsLisping_19
    exact ⟨rfl, rfl⟩

abbrev P_X1_mocks (G : XG) (q : Nat) (ear : Nat) (own : Nat) (lf : Nat) (asl : Bool) (came : Nat) : Option Value → va_W → Prop := fun v w => v = some (.int (zB (decide (came % 4 = lf % 4 ∧ notesN came = notesN lf)))) ∧ w = [(q, .inr (1, [.int (zI ((ear : Nat) : Int)), .int (zI ((own : Nat) : Int)), .int (zI ((lf : Nat) : Int)), .int (zB asl)]))]
abbrev W_X1_mocks (G : XG) (E : XE) (q : Nat) (ear : Nat) (own : Nat) (lf : Nat) (asl : Bool) (came : Nat) (pc : Nat) (lv : List (Nat × Value)) (st : List Value) (ws : va_W) : Prop := Wx G E (rmL 1) cX1_mocks 2 RX1 wsX1_mocks (some .boolean) "mocks" 0 0 (P_X1_mocks G q ear own lf asl came) 0 0 pc lv st ws
theorem flX1_mocks_28 : Cond.fieldLink RX1 28 (TX1 2).1 (TX1 2).2.1 (TX1 2).2.2.1 ∈ wsX1_mocks := by decide +kernel
theorem inX1_mocks_X1 : ∀ w ∈ u_ws RX1 TX1 4, w ∈ wsX1_mocks := fun _ h => List.mem_cons_of_mem _ (List.mem_append_right _ h)
set_option maxHeartbeats 4000000 in
set_option maxRecDepth 100000 in
/-- Listener.mocks -/
theorem c_X1_mocks (G : XG) (q ear own lf : Nat) (asl : Bool) (came : Nat) (hc : vt came) (hl : vt lf) : Con G yX1_mocks wsX1_mocks (rmL 1) 0 0 [.ref q, .int (zI ((came : Nat) : Int))] ([(q, .inr (1, [.int (zI ((ear : Nat) : Int)), .int (zI ((own : Nat) : Int)), .int (zI ((lf : Nat) : Int)), .int (zB asl)]))]) (P_X1_mocks G q ear own lf asl came) := by
  refine x_start (cc := cX1_mocks) (nL := 2) (ret := (some .boolean)) (by decide) rfl (Nat.le_of_ble_eq_true rfl) (fun E => ?_)
  show W_X1_mocks G E q ear own lf asl came 0 [(0, .ref q), (1, .int (zI ((came : Nat) : Int)))] [] ([(q, .inr (1, [.int (zI ((ear : Nat) : Int)), .int (zI ((own : Nat) : Int)), .int (zI ((lf : Nat) : Int)), .int (zB asl)]))])
  have h1 := vt_lt hc
  have h2 := vt_lt hl
  have h3 := notes_vt came h1 hc
  have h4 := notes_vt lf h2 hl
  refine x_iload_n 1 rfl dX1_mocks_0 1 rfl ?_
  refine x_iconst 2 rfl dX1_mocks_1 (z := 3) (by decide) ?_
  refine x_iand 3 rfl dX1_mocks_2 (z := ((came % 4 : Nat) : Int)) (zI_and3 (t := came) (by omega)) ?_
  refine x_aload_n 4 rfl dX1_mocks_3 0 rfl ?_
  refine x_get 7 rfl 0 2 rfl rfl (by decide) inX1_mocks_X1 flX1_mocks_28 rfl dX1_mocks_4 ?_
  refine x_iconst 8 rfl dX1_mocks_7 (z := 3) (by decide) ?_
  refine x_iand 9 rfl dX1_mocks_8 (z := ((lf % 4 : Nat) : Int)) (zI_and3 (t := lf) (by omega)) ?_
  refine x_icmp_ne 12 rfl (tgt := 30) dX1_mocks_9 (by decide) (by omega) (by omega) (fun h9 => ?_) (fun h9 => ?_)
  · skip
    refine x_iconst 31 rfl dX1_mocks_30 (z := 0) (by decide) ?_
    refine x_int (y := zB (decide (came % 4 = lf % 4 ∧ notesN came = notesN lf))) (zB_n (by omega)) ?_
    refine x_zret rfl ?_ dX1_mocks_31
    exact ⟨rfl, rfl⟩
  · skip
    refine x_iload_n 13 rfl dX1_mocks_12 1 rfl ?_
    refine x_callS0 16 rfl (c_X4_notes_v G came hc) (fun _ _ h => h.2) gX1_mocks_X4_notes rfl rfl rfl hd_X4_notes ⟨Nat.le_of_ble_eq_true rfl, Nat.le_of_ble_eq_true rfl⟩ (As := [.int (zI ((came : Nat) : Int))]) (rest := []) rfl rfl (Nat.le_of_ble_eq_true rfl) dX1_mocks_13 ⟨Nat.zero_le _, Nat.zero_le _⟩ (fun v hq => ?_)
    obtain ⟨rfl, -⟩ := hq
    refine x_aload_n 17 rfl dX1_mocks_16 0 rfl ?_
    refine x_get 20 rfl 0 2 rfl rfl (by decide) inX1_mocks_X1 flX1_mocks_28 rfl dX1_mocks_17 ?_
    refine x_callS0 23 rfl (c_X4_notes_v G lf hl) (fun _ _ h => h.2) gX1_mocks_X4_notes rfl rfl rfl hd_X4_notes ⟨Nat.le_of_ble_eq_true rfl, Nat.le_of_ble_eq_true rfl⟩ (As := [.int (zI ((lf : Nat) : Int))]) (rest := [.int (zI ((notesN came : Nat) : Int))]) rfl rfl (Nat.le_of_ble_eq_true rfl) dX1_mocks_20 ⟨Nat.zero_le _, Nat.zero_le _⟩ (fun v hq => ?_)
    obtain ⟨rfl, -⟩ := hq
    refine x_icmp_ne 26 rfl (tgt := 30) dX1_mocks_23 (by decide) (by omega) (by omega) (fun h23 => ?_) (fun h23 => ?_)
    · skip
      refine x_iconst 31 rfl dX1_mocks_30 (z := 0) (by decide) ?_
      refine x_int (y := zB (decide (came % 4 = lf % 4 ∧ notesN came = notesN lf))) (zB_n (by omega)) ?_
      refine x_zret rfl ?_ dX1_mocks_31
      exact ⟨rfl, rfl⟩
    · skip
      refine x_iconst 27 rfl dX1_mocks_26 (z := 1) (by decide) ?_
      refine x_goto dX1_mocks_27 (tgt := 31) (by decide) ?_
      refine x_int (y := zB (decide (came % 4 = lf % 4 ∧ notesN came = notesN lf))) (zB_d (by omega)) ?_
      refine x_zret rfl ?_ dX1_mocks_31
      exact ⟨rfl, rfl⟩

abbrev P_X1_turnsAt (G : XG) (q : Nat) (ear : Nat) (own : Nat) (lf : Nat) (asl : Bool) (whi : Nat) (came : Nat) : Option Value → va_W → Prop := fun v w => v = some (.int (zB (tAt ear own lf asl whi came))) ∧ w = [(q, .inr (1, [.int (zI ((ear : Nat) : Int)), .int (zI ((own : Nat) : Int)), .int (zI ((lf : Nat) : Int)), .int (zB asl)]))]
abbrev W_X1_turnsAt (G : XG) (E : XE) (q : Nat) (ear : Nat) (own : Nat) (lf : Nat) (asl : Bool) (whi : Nat) (came : Nat) (pc : Nat) (lv : List (Nat × Value)) (st : List Value) (ws : va_W) : Prop := Wx G E (rmL 2) cX1_turnsAt 3 RX1 wsX1_turnsAt (some .boolean) "turnsAt" 0 0 (P_X1_turnsAt G q ear own lf asl whi came) 0 0 pc lv st ws
theorem flX1_turnsAt_9 : Cond.fieldLink RX1 9 (TX1 0).1 (TX1 0).2.1 (TX1 0).2.2.1 ∈ wsX1_turnsAt := by decide +kernel
theorem flX1_turnsAt_15 : Cond.fieldLink RX1 15 (TX1 1).1 (TX1 1).2.1 (TX1 1).2.2.1 ∈ wsX1_turnsAt := by decide +kernel
theorem flX1_turnsAt_28 : Cond.fieldLink RX1 28 (TX1 2).1 (TX1 2).2.1 (TX1 2).2.2.1 ∈ wsX1_turnsAt := by decide +kernel
theorem flX1_turnsAt_31 : Cond.fieldLink RX1 31 (TX1 3).1 (TX1 3).2.1 (TX1 3).2.2.1 ∈ wsX1_turnsAt := by decide +kernel
theorem inX1_turnsAt_X1 : ∀ w ∈ u_ws RX1 TX1 4, w ∈ wsX1_turnsAt := fun _ h => List.mem_cons_of_mem _ (List.mem_append_right _ h)
set_option maxHeartbeats 4000000 in
set_option maxRecDepth 100000 in
/-- Listener.turnsAt -/
theorem c_X1_turnsAt (G : XG) (q ear own lf : Nat) (asl : Bool) (whi came : Nat) (he : ear < 6) (ho : own < 2147483648) (hw : whi < 2147483648) (hc : came = 1 ∨ vt came) (hl : lf = 1 ∨ vt lf) : Con G yX1_turnsAt wsX1_turnsAt (rmL 2) 0 0 [.ref q, .int (zI ((whi : Nat) : Int)), .int (zI ((came : Nat) : Int))] ([(q, .inr (1, [.int (zI ((ear : Nat) : Int)), .int (zI ((own : Nat) : Int)), .int (zI ((lf : Nat) : Int)), .int (zB asl)]))]) (P_X1_turnsAt G q ear own lf asl whi came) := by
  refine x_start (cc := cX1_turnsAt) (nL := 3) (ret := (some .boolean)) (by decide) rfl (Nat.le_of_ble_eq_true rfl) (fun E => ?_)
  show W_X1_turnsAt G E q ear own lf asl whi came 0 [(0, .ref q), (1, .int (zI ((whi : Nat) : Int))), (2, .int (zI ((came : Nat) : Int)))] [] ([(q, .inr (1, [.int (zI ((ear : Nat) : Int)), .int (zI ((own : Nat) : Int)), .int (zI ((lf : Nat) : Int)), .int (zB asl)]))])
  have h1 : came < 2048 := by unfold vt at hc; omega
  have h2 : lf < 2048 := by unfold vt at hl; omega
  refine x_aload_n 1 rfl dX1_turnsAt_0 0 rfl ?_
  refine x_get 4 rfl 0 3 rfl rfl (by decide) inX1_turnsAt_X1 flX1_turnsAt_31 rfl dX1_turnsAt_1 ?_
  refine x_bif_eq 7 rfl (tgt := 9) dX1_turnsAt_4 (by decide) (fun h4 => ?_) (fun h4 => ?_)
  · skip
    refine x_aload_n 10 rfl dX1_turnsAt_9 0 rfl ?_
    refine x_get 13 rfl 0 0 rfl rfl (by decide) inX1_turnsAt_X1 flX1_turnsAt_9 rfl dX1_turnsAt_10 ?_
    refine x_iconst 14 rfl dX1_turnsAt_13 (z := 4) (by decide) ?_
    refine x_icmp_ne 17 rfl (tgt := 31) dX1_turnsAt_14 (by decide) (by omega) (by decide) (fun h14 => ?_) (fun h14 => ?_)
    · skip
      refine x_iload_n 32 rfl dX1_turnsAt_31 2 rfl ?_
      refine x_iconst 33 rfl dX1_turnsAt_32 (z := 1) (by decide) ?_
      refine x_icmp_eq 36 rfl (tgt := 44) dX1_turnsAt_33 (by decide) (by omega) (by decide) (fun h33 => ?_) (fun h33 => ?_)
      · skip
        refine x_iconst 45 rfl dX1_turnsAt_44 (z := 0) (by decide) ?_
        refine x_int (y := zB (tAt ear own lf asl whi came)) (zB_f (by rw [tAt_n h4 (by omega) (by omega)])) ?_
        refine x_zret rfl ?_ dX1_turnsAt_45
        exact ⟨rfl, rfl⟩
      · skip
        refine x_aload_n 37 rfl dX1_turnsAt_36 0 rfl ?_
        refine x_get 40 rfl 0 2 rfl rfl (by decide) inX1_turnsAt_X1 flX1_turnsAt_28 rfl dX1_turnsAt_37 ?_
        refine x_iconst 41 rfl dX1_turnsAt_40 (z := 1) (by decide) ?_
        refine x_icmp_ne 44 rfl (tgt := 46) dX1_turnsAt_41 (by decide) (by omega) (by decide) (fun h41 => ?_) (fun h41 => ?_)
        · skip
          have c1 : came ≠ 1 := by omega
          have l1 : lf ≠ 1 := by omega
          have hc' : vt came := hc.resolve_left c1
          have hl' : vt lf := hl.resolve_left l1
          refine x_aload_n 47 rfl dX1_turnsAt_46 0 rfl ?_
          refine x_get 50 rfl 0 0 rfl rfl (by decide) inX1_turnsAt_X1 flX1_turnsAt_9 rfl dX1_turnsAt_47 ?_
          rcases (by omega : ((ear : Nat) : Int) = 0 ∨ ((ear : Nat) : Int) = 1 ∨ ((ear : Nat) : Int) = 2 ∨ ((ear : Nat) : Int) = 3 ∨ ((ear : Nat) : Int) = 4 ∨ ((ear : Nat) : Int) = 5) with hs50 | hs50 | hs50 | hs50 | hs50 | hs50
          · refine x_tsw 0 (tgt := 125) hs50 (by decide) (by decide) rfl (by decide) dX1_turnsAt_50 ?_
            refine x_iload_n 126 rfl dX1_turnsAt_125 2 rfl ?_
            refine x_aload_n 127 rfl dX1_turnsAt_126 0 rfl ?_
            refine x_get 130 rfl 0 2 rfl rfl (by decide) inX1_turnsAt_X1 flX1_turnsAt_28 rfl dX1_turnsAt_127 ?_
            refine x_icmp_ne 133 rfl (tgt := 137) dX1_turnsAt_130 (by decide) (by omega) (by omega) (fun h130 => ?_) (fun h130 => ?_)
            · skip
              refine x_iconst 138 rfl dX1_turnsAt_137 (z := 0) (by decide) ?_
              refine x_int (y := zB (tAt ear own lf asl whi came)) (zB_f (by rw [tAt_p h4 c1 l1 (by omega)]; exact decide_eq_false (by omega))) ?_
              refine x_zret rfl ?_ dX1_turnsAt_138
              exact ⟨rfl, rfl⟩
            · skip
              refine x_iconst 134 rfl dX1_turnsAt_133 (z := 1) (by decide) ?_
              refine x_goto dX1_turnsAt_134 (tgt := 138) (by decide) ?_
              refine x_int (y := zB (tAt ear own lf asl whi came)) (zB_t (by rw [tAt_p h4 c1 l1 (by omega)]; exact decide_eq_true (by omega))) ?_
              refine x_zret rfl ?_ dX1_turnsAt_138
              exact ⟨rfl, rfl⟩
          · refine x_tsw 1 (tgt := 88) hs50 (by decide) (by decide) rfl (by decide) dX1_turnsAt_50 ?_
            refine x_aload_n 89 rfl dX1_turnsAt_88 0 rfl ?_
            refine x_iload_n 90 rfl dX1_turnsAt_89 2 rfl ?_
            refine x_callV 93 rfl (c_X1_turnsLisping G q ear own lf asl came hc' hl') [0] rfl (by decide) 0 rfl rfl gX1_turnsAt_X1_turnsLisping rfl rfl rfl hd_X1_turnsLisping ⟨Nat.le_of_ble_eq_true rfl, Nat.le_of_ble_eq_true rfl⟩ (As := [.int (zI ((came : Nat) : Int))]) (rest := []) rfl rfl (Nat.le_of_ble_eq_true rfl) dX1_turnsAt_90 ⟨Nat.zero_le _, Nat.zero_le _⟩ (fun v w hq => ?_)
            obtain ⟨rfl, rfl⟩ := hq
            refine ⟨rfl, ?_⟩
            refine x_ws (ws' := [(q, .inr (1, [.int (zI ((ear : Nat) : Int)), .int (zI ((own : Nat) : Int)), .int (zI ((lf : Nat) : Int)), .int (zB asl)]))]) (rfl) ?_
            refine x_int (y := (zB (tAt ear own lf asl whi came))) (congrArg zB (tAt_l h4 c1 l1 (by omega)).symm) ?_
            refine x_zret rfl ?_ dX1_turnsAt_93
            exact ⟨rfl, rfl⟩
          · refine x_tsw 2 (tgt := 116) hs50 (by decide) (by decide) rfl (by decide) dX1_turnsAt_50 ?_
            refine x_iload_n 117 rfl dX1_turnsAt_116 2 rfl ?_
            refine x_aload_n 118 rfl dX1_turnsAt_117 0 rfl ?_
            refine x_get 121 rfl 0 2 rfl rfl (by decide) inX1_turnsAt_X1 flX1_turnsAt_28 rfl dX1_turnsAt_118 ?_
            refine x_callS0 124 rfl (c_X4_begins G came lf (by omega) (by omega)) (fun _ _ h => h.2) gX1_turnsAt_X4_begins rfl rfl rfl hd_X4_begins ⟨Nat.le_of_ble_eq_true rfl, Nat.le_of_ble_eq_true rfl⟩ (As := [.int (zI ((came : Nat) : Int)), .int (zI ((lf : Nat) : Int))]) (rest := []) rfl rfl (Nat.le_of_ble_eq_true rfl) dX1_turnsAt_121 ⟨Nat.zero_le _, Nat.zero_le _⟩ (fun v hq => ?_)
            obtain ⟨rfl, -⟩ := hq
            refine x_int (y := (zB (tAt ear own lf asl whi came))) (congrArg zB (tAt_h h4 c1 l1 (by omega)).symm) ?_
            refine x_zret rfl ?_ dX1_turnsAt_124
            exact ⟨rfl, rfl⟩
          · refine x_tsw 3 (tgt := 94) hs50 (by decide) (by decide) rfl (by decide) dX1_turnsAt_50 ?_
            refine x_aload_n 95 rfl dX1_turnsAt_94 0 rfl ?_
            refine x_iload_n 96 rfl dX1_turnsAt_95 2 rfl ?_
            refine x_callV 99 rfl (c_X1_turnsLisping G q ear own lf asl came hc' hl') [0] rfl (by decide) 0 rfl rfl gX1_turnsAt_X1_turnsLisping rfl rfl rfl hd_X1_turnsLisping ⟨Nat.le_of_ble_eq_true rfl, Nat.le_of_ble_eq_true rfl⟩ (As := [.int (zI ((came : Nat) : Int))]) (rest := []) rfl rfl (Nat.le_of_ble_eq_true rfl) dX1_turnsAt_96 ⟨Nat.zero_le _, Nat.zero_le _⟩ (fun v w hq => ?_)
            obtain ⟨rfl, rfl⟩ := hq
            refine ⟨rfl, ?_⟩
            refine x_ws (ws' := [(q, .inr (1, [.int (zI ((ear : Nat) : Int)), .int (zI ((own : Nat) : Int)), .int (zI ((lf : Nat) : Int)), .int (zB asl)]))]) (rfl) ?_
            refine x_bif_ne 102 rfl (tgt := 110) dX1_turnsAt_99 (by decide) (fun h99 => ?_) (fun h99 => ?_)
            · have h99 := of_decide_eq_true h99
              refine x_iconst 111 rfl dX1_turnsAt_110 (z := 1) (by decide) ?_
              refine x_goto dX1_turnsAt_111 (tgt := 115) (by decide) ?_
              refine x_int (y := zB (tAt ear own lf asl whi came)) (zB_t (by rw [tAt_m h4 c1 l1 (by omega)]; exact decide_eq_true (by omega))) ?_
              refine x_zret rfl ?_ dX1_turnsAt_115
              exact ⟨rfl, rfl⟩
            · have h99 := of_decide_eq_false h99
              refine x_aload_n 103 rfl dX1_turnsAt_102 0 rfl ?_
              refine x_iload_n 104 rfl dX1_turnsAt_103 2 rfl ?_
              refine x_callV 107 rfl (c_X1_mocks G q ear own lf asl came hc' hl') [0] rfl (by decide) 0 rfl rfl gX1_turnsAt_X1_mocks rfl rfl rfl hd_X1_mocks ⟨Nat.le_of_ble_eq_true rfl, Nat.le_of_ble_eq_true rfl⟩ (As := [.int (zI ((came : Nat) : Int))]) (rest := []) rfl rfl (Nat.le_of_ble_eq_true rfl) dX1_turnsAt_104 ⟨Nat.zero_le _, Nat.zero_le _⟩ (fun v w hq => ?_)
              obtain ⟨rfl, rfl⟩ := hq
              refine ⟨rfl, ?_⟩
              refine x_ws (ws' := [(q, .inr (1, [.int (zI ((ear : Nat) : Int)), .int (zI ((own : Nat) : Int)), .int (zI ((lf : Nat) : Int)), .int (zB asl)]))]) (rfl) ?_
              refine x_bif_eq 110 rfl (tgt := 114) dX1_turnsAt_107 (by decide) (fun h107 => ?_) (fun h107 => ?_)
              · have h107 := of_decide_eq_false h107
                refine x_iconst 115 rfl dX1_turnsAt_114 (z := 0) (by decide) ?_
                refine x_int (y := zB (tAt ear own lf asl whi came)) (zB_f (by rw [tAt_m h4 c1 l1 (by omega)]; exact decide_eq_false (by omega))) ?_
                refine x_zret rfl ?_ dX1_turnsAt_115
                exact ⟨rfl, rfl⟩
              · have h107 := of_decide_eq_true h107
                refine x_iconst 111 rfl dX1_turnsAt_110 (z := 1) (by decide) ?_
                refine x_goto dX1_turnsAt_111 (tgt := 115) (by decide) ?_
                refine x_int (y := zB (tAt ear own lf asl whi came)) (zB_t (by rw [tAt_m h4 c1 l1 (by omega)]; exact decide_eq_true (by omega))) ?_
                refine x_zret rfl ?_ dX1_turnsAt_115
                exact ⟨rfl, rfl⟩
          · refine x_tsw 4 (tgt := 125) hs50 (by decide) (by decide) rfl (by decide) dX1_turnsAt_50 ?_
            refine x_iload_n 126 rfl dX1_turnsAt_125 2 rfl ?_
            refine x_aload_n 127 rfl dX1_turnsAt_126 0 rfl ?_
            refine x_get 130 rfl 0 2 rfl rfl (by decide) inX1_turnsAt_X1 flX1_turnsAt_28 rfl dX1_turnsAt_127 ?_
            refine x_icmp_ne 133 rfl (tgt := 137) dX1_turnsAt_130 (by decide) (by omega) (by omega) (fun h130 => ?_) (fun h130 => ?_)
            · skip
              refine x_iconst 138 rfl dX1_turnsAt_137 (z := 0) (by decide) ?_
              refine x_int (y := zB (tAt ear own lf asl whi came)) (zB_f (by rw [tAt_p h4 c1 l1 (by omega)]; exact decide_eq_false (by omega))) ?_
              refine x_zret rfl ?_ dX1_turnsAt_138
              exact ⟨rfl, rfl⟩
            · skip
              refine x_iconst 134 rfl dX1_turnsAt_133 (z := 1) (by decide) ?_
              refine x_goto dX1_turnsAt_134 (tgt := 138) (by decide) ?_
              refine x_int (y := zB (tAt ear own lf asl whi came)) (zB_t (by rw [tAt_p h4 c1 l1 (by omega)]; exact decide_eq_true (by omega))) ?_
              refine x_zret rfl ?_ dX1_turnsAt_138
              exact ⟨rfl, rfl⟩
          · refine x_tsw 5 (tgt := 116) hs50 (by decide) (by decide) rfl (by decide) dX1_turnsAt_50 ?_
            refine x_iload_n 117 rfl dX1_turnsAt_116 2 rfl ?_
            refine x_aload_n 118 rfl dX1_turnsAt_117 0 rfl ?_
            refine x_get 121 rfl 0 2 rfl rfl (by decide) inX1_turnsAt_X1 flX1_turnsAt_28 rfl dX1_turnsAt_118 ?_
            refine x_callS0 124 rfl (c_X4_begins G came lf (by omega) (by omega)) (fun _ _ h => h.2) gX1_turnsAt_X4_begins rfl rfl rfl hd_X4_begins ⟨Nat.le_of_ble_eq_true rfl, Nat.le_of_ble_eq_true rfl⟩ (As := [.int (zI ((came : Nat) : Int)), .int (zI ((lf : Nat) : Int))]) (rest := []) rfl rfl (Nat.le_of_ble_eq_true rfl) dX1_turnsAt_121 ⟨Nat.zero_le _, Nat.zero_le _⟩ (fun v hq => ?_)
            obtain ⟨rfl, -⟩ := hq
            refine x_int (y := (zB (tAt ear own lf asl whi came))) (congrArg zB (tAt_h h4 c1 l1 (by omega)).symm) ?_
            refine x_zret rfl ?_ dX1_turnsAt_124
            exact ⟨rfl, rfl⟩
        · skip
          refine x_iconst 45 rfl dX1_turnsAt_44 (z := 0) (by decide) ?_
          refine x_int (y := zB (tAt ear own lf asl whi came)) (zB_f (by rw [tAt_n h4 (by omega) (by omega)])) ?_
          refine x_zret rfl ?_ dX1_turnsAt_45
          exact ⟨rfl, rfl⟩
    · skip
      refine x_iload_n 18 rfl dX1_turnsAt_17 1 rfl ?_
      refine x_aload_n 19 rfl dX1_turnsAt_18 0 rfl ?_
      refine x_get 22 rfl 0 1 rfl rfl (by decide) inX1_turnsAt_X1 flX1_turnsAt_15 rfl dX1_turnsAt_19 ?_
      refine x_icmp_ne 25 rfl (tgt := 29) dX1_turnsAt_22 (by decide) (by omega) (by omega) (fun h22 => ?_) (fun h22 => ?_)
      · skip
        refine x_iconst 30 rfl dX1_turnsAt_29 (z := 0) (by decide) ?_
        refine x_int (y := zB (tAt ear own lf asl whi came)) (zB_f (by rw [tAt_b h4 (by omega)]; exact decide_eq_false (by omega))) ?_
        refine x_zret rfl ?_ dX1_turnsAt_30
        exact ⟨rfl, rfl⟩
      · skip
        refine x_iconst 26 rfl dX1_turnsAt_25 (z := 1) (by decide) ?_
        refine x_goto dX1_turnsAt_26 (tgt := 30) (by decide) ?_
        refine x_int (y := zB (tAt ear own lf asl whi came)) (zB_t (by rw [tAt_b h4 (by omega)]; exact decide_eq_true (by omega))) ?_
        refine x_zret rfl ?_ dX1_turnsAt_30
        exact ⟨rfl, rfl⟩
  · skip
    refine x_iconst 8 rfl dX1_turnsAt_7 (z := 0) (by decide) ?_
    refine x_int (y := zB (tAt ear own lf asl whi came)) (zB_f (by rw [tAt_s h4])) ?_
    refine x_zret rfl ?_ dX1_turnsAt_8
    exact ⟨rfl, rfl⟩

