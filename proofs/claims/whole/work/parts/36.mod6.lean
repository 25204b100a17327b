theorem hd_X7_isAt : yX7_isAt.cls = RX7 ∧ yX7_isAt.cls ≠ "java/lang/invoke/MethodHandle" ∧ yX7_isAt.cls ≠ "java/lang/invoke/VarHandle" ∧ (parseMethodDescriptor yX7_isAt.desc).map (fun d => d.parameters.length) = some 2 := by decide +kernel
theorem hd_X7_verbOf : yX7_verbOf.cls ≠ "java/lang/invoke/MethodHandle" ∧ yX7_verbOf.cls ≠ "java/lang/invoke/VarHandle" ∧ (parseMethodDescriptor yX7_verbOf.desc).map (fun d => d.parameters.length) = some 1 := by decide +kernel
theorem hd_X7_scans : yX7_scans.cls = RX7 ∧ yX7_scans.cls ≠ "java/lang/invoke/MethodHandle" ∧ yX7_scans.cls ≠ "java/lang/invoke/VarHandle" ∧ (parseMethodDescriptor yX7_scans.desc).map (fun d => d.parameters.length) = some 0 := by decide +kernel
theorem hd_X7_clear : yX7_clear.cls = RX7 ∧ yX7_clear.cls ≠ "java/lang/invoke/MethodHandle" ∧ yX7_clear.cls ≠ "java/lang/invoke/VarHandle" ∧ (parseMethodDescriptor yX7_clear.desc).map (fun d => d.parameters.length) = some 0 := by decide +kernel
theorem hd_X7_type : yX7_type.cls = RX7 ∧ yX7_type.cls ≠ "java/lang/invoke/MethodHandle" ∧ yX7_type.cls ≠ "java/lang/invoke/VarHandle" ∧ (parseMethodDescriptor yX7_type.desc).map (fun d => d.parameters.length) = some 2 := by decide +kernel
abbrev P_X7_isAt (G : XG) (mo : Nat) (ad : Nat → Nat) (qt : Bool) (sc : Nat → Int) (tx : Nat → Int) (L : Nat) (a : Nat) (lo : Int) (hi : Int) : Option Value → va_W → Prop := fun r w => r = some (.int (zB (decide (a < L ∧ (lo ≤ tx a ∧ tx a ≤ hi))))) ∧ w = [(mo, moE ad qt (zup (zup sc 0 ((L : Nat) : Int)) 1 ((a : Nat) : Int))), (ad 5, aI G 200 tx)]
abbrev W_X7_isAt (G : XG) (E : XE) (mo : Nat) (ad : Nat → Nat) (qt : Bool) (sc : Nat → Int) (tx : Nat → Int) (L : Nat) (a : Nat) (lo : Int) (hi : Int) (pc : Nat) (lv : List (Nat × Value)) (st : List Value) (ws : va_W) : Prop := Wx G E (rmL 1) cX7_isAt 3 RX7 wsX7_isAt (some .boolean) "isAt" 0 0 (P_X7_isAt G mo ad qt sc tx L a lo hi) 0 0 pc lv st ws
theorem flX7_isAt_26 : Cond.fieldLink RX7 26 (TX7 6).1 (TX7 6).2.1 (TX7 6).2.2.1 ∈ wsX7_isAt := by decide +kernel
theorem flX7_isAt_131 : Cond.fieldLink RX7 131 (TX7 7).1 (TX7 7).2.1 (TX7 7).2.2.1 ∈ wsX7_isAt := by decide +kernel
theorem flX7_isAt_137 : Cond.fieldLink RX7 137 (TX7 8).1 (TX7 8).2.1 (TX7 8).2.2.1 ∈ wsX7_isAt := by decide +kernel
theorem inX7_isAt_X7 : ∀ w ∈ u_ws RX7 TX7 18, w ∈ wsX7_isAt := fun _ h => List.mem_cons_of_mem _ (List.mem_append_right _ h)
set_option maxHeartbeats 4000000 in
set_option maxRecDepth 100000 in
/-- isAt -/
theorem c_X7_isAt (G : XG) (mo : Nat) (ad : Nat → Nat) (qt : Bool) (sc : Nat → Int) (tx : Nat → Int) (L a : Nat) (hL : L ≤ 200) (ha : a ≤ L) (ht : ∀ j, j < L → 0 ≤ tx j ∧ tx j ≤ 255) (lo hi : Int) (h1 : Z32 lo) (h2 : Z32 hi) : Con G yX7_isAt wsX7_isAt (rmL 1) 0 0 [.ref mo, .int (zI lo), .int (zI hi)] ([(mo, moE ad qt (zup (zup sc 0 ((L : Nat) : Int)) 1 ((a : Nat) : Int))), (ad 5, aI G 200 tx)]) (P_X7_isAt G mo ad qt sc tx L a lo hi) := by
  refine x_start (cc := cX7_isAt) (nL := 3) (ret := (some .boolean)) (by decide) rfl (Nat.le_of_ble_eq_true rfl) (fun E => ?_)
  show W_X7_isAt G E mo ad qt sc tx L a lo hi 0 [(0, .ref mo), (1, .int (zI lo)), (2, .int (zI hi))] [] ([(mo, moE ad qt (zup (zup sc 0 ((L : Nat) : Int)) 1 ((a : Nat) : Int))), (ad 5, aI G 200 tx)])
  refine x_aload_n 1 rfl dX7_isAt_0 0 rfl ?_
  refine x_get 4 rfl (v := .int (zI ((a : Nat) : Int))) 0 8 rfl rfl (by decide) inX7_isAt_X7 flX7_isAt_137 rfl dX7_isAt_1 ?_
  refine x_aload_n 5 rfl dX7_isAt_4 0 rfl ?_
  refine x_get 8 rfl (v := .int (zI ((L : Nat) : Int))) 0 7 rfl rfl (by decide) inX7_isAt_X7 flX7_isAt_131 rfl dX7_isAt_5 ?_
  refine x_icmp_ge 11 rfl (tgt := 35) dX7_isAt_8 (by decide) (by omega) (by omega) (fun h8 => ?_) (fun h8 => ?_)
  · skip
    refine x_iconst 36 rfl dX7_isAt_35 (z := 0) (by decide) ?_
    refine x_int (y := zB (decide (a < L ∧ (lo ≤ tx a ∧ tx a ≤ hi)))) (zB_n (by omega)) ?_
    refine x_zret rfl ?_ dX7_isAt_36
    exact ⟨rfl, rfl⟩
  · skip
    refine x_aload_n 12 rfl dX7_isAt_11 0 rfl ?_
    refine x_get 15 rfl (v := .ref (ad 5)) 0 6 rfl rfl (by decide) inX7_isAt_X7 flX7_isAt_26 rfl dX7_isAt_12 ?_
    refine x_aload_n 16 rfl dX7_isAt_15 0 rfl ?_
    refine x_get 19 rfl (v := .int (zI ((a : Nat) : Int))) 0 8 rfl rfl (by decide) inX7_isAt_X7 flX7_isAt_137 rfl dX7_isAt_16 ?_
    have htx := ht a (by omega)
    refine x_iald 20 rfl 1 a rfl (⟨by omega, by omega⟩) (by decide) (v := tx a) (rfl) dX7_isAt_19 ?_
    refine x_i2l 21 rfl dX7_isAt_20 (z := (zL (tx a))) (zI_i2l (by omega)) ?_
    refine x_iload_n 22 rfl dX7_isAt_21 1 rfl ?_
    refine x_i2l 23 rfl dX7_isAt_22 (z := (zL lo)) (zI_i2l (by omega)) ?_
    refine x_iload_n 24 rfl dX7_isAt_23 2 rfl ?_
    refine x_i2l 25 rfl dX7_isAt_24 (z := (zL hi)) (zI_i2l (by omega)) ?_
    refine x_callS0 28 rfl (c_X7_in G (tx a) lo hi (by omega) (by omega) (by omega)) (fun _ _ h => h.2) gX7_isAt_X7_in rfl rfl rfl hd_X7_in ⟨Nat.le_of_ble_eq_true rfl, Nat.le_of_ble_eq_true rfl⟩ (As := [.long (zL (tx a)), .long (zL lo), .long (zL hi)]) (rest := []) rfl rfl (Nat.le_of_ble_eq_true rfl) dX7_isAt_25 ⟨Nat.zero_le _, Nat.zero_le _⟩ (fun v hq => ?_)
    obtain ⟨rfl, -⟩ := hq
    refine x_bif_eq 31 rfl (tgt := 35) dX7_isAt_28 (by decide) (fun h28 => ?_) (fun h28 => ?_)
    · have h28 := of_decide_eq_false h28
      refine x_iconst 36 rfl dX7_isAt_35 (z := 0) (by decide) ?_
      refine x_int (y := zB (decide (a < L ∧ (lo ≤ tx a ∧ tx a ≤ hi)))) (zB_n (by omega)) ?_
      refine x_zret rfl ?_ dX7_isAt_36
      exact ⟨rfl, rfl⟩
    · have h28 := of_decide_eq_true h28
      refine x_iconst 32 rfl dX7_isAt_31 (z := 1) (by decide) ?_
      refine x_goto dX7_isAt_32 (tgt := 36) (by decide) ?_
      refine x_int (y := zB (decide (a < L ∧ (lo ≤ tx a ∧ tx a ≤ hi)))) (zB_d (by omega)) ?_
      refine x_zret rfl ?_ dX7_isAt_36
      exact ⟨rfl, rfl⟩

abbrev P_X7_verbOf (G : XG) (v : Int) : Option Value → va_W → Prop := fun r w => r = some (.int (zI (vbN v))) ∧ w = []
abbrev W_X7_verbOf (G : XG) (E : XE) (v : Int) (pc : Nat) (lv : List (Nat × Value)) (st : List Value) (ws : va_W) : Prop := Wx G E (rmL 0) cX7_verbOf 2 RX7 wsX7_verbOf (some .int) "verbOf" 0 0 (P_X7_verbOf G v) 0 0 pc lv st ws
theorem wX7_verbOf_cl140 : Cond.constantLong RX7 140 (zL 8554067) ∈ wsX7_verbOf := by decide +kernel
theorem wX7_verbOf_cl142 : Cond.constantLong RX7 142 (zL 15813) ∈ wsX7_verbOf := by decide +kernel
theorem wX7_verbOf_cl144 : Cond.constantLong RX7 144 (zL 136228) ∈ wsX7_verbOf := by decide +kernel
set_option maxHeartbeats 4000000 in
set_option maxRecDepth 100000 in
/-- verbOf -/
theorem c_X7_verbOf (G : XG) (v : Int) (hv : Z32 v) : Con G yX7_verbOf wsX7_verbOf (rmL 0) 0 0 [.long (zL v)] ([]) (P_X7_verbOf G v) := by
  refine x_start (cc := cX7_verbOf) (nL := 2) (ret := (some .int)) (by decide) rfl (Nat.le_of_ble_eq_true rfl) (fun E => ?_)
  show W_X7_verbOf G E v 0 [(0, .long (zL v))] [] ([])
  refine x_lload_n 1 rfl dX7_verbOf_0 0 rfl ?_
  refine x_ldc2 4 rfl (v := zL 8554067) wX7_verbOf_cl140 dX7_verbOf_1 ?_
  refine x_lcmp 5 rfl dX7_verbOf_4 (z := cmZ v 8554067) (zL_cmp (by omega) (by omega)) ?_
  refine x_if_ne 8 rfl (tgt := 12) dX7_verbOf_5 (by decide) (by unfold cmZ; (repeat' split) <;> omega) (fun h5 => ?_) (fun h5 => ?_)
  · skip
    have h5 : v ≠ 8554067 := by unfold cmZ at h5; (repeat' split at h5) <;> omega
    refine x_lload_n 13 rfl dX7_verbOf_12 0 rfl ?_
    refine x_ldc2 16 rfl (v := zL 15813) wX7_verbOf_cl142 dX7_verbOf_13 ?_
    refine x_lcmp 17 rfl dX7_verbOf_16 (z := cmZ v 15813) (zL_cmp (by omega) (by omega)) ?_
    refine x_if_ne 20 rfl (tgt := 24) dX7_verbOf_17 (by decide) (by unfold cmZ; (repeat' split) <;> omega) (fun h17 => ?_) (fun h17 => ?_)
    · skip
      have h17 : v ≠ 15813 := by unfold cmZ at h17; (repeat' split at h17) <;> omega
      refine x_lload_n 25 rfl dX7_verbOf_24 0 rfl ?_
      refine x_ldc2 28 rfl (v := zL 136228) wX7_verbOf_cl144 dX7_verbOf_25 ?_
      refine x_lcmp 29 rfl dX7_verbOf_28 (z := cmZ v 136228) (zL_cmp (by omega) (by omega)) ?_
      refine x_if_ne 32 rfl (tgt := 36) dX7_verbOf_29 (by decide) (by unfold cmZ; (repeat' split) <;> omega) (fun h29 => ?_) (fun h29 => ?_)
      · skip
        have h29 : v ≠ 136228 := by unfold cmZ at h29; (repeat' split at h29) <;> omega
        refine x_iconst 37 rfl dX7_verbOf_36 (z := (-1)) (by decide) ?_
        refine x_iret rfl ?_ dX7_verbOf_37
        exact ⟨by rw [show vbN v = -1 by unfold vbN; rw [if_neg h5, if_neg h17, if_neg h29]], rfl⟩
      · skip
        have h29 : v = 136228 := by unfold cmZ at h29; (repeat' split at h29) <;> omega
        refine x_iconst 33 rfl dX7_verbOf_32 (z := 2) (by decide) ?_
        refine x_goto dX7_verbOf_33 (tgt := 37) (by decide) ?_
        refine x_iret rfl ?_ dX7_verbOf_37
        exact ⟨by rw [show vbN v = 2 by unfold vbN; rw [if_neg h5, if_neg h17, if_pos h29]], rfl⟩
    · skip
      have h17 : v = 15813 := by unfold cmZ at h17; (repeat' split at h17) <;> omega
      refine x_iconst 21 rfl dX7_verbOf_20 (z := 1) (by decide) ?_
      refine x_goto dX7_verbOf_21 (tgt := 37) (by decide) ?_
      refine x_iret rfl ?_ dX7_verbOf_37
      exact ⟨by rw [show vbN v = 1 by unfold vbN; rw [if_neg h5, if_pos h17]], rfl⟩
  · skip
    have h5 : v = 8554067 := by unfold cmZ at h5; (repeat' split at h5) <;> omega
    refine x_iconst 9 rfl dX7_verbOf_8 (z := 0) (by decide) ?_
    refine x_goto dX7_verbOf_9 (tgt := 37) (by decide) ?_
    refine x_iret rfl ?_ dX7_verbOf_37
    exact ⟨by rw [show vbN v = 0 by unfold vbN; rw [if_pos h5]], rfl⟩

abbrev P_X7_scans (G : XG) (mo : Nat) (ad : Nat → Nat) (qt : Bool) (sc : Nat → Int) (tx : Nat → Int) (L : Nat) (a : Nat) : Option Value → va_W → Prop := fun r w => ∃ v' : Int, r = none ∧ w = [(mo, moE ad qt (zup (zup (zup (zup (zup sc 0 ((L : Nat) : Int)) 1 ((tokE tx L a : Nat) : Int)) 2 ((tokS tx L a : Nat) : Int)) 3 ((tokK tx L a : Nat) : Int)) 4 v')), (ad 5, aI G 200 tx)] ∧ (tokK tx L a = 2 → v' = ((tokV tx L a : Nat) : Int))
abbrev W_X7_scans (G : XG) (E : XE) (mo : Nat) (ad : Nat → Nat) (qt : Bool) (sc : Nat → Int) (tx : Nat → Int) (L : Nat) (a : Nat) (pc : Nat) (lv : List (Nat × Value)) (st : List Value) (ws : va_W) : Prop := Wx G E (rmL 2) cX7_scans 3 RX7 wsX7_scans none "scans" 0 0 (P_X7_scans G mo ad qt sc tx L a) 0 0 pc lv st ws
theorem flX7_scans_26 : Cond.fieldLink RX7 26 (TX7 6).1 (TX7 6).2.1 (TX7 6).2.2.1 ∈ wsX7_scans := by decide +kernel
theorem flX7_scans_131 : Cond.fieldLink RX7 131 (TX7 7).1 (TX7 7).2.1 (TX7 7).2.2.1 ∈ wsX7_scans := by decide +kernel
theorem flX7_scans_137 : Cond.fieldLink RX7 137 (TX7 8).1 (TX7 8).2.1 (TX7 8).2.2.1 ∈ wsX7_scans := by decide +kernel
theorem flX7_scans_150 : Cond.fieldLink RX7 150 (TX7 9).1 (TX7 9).2.1 (TX7 9).2.2.1 ∈ wsX7_scans := by decide +kernel
theorem flX7_scans_153 : Cond.fieldLink RX7 153 (TX7 10).1 (TX7 10).2.1 (TX7 10).2.2.1 ∈ wsX7_scans := by decide +kernel
theorem flX7_scans_164 : Cond.fieldLink RX7 164 (TX7 11).1 (TX7 11).2.1 (TX7 11).2.2.1 ∈ wsX7_scans := by decide +kernel
theorem inX7_scans_X7 : ∀ w ∈ u_ws RX7 TX7 18, w ∈ wsX7_scans := fun _ h => List.mem_cons_of_mem _ (List.mem_append_right _ h)
theorem wX7_scans_cl156 : Cond.constantLong RX7 156 (zL 32) ∈ wsX7_scans := by decide +kernel
theorem wX7_scans_cl158 : Cond.constantLong RX7 158 (zL 97) ∈ wsX7_scans := by decide +kernel
set_option maxHeartbeats 4000000 in
set_option maxRecDepth 100000 in
/-- scans -/
theorem c_X7_scans (G : XG) (mo : Nat) (ad : Nat → Nat) (qt : Bool) (sc : Nat → Int) (tx : Nat → Int) (L a : Nat) (hL : L ≤ 200) (ha : a ≤ L) (ht : ∀ j, j < L → 0 ≤ tx j ∧ tx j ≤ 255)  : Con G yX7_scans wsX7_scans (rmL 2) 0 0 [.ref mo] ([(mo, moE ad qt (zup (zup sc 0 ((L : Nat) : Int)) 1 ((a : Nat) : Int))), (ad 5, aI G 200 tx)]) (P_X7_scans G mo ad qt sc tx L a) := by
  refine x_start (cc := cX7_scans) (nL := 3) (ret := none) (by decide) rfl (Nat.le_of_ble_eq_true rfl) (fun E => ?_)
  show W_X7_scans G E mo ad qt sc tx L a 0 [(0, .ref mo)] [] ([(mo, moE ad qt (zup (zup sc 0 ((L : Nat) : Int)) 1 ((a : Nat) : Int))), (ad 5, aI G 200 tx)])
  have L0 : ∀ (f0 : Nat) (p : Nat) (hp : p ≤ L) (hS : runE blk tx L a = runE blk tx L p), L - p < f0 → W_X7_scans G E mo ad qt sc tx L a 0 [(0, .ref mo)] [] ([(mo, moE ad qt (zup (zup sc 0 ((L : Nat) : Int)) 1 ((p : Nat) : Int))), (ad 5, aI G 200 tx)]) := by
    intro f0
    induction f0 with
    | zero => intro p hp hS hf0; exact absurd hf0 (Nat.not_lt_zero _)
    | succ f0 ih0 =>
      intro p hp hS hf0
      refine x_aload_n 1 rfl dX7_scans_0 0 rfl ?_
      refine x_bipush 3 rfl dX7_scans_1 (z := 32) (by decide) ?_
      refine x_bipush 5 rfl dX7_scans_3 (z := 32) (by decide) ?_
      refine x_callV 8 rfl (c_X7_isAt G mo ad qt (zup (zup sc 0 ((L : Nat) : Int)) 1 ((p : Nat) : Int)) tx L p hL (by omega) ht 32 32 (by decide) (by decide)) [0, 1] rfl (by decide) 0 rfl rfl gX7_scans_X7_isAt rfl rfl rfl hd_X7_isAt ⟨Nat.le_of_ble_eq_true rfl, Nat.le_of_ble_eq_true rfl⟩ (As := [.int (zI 32), .int (zI 32)]) (rest := []) rfl rfl (Nat.le_of_ble_eq_true rfl) dX7_scans_5 ⟨Nat.zero_le _, Nat.zero_le _⟩ (fun v w hq => ?_)
      obtain ⟨rfl, rfl⟩ := hq
      refine ⟨rfl, ?_⟩
      refine x_ws (ws' := [(mo, moE ad qt (zup (zup sc 0 ((L : Nat) : Int)) 1 ((p : Nat) : Int))), (ad 5, aI G 200 tx)]) (rfl) ?_
      refine x_bif_eq 11 rfl (tgt := 24) dX7_scans_8 (by decide) (fun h8 => ?_) (fun h8 => ?_)
      · have h8 := of_decide_eq_false h8
        have hSp : tokS tx L a = p := by unfold tokS; rw [hS]; exact runE_f (fun hh => by have hq := of_decide_eq_true hh.2; omega)
        refine x_aload_n 25 rfl dX7_scans_24 0 rfl ?_
        refine x_aload_n 26 rfl dX7_scans_25 0 rfl ?_
        refine x_get 29 rfl (v := .int (zI ((p : Nat) : Int))) 0 8 rfl rfl (by decide) inX7_scans_X7 flX7_scans_137 rfl dX7_scans_26 ?_
        refine x_put 32 rfl 0 9 rfl rfl (by decide) inX7_scans_X7 flX7_scans_150 tyX7_ok nmX7 rfl rfl rfl rfl (Nat.le_of_ble_eq_true rfl) (ws' := [(mo, moE ad qt (zup (zup (zup sc 0 ((L : Nat) : Int)) 1 ((p : Nat) : Int)) 2 ((p : Nat) : Int))), (ad 5, aI G 200 tx)]) rfl dX7_scans_29 ?_
        refine x_aload_n 33 rfl dX7_scans_32 0 rfl ?_
        refine x_get 36 rfl (v := .int (zI ((p : Nat) : Int))) 0 8 rfl rfl (by decide) inX7_scans_X7 flX7_scans_137 rfl dX7_scans_33 ?_
        refine x_aload_n 37 rfl dX7_scans_36 0 rfl ?_
        refine x_get 40 rfl (v := .int (zI ((L : Nat) : Int))) 0 7 rfl rfl (by decide) inX7_scans_X7 flX7_scans_131 rfl dX7_scans_37 ?_
        refine x_icmp_ne 43 rfl (tgt := 49) dX7_scans_40 (by decide) (by omega) (by omega) (fun h40 => ?_) (fun h40 => ?_)
        · skip
          refine x_aload_n 50 rfl dX7_scans_49 0 rfl ?_
          refine x_bipush 52 rfl dX7_scans_50 (z := 97) (by decide) ?_
          refine x_bipush 54 rfl dX7_scans_52 (z := 122) (by decide) ?_
          refine x_callV 57 rfl (c_X7_isAt G mo ad qt (zup (zup (zup sc 0 ((L : Nat) : Int)) 1 ((p : Nat) : Int)) 2 ((p : Nat) : Int)) tx L p hL (by omega) ht 97 122 (by decide) (by decide)) [0, 1] rfl (by decide) 0 rfl rfl gX7_scans_X7_isAt rfl rfl rfl hd_X7_isAt ⟨Nat.le_of_ble_eq_true rfl, Nat.le_of_ble_eq_true rfl⟩ (As := [.int (zI 97), .int (zI 122)]) (rest := []) rfl rfl (Nat.le_of_ble_eq_true rfl) dX7_scans_54 ⟨Nat.zero_le _, Nat.zero_le _⟩ (fun v w hq => ?_)
          obtain ⟨rfl, rfl⟩ := hq
          refine ⟨rfl, ?_⟩
          refine x_ws (ws' := [(mo, moE ad qt (zup (zup (zup sc 0 ((L : Nat) : Int)) 1 ((p : Nat) : Int)) 2 ((p : Nat) : Int))), (ad 5, aI G 200 tx)]) (rfl) ?_
          refine x_bif_eq 60 rfl (tgt := 162) dX7_scans_57 (by decide) (fun h57 => ?_) (fun h57 => ?_)
          · have h57 := of_decide_eq_false h57
            refine x_aload_n 163 rfl dX7_scans_162 0 rfl ?_
            refine x_bipush 165 rfl dX7_scans_163 (z := 48) (by decide) ?_
            refine x_bipush 167 rfl dX7_scans_165 (z := 57) (by decide) ?_
            refine x_callV 170 rfl (c_X7_isAt G mo ad qt (zup (zup (zup sc 0 ((L : Nat) : Int)) 1 ((p : Nat) : Int)) 2 ((p : Nat) : Int)) tx L p hL (by omega) ht 48 57 (by decide) (by decide)) [0, 1] rfl (by decide) 0 rfl rfl gX7_scans_X7_isAt rfl rfl rfl hd_X7_isAt ⟨Nat.le_of_ble_eq_true rfl, Nat.le_of_ble_eq_true rfl⟩ (As := [.int (zI 48), .int (zI 57)]) (rest := []) rfl rfl (Nat.le_of_ble_eq_true rfl) dX7_scans_167 ⟨Nat.zero_le _, Nat.zero_le _⟩ (fun v w hq => ?_)
            obtain ⟨rfl, rfl⟩ := hq
            refine ⟨rfl, ?_⟩
            refine x_ws (ws' := [(mo, moE ad qt (zup (zup (zup sc 0 ((L : Nat) : Int)) 1 ((p : Nat) : Int)) 2 ((p : Nat) : Int))), (ad 5, aI G 200 tx)]) (rfl) ?_
            refine x_bif_eq 173 rfl (tgt := 269) dX7_scans_170 (by decide) (fun h170 => ?_) (fun h170 => ?_)
            · have h170 := of_decide_eq_false h170
              refine x_aload_n 270 rfl dX7_scans_269 0 rfl ?_
              refine x_aload_n 271 rfl dX7_scans_270 0 rfl ?_
              refine x_bipush 273 rfl dX7_scans_271 (z := 59) (by decide) ?_
              refine x_bipush 275 rfl dX7_scans_273 (z := 59) (by decide) ?_
              refine x_callV 278 rfl (c_X7_isAt G mo ad qt (zup (zup (zup sc 0 ((L : Nat) : Int)) 1 ((p : Nat) : Int)) 2 ((p : Nat) : Int)) tx L p hL (by omega) ht 59 59 (by decide) (by decide)) [0, 1] rfl (by decide) 0 rfl rfl gX7_scans_X7_isAt rfl rfl rfl hd_X7_isAt ⟨Nat.le_of_ble_eq_true rfl, Nat.le_of_ble_eq_true rfl⟩ (As := [.int (zI 59), .int (zI 59)]) (rest := [.ref mo]) rfl rfl (Nat.le_of_ble_eq_true rfl) dX7_scans_275 ⟨Nat.zero_le _, Nat.zero_le _⟩ (fun v w hq => ?_)
              obtain ⟨rfl, rfl⟩ := hq
              refine ⟨rfl, ?_⟩
              refine x_ws (ws' := [(mo, moE ad qt (zup (zup (zup sc 0 ((L : Nat) : Int)) 1 ((p : Nat) : Int)) 2 ((p : Nat) : Int))), (ad 5, aI G 200 tx)]) (rfl) ?_
              refine x_bif_eq 281 rfl (tgt := 285) dX7_scans_278 (by decide) (fun h278 => ?_) (fun h278 => ?_)
              · have h278 := of_decide_eq_false h278
                refine x_iconst 286 rfl dX7_scans_285 (z := 1) (by decide) ?_
                refine x_put 289 rfl 0 10 rfl rfl (by decide) inX7_scans_X7 flX7_scans_153 tyX7_ok nmX7 rfl rfl rfl rfl (Nat.le_of_ble_eq_true rfl) (ws' := [(mo, moE ad qt (zup (zup (zup (zup sc 0 ((L : Nat) : Int)) 1 ((p : Nat) : Int)) 2 ((p : Nat) : Int)) 3 1)), (ad 5, aI G 200 tx)]) rfl dX7_scans_286 ?_
                refine x_aload_n 290 rfl dX7_scans_289 0 rfl ?_
                refine x_dup 291 rfl dX7_scans_290 rfl ?_
                refine x_get 294 rfl (v := .int (zI ((p : Nat) : Int))) 0 8 rfl rfl (by decide) inX7_scans_X7 flX7_scans_137 rfl dX7_scans_291 ?_
                refine x_iconst 295 rfl dX7_scans_294 (z := 1) (by decide) ?_
                refine x_iadd 296 rfl dX7_scans_295 (z := ((p + 1 : Nat) : Int)) (by omega) ?_
                refine x_put 299 rfl 0 8 rfl rfl (by decide) inX7_scans_X7 flX7_scans_137 tyX7_ok nmX7 rfl rfl rfl rfl (Nat.le_of_ble_eq_true rfl) (ws' := [(mo, moE ad qt (zup (zup (zup (zup sc 0 ((L : Nat) : Int)) 1 ((p + 1 : Nat) : Int)) 2 ((p : Nat) : Int)) 3 1)), (ad 5, aI G 200 tx)]) rfl dX7_scans_296 ?_
                refine x_vret rfl ?_ dX7_scans_299
                have eS : tokS tx L a = p := hSp
                have eE : tokE tx L a = p + 1 := by unfold tokE; rw [eS]; unfold tkE; rw [if_neg (by omega), if_neg (ltr_f (by omega)), if_neg (fig_f (by omega))]
                have eK : tokK tx L a = 1 := by unfold tokK; rw [eS]; unfold tkK; rw [if_neg (by omega), if_neg (ltr_f (by omega)), if_neg (fig_f (by omega))]; rw [if_neg (by omega)]
                exact ⟨sc 4, rfl, by rw [eS, eE, eK]; rfl, (by rw [eK]; intro h; exact absurd h (by omega))⟩
              · have h278 := of_decide_eq_true h278
                refine x_iconst 282 rfl dX7_scans_281 (z := 3) (by decide) ?_
                refine x_goto dX7_scans_282 (tgt := 286) (by decide) ?_
                refine x_put 289 rfl 0 10 rfl rfl (by decide) inX7_scans_X7 flX7_scans_153 tyX7_ok nmX7 rfl rfl rfl rfl (Nat.le_of_ble_eq_true rfl) (ws' := [(mo, moE ad qt (zup (zup (zup (zup sc 0 ((L : Nat) : Int)) 1 ((p : Nat) : Int)) 2 ((p : Nat) : Int)) 3 3)), (ad 5, aI G 200 tx)]) rfl dX7_scans_286 ?_
                refine x_aload_n 290 rfl dX7_scans_289 0 rfl ?_
                refine x_dup 291 rfl dX7_scans_290 rfl ?_
                refine x_get 294 rfl (v := .int (zI ((p : Nat) : Int))) 0 8 rfl rfl (by decide) inX7_scans_X7 flX7_scans_137 rfl dX7_scans_291 ?_
                refine x_iconst 295 rfl dX7_scans_294 (z := 1) (by decide) ?_
                refine x_iadd 296 rfl dX7_scans_295 (z := ((p + 1 : Nat) : Int)) (by omega) ?_
                refine x_put 299 rfl 0 8 rfl rfl (by decide) inX7_scans_X7 flX7_scans_137 tyX7_ok nmX7 rfl rfl rfl rfl (Nat.le_of_ble_eq_true rfl) (ws' := [(mo, moE ad qt (zup (zup (zup (zup sc 0 ((L : Nat) : Int)) 1 ((p + 1 : Nat) : Int)) 2 ((p : Nat) : Int)) 3 3)), (ad 5, aI G 200 tx)]) rfl dX7_scans_296 ?_
                refine x_vret rfl ?_ dX7_scans_299
                have eS : tokS tx L a = p := hSp
                have eE : tokE tx L a = p + 1 := by unfold tokE; rw [eS]; unfold tkE; rw [if_neg (by omega), if_neg (ltr_f (by omega)), if_neg (fig_f (by omega))]
                have eK : tokK tx L a = 3 := by unfold tokK; rw [eS]; unfold tkK; rw [if_neg (by omega), if_neg (ltr_f (by omega)), if_neg (fig_f (by omega))]; rw [if_pos (by omega)]
                exact ⟨sc 4, rfl, by rw [eS, eE, eK]; rfl, (by rw [eK]; intro h; exact absurd h (by omega))⟩
            · have h170 := of_decide_eq_true h170
              refine x_aload_n 174 rfl dX7_scans_173 0 rfl ?_
              refine x_iconst 175 rfl dX7_scans_174 (z := 0) (by decide) ?_
              refine x_put 178 rfl 0 11 rfl rfl (by decide) inX7_scans_X7 flX7_scans_164 tyX7_ok nmX7 rfl rfl rfl rfl (Nat.le_of_ble_eq_true rfl) (ws' := [(mo, moE ad qt (zup (zup (zup (zup sc 0 ((L : Nat) : Int)) 1 ((p : Nat) : Int)) 2 ((p : Nat) : Int)) 4 0)), (ad 5, aI G 200 tx)]) rfl dX7_scans_175 ?_
              have L178 : ∀ (f178 : Nat) (e : Nat) (w : Int) (he1 : p ≤ e) (he : e ≤ L) (hR : runE fig tx L p = runE fig tx L e) (hin : ∀ i, p ≤ i → i < e → 48 ≤ tx i ∧ tx i ≤ 57) (hw : e - p ≤ 4 → w = ((nvN tx p (e - p) : Nat) : Int)), L - e < f178 → W_X7_scans G E mo ad qt sc tx L a 178 [(0, .ref mo)] [] ([(mo, moE ad qt (zup (zup (zup (zup sc 0 ((L : Nat) : Int)) 1 ((e : Nat) : Int)) 2 ((p : Nat) : Int)) 4 w)), (ad 5, aI G 200 tx)]) := by
                intro f178
                induction f178 with
                | zero => intro e w he1 he hR hin hw hf178; exact absurd hf178 (Nat.not_lt_zero _)
                | succ f178 ih178 =>
                  intro e w he1 he hR hin hw hf178
                  refine x_aload_n 179 rfl dX7_scans_178 0 rfl ?_
                  refine x_bipush 181 rfl dX7_scans_179 (z := 48) (by decide) ?_
                  refine x_bipush 183 rfl dX7_scans_181 (z := 57) (by decide) ?_
                  refine x_callV 186 rfl (c_X7_isAt G mo ad qt (zup (zup (zup (zup sc 0 ((L : Nat) : Int)) 1 ((e : Nat) : Int)) 2 ((p : Nat) : Int)) 4 w) tx L e hL (by omega) ht 48 57 (by decide) (by decide)) [0, 1] rfl (by decide) 0 rfl rfl gX7_scans_X7_isAt rfl rfl rfl hd_X7_isAt ⟨Nat.le_of_ble_eq_true rfl, Nat.le_of_ble_eq_true rfl⟩ (As := [.int (zI 48), .int (zI 57)]) (rest := []) rfl rfl (Nat.le_of_ble_eq_true rfl) dX7_scans_183 ⟨Nat.zero_le _, Nat.zero_le _⟩ (fun v w hq => ?_)
                  obtain ⟨rfl, rfl⟩ := hq
                  refine ⟨rfl, ?_⟩
                  refine x_ws (ws' := [(mo, moE ad qt (zup (zup (zup (zup sc 0 ((L : Nat) : Int)) 1 ((e : Nat) : Int)) 2 ((p : Nat) : Int)) 4 w)), (ad 5, aI G 200 tx)]) (rfl) ?_
                  refine x_bif_eq 189 rfl (tgt := 246) dX7_scans_186 (by decide) (fun h186 => ?_) (fun h186 => ?_)
                  · have h186 := of_decide_eq_false h186
                    have hEe : runE fig tx L p = e := by rw [hR]; exact runE_f (fun hh => by have hq := of_decide_eq_true hh.2; omega)
                    refine x_aload_n 247 rfl dX7_scans_246 0 rfl ?_
                    refine x_aload_n 248 rfl dX7_scans_247 0 rfl ?_
                    refine x_get 251 rfl (v := .int (zI ((e : Nat) : Int))) 0 8 rfl rfl (by decide) inX7_scans_X7 flX7_scans_137 rfl dX7_scans_248 ?_
                    refine x_aload_n 252 rfl dX7_scans_251 0 rfl ?_
                    refine x_get 255 rfl (v := .int (zI ((p : Nat) : Int))) 0 9 rfl rfl (by decide) inX7_scans_X7 flX7_scans_150 rfl dX7_scans_252 ?_
                    refine x_isub 256 rfl dX7_scans_255 (z := ((e : Nat) : Int) - ((p : Nat) : Int)) (rfl) ?_
                    refine x_iconst 257 rfl dX7_scans_256 (z := 4) (by decide) ?_
                    refine x_icmp_le 260 rfl (tgt := 264) dX7_scans_257 (by decide) (by omega) (by decide) (fun h257 => ?_) (fun h257 => ?_)
                    · skip
                      refine x_iconst 265 rfl dX7_scans_264 (z := 2) (by decide) ?_
                      refine x_put 268 rfl 0 10 rfl rfl (by decide) inX7_scans_X7 flX7_scans_153 tyX7_ok nmX7 rfl rfl rfl rfl (Nat.le_of_ble_eq_true rfl) (ws' := [(mo, moE ad qt (zup (zup (zup (zup (zup sc 0 ((L : Nat) : Int)) 1 ((e : Nat) : Int)) 2 ((p : Nat) : Int)) 3 2) 4 w)), (ad 5, aI G 200 tx)]) rfl dX7_scans_265 ?_
                      refine x_vret rfl ?_ dX7_scans_268
                      have eS : tokS tx L a = p := hSp
                      have eE : tokE tx L a = e := by unfold tokE; rw [eS]; unfold tkE; rw [if_neg (by omega), if_neg (ltr_f (by omega)), if_pos (fig_t (by omega)), hEe]
                      have eK : tokK tx L a = 2 := by unfold tokK; rw [eS]; unfold tkK; rw [if_neg (by omega), if_neg (ltr_f (by omega)), if_pos (fig_t (by omega)), hEe]; rw [if_pos (by omega)]
                      exact ⟨w, rfl, by rw [eS, eE, eK]; rfl, (fun _ => by rw [hw (by omega)]; unfold tokV; rw [eS, eE])⟩
                    · skip
                      refine x_iconst 261 rfl dX7_scans_260 (z := 1) (by decide) ?_
                      refine x_goto dX7_scans_261 (tgt := 265) (by decide) ?_
                      refine x_put 268 rfl 0 10 rfl rfl (by decide) inX7_scans_X7 flX7_scans_153 tyX7_ok nmX7 rfl rfl rfl rfl (Nat.le_of_ble_eq_true rfl) (ws' := [(mo, moE ad qt (zup (zup (zup (zup (zup sc 0 ((L : Nat) : Int)) 1 ((e : Nat) : Int)) 2 ((p : Nat) : Int)) 3 1) 4 w)), (ad 5, aI G 200 tx)]) rfl dX7_scans_265 ?_
                      refine x_vret rfl ?_ dX7_scans_268
                      have eS : tokS tx L a = p := hSp
                      have eE : tokE tx L a = e := by unfold tokE; rw [eS]; unfold tkE; rw [if_neg (by omega), if_neg (ltr_f (by omega)), if_pos (fig_t (by omega)), hEe]
                      have eK : tokK tx L a = 1 := by unfold tokK; rw [eS]; unfold tkK; rw [if_neg (by omega), if_neg (ltr_f (by omega)), if_pos (fig_t (by omega)), hEe]; rw [if_neg (by omega)]
                      exact ⟨w, rfl, by rw [eS, eE, eK]; rfl, (by rw [eK]; intro h; exact absurd h (by omega))⟩
                  · have h186 := of_decide_eq_true h186
                    refine x_aload_n 190 rfl dX7_scans_189 0 rfl ?_
                    refine x_aload_n 191 rfl dX7_scans_190 0 rfl ?_
                    refine x_get 194 rfl (v := .int (zI ((e : Nat) : Int))) 0 8 rfl rfl (by decide) inX7_scans_X7 flX7_scans_137 rfl dX7_scans_191 ?_
                    refine x_aload_n 195 rfl dX7_scans_194 0 rfl ?_
                    refine x_get 198 rfl (v := .int (zI ((p : Nat) : Int))) 0 9 rfl rfl (by decide) inX7_scans_X7 flX7_scans_150 rfl dX7_scans_195 ?_
                    refine x_isub 199 rfl dX7_scans_198 (z := ((e : Nat) : Int) - ((p : Nat) : Int)) (rfl) ?_
                    refine x_iconst 200 rfl dX7_scans_199 (z := 4) (by decide) ?_
                    refine x_icmp_ge 203 rfl (tgt := 226) dX7_scans_200 (by decide) (by omega) (by decide) (fun h200 => ?_) (fun h200 => ?_)
                    · skip
                      refine x_aload_n 227 rfl dX7_scans_226 0 rfl ?_
                      refine x_get 230 rfl (v := .int (zI w)) 0 11 rfl rfl (by decide) inX7_scans_X7 flX7_scans_164 rfl dX7_scans_227 ?_
                      refine x_put 233 rfl 0 11 rfl rfl (by decide) inX7_scans_X7 flX7_scans_164 tyX7_ok nmX7 rfl rfl rfl rfl (Nat.le_of_ble_eq_true rfl) (ws' := [(mo, moE ad qt (zup (zup (zup (zup sc 0 ((L : Nat) : Int)) 1 ((e : Nat) : Int)) 2 ((p : Nat) : Int)) 4 w)), (ad 5, aI G 200 tx)]) rfl dX7_scans_230 ?_
                      refine x_aload_n 234 rfl dX7_scans_233 0 rfl ?_
                      refine x_dup 235 rfl dX7_scans_234 rfl ?_
                      refine x_get 238 rfl (v := .int (zI ((e : Nat) : Int))) 0 8 rfl rfl (by decide) inX7_scans_X7 flX7_scans_137 rfl dX7_scans_235 ?_
                      refine x_iconst 239 rfl dX7_scans_238 (z := 1) (by decide) ?_
                      refine x_iadd 240 rfl dX7_scans_239 (z := ((e + 1 : Nat) : Int)) (by omega) ?_
                      refine x_put 243 rfl 0 8 rfl rfl (by decide) inX7_scans_X7 flX7_scans_137 tyX7_ok nmX7 rfl rfl rfl rfl (Nat.le_of_ble_eq_true rfl) (ws' := [(mo, moE ad qt (zup (zup (zup (zup sc 0 ((L : Nat) : Int)) 1 ((e + 1 : Nat) : Int)) 2 ((p : Nat) : Int)) 4 w)), (ad 5, aI G 200 tx)]) rfl dX7_scans_240 ?_
                      refine x_goto dX7_scans_243 (tgt := 178) (by decide) ?_
                      exact ih178 (e + 1) w (by omega) (by omega) (by rw [hR]; exact runE_t (by omega) (decide_eq_true (by omega))) (fun i h1 h2 => by by_cases q : i = e; (subst q; omega); exact hin i h1 (by omega)) (fun hq => absurd hq (by omega)) (by omega)
                    · skip
                      refine x_bipush 205 rfl dX7_scans_203 (z := 10) (by decide) ?_
                      refine x_aload_n 206 rfl dX7_scans_205 0 rfl ?_
                      refine x_get 209 rfl (v := .int (zI w)) 0 11 rfl rfl (by decide) inX7_scans_X7 flX7_scans_164 rfl dX7_scans_206 ?_
                      refine x_imul 210 rfl dX7_scans_209 (z := 10 * w) (rfl) ?_
                      refine x_aload_n 211 rfl dX7_scans_210 0 rfl ?_
                      refine x_get 214 rfl (v := .ref (ad 5)) 0 6 rfl rfl (by decide) inX7_scans_X7 flX7_scans_26 rfl dX7_scans_211 ?_
                      refine x_aload_n 215 rfl dX7_scans_214 0 rfl ?_
                      refine x_get 218 rfl (v := .int (zI ((e : Nat) : Int))) 0 8 rfl rfl (by decide) inX7_scans_X7 flX7_scans_137 rfl dX7_scans_215 ?_
                      have hte := ht e (by omega)
                      refine x_iald 219 rfl 1 e rfl (⟨by omega, by omega⟩) (by decide) (v := tx e) (rfl) dX7_scans_218 ?_
                      refine x_iadd 220 rfl dX7_scans_219 (z := 10 * w + tx e) (rfl) ?_
                      refine x_bipush 222 rfl dX7_scans_220 (z := 48) (by decide) ?_
                      refine x_isub 223 rfl dX7_scans_222 (z := 10 * w + tx e - 48) (rfl) ?_
                      refine x_goto dX7_scans_223 (tgt := 230) (by decide) ?_
                      refine x_put 233 rfl 0 11 rfl rfl (by decide) inX7_scans_X7 flX7_scans_164 tyX7_ok nmX7 rfl rfl rfl rfl (Nat.le_of_ble_eq_true rfl) (ws' := [(mo, moE ad qt (zup (zup (zup (zup sc 0 ((L : Nat) : Int)) 1 ((e : Nat) : Int)) 2 ((p : Nat) : Int)) 4 (10 * w + tx e - 48))), (ad 5, aI G 200 tx)]) rfl dX7_scans_230 ?_
                      refine x_aload_n 234 rfl dX7_scans_233 0 rfl ?_
                      refine x_dup 235 rfl dX7_scans_234 rfl ?_
                      refine x_get 238 rfl (v := .int (zI ((e : Nat) : Int))) 0 8 rfl rfl (by decide) inX7_scans_X7 flX7_scans_137 rfl dX7_scans_235 ?_
                      refine x_iconst 239 rfl dX7_scans_238 (z := 1) (by decide) ?_
                      refine x_iadd 240 rfl dX7_scans_239 (z := ((e + 1 : Nat) : Int)) (by omega) ?_
                      refine x_put 243 rfl 0 8 rfl rfl (by decide) inX7_scans_X7 flX7_scans_137 tyX7_ok nmX7 rfl rfl rfl rfl (Nat.le_of_ble_eq_true rfl) (ws' := [(mo, moE ad qt (zup (zup (zup (zup sc 0 ((L : Nat) : Int)) 1 ((e + 1 : Nat) : Int)) 2 ((p : Nat) : Int)) 4 (10 * w + tx e - 48))), (ad 5, aI G 200 tx)]) rfl dX7_scans_240 ?_
                      refine x_goto dX7_scans_243 (tgt := 178) (by decide) ?_
                      exact ih178 (e + 1) (10 * w + tx e - 48) (by omega) (by omega) (by rw [hR]; exact runE_t (by omega) (decide_eq_true (by omega))) (fun i h1 h2 => by by_cases q : i = e; (subst q; omega); exact hin i h1 (by omega)) (fun hq => by rw [show e + 1 - p = (e - p) + 1 by omega, hw (by omega)]; show _ = ((10 * nvN tx p (e - p) + (tx (p + (e - p)) - 48).toNat : Nat) : Int); rw [show p + (e - p) = e by omega]; omega) (by omega)
              exact L178 _ p 0 (by omega) (by omega) (rfl) (fun i h1 h2 => absurd h1 (by omega)) (fun _ => by rw [Nat.sub_self]; rfl) (Nat.lt_succ_self _)
          · have h57 := of_decide_eq_true h57
            refine x_lconst 61 rfl dX7_scans_60 (z := 0) (by decide) ?_
            refine x_lstore_n 62 rfl (lv' := [(1, .long (zL 0)), (0, .ref mo)]) dX7_scans_61 (by decide) rfl ?_
            have L62 : ∀ (f62 : Nat) (e : Nat) (he1 : p ≤ e) (he : e ≤ L) (hR : runE ltr tx L p = runE ltr tx L e) (hin : ∀ i, p ≤ i → i < e → 97 ≤ tx i ∧ tx i ≤ 122), L - e < f62 → W_X7_scans G E mo ad qt sc tx L a 62 [(0, .ref mo), (1, .long (zL (hvF tx p (e - p))))] [] ([(mo, moE ad qt (zup (zup (zup sc 0 ((L : Nat) : Int)) 1 ((e : Nat) : Int)) 2 ((p : Nat) : Int))), (ad 5, aI G 200 tx)]) := by
              intro f62
              induction f62 with
              | zero => intro e he1 he hR hin hf62; exact absurd hf62 (Nat.not_lt_zero _)
              | succ f62 ih62 =>
                intro e he1 he hR hin hf62
                refine x_aload_n 63 rfl dX7_scans_62 0 rfl ?_
                refine x_bipush 65 rfl dX7_scans_63 (z := 97) (by decide) ?_
                refine x_bipush 67 rfl dX7_scans_65 (z := 122) (by decide) ?_
                refine x_callV 70 rfl (c_X7_isAt G mo ad qt (zup (zup (zup sc 0 ((L : Nat) : Int)) 1 ((e : Nat) : Int)) 2 ((p : Nat) : Int)) tx L e hL (by omega) ht 97 122 (by decide) (by decide)) [0, 1] rfl (by decide) 0 rfl rfl gX7_scans_X7_isAt rfl rfl rfl hd_X7_isAt ⟨Nat.le_of_ble_eq_true rfl, Nat.le_of_ble_eq_true rfl⟩ (As := [.int (zI 97), .int (zI 122)]) (rest := []) rfl rfl (Nat.le_of_ble_eq_true rfl) dX7_scans_67 ⟨Nat.zero_le _, Nat.zero_le _⟩ (fun v w hq => ?_)
                obtain ⟨rfl, rfl⟩ := hq
                refine ⟨rfl, ?_⟩
                refine x_ws (ws' := [(mo, moE ad qt (zup (zup (zup sc 0 ((L : Nat) : Int)) 1 ((e : Nat) : Int)) 2 ((p : Nat) : Int))), (ad 5, aI G 200 tx)]) (rfl) ?_
                refine x_bif_eq 73 rfl (tgt := 126) dX7_scans_70 (by decide) (fun h70 => ?_) (fun h70 => ?_)
                · have h70 := of_decide_eq_false h70
                  have hEe : runE ltr tx L p = e := by rw [hR]; exact runE_f (fun hh => by have hq := of_decide_eq_true hh.2; omega)
                  have hpe : p < e := by rcases Nat.lt_or_ge p e with q | q; exact q; exfalso; have e0 : e = p := (by omega); rw [e0] at h70; omega
                  have hvr := hvF_r (tx := tx) (s := p) (e - p) (fun i hi => hin (p + i) (by omega) (by omega))
                  refine x_aload_n 127 rfl dX7_scans_126 0 rfl ?_
                  refine x_aload_n 128 rfl dX7_scans_127 0 rfl ?_
                  refine x_get 131 rfl (v := .int (zI ((e : Nat) : Int))) 0 8 rfl rfl (by decide) inX7_scans_X7 flX7_scans_137 rfl dX7_scans_128 ?_
                  refine x_aload_n 132 rfl dX7_scans_131 0 rfl ?_
                  refine x_get 135 rfl (v := .int (zI ((p : Nat) : Int))) 0 9 rfl rfl (by decide) inX7_scans_X7 flX7_scans_150 rfl dX7_scans_132 ?_
                  refine x_isub 136 rfl dX7_scans_135 (z := ((e : Nat) : Int) - ((p : Nat) : Int)) (rfl) ?_
                  refine x_iconst 137 rfl dX7_scans_136 (z := 5) (by decide) ?_
                  refine x_icmp_gt 140 rfl (tgt := 148) dX7_scans_137 (by decide) (by omega) (by decide) (fun h137 => ?_) (fun h137 => ?_)
                  · skip
                    refine x_iconst 149 rfl dX7_scans_148 (z := 1) (by decide) ?_
                    refine x_goto dX7_scans_149 (tgt := 158) (by decide) ?_
                    refine x_put 161 rfl 0 10 rfl rfl (by decide) inX7_scans_X7 flX7_scans_153 tyX7_ok nmX7 rfl rfl rfl rfl (Nat.le_of_ble_eq_true rfl) (ws' := [(mo, moE ad qt (zup (zup (zup (zup sc 0 ((L : Nat) : Int)) 1 ((e : Nat) : Int)) 2 ((p : Nat) : Int)) 3 1)), (ad 5, aI G 200 tx)]) rfl dX7_scans_158 ?_
                    refine x_vret rfl ?_ dX7_scans_161
                    have eS : tokS tx L a = p := hSp
                    have eE : tokE tx L a = e := by unfold tokE; rw [eS]; unfold tkE; rw [if_neg (by omega), if_pos (ltr_t (by omega)), hEe]
                    have eK : tokK tx L a = 1 := by unfold tokK; rw [eS]; unfold tkK; rw [if_neg (by omega), if_pos (ltr_t (by omega)), hEe]; first | (unfold wdK; rw [if_neg (by omega), if_neg (by omega), if_neg (by omega)]) | (have hq : ((wdK tx p e : Nat) : Int) = 1 := (by rw [hwd, if_pos (by omega)]); omega)
                    exact ⟨sc 4, rfl, by rw [eS, eE, eK]; rfl, (by rw [eK]; intro h; have := wdK_r tx p e; omega)⟩
                  · skip
                    have hwd := wdK_vb hpe (by omega) hin
                    refine x_lload_n 141 rfl dX7_scans_140 1 rfl ?_
                    refine x_callS0 144 rfl (c_X7_verbOf G (hvF tx p (e - p)) (by omega)) (fun _ _ h => h.2) gX7_scans_X7_verbOf rfl rfl rfl hd_X7_verbOf ⟨Nat.le_of_ble_eq_true rfl, Nat.le_of_ble_eq_true rfl⟩ (As := [.long (zL (hvF tx p (e - p)))]) (rest := [.ref mo]) rfl rfl (Nat.le_of_ble_eq_true rfl) dX7_scans_141 ⟨Nat.zero_le _, Nat.zero_le _⟩ (fun v hq => ?_)
                    obtain ⟨rfl, -⟩ := hq
                    refine x_iconst 145 rfl dX7_scans_144 (z := (-1)) (by decide) ?_
                    refine x_icmp_ne 148 rfl (tgt := 152) dX7_scans_145 (by decide) (by unfold vbN; (repeat' split) <;> omega) (by decide) (fun h145 => ?_) (fun h145 => ?_)
                    · skip
                      refine x_iconst 153 rfl dX7_scans_152 (z := 4) (by decide) ?_
                      refine x_lload_n 154 rfl dX7_scans_153 1 rfl ?_
                      refine x_callS0 157 rfl (c_X7_verbOf G (hvF tx p (e - p)) (by omega)) (fun _ _ h => h.2) gX7_scans_X7_verbOf rfl rfl rfl hd_X7_verbOf ⟨Nat.le_of_ble_eq_true rfl, Nat.le_of_ble_eq_true rfl⟩ (As := [.long (zL (hvF tx p (e - p)))]) (rest := [.int (zI 4), .ref mo]) rfl rfl (Nat.le_of_ble_eq_true rfl) dX7_scans_154 ⟨Nat.zero_le _, Nat.zero_le _⟩ (fun v hq => ?_)
                      obtain ⟨rfl, -⟩ := hq
                      refine x_iadd 158 rfl dX7_scans_157 (z := ((wdK tx p e : Nat) : Int)) (by rw [hwd, if_neg (by omega)]) ?_
                      refine x_put 161 rfl 0 10 rfl rfl (by decide) inX7_scans_X7 flX7_scans_153 tyX7_ok nmX7 rfl rfl rfl rfl (Nat.le_of_ble_eq_true rfl) (ws' := [(mo, moE ad qt (zup (zup (zup (zup sc 0 ((L : Nat) : Int)) 1 ((e : Nat) : Int)) 2 ((p : Nat) : Int)) 3 ((wdK tx p e : Nat) : Int))), (ad 5, aI G 200 tx)]) rfl dX7_scans_158 ?_
                      refine x_vret rfl ?_ dX7_scans_161
                      have eS : tokS tx L a = p := hSp
                      have eE : tokE tx L a = e := by unfold tokE; rw [eS]; unfold tkE; rw [if_neg (by omega), if_pos (ltr_t (by omega)), hEe]
                      have eK : tokK tx L a = wdK tx p e := by unfold tokK; rw [eS]; unfold tkK; rw [if_neg (by omega), if_pos (ltr_t (by omega)), hEe]
                      exact ⟨sc 4, rfl, by rw [eS, eE, eK]; rfl, (by rw [eK]; intro h; have := wdK_r tx p e; omega)⟩
                    · skip
                      refine x_iconst 149 rfl dX7_scans_148 (z := 1) (by decide) ?_
                      refine x_goto dX7_scans_149 (tgt := 158) (by decide) ?_
                      refine x_put 161 rfl 0 10 rfl rfl (by decide) inX7_scans_X7 flX7_scans_153 tyX7_ok nmX7 rfl rfl rfl rfl (Nat.le_of_ble_eq_true rfl) (ws' := [(mo, moE ad qt (zup (zup (zup (zup sc 0 ((L : Nat) : Int)) 1 ((e : Nat) : Int)) 2 ((p : Nat) : Int)) 3 1)), (ad 5, aI G 200 tx)]) rfl dX7_scans_158 ?_
                      refine x_vret rfl ?_ dX7_scans_161
                      have eS : tokS tx L a = p := hSp
                      have eE : tokE tx L a = e := by unfold tokE; rw [eS]; unfold tkE; rw [if_neg (by omega), if_pos (ltr_t (by omega)), hEe]
                      have eK : tokK tx L a = 1 := by unfold tokK; rw [eS]; unfold tkK; rw [if_neg (by omega), if_pos (ltr_t (by omega)), hEe]; first | (unfold wdK; rw [if_neg (by omega), if_neg (by omega), if_neg (by omega)]) | (have hq : ((wdK tx p e : Nat) : Int) = 1 := (by rw [hwd, if_pos (by omega)]); omega)
                      exact ⟨sc 4, rfl, by rw [eS, eE, eK]; rfl, (by rw [eK]; intro h; have := wdK_r tx p e; omega)⟩
                · have h70 := of_decide_eq_true h70
                  refine x_aload_n 74 rfl dX7_scans_73 0 rfl ?_
                  refine x_get 77 rfl (v := .int (zI ((e : Nat) : Int))) 0 8 rfl rfl (by decide) inX7_scans_X7 flX7_scans_137 rfl dX7_scans_74 ?_
                  refine x_aload_n 78 rfl dX7_scans_77 0 rfl ?_
                  refine x_get 81 rfl (v := .int (zI ((p : Nat) : Int))) 0 9 rfl rfl (by decide) inX7_scans_X7 flX7_scans_150 rfl dX7_scans_78 ?_
                  refine x_isub 82 rfl dX7_scans_81 (z := ((e : Nat) : Int) - ((p : Nat) : Int)) (rfl) ?_
                  refine x_iconst 83 rfl dX7_scans_82 (z := 5) (by decide) ?_
                  refine x_icmp_le 86 rfl (tgt := 90) dX7_scans_83 (by decide) (by omega) (by decide) (fun h83 => ?_) (fun h83 => ?_)
                  · skip
                    refine x_ldc2 93 rfl (v := zL 32) wX7_scans_cl156 dX7_scans_90 ?_
                    refine x_lload_n 94 rfl dX7_scans_93 1 rfl ?_
                    refine x_lmul 95 rfl dX7_scans_94 (z := 32 * (hvF tx p (e - p))) (rfl) ?_
                    refine x_aload_n 96 rfl dX7_scans_95 0 rfl ?_
                    refine x_get 99 rfl (v := .ref (ad 5)) 0 6 rfl rfl (by decide) inX7_scans_X7 flX7_scans_26 rfl dX7_scans_96 ?_
                    refine x_aload_n 100 rfl dX7_scans_99 0 rfl ?_
                    refine x_get 103 rfl (v := .int (zI ((e : Nat) : Int))) 0 8 rfl rfl (by decide) inX7_scans_X7 flX7_scans_137 rfl dX7_scans_100 ?_
                    have hte := ht e (by omega)
                    refine x_iald 104 rfl 1 e rfl (⟨by omega, by omega⟩) (by decide) (v := tx e) (rfl) dX7_scans_103 ?_
                    refine x_i2l 105 rfl dX7_scans_104 (z := (zL (tx e))) (zI_i2l (by omega)) ?_
                    refine x_ladd 106 rfl dX7_scans_105 (z := (32 * (hvF tx p (e - p))) + (tx e)) (rfl) ?_
                    refine x_ldc2 109 rfl (v := zL 97) wX7_scans_cl158 dX7_scans_106 ?_
                    refine x_lsub 110 rfl dX7_scans_109 (z := ((32 * (hvF tx p (e - p))) + (tx e)) - 97) (rfl) ?_
                    refine x_lconst 111 rfl dX7_scans_110 (z := 1) (by decide) ?_
                    refine x_ladd 112 rfl dX7_scans_111 (z := (((32 * (hvF tx p (e - p))) + (tx e)) - 97) + 1) (rfl) ?_
                    refine x_lstore_n 113 rfl (lv' := [(1, .long (zL ((((32 * (hvF tx p (e - p))) + (tx e)) - 97) + 1))), (0, .ref mo)]) dX7_scans_112 (by decide) rfl ?_
                    refine x_aload_n 114 rfl dX7_scans_113 1 rfl ?_
                    refine x_dup 115 rfl dX7_scans_114 rfl ?_
                    refine x_get 118 rfl (v := .int (zI ((e : Nat) : Int))) 0 8 rfl rfl (by decide) inX7_scans_X7 flX7_scans_137 rfl dX7_scans_115 ?_
                    refine x_iconst 119 rfl dX7_scans_118 (z := 1) (by decide) ?_
                    refine x_iadd 120 rfl dX7_scans_119 (z := ((e + 1 : Nat) : Int)) (by omega) ?_
                    refine x_put 123 rfl 0 8 rfl rfl (by decide) inX7_scans_X7 flX7_scans_137 tyX7_ok nmX7 rfl rfl rfl rfl (Nat.le_of_ble_eq_true rfl) (ws' := [(mo, moE ad qt (zup (zup (zup sc 0 ((L : Nat) : Int)) 1 ((e + 1 : Nat) : Int)) 2 ((p : Nat) : Int))), (ad 5, aI G 200 tx)]) rfl dX7_scans_120 ?_
                    refine x_goto dX7_scans_123 (tgt := 62) (by decide) ?_
                    refine x_lve (congrArg (fun zz : Int => ([(1, .long (zL zz)), (0, .ref mo)] : List (Nat × Value))) (by rw [show e + 1 - p = (e - p) + 1 by omega]; show (((32 * (hvF tx p (e - p))) + (tx e)) - 97) + 1 = (if 5 < e - p then (0 : Int) else 32 * hvF tx p (e - p) + tx (p + (e - p)) - 97 + 1); rw [if_neg (by omega), show p + (e - p) = e by omega] : (((32 * (hvF tx p (e - p))) + (tx e)) - 97) + 1 = hvF tx p (e + 1 - p))) ?_
                    refine x_lv [1, 0] rfl ?_
                    exact ih62 (e + 1) (by omega) (by omega) (by rw [hR]; exact runE_t (by omega) (decide_eq_true (by omega))) (fun i h1 h2 => by by_cases q : i = e; (subst q; omega); exact hin i h1 (by omega)) (by omega)
                  · skip
                    refine x_lconst 87 rfl dX7_scans_86 (z := 0) (by decide) ?_
                    refine x_goto dX7_scans_87 (tgt := 112) (by decide) ?_
                    refine x_lstore_n 113 rfl (lv' := [(1, .long (zL 0)), (0, .ref mo)]) dX7_scans_112 (by decide) rfl ?_
                    refine x_aload_n 114 rfl dX7_scans_113 1 rfl ?_
                    refine x_dup 115 rfl dX7_scans_114 rfl ?_
                    refine x_get 118 rfl (v := .int (zI ((e : Nat) : Int))) 0 8 rfl rfl (by decide) inX7_scans_X7 flX7_scans_137 rfl dX7_scans_115 ?_
                    refine x_iconst 119 rfl dX7_scans_118 (z := 1) (by decide) ?_
                    refine x_iadd 120 rfl dX7_scans_119 (z := ((e + 1 : Nat) : Int)) (by omega) ?_
                    refine x_put 123 rfl 0 8 rfl rfl (by decide) inX7_scans_X7 flX7_scans_137 tyX7_ok nmX7 rfl rfl rfl rfl (Nat.le_of_ble_eq_true rfl) (ws' := [(mo, moE ad qt (zup (zup (zup sc 0 ((L : Nat) : Int)) 1 ((e + 1 : Nat) : Int)) 2 ((p : Nat) : Int))), (ad 5, aI G 200 tx)]) rfl dX7_scans_120 ?_
                    refine x_goto dX7_scans_123 (tgt := 62) (by decide) ?_
                    refine x_lve (congrArg (fun zz : Int => ([(1, .long (zL zz)), (0, .ref mo)] : List (Nat × Value))) (by rw [show e + 1 - p = (e - p) + 1 by omega]; show 0 = (if 5 < e - p then (0 : Int) else 32 * hvF tx p (e - p) + tx (p + (e - p)) - 97 + 1); rw [if_pos (by omega)] : 0 = hvF tx p (e + 1 - p))) ?_
                    refine x_lv [1, 0] rfl ?_
                    exact ih62 (e + 1) (by omega) (by omega) (by rw [hR]; exact runE_t (by omega) (decide_eq_true (by omega))) (fun i h1 h2 => by by_cases q : i = e; (subst q; omega); exact hin i h1 (by omega)) (by omega)
            refine x_lve (congrArg (fun zz : Int => ([(1, .long (zL zz)), (0, .ref mo)] : List (Nat × Value))) (by rw [Nat.sub_self]; rfl : 0 = hvF tx p (p - p))) ?_
            refine x_lv [1, 0] rfl ?_
            exact L62 _ p (by omega) (by omega) (rfl) (fun i h1 h2 => absurd h1 (by omega)) (Nat.lt_succ_self _)
        · skip
          refine x_aload_n 44 rfl dX7_scans_43 0 rfl ?_
          refine x_iconst 45 rfl dX7_scans_44 (z := 0) (by decide) ?_
          refine x_put 48 rfl 0 10 rfl rfl (by decide) inX7_scans_X7 flX7_scans_153 tyX7_ok nmX7 rfl rfl rfl rfl (Nat.le_of_ble_eq_true rfl) (ws' := [(mo, moE ad qt (zup (zup (zup (zup sc 0 ((L : Nat) : Int)) 1 ((p : Nat) : Int)) 2 ((p : Nat) : Int)) 3 0)), (ad 5, aI G 200 tx)]) rfl dX7_scans_45 ?_
          refine x_vret rfl ?_ dX7_scans_48
          have eS : tokS tx L a = p := hSp
          have eE : tokE tx L a = p := by unfold tokE; rw [eS]; unfold tkE; rw [if_pos (by omega)]
          have eK : tokK tx L a = 0 := by unfold tokK; rw [eS]; unfold tkK; rw [if_pos (by omega)]
          exact ⟨sc 4, rfl, by rw [eS, eE, eK]; rfl, (by rw [eK]; intro h; exact absurd h (by omega))⟩
      · have h8 := of_decide_eq_true h8
        refine x_aload_n 12 rfl dX7_scans_11 0 rfl ?_
        refine x_dup 13 rfl dX7_scans_12 rfl ?_
        refine x_get 16 rfl (v := .int (zI ((p : Nat) : Int))) 0 8 rfl rfl (by decide) inX7_scans_X7 flX7_scans_137 rfl dX7_scans_13 ?_
        refine x_iconst 17 rfl dX7_scans_16 (z := 1) (by decide) ?_
        refine x_iadd 18 rfl dX7_scans_17 (z := ((p + 1 : Nat) : Int)) (by omega) ?_
        refine x_put 21 rfl 0 8 rfl rfl (by decide) inX7_scans_X7 flX7_scans_137 tyX7_ok nmX7 rfl rfl rfl rfl (Nat.le_of_ble_eq_true rfl) (ws' := [(mo, moE ad qt (zup (zup sc 0 ((L : Nat) : Int)) 1 ((p + 1 : Nat) : Int))), (ad 5, aI G 200 tx)]) rfl dX7_scans_18 ?_
        refine x_goto dX7_scans_21 (tgt := 0) (by decide) ?_
        exact ih0 (p + 1) (by omega) (by rw [hS]; exact runE_t (by omega) (decide_eq_true (by omega))) (by omega)
  exact L0 _ a (by omega) (rfl) (Nat.lt_succ_self _)

