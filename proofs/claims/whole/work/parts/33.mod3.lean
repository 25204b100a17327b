theorem hd_X7_hears : yX7_hears.cls = RX7 ∧ yX7_hears.cls ≠ "java/lang/invoke/MethodHandle" ∧ yX7_hears.cls ≠ "java/lang/invoke/VarHandle" ∧ (parseMethodDescriptor yX7_hears.desc).map (fun d => d.parameters.length) = some 3 := by decide +kernel
theorem hd_X7_one : yX7_one.cls = RX7 ∧ yX7_one.cls ≠ "java/lang/invoke/MethodHandle" ∧ yX7_one.cls ≠ "java/lang/invoke/VarHandle" ∧ (parseMethodDescriptor yX7_one.desc).map (fun d => d.parameters.length) = some 4 := by decide +kernel
theorem hd_X7_rename : yX7_rename.cls = RX7 ∧ yX7_rename.cls ≠ "java/lang/invoke/MethodHandle" ∧ yX7_rename.cls ≠ "java/lang/invoke/VarHandle" ∧ (parseMethodDescriptor yX7_rename.desc).map (fun d => d.parameters.length) = some 2 := by decide +kernel
theorem hd_X7_move : yX7_move.cls = RX7 ∧ yX7_move.cls ≠ "java/lang/invoke/MethodHandle" ∧ yX7_move.cls ≠ "java/lang/invoke/VarHandle" ∧ (parseMethodDescriptor yX7_move.desc).map (fun d => d.parameters.length) = some 2 := by decide +kernel
theorem hd_X7_dead : yX7_dead.cls = RX7 ∧ yX7_dead.cls ≠ "java/lang/invoke/MethodHandle" ∧ yX7_dead.cls ≠ "java/lang/invoke/VarHandle" ∧ (parseMethodDescriptor yX7_dead.desc).map (fun d => d.parameters.length) = some 2 := by decide +kernel
theorem hd_X7_comes : yX7_comes.cls = RX7 ∧ yX7_comes.cls ≠ "java/lang/invoke/MethodHandle" ∧ yX7_comes.cls ≠ "java/lang/invoke/VarHandle" ∧ (parseMethodDescriptor yX7_comes.desc).map (fun d => d.parameters.length) = some 2 := by decide +kernel
theorem hd_X7_call : yX7_call.cls = RX7 ∧ yX7_call.cls ≠ "java/lang/invoke/MethodHandle" ∧ yX7_call.cls ≠ "java/lang/invoke/VarHandle" ∧ (parseMethodDescriptor yX7_call.desc).map (fun d => d.parameters.length) = some 3 := by decide +kernel
theorem hd_X7_whistle : yX7_whistle.cls = RX7 ∧ yX7_whistle.cls ≠ "java/lang/invoke/MethodHandle" ∧ yX7_whistle.cls ≠ "java/lang/invoke/VarHandle" ∧ (parseMethodDescriptor yX7_whistle.desc).map (fun d => d.parameters.length) = some 3 := by decide +kernel
theorem hd_X7_turned : yX7_turned.cls = RX7 ∧ yX7_turned.cls ≠ "java/lang/invoke/MethodHandle" ∧ yX7_turned.cls ≠ "java/lang/invoke/VarHandle" ∧ (parseMethodDescriptor yX7_turned.desc).map (fun d => d.parameters.length) = some 1 := by decide +kernel
theorem hd_X7_heardOf : yX7_heardOf.cls = RX7 ∧ yX7_heardOf.cls ≠ "java/lang/invoke/MethodHandle" ∧ yX7_heardOf.cls ≠ "java/lang/invoke/VarHandle" ∧ (parseMethodDescriptor yX7_heardOf.desc).map (fun d => d.parameters.length) = some 1 := by decide +kernel
theorem hd_X7_undo : yX7_undo.cls = RX7 ∧ yX7_undo.cls ≠ "java/lang/invoke/MethodHandle" ∧ yX7_undo.cls ≠ "java/lang/invoke/VarHandle" ∧ (parseMethodDescriptor yX7_undo.desc).map (fun d => d.parameters.length) = some 0 := by decide +kernel
theorem hd_X7_taken : yX7_taken.cls = RX7 ∧ yX7_taken.cls ≠ "java/lang/invoke/MethodHandle" ∧ yX7_taken.cls ≠ "java/lang/invoke/VarHandle" ∧ (parseMethodDescriptor yX7_taken.desc).map (fun d => d.parameters.length) = some 2 := by decide +kernel
theorem hd_X7_clash : yX7_clash.cls = RX7 ∧ yX7_clash.cls ≠ "java/lang/invoke/MethodHandle" ∧ yX7_clash.cls ≠ "java/lang/invoke/VarHandle" ∧ (parseMethodDescriptor yX7_clash.desc).map (fun d => d.parameters.length) = some 1 := by decide +kernel
abbrev P_X7_hears (G : XG) (mo : Nat) (ad : Nat → Nat) (qt : Bool) (sc : Nat → Int) (b : Nat → Int) (rf : Nat → Int) (n : Nat) (d : Nat) (c : Nat) (p : Int) (q : Int) (w : Int) : Option Value → va_W → Prop := fun r ws => r = some (.int (zI (rH b p q w))) ∧ ws = [(mo, moE ad qt sc), (ad 0, aI G 66 (bH b p q w)), (ad 4, aI G 3 (rfC qt rf (kH p q w)))]
abbrev W_X7_hears (G : XG) (E : XE) (mo : Nat) (ad : Nat → Nat) (qt : Bool) (sc : Nat → Int) (b : Nat → Int) (rf : Nat → Int) (n : Nat) (d : Nat) (c : Nat) (p : Int) (q : Int) (w : Int) (pc : Nat) (lv : List (Nat × Value)) (st : List Value) (ws : va_W) : Prop := Wx G E (rmL 2) cX7_hears 5 RX7 wsX7_hears (some .int) "hears" 0 0 (P_X7_hears G mo ad qt sc b rf n d c p q w) 0 0 pc lv st ws
theorem flX7_hears_7 : Cond.fieldLink RX7 7 (TX7 0).1 (TX7 0).2.1 (TX7 0).2.2.1 ∈ wsX7_hears := by decide +kernel
theorem inX7_hears_X7 : ∀ w ∈ u_ws RX7 TX7 18, w ∈ wsX7_hears := fun _ h => List.mem_cons_of_mem _ (List.mem_append_right _ h)
theorem wX7_hears_cl103 : Cond.constantLong RX7 103 (zL (-1)) ∈ wsX7_hears := by decide +kernel
theorem wX7_hears_cl61 : Cond.constantLong RX7 61 (zL 3) ∈ wsX7_hears := by decide +kernel
set_option maxHeartbeats 4000000 in
set_option maxRecDepth 100000 in
/-- hears -/
theorem c_X7_hears (G : XG) (mo : Nat) (ad : Nat → Nat) (qt : Bool) (sc : Nat → Int) (b rf : Nat → Int) (n d c : Nat) (I : Inv b n d c) (p q w : Int) (hp : Z32 p) (hq : Z32 q) (hw : Z32 w) : Con G yX7_hears wsX7_hears (rmL 2) 0 0 [.ref mo, .int (zI p), .int (zI q), .int (zI w)] ([(mo, moE ad qt sc), (ad 0, aI G 66 b), (ad 4, aI G 3 rf)]) (P_X7_hears G mo ad qt sc b rf n d c p q w) := by
  refine x_start (cc := cX7_hears) (nL := 5) (ret := (some .int)) (by decide) rfl (Nat.le_of_ble_eq_true rfl) (fun E => ?_)
  show W_X7_hears G E mo ad qt sc b rf n d c p q w 0 [(0, .ref mo), (1, .int (zI p)), (2, .int (zI q)), (3, .int (zI w))] [] ([(mo, moE ad qt sc), (ad 0, aI G 66 b), (ad 4, aI G 3 rf)])
  have hn := I.n1
  have hn7 := I.n7
  have hd := I.d1
  have hd6 := I.d6
  have hc := I.c1
  have hc8 := I.c8
  refine x_iload_n 1 rfl dX7_hears_0 1 rfl ?_
  refine x_callS0 4 rfl (c_X7_isPlace G p (by omega)) (fun _ _ h => h.2) gX7_hears_X7_isPlace rfl rfl rfl hd_X7_isPlace ⟨Nat.le_of_ble_eq_true rfl, Nat.le_of_ble_eq_true rfl⟩ (As := [.int (zI p)]) (rest := []) rfl rfl (Nat.le_of_ble_eq_true rfl) dX7_hears_1 ⟨Nat.zero_le _, Nat.zero_le _⟩ (fun v hq => ?_)
  obtain ⟨rfl, -⟩ := hq
  refine x_bif_eq 7 rfl (tgt := 33) dX7_hears_4 (by decide) (fun h4 => ?_) (fun h4 => ?_)
  · have h4 := of_decide_eq_false h4
    refine x_aload_n 34 rfl dX7_hears_33 0 rfl ?_
    refine x_iconst 35 rfl dX7_hears_34 (z := 0) (by decide) ?_
    refine x_bipush 37 rfl dX7_hears_35 (z := (-10)) (by decide) ?_
    refine x_callV 40 rfl (c_X7_refuses G mo ad qt sc rf 0 (-10) (by omega)) [0, 2] rfl (by decide) 0 rfl rfl gX7_hears_X7_refuses rfl rfl rfl hd_X7_refuses ⟨Nat.le_of_ble_eq_true rfl, Nat.le_of_ble_eq_true rfl⟩ (As := [.int (zI 0), .int (zI (-10))]) (rest := []) rfl rfl (Nat.le_of_ble_eq_true rfl) dX7_hears_37 ⟨Nat.zero_le _, Nat.zero_le _⟩ (fun v w hq => ?_)
    obtain ⟨rfl, rfl⟩ := hq
    refine ⟨rfl, ?_⟩
    refine x_ws (ws' := [(mo, moE ad qt sc), (ad 0, aI G 66 b), (ad 4, aI G 3 (rfU qt rf 0))]) (rfl) ?_
    refine x_iret rfl ?_ dX7_hears_40
    have hk : kH p q w = 1 := by unfold kH; exact if_neg (by omega)
    exact ⟨by unfold rH; rw [hk]; rfl, by unfold bH; rw [hk]; rfl⟩
  · have h4 := of_decide_eq_true h4
    refine x_iload_n 8 rfl dX7_hears_7 2 rfl ?_
    refine x_callS0 11 rfl (c_X7_isPlace G q (by omega)) (fun _ _ h => h.2) gX7_hears_X7_isPlace rfl rfl rfl hd_X7_isPlace ⟨Nat.le_of_ble_eq_true rfl, Nat.le_of_ble_eq_true rfl⟩ (As := [.int (zI q)]) (rest := []) rfl rfl (Nat.le_of_ble_eq_true rfl) dX7_hears_8 ⟨Nat.zero_le _, Nat.zero_le _⟩ (fun v hq => ?_)
    obtain ⟨rfl, -⟩ := hq
    refine x_bif_eq 14 rfl (tgt := 33) dX7_hears_11 (by decide) (fun h11 => ?_) (fun h11 => ?_)
    · have h11 := of_decide_eq_false h11
      refine x_aload_n 34 rfl dX7_hears_33 0 rfl ?_
      refine x_iconst 35 rfl dX7_hears_34 (z := 0) (by decide) ?_
      refine x_bipush 37 rfl dX7_hears_35 (z := (-10)) (by decide) ?_
      refine x_callV 40 rfl (c_X7_refuses G mo ad qt sc rf 0 (-10) (by omega)) [0, 2] rfl (by decide) 0 rfl rfl gX7_hears_X7_refuses rfl rfl rfl hd_X7_refuses ⟨Nat.le_of_ble_eq_true rfl, Nat.le_of_ble_eq_true rfl⟩ (As := [.int (zI 0), .int (zI (-10))]) (rest := []) rfl rfl (Nat.le_of_ble_eq_true rfl) dX7_hears_37 ⟨Nat.zero_le _, Nat.zero_le _⟩ (fun v w hq => ?_)
      obtain ⟨rfl, rfl⟩ := hq
      refine ⟨rfl, ?_⟩
      refine x_ws (ws' := [(mo, moE ad qt sc), (ad 0, aI G 66 b), (ad 4, aI G 3 (rfU qt rf 0))]) (rfl) ?_
      refine x_iret rfl ?_ dX7_hears_40
      have hk : kH p q w = 1 := by unfold kH; exact if_neg (by omega)
      exact ⟨by unfold rH; rw [hk]; rfl, by unfold bH; rw [hk]; rfl⟩
    · have h11 := of_decide_eq_true h11
      refine x_iload_n 15 rfl dX7_hears_14 1 rfl ?_
      refine x_iload_n 16 rfl dX7_hears_15 2 rfl ?_
      refine x_icmp_eq 19 rfl (tgt := 33) dX7_hears_16 (by decide) (by omega) (by omega) (fun h16 => ?_) (fun h16 => ?_)
      · skip
        refine x_aload_n 34 rfl dX7_hears_33 0 rfl ?_
        refine x_iconst 35 rfl dX7_hears_34 (z := 0) (by decide) ?_
        refine x_bipush 37 rfl dX7_hears_35 (z := (-10)) (by decide) ?_
        refine x_callV 40 rfl (c_X7_refuses G mo ad qt sc rf 0 (-10) (by omega)) [0, 2] rfl (by decide) 0 rfl rfl gX7_hears_X7_refuses rfl rfl rfl hd_X7_refuses ⟨Nat.le_of_ble_eq_true rfl, Nat.le_of_ble_eq_true rfl⟩ (As := [.int (zI 0), .int (zI (-10))]) (rest := []) rfl rfl (Nat.le_of_ble_eq_true rfl) dX7_hears_37 ⟨Nat.zero_le _, Nat.zero_le _⟩ (fun v w hq => ?_)
        obtain ⟨rfl, rfl⟩ := hq
        refine ⟨rfl, ?_⟩
        refine x_ws (ws' := [(mo, moE ad qt sc), (ad 0, aI G 66 b), (ad 4, aI G 3 (rfU qt rf 0))]) (rfl) ?_
        refine x_iret rfl ?_ dX7_hears_40
        have hk : kH p q w = 1 := by unfold kH; exact if_neg (by omega)
        exact ⟨by unfold rH; rw [hk]; rfl, by unfold bH; rw [hk]; rfl⟩
      · skip
        refine x_iload_n 20 rfl dX7_hears_19 3 rfl ?_
        refine x_i2l 21 rfl dX7_hears_20 (z := (zL w)) (zI_i2l (by omega)) ?_
        refine x_ldc2 24 rfl (v := zL (-1)) wX7_hears_cl103 dX7_hears_21 ?_
        refine x_ldc2 27 rfl (v := zL 3) wX7_hears_cl61 dX7_hears_24 ?_
        refine x_callS0 30 rfl (c_X7_in G w (-1) 3 (by omega) (by decide) (by decide)) (fun _ _ h => h.2) gX7_hears_X7_in rfl rfl rfl hd_X7_in ⟨Nat.le_of_ble_eq_true rfl, Nat.le_of_ble_eq_true rfl⟩ (As := [.long (zL w), .long (zL (-1)), .long (zL 3)]) (rest := []) rfl rfl (Nat.le_of_ble_eq_true rfl) dX7_hears_27 ⟨Nat.zero_le _, Nat.zero_le _⟩ (fun v hq => ?_)
        obtain ⟨rfl, -⟩ := hq
        refine x_bif_ne 33 rfl (tgt := 41) dX7_hears_30 (by decide) (fun h30 => ?_) (fun h30 => ?_)
        · have h30 := of_decide_eq_true h30
          obtain ⟨p, rfl⟩ : ∃ zk : Nat, p = (zk : Int) := ⟨Int.toNat p, by omega⟩
          obtain ⟨q, rfl⟩ : ∃ zk : Nat, q = (zk : Int) := ⟨Int.toNat q, by omega⟩
          refine x_aload_n 42 rfl dX7_hears_41 0 rfl ?_
          refine x_iload_n 43 rfl dX7_hears_42 1 rfl ?_
          refine x_iload_n 44 rfl dX7_hears_43 2 rfl ?_
          refine x_callV 47 rfl (c_X7_upTo G mo ad qt sc b p q (by omega) (by omega)) [0, 1] rfl (by decide) 0 rfl rfl gX7_hears_X7_upTo rfl rfl rfl hd_X7_upTo ⟨Nat.le_of_ble_eq_true rfl, Nat.le_of_ble_eq_true rfl⟩ (As := [.int (zI ((p : Nat) : Int)), .int (zI ((q : Nat) : Int))]) (rest := []) rfl rfl (Nat.le_of_ble_eq_true rfl) dX7_hears_44 ⟨Nat.zero_le _, Nat.zero_le _⟩ (fun v w hq => ?_)
          obtain ⟨rfl, rfl⟩ := hq
          refine ⟨rfl, ?_⟩
          refine x_ws (ws' := [(mo, moE ad qt sc), (ad 0, aI G 66 b), (ad 4, aI G 3 rf)]) (rfl) ?_
          refine x_istore 49 rfl (lv' := [(4, .int (zI (upN b p q))), (0, .ref mo), (1, .int (zI ((p : Nat) : Int))), (2, .int (zI ((q : Nat) : Int))), (3, .int (zI w))]) dX7_hears_47 (by decide) rfl ?_
          refine x_aload_n 50 rfl dX7_hears_49 1 rfl ?_
          refine x_get 53 rfl 0 0 rfl rfl (by decide) inX7_hears_X7 flX7_hears_7 rfl dX7_hears_50 ?_
          refine x_iload_n 54 rfl dX7_hears_53 2 rfl ?_
          refine x_iload_n 55 rfl dX7_hears_54 3 rfl ?_
          refine x_icmp_le 58 rfl (tgt := 70) dX7_hears_55 (by decide) (by omega) (by omega) (fun h55 => ?_) (fun h55 => ?_)
          · skip
            have hpp : q * (q - 1) ≤ 5 * 4 := Nat.mul_le_mul (by omega) (by omega)
            have htl := tri_lt (p := q) (q := p) (by omega) (by omega)
            have hix : hIx p q = q * (q - 1) / 2 + p := by unfold hIx; rw [if_neg (by omega)]
            refine x_iload_n 71 rfl dX7_hears_70 3 rfl ?_
            refine x_iload_n 72 rfl dX7_hears_71 3 rfl ?_
            refine x_iconst 73 rfl dX7_hears_72 (z := 1) (by decide) ?_
            refine x_isub 74 rfl dX7_hears_73 (z := ((q - 1 : Nat) : Int)) (by omega) ?_
            refine x_imul 75 rfl dX7_hears_74 (z := ((q * (q - 1) : Nat) : Int)) ((Int.natCast_mul _ _).symm) ?_
            refine x_iconst 76 rfl dX7_hears_75 (z := 2) (by decide) ?_
            refine x_idiv 77 rfl dX7_hears_76 (z := (((q * (q - 1)) / 2 : Nat) : Int)) (by decide) (zI_div (a := (q * (q - 1))) (d := 2) (by omega) (by omega) (by omega)) ?_
            refine x_iload_n 78 rfl dX7_hears_77 2 rfl ?_
            refine x_iadd 79 rfl dX7_hears_78 (z := (((q * (q - 1)) / 2 + p : Nat) : Int)) (by omega) ?_
            refine x_iload_n 80 rfl dX7_hears_79 4 rfl ?_
            refine x_iast 81 rfl 1 (hIx p q) rfl (⟨by omega, by omega⟩) (by decide) (ws' := [(mo, moE ad qt sc), (ad 0, aI G 66 (zup b (hIx p q) w)), (ad 4, aI G 3 rf)]) (rfl) dX7_hears_80 ?_
            refine x_iload 83 rfl dX7_hears_81 0 rfl ?_
            refine x_iret rfl ?_ dX7_hears_83
            have hk : kH p q w = 0 := by unfold kH; exact if_pos (by omega)
            exact ⟨by unfold rH; rw [hk]; rfl, by unfold bH; rw [hk]; rfl⟩
          · skip
            have hpp : p * (p - 1) ≤ 5 * 4 := Nat.mul_le_mul (by omega) (by omega)
            have htl := tri_lt (p := p) (q := q) (by omega) (by omega)
            have hix : hIx p q = p * (p - 1) / 2 + q := by unfold hIx; rw [if_pos (by omega)]
            refine x_iload_n 59 rfl dX7_hears_58 2 rfl ?_
            refine x_iload_n 60 rfl dX7_hears_59 2 rfl ?_
            refine x_iconst 61 rfl dX7_hears_60 (z := 1) (by decide) ?_
            refine x_isub 62 rfl dX7_hears_61 (z := ((p - 1 : Nat) : Int)) (by omega) ?_
            refine x_imul 63 rfl dX7_hears_62 (z := ((p * (p - 1) : Nat) : Int)) ((Int.natCast_mul _ _).symm) ?_
            refine x_iconst 64 rfl dX7_hears_63 (z := 2) (by decide) ?_
            refine x_idiv 65 rfl dX7_hears_64 (z := (((p * (p - 1)) / 2 : Nat) : Int)) (by decide) (zI_div (a := (p * (p - 1))) (d := 2) (by omega) (by omega) (by omega)) ?_
            refine x_iload_n 66 rfl dX7_hears_65 3 rfl ?_
            refine x_iadd 67 rfl dX7_hears_66 (z := (((p * (p - 1)) / 2 + q : Nat) : Int)) (by omega) ?_
            refine x_goto dX7_hears_67 (tgt := 79) (by decide) ?_
            refine x_iload_n 80 rfl dX7_hears_79 4 rfl ?_
            refine x_iast 81 rfl 1 (hIx p q) rfl (⟨by omega, by omega⟩) (by decide) (ws' := [(mo, moE ad qt sc), (ad 0, aI G 66 (zup b (hIx p q) w)), (ad 4, aI G 3 rf)]) (rfl) dX7_hears_80 ?_
            refine x_iload 83 rfl dX7_hears_81 0 rfl ?_
            refine x_iret rfl ?_ dX7_hears_83
            have hk : kH p q w = 0 := by unfold kH; exact if_pos (by omega)
            exact ⟨by unfold rH; rw [hk]; rfl, by unfold bH; rw [hk]; rfl⟩
        · have h30 := of_decide_eq_false h30
          refine x_aload_n 34 rfl dX7_hears_33 0 rfl ?_
          refine x_iconst 35 rfl dX7_hears_34 (z := 0) (by decide) ?_
          refine x_bipush 37 rfl dX7_hears_35 (z := (-10)) (by decide) ?_
          refine x_callV 40 rfl (c_X7_refuses G mo ad qt sc rf 0 (-10) (by omega)) [0, 2] rfl (by decide) 0 rfl rfl gX7_hears_X7_refuses rfl rfl rfl hd_X7_refuses ⟨Nat.le_of_ble_eq_true rfl, Nat.le_of_ble_eq_true rfl⟩ (As := [.int (zI 0), .int (zI (-10))]) (rest := []) rfl rfl (Nat.le_of_ble_eq_true rfl) dX7_hears_37 ⟨Nat.zero_le _, Nat.zero_le _⟩ (fun v w hq => ?_)
          obtain ⟨rfl, rfl⟩ := hq
          refine ⟨rfl, ?_⟩
          refine x_ws (ws' := [(mo, moE ad qt sc), (ad 0, aI G 66 b), (ad 4, aI G 3 (rfU qt rf 0))]) (rfl) ?_
          refine x_iret rfl ?_ dX7_hears_40
          have hk : kH p q w = 1 := by unfold kH; exact if_neg (by omega)
          exact ⟨by unfold rH; rw [hk]; rfl, by unfold bH; rw [hk]; rfl⟩

abbrev P_X7_one (G : XG) (mo : Nat) (ad : Nat → Nat) (qt : Bool) (sc : Nat → Int) (b : Nat → Int) (rf : Nat → Int) (n : Nat) (d : Nat) (c : Nat) (ear : Int) (tune : Int) (place : Int) (kin : Int) : Option Value → va_W → Prop := fun r ws => r = some (.int (zI (rC (kO n ear tune place kin) (n : Int)))) ∧ ws = [(mo, moE ad qt sc), (ad 0, aI G 66 (bO b n ear tune place kin)), (ad 4, aI G 3 (rfC qt rf (kO n ear tune place kin)))]
abbrev W_X7_one (G : XG) (E : XE) (mo : Nat) (ad : Nat → Nat) (qt : Bool) (sc : Nat → Int) (b : Nat → Int) (rf : Nat → Int) (n : Nat) (d : Nat) (c : Nat) (ear : Int) (tune : Int) (place : Int) (kin : Int) (pc : Nat) (lv : List (Nat × Value)) (st : List Value) (ws : va_W) : Prop := Wx G E (rmL 2) cX7_one 6 RX7 wsX7_one (some .int) "one" 0 0 (P_X7_one G mo ad qt sc b rf n d c ear tune place kin) 0 0 pc lv st ws
theorem flX7_one_7 : Cond.fieldLink RX7 7 (TX7 0).1 (TX7 0).2.1 (TX7 0).2.2.1 ∈ wsX7_one := by decide +kernel
theorem inX7_one_X7 : ∀ w ∈ u_ws RX7 TX7 18, w ∈ wsX7_one := fun _ h => List.mem_cons_of_mem _ (List.mem_append_right _ h)
theorem wX7_one_cl55 : Cond.constantLong RX7 55 (zL 5) ∈ wsX7_one := by decide +kernel
theorem wX7_one_cl61 : Cond.constantLong RX7 61 (zL 3) ∈ wsX7_one := by decide +kernel
set_option maxHeartbeats 4000000 in
set_option maxRecDepth 100000 in
/-- one -/
theorem c_X7_one (G : XG) (mo : Nat) (ad : Nat → Nat) (qt : Bool) (sc : Nat → Int) (b rf : Nat → Int) (n d c : Nat) (I : Inv b n d c) (ear tune place kin : Int) (h1 : Z32 ear) (h2 : Z32 tune) (h3 : Z32 place) (h4 : Z32 kin) : Con G yX7_one wsX7_one (rmL 2) 0 0 [.ref mo, .int (zI ear), .int (zI tune), .int (zI place), .int (zI kin)] ([(mo, moE ad qt sc), (ad 0, aI G 66 b), (ad 4, aI G 3 rf)]) (P_X7_one G mo ad qt sc b rf n d c ear tune place kin) := by
  refine x_start (cc := cX7_one) (nL := 6) (ret := (some .int)) (by decide) rfl (Nat.le_of_ble_eq_true rfl) (fun E => ?_)
  show W_X7_one G E mo ad qt sc b rf n d c ear tune place kin 0 [(0, .ref mo), (1, .int (zI ear)), (2, .int (zI tune)), (3, .int (zI place)), (4, .int (zI kin))] [] ([(mo, moE ad qt sc), (ad 0, aI G 66 b), (ad 4, aI G 3 rf)])
  have hn := I.n1
  have hn7 := I.n7
  have hd := I.d1
  have hd6 := I.d6
  have hc := I.c1
  have hc8 := I.c8
  refine x_iload_n 1 rfl dX7_one_0 1 rfl ?_
  refine x_i2l 2 rfl dX7_one_1 (z := (zL ear)) (zI_i2l (by omega)) ?_
  refine x_lconst 3 rfl dX7_one_2 (z := 0) (by decide) ?_
  refine x_ldc2 6 rfl (v := zL 5) wX7_one_cl55 dX7_one_3 ?_
  refine x_callS0 9 rfl (c_X7_in G ear 0 5 (by omega) (by omega) (by decide)) (fun _ _ h => h.2) gX7_one_X7_in rfl rfl rfl hd_X7_in ⟨Nat.le_of_ble_eq_true rfl, Nat.le_of_ble_eq_true rfl⟩ (As := [.long (zL ear), .long (zL 0), .long (zL 5)]) (rest := []) rfl rfl (Nat.le_of_ble_eq_true rfl) dX7_one_6 ⟨Nat.zero_le _, Nat.zero_le _⟩ (fun v hq => ?_)
  obtain ⟨rfl, -⟩ := hq
  refine x_bif_eq 12 rfl (tgt := 39) dX7_one_9 (by decide) (fun h9 => ?_) (fun h9 => ?_)
  · have h9 := of_decide_eq_false h9
    refine x_aload_n 40 rfl dX7_one_39 0 rfl ?_
    refine x_callV 43 rfl (c_X7_bad G mo ad qt sc rf) [0, 2] rfl (by decide) 0 rfl rfl gX7_one_X7_bad rfl rfl rfl hd_X7_bad ⟨Nat.le_of_ble_eq_true rfl, Nat.le_of_ble_eq_true rfl⟩ (As := []) (rest := []) rfl rfl (Nat.le_of_ble_eq_true rfl) dX7_one_40 ⟨Nat.zero_le _, Nat.zero_le _⟩ (fun v w hq => ?_)
    obtain ⟨rfl, rfl⟩ := hq
    refine ⟨rfl, ?_⟩
    refine x_ws (ws' := [(mo, moE ad qt sc), (ad 0, aI G 66 b), (ad 4, aI G 3 (rfU qt rf 0))]) (rfl) ?_
    refine x_iret rfl ?_ dX7_one_43
    have hk : kO n ear tune place kin = 1 := by unfold kO; exact if_neg (fun hh => by first | omega | (simp [*] at hh; done) | (obtain ⟨ha, hb, hc, hd⟩ := hh; first | omega | simp_all) | (obtain ⟨ha, hb, hc⟩ := hh; first | omega | simp_all) | (obtain ⟨ha, hb⟩ := hh; first | omega | simp_all))
    exact ⟨by rw [hk]; rfl, by unfold bO; rw [hk]; rfl⟩
  · have h9 := of_decide_eq_true h9
    refine x_iload_n 13 rfl dX7_one_12 2 rfl ?_
    refine x_callS0 16 rfl (c_X7_isTune G tune (by omega)) (fun _ _ h => h.2) gX7_one_X7_isTune rfl rfl rfl hd_X7_isTune ⟨Nat.le_of_ble_eq_true rfl, Nat.le_of_ble_eq_true rfl⟩ (As := [.int (zI tune)]) (rest := []) rfl rfl (Nat.le_of_ble_eq_true rfl) dX7_one_13 ⟨Nat.zero_le _, Nat.zero_le _⟩ (fun v hq => ?_)
    obtain ⟨rfl, -⟩ := hq
    refine x_bif_eq 19 rfl (tgt := 39) dX7_one_16 (by decide) (fun h16 => ?_) (fun h16 => ?_)
    · skip
      refine x_aload_n 40 rfl dX7_one_39 0 rfl ?_
      refine x_callV 43 rfl (c_X7_bad G mo ad qt sc rf) [0, 2] rfl (by decide) 0 rfl rfl gX7_one_X7_bad rfl rfl rfl hd_X7_bad ⟨Nat.le_of_ble_eq_true rfl, Nat.le_of_ble_eq_true rfl⟩ (As := []) (rest := []) rfl rfl (Nat.le_of_ble_eq_true rfl) dX7_one_40 ⟨Nat.zero_le _, Nat.zero_le _⟩ (fun v w hq => ?_)
      obtain ⟨rfl, rfl⟩ := hq
      refine ⟨rfl, ?_⟩
      refine x_ws (ws' := [(mo, moE ad qt sc), (ad 0, aI G 66 b), (ad 4, aI G 3 (rfU qt rf 0))]) (rfl) ?_
      refine x_iret rfl ?_ dX7_one_43
      have hk : kO n ear tune place kin = 1 := by unfold kO; exact if_neg (fun hh => by first | omega | (simp [*] at hh; done) | (obtain ⟨ha, hb, hc, hd⟩ := hh; first | omega | simp_all) | (obtain ⟨ha, hb, hc⟩ := hh; first | omega | simp_all) | (obtain ⟨ha, hb⟩ := hh; first | omega | simp_all))
      exact ⟨by rw [hk]; rfl, by unfold bO; rw [hk]; rfl⟩
    · skip
      refine x_iload_n 20 rfl dX7_one_19 3 rfl ?_
      refine x_callS0 23 rfl (c_X7_isPlace G place (by omega)) (fun _ _ h => h.2) gX7_one_X7_isPlace rfl rfl rfl hd_X7_isPlace ⟨Nat.le_of_ble_eq_true rfl, Nat.le_of_ble_eq_true rfl⟩ (As := [.int (zI place)]) (rest := []) rfl rfl (Nat.le_of_ble_eq_true rfl) dX7_one_20 ⟨Nat.zero_le _, Nat.zero_le _⟩ (fun v hq => ?_)
      obtain ⟨rfl, -⟩ := hq
      refine x_bif_eq 26 rfl (tgt := 39) dX7_one_23 (by decide) (fun h23 => ?_) (fun h23 => ?_)
      · have h23 := of_decide_eq_false h23
        refine x_aload_n 40 rfl dX7_one_39 0 rfl ?_
        refine x_callV 43 rfl (c_X7_bad G mo ad qt sc rf) [0, 2] rfl (by decide) 0 rfl rfl gX7_one_X7_bad rfl rfl rfl hd_X7_bad ⟨Nat.le_of_ble_eq_true rfl, Nat.le_of_ble_eq_true rfl⟩ (As := []) (rest := []) rfl rfl (Nat.le_of_ble_eq_true rfl) dX7_one_40 ⟨Nat.zero_le _, Nat.zero_le _⟩ (fun v w hq => ?_)
        obtain ⟨rfl, rfl⟩ := hq
        refine ⟨rfl, ?_⟩
        refine x_ws (ws' := [(mo, moE ad qt sc), (ad 0, aI G 66 b), (ad 4, aI G 3 (rfU qt rf 0))]) (rfl) ?_
        refine x_iret rfl ?_ dX7_one_43
        have hk : kO n ear tune place kin = 1 := by unfold kO; exact if_neg (fun hh => by first | omega | (simp [*] at hh; done) | (obtain ⟨ha, hb, hc, hd⟩ := hh; first | omega | simp_all) | (obtain ⟨ha, hb, hc⟩ := hh; first | omega | simp_all) | (obtain ⟨ha, hb⟩ := hh; first | omega | simp_all))
        exact ⟨by rw [hk]; rfl, by unfold bO; rw [hk]; rfl⟩
      · have h23 := of_decide_eq_true h23
        refine x_iload 28 rfl dX7_one_26 4 rfl ?_
        refine x_i2l 29 rfl dX7_one_28 (z := (zL kin)) (zI_i2l (by omega)) ?_
        refine x_lconst 30 rfl dX7_one_29 (z := 0) (by decide) ?_
        refine x_ldc2 33 rfl (v := zL 3) wX7_one_cl61 dX7_one_30 ?_
        refine x_callS0 36 rfl (c_X7_in G kin 0 3 (by omega) (by omega) (by decide)) (fun _ _ h => h.2) gX7_one_X7_in rfl rfl rfl hd_X7_in ⟨Nat.le_of_ble_eq_true rfl, Nat.le_of_ble_eq_true rfl⟩ (As := [.long (zL kin), .long (zL 0), .long (zL 3)]) (rest := []) rfl rfl (Nat.le_of_ble_eq_true rfl) dX7_one_33 ⟨Nat.zero_le _, Nat.zero_le _⟩ (fun v hq => ?_)
        obtain ⟨rfl, -⟩ := hq
        refine x_bif_ne 39 rfl (tgt := 44) dX7_one_36 (by decide) (fun h36 => ?_) (fun h36 => ?_)
        · have h36 := of_decide_eq_true h36
          refine x_aload_n 45 rfl dX7_one_44 0 rfl ?_
          refine x_get 48 rfl 0 0 rfl rfl (by decide) inX7_one_X7 flX7_one_7 rfl dX7_one_45 ?_
          refine x_bipush 50 rfl dX7_one_48 (z := 15) (by decide) ?_
          refine x_iald 51 rfl 1 15 rfl (⟨by omega, by omega⟩) (by decide) (v := ((n : Nat) : Int)) (hn) dX7_one_50 ?_
          refine x_bipush 53 rfl dX7_one_51 (z := 7) (by decide) ?_
          refine x_icmp_ne 56 rfl (tgt := 61) dX7_one_53 (by decide) (by omega) (by decide) (fun h53 => ?_) (fun h53 => ?_)
          · skip
            refine x_bipush 63 rfl dX7_one_61 (z := 18) (by decide) ?_
            refine x_iconst 64 rfl dX7_one_63 (z := 4) (by decide) ?_
            refine x_aload_n 65 rfl dX7_one_64 0 rfl ?_
            refine x_get 68 rfl 0 0 rfl rfl (by decide) inX7_one_X7 flX7_one_7 rfl dX7_one_65 ?_
            refine x_bipush 70 rfl dX7_one_68 (z := 15) (by decide) ?_
            refine x_iald 71 rfl 1 15 rfl (⟨by omega, by omega⟩) (by decide) (v := ((n : Nat) : Int)) (hn) dX7_one_70 ?_
            refine x_imul 72 rfl dX7_one_71 (z := ((4 * n : Nat) : Int)) (by omega) ?_
            refine x_iadd 73 rfl dX7_one_72 (z := ((18 + (4 * n) : Nat) : Int)) (by omega) ?_
            refine x_istore 75 rfl (lv' := [(5, .int (zI ((18 + (4 * n) : Nat) : Int))), (0, .ref mo), (1, .int (zI ear)), (2, .int (zI tune)), (3, .int (zI place)), (4, .int (zI kin))]) dX7_one_73 (by decide) rfl ?_
            refine x_aload_n 76 rfl dX7_one_75 1 rfl ?_
            refine x_get 79 rfl 0 0 rfl rfl (by decide) inX7_one_X7 flX7_one_7 rfl dX7_one_76 ?_
            refine x_iload 81 rfl dX7_one_79 0 rfl ?_
            refine x_iload_n 82 rfl dX7_one_81 2 rfl ?_
            refine x_iast 83 rfl 1 (18 + (4 * n)) rfl (⟨by omega, by omega⟩) (by decide) (ws' := [(mo, moE ad qt sc), (ad 0, aI G 66 (zup b (18 + (4 * n)) ear)), (ad 4, aI G 3 rf)]) (rfl) dX7_one_82 ?_
            refine x_aload_n 84 rfl dX7_one_83 1 rfl ?_
            refine x_get 87 rfl 0 0 rfl rfl (by decide) inX7_one_X7 flX7_one_7 rfl dX7_one_84 ?_
            refine x_iload 89 rfl dX7_one_87 0 rfl ?_
            refine x_iconst 90 rfl dX7_one_89 (z := 1) (by decide) ?_
            refine x_iadd 91 rfl dX7_one_90 (z := ((18 + (4 * n) + 1 : Nat) : Int)) (by omega) ?_
            refine x_iload_n 92 rfl dX7_one_91 3 rfl ?_
            refine x_iast 93 rfl 1 (18 + (4 * n) + 1) rfl (⟨by omega, by omega⟩) (by decide) (ws' := [(mo, moE ad qt sc), (ad 0, aI G 66 (zup (zup b (18 + (4 * n)) ear) (18 + (4 * n) + 1) tune)), (ad 4, aI G 3 rf)]) (rfl) dX7_one_92 ?_
            refine x_aload_n 94 rfl dX7_one_93 1 rfl ?_
            refine x_get 97 rfl 0 0 rfl rfl (by decide) inX7_one_X7 flX7_one_7 rfl dX7_one_94 ?_
            refine x_iload 99 rfl dX7_one_97 0 rfl ?_
            refine x_iconst 100 rfl dX7_one_99 (z := 2) (by decide) ?_
            refine x_iadd 101 rfl dX7_one_100 (z := ((18 + (4 * n) + 2 : Nat) : Int)) (by omega) ?_
            refine x_iload_n 102 rfl dX7_one_101 4 rfl ?_
            refine x_iast 103 rfl 1 (18 + (4 * n) + 2) rfl (⟨by omega, by omega⟩) (by decide) (ws' := [(mo, moE ad qt sc), (ad 0, aI G 66 (zup (zup (zup b (18 + (4 * n)) ear) (18 + (4 * n) + 1) tune) (18 + (4 * n) + 2) place)), (ad 4, aI G 3 rf)]) (rfl) dX7_one_102 ?_
            refine x_aload_n 104 rfl dX7_one_103 1 rfl ?_
            refine x_get 107 rfl 0 0 rfl rfl (by decide) inX7_one_X7 flX7_one_7 rfl dX7_one_104 ?_
            refine x_iload 109 rfl dX7_one_107 0 rfl ?_
            refine x_iconst 110 rfl dX7_one_109 (z := 3) (by decide) ?_
            refine x_iadd 111 rfl dX7_one_110 (z := ((18 + (4 * n) + 3 : Nat) : Int)) (by omega) ?_
            refine x_iload 113 rfl dX7_one_111 5 rfl ?_
            refine x_iast 114 rfl 1 (18 + (4 * n) + 3) rfl (⟨by omega, by omega⟩) (by decide) (ws' := [(mo, moE ad qt sc), (ad 0, aI G 66 (zup (zup (zup (zup b (18 + (4 * n)) ear) (18 + (4 * n) + 1) tune) (18 + (4 * n) + 2) place) (18 + (4 * n) + 3) kin)), (ad 4, aI G 3 rf)]) (rfl) dX7_one_113 ?_
            refine x_aload_n 115 rfl dX7_one_114 1 rfl ?_
            refine x_get 118 rfl 0 0 rfl rfl (by decide) inX7_one_X7 flX7_one_7 rfl dX7_one_115 ?_
            refine x_bipush 120 rfl dX7_one_118 (z := 15) (by decide) ?_
            refine x_dup2 121 rfl dX7_one_120 rfl rfl ?_
            refine x_iald 122 rfl 1 15 rfl (⟨by omega, by omega⟩) (by decide) (v := ((n : Nat) : Int)) (by rw [zup_n _ _ (by omega), zup_n _ _ (by omega), zup_n _ _ (by omega), zup_n _ _ (by omega)]; exact hn) dX7_one_121 ?_
            refine x_iconst 123 rfl dX7_one_122 (z := 1) (by decide) ?_
            refine x_iadd 124 rfl dX7_one_123 (z := ((n + 1 : Nat) : Int)) (by omega) ?_
            refine x_iast 125 rfl 1 15 rfl (⟨by omega, by omega⟩) (by decide) (ws' := [(mo, moE ad qt sc), (ad 0, aI G 66 (zup (zup (zup (zup (zup b (18 + (4 * n)) ear) (18 + (4 * n) + 1) tune) (18 + (4 * n) + 2) place) (18 + (4 * n) + 3) kin) 15 ((n + 1 : Nat) : Int))), (ad 4, aI G 3 rf)]) (rfl) dX7_one_124 ?_
            refine x_aload_n 126 rfl dX7_one_125 1 rfl ?_
            refine x_get 129 rfl 0 0 rfl rfl (by decide) inX7_one_X7 flX7_one_7 rfl dX7_one_126 ?_
            refine x_bipush 131 rfl dX7_one_129 (z := 15) (by decide) ?_
            refine x_iald 132 rfl 1 15 rfl (⟨by omega, by omega⟩) (by decide) (v := ((n + 1 : Nat) : Int)) (zup_s _ _ _) dX7_one_131 ?_
            refine x_iconst 133 rfl dX7_one_132 (z := 1) (by decide) ?_
            refine x_isub 134 rfl dX7_one_133 (z := ((n + 1 : Nat) : Int) - 1) (rfl) ?_
            refine x_iret rfl ?_ dX7_one_134
            have hk : kO n ear tune place kin = 0 := by unfold kO; rw [if_pos ⟨by omega, h16, by omega, by omega⟩, if_neg (by omega)]
            exact ⟨by rw [hk]; exact congrArg (fun z => some (Value.int (zI z))) (by omega : ((n + 1 : Nat) : Int) - 1 = (n : Int)), by unfold bO; rw [hk]; rfl⟩
          · skip
            refine x_aload_n 57 rfl dX7_one_56 0 rfl ?_
            refine x_callV 60 rfl (c_X7_full G mo ad qt sc rf) [0, 2] rfl (by decide) 0 rfl rfl gX7_one_X7_full rfl rfl rfl hd_X7_full ⟨Nat.le_of_ble_eq_true rfl, Nat.le_of_ble_eq_true rfl⟩ (As := []) (rest := []) rfl rfl (Nat.le_of_ble_eq_true rfl) dX7_one_57 ⟨Nat.zero_le _, Nat.zero_le _⟩ (fun v w hq => ?_)
            obtain ⟨rfl, rfl⟩ := hq
            refine ⟨rfl, ?_⟩
            refine x_ws (ws' := [(mo, moE ad qt sc), (ad 0, aI G 66 b), (ad 4, aI G 3 (rfU qt rf 2))]) (rfl) ?_
            refine x_iret rfl ?_ dX7_one_60
            have hk : kO n ear tune place kin = 3 := by unfold kO; rw [if_pos ⟨by omega, h16, by omega, by omega⟩, if_pos (by omega)]
            exact ⟨by rw [hk]; rfl, by unfold bO; rw [hk]; rfl⟩
        · have h36 := of_decide_eq_false h36
          refine x_aload_n 40 rfl dX7_one_39 0 rfl ?_
          refine x_callV 43 rfl (c_X7_bad G mo ad qt sc rf) [0, 2] rfl (by decide) 0 rfl rfl gX7_one_X7_bad rfl rfl rfl hd_X7_bad ⟨Nat.le_of_ble_eq_true rfl, Nat.le_of_ble_eq_true rfl⟩ (As := []) (rest := []) rfl rfl (Nat.le_of_ble_eq_true rfl) dX7_one_40 ⟨Nat.zero_le _, Nat.zero_le _⟩ (fun v w hq => ?_)
          obtain ⟨rfl, rfl⟩ := hq
          refine ⟨rfl, ?_⟩
          refine x_ws (ws' := [(mo, moE ad qt sc), (ad 0, aI G 66 b), (ad 4, aI G 3 (rfU qt rf 0))]) (rfl) ?_
          refine x_iret rfl ?_ dX7_one_43
          have hk : kO n ear tune place kin = 1 := by unfold kO; exact if_neg (fun hh => by first | omega | (simp [*] at hh; done) | (obtain ⟨ha, hb, hc, hd⟩ := hh; first | omega | simp_all) | (obtain ⟨ha, hb, hc⟩ := hh; first | omega | simp_all) | (obtain ⟨ha, hb⟩ := hh; first | omega | simp_all))
          exact ⟨by rw [hk]; rfl, by unfold bO; rw [hk]; rfl⟩

abbrev P_X7_rename (G : XG) (mo : Nat) (ad : Nat → Nat) (qt : Bool) (sc : Nat → Int) (b : Nat → Int) (rf : Nat → Int) (n : Nat) (d : Nat) (c : Nat) (p : Int) (tune : Int) : Option Value → va_W → Prop := fun r ws => r = some (.int (zI (rC (kR n p tune) (b (18 + 4 * p.toNat + 1))))) ∧ ws = [(mo, moE ad qt sc), (ad 0, aI G 66 (bR b n p tune)), (ad 4, aI G 3 (rfC qt rf (kR n p tune)))]
abbrev W_X7_rename (G : XG) (E : XE) (mo : Nat) (ad : Nat → Nat) (qt : Bool) (sc : Nat → Int) (b : Nat → Int) (rf : Nat → Int) (n : Nat) (d : Nat) (c : Nat) (p : Int) (tune : Int) (pc : Nat) (lv : List (Nat × Value)) (st : List Value) (ws : va_W) : Prop := Wx G E (rmL 2) cX7_rename 4 RX7 wsX7_rename (some .int) "rename" 0 0 (P_X7_rename G mo ad qt sc b rf n d c p tune) 0 0 pc lv st ws
theorem flX7_rename_7 : Cond.fieldLink RX7 7 (TX7 0).1 (TX7 0).2.1 (TX7 0).2.2.1 ∈ wsX7_rename := by decide +kernel
theorem inX7_rename_X7 : ∀ w ∈ u_ws RX7 TX7 18, w ∈ wsX7_rename := fun _ h => List.mem_cons_of_mem _ (List.mem_append_right _ h)
set_option maxHeartbeats 4000000 in
set_option maxRecDepth 100000 in
/-- rename -/
theorem c_X7_rename (G : XG) (mo : Nat) (ad : Nat → Nat) (qt : Bool) (sc : Nat → Int) (b rf : Nat → Int) (n d c : Nat) (I : Inv b n d c) (p tune : Int) (h1 : Z32 p) (h2 : Z32 tune) : Con G yX7_rename wsX7_rename (rmL 2) 0 0 [.ref mo, .int (zI p), .int (zI tune)] ([(mo, moE ad qt sc), (ad 0, aI G 66 b), (ad 4, aI G 3 rf)]) (P_X7_rename G mo ad qt sc b rf n d c p tune) := by
  refine x_start (cc := cX7_rename) (nL := 4) (ret := (some .int)) (by decide) rfl (Nat.le_of_ble_eq_true rfl) (fun E => ?_)
  show W_X7_rename G E mo ad qt sc b rf n d c p tune 0 [(0, .ref mo), (1, .int (zI p)), (2, .int (zI tune))] [] ([(mo, moE ad qt sc), (ad 0, aI G 66 b), (ad 4, aI G 3 rf)])
  have hn := I.n1
  have hn7 := I.n7
  have hd := I.d1
  have hd6 := I.d6
  have hc := I.c1
  have hc8 := I.c8
  refine x_aload_n 1 rfl dX7_rename_0 0 rfl ?_
  refine x_iload_n 2 rfl dX7_rename_1 1 rfl ?_
  refine x_callV 5 rfl (c_X7_isOne G mo ad qt sc b n hn (by omega) p (by omega)) [0, 1] rfl (by decide) 0 rfl rfl gX7_rename_X7_isOne rfl rfl rfl hd_X7_isOne ⟨Nat.le_of_ble_eq_true rfl, Nat.le_of_ble_eq_true rfl⟩ (As := [.int (zI p)]) (rest := []) rfl rfl (Nat.le_of_ble_eq_true rfl) dX7_rename_2 ⟨Nat.zero_le _, Nat.zero_le _⟩ (fun v w hq => ?_)
  obtain ⟨rfl, rfl⟩ := hq
  refine ⟨rfl, ?_⟩
  refine x_ws (ws' := [(mo, moE ad qt sc), (ad 0, aI G 66 b), (ad 4, aI G 3 rf)]) (rfl) ?_
  refine x_bif_eq 8 rfl (tgt := 15) dX7_rename_5 (by decide) (fun h5 => ?_) (fun h5 => ?_)
  · have h5 := of_decide_eq_false h5
    refine x_aload_n 16 rfl dX7_rename_15 0 rfl ?_
    refine x_callV 19 rfl (c_X7_bad G mo ad qt sc rf) [0, 2] rfl (by decide) 0 rfl rfl gX7_rename_X7_bad rfl rfl rfl hd_X7_bad ⟨Nat.le_of_ble_eq_true rfl, Nat.le_of_ble_eq_true rfl⟩ (As := []) (rest := []) rfl rfl (Nat.le_of_ble_eq_true rfl) dX7_rename_16 ⟨Nat.zero_le _, Nat.zero_le _⟩ (fun v w hq => ?_)
    obtain ⟨rfl, rfl⟩ := hq
    refine ⟨rfl, ?_⟩
    refine x_ws (ws' := [(mo, moE ad qt sc), (ad 0, aI G 66 b), (ad 4, aI G 3 (rfU qt rf 0))]) (rfl) ?_
    refine x_iret rfl ?_ dX7_rename_19
    have hk : kR n p tune = 1 := by unfold kR; exact if_neg (fun hh => by first | omega | (simp [*] at hh; done) | (obtain ⟨ha, hb, hc, hd⟩ := hh; first | omega | simp_all) | (obtain ⟨ha, hb, hc⟩ := hh; first | omega | simp_all) | (obtain ⟨ha, hb⟩ := hh; first | omega | simp_all))
    exact ⟨by rw [hk]; rfl, by unfold bR; rw [hk]; rfl⟩
  · have h5 := of_decide_eq_true h5
    refine x_iload_n 9 rfl dX7_rename_8 2 rfl ?_
    refine x_callS0 12 rfl (c_X7_isTune G tune (by omega)) (fun _ _ h => h.2) gX7_rename_X7_isTune rfl rfl rfl hd_X7_isTune ⟨Nat.le_of_ble_eq_true rfl, Nat.le_of_ble_eq_true rfl⟩ (As := [.int (zI tune)]) (rest := []) rfl rfl (Nat.le_of_ble_eq_true rfl) dX7_rename_9 ⟨Nat.zero_le _, Nat.zero_le _⟩ (fun v hq => ?_)
    obtain ⟨rfl, -⟩ := hq
    refine x_bif_ne 15 rfl (tgt := 20) dX7_rename_12 (by decide) (fun h12 => ?_) (fun h12 => ?_)
    · skip
      obtain ⟨p, rfl⟩ : ∃ zk : Nat, p = (zk : Int) := ⟨Int.toNat p, by omega⟩
      refine x_aload_n 21 rfl dX7_rename_20 0 rfl ?_
      refine x_iload_n 22 rfl dX7_rename_21 1 rfl ?_
      refine x_iconst 23 rfl dX7_rename_22 (z := 1) (by decide) ?_
      refine x_callV 26 rfl (c_X7_of G mo ad qt sc b p 1 (by omega) (by omega)) [0, 1] rfl (by decide) 0 rfl rfl gX7_rename_X7_of rfl rfl rfl hd_X7_of ⟨Nat.le_of_ble_eq_true rfl, Nat.le_of_ble_eq_true rfl⟩ (As := [.int (zI ((p : Nat) : Int)), .int (zI 1)]) (rest := []) rfl rfl (Nat.le_of_ble_eq_true rfl) dX7_rename_23 ⟨Nat.zero_le _, Nat.zero_le _⟩ (fun v w hq => ?_)
      obtain ⟨rfl, rfl⟩ := hq
      refine ⟨rfl, ?_⟩
      refine x_ws (ws' := [(mo, moE ad qt sc), (ad 0, aI G 66 b), (ad 4, aI G 3 rf)]) (rfl) ?_
      refine x_istore_n 27 rfl (lv' := [(3, .int (zI (b (18 + 4 * p + 1)))), (0, .ref mo), (1, .int (zI ((p : Nat) : Int))), (2, .int (zI tune))]) dX7_rename_26 (by decide) rfl ?_
      refine x_aload_n 28 rfl dX7_rename_27 1 rfl ?_
      refine x_get 31 rfl 0 0 rfl rfl (by decide) inX7_rename_X7 flX7_rename_7 rfl dX7_rename_28 ?_
      refine x_bipush 33 rfl dX7_rename_31 (z := 18) (by decide) ?_
      refine x_iconst 34 rfl dX7_rename_33 (z := 4) (by decide) ?_
      refine x_iload_n 35 rfl dX7_rename_34 2 rfl ?_
      refine x_imul 36 rfl dX7_rename_35 (z := ((4 * p : Nat) : Int)) (by omega) ?_
      refine x_iadd 37 rfl dX7_rename_36 (z := ((18 + (4 * p) : Nat) : Int)) (by omega) ?_
      refine x_iconst 38 rfl dX7_rename_37 (z := 1) (by decide) ?_
      refine x_iadd 39 rfl dX7_rename_38 (z := ((18 + (4 * p) + 1 : Nat) : Int)) (by omega) ?_
      refine x_iload_n 40 rfl dX7_rename_39 3 rfl ?_
      refine x_iast 41 rfl 1 (18 + (4 * p) + 1) rfl (⟨by omega, by omega⟩) (by decide) (ws' := [(mo, moE ad qt sc), (ad 0, aI G 66 (zup b (18 + (4 * p) + 1) tune)), (ad 4, aI G 3 rf)]) (rfl) dX7_rename_40 ?_
      refine x_iload_n 42 rfl dX7_rename_41 0 rfl ?_
      refine x_iret rfl ?_ dX7_rename_42
      have hk : kR n p tune = 0 := by unfold kR; exact if_pos ⟨by omega, h12⟩
      exact ⟨by rw [hk]; rfl, by unfold bR; rw [hk]; rfl⟩
    · skip
      refine x_aload_n 16 rfl dX7_rename_15 0 rfl ?_
      refine x_callV 19 rfl (c_X7_bad G mo ad qt sc rf) [0, 2] rfl (by decide) 0 rfl rfl gX7_rename_X7_bad rfl rfl rfl hd_X7_bad ⟨Nat.le_of_ble_eq_true rfl, Nat.le_of_ble_eq_true rfl⟩ (As := []) (rest := []) rfl rfl (Nat.le_of_ble_eq_true rfl) dX7_rename_16 ⟨Nat.zero_le _, Nat.zero_le _⟩ (fun v w hq => ?_)
      obtain ⟨rfl, rfl⟩ := hq
      refine ⟨rfl, ?_⟩
      refine x_ws (ws' := [(mo, moE ad qt sc), (ad 0, aI G 66 b), (ad 4, aI G 3 (rfU qt rf 0))]) (rfl) ?_
      refine x_iret rfl ?_ dX7_rename_19
      have hk : kR n p tune = 1 := by unfold kR; exact if_neg (fun hh => by first | omega | (simp [*] at hh; done) | (obtain ⟨ha, hb, hc, hd⟩ := hh; first | omega | simp_all) | (obtain ⟨ha, hb, hc⟩ := hh; first | omega | simp_all) | (obtain ⟨ha, hb⟩ := hh; first | omega | simp_all))
      exact ⟨by rw [hk]; rfl, by unfold bR; rw [hk]; rfl⟩

abbrev P_X7_move (G : XG) (mo : Nat) (ad : Nat → Nat) (qt : Bool) (sc : Nat → Int) (b : Nat → Int) (rf : Nat → Int) (n : Nat) (d : Nat) (c : Nat) (p : Int) (place : Int) : Option Value → va_W → Prop := fun r ws => r = some (.int (zI (rC (kM n p place) (b (18 + 4 * p.toNat + 2))))) ∧ ws = [(mo, moE ad qt sc), (ad 0, aI G 66 (bM b n p place)), (ad 4, aI G 3 (rfC qt rf (kM n p place)))]
abbrev W_X7_move (G : XG) (E : XE) (mo : Nat) (ad : Nat → Nat) (qt : Bool) (sc : Nat → Int) (b : Nat → Int) (rf : Nat → Int) (n : Nat) (d : Nat) (c : Nat) (p : Int) (place : Int) (pc : Nat) (lv : List (Nat × Value)) (st : List Value) (ws : va_W) : Prop := Wx G E (rmL 2) cX7_move 4 RX7 wsX7_move (some .int) "move" 0 0 (P_X7_move G mo ad qt sc b rf n d c p place) 0 0 pc lv st ws
theorem flX7_move_7 : Cond.fieldLink RX7 7 (TX7 0).1 (TX7 0).2.1 (TX7 0).2.2.1 ∈ wsX7_move := by decide +kernel
theorem inX7_move_X7 : ∀ w ∈ u_ws RX7 TX7 18, w ∈ wsX7_move := fun _ h => List.mem_cons_of_mem _ (List.mem_append_right _ h)
set_option maxHeartbeats 4000000 in
set_option maxRecDepth 100000 in
/-- move -/
theorem c_X7_move (G : XG) (mo : Nat) (ad : Nat → Nat) (qt : Bool) (sc : Nat → Int) (b rf : Nat → Int) (n d c : Nat) (I : Inv b n d c) (p place : Int) (h1 : Z32 p) (h2 : Z32 place) : Con G yX7_move wsX7_move (rmL 2) 0 0 [.ref mo, .int (zI p), .int (zI place)] ([(mo, moE ad qt sc), (ad 0, aI G 66 b), (ad 4, aI G 3 rf)]) (P_X7_move G mo ad qt sc b rf n d c p place) := by
  refine x_start (cc := cX7_move) (nL := 4) (ret := (some .int)) (by decide) rfl (Nat.le_of_ble_eq_true rfl) (fun E => ?_)
  show W_X7_move G E mo ad qt sc b rf n d c p place 0 [(0, .ref mo), (1, .int (zI p)), (2, .int (zI place))] [] ([(mo, moE ad qt sc), (ad 0, aI G 66 b), (ad 4, aI G 3 rf)])
  have hn := I.n1
  have hn7 := I.n7
  have hd := I.d1
  have hd6 := I.d6
  have hc := I.c1
  have hc8 := I.c8
  refine x_aload_n 1 rfl dX7_move_0 0 rfl ?_
  refine x_iload_n 2 rfl dX7_move_1 1 rfl ?_
  refine x_callV 5 rfl (c_X7_isOne G mo ad qt sc b n hn (by omega) p (by omega)) [0, 1] rfl (by decide) 0 rfl rfl gX7_move_X7_isOne rfl rfl rfl hd_X7_isOne ⟨Nat.le_of_ble_eq_true rfl, Nat.le_of_ble_eq_true rfl⟩ (As := [.int (zI p)]) (rest := []) rfl rfl (Nat.le_of_ble_eq_true rfl) dX7_move_2 ⟨Nat.zero_le _, Nat.zero_le _⟩ (fun v w hq => ?_)
  obtain ⟨rfl, rfl⟩ := hq
  refine ⟨rfl, ?_⟩
  refine x_ws (ws' := [(mo, moE ad qt sc), (ad 0, aI G 66 b), (ad 4, aI G 3 rf)]) (rfl) ?_
  refine x_bif_eq 8 rfl (tgt := 15) dX7_move_5 (by decide) (fun h5 => ?_) (fun h5 => ?_)
  · have h5 := of_decide_eq_false h5
    refine x_aload_n 16 rfl dX7_move_15 0 rfl ?_
    refine x_callV 19 rfl (c_X7_bad G mo ad qt sc rf) [0, 2] rfl (by decide) 0 rfl rfl gX7_move_X7_bad rfl rfl rfl hd_X7_bad ⟨Nat.le_of_ble_eq_true rfl, Nat.le_of_ble_eq_true rfl⟩ (As := []) (rest := []) rfl rfl (Nat.le_of_ble_eq_true rfl) dX7_move_16 ⟨Nat.zero_le _, Nat.zero_le _⟩ (fun v w hq => ?_)
    obtain ⟨rfl, rfl⟩ := hq
    refine ⟨rfl, ?_⟩
    refine x_ws (ws' := [(mo, moE ad qt sc), (ad 0, aI G 66 b), (ad 4, aI G 3 (rfU qt rf 0))]) (rfl) ?_
    refine x_iret rfl ?_ dX7_move_19
    have hk : kM n p place = 1 := by unfold kM; exact if_neg (fun hh => by first | omega | (simp [*] at hh; done) | (obtain ⟨ha, hb, hc, hd⟩ := hh; first | omega | simp_all) | (obtain ⟨ha, hb, hc⟩ := hh; first | omega | simp_all) | (obtain ⟨ha, hb⟩ := hh; first | omega | simp_all))
    exact ⟨by rw [hk]; rfl, by unfold bM; rw [hk]; rfl⟩
  · have h5 := of_decide_eq_true h5
    refine x_iload_n 9 rfl dX7_move_8 2 rfl ?_
    refine x_callS0 12 rfl (c_X7_isPlace G place (by omega)) (fun _ _ h => h.2) gX7_move_X7_isPlace rfl rfl rfl hd_X7_isPlace ⟨Nat.le_of_ble_eq_true rfl, Nat.le_of_ble_eq_true rfl⟩ (As := [.int (zI place)]) (rest := []) rfl rfl (Nat.le_of_ble_eq_true rfl) dX7_move_9 ⟨Nat.zero_le _, Nat.zero_le _⟩ (fun v hq => ?_)
    obtain ⟨rfl, -⟩ := hq
    refine x_bif_ne 15 rfl (tgt := 20) dX7_move_12 (by decide) (fun h12 => ?_) (fun h12 => ?_)
    · have h12 := of_decide_eq_true h12
      obtain ⟨p, rfl⟩ : ∃ zk : Nat, p = (zk : Int) := ⟨Int.toNat p, by omega⟩
      refine x_aload_n 21 rfl dX7_move_20 0 rfl ?_
      refine x_iload_n 22 rfl dX7_move_21 1 rfl ?_
      refine x_iconst 23 rfl dX7_move_22 (z := 2) (by decide) ?_
      refine x_callV 26 rfl (c_X7_of G mo ad qt sc b p 2 (by omega) (by omega)) [0, 1] rfl (by decide) 0 rfl rfl gX7_move_X7_of rfl rfl rfl hd_X7_of ⟨Nat.le_of_ble_eq_true rfl, Nat.le_of_ble_eq_true rfl⟩ (As := [.int (zI ((p : Nat) : Int)), .int (zI 2)]) (rest := []) rfl rfl (Nat.le_of_ble_eq_true rfl) dX7_move_23 ⟨Nat.zero_le _, Nat.zero_le _⟩ (fun v w hq => ?_)
      obtain ⟨rfl, rfl⟩ := hq
      refine ⟨rfl, ?_⟩
      refine x_ws (ws' := [(mo, moE ad qt sc), (ad 0, aI G 66 b), (ad 4, aI G 3 rf)]) (rfl) ?_
      refine x_istore_n 27 rfl (lv' := [(3, .int (zI (b (18 + 4 * p + 2)))), (0, .ref mo), (1, .int (zI ((p : Nat) : Int))), (2, .int (zI place))]) dX7_move_26 (by decide) rfl ?_
      refine x_aload_n 28 rfl dX7_move_27 1 rfl ?_
      refine x_get 31 rfl 0 0 rfl rfl (by decide) inX7_move_X7 flX7_move_7 rfl dX7_move_28 ?_
      refine x_bipush 33 rfl dX7_move_31 (z := 18) (by decide) ?_
      refine x_iconst 34 rfl dX7_move_33 (z := 4) (by decide) ?_
      refine x_iload_n 35 rfl dX7_move_34 2 rfl ?_
      refine x_imul 36 rfl dX7_move_35 (z := ((4 * p : Nat) : Int)) (by omega) ?_
      refine x_iadd 37 rfl dX7_move_36 (z := ((18 + (4 * p) : Nat) : Int)) (by omega) ?_
      refine x_iconst 38 rfl dX7_move_37 (z := 2) (by decide) ?_
      refine x_iadd 39 rfl dX7_move_38 (z := ((18 + (4 * p) + 2 : Nat) : Int)) (by omega) ?_
      refine x_iload_n 40 rfl dX7_move_39 3 rfl ?_
      refine x_iast 41 rfl 1 (18 + (4 * p) + 2) rfl (⟨by omega, by omega⟩) (by decide) (ws' := [(mo, moE ad qt sc), (ad 0, aI G 66 (zup b (18 + (4 * p) + 2) place)), (ad 4, aI G 3 rf)]) (rfl) dX7_move_40 ?_
      refine x_iload_n 42 rfl dX7_move_41 0 rfl ?_
      refine x_iret rfl ?_ dX7_move_42
      have hk : kM n p place = 0 := by unfold kM; exact if_pos ⟨by omega, by omega⟩
      exact ⟨by rw [hk]; rfl, by unfold bM; rw [hk]; rfl⟩
    · have h12 := of_decide_eq_false h12
      refine x_aload_n 16 rfl dX7_move_15 0 rfl ?_
      refine x_callV 19 rfl (c_X7_bad G mo ad qt sc rf) [0, 2] rfl (by decide) 0 rfl rfl gX7_move_X7_bad rfl rfl rfl hd_X7_bad ⟨Nat.le_of_ble_eq_true rfl, Nat.le_of_ble_eq_true rfl⟩ (As := []) (rest := []) rfl rfl (Nat.le_of_ble_eq_true rfl) dX7_move_16 ⟨Nat.zero_le _, Nat.zero_le _⟩ (fun v w hq => ?_)
      obtain ⟨rfl, rfl⟩ := hq
      refine ⟨rfl, ?_⟩
      refine x_ws (ws' := [(mo, moE ad qt sc), (ad 0, aI G 66 b), (ad 4, aI G 3 (rfU qt rf 0))]) (rfl) ?_
      refine x_iret rfl ?_ dX7_move_19
      have hk : kM n p place = 1 := by unfold kM; exact if_neg (fun hh => by first | omega | (simp [*] at hh; done) | (obtain ⟨ha, hb, hc, hd⟩ := hh; first | omega | simp_all) | (obtain ⟨ha, hb, hc⟩ := hh; first | omega | simp_all) | (obtain ⟨ha, hb⟩ := hh; first | omega | simp_all))
      exact ⟨by rw [hk]; rfl, by unfold bM; rw [hk]; rfl⟩

abbrev P_X7_dead (G : XG) (mo : Nat) (ad : Nat → Nat) (qt : Bool) (sc : Nat → Int) (b : Nat → Int) (rf : Nat → Int) (n : Nat) (d : Nat) (c : Nat) (tune : Int) (year : Int) : Option Value → va_W → Prop := fun r ws => r = some (.int (zI (rC (kD d tune year) (d : Int)))) ∧ ws = [(mo, moE ad qt sc), (ad 0, aI G 66 (bD b d tune year)), (ad 4, aI G 3 (rfC qt rf (kD d tune year)))]
abbrev W_X7_dead (G : XG) (E : XE) (mo : Nat) (ad : Nat → Nat) (qt : Bool) (sc : Nat → Int) (b : Nat → Int) (rf : Nat → Int) (n : Nat) (d : Nat) (c : Nat) (tune : Int) (year : Int) (pc : Nat) (lv : List (Nat × Value)) (st : List Value) (ws : va_W) : Prop := Wx G E (rmL 2) cX7_dead 3 RX7 wsX7_dead (some .int) "dead" 0 0 (P_X7_dead G mo ad qt sc b rf n d c tune year) 0 0 pc lv st ws
theorem flX7_dead_7 : Cond.fieldLink RX7 7 (TX7 0).1 (TX7 0).2.1 (TX7 0).2.2.1 ∈ wsX7_dead := by decide +kernel
theorem inX7_dead_X7 : ∀ w ∈ u_ws RX7 TX7 18, w ∈ wsX7_dead := fun _ h => List.mem_cons_of_mem _ (List.mem_append_right _ h)
theorem wX7_dead_cl124 : Cond.constantLong RX7 124 (zL 99) ∈ wsX7_dead := by decide +kernel
set_option maxHeartbeats 4000000 in
set_option maxRecDepth 100000 in
/-- dead -/
theorem c_X7_dead (G : XG) (mo : Nat) (ad : Nat → Nat) (qt : Bool) (sc : Nat → Int) (b rf : Nat → Int) (n d c : Nat) (I : Inv b n d c) (tune year : Int) (h1 : Z32 tune) (h2 : Z32 year) : Con G yX7_dead wsX7_dead (rmL 2) 0 0 [.ref mo, .int (zI tune), .int (zI year)] ([(mo, moE ad qt sc), (ad 0, aI G 66 b), (ad 4, aI G 3 rf)]) (P_X7_dead G mo ad qt sc b rf n d c tune year) := by
  refine x_start (cc := cX7_dead) (nL := 3) (ret := (some .int)) (by decide) rfl (Nat.le_of_ble_eq_true rfl) (fun E => ?_)
  show W_X7_dead G E mo ad qt sc b rf n d c tune year 0 [(0, .ref mo), (1, .int (zI tune)), (2, .int (zI year))] [] ([(mo, moE ad qt sc), (ad 0, aI G 66 b), (ad 4, aI G 3 rf)])
  have hn := I.n1
  have hn7 := I.n7
  have hd := I.d1
  have hd6 := I.d6
  have hc := I.c1
  have hc8 := I.c8
  refine x_iload_n 1 rfl dX7_dead_0 1 rfl ?_
  refine x_callS0 4 rfl (c_X7_isTune G tune (by omega)) (fun _ _ h => h.2) gX7_dead_X7_isTune rfl rfl rfl hd_X7_isTune ⟨Nat.le_of_ble_eq_true rfl, Nat.le_of_ble_eq_true rfl⟩ (As := [.int (zI tune)]) (rest := []) rfl rfl (Nat.le_of_ble_eq_true rfl) dX7_dead_1 ⟨Nat.zero_le _, Nat.zero_le _⟩ (fun v hq => ?_)
  obtain ⟨rfl, -⟩ := hq
  refine x_bif_eq 7 rfl (tgt := 19) dX7_dead_4 (by decide) (fun h4 => ?_) (fun h4 => ?_)
  · skip
    refine x_aload_n 20 rfl dX7_dead_19 0 rfl ?_
    refine x_callV 23 rfl (c_X7_bad G mo ad qt sc rf) [0, 2] rfl (by decide) 0 rfl rfl gX7_dead_X7_bad rfl rfl rfl hd_X7_bad ⟨Nat.le_of_ble_eq_true rfl, Nat.le_of_ble_eq_true rfl⟩ (As := []) (rest := []) rfl rfl (Nat.le_of_ble_eq_true rfl) dX7_dead_20 ⟨Nat.zero_le _, Nat.zero_le _⟩ (fun v w hq => ?_)
    obtain ⟨rfl, rfl⟩ := hq
    refine ⟨rfl, ?_⟩
    refine x_ws (ws' := [(mo, moE ad qt sc), (ad 0, aI G 66 b), (ad 4, aI G 3 (rfU qt rf 0))]) (rfl) ?_
    refine x_iret rfl ?_ dX7_dead_23
    have hk : kD d tune year = 1 := by unfold kD; exact if_neg (fun hh => by first | omega | (simp [*] at hh; done) | (obtain ⟨ha, hb, hc, hd⟩ := hh; first | omega | simp_all) | (obtain ⟨ha, hb, hc⟩ := hh; first | omega | simp_all) | (obtain ⟨ha, hb⟩ := hh; first | omega | simp_all))
    exact ⟨by rw [hk]; rfl, by unfold bD; rw [hk]; rfl⟩
  · skip
    refine x_iload_n 8 rfl dX7_dead_7 2 rfl ?_
    refine x_i2l 9 rfl dX7_dead_8 (z := (zL year)) (zI_i2l (by omega)) ?_
    refine x_lconst 10 rfl dX7_dead_9 (z := 0) (by decide) ?_
    refine x_ldc2 13 rfl (v := zL 99) wX7_dead_cl124 dX7_dead_10 ?_
    refine x_callS0 16 rfl (c_X7_in G year 0 99 (by omega) (by omega) (by decide)) (fun _ _ h => h.2) gX7_dead_X7_in rfl rfl rfl hd_X7_in ⟨Nat.le_of_ble_eq_true rfl, Nat.le_of_ble_eq_true rfl⟩ (As := [.long (zL year), .long (zL 0), .long (zL 99)]) (rest := []) rfl rfl (Nat.le_of_ble_eq_true rfl) dX7_dead_13 ⟨Nat.zero_le _, Nat.zero_le _⟩ (fun v hq => ?_)
    obtain ⟨rfl, -⟩ := hq
    refine x_bif_ne 19 rfl (tgt := 24) dX7_dead_16 (by decide) (fun h16 => ?_) (fun h16 => ?_)
    · have h16 := of_decide_eq_true h16
      refine x_aload_n 25 rfl dX7_dead_24 0 rfl ?_
      refine x_get 28 rfl 0 0 rfl rfl (by decide) inX7_dead_X7 flX7_dead_7 rfl dX7_dead_25 ?_
      refine x_bipush 30 rfl dX7_dead_28 (z := 16) (by decide) ?_
      refine x_iald 31 rfl 1 16 rfl (⟨by omega, by omega⟩) (by decide) (v := ((d : Nat) : Int)) (hd) dX7_dead_30 ?_
      refine x_bipush 33 rfl dX7_dead_31 (z := 6) (by decide) ?_
      refine x_icmp_ne 36 rfl (tgt := 41) dX7_dead_33 (by decide) (by omega) (by decide) (fun h33 => ?_) (fun h33 => ?_)
      · skip
        refine x_aload_n 42 rfl dX7_dead_41 0 rfl ?_
        refine x_get 45 rfl 0 0 rfl rfl (by decide) inX7_dead_X7 flX7_dead_7 rfl dX7_dead_42 ?_
        refine x_bipush 47 rfl dX7_dead_45 (z := 46) (by decide) ?_
        refine x_iconst 48 rfl dX7_dead_47 (z := 2) (by decide) ?_
        refine x_aload_n 49 rfl dX7_dead_48 0 rfl ?_
        refine x_get 52 rfl 0 0 rfl rfl (by decide) inX7_dead_X7 flX7_dead_7 rfl dX7_dead_49 ?_
        refine x_bipush 54 rfl dX7_dead_52 (z := 16) (by decide) ?_
        refine x_iald 55 rfl 1 16 rfl (⟨by omega, by omega⟩) (by decide) (v := ((d : Nat) : Int)) (hd) dX7_dead_54 ?_
        refine x_imul 56 rfl dX7_dead_55 (z := ((2 * d : Nat) : Int)) (by omega) ?_
        refine x_iadd 57 rfl dX7_dead_56 (z := ((46 + (2 * d) : Nat) : Int)) (by omega) ?_
        refine x_iload_n 58 rfl dX7_dead_57 1 rfl ?_
        refine x_iast 59 rfl 1 (46 + (2 * d)) rfl (⟨by omega, by omega⟩) (by decide) (ws' := [(mo, moE ad qt sc), (ad 0, aI G 66 (zup b (46 + (2 * d)) tune)), (ad 4, aI G 3 rf)]) (rfl) dX7_dead_58 ?_
        refine x_aload_n 60 rfl dX7_dead_59 0 rfl ?_
        refine x_get 63 rfl 0 0 rfl rfl (by decide) inX7_dead_X7 flX7_dead_7 rfl dX7_dead_60 ?_
        refine x_bipush 65 rfl dX7_dead_63 (z := 46) (by decide) ?_
        refine x_iconst 66 rfl dX7_dead_65 (z := 2) (by decide) ?_
        refine x_aload_n 67 rfl dX7_dead_66 0 rfl ?_
        refine x_get 70 rfl 0 0 rfl rfl (by decide) inX7_dead_X7 flX7_dead_7 rfl dX7_dead_67 ?_
        refine x_bipush 72 rfl dX7_dead_70 (z := 16) (by decide) ?_
        refine x_iald 73 rfl 1 16 rfl (⟨by omega, by omega⟩) (by decide) (v := ((d : Nat) : Int)) (by rw [zup_n _ _ (by omega)]; exact hd) dX7_dead_72 ?_
        refine x_imul 74 rfl dX7_dead_73 (z := ((2 * d : Nat) : Int)) (by omega) ?_
        refine x_iadd 75 rfl dX7_dead_74 (z := ((46 + (2 * d) : Nat) : Int)) (by omega) ?_
        refine x_iconst 76 rfl dX7_dead_75 (z := 1) (by decide) ?_
        refine x_iadd 77 rfl dX7_dead_76 (z := ((46 + (2 * d) + 1 : Nat) : Int)) (by omega) ?_
        refine x_iload_n 78 rfl dX7_dead_77 2 rfl ?_
        refine x_iast 79 rfl 1 (46 + (2 * d) + 1) rfl (⟨by omega, by omega⟩) (by decide) (ws' := [(mo, moE ad qt sc), (ad 0, aI G 66 (zup (zup b (46 + (2 * d)) tune) (46 + (2 * d) + 1) year)), (ad 4, aI G 3 rf)]) (rfl) dX7_dead_78 ?_
        refine x_aload_n 80 rfl dX7_dead_79 0 rfl ?_
        refine x_get 83 rfl 0 0 rfl rfl (by decide) inX7_dead_X7 flX7_dead_7 rfl dX7_dead_80 ?_
        refine x_bipush 85 rfl dX7_dead_83 (z := 16) (by decide) ?_
        refine x_dup2 86 rfl dX7_dead_85 rfl rfl ?_
        refine x_iald 87 rfl 1 16 rfl (⟨by omega, by omega⟩) (by decide) (v := ((d : Nat) : Int)) (by rw [zup_n _ _ (by omega), zup_n _ _ (by omega)]; exact hd) dX7_dead_86 ?_
        refine x_iconst 88 rfl dX7_dead_87 (z := 1) (by decide) ?_
        refine x_iadd 89 rfl dX7_dead_88 (z := ((d + 1 : Nat) : Int)) (by omega) ?_
        refine x_iast 90 rfl 1 16 rfl (⟨by omega, by omega⟩) (by decide) (ws' := [(mo, moE ad qt sc), (ad 0, aI G 66 (zup (zup (zup b (46 + (2 * d)) tune) (46 + (2 * d) + 1) year) 16 ((d + 1 : Nat) : Int))), (ad 4, aI G 3 rf)]) (rfl) dX7_dead_89 ?_
        refine x_aload_n 91 rfl dX7_dead_90 0 rfl ?_
        refine x_get 94 rfl 0 0 rfl rfl (by decide) inX7_dead_X7 flX7_dead_7 rfl dX7_dead_91 ?_
        refine x_bipush 96 rfl dX7_dead_94 (z := 16) (by decide) ?_
        refine x_iald 97 rfl 1 16 rfl (⟨by omega, by omega⟩) (by decide) (v := ((d + 1 : Nat) : Int)) (zup_s _ _ _) dX7_dead_96 ?_
        refine x_iconst 98 rfl dX7_dead_97 (z := 1) (by decide) ?_
        refine x_isub 99 rfl dX7_dead_98 (z := ((d + 1 : Nat) : Int) - 1) (rfl) ?_
        refine x_iret rfl ?_ dX7_dead_99
        have hk : kD d tune year = 0 := by unfold kD; rw [if_pos ⟨h4, by omega⟩, if_neg (by omega)]
        exact ⟨by rw [hk]; exact congrArg (fun z => some (Value.int (zI z))) (by omega : ((d + 1 : Nat) : Int) - 1 = (d : Int)), by unfold bD; rw [hk]; rfl⟩
      · skip
        refine x_aload_n 37 rfl dX7_dead_36 0 rfl ?_
        refine x_callV 40 rfl (c_X7_full G mo ad qt sc rf) [0, 2] rfl (by decide) 0 rfl rfl gX7_dead_X7_full rfl rfl rfl hd_X7_full ⟨Nat.le_of_ble_eq_true rfl, Nat.le_of_ble_eq_true rfl⟩ (As := []) (rest := []) rfl rfl (Nat.le_of_ble_eq_true rfl) dX7_dead_37 ⟨Nat.zero_le _, Nat.zero_le _⟩ (fun v w hq => ?_)
        obtain ⟨rfl, rfl⟩ := hq
        refine ⟨rfl, ?_⟩
        refine x_ws (ws' := [(mo, moE ad qt sc), (ad 0, aI G 66 b), (ad 4, aI G 3 (rfU qt rf 2))]) (rfl) ?_
        refine x_iret rfl ?_ dX7_dead_40
        have hk : kD d tune year = 3 := by unfold kD; rw [if_pos ⟨h4, by omega⟩, if_pos (by omega)]
        exact ⟨by rw [hk]; rfl, by unfold bD; rw [hk]; rfl⟩
    · have h16 := of_decide_eq_false h16
      refine x_aload_n 20 rfl dX7_dead_19 0 rfl ?_
      refine x_callV 23 rfl (c_X7_bad G mo ad qt sc rf) [0, 2] rfl (by decide) 0 rfl rfl gX7_dead_X7_bad rfl rfl rfl hd_X7_bad ⟨Nat.le_of_ble_eq_true rfl, Nat.le_of_ble_eq_true rfl⟩ (As := []) (rest := []) rfl rfl (Nat.le_of_ble_eq_true rfl) dX7_dead_20 ⟨Nat.zero_le _, Nat.zero_le _⟩ (fun v w hq => ?_)
      obtain ⟨rfl, rfl⟩ := hq
      refine ⟨rfl, ?_⟩
      refine x_ws (ws' := [(mo, moE ad qt sc), (ad 0, aI G 66 b), (ad 4, aI G 3 (rfU qt rf 0))]) (rfl) ?_
      refine x_iret rfl ?_ dX7_dead_23
      have hk : kD d tune year = 1 := by unfold kD; exact if_neg (fun hh => by first | omega | (simp [*] at hh; done) | (obtain ⟨ha, hb, hc, hd⟩ := hh; first | omega | simp_all) | (obtain ⟨ha, hb, hc⟩ := hh; first | omega | simp_all) | (obtain ⟨ha, hb⟩ := hh; first | omega | simp_all))
      exact ⟨by rw [hk]; rfl, by unfold bD; rw [hk]; rfl⟩

abbrev P_X7_comes (G : XG) (mo : Nat) (ad : Nat → Nat) (qt : Bool) (sc : Nat → Int) (b : Nat → Int) (rf : Nat → Int) (n : Nat) (d : Nat) (c : Nat) (tune : Int) (wind : Int) : Option Value → va_W → Prop := fun r ws => r = some (.int (zI (rC (kC tune wind) ((leftN tune.toNat wind.toNat : Nat) : Int)))) ∧ ws = [(mo, moE ad qt sc), (ad 0, aI G 66 b), (ad 4, aI G 3 (rfC qt rf (kC tune wind)))]
abbrev W_X7_comes (G : XG) (E : XE) (mo : Nat) (ad : Nat → Nat) (qt : Bool) (sc : Nat → Int) (b : Nat → Int) (rf : Nat → Int) (n : Nat) (d : Nat) (c : Nat) (tune : Int) (wind : Int) (pc : Nat) (lv : List (Nat × Value)) (st : List Value) (ws : va_W) : Prop := Wx G E (rmL 3) cX7_comes 3 RX7 wsX7_comes (some .int) "comes" 0 0 (P_X7_comes G mo ad qt sc b rf n d c tune wind) 0 0 pc lv st ws
set_option maxHeartbeats 4000000 in
set_option maxRecDepth 100000 in
/-- comes -/
theorem c_X7_comes (G : XG) (mo : Nat) (ad : Nat → Nat) (qt : Bool) (sc : Nat → Int) (b rf : Nat → Int) (n d c : Nat) (I : Inv b n d c) (tune wind : Int) (h1 : Z32 tune) (h2 : Z32 wind) : Con G yX7_comes wsX7_comes (rmL 3) 0 0 [.ref mo, .int (zI tune), .int (zI wind)] ([(mo, moE ad qt sc), (ad 0, aI G 66 b), (ad 4, aI G 3 rf)]) (P_X7_comes G mo ad qt sc b rf n d c tune wind) := by
  refine x_start (cc := cX7_comes) (nL := 3) (ret := (some .int)) (by decide) rfl (Nat.le_of_ble_eq_true rfl) (fun E => ?_)
  show W_X7_comes G E mo ad qt sc b rf n d c tune wind 0 [(0, .ref mo), (1, .int (zI tune)), (2, .int (zI wind))] [] ([(mo, moE ad qt sc), (ad 0, aI G 66 b), (ad 4, aI G 3 rf)])
  have hn := I.n1
  have hn7 := I.n7
  have hd := I.d1
  have hd6 := I.d6
  have hc := I.c1
  have hc8 := I.c8
  refine x_iload_n 1 rfl dX7_comes_0 1 rfl ?_
  refine x_callS0 4 rfl (c_X7_isTune G tune (by omega)) (fun _ _ h => h.2) gX7_comes_X7_isTune rfl rfl rfl hd_X7_isTune ⟨Nat.le_of_ble_eq_true rfl, Nat.le_of_ble_eq_true rfl⟩ (As := [.int (zI tune)]) (rest := []) rfl rfl (Nat.le_of_ble_eq_true rfl) dX7_comes_1 ⟨Nat.zero_le _, Nat.zero_le _⟩ (fun v hq => ?_)
  obtain ⟨rfl, -⟩ := hq
  refine x_bif_eq 7 rfl (tgt := 22) dX7_comes_4 (by decide) (fun h4 => ?_) (fun h4 => ?_)
  · skip
    refine x_aload_n 23 rfl dX7_comes_22 0 rfl ?_
    refine x_callV 26 rfl (c_X7_bad G mo ad qt sc rf) [0, 2] rfl (by decide) 0 rfl rfl gX7_comes_X7_bad rfl rfl rfl hd_X7_bad ⟨Nat.le_of_ble_eq_true rfl, Nat.le_of_ble_eq_true rfl⟩ (As := []) (rest := []) rfl rfl (Nat.le_of_ble_eq_true rfl) dX7_comes_23 ⟨Nat.zero_le _, Nat.zero_le _⟩ (fun v w hq => ?_)
    obtain ⟨rfl, rfl⟩ := hq
    refine ⟨rfl, ?_⟩
    refine x_ws (ws' := [(mo, moE ad qt sc), (ad 0, aI G 66 b), (ad 4, aI G 3 (rfU qt rf 0))]) (rfl) ?_
    refine x_iret rfl ?_ dX7_comes_26
    have hk : kC tune wind = 1 := by unfold kC; exact if_neg (fun hh => by first | omega | (simp [*] at hh; done) | (obtain ⟨ha, hb, hc, hd⟩ := hh; first | omega | simp_all) | (obtain ⟨ha, hb, hc⟩ := hh; first | omega | simp_all) | (obtain ⟨ha, hb⟩ := hh; first | omega | simp_all))
    exact ⟨by rw [hk]; rfl, by rw [hk]; rfl⟩
  · skip
    refine x_iload_n 8 rfl dX7_comes_7 2 rfl ?_
    refine x_callS0 11 rfl (c_X7_isWind G wind (by omega)) (fun _ _ h => h.2) gX7_comes_X7_isWind rfl rfl rfl hd_X7_isWind ⟨Nat.le_of_ble_eq_true rfl, Nat.le_of_ble_eq_true rfl⟩ (As := [.int (zI wind)]) (rest := []) rfl rfl (Nat.le_of_ble_eq_true rfl) dX7_comes_8 ⟨Nat.zero_le _, Nat.zero_le _⟩ (fun v hq => ?_)
    obtain ⟨rfl, -⟩ := hq
    refine x_bif_eq 14 rfl (tgt := 22) dX7_comes_11 (by decide) (fun h11 => ?_) (fun h11 => ?_)
    · have h11 := of_decide_eq_false h11
      refine x_aload_n 23 rfl dX7_comes_22 0 rfl ?_
      refine x_callV 26 rfl (c_X7_bad G mo ad qt sc rf) [0, 2] rfl (by decide) 0 rfl rfl gX7_comes_X7_bad rfl rfl rfl hd_X7_bad ⟨Nat.le_of_ble_eq_true rfl, Nat.le_of_ble_eq_true rfl⟩ (As := []) (rest := []) rfl rfl (Nat.le_of_ble_eq_true rfl) dX7_comes_23 ⟨Nat.zero_le _, Nat.zero_le _⟩ (fun v w hq => ?_)
      obtain ⟨rfl, rfl⟩ := hq
      refine ⟨rfl, ?_⟩
      refine x_ws (ws' := [(mo, moE ad qt sc), (ad 0, aI G 66 b), (ad 4, aI G 3 (rfU qt rf 0))]) (rfl) ?_
      refine x_iret rfl ?_ dX7_comes_26
      have hk : kC tune wind = 1 := by unfold kC; exact if_neg (fun hh => by first | omega | (simp [*] at hh; done) | (obtain ⟨ha, hb, hc, hd⟩ := hh; first | omega | simp_all) | (obtain ⟨ha, hb, hc⟩ := hh; first | omega | simp_all) | (obtain ⟨ha, hb⟩ := hh; first | omega | simp_all))
      exact ⟨by rw [hk]; rfl, by rw [hk]; rfl⟩
    · have h11 := of_decide_eq_true h11
      have htp : 0 ≤ tune ∧ tune ≤ 2047 := by have := h4; unfold isT at this; rw [decide_eq_true_iff] at this; omega
      obtain ⟨tune, rfl⟩ : ∃ zk : Nat, tune = (zk : Int) := ⟨Int.toNat tune, by omega⟩
      obtain ⟨wind, rfl⟩ : ∃ zk : Nat, wind = (zk : Int) := ⟨Int.toNat wind, by omega⟩
      refine x_iload_n 15 rfl dX7_comes_14 1 rfl ?_
      refine x_iload_n 16 rfl dX7_comes_15 2 rfl ?_
      refine x_callS0 19 rfl (c_X7_left G tune wind (isT_nat.mp h4) (by omega)) (fun _ _ h => h.2) gX7_comes_X7_left rfl rfl rfl hd_X7_left ⟨Nat.le_of_ble_eq_true rfl, Nat.le_of_ble_eq_true rfl⟩ (As := [.int (zI ((tune : Nat) : Int)), .int (zI ((wind : Nat) : Int))]) (rest := []) rfl rfl (Nat.le_of_ble_eq_true rfl) dX7_comes_16 ⟨Nat.zero_le _, Nat.zero_le _⟩ (fun v hq => ?_)
      obtain ⟨rfl, -⟩ := hq
      refine x_goto dX7_comes_19 (tgt := 26) (by decide) ?_
      refine x_iret rfl ?_ dX7_comes_26
      have hk : kC tune wind = 0 := by unfold kC; exact if_pos ⟨h4, by omega⟩
      exact ⟨by rw [hk]; rfl, by rw [hk]; rfl⟩

abbrev P_X7_call (G : XG) (mo : Nat) (ad : Nat → Nat) (qt : Bool) (sc : Nat → Int) (b : Nat → Int) (rf : Nat → Int) (n : Nat) (d : Nat) (c : Nat) (place : Int) (tune : Int) (wind : Int) : Option Value → va_W → Prop := fun r ws => r = some (.int (zI (rC (kL place tune wind) ((calN b n place.toNat tune.toNat wind.toNat : Nat) : Int)))) ∧ ws = [(mo, moE ad qt sc), (ad 0, aI G 66 b), (ad 4, aI G 3 (rfC qt rf (kL place tune wind)))]
abbrev W_X7_call (G : XG) (E : XE) (mo : Nat) (ad : Nat → Nat) (qt : Bool) (sc : Nat → Int) (b : Nat → Int) (rf : Nat → Int) (n : Nat) (d : Nat) (c : Nat) (place : Int) (tune : Int) (wind : Int) (pc : Nat) (lv : List (Nat × Value)) (st : List Value) (ws : va_W) : Prop := Wx G E (rmL 5) cX7_call 4 RX7 wsX7_call (some .int) "call" 0 0 (P_X7_call G mo ad qt sc b rf n d c place tune wind) 0 0 pc lv st ws
set_option maxHeartbeats 4000000 in
set_option maxRecDepth 100000 in
/-- call -/
theorem c_X7_call (G : XG) (mo : Nat) (ad : Nat → Nat) (qt : Bool) (sc : Nat → Int) (b rf : Nat → Int) (n d c : Nat) (I : Inv b n d c) (place tune wind : Int) (h1 : Z32 place) (h2 : Z32 tune) (h3 : Z32 wind) : Con G yX7_call wsX7_call (rmL 5) 0 0 [.ref mo, .int (zI place), .int (zI tune), .int (zI wind)] ([(mo, moE ad qt sc), (ad 0, aI G 66 b), (ad 4, aI G 3 rf)]) (P_X7_call G mo ad qt sc b rf n d c place tune wind) := by
  refine x_start (cc := cX7_call) (nL := 4) (ret := (some .int)) (by decide) rfl (Nat.le_of_ble_eq_true rfl) (fun E => ?_)
  show W_X7_call G E mo ad qt sc b rf n d c place tune wind 0 [(0, .ref mo), (1, .int (zI place)), (2, .int (zI tune)), (3, .int (zI wind))] [] ([(mo, moE ad qt sc), (ad 0, aI G 66 b), (ad 4, aI G 3 rf)])
  have hn := I.n1
  have hn7 := I.n7
  have hd := I.d1
  have hd6 := I.d6
  have hc := I.c1
  have hc8 := I.c8
  refine x_iload_n 1 rfl dX7_call_0 1 rfl ?_
  refine x_callS0 4 rfl (c_X7_isPlace G place (by omega)) (fun _ _ h => h.2) gX7_call_X7_isPlace rfl rfl rfl hd_X7_isPlace ⟨Nat.le_of_ble_eq_true rfl, Nat.le_of_ble_eq_true rfl⟩ (As := [.int (zI place)]) (rest := []) rfl rfl (Nat.le_of_ble_eq_true rfl) dX7_call_1 ⟨Nat.zero_le _, Nat.zero_le _⟩ (fun v hq => ?_)
  obtain ⟨rfl, -⟩ := hq
  refine x_bif_eq 7 rfl (tgt := 31) dX7_call_4 (by decide) (fun h4 => ?_) (fun h4 => ?_)
  · have h4 := of_decide_eq_false h4
    refine x_aload_n 32 rfl dX7_call_31 0 rfl ?_
    refine x_callV 35 rfl (c_X7_bad G mo ad qt sc rf) [0, 2] rfl (by decide) 0 rfl rfl gX7_call_X7_bad rfl rfl rfl hd_X7_bad ⟨Nat.le_of_ble_eq_true rfl, Nat.le_of_ble_eq_true rfl⟩ (As := []) (rest := []) rfl rfl (Nat.le_of_ble_eq_true rfl) dX7_call_32 ⟨Nat.zero_le _, Nat.zero_le _⟩ (fun v w hq => ?_)
    obtain ⟨rfl, rfl⟩ := hq
    refine ⟨rfl, ?_⟩
    refine x_ws (ws' := [(mo, moE ad qt sc), (ad 0, aI G 66 b), (ad 4, aI G 3 (rfU qt rf 0))]) (rfl) ?_
    refine x_iret rfl ?_ dX7_call_35
    have hk : kL place tune wind = 1 := by unfold kL; exact if_neg (fun hh => by first | omega | (simp [*] at hh; done) | (obtain ⟨ha, hb, hc, hd⟩ := hh; first | omega | simp_all) | (obtain ⟨ha, hb, hc⟩ := hh; first | omega | simp_all) | (obtain ⟨ha, hb⟩ := hh; first | omega | simp_all))
    exact ⟨by rw [hk]; rfl, by rw [hk]; rfl⟩
  · have h4 := of_decide_eq_true h4
    refine x_iload_n 8 rfl dX7_call_7 2 rfl ?_
    refine x_callS0 11 rfl (c_X7_isTune G tune (by omega)) (fun _ _ h => h.2) gX7_call_X7_isTune rfl rfl rfl hd_X7_isTune ⟨Nat.le_of_ble_eq_true rfl, Nat.le_of_ble_eq_true rfl⟩ (As := [.int (zI tune)]) (rest := []) rfl rfl (Nat.le_of_ble_eq_true rfl) dX7_call_8 ⟨Nat.zero_le _, Nat.zero_le _⟩ (fun v hq => ?_)
    obtain ⟨rfl, -⟩ := hq
    refine x_bif_eq 14 rfl (tgt := 31) dX7_call_11 (by decide) (fun h11 => ?_) (fun h11 => ?_)
    · skip
      refine x_aload_n 32 rfl dX7_call_31 0 rfl ?_
      refine x_callV 35 rfl (c_X7_bad G mo ad qt sc rf) [0, 2] rfl (by decide) 0 rfl rfl gX7_call_X7_bad rfl rfl rfl hd_X7_bad ⟨Nat.le_of_ble_eq_true rfl, Nat.le_of_ble_eq_true rfl⟩ (As := []) (rest := []) rfl rfl (Nat.le_of_ble_eq_true rfl) dX7_call_32 ⟨Nat.zero_le _, Nat.zero_le _⟩ (fun v w hq => ?_)
      obtain ⟨rfl, rfl⟩ := hq
      refine ⟨rfl, ?_⟩
      refine x_ws (ws' := [(mo, moE ad qt sc), (ad 0, aI G 66 b), (ad 4, aI G 3 (rfU qt rf 0))]) (rfl) ?_
      refine x_iret rfl ?_ dX7_call_35
      have hk : kL place tune wind = 1 := by unfold kL; exact if_neg (fun hh => by first | omega | (simp [*] at hh; done) | (obtain ⟨ha, hb, hc, hd⟩ := hh; first | omega | simp_all) | (obtain ⟨ha, hb, hc⟩ := hh; first | omega | simp_all) | (obtain ⟨ha, hb⟩ := hh; first | omega | simp_all))
      exact ⟨by rw [hk]; rfl, by rw [hk]; rfl⟩
    · skip
      refine x_iload_n 15 rfl dX7_call_14 3 rfl ?_
      refine x_callS0 18 rfl (c_X7_isWind G wind (by omega)) (fun _ _ h => h.2) gX7_call_X7_isWind rfl rfl rfl hd_X7_isWind ⟨Nat.le_of_ble_eq_true rfl, Nat.le_of_ble_eq_true rfl⟩ (As := [.int (zI wind)]) (rest := []) rfl rfl (Nat.le_of_ble_eq_true rfl) dX7_call_15 ⟨Nat.zero_le _, Nat.zero_le _⟩ (fun v hq => ?_)
      obtain ⟨rfl, -⟩ := hq
      refine x_bif_eq 21 rfl (tgt := 31) dX7_call_18 (by decide) (fun h18 => ?_) (fun h18 => ?_)
      · have h18 := of_decide_eq_false h18
        refine x_aload_n 32 rfl dX7_call_31 0 rfl ?_
        refine x_callV 35 rfl (c_X7_bad G mo ad qt sc rf) [0, 2] rfl (by decide) 0 rfl rfl gX7_call_X7_bad rfl rfl rfl hd_X7_bad ⟨Nat.le_of_ble_eq_true rfl, Nat.le_of_ble_eq_true rfl⟩ (As := []) (rest := []) rfl rfl (Nat.le_of_ble_eq_true rfl) dX7_call_32 ⟨Nat.zero_le _, Nat.zero_le _⟩ (fun v w hq => ?_)
        obtain ⟨rfl, rfl⟩ := hq
        refine ⟨rfl, ?_⟩
        refine x_ws (ws' := [(mo, moE ad qt sc), (ad 0, aI G 66 b), (ad 4, aI G 3 (rfU qt rf 0))]) (rfl) ?_
        refine x_iret rfl ?_ dX7_call_35
        have hk : kL place tune wind = 1 := by unfold kL; exact if_neg (fun hh => by first | omega | (simp [*] at hh; done) | (obtain ⟨ha, hb, hc, hd⟩ := hh; first | omega | simp_all) | (obtain ⟨ha, hb, hc⟩ := hh; first | omega | simp_all) | (obtain ⟨ha, hb⟩ := hh; first | omega | simp_all))
        exact ⟨by rw [hk]; rfl, by rw [hk]; rfl⟩
      · have h18 := of_decide_eq_true h18
        have htp : 0 ≤ tune ∧ tune ≤ 2047 := by have := h11; unfold isT at this; rw [decide_eq_true_iff] at this; omega
        obtain ⟨place, rfl⟩ : ∃ zk : Nat, place = (zk : Int) := ⟨Int.toNat place, by omega⟩
        obtain ⟨tune, rfl⟩ : ∃ zk : Nat, tune = (zk : Int) := ⟨Int.toNat tune, by omega⟩
        obtain ⟨wind, rfl⟩ : ∃ zk : Nat, wind = (zk : Int) := ⟨Int.toNat wind, by omega⟩
        refine x_aload_n 22 rfl dX7_call_21 0 rfl ?_
        refine x_iload_n 23 rfl dX7_call_22 1 rfl ?_
        refine x_iload_n 24 rfl dX7_call_23 2 rfl ?_
        refine x_iload_n 25 rfl dX7_call_24 3 rfl ?_
        refine x_callV 28 rfl (c_X7_called G mo ad qt sc b n d c I place tune wind (by omega) (isT_nat.mp h11) (by omega)) [0, 1] rfl (by decide) 0 rfl rfl gX7_call_X7_called rfl rfl rfl hd_X7_called ⟨Nat.le_of_ble_eq_true rfl, Nat.le_of_ble_eq_true rfl⟩ (As := [.int (zI ((place : Nat) : Int)), .int (zI ((tune : Nat) : Int)), .int (zI ((wind : Nat) : Int))]) (rest := []) rfl rfl (Nat.le_of_ble_eq_true rfl) dX7_call_25 ⟨Nat.zero_le _, Nat.zero_le _⟩ (fun v w hq => ?_)
        obtain ⟨rfl, rfl⟩ := hq
        refine ⟨rfl, ?_⟩
        refine x_ws (ws' := [(mo, moE ad qt sc), (ad 0, aI G 66 b), (ad 4, aI G 3 rf)]) (rfl) ?_
        refine x_goto dX7_call_28 (tgt := 35) (by decide) ?_
        refine x_iret rfl ?_ dX7_call_35
        have hk : kL place tune wind = 0 := by unfold kL; exact if_pos ⟨by omega, h11, by omega⟩
        exact ⟨by rw [hk]; rfl, by rw [hk]; rfl⟩

abbrev P_X7_whistle (G : XG) (mo : Nat) (ad : Nat → Nat) (qt : Bool) (sc : Nat → Int) (b : Nat → Int) (rf : Nat → Int) (n : Nat) (d : Nat) (c : Nat) (place : Int) (tune : Int) (wind : Int) : Option Value → va_W → Prop := fun r ws => r = some (.int (zI (rC (kW c place tune wind) (c : Int)))) ∧ ws = [(mo, moE ad qt sc), (ad 0, aI G 66 (bW b n c place tune wind)), (ad 4, aI G 3 (rfC qt rf (kW c place tune wind)))]
abbrev W_X7_whistle (G : XG) (E : XE) (mo : Nat) (ad : Nat → Nat) (qt : Bool) (sc : Nat → Int) (b : Nat → Int) (rf : Nat → Int) (n : Nat) (d : Nat) (c : Nat) (place : Int) (tune : Int) (wind : Int) (pc : Nat) (lv : List (Nat × Value)) (st : List Value) (ws : va_W) : Prop := Wx G E (rmL 5) cX7_whistle 4 RX7 wsX7_whistle (some .int) "whistle" 0 0 (P_X7_whistle G mo ad qt sc b rf n d c place tune wind) 0 0 pc lv st ws
theorem flX7_whistle_7 : Cond.fieldLink RX7 7 (TX7 0).1 (TX7 0).2.1 (TX7 0).2.2.1 ∈ wsX7_whistle := by decide +kernel
theorem inX7_whistle_X7 : ∀ w ∈ u_ws RX7 TX7 18, w ∈ wsX7_whistle := fun _ h => List.mem_cons_of_mem _ (List.mem_append_right _ h)
set_option maxHeartbeats 4000000 in
set_option maxRecDepth 100000 in
/-- whistle -/
theorem c_X7_whistle (G : XG) (mo : Nat) (ad : Nat → Nat) (qt : Bool) (sc : Nat → Int) (b rf : Nat → Int) (n d c : Nat) (I : Inv b n d c) (place tune wind : Int) (h1 : Z32 place) (h2 : Z32 tune) (h3 : Z32 wind) : Con G yX7_whistle wsX7_whistle (rmL 5) 0 0 [.ref mo, .int (zI place), .int (zI tune), .int (zI wind)] ([(mo, moE ad qt sc), (ad 0, aI G 66 b), (ad 4, aI G 3 rf)]) (P_X7_whistle G mo ad qt sc b rf n d c place tune wind) := by
  refine x_start (cc := cX7_whistle) (nL := 4) (ret := (some .int)) (by decide) rfl (Nat.le_of_ble_eq_true rfl) (fun E => ?_)
  show W_X7_whistle G E mo ad qt sc b rf n d c place tune wind 0 [(0, .ref mo), (1, .int (zI place)), (2, .int (zI tune)), (3, .int (zI wind))] [] ([(mo, moE ad qt sc), (ad 0, aI G 66 b), (ad 4, aI G 3 rf)])
  have hn := I.n1
  have hn7 := I.n7
  have hd := I.d1
  have hd6 := I.d6
  have hc := I.c1
  have hc8 := I.c8
  refine x_iload_n 1 rfl dX7_whistle_0 1 rfl ?_
  refine x_callS0 4 rfl (c_X7_isPlace G place (by omega)) (fun _ _ h => h.2) gX7_whistle_X7_isPlace rfl rfl rfl hd_X7_isPlace ⟨Nat.le_of_ble_eq_true rfl, Nat.le_of_ble_eq_true rfl⟩ (As := [.int (zI place)]) (rest := []) rfl rfl (Nat.le_of_ble_eq_true rfl) dX7_whistle_1 ⟨Nat.zero_le _, Nat.zero_le _⟩ (fun v hq => ?_)
  obtain ⟨rfl, -⟩ := hq
  refine x_bif_eq 7 rfl (tgt := 21) dX7_whistle_4 (by decide) (fun h4 => ?_) (fun h4 => ?_)
  · have h4 := of_decide_eq_false h4
    refine x_aload_n 22 rfl dX7_whistle_21 0 rfl ?_
    refine x_callV 25 rfl (c_X7_bad G mo ad qt sc rf) [0, 2] rfl (by decide) 0 rfl rfl gX7_whistle_X7_bad rfl rfl rfl hd_X7_bad ⟨Nat.le_of_ble_eq_true rfl, Nat.le_of_ble_eq_true rfl⟩ (As := []) (rest := []) rfl rfl (Nat.le_of_ble_eq_true rfl) dX7_whistle_22 ⟨Nat.zero_le _, Nat.zero_le _⟩ (fun v w hq => ?_)
    obtain ⟨rfl, rfl⟩ := hq
    refine ⟨rfl, ?_⟩
    refine x_ws (ws' := [(mo, moE ad qt sc), (ad 0, aI G 66 b), (ad 4, aI G 3 (rfU qt rf 0))]) (rfl) ?_
    refine x_iret rfl ?_ dX7_whistle_25
    have hk : kW c place tune wind = 1 := by unfold kW; exact if_neg (fun hh => by first | omega | (simp [*] at hh; done) | (obtain ⟨ha, hb, hc, hd⟩ := hh; first | omega | simp_all) | (obtain ⟨ha, hb, hc⟩ := hh; first | omega | simp_all) | (obtain ⟨ha, hb⟩ := hh; first | omega | simp_all))
    exact ⟨by rw [hk]; rfl, by unfold bW; rw [hk]; rfl⟩
  · have h4 := of_decide_eq_true h4
    refine x_iload_n 8 rfl dX7_whistle_7 2 rfl ?_
    refine x_callS0 11 rfl (c_X7_isTune G tune (by omega)) (fun _ _ h => h.2) gX7_whistle_X7_isTune rfl rfl rfl hd_X7_isTune ⟨Nat.le_of_ble_eq_true rfl, Nat.le_of_ble_eq_true rfl⟩ (As := [.int (zI tune)]) (rest := []) rfl rfl (Nat.le_of_ble_eq_true rfl) dX7_whistle_8 ⟨Nat.zero_le _, Nat.zero_le _⟩ (fun v hq => ?_)
    obtain ⟨rfl, -⟩ := hq
    refine x_bif_eq 14 rfl (tgt := 21) dX7_whistle_11 (by decide) (fun h11 => ?_) (fun h11 => ?_)
    · skip
      refine x_aload_n 22 rfl dX7_whistle_21 0 rfl ?_
      refine x_callV 25 rfl (c_X7_bad G mo ad qt sc rf) [0, 2] rfl (by decide) 0 rfl rfl gX7_whistle_X7_bad rfl rfl rfl hd_X7_bad ⟨Nat.le_of_ble_eq_true rfl, Nat.le_of_ble_eq_true rfl⟩ (As := []) (rest := []) rfl rfl (Nat.le_of_ble_eq_true rfl) dX7_whistle_22 ⟨Nat.zero_le _, Nat.zero_le _⟩ (fun v w hq => ?_)
      obtain ⟨rfl, rfl⟩ := hq
      refine ⟨rfl, ?_⟩
      refine x_ws (ws' := [(mo, moE ad qt sc), (ad 0, aI G 66 b), (ad 4, aI G 3 (rfU qt rf 0))]) (rfl) ?_
      refine x_iret rfl ?_ dX7_whistle_25
      have hk : kW c place tune wind = 1 := by unfold kW; exact if_neg (fun hh => by first | omega | (simp [*] at hh; done) | (obtain ⟨ha, hb, hc, hd⟩ := hh; first | omega | simp_all) | (obtain ⟨ha, hb, hc⟩ := hh; first | omega | simp_all) | (obtain ⟨ha, hb⟩ := hh; first | omega | simp_all))
      exact ⟨by rw [hk]; rfl, by unfold bW; rw [hk]; rfl⟩
    · skip
      refine x_iload_n 15 rfl dX7_whistle_14 3 rfl ?_
      refine x_callS0 18 rfl (c_X7_isWind G wind (by omega)) (fun _ _ h => h.2) gX7_whistle_X7_isWind rfl rfl rfl hd_X7_isWind ⟨Nat.le_of_ble_eq_true rfl, Nat.le_of_ble_eq_true rfl⟩ (As := [.int (zI wind)]) (rest := []) rfl rfl (Nat.le_of_ble_eq_true rfl) dX7_whistle_15 ⟨Nat.zero_le _, Nat.zero_le _⟩ (fun v hq => ?_)
      obtain ⟨rfl, -⟩ := hq
      refine x_bif_ne 21 rfl (tgt := 26) dX7_whistle_18 (by decide) (fun h18 => ?_) (fun h18 => ?_)
      · have h18 := of_decide_eq_true h18
        refine x_aload_n 27 rfl dX7_whistle_26 0 rfl ?_
        refine x_get 30 rfl 0 0 rfl rfl (by decide) inX7_whistle_X7 flX7_whistle_7 rfl dX7_whistle_27 ?_
        refine x_bipush 32 rfl dX7_whistle_30 (z := 17) (by decide) ?_
        refine x_iald 33 rfl 1 17 rfl (⟨by omega, by omega⟩) (by decide) (v := ((c : Nat) : Int)) (hc) dX7_whistle_32 ?_
        refine x_bipush 35 rfl dX7_whistle_33 (z := 8) (by decide) ?_
        refine x_icmp_ne 38 rfl (tgt := 43) dX7_whistle_35 (by decide) (by omega) (by decide) (fun h35 => ?_) (fun h35 => ?_)
        · skip
          have htp : 0 ≤ tune ∧ tune ≤ 2047 := by have := h11; unfold isT at this; rw [decide_eq_true_iff] at this; omega
          obtain ⟨place, rfl⟩ : ∃ zk : Nat, place = (zk : Int) := ⟨Int.toNat place, by omega⟩
          obtain ⟨tune, rfl⟩ : ∃ zk : Nat, tune = (zk : Int) := ⟨Int.toNat tune, by omega⟩
          obtain ⟨wind, rfl⟩ : ∃ zk : Nat, wind = (zk : Int) := ⟨Int.toNat wind, by omega⟩
          refine x_aload_n 44 rfl dX7_whistle_43 0 rfl ?_
          refine x_get 47 rfl 0 0 rfl rfl (by decide) inX7_whistle_X7 flX7_whistle_7 rfl dX7_whistle_44 ?_
          refine x_bipush 49 rfl dX7_whistle_47 (z := 58) (by decide) ?_
          refine x_aload_n 50 rfl dX7_whistle_49 0 rfl ?_
          refine x_get 53 rfl 0 0 rfl rfl (by decide) inX7_whistle_X7 flX7_whistle_7 rfl dX7_whistle_50 ?_
          refine x_bipush 55 rfl dX7_whistle_53 (z := 17) (by decide) ?_
          refine x_iald 56 rfl 1 17 rfl (⟨by omega, by omega⟩) (by decide) (v := ((c : Nat) : Int)) (hc) dX7_whistle_55 ?_
          refine x_iadd 57 rfl dX7_whistle_56 (z := ((58 + c : Nat) : Int)) (by omega) ?_
          refine x_aload_n 58 rfl dX7_whistle_57 0 rfl ?_
          refine x_iload_n 59 rfl dX7_whistle_58 1 rfl ?_
          refine x_iload_n 60 rfl dX7_whistle_59 2 rfl ?_
          refine x_iload_n 61 rfl dX7_whistle_60 3 rfl ?_
          refine x_callV 64 rfl (c_X7_called G mo ad qt sc b n d c I place tune wind (by omega) (isT_nat.mp h11) (by omega)) [0, 1] rfl (by decide) 0 rfl rfl gX7_whistle_X7_called rfl rfl rfl hd_X7_called ⟨Nat.le_of_ble_eq_true rfl, Nat.le_of_ble_eq_true rfl⟩ (As := [.int (zI ((place : Nat) : Int)), .int (zI ((tune : Nat) : Int)), .int (zI ((wind : Nat) : Int))]) (rest := [.int (zI ((58 + c : Nat) : Int)), .ref (ad 0)]) rfl rfl (Nat.le_of_ble_eq_true rfl) dX7_whistle_61 ⟨Nat.zero_le _, Nat.zero_le _⟩ (fun v w hq => ?_)
          obtain ⟨rfl, rfl⟩ := hq
          refine ⟨rfl, ?_⟩
          refine x_ws (ws' := [(mo, moE ad qt sc), (ad 0, aI G 66 b), (ad 4, aI G 3 rf)]) (rfl) ?_
          refine x_iast 65 rfl 1 (58 + c) rfl (⟨by omega, by omega⟩) (by decide) (ws' := [(mo, moE ad qt sc), (ad 0, aI G 66 (zup b (58 + c) ((calN b n place tune wind : Nat) : Int))), (ad 4, aI G 3 rf)]) (rfl) dX7_whistle_64 ?_
          refine x_aload_n 66 rfl dX7_whistle_65 0 rfl ?_
          refine x_get 69 rfl 0 0 rfl rfl (by decide) inX7_whistle_X7 flX7_whistle_7 rfl dX7_whistle_66 ?_
          refine x_bipush 71 rfl dX7_whistle_69 (z := 17) (by decide) ?_
          refine x_dup2 72 rfl dX7_whistle_71 rfl rfl ?_
          refine x_iald 73 rfl 1 17 rfl (⟨by omega, by omega⟩) (by decide) (v := ((c : Nat) : Int)) (by rw [zup_n _ _ (by omega)]; exact hc) dX7_whistle_72 ?_
          refine x_iconst 74 rfl dX7_whistle_73 (z := 1) (by decide) ?_
          refine x_iadd 75 rfl dX7_whistle_74 (z := ((c + 1 : Nat) : Int)) (by omega) ?_
          refine x_iast 76 rfl 1 17 rfl (⟨by omega, by omega⟩) (by decide) (ws' := [(mo, moE ad qt sc), (ad 0, aI G 66 (zup (zup b (58 + c) ((calN b n place tune wind : Nat) : Int)) 17 ((c + 1 : Nat) : Int))), (ad 4, aI G 3 rf)]) (rfl) dX7_whistle_75 ?_
          refine x_aload_n 77 rfl dX7_whistle_76 0 rfl ?_
          refine x_get 80 rfl 0 0 rfl rfl (by decide) inX7_whistle_X7 flX7_whistle_7 rfl dX7_whistle_77 ?_
          refine x_bipush 82 rfl dX7_whistle_80 (z := 17) (by decide) ?_
          refine x_iald 83 rfl 1 17 rfl (⟨by omega, by omega⟩) (by decide) (v := ((c + 1 : Nat) : Int)) (zup_s _ _ _) dX7_whistle_82 ?_
          refine x_iconst 84 rfl dX7_whistle_83 (z := 1) (by decide) ?_
          refine x_isub 85 rfl dX7_whistle_84 (z := ((c + 1 : Nat) : Int) - 1) (rfl) ?_
          refine x_iret rfl ?_ dX7_whistle_85
          have hk : kW c place tune wind = 0 := by unfold kW; rw [if_pos ⟨by omega, h11, by omega⟩, if_neg (by omega)]
          exact ⟨by rw [hk]; exact congrArg (fun z => some (Value.int (zI z))) (by omega : ((c + 1 : Nat) : Int) - 1 = (c : Int)), by unfold bW; rw [hk]; rfl⟩
        · skip
          refine x_aload_n 39 rfl dX7_whistle_38 0 rfl ?_
          refine x_callV 42 rfl (c_X7_full G mo ad qt sc rf) [0, 2] rfl (by decide) 0 rfl rfl gX7_whistle_X7_full rfl rfl rfl hd_X7_full ⟨Nat.le_of_ble_eq_true rfl, Nat.le_of_ble_eq_true rfl⟩ (As := []) (rest := []) rfl rfl (Nat.le_of_ble_eq_true rfl) dX7_whistle_39 ⟨Nat.zero_le _, Nat.zero_le _⟩ (fun v w hq => ?_)
          obtain ⟨rfl, rfl⟩ := hq
          refine ⟨rfl, ?_⟩
          refine x_ws (ws' := [(mo, moE ad qt sc), (ad 0, aI G 66 b), (ad 4, aI G 3 (rfU qt rf 2))]) (rfl) ?_
          refine x_iret rfl ?_ dX7_whistle_42
          have hk : kW c place tune wind = 3 := by unfold kW; rw [if_pos ⟨by omega, h11, by omega⟩, if_pos (by omega)]
          exact ⟨by rw [hk]; rfl, by unfold bW; rw [hk]; rfl⟩
      · have h18 := of_decide_eq_false h18
        refine x_aload_n 22 rfl dX7_whistle_21 0 rfl ?_
        refine x_callV 25 rfl (c_X7_bad G mo ad qt sc rf) [0, 2] rfl (by decide) 0 rfl rfl gX7_whistle_X7_bad rfl rfl rfl hd_X7_bad ⟨Nat.le_of_ble_eq_true rfl, Nat.le_of_ble_eq_true rfl⟩ (As := []) (rest := []) rfl rfl (Nat.le_of_ble_eq_true rfl) dX7_whistle_22 ⟨Nat.zero_le _, Nat.zero_le _⟩ (fun v w hq => ?_)
        obtain ⟨rfl, rfl⟩ := hq
        refine ⟨rfl, ?_⟩
        refine x_ws (ws' := [(mo, moE ad qt sc), (ad 0, aI G 66 b), (ad 4, aI G 3 (rfU qt rf 0))]) (rfl) ?_
        refine x_iret rfl ?_ dX7_whistle_25
        have hk : kW c place tune wind = 1 := by unfold kW; exact if_neg (fun hh => by first | omega | (simp [*] at hh; done) | (obtain ⟨ha, hb, hc, hd⟩ := hh; first | omega | simp_all) | (obtain ⟨ha, hb, hc⟩ := hh; first | omega | simp_all) | (obtain ⟨ha, hb⟩ := hh; first | omega | simp_all))
        exact ⟨by rw [hk]; rfl, by unfold bW; rw [hk]; rfl⟩

abbrev P_X7_turned (G : XG) (mo : Nat) (ad : Nat → Nat) (qt : Bool) (sc : Nat → Int) (b : Nat → Int) (rf : Nat → Int) (n : Nat) (d : Nat) (c : Nat) (call : Int) : Option Value → va_W → Prop := fun r ws => r = some (.int (zI (rC (kT c call) (b (58 + call.toNat))))) ∧ ws = [(mo, moE ad qt sc), (ad 0, aI G 66 b), (ad 4, aI G 3 (rfC qt rf (kT c call)))]
abbrev W_X7_turned (G : XG) (E : XE) (mo : Nat) (ad : Nat → Nat) (qt : Bool) (sc : Nat → Int) (b : Nat → Int) (rf : Nat → Int) (n : Nat) (d : Nat) (c : Nat) (call : Int) (pc : Nat) (lv : List (Nat × Value)) (st : List Value) (ws : va_W) : Prop := Wx G E (rmL 2) cX7_turned 2 RX7 wsX7_turned (some .int) "turned" 0 0 (P_X7_turned G mo ad qt sc b rf n d c call) 0 0 pc lv st ws
theorem flX7_turned_7 : Cond.fieldLink RX7 7 (TX7 0).1 (TX7 0).2.1 (TX7 0).2.2.1 ∈ wsX7_turned := by decide +kernel
theorem inX7_turned_X7 : ∀ w ∈ u_ws RX7 TX7 18, w ∈ wsX7_turned := fun _ h => List.mem_cons_of_mem _ (List.mem_append_right _ h)
set_option maxHeartbeats 4000000 in
set_option maxRecDepth 100000 in
/-- turned -/
theorem c_X7_turned (G : XG) (mo : Nat) (ad : Nat → Nat) (qt : Bool) (sc : Nat → Int) (b rf : Nat → Int) (n d c : Nat) (I : Inv b n d c) (call : Int) (h1 : Z32 call) : Con G yX7_turned wsX7_turned (rmL 2) 0 0 [.ref mo, .int (zI call)] ([(mo, moE ad qt sc), (ad 0, aI G 66 b), (ad 4, aI G 3 rf)]) (P_X7_turned G mo ad qt sc b rf n d c call) := by
  refine x_start (cc := cX7_turned) (nL := 2) (ret := (some .int)) (by decide) rfl (Nat.le_of_ble_eq_true rfl) (fun E => ?_)
  show W_X7_turned G E mo ad qt sc b rf n d c call 0 [(0, .ref mo), (1, .int (zI call))] [] ([(mo, moE ad qt sc), (ad 0, aI G 66 b), (ad 4, aI G 3 rf)])
  have hn := I.n1
  have hn7 := I.n7
  have hd := I.d1
  have hd6 := I.d6
  have hc := I.c1
  have hc8 := I.c8
  refine x_iload_n 1 rfl dX7_turned_0 1 rfl ?_
  refine x_i2l 2 rfl dX7_turned_1 (z := (zL call)) (zI_i2l (by omega)) ?_
  refine x_lconst 3 rfl dX7_turned_2 (z := 0) (by decide) ?_
  refine x_aload_n 4 rfl dX7_turned_3 0 rfl ?_
  refine x_get 7 rfl 0 0 rfl rfl (by decide) inX7_turned_X7 flX7_turned_7 rfl dX7_turned_4 ?_
  refine x_bipush 9 rfl dX7_turned_7 (z := 17) (by decide) ?_
  refine x_iald 10 rfl 1 17 rfl (⟨by omega, by omega⟩) (by decide) (v := ((c : Nat) : Int)) (hc) dX7_turned_9 ?_
  refine x_iconst 11 rfl dX7_turned_10 (z := 1) (by decide) ?_
  refine x_isub 12 rfl dX7_turned_11 (z := ((c : Nat) : Int) - 1) (rfl) ?_
  refine x_i2l 13 rfl dX7_turned_12 (z := (zL (((c : Nat) : Int) - 1))) (zI_i2l (by omega)) ?_
  refine x_callS0 16 rfl (c_X7_in G call 0 (((c : Nat) : Int) - 1) (by omega) (by omega) (by omega)) (fun _ _ h => h.2) gX7_turned_X7_in rfl rfl rfl hd_X7_in ⟨Nat.le_of_ble_eq_true rfl, Nat.le_of_ble_eq_true rfl⟩ (As := [.long (zL call), .long (zL 0), .long (zL (((c : Nat) : Int) - 1))]) (rest := []) rfl rfl (Nat.le_of_ble_eq_true rfl) dX7_turned_13 ⟨Nat.zero_le _, Nat.zero_le _⟩ (fun v hq => ?_)
  obtain ⟨rfl, -⟩ := hq
  refine x_bif_eq 19 rfl (tgt := 31) dX7_turned_16 (by decide) (fun h16 => ?_) (fun h16 => ?_)
  · have h16 := of_decide_eq_false h16
    refine x_aload_n 32 rfl dX7_turned_31 0 rfl ?_
    refine x_callV 35 rfl (c_X7_bad G mo ad qt sc rf) [0, 2] rfl (by decide) 0 rfl rfl gX7_turned_X7_bad rfl rfl rfl hd_X7_bad ⟨Nat.le_of_ble_eq_true rfl, Nat.le_of_ble_eq_true rfl⟩ (As := []) (rest := []) rfl rfl (Nat.le_of_ble_eq_true rfl) dX7_turned_32 ⟨Nat.zero_le _, Nat.zero_le _⟩ (fun v w hq => ?_)
    obtain ⟨rfl, rfl⟩ := hq
    refine ⟨rfl, ?_⟩
    refine x_ws (ws' := [(mo, moE ad qt sc), (ad 0, aI G 66 b), (ad 4, aI G 3 (rfU qt rf 0))]) (rfl) ?_
    refine x_iret rfl ?_ dX7_turned_35
    have hk : kT c call = 1 := by unfold kT; exact if_neg (fun hh => by first | omega | (simp [*] at hh; done) | (obtain ⟨ha, hb, hc, hd⟩ := hh; first | omega | simp_all) | (obtain ⟨ha, hb, hc⟩ := hh; first | omega | simp_all) | (obtain ⟨ha, hb⟩ := hh; first | omega | simp_all))
    exact ⟨by rw [hk]; rfl, by rw [hk]; rfl⟩
  · have h16 := of_decide_eq_true h16
    obtain ⟨call, rfl⟩ : ∃ zk : Nat, call = (zk : Int) := ⟨Int.toNat call, by omega⟩
    refine x_aload_n 20 rfl dX7_turned_19 0 rfl ?_
    refine x_get 23 rfl 0 0 rfl rfl (by decide) inX7_turned_X7 flX7_turned_7 rfl dX7_turned_20 ?_
    refine x_bipush 25 rfl dX7_turned_23 (z := 58) (by decide) ?_
    refine x_iload_n 26 rfl dX7_turned_25 1 rfl ?_
    refine x_iadd 27 rfl dX7_turned_26 (z := ((58 + call : Nat) : Int)) (by omega) ?_
    refine x_iald 28 rfl 1 (58 + call) rfl (⟨by omega, by omega⟩) (by decide) (v := b (58 + call)) (rfl) dX7_turned_27 ?_
    refine x_goto dX7_turned_28 (tgt := 35) (by decide) ?_
    refine x_iret rfl ?_ dX7_turned_35
    have hk : kT c call = 0 := by unfold kT; exact if_pos (by omega)
    exact ⟨by rw [hk]; rfl, by rw [hk]; rfl⟩

abbrev P_X7_heardOf (G : XG) (mo : Nat) (ad : Nat → Nat) (qt : Bool) (sc : Nat → Int) (b : Nat → Int) (rf : Nat → Int) (n : Nat) (d : Nat) (c : Nat) (p : Int) : Option Value → va_W → Prop := fun r ws => r = some (.int (zI (rC (kI n p) ((hrd b p.toNat c : Nat) : Int)))) ∧ ws = [(mo, moE ad qt sc), (ad 0, aI G 66 b), (ad 4, aI G 3 (rfC qt rf (kI n p)))]
abbrev W_X7_heardOf (G : XG) (E : XE) (mo : Nat) (ad : Nat → Nat) (qt : Bool) (sc : Nat → Int) (b : Nat → Int) (rf : Nat → Int) (n : Nat) (d : Nat) (c : Nat) (p : Int) (pc : Nat) (lv : List (Nat × Value)) (st : List Value) (ws : va_W) : Prop := Wx G E (rmL 2) cX7_heardOf 4 RX7 wsX7_heardOf (some .int) "heardOf" 0 0 (P_X7_heardOf G mo ad qt sc b rf n d c p) 0 0 pc lv st ws
theorem flX7_heardOf_7 : Cond.fieldLink RX7 7 (TX7 0).1 (TX7 0).2.1 (TX7 0).2.2.1 ∈ wsX7_heardOf := by decide +kernel
theorem inX7_heardOf_X7 : ∀ w ∈ u_ws RX7 TX7 18, w ∈ wsX7_heardOf := fun _ h => List.mem_cons_of_mem _ (List.mem_append_right _ h)
set_option maxHeartbeats 4000000 in
set_option maxRecDepth 100000 in
/-- heardOf -/
theorem c_X7_heardOf (G : XG) (mo : Nat) (ad : Nat → Nat) (qt : Bool) (sc : Nat → Int) (b rf : Nat → Int) (n d c : Nat) (I : Inv b n d c) (p : Int) (h1 : Z32 p) : Con G yX7_heardOf wsX7_heardOf (rmL 2) 0 0 [.ref mo, .int (zI p)] ([(mo, moE ad qt sc), (ad 0, aI G 66 b), (ad 4, aI G 3 rf)]) (P_X7_heardOf G mo ad qt sc b rf n d c p) := by
  refine x_start (cc := cX7_heardOf) (nL := 4) (ret := (some .int)) (by decide) rfl (Nat.le_of_ble_eq_true rfl) (fun E => ?_)
  show W_X7_heardOf G E mo ad qt sc b rf n d c p 0 [(0, .ref mo), (1, .int (zI p))] [] ([(mo, moE ad qt sc), (ad 0, aI G 66 b), (ad 4, aI G 3 rf)])
  have hn := I.n1
  have hn7 := I.n7
  have hd := I.d1
  have hd6 := I.d6
  have hc := I.c1
  have hc8 := I.c8
  refine x_aload_n 1 rfl dX7_heardOf_0 0 rfl ?_
  refine x_iload_n 2 rfl dX7_heardOf_1 1 rfl ?_
  refine x_callV 5 rfl (c_X7_isOne G mo ad qt sc b n hn (by omega) p (by omega)) [0, 1] rfl (by decide) 0 rfl rfl gX7_heardOf_X7_isOne rfl rfl rfl hd_X7_isOne ⟨Nat.le_of_ble_eq_true rfl, Nat.le_of_ble_eq_true rfl⟩ (As := [.int (zI p)]) (rest := []) rfl rfl (Nat.le_of_ble_eq_true rfl) dX7_heardOf_2 ⟨Nat.zero_le _, Nat.zero_le _⟩ (fun v w hq => ?_)
  obtain ⟨rfl, rfl⟩ := hq
  refine ⟨rfl, ?_⟩
  refine x_ws (ws' := [(mo, moE ad qt sc), (ad 0, aI G 66 b), (ad 4, aI G 3 rf)]) (rfl) ?_
  refine x_bif_ne 8 rfl (tgt := 13) dX7_heardOf_5 (by decide) (fun h5 => ?_) (fun h5 => ?_)
  · have h5 := of_decide_eq_true h5
    obtain ⟨p, rfl⟩ : ∃ zk : Nat, p = (zk : Int) := ⟨Int.toNat p, by omega⟩
    refine x_iconst 14 rfl dX7_heardOf_13 (z := 0) (by decide) ?_
    refine x_istore_n 15 rfl (lv' := [(2, .int (zI 0)), (0, .ref mo), (1, .int (zI ((p : Nat) : Int)))]) dX7_heardOf_14 (by decide) rfl ?_
    refine x_iconst 16 rfl dX7_heardOf_15 (z := 0) (by decide) ?_
    refine x_istore_n 17 rfl (lv' := [(3, .int (zI 0)), (2, .int (zI 0)), (0, .ref mo), (1, .int (zI ((p : Nat) : Int)))]) dX7_heardOf_16 (by decide) rfl ?_
    have L17 : ∀ (f17 : Nat) (k : Nat) (hk0 : k ≤ c) (hr : hrd b p k ≤ k), c - k < f17 → W_X7_heardOf G E mo ad qt sc b rf n d c p 17 [(0, .ref mo), (1, .int (zI ((p : Nat) : Int))), (2, .int (zI ((hrd b p k : Nat) : Int))), (3, .int (zI ((k : Nat) : Int)))] [] ([(mo, moE ad qt sc), (ad 0, aI G 66 b), (ad 4, aI G 3 rf)]) := by
      intro f17
      induction f17 with
      | zero => intro k hk0 hr hf17; exact absurd hf17 (Nat.not_lt_zero _)
      | succ f17 ih17 =>
        intro k hk0 hr hf17
        refine x_iload_n 18 rfl dX7_heardOf_17 3 rfl ?_
        refine x_aload_n 19 rfl dX7_heardOf_18 0 rfl ?_
        refine x_get 22 rfl 0 0 rfl rfl (by decide) inX7_heardOf_X7 flX7_heardOf_7 rfl dX7_heardOf_19 ?_
        refine x_bipush 24 rfl dX7_heardOf_22 (z := 17) (by decide) ?_
        refine x_iald 25 rfl 1 17 rfl (⟨by omega, by omega⟩) (by decide) (v := ((c : Nat) : Int)) (hc) dX7_heardOf_24 ?_
        refine x_icmp_ge 28 rfl (tgt := 50) dX7_heardOf_25 (by decide) (by omega) (by omega) (fun h25 => ?_) (fun h25 => ?_)
        · skip
          refine x_iload_n 51 rfl dX7_heardOf_50 2 rfl ?_
          refine x_iret rfl ?_ dX7_heardOf_51
          have hk : kI n p = 0 := by unfold kI; exact if_pos (by omega)
          have e : k = c := by omega
          exact ⟨by rw [hk, e]; rfl, by rw [hk]; rfl⟩
        · skip
          refine x_iload_n 29 rfl dX7_heardOf_28 2 rfl ?_
          refine x_aload_n 30 rfl dX7_heardOf_29 0 rfl ?_
          refine x_get 33 rfl 0 0 rfl rfl (by decide) inX7_heardOf_X7 flX7_heardOf_7 rfl dX7_heardOf_30 ?_
          refine x_bipush 35 rfl dX7_heardOf_33 (z := 58) (by decide) ?_
          refine x_iload_n 36 rfl dX7_heardOf_35 3 rfl ?_
          refine x_iadd 37 rfl dX7_heardOf_36 (z := ((58 + k : Nat) : Int)) (by omega) ?_
          have hb := I.cc (k := k) (by omega)
          have hz : b (58 + k) = (((b (58 + k)).toNat : Nat) : Int) := by omega
          refine x_iald 38 rfl 1 (58 + k) rfl (⟨by omega, by omega⟩) (by decide) (v := (((b (58 + k)).toNat : Nat) : Int)) (hz) dX7_heardOf_37 ?_
          refine x_iload_n 39 rfl dX7_heardOf_38 1 rfl ?_
          obtain ⟨u, hu⟩ : ∃ u, u = (b (58 + k)).toNat / 2 ^ p := ⟨_, rfl⟩
          have hu2 : u ≤ (b (58 + k)).toNat := by rw [hu]; exact Nat.div_le_self _ _
          refine x_ishr 40 rfl dX7_heardOf_39 (z := (((b (58 + k)).toNat / 2 ^ p : Nat) : Int)) (zI_shr (t := (b (58 + k)).toNat) (i := p) (by omega) (by omega)) ?_
          refine x_iconst 41 rfl dX7_heardOf_40 (z := 1) (by decide) ?_
          refine x_iand 42 rfl dX7_heardOf_41 (z := (((b (58 + k)).toNat / 2 ^ p % 2 : Nat) : Int)) (zI_and1 (t := (b (58 + k)).toNat / 2 ^ p) (by omega)) ?_
          refine x_iadd 43 rfl dX7_heardOf_42 (z := ((hrd b p k + (b (58 + k)).toNat / 2 ^ p % 2 : Nat) : Int)) (rfl) ?_
          refine x_istore_n 44 rfl (lv' := [(2, .int (zI ((hrd b p k + (b (58 + k)).toNat / 2 ^ p % 2 : Nat) : Int))), (0, .ref mo), (1, .int (zI ((p : Nat) : Int))), (3, .int (zI ((k : Nat) : Int)))]) dX7_heardOf_43 (by decide) rfl ?_
          refine x_iinc 47 rfl (lv' := [(3, .int (zI ((k + 1 : Nat) : Int))), (2, .int (zI ((hrd b p k + (b (58 + k)).toNat / 2 ^ p % 2 : Nat) : Int))), (0, .ref mo), (1, .int (zI ((p : Nat) : Int)))]) dX7_heardOf_44 3 rfl (b := ((k + 1 : Nat) : Int)) (by omega) (by decide) rfl ?_
          refine x_goto dX7_heardOf_47 (tgt := 17) (by decide) ?_
          refine x_lve (congrArg (fun zz : Int => ([(3, .int (zI ((k + 1 : Nat) : Int))), (2, .int (zI zz)), (0, .ref mo), (1, .int (zI ((p : Nat) : Int)))] : List (Nat × Value))) (rfl : ((hrd b p k + (b (58 + k)).toNat / 2 ^ p % 2 : Nat) : Int) = ((hrd b p (k + 1) : Nat) : Int))) ?_
          refine x_lv [2, 3, 1, 0] rfl ?_
          exact ih17 (k + 1) (by omega) (by show hrd b p k + (b (58 + k)).toNat / 2 ^ p % 2 ≤ k + 1; omega) (by omega)
    refine x_lve (congrArg (fun zz : Int => ([(3, .int (zI 0)), (2, .int (zI zz)), (0, .ref mo), (1, .int (zI ((p : Nat) : Int)))] : List (Nat × Value))) (rfl : 0 = ((hrd b p 0 : Nat) : Int))) ?_
    refine x_lv [2, 3, 1, 0] rfl ?_
    exact L17 _ 0 (by omega) (Nat.le_refl 0) (Nat.lt_succ_self _)
  · have h5 := of_decide_eq_false h5
    refine x_aload_n 9 rfl dX7_heardOf_8 0 rfl ?_
    refine x_callV 12 rfl (c_X7_bad G mo ad qt sc rf) [0, 2] rfl (by decide) 0 rfl rfl gX7_heardOf_X7_bad rfl rfl rfl hd_X7_bad ⟨Nat.le_of_ble_eq_true rfl, Nat.le_of_ble_eq_true rfl⟩ (As := []) (rest := []) rfl rfl (Nat.le_of_ble_eq_true rfl) dX7_heardOf_9 ⟨Nat.zero_le _, Nat.zero_le _⟩ (fun v w hq => ?_)
    obtain ⟨rfl, rfl⟩ := hq
    refine ⟨rfl, ?_⟩
    refine x_ws (ws' := [(mo, moE ad qt sc), (ad 0, aI G 66 b), (ad 4, aI G 3 (rfU qt rf 0))]) (rfl) ?_
    refine x_iret rfl ?_ dX7_heardOf_12
    have hk : kI n p = 1 := by unfold kI; exact if_neg (fun hh => by first | omega | (simp [*] at hh; done) | (obtain ⟨ha, hb, hc, hd⟩ := hh; first | omega | simp_all) | (obtain ⟨ha, hb, hc⟩ := hh; first | omega | simp_all) | (obtain ⟨ha, hb⟩ := hh; first | omega | simp_all))
    exact ⟨by rw [hk]; rfl, by rw [hk]; rfl⟩

abbrev P_X7_undo (G : XG) (mo : Nat) (ad : Nat → Nat) (qt : Bool) (sc : Nat → Int) (b : Nat → Int) (rf : Nat → Int) (n : Nat) (d : Nat) (c : Nat) : Option Value → va_W → Prop := fun r ws => r = some (.int (zI (rC (kU c) ((c - 1 : Nat) : Int)))) ∧ ws = [(mo, moE ad qt sc), (ad 0, aI G 66 (bU b c)), (ad 4, aI G 3 (rfC qt rf (kU c)))]
abbrev W_X7_undo (G : XG) (E : XE) (mo : Nat) (ad : Nat → Nat) (qt : Bool) (sc : Nat → Int) (b : Nat → Int) (rf : Nat → Int) (n : Nat) (d : Nat) (c : Nat) (pc : Nat) (lv : List (Nat × Value)) (st : List Value) (ws : va_W) : Prop := Wx G E (rmL 2) cX7_undo 1 RX7 wsX7_undo (some .int) "undo" 0 0 (P_X7_undo G mo ad qt sc b rf n d c) 0 0 pc lv st ws
theorem flX7_undo_7 : Cond.fieldLink RX7 7 (TX7 0).1 (TX7 0).2.1 (TX7 0).2.2.1 ∈ wsX7_undo := by decide +kernel
theorem inX7_undo_X7 : ∀ w ∈ u_ws RX7 TX7 18, w ∈ wsX7_undo := fun _ h => List.mem_cons_of_mem _ (List.mem_append_right _ h)
set_option maxHeartbeats 4000000 in
set_option maxRecDepth 100000 in
/-- undo -/
theorem c_X7_undo (G : XG) (mo : Nat) (ad : Nat → Nat) (qt : Bool) (sc : Nat → Int) (b rf : Nat → Int) (n d c : Nat) (I : Inv b n d c)  : Con G yX7_undo wsX7_undo (rmL 2) 0 0 [.ref mo] ([(mo, moE ad qt sc), (ad 0, aI G 66 b), (ad 4, aI G 3 rf)]) (P_X7_undo G mo ad qt sc b rf n d c) := by
  refine x_start (cc := cX7_undo) (nL := 1) (ret := (some .int)) (by decide) rfl (Nat.le_of_ble_eq_true rfl) (fun E => ?_)
  show W_X7_undo G E mo ad qt sc b rf n d c 0 [(0, .ref mo)] [] ([(mo, moE ad qt sc), (ad 0, aI G 66 b), (ad 4, aI G 3 rf)])
  have hn := I.n1
  have hn7 := I.n7
  have hd := I.d1
  have hd6 := I.d6
  have hc := I.c1
  have hc8 := I.c8
  refine x_aload_n 1 rfl dX7_undo_0 0 rfl ?_
  refine x_get 4 rfl 0 0 rfl rfl (by decide) inX7_undo_X7 flX7_undo_7 rfl dX7_undo_1 ?_
  refine x_bipush 6 rfl dX7_undo_4 (z := 17) (by decide) ?_
  refine x_iald 7 rfl 1 17 rfl (⟨by omega, by omega⟩) (by decide) (v := ((c : Nat) : Int)) (hc) dX7_undo_6 ?_
  refine x_if_ne 10 rfl (tgt := 15) dX7_undo_7 (by decide) (by omega) (fun h7 => ?_) (fun h7 => ?_)
  · skip
    refine x_aload_n 16 rfl dX7_undo_15 0 rfl ?_
    refine x_get 19 rfl 0 0 rfl rfl (by decide) inX7_undo_X7 flX7_undo_7 rfl dX7_undo_16 ?_
    refine x_bipush 21 rfl dX7_undo_19 (z := 17) (by decide) ?_
    refine x_dup2 22 rfl dX7_undo_21 rfl rfl ?_
    refine x_iald 23 rfl 1 17 rfl (⟨by omega, by omega⟩) (by decide) (v := ((c : Nat) : Int)) (hc) dX7_undo_22 ?_
    refine x_iconst 24 rfl dX7_undo_23 (z := 1) (by decide) ?_
    refine x_isub 25 rfl dX7_undo_24 (z := ((c - 1 : Nat) : Int)) (by omega) ?_
    refine x_iast 26 rfl 1 17 rfl (⟨by omega, by omega⟩) (by decide) (ws' := [(mo, moE ad qt sc), (ad 0, aI G 66 (zup b 17 ((c - 1 : Nat) : Int))), (ad 4, aI G 3 rf)]) (rfl) dX7_undo_25 ?_
    refine x_aload_n 27 rfl dX7_undo_26 0 rfl ?_
    refine x_get 30 rfl 0 0 rfl rfl (by decide) inX7_undo_X7 flX7_undo_7 rfl dX7_undo_27 ?_
    refine x_bipush 32 rfl dX7_undo_30 (z := 17) (by decide) ?_
    refine x_iald 33 rfl 1 17 rfl (⟨by omega, by omega⟩) (by decide) (v := ((c - 1 : Nat) : Int)) (zup_s _ _ _) dX7_undo_32 ?_
    refine x_iret rfl ?_ dX7_undo_33
    have hk : kU c = 0 := by unfold kU; exact if_neg (by omega)
    exact ⟨by rw [hk]; rfl, by unfold bU; rw [hk]; rfl⟩
  · skip
    refine x_aload_n 11 rfl dX7_undo_10 0 rfl ?_
    refine x_callV 14 rfl (c_X7_no G mo ad qt sc rf) [0, 2] rfl (by decide) 0 rfl rfl gX7_undo_X7_no rfl rfl rfl hd_X7_no ⟨Nat.le_of_ble_eq_true rfl, Nat.le_of_ble_eq_true rfl⟩ (As := []) (rest := []) rfl rfl (Nat.le_of_ble_eq_true rfl) dX7_undo_11 ⟨Nat.zero_le _, Nat.zero_le _⟩ (fun v w hq => ?_)
    obtain ⟨rfl, rfl⟩ := hq
    refine ⟨rfl, ?_⟩
    refine x_ws (ws' := [(mo, moE ad qt sc), (ad 0, aI G 66 b), (ad 4, aI G 3 (rfU qt rf 1))]) (rfl) ?_
    refine x_iret rfl ?_ dX7_undo_14
    have hk : kU c = 2 := by unfold kU; exact if_pos (by omega)
    exact ⟨by rw [hk]; rfl, by unfold bU; rw [hk]; rfl⟩

abbrev P_X7_taken (G : XG) (mo : Nat) (ad : Nat → Nat) (qt : Bool) (sc : Nat → Int) (b : Nat → Int) (rf : Nat → Int) (n : Nat) (d : Nat) (c : Nat) (x : Int) (y : Int) : Option Value → va_W → Prop := fun r ws => r = some (.int (zI (rC (kK n x y) (oneIf (tkP b x.toNat y.toNat))))) ∧ ws = [(mo, moE ad qt sc), (ad 0, aI G 66 b), (ad 4, aI G 3 (rfC qt rf (kK n x y)))]
abbrev W_X7_taken (G : XG) (E : XE) (mo : Nat) (ad : Nat → Nat) (qt : Bool) (sc : Nat → Int) (b : Nat → Int) (rf : Nat → Int) (n : Nat) (d : Nat) (c : Nat) (x : Int) (y : Int) (pc : Nat) (lv : List (Nat × Value)) (st : List Value) (ws : va_W) : Prop := Wx G E (rmL 5) cX7_taken 3 RX7 wsX7_taken (some .int) "taken" 0 0 (P_X7_taken G mo ad qt sc b rf n d c x y) 0 0 pc lv st ws
set_option maxHeartbeats 4000000 in
set_option maxRecDepth 100000 in
/-- taken -/
theorem c_X7_taken (G : XG) (mo : Nat) (ad : Nat → Nat) (qt : Bool) (sc : Nat → Int) (b rf : Nat → Int) (n d c : Nat) (I : Inv b n d c) (x y : Int) (h1 : Z32 x) (h2 : Z32 y) : Con G yX7_taken wsX7_taken (rmL 5) 0 0 [.ref mo, .int (zI x), .int (zI y)] ([(mo, moE ad qt sc), (ad 0, aI G 66 b), (ad 4, aI G 3 rf)]) (P_X7_taken G mo ad qt sc b rf n d c x y) := by
  refine x_start (cc := cX7_taken) (nL := 3) (ret := (some .int)) (by decide) rfl (Nat.le_of_ble_eq_true rfl) (fun E => ?_)
  show W_X7_taken G E mo ad qt sc b rf n d c x y 0 [(0, .ref mo), (1, .int (zI x)), (2, .int (zI y))] [] ([(mo, moE ad qt sc), (ad 0, aI G 66 b), (ad 4, aI G 3 rf)])
  have hn := I.n1
  have hn7 := I.n7
  have hd := I.d1
  have hd6 := I.d6
  have hc := I.c1
  have hc8 := I.c8
  refine x_aload_n 1 rfl dX7_taken_0 0 rfl ?_
  refine x_iload_n 2 rfl dX7_taken_1 1 rfl ?_
  refine x_callV 5 rfl (c_X7_isOne G mo ad qt sc b n hn (by omega) x (by omega)) [0, 1] rfl (by decide) 0 rfl rfl gX7_taken_X7_isOne rfl rfl rfl hd_X7_isOne ⟨Nat.le_of_ble_eq_true rfl, Nat.le_of_ble_eq_true rfl⟩ (As := [.int (zI x)]) (rest := []) rfl rfl (Nat.le_of_ble_eq_true rfl) dX7_taken_2 ⟨Nat.zero_le _, Nat.zero_le _⟩ (fun v w hq => ?_)
  obtain ⟨rfl, rfl⟩ := hq
  refine ⟨rfl, ?_⟩
  refine x_ws (ws' := [(mo, moE ad qt sc), (ad 0, aI G 66 b), (ad 4, aI G 3 rf)]) (rfl) ?_
  refine x_bif_eq 8 rfl (tgt := 21) dX7_taken_5 (by decide) (fun h5 => ?_) (fun h5 => ?_)
  · have h5 := of_decide_eq_false h5
    refine x_aload_n 22 rfl dX7_taken_21 0 rfl ?_
    refine x_callV 25 rfl (c_X7_bad G mo ad qt sc rf) [0, 2] rfl (by decide) 0 rfl rfl gX7_taken_X7_bad rfl rfl rfl hd_X7_bad ⟨Nat.le_of_ble_eq_true rfl, Nat.le_of_ble_eq_true rfl⟩ (As := []) (rest := []) rfl rfl (Nat.le_of_ble_eq_true rfl) dX7_taken_22 ⟨Nat.zero_le _, Nat.zero_le _⟩ (fun v w hq => ?_)
    obtain ⟨rfl, rfl⟩ := hq
    refine ⟨rfl, ?_⟩
    refine x_ws (ws' := [(mo, moE ad qt sc), (ad 0, aI G 66 b), (ad 4, aI G 3 (rfU qt rf 0))]) (rfl) ?_
    refine x_iret rfl ?_ dX7_taken_25
    have hk : kK n x y = 1 := by unfold kK; exact if_neg (fun hh => by first | omega | (simp [*] at hh; done) | (obtain ⟨ha, hb, hc, hd⟩ := hh; first | omega | simp_all) | (obtain ⟨ha, hb, hc⟩ := hh; first | omega | simp_all) | (obtain ⟨ha, hb⟩ := hh; first | omega | simp_all))
    exact ⟨by rw [hk]; rfl, by rw [hk]; rfl⟩
  · have h5 := of_decide_eq_true h5
    refine x_aload_n 9 rfl dX7_taken_8 0 rfl ?_
    refine x_iload_n 10 rfl dX7_taken_9 2 rfl ?_
    refine x_callV 13 rfl (c_X7_isOne G mo ad qt sc b n hn (by omega) y (by omega)) [0, 1] rfl (by decide) 0 rfl rfl gX7_taken_X7_isOne rfl rfl rfl hd_X7_isOne ⟨Nat.le_of_ble_eq_true rfl, Nat.le_of_ble_eq_true rfl⟩ (As := [.int (zI y)]) (rest := []) rfl rfl (Nat.le_of_ble_eq_true rfl) dX7_taken_10 ⟨Nat.zero_le _, Nat.zero_le _⟩ (fun v w hq => ?_)
    obtain ⟨rfl, rfl⟩ := hq
    refine ⟨rfl, ?_⟩
    refine x_ws (ws' := [(mo, moE ad qt sc), (ad 0, aI G 66 b), (ad 4, aI G 3 rf)]) (rfl) ?_
    refine x_bif_eq 16 rfl (tgt := 21) dX7_taken_13 (by decide) (fun h13 => ?_) (fun h13 => ?_)
    · have h13 := of_decide_eq_false h13
      refine x_aload_n 22 rfl dX7_taken_21 0 rfl ?_
      refine x_callV 25 rfl (c_X7_bad G mo ad qt sc rf) [0, 2] rfl (by decide) 0 rfl rfl gX7_taken_X7_bad rfl rfl rfl hd_X7_bad ⟨Nat.le_of_ble_eq_true rfl, Nat.le_of_ble_eq_true rfl⟩ (As := []) (rest := []) rfl rfl (Nat.le_of_ble_eq_true rfl) dX7_taken_22 ⟨Nat.zero_le _, Nat.zero_le _⟩ (fun v w hq => ?_)
      obtain ⟨rfl, rfl⟩ := hq
      refine ⟨rfl, ?_⟩
      refine x_ws (ws' := [(mo, moE ad qt sc), (ad 0, aI G 66 b), (ad 4, aI G 3 (rfU qt rf 0))]) (rfl) ?_
      refine x_iret rfl ?_ dX7_taken_25
      have hk : kK n x y = 1 := by unfold kK; exact if_neg (fun hh => by first | omega | (simp [*] at hh; done) | (obtain ⟨ha, hb, hc, hd⟩ := hh; first | omega | simp_all) | (obtain ⟨ha, hb, hc⟩ := hh; first | omega | simp_all) | (obtain ⟨ha, hb⟩ := hh; first | omega | simp_all))
      exact ⟨by rw [hk]; rfl, by rw [hk]; rfl⟩
    · have h13 := of_decide_eq_true h13
      refine x_iload_n 17 rfl dX7_taken_16 1 rfl ?_
      refine x_iload_n 18 rfl dX7_taken_17 2 rfl ?_
      refine x_icmp_ne 21 rfl (tgt := 26) dX7_taken_18 (by decide) (by omega) (by omega) (fun h18 => ?_) (fun h18 => ?_)
      · skip
        obtain ⟨x, rfl⟩ : ∃ zk : Nat, x = (zk : Int) := ⟨Int.toNat x, by omega⟩
        obtain ⟨y, rfl⟩ : ∃ zk : Nat, y = (zk : Int) := ⟨Int.toNat y, by omega⟩
        refine x_aload_n 27 rfl dX7_taken_26 0 rfl ?_
        refine x_iload_n 28 rfl dX7_taken_27 1 rfl ?_
        refine x_aload_n 29 rfl dX7_taken_28 0 rfl ?_
        refine x_iload_n 30 rfl dX7_taken_29 1 rfl ?_
        refine x_iconst 31 rfl dX7_taken_30 (z := 1) (by decide) ?_
        refine x_callV 34 rfl (c_X7_of G mo ad qt sc b x 1 (by omega) (by omega)) [0, 1] rfl (by decide) 0 rfl rfl gX7_taken_X7_of rfl rfl rfl hd_X7_of ⟨Nat.le_of_ble_eq_true rfl, Nat.le_of_ble_eq_true rfl⟩ (As := [.int (zI ((x : Nat) : Int)), .int (zI 1)]) (rest := [.int (zI ((x : Nat) : Int)), .ref mo]) rfl rfl (Nat.le_of_ble_eq_true rfl) dX7_taken_31 ⟨Nat.zero_le _, Nat.zero_le _⟩ (fun v w hq => ?_)
        obtain ⟨rfl, rfl⟩ := hq
        refine ⟨rfl, ?_⟩
        refine x_ws (ws' := [(mo, moE ad qt sc), (ad 0, aI G 66 b), (ad 4, aI G 3 rf)]) (rfl) ?_
        refine x_int (congrArg zI ((I.t (by omega)).1 : b (18 + 4 * x + 1) = ((tN b x : Nat) : Int))) ?_
        refine x_iload_n 35 rfl dX7_taken_34 2 rfl ?_
        refine x_aload_n 36 rfl dX7_taken_35 0 rfl ?_
        refine x_iload_n 37 rfl dX7_taken_36 2 rfl ?_
        refine x_iconst 38 rfl dX7_taken_37 (z := 1) (by decide) ?_
        refine x_callV 41 rfl (c_X7_of G mo ad qt sc b y 1 (by omega) (by omega)) [0, 1] rfl (by decide) 0 rfl rfl gX7_taken_X7_of rfl rfl rfl hd_X7_of ⟨Nat.le_of_ble_eq_true rfl, Nat.le_of_ble_eq_true rfl⟩ (As := [.int (zI ((y : Nat) : Int)), .int (zI 1)]) (rest := [.int (zI ((y : Nat) : Int)), .int (zI ((tN b x : Nat) : Int)), .int (zI ((x : Nat) : Int)), .ref mo]) rfl rfl (Nat.le_of_ble_eq_true rfl) dX7_taken_38 ⟨Nat.zero_le _, Nat.zero_le _⟩ (fun v w hq => ?_)
        obtain ⟨rfl, rfl⟩ := hq
        refine ⟨rfl, ?_⟩
        refine x_ws (ws' := [(mo, moE ad qt sc), (ad 0, aI G 66 b), (ad 4, aI G 3 rf)]) (rfl) ?_
        refine x_int (congrArg zI ((I.t (by omega)).1 : b (18 + 4 * y + 1) = ((tN b y : Nat) : Int))) ?_
        refine x_callV 44 rfl (c_X7_takenBy G mo ad qt sc b n d c I x (tN b x) y (tN b y) (by omega) (I.t (by omega)).2 (by omega) (I.t (by omega)).2) [0, 1] rfl (by decide) 0 rfl rfl gX7_taken_X7_takenBy rfl rfl rfl hd_X7_takenBy ⟨Nat.le_of_ble_eq_true rfl, Nat.le_of_ble_eq_true rfl⟩ (As := [.int (zI ((x : Nat) : Int)), .int (zI ((tN b x : Nat) : Int)), .int (zI ((y : Nat) : Int)), .int (zI ((tN b y : Nat) : Int))]) (rest := []) rfl rfl (Nat.le_of_ble_eq_true rfl) dX7_taken_41 ⟨Nat.zero_le _, Nat.zero_le _⟩ (fun v w hq => ?_)
        obtain ⟨rfl, rfl⟩ := hq
        refine ⟨rfl, ?_⟩
        refine x_ws (ws' := [(mo, moE ad qt sc), (ad 0, aI G 66 b), (ad 4, aI G 3 rf)]) (rfl) ?_
        refine x_bif_eq 47 rfl (tgt := 51) dX7_taken_44 (by decide) (fun h44 => ?_) (fun h44 => ?_)
        · skip
          refine x_iconst 52 rfl dX7_taken_51 (z := 0) (by decide) ?_
          refine x_iret rfl ?_ dX7_taken_52
          have hk : kK n x y = 0 := by unfold kK; exact if_pos ⟨by omega, by omega, by omega⟩
          have e : tkP b x y = false := h44
          exact ⟨by rw [hk]; show _ = some (Value.int (zI (oneIf (tkP b x y)))); rw [e]; rfl, by rw [hk]; rfl⟩
        · skip
          refine x_iconst 48 rfl dX7_taken_47 (z := 1) (by decide) ?_
          refine x_goto dX7_taken_48 (tgt := 52) (by decide) ?_
          refine x_iret rfl ?_ dX7_taken_52
          have hk : kK n x y = 0 := by unfold kK; exact if_pos ⟨by omega, by omega, by omega⟩
          have e : tkP b x y = true := h44
          exact ⟨by rw [hk]; show _ = some (Value.int (zI (oneIf (tkP b x y)))); rw [e]; rfl, by rw [hk]; rfl⟩
      · skip
        refine x_aload_n 22 rfl dX7_taken_21 0 rfl ?_
        refine x_callV 25 rfl (c_X7_bad G mo ad qt sc rf) [0, 2] rfl (by decide) 0 rfl rfl gX7_taken_X7_bad rfl rfl rfl hd_X7_bad ⟨Nat.le_of_ble_eq_true rfl, Nat.le_of_ble_eq_true rfl⟩ (As := []) (rest := []) rfl rfl (Nat.le_of_ble_eq_true rfl) dX7_taken_22 ⟨Nat.zero_le _, Nat.zero_le _⟩ (fun v w hq => ?_)
        obtain ⟨rfl, rfl⟩ := hq
        refine ⟨rfl, ?_⟩
        refine x_ws (ws' := [(mo, moE ad qt sc), (ad 0, aI G 66 b), (ad 4, aI G 3 (rfU qt rf 0))]) (rfl) ?_
        refine x_iret rfl ?_ dX7_taken_25
        have hk : kK n x y = 1 := by unfold kK; exact if_neg (fun hh => by first | omega | (simp [*] at hh; done) | (obtain ⟨ha, hb, hc, hd⟩ := hh; first | omega | simp_all) | (obtain ⟨ha, hb, hc⟩ := hh; first | omega | simp_all) | (obtain ⟨ha, hb⟩ := hh; first | omega | simp_all))
        exact ⟨by rw [hk]; rfl, by rw [hk]; rfl⟩

abbrev P_X7_clash (G : XG) (mo : Nat) (ad : Nat → Nat) (qt : Bool) (sc : Nat → Int) (b : Nat → Int) (rf : Nat → Int) (n : Nat) (d : Nat) (c : Nat) (what : Int) : Option Value → va_W → Prop := fun r ws => r = some (.int (zI (rC (kQ (csN b n) what) (if what = 0 then (csN b n).1 else (csN b n).2)))) ∧ ws = [(mo, moE ad qt sc), (ad 0, aI G 66 b), (ad 4, aI G 3 (rfC qt rf (kQ (csN b n) what)))]
abbrev W_X7_clash (G : XG) (E : XE) (mo : Nat) (ad : Nat → Nat) (qt : Bool) (sc : Nat → Int) (b : Nat → Int) (rf : Nat → Int) (n : Nat) (d : Nat) (c : Nat) (what : Int) (pc : Nat) (lv : List (Nat × Value)) (st : List Value) (ws : va_W) : Prop := Wx G E (rmL 6) cX7_clash 6 RX7 wsX7_clash (some .int) "clash" 0 0 (P_X7_clash G mo ad qt sc b rf n d c what) 0 0 pc lv st ws
theorem flX7_clash_7 : Cond.fieldLink RX7 7 (TX7 0).1 (TX7 0).2.1 (TX7 0).2.2.1 ∈ wsX7_clash := by decide +kernel
theorem inX7_clash_X7 : ∀ w ∈ u_ws RX7 TX7 18, w ∈ wsX7_clash := fun _ h => List.mem_cons_of_mem _ (List.mem_append_right _ h)
set_option maxHeartbeats 4000000 in
set_option maxRecDepth 100000 in
/-- clash -/
theorem c_X7_clash (G : XG) (mo : Nat) (ad : Nat → Nat) (qt : Bool) (sc : Nat → Int) (b rf : Nat → Int) (n d c : Nat) (I : Inv b n d c) (what : Int) (h1 : Z32 what) : Con G yX7_clash wsX7_clash (rmL 6) 0 0 [.ref mo, .int (zI what)] ([(mo, moE ad qt sc), (ad 0, aI G 66 b), (ad 4, aI G 3 rf)]) (P_X7_clash G mo ad qt sc b rf n d c what) := by
  refine x_start (cc := cX7_clash) (nL := 6) (ret := (some .int)) (by decide) rfl (Nat.le_of_ble_eq_true rfl) (fun E => ?_)
  show W_X7_clash G E mo ad qt sc b rf n d c what 0 [(0, .ref mo), (1, .int (zI what))] [] ([(mo, moE ad qt sc), (ad 0, aI G 66 b), (ad 4, aI G 3 rf)])
  have hn := I.n1
  have hn7 := I.n7
  have hd := I.d1
  have hd6 := I.d6
  have hc := I.c1
  have hc8 := I.c8
  refine x_iload_n 1 rfl dX7_clash_0 1 rfl ?_
  refine x_i2l 2 rfl dX7_clash_1 (z := (zL what)) (zI_i2l (by omega)) ?_
  refine x_lconst 3 rfl dX7_clash_2 (z := 0) (by decide) ?_
  refine x_lconst 4 rfl dX7_clash_3 (z := 1) (by decide) ?_
  refine x_callS0 7 rfl (c_X7_in G what 0 1 (by omega) (by omega) (by omega)) (fun _ _ h => h.2) gX7_clash_X7_in rfl rfl rfl hd_X7_in ⟨Nat.le_of_ble_eq_true rfl, Nat.le_of_ble_eq_true rfl⟩ (As := [.long (zL what), .long (zL 0), .long (zL 1)]) (rest := []) rfl rfl (Nat.le_of_ble_eq_true rfl) dX7_clash_4 ⟨Nat.zero_le _, Nat.zero_le _⟩ (fun v hq => ?_)
  obtain ⟨rfl, -⟩ := hq
  refine x_bif_ne 10 rfl (tgt := 15) dX7_clash_7 (by decide) (fun h7 => ?_) (fun h7 => ?_)
  · have h7 := of_decide_eq_true h7
    refine x_iconst 16 rfl dX7_clash_15 (z := 0) (by decide) ?_
    refine x_istore_n 17 rfl (lv' := [(2, .int (zI 0)), (0, .ref mo), (1, .int (zI what))]) dX7_clash_16 (by decide) rfl ?_
    refine x_iconst 18 rfl dX7_clash_17 (z := (-1)) (by decide) ?_
    refine x_istore_n 19 rfl (lv' := [(3, .int (zI (-1))), (2, .int (zI 0)), (0, .ref mo), (1, .int (zI what))]) dX7_clash_18 (by decide) rfl ?_
    refine x_iconst 20 rfl dX7_clash_19 (z := 0) (by decide) ?_
    refine x_istore 22 rfl (lv' := [(4, .int (zI 0)), (3, .int (zI (-1))), (2, .int (zI 0)), (0, .ref mo), (1, .int (zI what))]) dX7_clash_20 (by decide) rfl ?_
    have L22 : ∀ (f22 : Nat) (a : Nat) (ha : a ≤ n), n - a < f22 → W_X7_clash G E mo ad qt sc b rf n d c what 22 [(0, .ref mo), (1, .int (zI what)), (2, .int (zI ((csO (clP b) n a).1))), (3, .int (zI ((csO (clP b) n a).2))), (4, .int (zI ((a : Nat) : Int)))] [] ([(mo, moE ad qt sc), (ad 0, aI G 66 b), (ad 4, aI G 3 rf)]) := by
      intro f22
      induction f22 with
      | zero => intro a ha hf22; exact absurd hf22 (Nat.not_lt_zero _)
      | succ f22 ih22 =>
        intro a ha hf22
        refine x_iload 24 rfl dX7_clash_22 4 rfl ?_
        refine x_aload_n 25 rfl dX7_clash_24 0 rfl ?_
        refine x_get 28 rfl 0 0 rfl rfl (by decide) inX7_clash_X7 flX7_clash_7 rfl dX7_clash_25 ?_
        refine x_bipush 30 rfl dX7_clash_28 (z := 15) (by decide) ?_
        refine x_iald 31 rfl 1 15 rfl (⟨by omega, by omega⟩) (by decide) (v := ((n : Nat) : Int)) (hn) dX7_clash_30 ?_
        refine x_icmp_ge 34 rfl (tgt := 110) dX7_clash_31 (by decide) (by omega) (by omega) (fun h31 => ?_) (fun h31 => ?_)
        · skip
          have e : a = n := by omega
          have e1 : csO (clP b) n a = csN b n := by rw [e]; rfl
          refine x_iload_n 111 rfl dX7_clash_110 1 rfl ?_
          refine x_if_ne 114 rfl (tgt := 118) dX7_clash_111 (by decide) (by omega) (fun h111 => ?_) (fun h111 => ?_)
          · skip
            refine x_iload_n 119 rfl dX7_clash_118 3 rfl ?_
            refine x_iconst 120 rfl dX7_clash_119 (z := (-1)) (by decide) ?_
            refine x_icmp_ne 123 rfl (tgt := 130) dX7_clash_120 (by decide) (by have := csO_r (f := clP b) hn7 a (by omega); omega) (by decide) (fun h120 => ?_) (fun h120 => ?_)
            · skip
              refine x_iload_n 131 rfl dX7_clash_130 3 rfl ?_
              refine x_iret rfl ?_ dX7_clash_131
              have hk : kQ (csN b n) what = 0 := by unfold kQ; rw [if_pos (by omega), if_neg (by omega), if_neg (by rw [← e1]; exact h120)]
              exact ⟨by rw [hk, if_neg (by omega), ← e1]; rfl, by rw [hk]; rfl⟩
            · skip
              refine x_aload_n 124 rfl dX7_clash_123 0 rfl ?_
              refine x_callV 127 rfl (c_X7_no G mo ad qt sc rf) [0, 2] rfl (by decide) 0 rfl rfl gX7_clash_X7_no rfl rfl rfl hd_X7_no ⟨Nat.le_of_ble_eq_true rfl, Nat.le_of_ble_eq_true rfl⟩ (As := []) (rest := []) rfl rfl (Nat.le_of_ble_eq_true rfl) dX7_clash_124 ⟨Nat.zero_le _, Nat.zero_le _⟩ (fun v w hq => ?_)
              obtain ⟨rfl, rfl⟩ := hq
              refine ⟨rfl, ?_⟩
              refine x_ws (ws' := [(mo, moE ad qt sc), (ad 0, aI G 66 b), (ad 4, aI G 3 (rfU qt rf 1))]) (rfl) ?_
              refine x_goto dX7_clash_127 (tgt := 131) (by decide) ?_
              refine x_iret rfl ?_ dX7_clash_131
              have hk : kQ (csN b n) what = 2 := by unfold kQ; rw [if_pos (by omega), if_neg (by omega), if_pos (by rw [← e1]; exact h120)]
              exact ⟨by rw [hk]; rfl, by rw [hk]; rfl⟩
          · skip
            refine x_iload_n 115 rfl dX7_clash_114 2 rfl ?_
            refine x_goto dX7_clash_115 (tgt := 131) (by decide) ?_
            refine x_iret rfl ?_ dX7_clash_131
            have hk : kQ (csN b n) what = 0 := by unfold kQ; rw [if_pos (by omega), if_pos (by omega)]
            exact ⟨by rw [hk, if_pos (by omega), ← e1]; rfl, by rw [hk]; rfl⟩
        · skip
          refine x_iload 36 rfl dX7_clash_34 4 rfl ?_
          refine x_iconst 37 rfl dX7_clash_36 (z := 1) (by decide) ?_
          refine x_iadd 38 rfl dX7_clash_37 (z := ((a + 1 : Nat) : Int)) (by omega) ?_
          refine x_istore 40 rfl (lv' := [(5, .int (zI ((a + 1 : Nat) : Int))), (0, .ref mo), (1, .int (zI what)), (2, .int (zI ((csO (clP b) n a).1))), (3, .int (zI ((csO (clP b) n a).2))), (4, .int (zI ((a : Nat) : Int)))]) dX7_clash_38 (by decide) rfl ?_
          have L40 : ∀ (f40 : Nat) (k : Nat) (hk : a + 1 + k ≤ n), n - k < f40 → W_X7_clash G E mo ad qt sc b rf n d c what 40 [(0, .ref mo), (1, .int (zI what)), (2, .int (zI ((csI (clP b) a (csO (clP b) n a) k).1))), (3, .int (zI ((csI (clP b) a (csO (clP b) n a) k).2))), (4, .int (zI ((a : Nat) : Int))), (5, .int (zI ((a + 1 + k : Nat) : Int)))] [] ([(mo, moE ad qt sc), (ad 0, aI G 66 b), (ad 4, aI G 3 rf)]) := by
            intro f40
            induction f40 with
            | zero => intro k hk hf40; exact absurd hf40 (Nat.not_lt_zero _)
            | succ f40 ih40 =>
              intro k hk hf40
              refine x_iload 42 rfl dX7_clash_40 5 rfl ?_
              refine x_aload_n 43 rfl dX7_clash_42 0 rfl ?_
              refine x_get 46 rfl 0 0 rfl rfl (by decide) inX7_clash_X7 flX7_clash_7 rfl dX7_clash_43 ?_
              refine x_bipush 48 rfl dX7_clash_46 (z := 15) (by decide) ?_
              refine x_iald 49 rfl 1 15 rfl (⟨by omega, by omega⟩) (by decide) (v := ((n : Nat) : Int)) (hn) dX7_clash_48 ?_
              refine x_icmp_ge 52 rfl (tgt := 104) dX7_clash_49 (by decide) (by omega) (by omega) (fun h49 => ?_) (fun h49 => ?_)
              · skip
                refine x_iinc 107 rfl (lv' := [(4, .int (zI ((a + 1 : Nat) : Int))), (0, .ref mo), (1, .int (zI what)), (2, .int (zI ((csI (clP b) a (csO (clP b) n a) k).1))), (3, .int (zI ((csI (clP b) a (csO (clP b) n a) k).2))), (5, .int (zI ((a + 1 + k : Nat) : Int)))]) dX7_clash_104 4 rfl (b := ((a + 1 : Nat) : Int)) (by omega) (by decide) rfl ?_
                refine x_goto dX7_clash_107 (tgt := 22) (by decide) ?_
                refine x_lve (congrArg (fun zz : Int => ([(4, .int (zI ((a + 1 : Nat) : Int))), (0, .ref mo), (1, .int (zI what)), (2, .int (zI zz)), (3, .int (zI ((csI (clP b) a (csO (clP b) n a) k).2))), (5, .int (zI ((a + 1 + k : Nat) : Int)))] : List (Nat × Value))) (by show _ = (csI (clP b) a (csO (clP b) n a) (n - (a + 1))).1; rw [show k = n - (a + 1) by omega] : (csI (clP b) a (csO (clP b) n a) k).1 = (csO (clP b) n (a + 1)).1)) ?_
                refine x_lve (congrArg (fun zz : Int => ([(4, .int (zI ((a + 1 : Nat) : Int))), (0, .ref mo), (1, .int (zI what)), (2, .int (zI ((csO (clP b) n (a + 1)).1))), (3, .int (zI zz)), (5, .int (zI ((a + 1 + k : Nat) : Int)))] : List (Nat × Value))) (by show _ = (csI (clP b) a (csO (clP b) n a) (n - (a + 1))).2; rw [show k = n - (a + 1) by omega] : (csI (clP b) a (csO (clP b) n a) k).2 = (csO (clP b) n (a + 1)).2)) ?_
                refine x_lv [1, 2, 3, 4, 0] rfl ?_
                exact ih22 (a + 1) (by omega) (by omega)
              · skip
                refine x_aload_n 53 rfl dX7_clash_52 0 rfl ?_
                refine x_iload 55 rfl dX7_clash_53 4 rfl ?_
                refine x_aload_n 56 rfl dX7_clash_55 0 rfl ?_
                refine x_iload 58 rfl dX7_clash_56 4 rfl ?_
                refine x_iconst 59 rfl dX7_clash_58 (z := 1) (by decide) ?_
                refine x_callV 62 rfl (c_X7_of G mo ad qt sc b a 1 (by omega) (by omega)) [0, 1] rfl (by decide) 0 rfl rfl gX7_clash_X7_of rfl rfl rfl hd_X7_of ⟨Nat.le_of_ble_eq_true rfl, Nat.le_of_ble_eq_true rfl⟩ (As := [.int (zI ((a : Nat) : Int)), .int (zI 1)]) (rest := [.int (zI ((a : Nat) : Int)), .ref mo]) rfl rfl (Nat.le_of_ble_eq_true rfl) dX7_clash_59 ⟨Nat.zero_le _, Nat.zero_le _⟩ (fun v w hq => ?_)
                obtain ⟨rfl, rfl⟩ := hq
                refine ⟨rfl, ?_⟩
                refine x_ws (ws' := [(mo, moE ad qt sc), (ad 0, aI G 66 b), (ad 4, aI G 3 rf)]) (rfl) ?_
                refine x_int (congrArg zI ((I.t (by omega)).1 : b (18 + 4 * a + 1) = ((tN b a : Nat) : Int))) ?_
                refine x_iload 64 rfl dX7_clash_62 5 rfl ?_
                refine x_aload_n 65 rfl dX7_clash_64 0 rfl ?_
                refine x_iload 67 rfl dX7_clash_65 5 rfl ?_
                refine x_iconst 68 rfl dX7_clash_67 (z := 1) (by decide) ?_
                refine x_callV 71 rfl (c_X7_of G mo ad qt sc b (a + 1 + k) 1 (by omega) (by omega)) [0, 1] rfl (by decide) 0 rfl rfl gX7_clash_X7_of rfl rfl rfl hd_X7_of ⟨Nat.le_of_ble_eq_true rfl, Nat.le_of_ble_eq_true rfl⟩ (As := [.int (zI ((a + 1 + k : Nat) : Int)), .int (zI 1)]) (rest := [.int (zI ((a + 1 + k : Nat) : Int)), .int (zI ((tN b a : Nat) : Int)), .int (zI ((a : Nat) : Int)), .ref mo]) rfl rfl (Nat.le_of_ble_eq_true rfl) dX7_clash_68 ⟨Nat.zero_le _, Nat.zero_le _⟩ (fun v w hq => ?_)
                obtain ⟨rfl, rfl⟩ := hq
                refine ⟨rfl, ?_⟩
                refine x_ws (ws' := [(mo, moE ad qt sc), (ad 0, aI G 66 b), (ad 4, aI G 3 rf)]) (rfl) ?_
                refine x_int (congrArg zI ((I.t (by omega)).1 : b (18 + 4 * (a + 1 + k) + 1) = ((tN b (a + 1 + k) : Nat) : Int))) ?_
                refine x_callV 74 rfl (c_X7_clashes G mo ad qt sc b n d c I a (tN b a) (a + 1 + k) (tN b (a + 1 + k)) (by omega) (I.t (by omega)).2 (by omega) (I.t (by omega)).2) [0, 1] rfl (by decide) 0 rfl rfl gX7_clash_X7_clashes rfl rfl rfl hd_X7_clashes ⟨Nat.le_of_ble_eq_true rfl, Nat.le_of_ble_eq_true rfl⟩ (As := [.int (zI ((a : Nat) : Int)), .int (zI ((tN b a : Nat) : Int)), .int (zI ((a + 1 + k : Nat) : Int)), .int (zI ((tN b (a + 1 + k) : Nat) : Int))]) (rest := []) rfl rfl (Nat.le_of_ble_eq_true rfl) dX7_clash_71 ⟨Nat.zero_le _, Nat.zero_le _⟩ (fun v w hq => ?_)
                obtain ⟨rfl, rfl⟩ := hq
                refine ⟨rfl, ?_⟩
                refine x_ws (ws' := [(mo, moE ad qt sc), (ad 0, aI G 66 b), (ad 4, aI G 3 rf)]) (rfl) ?_
                refine x_bif_eq 77 rfl (tgt := 98) dX7_clash_74 (by decide) (fun h74 => ?_) (fun h74 => ?_)
                · skip
                  have h74 : clP b a (a + 1 + k) = false := h74
                  refine x_iinc 101 rfl (lv' := [(5, .int (zI ((a + 1 + k + 1 : Nat) : Int))), (0, .ref mo), (1, .int (zI what)), (2, .int (zI ((csI (clP b) a (csO (clP b) n a) k).1))), (3, .int (zI ((csI (clP b) a (csO (clP b) n a) k).2))), (4, .int (zI ((a : Nat) : Int)))]) dX7_clash_98 5 rfl (b := ((a + 1 + k + 1 : Nat) : Int)) (by omega) (by decide) rfl ?_
                  refine x_goto dX7_clash_101 (tgt := 40) (by decide) ?_
                  refine x_lve (congrArg (fun zz : Int => ([(5, .int (zI ((a + 1 + k + 1 : Nat) : Int))), (0, .ref mo), (1, .int (zI what)), (2, .int (zI zz)), (3, .int (zI ((csI (clP b) a (csO (clP b) n a) k).2))), (4, .int (zI ((a : Nat) : Int)))] : List (Nat × Value))) (by show _ = (csS (clP b) a (a + 1 + k) (csI (clP b) a (csO (clP b) n a) k)).1; unfold csS; first | rw [if_pos h74] | rw [if_neg (by rw [h74]; decide)] : (csI (clP b) a (csO (clP b) n a) k).1 = (csI (clP b) a (csO (clP b) n a) (k + 1)).1)) ?_
                  refine x_lve (congrArg (fun zz : Int => ([(5, .int (zI ((a + 1 + k + 1 : Nat) : Int))), (0, .ref mo), (1, .int (zI what)), (2, .int (zI ((csI (clP b) a (csO (clP b) n a) (k + 1)).1))), (3, .int (zI zz)), (4, .int (zI ((a : Nat) : Int)))] : List (Nat × Value))) (by show _ = (csS (clP b) a (a + 1 + k) (csI (clP b) a (csO (clP b) n a) k)).2; unfold csS; first | (rw [if_pos h74]; first | exact (if_pos h82).symm | exact (if_neg h82).symm) | rw [if_neg (by rw [h74]; decide)] : (csI (clP b) a (csO (clP b) n a) k).2 = (csI (clP b) a (csO (clP b) n a) (k + 1)).2)) ?_
                  refine x_lv [1, 2, 3, 4, 5, 0] rfl ?_
                  exact ih40 (k + 1) (by omega) (by omega)
                · skip
                  have h74 : clP b a (a + 1 + k) = true := h74
                  refine x_iinc 80 rfl (lv' := [(2, .int (zI ((csI (clP b) a (csO (clP b) n a) k).1 + 1))), (0, .ref mo), (1, .int (zI what)), (3, .int (zI ((csI (clP b) a (csO (clP b) n a) k).2))), (4, .int (zI ((a : Nat) : Int))), (5, .int (zI ((a + 1 + k : Nat) : Int)))]) dX7_clash_77 2 rfl (b := (csI (clP b) a (csO (clP b) n a) k).1 + 1) (by omega) (by decide) rfl ?_
                  refine x_iload_n 81 rfl dX7_clash_80 3 rfl ?_
                  refine x_iconst 82 rfl dX7_clash_81 (z := (-1)) (by decide) ?_
                  refine x_icmp_ne 85 rfl (tgt := 96) dX7_clash_82 (by decide) (by have := csI_r (f := clP b) (a := a) (m := 7 * a) (by omega) (csO_r (f := clP b) hn7 a (by omega)) k (by omega); omega) (by decide) (fun h82 => ?_) (fun h82 => ?_)
                  · skip
                    refine x_iload_n 97 rfl dX7_clash_96 3 rfl ?_
                    refine x_istore_n 98 rfl (lv' := [(3, .int (zI ((csI (clP b) a (csO (clP b) n a) k).2))), (2, .int (zI ((csI (clP b) a (csO (clP b) n a) k).1 + 1))), (0, .ref mo), (1, .int (zI what)), (4, .int (zI ((a : Nat) : Int))), (5, .int (zI ((a + 1 + k : Nat) : Int)))]) dX7_clash_97 (by decide) rfl ?_
                    refine x_iinc 101 rfl (lv' := [(5, .int (zI ((a + 1 + k + 1 : Nat) : Int))), (3, .int (zI ((csI (clP b) a (csO (clP b) n a) k).2))), (2, .int (zI ((csI (clP b) a (csO (clP b) n a) k).1 + 1))), (0, .ref mo), (1, .int (zI what)), (4, .int (zI ((a : Nat) : Int)))]) dX7_clash_98 5 rfl (b := ((a + 1 + k + 1 : Nat) : Int)) (by omega) (by decide) rfl ?_
                    refine x_goto dX7_clash_101 (tgt := 40) (by decide) ?_
                    refine x_lve (congrArg (fun zz : Int => ([(5, .int (zI ((a + 1 + k + 1 : Nat) : Int))), (3, .int (zI ((csI (clP b) a (csO (clP b) n a) k).2))), (2, .int (zI zz)), (0, .ref mo), (1, .int (zI what)), (4, .int (zI ((a : Nat) : Int)))] : List (Nat × Value))) (by show _ = (csS (clP b) a (a + 1 + k) (csI (clP b) a (csO (clP b) n a) k)).1; unfold csS; first | rw [if_pos h74] | rw [if_neg (by rw [h74]; decide)] : (csI (clP b) a (csO (clP b) n a) k).1 + 1 = (csI (clP b) a (csO (clP b) n a) (k + 1)).1)) ?_
                    refine x_lve (congrArg (fun zz : Int => ([(5, .int (zI ((a + 1 + k + 1 : Nat) : Int))), (3, .int (zI zz)), (2, .int (zI ((csI (clP b) a (csO (clP b) n a) (k + 1)).1))), (0, .ref mo), (1, .int (zI what)), (4, .int (zI ((a : Nat) : Int)))] : List (Nat × Value))) (by show _ = (csS (clP b) a (a + 1 + k) (csI (clP b) a (csO (clP b) n a) k)).2; unfold csS; first | (rw [if_pos h74]; first | exact (if_pos h82).symm | exact (if_neg h82).symm) | rw [if_neg (by rw [h74]; decide)] : (csI (clP b) a (csO (clP b) n a) k).2 = (csI (clP b) a (csO (clP b) n a) (k + 1)).2)) ?_
                    refine x_lv [3, 4, 2, 1, 5, 0] rfl ?_
                    exact ih40 (k + 1) (by omega) (by omega)
                  · skip
                    refine x_bipush 87 rfl dX7_clash_85 (z := 10) (by decide) ?_
                    refine x_iload 89 rfl dX7_clash_87 4 rfl ?_
                    refine x_imul 90 rfl dX7_clash_89 (z := ((10 * a : Nat) : Int)) (by omega) ?_
                    refine x_iload 92 rfl dX7_clash_90 5 rfl ?_
                    refine x_iadd 93 rfl dX7_clash_92 (z := ((10 * a + (a + 1 + k) : Nat) : Int)) (by omega) ?_
                    refine x_goto dX7_clash_93 (tgt := 97) (by decide) ?_
                    refine x_istore_n 98 rfl (lv' := [(3, .int (zI ((10 * a + (a + 1 + k) : Nat) : Int))), (2, .int (zI ((csI (clP b) a (csO (clP b) n a) k).1 + 1))), (0, .ref mo), (1, .int (zI what)), (4, .int (zI ((a : Nat) : Int))), (5, .int (zI ((a + 1 + k : Nat) : Int)))]) dX7_clash_97 (by decide) rfl ?_
                    refine x_iinc 101 rfl (lv' := [(5, .int (zI ((a + 1 + k + 1 : Nat) : Int))), (3, .int (zI ((10 * a + (a + 1 + k) : Nat) : Int))), (2, .int (zI ((csI (clP b) a (csO (clP b) n a) k).1 + 1))), (0, .ref mo), (1, .int (zI what)), (4, .int (zI ((a : Nat) : Int)))]) dX7_clash_98 5 rfl (b := ((a + 1 + k + 1 : Nat) : Int)) (by omega) (by decide) rfl ?_
                    refine x_goto dX7_clash_101 (tgt := 40) (by decide) ?_
                    refine x_lve (congrArg (fun zz : Int => ([(5, .int (zI ((a + 1 + k + 1 : Nat) : Int))), (3, .int (zI ((10 * a + (a + 1 + k) : Nat) : Int))), (2, .int (zI zz)), (0, .ref mo), (1, .int (zI what)), (4, .int (zI ((a : Nat) : Int)))] : List (Nat × Value))) (by show _ = (csS (clP b) a (a + 1 + k) (csI (clP b) a (csO (clP b) n a) k)).1; unfold csS; first | rw [if_pos h74] | rw [if_neg (by rw [h74]; decide)] : (csI (clP b) a (csO (clP b) n a) k).1 + 1 = (csI (clP b) a (csO (clP b) n a) (k + 1)).1)) ?_
                    refine x_lve (congrArg (fun zz : Int => ([(5, .int (zI ((a + 1 + k + 1 : Nat) : Int))), (3, .int (zI zz)), (2, .int (zI ((csI (clP b) a (csO (clP b) n a) (k + 1)).1))), (0, .ref mo), (1, .int (zI what)), (4, .int (zI ((a : Nat) : Int)))] : List (Nat × Value))) (by show _ = (csS (clP b) a (a + 1 + k) (csI (clP b) a (csO (clP b) n a) k)).2; unfold csS; first | (rw [if_pos h74]; first | exact (if_pos h82).symm | exact (if_neg h82).symm) | rw [if_neg (by rw [h74]; decide)] : ((10 * a + (a + 1 + k) : Nat) : Int) = (csI (clP b) a (csO (clP b) n a) (k + 1)).2)) ?_
                    refine x_lv [3, 4, 2, 1, 5, 0] rfl ?_
                    exact ih40 (k + 1) (by omega) (by omega)
          refine x_lv [1, 2, 3, 4, 5, 0] rfl ?_
          exact L40 _ 0 (by omega) (Nat.lt_succ_self _)
    refine x_lve (congrArg (fun zz : Int => ([(4, .int (zI 0)), (3, .int (zI (-1))), (2, .int (zI zz)), (0, .ref mo), (1, .int (zI what))] : List (Nat × Value))) (rfl : 0 = (csO (clP b) n 0).1)) ?_
    refine x_lve (congrArg (fun zz : Int => ([(4, .int (zI 0)), (3, .int (zI zz)), (2, .int (zI ((csO (clP b) n 0).1))), (0, .ref mo), (1, .int (zI what))] : List (Nat × Value))) (rfl : (-1) = (csO (clP b) n 0).2)) ?_
    refine x_lv [3, 4, 2, 1, 0] rfl ?_
    exact L22 _ 0 (by omega) (Nat.lt_succ_self _)
  · have h7 := of_decide_eq_false h7
    refine x_aload_n 11 rfl dX7_clash_10 0 rfl ?_
    refine x_callV 14 rfl (c_X7_bad G mo ad qt sc rf) [0, 2] rfl (by decide) 0 rfl rfl gX7_clash_X7_bad rfl rfl rfl hd_X7_bad ⟨Nat.le_of_ble_eq_true rfl, Nat.le_of_ble_eq_true rfl⟩ (As := []) (rest := []) rfl rfl (Nat.le_of_ble_eq_true rfl) dX7_clash_11 ⟨Nat.zero_le _, Nat.zero_le _⟩ (fun v w hq => ?_)
    obtain ⟨rfl, rfl⟩ := hq
    refine ⟨rfl, ?_⟩
    refine x_ws (ws' := [(mo, moE ad qt sc), (ad 0, aI G 66 b), (ad 4, aI G 3 (rfU qt rf 0))]) (rfl) ?_
    refine x_iret rfl ?_ dX7_clash_14
    have hk : kQ (csN b n) what = 1 := by unfold kQ; exact if_neg (fun hh => by first | omega | (simp [*] at hh; done) | (obtain ⟨ha, hb, hc, hd⟩ := hh; first | omega | simp_all) | (obtain ⟨ha, hb, hc⟩ := hh; first | omega | simp_all) | (obtain ⟨ha, hb⟩ := hh; first | omega | simp_all))
    exact ⟨by rw [hk]; rfl, by rw [hk]; rfl⟩

