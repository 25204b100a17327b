theorem hd_X7_isOwn : yX7_isOwn.cls = RX7 ∧ yX7_isOwn.cls ≠ "java/lang/invoke/MethodHandle" ∧ yX7_isOwn.cls ≠ "java/lang/invoke/VarHandle" ∧ (parseMethodDescriptor yX7_isOwn.desc).map (fun d => d.parameters.length) = some 2 := by decide +kernel
theorem hd_X7_bride : yX7_bride.cls = RX7 ∧ yX7_bride.cls ≠ "java/lang/invoke/MethodHandle" ∧ yX7_bride.cls ≠ "java/lang/invoke/VarHandle" ∧ (parseMethodDescriptor yX7_bride.desc).map (fun d => d.parameters.length) = some 1 := by decide +kernel
theorem hd_X7_thief : yX7_thief.cls = RX7 ∧ yX7_thief.cls ≠ "java/lang/invoke/MethodHandle" ∧ yX7_thief.cls ≠ "java/lang/invoke/VarHandle" ∧ (parseMethodDescriptor yX7_thief.desc).map (fun d => d.parameters.length) = some 3 := by decide +kernel
theorem hd_X7_whistled : yX7_whistled.cls = RX7 ∧ yX7_whistled.cls ≠ "java/lang/invoke/MethodHandle" ∧ yX7_whistled.cls ≠ "java/lang/invoke/VarHandle" ∧ (parseMethodDescriptor yX7_whistled.desc).map (fun d => d.parameters.length) = some 4 := by decide +kernel
theorem hd_X7_alter : yX7_alter.cls = RX7 ∧ yX7_alter.cls ≠ "java/lang/invoke/MethodHandle" ∧ yX7_alter.cls ≠ "java/lang/invoke/VarHandle" ∧ (parseMethodDescriptor yX7_alter.desc).map (fun d => d.parameters.length) = some 0 := by decide +kernel
theorem hd_X7_takes : yX7_takes.cls = RX7 ∧ yX7_takes.cls ≠ "java/lang/invoke/MethodHandle" ∧ yX7_takes.cls ≠ "java/lang/invoke/VarHandle" ∧ (parseMethodDescriptor yX7_takes.desc).map (fun d => d.parameters.length) = some 3 := by decide +kernel
theorem hd_X7_free : yX7_free.cls = RX7 ∧ yX7_free.cls ≠ "java/lang/invoke/MethodHandle" ∧ yX7_free.cls ≠ "java/lang/invoke/VarHandle" ∧ (parseMethodDescriptor yX7_free.desc).map (fun d => d.parameters.length) = some 2 := by decide +kernel
theorem hd_X7_status : yX7_status.cls = RX7 ∧ yX7_status.cls ≠ "java/lang/invoke/MethodHandle" ∧ yX7_status.cls ≠ "java/lang/invoke/VarHandle" ∧ (parseMethodDescriptor yX7_status.desc).map (fun d => d.parameters.length) = some 1 := by decide +kernel
theorem hd_X7_countOf : yX7_countOf.cls = RX7 ∧ yX7_countOf.cls ≠ "java/lang/invoke/MethodHandle" ∧ yX7_countOf.cls ≠ "java/lang/invoke/VarHandle" ∧ (parseMethodDescriptor yX7_countOf.desc).map (fun d => d.parameters.length) = some 1 := by decide +kernel
theorem hd_X7_count : yX7_count.cls = RX7 ∧ yX7_count.cls ≠ "java/lang/invoke/MethodHandle" ∧ yX7_count.cls ≠ "java/lang/invoke/VarHandle" ∧ (parseMethodDescriptor yX7_count.desc).map (fun d => d.parameters.length) = some 1 := by decide +kernel
theorem hd_X7_mixed : yX7_mixed.cls = RX7 ∧ yX7_mixed.cls ≠ "java/lang/invoke/MethodHandle" ∧ yX7_mixed.cls ≠ "java/lang/invoke/VarHandle" ∧ (parseMethodDescriptor yX7_mixed.desc).map (fun d => d.parameters.length) = some 3 := by decide +kernel
theorem hd_X7_digest : yX7_digest.cls = RX7 ∧ yX7_digest.cls ≠ "java/lang/invoke/MethodHandle" ∧ yX7_digest.cls ≠ "java/lang/invoke/VarHandle" ∧ (parseMethodDescriptor yX7_digest.desc).map (fun d => d.parameters.length) = some 0 := by decide +kernel
theorem hd_X7_image : yX7_image.cls = RX7 ∧ yX7_image.cls ≠ "java/lang/invoke/MethodHandle" ∧ yX7_image.cls ≠ "java/lang/invoke/VarHandle" ∧ (parseMethodDescriptor yX7_image.desc).map (fun d => d.parameters.length) = some 1 := by decide +kernel
theorem hd_X7_from : yX7_from.cls = RX7 ∧ yX7_from.cls ≠ "java/lang/invoke/MethodHandle" ∧ yX7_from.cls ≠ "java/lang/invoke/VarHandle" ∧ (parseMethodDescriptor yX7_from.desc).map (fun d => d.parameters.length) = some 1 := by decide +kernel
abbrev P_X7_isOwn (G : XG) (mo : Nat) (ad : Nat → Nat) (qt : Bool) (sc : Nat → Int) (b : Nat → Int) (n : Nat) (d : Nat) (c : Nat) (p : Nat) (tune : Nat) : Option Value → va_W → Prop := fun r ws => r = some (.int (zB (ownN b n p tune))) ∧ ws = [(mo, moE ad qt sc), (ad 0, aI G 66 b)]
abbrev W_X7_isOwn (G : XG) (E : XE) (mo : Nat) (ad : Nat → Nat) (qt : Bool) (sc : Nat → Int) (b : Nat → Int) (n : Nat) (d : Nat) (c : Nat) (p : Nat) (tune : Nat) (pc : Nat) (lv : List (Nat × Value)) (st : List Value) (ws : va_W) : Prop := Wx G E (rmL 6) cX7_isOwn 5 RX7 wsX7_isOwn (some .boolean) "isOwn" 0 0 (P_X7_isOwn G mo ad qt sc b n d c p tune) 0 0 pc lv st ws
theorem flX7_isOwn_7 : Cond.fieldLink RX7 7 (TX7 0).1 (TX7 0).2.1 (TX7 0).2.2.1 ∈ wsX7_isOwn := by decide +kernel
theorem inX7_isOwn_X7 : ∀ w ∈ u_ws RX7 TX7 18, w ∈ wsX7_isOwn := fun _ h => List.mem_cons_of_mem _ (List.mem_append_right _ h)
set_option maxHeartbeats 4000000 in
set_option maxRecDepth 100000 in
/-- isOwn -/
theorem c_X7_isOwn (G : XG) (mo : Nat) (ad : Nat → Nat) (qt : Bool) (sc : Nat → Int) (b : Nat → Int) (n d c : Nat) (I : Inv b n d c) (p tune : Nat) (hp : p < n) (ht : vt tune) : Con G yX7_isOwn wsX7_isOwn (rmL 6) 0 0 [.ref mo, .int (zI ((p : Nat) : Int)), .int (zI ((tune : Nat) : Int))] ([(mo, moE ad qt sc), (ad 0, aI G 66 b)]) (P_X7_isOwn G mo ad qt sc b n d c p tune) := by
  refine x_start (cc := cX7_isOwn) (nL := 5) (ret := (some .boolean)) (by decide) rfl (Nat.le_of_ble_eq_true rfl) (fun E => ?_)
  show W_X7_isOwn G E mo ad qt sc b n d c p tune 0 [(0, .ref mo), (1, .int (zI ((p : Nat) : Int))), (2, .int (zI ((tune : Nat) : Int)))] [] ([(mo, moE ad qt sc), (ad 0, aI G 66 b)])
  have hn := I.n1
  have hn7 := I.n7
  refine x_iconst 1 rfl dX7_isOwn_0 (z := 1) (by decide) ?_
  refine x_istore_n 2 rfl (lv' := [(3, .int (zI 1)), (0, .ref mo), (1, .int (zI ((p : Nat) : Int))), (2, .int (zI ((tune : Nat) : Int)))]) dX7_isOwn_1 (by decide) rfl ?_
  refine x_iconst 3 rfl dX7_isOwn_2 (z := 0) (by decide) ?_
  refine x_istore 5 rfl (lv' := [(4, .int (zI 0)), (3, .int (zI 1)), (0, .ref mo), (1, .int (zI ((p : Nat) : Int))), (2, .int (zI ((tune : Nat) : Int)))]) dX7_isOwn_3 (by decide) rfl ?_
  have L5 : ∀ (f5 : Nat) (k : Nat) (hk : k ≤ n), n - k < f5 → W_X7_isOwn G E mo ad qt sc b n d c p tune 5 [(0, .ref mo), (1, .int (zI ((p : Nat) : Int))), (2, .int (zI ((tune : Nat) : Int))), (3, .int (zB (allF (ownF b p tune) k))), (4, .int (zI ((k : Nat) : Int)))] [] ([(mo, moE ad qt sc), (ad 0, aI G 66 b)]) := by
    intro f5
    induction f5 with
    | zero => intro k hk hf5; exact absurd hf5 (Nat.not_lt_zero _)
    | succ f5 ih5 =>
      intro k hk hf5
      refine x_iload 7 rfl dX7_isOwn_5 4 rfl ?_
      refine x_aload_n 8 rfl dX7_isOwn_7 0 rfl ?_
      refine x_get 11 rfl 0 0 rfl rfl (by decide) inX7_isOwn_X7 flX7_isOwn_7 rfl dX7_isOwn_8 ?_
      refine x_bipush 13 rfl dX7_isOwn_11 (z := 15) (by decide) ?_
      refine x_iald 14 rfl 1 15 rfl (⟨by omega, by omega⟩) (by decide) (v := ((n : Nat) : Int)) (hn) dX7_isOwn_13 ?_
      refine x_icmp_ge 17 rfl (tgt := 57) dX7_isOwn_14 (by decide) (by omega) (by omega) (fun h14 => ?_) (fun h14 => ?_)
      · skip
        refine x_iload_n 58 rfl dX7_isOwn_57 3 rfl ?_
        refine x_zret rfl ?_ dX7_isOwn_58
        have e : k = n := by omega
        exact ⟨by rw [e]; rfl, rfl⟩
      · skip
        refine x_iload_n 18 rfl dX7_isOwn_17 3 rfl ?_
        refine x_bif_eq 21 rfl (tgt := 49) dX7_isOwn_18 (by decide) (fun h18 => ?_) (fun h18 => ?_)
        · skip
          refine x_iconst 50 rfl dX7_isOwn_49 (z := 0) (by decide) ?_
          refine x_istore_n 51 rfl (lv' := [(3, .int (zI 0)), (0, .ref mo), (1, .int (zI ((p : Nat) : Int))), (2, .int (zI ((tune : Nat) : Int))), (4, .int (zI ((k : Nat) : Int)))]) dX7_isOwn_50 (by decide) rfl ?_
          refine x_iinc 54 rfl (lv' := [(4, .int (zI ((k + 1 : Nat) : Int))), (3, .int (zI 0)), (0, .ref mo), (1, .int (zI ((p : Nat) : Int))), (2, .int (zI ((tune : Nat) : Int)))]) dX7_isOwn_51 4 rfl (b := ((k + 1 : Nat) : Int)) (by omega) (by decide) rfl ?_
          refine x_goto dX7_isOwn_54 (tgt := 5) (by decide) ?_
          refine x_lve (congrArg (fun zz : Int32 => ([(4, .int (zI ((k + 1 : Nat) : Int))), (3, .int zz), (0, .ref mo), (1, .int (zI ((p : Nat) : Int))), (2, .int (zI ((tune : Nat) : Int)))] : List (Nat × Value))) (zB_f (allF_f1 h18) : (zI 0) = (zB (allF (ownF b p tune) (k + 1))))) ?_
          refine x_lv [2, 3, 4, 1, 0] rfl ?_
          exact ih5 (k + 1) (by omega) (by omega)
        · skip
          refine x_iload 23 rfl dX7_isOwn_21 4 rfl ?_
          refine x_iload_n 24 rfl dX7_isOwn_23 1 rfl ?_
          refine x_icmp_eq 27 rfl (tgt := 45) dX7_isOwn_24 (by decide) (by omega) (by omega) (fun h24 => ?_) (fun h24 => ?_)
          · skip
            refine x_iconst 46 rfl dX7_isOwn_45 (z := 1) (by decide) ?_
            refine x_goto dX7_isOwn_46 (tgt := 50) (by decide) ?_
            refine x_istore_n 51 rfl (lv' := [(3, .int (zI 1)), (0, .ref mo), (1, .int (zI ((p : Nat) : Int))), (2, .int (zI ((tune : Nat) : Int))), (4, .int (zI ((k : Nat) : Int)))]) dX7_isOwn_50 (by decide) rfl ?_
            refine x_iinc 54 rfl (lv' := [(4, .int (zI ((k + 1 : Nat) : Int))), (3, .int (zI 1)), (0, .ref mo), (1, .int (zI ((p : Nat) : Int))), (2, .int (zI ((tune : Nat) : Int)))]) dX7_isOwn_51 4 rfl (b := ((k + 1 : Nat) : Int)) (by omega) (by decide) rfl ?_
            refine x_goto dX7_isOwn_54 (tgt := 5) (by decide) ?_
            refine x_lve (congrArg (fun zz : Int32 => ([(4, .int (zI ((k + 1 : Nat) : Int))), (3, .int zz), (0, .ref mo), (1, .int (zI ((p : Nat) : Int))), (2, .int (zI ((tune : Nat) : Int)))] : List (Nat × Value))) (zB_t (allF_t (f := (ownF b p tune)) h18 (by unfold ownF; rw [decide_eq_true (by omega)]; rfl)) : (zI 1) = (zB (allF (ownF b p tune) (k + 1))))) ?_
            refine x_lv [2, 3, 4, 1, 0] rfl ?_
            exact ih5 (k + 1) (by omega) (by omega)
          · skip
            refine x_aload_n 28 rfl dX7_isOwn_27 0 rfl ?_
            refine x_iload_n 29 rfl dX7_isOwn_28 1 rfl ?_
            refine x_iload_n 30 rfl dX7_isOwn_29 2 rfl ?_
            refine x_iload 32 rfl dX7_isOwn_30 4 rfl ?_
            refine x_aload_n 33 rfl dX7_isOwn_32 0 rfl ?_
            refine x_iload 35 rfl dX7_isOwn_33 4 rfl ?_
            refine x_iconst 36 rfl dX7_isOwn_35 (z := 1) (by decide) ?_
            refine x_callV 39 rfl (c_X7_of G mo ad qt sc b k 1 (by omega) (by omega)) [0, 1] rfl (by decide) 0 rfl rfl gX7_isOwn_X7_of rfl rfl rfl hd_X7_of ⟨Nat.le_of_ble_eq_true rfl, Nat.le_of_ble_eq_true rfl⟩ (As := [.int (zI ((k : Nat) : Int)), .int (zI 1)]) (rest := [.int (zI ((k : Nat) : Int)), .int (zI ((tune : Nat) : Int)), .int (zI ((p : Nat) : Int)), .ref mo]) rfl rfl (Nat.le_of_ble_eq_true rfl) dX7_isOwn_36 ⟨Nat.zero_le _, Nat.zero_le _⟩ (fun v w hq => ?_)
            obtain ⟨rfl, rfl⟩ := hq
            refine ⟨rfl, ?_⟩
            refine x_ws (ws' := [(mo, moE ad qt sc), (ad 0, aI G 66 b)]) (rfl) ?_
            refine x_int (congrArg zI ((I.t (by omega)).1 : b (18 + 4 * k + 1) = ((tN b k : Nat) : Int))) ?_
            refine x_callV 42 rfl (c_X7_clashes G mo ad qt sc b n d c I p tune k (tN b k) (by omega) ht (by omega) (I.t (by omega)).2) [0, 1] rfl (by decide) 0 rfl rfl gX7_isOwn_X7_clashes rfl rfl rfl hd_X7_clashes ⟨Nat.le_of_ble_eq_true rfl, Nat.le_of_ble_eq_true rfl⟩ (As := [.int (zI ((p : Nat) : Int)), .int (zI ((tune : Nat) : Int)), .int (zI ((k : Nat) : Int)), .int (zI ((tN b k : Nat) : Int))]) (rest := []) rfl rfl (Nat.le_of_ble_eq_true rfl) dX7_isOwn_39 ⟨Nat.zero_le _, Nat.zero_le _⟩ (fun v w hq => ?_)
            obtain ⟨rfl, rfl⟩ := hq
            refine ⟨rfl, ?_⟩
            refine x_ws (ws' := [(mo, moE ad qt sc), (ad 0, aI G 66 b)]) (rfl) ?_
            refine x_bif_ne 45 rfl (tgt := 49) dX7_isOwn_42 (by decide) (fun h42 => ?_) (fun h42 => ?_)
            · skip
              refine x_iconst 50 rfl dX7_isOwn_49 (z := 0) (by decide) ?_
              refine x_istore_n 51 rfl (lv' := [(3, .int (zI 0)), (0, .ref mo), (1, .int (zI ((p : Nat) : Int))), (2, .int (zI ((tune : Nat) : Int))), (4, .int (zI ((k : Nat) : Int)))]) dX7_isOwn_50 (by decide) rfl ?_
              refine x_iinc 54 rfl (lv' := [(4, .int (zI ((k + 1 : Nat) : Int))), (3, .int (zI 0)), (0, .ref mo), (1, .int (zI ((p : Nat) : Int))), (2, .int (zI ((tune : Nat) : Int)))]) dX7_isOwn_51 4 rfl (b := ((k + 1 : Nat) : Int)) (by omega) (by decide) rfl ?_
              refine x_goto dX7_isOwn_54 (tgt := 5) (by decide) ?_
              refine x_lve (congrArg (fun zz : Int32 => ([(4, .int (zI ((k + 1 : Nat) : Int))), (3, .int zz), (0, .ref mo), (1, .int (zI ((p : Nat) : Int))), (2, .int (zI ((tune : Nat) : Int)))] : List (Nat × Value))) (zB_f (allF_f2 (f := (ownF b p tune)) (by unfold ownF; rw [decide_eq_false (by omega), h42]; rfl)) : (zI 0) = (zB (allF (ownF b p tune) (k + 1))))) ?_
              refine x_lv [2, 3, 4, 1, 0] rfl ?_
              exact ih5 (k + 1) (by omega) (by omega)
            · skip
              refine x_iconst 46 rfl dX7_isOwn_45 (z := 1) (by decide) ?_
              refine x_goto dX7_isOwn_46 (tgt := 50) (by decide) ?_
              refine x_istore_n 51 rfl (lv' := [(3, .int (zI 1)), (0, .ref mo), (1, .int (zI ((p : Nat) : Int))), (2, .int (zI ((tune : Nat) : Int))), (4, .int (zI ((k : Nat) : Int)))]) dX7_isOwn_50 (by decide) rfl ?_
              refine x_iinc 54 rfl (lv' := [(4, .int (zI ((k + 1 : Nat) : Int))), (3, .int (zI 1)), (0, .ref mo), (1, .int (zI ((p : Nat) : Int))), (2, .int (zI ((tune : Nat) : Int)))]) dX7_isOwn_51 4 rfl (b := ((k + 1 : Nat) : Int)) (by omega) (by decide) rfl ?_
              refine x_goto dX7_isOwn_54 (tgt := 5) (by decide) ?_
              refine x_lve (congrArg (fun zz : Int32 => ([(4, .int (zI ((k + 1 : Nat) : Int))), (3, .int zz), (0, .ref mo), (1, .int (zI ((p : Nat) : Int))), (2, .int (zI ((tune : Nat) : Int)))] : List (Nat × Value))) (zB_t (allF_t (f := (ownF b p tune)) h18 (by unfold ownF; rw [h42]; exact Bool.or_true _)) : (zI 1) = (zB (allF (ownF b p tune) (k + 1))))) ?_
              refine x_lv [2, 3, 4, 1, 0] rfl ?_
              exact ih5 (k + 1) (by omega) (by omega)
  refine x_lve (congrArg (fun zz : Int32 => ([(4, .int (zI 0)), (3, .int zz), (0, .ref mo), (1, .int (zI ((p : Nat) : Int))), (2, .int (zI ((tune : Nat) : Int)))] : List (Nat × Value))) (rfl : (zI 1) = (zB (allF (ownF b p tune) 0)))) ?_
  refine x_lv [2, 3, 4, 1, 0] rfl ?_
  exact L5 _ 0 (by omega) (Nat.lt_succ_self _)

abbrev P_X7_bride (G : XG) (mo : Nat) (ad : Nat → Nat) (qt : Bool) (sc : Nat → Int) (b : Nat → Int) (rf : Nat → Int) (n : Nat) (d : Nat) (c : Nat) (p : Int) : Option Value → va_W → Prop := fun r ws => r = some (.int (zI (rC (kI n p) (brN b n p.toNat)))) ∧ ws = [(mo, moE ad qt sc), (ad 0, aI G 66 b), (ad 4, aI G 3 (rfC qt rf (kI n p)))]
abbrev W_X7_bride (G : XG) (E : XE) (mo : Nat) (ad : Nat → Nat) (qt : Bool) (sc : Nat → Int) (b : Nat → Int) (rf : Nat → Int) (n : Nat) (d : Nat) (c : Nat) (p : Int) (pc : Nat) (lv : List (Nat × Value)) (st : List Value) (ws : va_W) : Prop := Wx G E (rmL 7) cX7_bride 5 RX7 wsX7_bride (some .int) "bride" 0 0 (P_X7_bride G mo ad qt sc b rf n d c p) 0 0 pc lv st ws
set_option maxHeartbeats 4000000 in
set_option maxRecDepth 100000 in
/-- bride -/
theorem c_X7_bride (G : XG) (mo : Nat) (ad : Nat → Nat) (qt : Bool) (sc : Nat → Int) (b rf : Nat → Int) (n d c : Nat) (I : Inv b n d c) (p : Int) (h1 : Z32 p) : Con G yX7_bride wsX7_bride (rmL 7) 0 0 [.ref mo, .int (zI p)] ([(mo, moE ad qt sc), (ad 0, aI G 66 b), (ad 4, aI G 3 rf)]) (P_X7_bride G mo ad qt sc b rf n d c p) := by
  refine x_start (cc := cX7_bride) (nL := 5) (ret := (some .int)) (by decide) rfl (Nat.le_of_ble_eq_true rfl) (fun E => ?_)
  show W_X7_bride G E mo ad qt sc b rf n d c p 0 [(0, .ref mo), (1, .int (zI p))] [] ([(mo, moE ad qt sc), (ad 0, aI G 66 b), (ad 4, aI G 3 rf)])
  have hn := I.n1
  have hn7 := I.n7
  have hd := I.d1
  have hd6 := I.d6
  have hc := I.c1
  have hc8 := I.c8
  refine x_aload_n 1 rfl dX7_bride_0 0 rfl ?_
  refine x_iload_n 2 rfl dX7_bride_1 1 rfl ?_
  refine x_callV 5 rfl (c_X7_isOne G mo ad qt sc b n hn (by omega) p (by omega)) [0, 1] rfl (by decide) 0 rfl rfl gX7_bride_X7_isOne rfl rfl rfl hd_X7_isOne ⟨Nat.le_of_ble_eq_true rfl, Nat.le_of_ble_eq_true rfl⟩ (As := [.int (zI p)]) (rest := []) rfl rfl (Nat.le_of_ble_eq_true rfl) dX7_bride_2 ⟨Nat.zero_le _, Nat.zero_le _⟩ (fun v w hq => ?_)
  obtain ⟨rfl, rfl⟩ := hq
  refine ⟨rfl, ?_⟩
  refine x_ws (ws' := [(mo, moE ad qt sc), (ad 0, aI G 66 b), (ad 4, aI G 3 rf)]) (rfl) ?_
  refine x_bif_ne 8 rfl (tgt := 13) dX7_bride_5 (by decide) (fun h5 => ?_) (fun h5 => ?_)
  · have h5 := of_decide_eq_true h5
    obtain ⟨p, rfl⟩ : ∃ zk : Nat, p = (zk : Int) := ⟨Int.toNat p, by omega⟩
    refine x_aload_n 14 rfl dX7_bride_13 0 rfl ?_
    refine x_iload_n 15 rfl dX7_bride_14 1 rfl ?_
    refine x_iconst 16 rfl dX7_bride_15 (z := 1) (by decide) ?_
    refine x_callV 19 rfl (c_X7_of G mo ad qt sc b p 1 (by omega) (by omega)) [0, 1] rfl (by decide) 0 rfl rfl gX7_bride_X7_of rfl rfl rfl hd_X7_of ⟨Nat.le_of_ble_eq_true rfl, Nat.le_of_ble_eq_true rfl⟩ (As := [.int (zI ((p : Nat) : Int)), .int (zI 1)]) (rest := []) rfl rfl (Nat.le_of_ble_eq_true rfl) dX7_bride_16 ⟨Nat.zero_le _, Nat.zero_le _⟩ (fun v w hq => ?_)
    obtain ⟨rfl, rfl⟩ := hq
    refine ⟨rfl, ?_⟩
    refine x_ws (ws' := [(mo, moE ad qt sc), (ad 0, aI G 66 b), (ad 4, aI G 3 rf)]) (rfl) ?_
    refine x_int (congrArg zI ((I.t (by omega)).1 : b (18 + 4 * p + 1) = ((tN b p : Nat) : Int))) ?_
    have htv := (I.t (p := p) (by omega)).2
    have ht8 := vt_lt htv
    have hnt := notes_vt _ ht8 htv
    obtain ⟨ea, hea⟩ : ∃ ea, ea = 4 ^ notesN (tN b p) := ⟨_, rfl⟩
    have hea5 : ea ≤ 1024 := by rw [hea]; exact four_pow hnt.2
    have hk0 : kI n p = 0 := by unfold kI; exact if_pos (by omega)
    refine x_istore_n 20 rfl (lv' := [(2, .int (zI ((tN b p : Nat) : Int))), (0, .ref mo), (1, .int (zI ((p : Nat) : Int)))]) dX7_bride_19 (by decide) rfl ?_
    refine x_iconst 21 rfl dX7_bride_20 (z := 1) (by decide) ?_
    refine x_iconst 22 rfl dX7_bride_21 (z := 2) (by decide) ?_
    refine x_iload_n 23 rfl dX7_bride_22 0 rfl ?_
    refine x_callS0 26 rfl (c_X7_notes G (tN b p) (by omega)) (fun _ _ h => h.2) gX7_bride_X7_notes rfl rfl rfl hd_X7_notes ⟨Nat.le_of_ble_eq_true rfl, Nat.le_of_ble_eq_true rfl⟩ (As := [.int (zI ((tN b p : Nat) : Int))]) (rest := [.int (zI 2), .int (zI 1)]) rfl rfl (Nat.le_of_ble_eq_true rfl) dX7_bride_23 ⟨Nat.zero_le _, Nat.zero_le _⟩ (fun v hq => ?_)
    obtain ⟨rfl, -⟩ := hq
    refine x_imul 27 rfl dX7_bride_26 (z := ((2 * (notesN (tN b p)) : Nat) : Int)) (by omega) ?_
    refine x_ishl 28 rfl dX7_bride_27 (z := ((ea : Nat) : Int)) (by rw [hea, ← pow4]; exact zI_shl1 (i := 2 * notesN (tN b p)) (by omega)) ?_
    refine x_istore_n 29 rfl (lv' := [(3, .int (zI ((ea : Nat) : Int))), (2, .int (zI ((tN b p : Nat) : Int))), (0, .ref mo), (1, .int (zI ((p : Nat) : Int)))]) dX7_bride_28 (by decide) rfl ?_
    refine x_iload_n 30 rfl dX7_bride_29 0 rfl ?_
    refine x_istore 32 rfl (lv' := [(4, .int (zI ((ea : Nat) : Int))), (3, .int (zI ((ea : Nat) : Int))), (2, .int (zI ((tN b p : Nat) : Int))), (0, .ref mo), (1, .int (zI ((p : Nat) : Int)))]) dX7_bride_30 (by decide) rfl ?_
    have L32 : ∀ (f32 : Nat) (k : Nat) (hk : k ≤ ea) (hL : brN b n p = leF (brG b n p) (ea + k) (ea - k)), ea - k < f32 → W_X7_bride G E mo ad qt sc b rf n d c p 32 [(0, .ref mo), (1, .int (zI ((p : Nat) : Int))), (2, .int (zI ((tN b p : Nat) : Int))), (3, .int (zI ((ea : Nat) : Int))), (4, .int (zI ((ea + k : Nat) : Int)))] [] ([(mo, moE ad qt sc), (ad 0, aI G 66 b), (ad 4, aI G 3 rf)]) := by
      intro f32
      induction f32 with
      | zero => intro k hk hL hf32; exact absurd hf32 (Nat.not_lt_zero _)
      | succ f32 ih32 =>
        intro k hk hL hf32
        refine x_iload 34 rfl dX7_bride_32 4 rfl ?_
        refine x_iconst 35 rfl dX7_bride_34 (z := 2) (by decide) ?_
        refine x_iload_n 36 rfl dX7_bride_35 3 rfl ?_
        refine x_imul 37 rfl dX7_bride_36 (z := ((2 * ea : Nat) : Int)) (by omega) ?_
        refine x_icmp_ge 40 rfl (tgt := 73) dX7_bride_37 (by decide) (by omega) (by omega) (fun h37 => ?_) (fun h37 => ?_)
        · skip
          refine x_iconst 74 rfl dX7_bride_73 (z := (-1)) (by decide) ?_
          refine x_iret rfl ?_ dX7_bride_74
          have e : brN b n p = -1 := by rw [hL, show ea - k = 0 by omega]; rfl
          exact ⟨by rw [hk0]; exact congrArg (fun z => some (Value.int (zI z))) e.symm, by rw [hk0]; rfl⟩
        · skip
          have hv : vt (ea + k) := each_vt (k := notesN (tN b p)) hnt.1 hnt.2 (by omega) (by omega)
          have hnn : 1 ≤ notesN (ea + k) := (notes_vt _ (vt_lt hv) hv).1
          refine x_iload 42 rfl dX7_bride_40 4 rfl ?_
          refine x_iconst 43 rfl dX7_bride_42 (z := 0) (by decide) ?_
          refine x_callS0 46 rfl (c_X7_note G (ea + k) 0 hv (by omega)) (fun _ _ h => h.2) gX7_bride_X7_note rfl rfl rfl hd_X7_note ⟨Nat.le_of_ble_eq_true rfl, Nat.le_of_ble_eq_true rfl⟩ (As := [.int (zI ((ea + k : Nat) : Int)), .int (zI 0)]) (rest := []) rfl rfl (Nat.le_of_ble_eq_true rfl) dX7_bride_43 ⟨Nat.zero_le _, Nat.zero_le _⟩ (fun v hq => ?_)
          obtain ⟨rfl, -⟩ := hq
          refine x_iload_n 47 rfl dX7_bride_46 2 rfl ?_
          refine x_iconst 48 rfl dX7_bride_47 (z := 0) (by decide) ?_
          refine x_callS0 51 rfl (c_X7_note G (tN b p) 0 htv (by omega)) (fun _ _ h => h.2) gX7_bride_X7_note rfl rfl rfl hd_X7_note ⟨Nat.le_of_ble_eq_true rfl, Nat.le_of_ble_eq_true rfl⟩ (As := [.int (zI ((tN b p : Nat) : Int)), .int (zI 0)]) (rest := [.int (zI ((noteN (ea + k) 0 : Nat) : Int))]) rfl rfl (Nat.le_of_ble_eq_true rfl) dX7_bride_48 ⟨Nat.zero_le _, Nat.zero_le _⟩ (fun v hq => ?_)
          obtain ⟨rfl, -⟩ := hq
          refine x_icmp_ne 54 rfl (tgt := 67) dX7_bride_51 (by decide) (by have := note_lt (ea + k) 0; omega) (by have := note_lt (tN b p) 0; omega) (fun h51 => ?_) (fun h51 => ?_)
          · skip
            have hgf : brG b n p (ea + k) = false := by unfold brG; rw [decide_eq_false (by omega)]; rfl
            refine x_iinc 70 rfl (lv' := [(4, .int (zI ((ea + k + 1 : Nat) : Int))), (0, .ref mo), (1, .int (zI ((p : Nat) : Int))), (2, .int (zI ((tN b p : Nat) : Int))), (3, .int (zI ((ea : Nat) : Int)))]) dX7_bride_67 4 rfl (b := ((ea + k + 1 : Nat) : Int)) (by omega) (by decide) rfl ?_
            refine x_goto dX7_bride_70 (tgt := 32) (by decide) ?_
            refine x_lve (congrArg (fun zz : Int => ([(4, .int (zI zz)), (0, .ref mo), (1, .int (zI ((p : Nat) : Int))), (2, .int (zI ((tN b p : Nat) : Int))), (3, .int (zI ((ea : Nat) : Int)))] : List (Nat × Value))) (by omega : ((ea + k + 1 : Nat) : Int) = ((ea + (k + 1) : Nat) : Int))) ?_
            refine x_lv [1, 2, 3, 4, 0] rfl ?_
            exact ih32 (k + 1) (by omega) (by rw [hL, leF_f (by omega) hgf, Nat.add_assoc, Nat.sub_sub]) (by omega)
          · skip
            refine x_aload_n 55 rfl dX7_bride_54 0 rfl ?_
            refine x_iload_n 56 rfl dX7_bride_55 1 rfl ?_
            refine x_iload 58 rfl dX7_bride_56 4 rfl ?_
            refine x_callV 61 rfl (c_X7_isOwn G mo ad qt sc b n d c I p (ea + k) (by omega) hv) [0, 1] rfl (by decide) 0 rfl rfl gX7_bride_X7_isOwn rfl rfl rfl hd_X7_isOwn ⟨Nat.le_of_ble_eq_true rfl, Nat.le_of_ble_eq_true rfl⟩ (As := [.int (zI ((p : Nat) : Int)), .int (zI ((ea + k : Nat) : Int))]) (rest := []) rfl rfl (Nat.le_of_ble_eq_true rfl) dX7_bride_58 ⟨Nat.zero_le _, Nat.zero_le _⟩ (fun v w hq => ?_)
            obtain ⟨rfl, rfl⟩ := hq
            refine ⟨rfl, ?_⟩
            refine x_ws (ws' := [(mo, moE ad qt sc), (ad 0, aI G 66 b), (ad 4, aI G 3 rf)]) (rfl) ?_
            refine x_bif_eq 64 rfl (tgt := 67) dX7_bride_61 (by decide) (fun h61 => ?_) (fun h61 => ?_)
            · skip
              have hgf : brG b n p (ea + k) = false := by unfold brG; rw [h61]; exact Bool.and_false _
              refine x_iinc 70 rfl (lv' := [(4, .int (zI ((ea + k + 1 : Nat) : Int))), (0, .ref mo), (1, .int (zI ((p : Nat) : Int))), (2, .int (zI ((tN b p : Nat) : Int))), (3, .int (zI ((ea : Nat) : Int)))]) dX7_bride_67 4 rfl (b := ((ea + k + 1 : Nat) : Int)) (by omega) (by decide) rfl ?_
              refine x_goto dX7_bride_70 (tgt := 32) (by decide) ?_
              refine x_lve (congrArg (fun zz : Int => ([(4, .int (zI zz)), (0, .ref mo), (1, .int (zI ((p : Nat) : Int))), (2, .int (zI ((tN b p : Nat) : Int))), (3, .int (zI ((ea : Nat) : Int)))] : List (Nat × Value))) (by omega : ((ea + k + 1 : Nat) : Int) = ((ea + (k + 1) : Nat) : Int))) ?_
              refine x_lv [1, 2, 3, 4, 0] rfl ?_
              exact ih32 (k + 1) (by omega) (by rw [hL, leF_f (by omega) hgf, Nat.add_assoc, Nat.sub_sub]) (by omega)
            · skip
              refine x_iload 66 rfl dX7_bride_64 4 rfl ?_
              refine x_iret rfl ?_ dX7_bride_66
              have hgt : brG b n p (ea + k) = true := by unfold brG; rw [decide_eq_true (by omega), h61]; rfl
              have e : brN b n p = ((ea + k : Nat) : Int) := by rw [hL]; exact leF_t (by omega) hgt
              exact ⟨by rw [hk0]; exact congrArg (fun z => some (Value.int (zI z))) e.symm, by rw [hk0]; rfl⟩
    refine x_lve (congrArg (fun zz : Int => ([(4, .int (zI zz)), (3, .int (zI ((ea : Nat) : Int))), (2, .int (zI ((tN b p : Nat) : Int))), (0, .ref mo), (1, .int (zI ((p : Nat) : Int)))] : List (Nat × Value))) (rfl : ((ea : Nat) : Int) = ((ea + 0 : Nat) : Int))) ?_
    refine x_lv [3, 4, 2, 1, 0] rfl ?_
    exact L32 _ 0 (by omega) (by unfold brN; rw [← hea, Nat.sub_zero, Nat.add_zero]) (Nat.lt_succ_self _)
  · have h5 := of_decide_eq_false h5
    refine x_aload_n 9 rfl dX7_bride_8 0 rfl ?_
    refine x_callV 12 rfl (c_X7_bad G mo ad qt sc rf) [0, 2] rfl (by decide) 0 rfl rfl gX7_bride_X7_bad rfl rfl rfl hd_X7_bad ⟨Nat.le_of_ble_eq_true rfl, Nat.le_of_ble_eq_true rfl⟩ (As := []) (rest := []) rfl rfl (Nat.le_of_ble_eq_true rfl) dX7_bride_9 ⟨Nat.zero_le _, Nat.zero_le _⟩ (fun v w hq => ?_)
    obtain ⟨rfl, rfl⟩ := hq
    refine ⟨rfl, ?_⟩
    refine x_ws (ws' := [(mo, moE ad qt sc), (ad 0, aI G 66 b), (ad 4, aI G 3 (rfU qt rf 0))]) (rfl) ?_
    refine x_iret rfl ?_ dX7_bride_12
    have hk : kI n p = 1 := by unfold kI; exact if_neg (fun hh => by first | omega | (simp [*] at hh; done) | (obtain ⟨ha, hb, hc, hd⟩ := hh; first | omega | simp_all) | (obtain ⟨ha, hb, hc⟩ := hh; first | omega | simp_all) | (obtain ⟨ha, hb⟩ := hh; first | omega | simp_all))
    exact ⟨by rw [hk]; rfl, by rw [hk]; rfl⟩

abbrev P_X7_thief (G : XG) (mo : Nat) (ad : Nat → Nat) (qt : Bool) (sc : Nat → Int) (b : Nat → Int) (rf : Nat → Int) (n : Nat) (d : Nat) (c : Nat) (place : Int) (wind : Int) (p : Int) : Option Value → va_W → Prop := fun r ws => r = some (.int (zI (rC (kB n place wind p) (thN b n place.toNat wind.toNat p.toNat)))) ∧ ws = [(mo, moE ad qt sc), (ad 0, aI G 66 b), (ad 4, aI G 3 (rfC qt rf (kB n place wind p)))]
abbrev W_X7_thief (G : XG) (E : XE) (mo : Nat) (ad : Nat → Nat) (qt : Bool) (sc : Nat → Int) (b : Nat → Int) (rf : Nat → Int) (n : Nat) (d : Nat) (c : Nat) (place : Int) (wind : Int) (p : Int) (pc : Nat) (lv : List (Nat × Value)) (st : List Value) (ws : va_W) : Prop := Wx G E (rmL 5) cX7_thief 5 RX7 wsX7_thief (some .int) "thief" 0 0 (P_X7_thief G mo ad qt sc b rf n d c place wind p) 0 0 pc lv st ws
set_option maxHeartbeats 4000000 in
set_option maxRecDepth 100000 in
/-- thief -/
theorem c_X7_thief (G : XG) (mo : Nat) (ad : Nat → Nat) (qt : Bool) (sc : Nat → Int) (b rf : Nat → Int) (n d c : Nat) (I : Inv b n d c) (place wind p : Int) (h1 : Z32 place) (h2 : Z32 wind) (h3 : Z32 p) : Con G yX7_thief wsX7_thief (rmL 5) 0 0 [.ref mo, .int (zI place), .int (zI wind), .int (zI p)] ([(mo, moE ad qt sc), (ad 0, aI G 66 b), (ad 4, aI G 3 rf)]) (P_X7_thief G mo ad qt sc b rf n d c place wind p) := by
  refine x_start (cc := cX7_thief) (nL := 5) (ret := (some .int)) (by decide) rfl (Nat.le_of_ble_eq_true rfl) (fun E => ?_)
  show W_X7_thief G E mo ad qt sc b rf n d c place wind p 0 [(0, .ref mo), (1, .int (zI place)), (2, .int (zI wind)), (3, .int (zI p))] [] ([(mo, moE ad qt sc), (ad 0, aI G 66 b), (ad 4, aI G 3 rf)])
  have hn := I.n1
  have hn7 := I.n7
  have hd := I.d1
  have hd6 := I.d6
  have hc := I.c1
  have hc8 := I.c8
  refine x_iload_n 1 rfl dX7_thief_0 1 rfl ?_
  refine x_callS0 4 rfl (c_X7_isPlace G place (by omega)) (fun _ _ h => h.2) gX7_thief_X7_isPlace rfl rfl rfl hd_X7_isPlace ⟨Nat.le_of_ble_eq_true rfl, Nat.le_of_ble_eq_true rfl⟩ (As := [.int (zI place)]) (rest := []) rfl rfl (Nat.le_of_ble_eq_true rfl) dX7_thief_1 ⟨Nat.zero_le _, Nat.zero_le _⟩ (fun v hq => ?_)
  obtain ⟨rfl, -⟩ := hq
  refine x_bif_eq 7 rfl (tgt := 22) dX7_thief_4 (by decide) (fun h4 => ?_) (fun h4 => ?_)
  · have h4 := of_decide_eq_false h4
    refine x_aload_n 23 rfl dX7_thief_22 0 rfl ?_
    refine x_callV 26 rfl (c_X7_bad G mo ad qt sc rf) [0, 2] rfl (by decide) 0 rfl rfl gX7_thief_X7_bad rfl rfl rfl hd_X7_bad ⟨Nat.le_of_ble_eq_true rfl, Nat.le_of_ble_eq_true rfl⟩ (As := []) (rest := []) rfl rfl (Nat.le_of_ble_eq_true rfl) dX7_thief_23 ⟨Nat.zero_le _, Nat.zero_le _⟩ (fun v w hq => ?_)
    obtain ⟨rfl, rfl⟩ := hq
    refine ⟨rfl, ?_⟩
    refine x_ws (ws' := [(mo, moE ad qt sc), (ad 0, aI G 66 b), (ad 4, aI G 3 (rfU qt rf 0))]) (rfl) ?_
    refine x_iret rfl ?_ dX7_thief_26
    have hk : kB n place wind p = 1 := by unfold kB; exact if_neg (fun hh => by first | omega | (simp [*] at hh; done) | (obtain ⟨ha, hb, hc, hd⟩ := hh; first | omega | simp_all) | (obtain ⟨ha, hb, hc⟩ := hh; first | omega | simp_all) | (obtain ⟨ha, hb⟩ := hh; first | omega | simp_all))
    exact ⟨by rw [hk]; rfl, by rw [hk]; rfl⟩
  · have h4 := of_decide_eq_true h4
    refine x_iload_n 8 rfl dX7_thief_7 2 rfl ?_
    refine x_callS0 11 rfl (c_X7_isWind G wind (by omega)) (fun _ _ h => h.2) gX7_thief_X7_isWind rfl rfl rfl hd_X7_isWind ⟨Nat.le_of_ble_eq_true rfl, Nat.le_of_ble_eq_true rfl⟩ (As := [.int (zI wind)]) (rest := []) rfl rfl (Nat.le_of_ble_eq_true rfl) dX7_thief_8 ⟨Nat.zero_le _, Nat.zero_le _⟩ (fun v hq => ?_)
    obtain ⟨rfl, -⟩ := hq
    refine x_bif_eq 14 rfl (tgt := 22) dX7_thief_11 (by decide) (fun h11 => ?_) (fun h11 => ?_)
    · have h11 := of_decide_eq_false h11
      refine x_aload_n 23 rfl dX7_thief_22 0 rfl ?_
      refine x_callV 26 rfl (c_X7_bad G mo ad qt sc rf) [0, 2] rfl (by decide) 0 rfl rfl gX7_thief_X7_bad rfl rfl rfl hd_X7_bad ⟨Nat.le_of_ble_eq_true rfl, Nat.le_of_ble_eq_true rfl⟩ (As := []) (rest := []) rfl rfl (Nat.le_of_ble_eq_true rfl) dX7_thief_23 ⟨Nat.zero_le _, Nat.zero_le _⟩ (fun v w hq => ?_)
      obtain ⟨rfl, rfl⟩ := hq
      refine ⟨rfl, ?_⟩
      refine x_ws (ws' := [(mo, moE ad qt sc), (ad 0, aI G 66 b), (ad 4, aI G 3 (rfU qt rf 0))]) (rfl) ?_
      refine x_iret rfl ?_ dX7_thief_26
      have hk : kB n place wind p = 1 := by unfold kB; exact if_neg (fun hh => by first | omega | (simp [*] at hh; done) | (obtain ⟨ha, hb, hc, hd⟩ := hh; first | omega | simp_all) | (obtain ⟨ha, hb, hc⟩ := hh; first | omega | simp_all) | (obtain ⟨ha, hb⟩ := hh; first | omega | simp_all))
      exact ⟨by rw [hk]; rfl, by rw [hk]; rfl⟩
    · have h11 := of_decide_eq_true h11
      refine x_aload_n 15 rfl dX7_thief_14 0 rfl ?_
      refine x_iload_n 16 rfl dX7_thief_15 3 rfl ?_
      refine x_callV 19 rfl (c_X7_isOne G mo ad qt sc b n hn (by omega) p (by omega)) [0, 1] rfl (by decide) 0 rfl rfl gX7_thief_X7_isOne rfl rfl rfl hd_X7_isOne ⟨Nat.le_of_ble_eq_true rfl, Nat.le_of_ble_eq_true rfl⟩ (As := [.int (zI p)]) (rest := []) rfl rfl (Nat.le_of_ble_eq_true rfl) dX7_thief_16 ⟨Nat.zero_le _, Nat.zero_le _⟩ (fun v w hq => ?_)
      obtain ⟨rfl, rfl⟩ := hq
      refine ⟨rfl, ?_⟩
      refine x_ws (ws' := [(mo, moE ad qt sc), (ad 0, aI G 66 b), (ad 4, aI G 3 rf)]) (rfl) ?_
      refine x_bif_ne 22 rfl (tgt := 27) dX7_thief_19 (by decide) (fun h19 => ?_) (fun h19 => ?_)
      · have h19 := of_decide_eq_true h19
        obtain ⟨place, rfl⟩ : ∃ zk : Nat, place = (zk : Int) := ⟨Int.toNat place, by omega⟩
        obtain ⟨wind, rfl⟩ : ∃ zk : Nat, wind = (zk : Int) := ⟨Int.toNat wind, by omega⟩
        obtain ⟨p, rfl⟩ : ∃ zk : Nat, p = (zk : Int) := ⟨Int.toNat p, by omega⟩
        refine x_iconst 28 rfl dX7_thief_27 (z := 1) (by decide) ?_
        have htv := (I.t (p := p) (by omega)).2
        have ht8 := vt_lt htv
        have hnt := notes_vt _ ht8 htv
        have hk0 : kB n place wind p = 0 := by unfold kB; exact if_pos (by omega)
        refine x_istore 30 rfl (lv' := [(4, .int (zI 1)), (0, .ref mo), (1, .int (zI ((place : Nat) : Int))), (2, .int (zI ((wind : Nat) : Int))), (3, .int (zI ((p : Nat) : Int)))]) dX7_thief_28 (by decide) rfl ?_
        have L30 : ∀ (f30 : Nat) (k : Nat) (hk : k ≤ notesN (tN b p)) (hL : thN b n place wind p = leF (thG b n place wind p) (1 + k) (notesN (tN b p) - k)), notesN (tN b p) - k < f30 → W_X7_thief G E mo ad qt sc b rf n d c place wind p 30 [(0, .ref mo), (1, .int (zI ((place : Nat) : Int))), (2, .int (zI ((wind : Nat) : Int))), (3, .int (zI ((p : Nat) : Int))), (4, .int (zI ((1 + k : Nat) : Int)))] [] ([(mo, moE ad qt sc), (ad 0, aI G 66 b), (ad 4, aI G 3 rf)]) := by
          intro f30
          induction f30 with
          | zero => intro k hk hL hf30; exact absurd hf30 (Nat.not_lt_zero _)
          | succ f30 ih30 =>
            intro k hk hL hf30
            refine x_iload 32 rfl dX7_thief_30 4 rfl ?_
            refine x_aload_n 33 rfl dX7_thief_32 0 rfl ?_
            refine x_iload_n 34 rfl dX7_thief_33 3 rfl ?_
            refine x_iconst 35 rfl dX7_thief_34 (z := 1) (by decide) ?_
            refine x_callV 38 rfl (c_X7_of G mo ad qt sc b p 1 (by omega) (by omega)) [0, 1] rfl (by decide) 0 rfl rfl gX7_thief_X7_of rfl rfl rfl hd_X7_of ⟨Nat.le_of_ble_eq_true rfl, Nat.le_of_ble_eq_true rfl⟩ (As := [.int (zI ((p : Nat) : Int)), .int (zI 1)]) (rest := [.int (zI ((1 + k : Nat) : Int))]) rfl rfl (Nat.le_of_ble_eq_true rfl) dX7_thief_35 ⟨Nat.zero_le _, Nat.zero_le _⟩ (fun v w hq => ?_)
            obtain ⟨rfl, rfl⟩ := hq
            refine ⟨rfl, ?_⟩
            refine x_ws (ws' := [(mo, moE ad qt sc), (ad 0, aI G 66 b), (ad 4, aI G 3 rf)]) (rfl) ?_
            refine x_int (congrArg zI ((I.t (by omega)).1 : b (18 + 4 * p + 1) = ((tN b p : Nat) : Int))) ?_
            refine x_callS0 41 rfl (c_X7_notes G (tN b p) (by omega)) (fun _ _ h => h.2) gX7_thief_X7_notes rfl rfl rfl hd_X7_notes ⟨Nat.le_of_ble_eq_true rfl, Nat.le_of_ble_eq_true rfl⟩ (As := [.int (zI ((tN b p : Nat) : Int))]) (rest := [.int (zI ((1 + k : Nat) : Int))]) rfl rfl (Nat.le_of_ble_eq_true rfl) dX7_thief_38 ⟨Nat.zero_le _, Nat.zero_le _⟩ (fun v hq => ?_)
            obtain ⟨rfl, -⟩ := hq
            refine x_icmp_gt 44 rfl (tgt := 76) dX7_thief_41 (by decide) (by omega) (by omega) (fun h41 => ?_) (fun h41 => ?_)
            · skip
              refine x_iconst 77 rfl dX7_thief_76 (z := (-1)) (by decide) ?_
              refine x_iret rfl ?_ dX7_thief_77
              have e : thN b n place wind p = -1 := by rw [hL, show notesN (tN b p) - k = 0 by omega]; rfl
              exact ⟨by rw [hk0]; exact congrArg (fun z => some (Value.int (zI z))) e.symm, by rw [hk0]; rfl⟩
            · skip
              refine x_aload_n 45 rfl dX7_thief_44 0 rfl ?_
              refine x_iload_n 46 rfl dX7_thief_45 1 rfl ?_
              refine x_aload_n 47 rfl dX7_thief_46 0 rfl ?_
              refine x_iload_n 48 rfl dX7_thief_47 3 rfl ?_
              refine x_iconst 49 rfl dX7_thief_48 (z := 1) (by decide) ?_
              refine x_callV 52 rfl (c_X7_of G mo ad qt sc b p 1 (by omega) (by omega)) [0, 1] rfl (by decide) 0 rfl rfl gX7_thief_X7_of rfl rfl rfl hd_X7_of ⟨Nat.le_of_ble_eq_true rfl, Nat.le_of_ble_eq_true rfl⟩ (As := [.int (zI ((p : Nat) : Int)), .int (zI 1)]) (rest := [.int (zI ((place : Nat) : Int)), .ref mo]) rfl rfl (Nat.le_of_ble_eq_true rfl) dX7_thief_49 ⟨Nat.zero_le _, Nat.zero_le _⟩ (fun v w hq => ?_)
              obtain ⟨rfl, rfl⟩ := hq
              refine ⟨rfl, ?_⟩
              refine x_ws (ws' := [(mo, moE ad qt sc), (ad 0, aI G 66 b), (ad 4, aI G 3 rf)]) (rfl) ?_
              refine x_int (congrArg zI ((I.t (by omega)).1 : b (18 + 4 * p + 1) = ((tN b p : Nat) : Int))) ?_
              refine x_iload 54 rfl dX7_thief_52 4 rfl ?_
              refine x_callS0 57 rfl (c_X7_front G (tN b p) (1 + k) (by omega) (by omega)) (fun _ _ h => h.2) gX7_thief_X7_front rfl rfl rfl hd_X7_front ⟨Nat.le_of_ble_eq_true rfl, Nat.le_of_ble_eq_true rfl⟩ (As := [.int (zI ((tN b p : Nat) : Int)), .int (zI ((1 + k : Nat) : Int))]) (rest := [.int (zI ((place : Nat) : Int)), .ref mo]) rfl rfl (Nat.le_of_ble_eq_true rfl) dX7_thief_54 ⟨Nat.zero_le _, Nat.zero_le _⟩ (fun v hq => ?_)
              obtain ⟨rfl, -⟩ := hq
              refine x_iload_n 58 rfl dX7_thief_57 2 rfl ?_
              refine x_callV 61 rfl (c_X7_called G mo ad qt sc b n d c I place (frontN (tN b p) (1 + k)) wind (by omega) (front_vt htv (by omega) (by omega)) (by omega)) [0, 1] rfl (by decide) 0 rfl rfl gX7_thief_X7_called rfl rfl rfl hd_X7_called ⟨Nat.le_of_ble_eq_true rfl, Nat.le_of_ble_eq_true rfl⟩ (As := [.int (zI ((place : Nat) : Int)), .int (zI ((frontN (tN b p) (1 + k) : Nat) : Int)), .int (zI ((wind : Nat) : Int))]) (rest := []) rfl rfl (Nat.le_of_ble_eq_true rfl) dX7_thief_58 ⟨Nat.zero_le _, Nat.zero_le _⟩ (fun v w hq => ?_)
              obtain ⟨rfl, rfl⟩ := hq
              refine ⟨rfl, ?_⟩
              refine x_ws (ws' := [(mo, moE ad qt sc), (ad 0, aI G 66 b), (ad 4, aI G 3 rf)]) (rfl) ?_
              refine x_iconst 62 rfl dX7_thief_61 (z := 1) (by decide) ?_
              refine x_iload_n 63 rfl dX7_thief_62 3 rfl ?_
              refine x_ishl 64 rfl dX7_thief_63 (z := ((2 ^ p : Nat) : Int)) (zI_shl1 (i := p) (by omega)) ?_
              refine x_icmp_ne 67 rfl (tgt := 70) dX7_thief_64 (by decide) (by have := calN_lt I place (frontN (tN b p) (1 + k)) wind; omega) (z32_pow (by omega)) (fun h64 => ?_) (fun h64 => ?_)
              · skip
                have hgf : (thG b n place wind p) (1 + k) = false := by unfold thG; exact decide_eq_false (by omega)
                refine x_iinc 73 rfl (lv' := [(4, .int (zI ((1 + k + 1 : Nat) : Int))), (0, .ref mo), (1, .int (zI ((place : Nat) : Int))), (2, .int (zI ((wind : Nat) : Int))), (3, .int (zI ((p : Nat) : Int)))]) dX7_thief_70 4 rfl (b := ((1 + k + 1 : Nat) : Int)) (by omega) (by decide) rfl ?_
                refine x_goto dX7_thief_73 (tgt := 30) (by decide) ?_
                refine x_lve (congrArg (fun zz : Int => ([(4, .int (zI zz)), (0, .ref mo), (1, .int (zI ((place : Nat) : Int))), (2, .int (zI ((wind : Nat) : Int))), (3, .int (zI ((p : Nat) : Int)))] : List (Nat × Value))) (by omega : ((1 + k + 1 : Nat) : Int) = ((1 + (k + 1) : Nat) : Int))) ?_
                refine x_lv [1, 2, 3, 4, 0] rfl ?_
                exact ih30 (k + 1) (by omega) (by rw [hL, leF_f (by omega) hgf, Nat.add_assoc, Nat.sub_sub]) (by omega)
              · skip
                refine x_iload 69 rfl dX7_thief_67 4 rfl ?_
                refine x_iret rfl ?_ dX7_thief_69
                have hgt : (thG b n place wind p) (1 + k) = true := by unfold thG; exact decide_eq_true (by omega)
                have e : thN b n place wind p = ((1 + k : Nat) : Int) := by rw [hL]; exact leF_t (by omega) hgt
                exact ⟨by rw [hk0]; exact congrArg (fun z => some (Value.int (zI z))) e.symm, by rw [hk0]; rfl⟩
        refine x_lve (congrArg (fun zz : Int => ([(4, .int (zI zz)), (0, .ref mo), (1, .int (zI ((place : Nat) : Int))), (2, .int (zI ((wind : Nat) : Int))), (3, .int (zI ((p : Nat) : Int)))] : List (Nat × Value))) (rfl : 1 = ((1 + 0 : Nat) : Int))) ?_
        refine x_lv [1, 2, 3, 4, 0] rfl ?_
        exact L30 _ 0 (by omega) (by unfold thN; rw [Nat.sub_zero]) (Nat.lt_succ_self _)
      · have h19 := of_decide_eq_false h19
        refine x_aload_n 23 rfl dX7_thief_22 0 rfl ?_
        refine x_callV 26 rfl (c_X7_bad G mo ad qt sc rf) [0, 2] rfl (by decide) 0 rfl rfl gX7_thief_X7_bad rfl rfl rfl hd_X7_bad ⟨Nat.le_of_ble_eq_true rfl, Nat.le_of_ble_eq_true rfl⟩ (As := []) (rest := []) rfl rfl (Nat.le_of_ble_eq_true rfl) dX7_thief_23 ⟨Nat.zero_le _, Nat.zero_le _⟩ (fun v w hq => ?_)
        obtain ⟨rfl, rfl⟩ := hq
        refine ⟨rfl, ?_⟩
        refine x_ws (ws' := [(mo, moE ad qt sc), (ad 0, aI G 66 b), (ad 4, aI G 3 (rfU qt rf 0))]) (rfl) ?_
        refine x_iret rfl ?_ dX7_thief_26
        have hk : kB n place wind p = 1 := by unfold kB; exact if_neg (fun hh => by first | omega | (simp [*] at hh; done) | (obtain ⟨ha, hb, hc, hd⟩ := hh; first | omega | simp_all) | (obtain ⟨ha, hb, hc⟩ := hh; first | omega | simp_all) | (obtain ⟨ha, hb⟩ := hh; first | omega | simp_all))
        exact ⟨by rw [hk]; rfl, by rw [hk]; rfl⟩

abbrev P_X7_whistled (G : XG) (mo : Nat) (ad : Nat → Nat) (qt : Bool) (sc : Nat → Int) (b : Nat → Int) (rf : Nat → Int) (n : Nat) (d : Nat) (c : Nat) (place : Int) (wind : Int) (who : Int) (what : Int) : Option Value → va_W → Prop := fun r ws => r = some (.int (zI (rC (kV (whN b n place.toNat wind.toNat who) n place wind who what) (if what = 0 then (whN b n place.toNat wind.toNat who).1 else (whN b n place.toNat wind.toNat who).2)))) ∧ ws = [(mo, moE ad qt sc), (ad 0, aI G 66 b), (ad 4, aI G 3 (rfC qt rf (kV (whN b n place.toNat wind.toNat who) n place wind who what)))]
abbrev W_X7_whistled (G : XG) (E : XE) (mo : Nat) (ad : Nat → Nat) (qt : Bool) (sc : Nat → Int) (b : Nat → Int) (rf : Nat → Int) (n : Nat) (d : Nat) (c : Nat) (place : Int) (wind : Int) (who : Int) (what : Int) (pc : Nat) (lv : List (Nat × Value)) (st : List Value) (ws : va_W) : Prop := Wx G E (rmL 5) cX7_whistled 8 RX7 wsX7_whistled (some .int) "whistled" 0 0 (P_X7_whistled G mo ad qt sc b rf n d c place wind who what) 0 0 pc lv st ws
theorem flX7_whistled_7 : Cond.fieldLink RX7 7 (TX7 0).1 (TX7 0).2.1 (TX7 0).2.2.1 ∈ wsX7_whistled := by decide +kernel
theorem inX7_whistled_X7 : ∀ w ∈ u_ws RX7 TX7 18, w ∈ wsX7_whistled := fun _ h => List.mem_cons_of_mem _ (List.mem_append_right _ h)
set_option maxHeartbeats 4000000 in
set_option maxRecDepth 100000 in
/-- whistled -/
theorem c_X7_whistled (G : XG) (mo : Nat) (ad : Nat → Nat) (qt : Bool) (sc : Nat → Int) (b rf : Nat → Int) (n d c : Nat) (I : Inv b n d c) (place wind who what : Int) (h1 : Z32 place) (h2 : Z32 wind) (h3 : Z32 who) (h4 : Z32 what) : Con G yX7_whistled wsX7_whistled (rmL 5) 0 0 [.ref mo, .int (zI place), .int (zI wind), .int (zI who), .int (zI what)] ([(mo, moE ad qt sc), (ad 0, aI G 66 b), (ad 4, aI G 3 rf)]) (P_X7_whistled G mo ad qt sc b rf n d c place wind who what) := by
  refine x_start (cc := cX7_whistled) (nL := 8) (ret := (some .int)) (by decide) rfl (Nat.le_of_ble_eq_true rfl) (fun E => ?_)
  show W_X7_whistled G E mo ad qt sc b rf n d c place wind who what 0 [(0, .ref mo), (1, .int (zI place)), (2, .int (zI wind)), (3, .int (zI who)), (4, .int (zI what))] [] ([(mo, moE ad qt sc), (ad 0, aI G 66 b), (ad 4, aI G 3 rf)])
  have hn := I.n1
  have hn7 := I.n7
  have hd := I.d1
  have hd6 := I.d6
  have hc := I.c1
  have hc8 := I.c8
  have hp2 : 2 ^ n ≤ 2 ^ 7 := Nat.pow_le_pow_right (by decide) hn7
  have hp0 : 0 < 2 ^ n := Nat.two_pow_pos n
  refine x_iload_n 1 rfl dX7_whistled_0 1 rfl ?_
  refine x_callS0 4 rfl (c_X7_isPlace G place (by omega)) (fun _ _ h => h.2) gX7_whistled_X7_isPlace rfl rfl rfl hd_X7_isPlace ⟨Nat.le_of_ble_eq_true rfl, Nat.le_of_ble_eq_true rfl⟩ (As := [.int (zI place)]) (rest := []) rfl rfl (Nat.le_of_ble_eq_true rfl) dX7_whistled_1 ⟨Nat.zero_le _, Nat.zero_le _⟩ (fun v hq => ?_)
  obtain ⟨rfl, -⟩ := hq
  refine x_bif_eq 7 rfl (tgt := 46) dX7_whistled_4 (by decide) (fun h4 => ?_) (fun h4 => ?_)
  · have h4 := of_decide_eq_false h4
    refine x_aload_n 47 rfl dX7_whistled_46 0 rfl ?_
    refine x_callV 50 rfl (c_X7_bad G mo ad qt sc rf) [0, 2] rfl (by decide) 0 rfl rfl gX7_whistled_X7_bad rfl rfl rfl hd_X7_bad ⟨Nat.le_of_ble_eq_true rfl, Nat.le_of_ble_eq_true rfl⟩ (As := []) (rest := []) rfl rfl (Nat.le_of_ble_eq_true rfl) dX7_whistled_47 ⟨Nat.zero_le _, Nat.zero_le _⟩ (fun v w hq => ?_)
    obtain ⟨rfl, rfl⟩ := hq
    refine ⟨rfl, ?_⟩
    refine x_ws (ws' := [(mo, moE ad qt sc), (ad 0, aI G 66 b), (ad 4, aI G 3 (rfU qt rf 0))]) (rfl) ?_
    refine x_iret rfl ?_ dX7_whistled_50
    have hk : kV (whN b n place.toNat wind.toNat who) n place wind who what = 1 := by unfold kV; exact if_neg (fun hh => by first | omega | (simp [*] at hh; done) | (obtain ⟨ha, hb, hc, hd⟩ := hh; first | omega | simp_all) | (obtain ⟨ha, hb, hc⟩ := hh; first | omega | simp_all) | (obtain ⟨ha, hb⟩ := hh; first | omega | simp_all))
    exact ⟨by rw [hk]; rfl, by rw [hk]; rfl⟩
  · have h4 := of_decide_eq_true h4
    refine x_iload_n 8 rfl dX7_whistled_7 2 rfl ?_
    refine x_callS0 11 rfl (c_X7_isWind G wind (by omega)) (fun _ _ h => h.2) gX7_whistled_X7_isWind rfl rfl rfl hd_X7_isWind ⟨Nat.le_of_ble_eq_true rfl, Nat.le_of_ble_eq_true rfl⟩ (As := [.int (zI wind)]) (rest := []) rfl rfl (Nat.le_of_ble_eq_true rfl) dX7_whistled_8 ⟨Nat.zero_le _, Nat.zero_le _⟩ (fun v hq => ?_)
    obtain ⟨rfl, -⟩ := hq
    refine x_bif_eq 14 rfl (tgt := 46) dX7_whistled_11 (by decide) (fun h11 => ?_) (fun h11 => ?_)
    · have h11 := of_decide_eq_false h11
      refine x_aload_n 47 rfl dX7_whistled_46 0 rfl ?_
      refine x_callV 50 rfl (c_X7_bad G mo ad qt sc rf) [0, 2] rfl (by decide) 0 rfl rfl gX7_whistled_X7_bad rfl rfl rfl hd_X7_bad ⟨Nat.le_of_ble_eq_true rfl, Nat.le_of_ble_eq_true rfl⟩ (As := []) (rest := []) rfl rfl (Nat.le_of_ble_eq_true rfl) dX7_whistled_47 ⟨Nat.zero_le _, Nat.zero_le _⟩ (fun v w hq => ?_)
      obtain ⟨rfl, rfl⟩ := hq
      refine ⟨rfl, ?_⟩
      refine x_ws (ws' := [(mo, moE ad qt sc), (ad 0, aI G 66 b), (ad 4, aI G 3 (rfU qt rf 0))]) (rfl) ?_
      refine x_iret rfl ?_ dX7_whistled_50
      have hk : kV (whN b n place.toNat wind.toNat who) n place wind who what = 1 := by unfold kV; exact if_neg (fun hh => by first | omega | (simp [*] at hh; done) | (obtain ⟨ha, hb, hc, hd⟩ := hh; first | omega | simp_all) | (obtain ⟨ha, hb, hc⟩ := hh; first | omega | simp_all) | (obtain ⟨ha, hb⟩ := hh; first | omega | simp_all))
      exact ⟨by rw [hk]; rfl, by rw [hk]; rfl⟩
    · have h11 := of_decide_eq_true h11
      refine x_iload_n 15 rfl dX7_whistled_14 3 rfl ?_
      refine x_i2l 16 rfl dX7_whistled_15 (z := (zL who)) (zI_i2l (by omega)) ?_
      refine x_lconst 17 rfl dX7_whistled_16 (z := 0) (by decide) ?_
      refine x_iconst 18 rfl dX7_whistled_17 (z := 1) (by decide) ?_
      refine x_aload_n 19 rfl dX7_whistled_18 0 rfl ?_
      refine x_get 22 rfl 0 0 rfl rfl (by decide) inX7_whistled_X7 flX7_whistled_7 rfl dX7_whistled_19 ?_
      refine x_bipush 24 rfl dX7_whistled_22 (z := 15) (by decide) ?_
      refine x_iald 25 rfl 1 15 rfl (⟨by omega, by omega⟩) (by decide) (v := ((n : Nat) : Int)) (hn) dX7_whistled_24 ?_
      refine x_ishl 26 rfl dX7_whistled_25 (z := ((2 ^ n : Nat) : Int)) (zI_shl1 (i := n) (by omega)) ?_
      refine x_iconst 27 rfl dX7_whistled_26 (z := 1) (by decide) ?_
      refine x_isub 28 rfl dX7_whistled_27 (z := ((2 ^ n : Nat) : Int) - 1) (rfl) ?_
      refine x_i2l 29 rfl dX7_whistled_28 (z := (zL (((2 ^ n : Nat) : Int) - 1))) (zI_i2l (by omega)) ?_
      refine x_callS0 32 rfl (c_X7_in G who 0 (((2 ^ n : Nat) : Int) - 1) (by omega) (by omega) (by omega)) (fun _ _ h => h.2) gX7_whistled_X7_in rfl rfl rfl hd_X7_in ⟨Nat.le_of_ble_eq_true rfl, Nat.le_of_ble_eq_true rfl⟩ (As := [.long (zL who), .long (zL 0), .long (zL (((2 ^ n : Nat) : Int) - 1))]) (rest := []) rfl rfl (Nat.le_of_ble_eq_true rfl) dX7_whistled_29 ⟨Nat.zero_le _, Nat.zero_le _⟩ (fun v hq => ?_)
      obtain ⟨rfl, -⟩ := hq
      refine x_bif_eq 35 rfl (tgt := 46) dX7_whistled_32 (by decide) (fun h32 => ?_) (fun h32 => ?_)
      · have h32 := of_decide_eq_false h32
        refine x_aload_n 47 rfl dX7_whistled_46 0 rfl ?_
        refine x_callV 50 rfl (c_X7_bad G mo ad qt sc rf) [0, 2] rfl (by decide) 0 rfl rfl gX7_whistled_X7_bad rfl rfl rfl hd_X7_bad ⟨Nat.le_of_ble_eq_true rfl, Nat.le_of_ble_eq_true rfl⟩ (As := []) (rest := []) rfl rfl (Nat.le_of_ble_eq_true rfl) dX7_whistled_47 ⟨Nat.zero_le _, Nat.zero_le _⟩ (fun v w hq => ?_)
        obtain ⟨rfl, rfl⟩ := hq
        refine ⟨rfl, ?_⟩
        refine x_ws (ws' := [(mo, moE ad qt sc), (ad 0, aI G 66 b), (ad 4, aI G 3 (rfU qt rf 0))]) (rfl) ?_
        refine x_iret rfl ?_ dX7_whistled_50
        have hk : kV (whN b n place.toNat wind.toNat who) n place wind who what = 1 := by unfold kV; exact if_neg (fun hh => by first | omega | (simp [*] at hh; done) | (obtain ⟨ha, hb, hc, hd⟩ := hh; first | omega | simp_all) | (obtain ⟨ha, hb, hc⟩ := hh; first | omega | simp_all) | (obtain ⟨ha, hb⟩ := hh; first | omega | simp_all))
        exact ⟨by rw [hk]; rfl, by rw [hk]; rfl⟩
      · have h32 := of_decide_eq_true h32
        refine x_iload 37 rfl dX7_whistled_35 4 rfl ?_
        refine x_i2l 38 rfl dX7_whistled_37 (z := (zL what)) (zI_i2l (by omega)) ?_
        refine x_lconst 39 rfl dX7_whistled_38 (z := 0) (by decide) ?_
        refine x_lconst 40 rfl dX7_whistled_39 (z := 1) (by decide) ?_
        refine x_callS0 43 rfl (c_X7_in G what 0 1 (by omega) (by omega) (by omega)) (fun _ _ h => h.2) gX7_whistled_X7_in rfl rfl rfl hd_X7_in ⟨Nat.le_of_ble_eq_true rfl, Nat.le_of_ble_eq_true rfl⟩ (As := [.long (zL what), .long (zL 0), .long (zL 1)]) (rest := []) rfl rfl (Nat.le_of_ble_eq_true rfl) dX7_whistled_40 ⟨Nat.zero_le _, Nat.zero_le _⟩ (fun v hq => ?_)
        obtain ⟨rfl, -⟩ := hq
        refine x_bif_ne 46 rfl (tgt := 51) dX7_whistled_43 (by decide) (fun h43 => ?_) (fun h43 => ?_)
        · have h43 := of_decide_eq_true h43
          obtain ⟨place, rfl⟩ : ∃ zk : Nat, place = (zk : Int) := ⟨Int.toNat place, by omega⟩
          obtain ⟨wind, rfl⟩ : ∃ zk : Nat, wind = (zk : Int) := ⟨Int.toNat wind, by omega⟩
          refine x_iconst 52 rfl dX7_whistled_51 (z := 0) (by decide) ?_
          refine x_istore 54 rfl (lv' := [(5, .int (zI 0)), (0, .ref mo), (1, .int (zI ((place : Nat) : Int))), (2, .int (zI ((wind : Nat) : Int))), (3, .int (zI who)), (4, .int (zI what))]) dX7_whistled_52 (by decide) rfl ?_
          refine x_iconst 55 rfl dX7_whistled_54 (z := (-1)) (by decide) ?_
          refine x_istore 57 rfl (lv' := [(6, .int (zI (-1))), (5, .int (zI 0)), (0, .ref mo), (1, .int (zI ((place : Nat) : Int))), (2, .int (zI ((wind : Nat) : Int))), (3, .int (zI who)), (4, .int (zI what))]) dX7_whistled_55 (by decide) rfl ?_
          refine x_iconst 58 rfl dX7_whistled_57 (z := 4) (by decide) ?_
          refine x_istore 60 rfl (lv' := [(7, .int (zI 4)), (6, .int (zI (-1))), (5, .int (zI 0)), (0, .ref mo), (1, .int (zI ((place : Nat) : Int))), (2, .int (zI ((wind : Nat) : Int))), (3, .int (zI who)), (4, .int (zI what))]) dX7_whistled_58 (by decide) rfl ?_
          have L60 : ∀ (f60 : Nat) (t : Nat) (ht4 : 4 ≤ t) (ht : t ≤ 2048), 2048 - t < f60 → W_X7_whistled G E mo ad qt sc b rf n d c place wind who what 60 [(0, .ref mo), (1, .int (zI ((place : Nat) : Int))), (2, .int (zI ((wind : Nat) : Int))), (3, .int (zI who)), (4, .int (zI what)), (5, .int (zI ((wsF (whG b n place wind who) t).1))), (6, .int (zI ((wsF (whG b n place wind who) t).2))), (7, .int (zI ((t : Nat) : Int)))] [] ([(mo, moE ad qt sc), (ad 0, aI G 66 b), (ad 4, aI G 3 rf)]) := by
            intro f60
            induction f60 with
            | zero => intro t ht4 ht hf60; exact absurd hf60 (Nat.not_lt_zero _)
            | succ f60 ih60 =>
              intro t ht4 ht hf60
              refine x_iload 62 rfl dX7_whistled_60 7 rfl ?_
              refine x_sipush 65 rfl dX7_whistled_62 (z := 2048) (by decide) ?_
              refine x_icmp_ge 68 rfl (tgt := 112) dX7_whistled_65 (by decide) (by omega) (by decide) (fun h65 => ?_) (fun h65 => ?_)
              · skip
                have e : t = 2048 := by omega
                have e1 : wsF (whG b n place wind who) t = whN b n place wind who := by rw [e]; rfl
                have hr := wsF_r (whG b n place wind who) t
                refine x_iload 114 rfl dX7_whistled_112 4 rfl ?_
                refine x_if_ne 117 rfl (tgt := 122) dX7_whistled_114 (by decide) (by omega) (fun h114 => ?_) (fun h114 => ?_)
                · skip
                  refine x_iload 124 rfl dX7_whistled_122 6 rfl ?_
                  refine x_iconst 125 rfl dX7_whistled_124 (z := (-1)) (by decide) ?_
                  refine x_icmp_ne 128 rfl (tgt := 135) dX7_whistled_125 (by decide) (by omega) (by decide) (fun h125 => ?_) (fun h125 => ?_)
                  · skip
                    refine x_iload 137 rfl dX7_whistled_135 6 rfl ?_
                    refine x_iret rfl ?_ dX7_whistled_137
                    have hk : kV (whN b n place wind who) n place wind who what = 0 := by unfold kV; rw [if_pos (by omega), if_neg (by omega), if_neg (by rw [← e1]; omega)]
                    exact ⟨by show _ = some (Value.int (zI (rC (kV (whN b n place wind who) n place wind who what) (if what = 0 then (whN b n place wind who).1 else (whN b n place wind who).2)))); rw [hk, if_neg (by omega), ← e1]; rfl, by show _ = [_, _, (ad 4, aI G 3 (rfC qt rf (kV (whN b n place wind who) n place wind who what)))]; rw [hk]; rfl⟩
                  · skip
                    refine x_aload_n 129 rfl dX7_whistled_128 0 rfl ?_
                    refine x_callV 132 rfl (c_X7_no G mo ad qt sc rf) [0, 2] rfl (by decide) 0 rfl rfl gX7_whistled_X7_no rfl rfl rfl hd_X7_no ⟨Nat.le_of_ble_eq_true rfl, Nat.le_of_ble_eq_true rfl⟩ (As := []) (rest := []) rfl rfl (Nat.le_of_ble_eq_true rfl) dX7_whistled_129 ⟨Nat.zero_le _, Nat.zero_le _⟩ (fun v w hq => ?_)
                    obtain ⟨rfl, rfl⟩ := hq
                    refine ⟨rfl, ?_⟩
                    refine x_ws (ws' := [(mo, moE ad qt sc), (ad 0, aI G 66 b), (ad 4, aI G 3 (rfU qt rf 1))]) (rfl) ?_
                    refine x_goto dX7_whistled_132 (tgt := 137) (by decide) ?_
                    refine x_iret rfl ?_ dX7_whistled_137
                    have hk : kV (whN b n place wind who) n place wind who what = 2 := by unfold kV; rw [if_pos (by omega), if_neg (by omega), if_pos (by rw [← e1]; omega)]
                    exact ⟨by show _ = some (Value.int (zI (rC (kV (whN b n place wind who) n place wind who what) _))); rw [hk]; rfl, by show _ = [_, _, (ad 4, aI G 3 (rfC qt rf (kV (whN b n place wind who) n place wind who what)))]; rw [hk]; rfl⟩
                · skip
                  refine x_iload 119 rfl dX7_whistled_117 5 rfl ?_
                  refine x_goto dX7_whistled_119 (tgt := 137) (by decide) ?_
                  refine x_iret rfl ?_ dX7_whistled_137
                  have hk : kV (whN b n place wind who) n place wind who what = 0 := by unfold kV; rw [if_pos (by omega), if_pos (by omega)]
                  exact ⟨by show _ = some (Value.int (zI (rC (kV (whN b n place wind who) n place wind who what) (if what = 0 then (whN b n place wind who).1 else (whN b n place wind who).2)))); rw [hk, if_pos (by omega), ← e1]; rfl, by show _ = [_, _, (ad 4, aI G 3 (rfC qt rf (kV (whN b n place wind who) n place wind who what)))]; rw [hk]; rfl⟩
              · skip
                refine x_iload 70 rfl dX7_whistled_68 7 rfl ?_
                refine x_callS0 73 rfl (c_X7_isTune G ((t : Nat) : Int) (by omega)) (fun _ _ h => h.2) gX7_whistled_X7_isTune rfl rfl rfl hd_X7_isTune ⟨Nat.le_of_ble_eq_true rfl, Nat.le_of_ble_eq_true rfl⟩ (As := [.int (zI ((t : Nat) : Int))]) (rest := []) rfl rfl (Nat.le_of_ble_eq_true rfl) dX7_whistled_70 ⟨Nat.zero_le _, Nat.zero_le _⟩ (fun v hq => ?_)
                obtain ⟨rfl, -⟩ := hq
                refine x_bif_eq 76 rfl (tgt := 106) dX7_whistled_73 (by decide) (fun h73 => ?_) (fun h73 => ?_)
                · skip
                  have hgf : (whG b n place wind who) t = false := by unfold whG; cases hq : vtb t with | false => rfl | true => exact absurd (isT_nat.mpr (vtb_iff.mp hq)) (by rw [h73]; decide)
                  refine x_iinc 109 rfl (lv' := [(7, .int (zI ((t + 1 : Nat) : Int))), (0, .ref mo), (1, .int (zI ((place : Nat) : Int))), (2, .int (zI ((wind : Nat) : Int))), (3, .int (zI who)), (4, .int (zI what)), (5, .int (zI ((wsF (whG b n place wind who) t).1))), (6, .int (zI ((wsF (whG b n place wind who) t).2)))]) dX7_whistled_106 7 rfl (b := ((t + 1 : Nat) : Int)) (by omega) (by decide) rfl ?_
                  refine x_goto dX7_whistled_109 (tgt := 60) (by decide) ?_
                  refine x_lve (congrArg (fun zz : Int => ([(7, .int (zI ((t + 1 : Nat) : Int))), (0, .ref mo), (1, .int (zI ((place : Nat) : Int))), (2, .int (zI ((wind : Nat) : Int))), (3, .int (zI who)), (4, .int (zI what)), (5, .int (zI zz)), (6, .int (zI ((wsF (whG b n place wind who) t).2)))] : List (Nat × Value))) (by first | rw [wsF_1 hgt] | rw [wsF_f hgf] : (wsF (whG b n place wind who) t).1 = (wsF (whG b n place wind who) (t + 1)).1)) ?_
                  refine x_lve (congrArg (fun zz : Int => ([(7, .int (zI ((t + 1 : Nat) : Int))), (0, .ref mo), (1, .int (zI ((place : Nat) : Int))), (2, .int (zI ((wind : Nat) : Int))), (3, .int (zI who)), (4, .int (zI what)), (5, .int (zI ((wsF (whG b n place wind who) (t + 1)).1))), (6, .int (zI zz))] : List (Nat × Value))) (by first | (rw [wsF_2 hgt]; first | rw [if_pos h94] | rw [if_neg h94]) | rw [wsF_f hgf] : (wsF (whG b n place wind who) t).2 = (wsF (whG b n place wind who) (t + 1)).2)) ?_
                  refine x_lv [1, 2, 3, 4, 5, 6, 7, 0] rfl ?_
                  exact ih60 (t + 1) (by omega) (by omega) (by omega)
                · skip
                  refine x_aload_n 77 rfl dX7_whistled_76 0 rfl ?_
                  refine x_iload_n 78 rfl dX7_whistled_77 1 rfl ?_
                  refine x_iload 80 rfl dX7_whistled_78 7 rfl ?_
                  refine x_iload_n 81 rfl dX7_whistled_80 2 rfl ?_
                  refine x_callV 84 rfl (c_X7_called G mo ad qt sc b n d c I place t wind (by omega) (isT_nat.mp h73) (by omega)) [0, 1] rfl (by decide) 0 rfl rfl gX7_whistled_X7_called rfl rfl rfl hd_X7_called ⟨Nat.le_of_ble_eq_true rfl, Nat.le_of_ble_eq_true rfl⟩ (As := [.int (zI ((place : Nat) : Int)), .int (zI ((t : Nat) : Int)), .int (zI ((wind : Nat) : Int))]) (rest := []) rfl rfl (Nat.le_of_ble_eq_true rfl) dX7_whistled_81 ⟨Nat.zero_le _, Nat.zero_le _⟩ (fun v w hq => ?_)
                  obtain ⟨rfl, rfl⟩ := hq
                  refine ⟨rfl, ?_⟩
                  refine x_ws (ws' := [(mo, moE ad qt sc), (ad 0, aI G 66 b), (ad 4, aI G 3 rf)]) (rfl) ?_
                  refine x_iload_n 85 rfl dX7_whistled_84 3 rfl ?_
                  refine x_icmp_ne 88 rfl (tgt := 106) dX7_whistled_85 (by decide) (by have := calN_lt I place t wind; omega) (by omega) (fun h85 => ?_) (fun h85 => ?_)
                  · skip
                    have hgf : (whG b n place wind who) t = false := by unfold whG; rw [decide_eq_false (by omega)]; exact Bool.and_false _
                    refine x_iinc 109 rfl (lv' := [(7, .int (zI ((t + 1 : Nat) : Int))), (0, .ref mo), (1, .int (zI ((place : Nat) : Int))), (2, .int (zI ((wind : Nat) : Int))), (3, .int (zI who)), (4, .int (zI what)), (5, .int (zI ((wsF (whG b n place wind who) t).1))), (6, .int (zI ((wsF (whG b n place wind who) t).2)))]) dX7_whistled_106 7 rfl (b := ((t + 1 : Nat) : Int)) (by omega) (by decide) rfl ?_
                    refine x_goto dX7_whistled_109 (tgt := 60) (by decide) ?_
                    refine x_lve (congrArg (fun zz : Int => ([(7, .int (zI ((t + 1 : Nat) : Int))), (0, .ref mo), (1, .int (zI ((place : Nat) : Int))), (2, .int (zI ((wind : Nat) : Int))), (3, .int (zI who)), (4, .int (zI what)), (5, .int (zI zz)), (6, .int (zI ((wsF (whG b n place wind who) t).2)))] : List (Nat × Value))) (by first | rw [wsF_1 hgt] | rw [wsF_f hgf] : (wsF (whG b n place wind who) t).1 = (wsF (whG b n place wind who) (t + 1)).1)) ?_
                    refine x_lve (congrArg (fun zz : Int => ([(7, .int (zI ((t + 1 : Nat) : Int))), (0, .ref mo), (1, .int (zI ((place : Nat) : Int))), (2, .int (zI ((wind : Nat) : Int))), (3, .int (zI who)), (4, .int (zI what)), (5, .int (zI ((wsF (whG b n place wind who) (t + 1)).1))), (6, .int (zI zz))] : List (Nat × Value))) (by first | (rw [wsF_2 hgt]; first | rw [if_pos h94] | rw [if_neg h94]) | rw [wsF_f hgf] : (wsF (whG b n place wind who) t).2 = (wsF (whG b n place wind who) (t + 1)).2)) ?_
                    refine x_lv [1, 2, 3, 4, 5, 6, 7, 0] rfl ?_
                    exact ih60 (t + 1) (by omega) (by omega) (by omega)
                  · skip
                    have hgt : (whG b n place wind who) t = true := by unfold whG; rw [vtb_iff.mpr (isT_nat.mp h73), decide_eq_true (by omega)]; rfl
                    have hr := wsF_r (whG b n place wind who) t
                    refine x_iinc 91 rfl (lv' := [(5, .int (zI ((wsF (whG b n place wind who) t).1 + 1))), (0, .ref mo), (1, .int (zI ((place : Nat) : Int))), (2, .int (zI ((wind : Nat) : Int))), (3, .int (zI who)), (4, .int (zI what)), (6, .int (zI ((wsF (whG b n place wind who) t).2))), (7, .int (zI ((t : Nat) : Int)))]) dX7_whistled_88 5 rfl (b := (wsF (whG b n place wind who) t).1 + 1) (by omega) (by decide) rfl ?_
                    refine x_iload 93 rfl dX7_whistled_91 6 rfl ?_
                    refine x_iconst 94 rfl dX7_whistled_93 (z := (-1)) (by decide) ?_
                    refine x_icmp_ne 97 rfl (tgt := 102) dX7_whistled_94 (by decide) (by omega) (by decide) (fun h94 => ?_) (fun h94 => ?_)
                    · skip
                      refine x_iload 104 rfl dX7_whistled_102 6 rfl ?_
                      refine x_istore 106 rfl (lv' := [(6, .int (zI ((wsF (whG b n place wind who) t).2))), (5, .int (zI ((wsF (whG b n place wind who) t).1 + 1))), (0, .ref mo), (1, .int (zI ((place : Nat) : Int))), (2, .int (zI ((wind : Nat) : Int))), (3, .int (zI who)), (4, .int (zI what)), (7, .int (zI ((t : Nat) : Int)))]) dX7_whistled_104 (by decide) rfl ?_
                      refine x_iinc 109 rfl (lv' := [(7, .int (zI ((t + 1 : Nat) : Int))), (6, .int (zI ((wsF (whG b n place wind who) t).2))), (5, .int (zI ((wsF (whG b n place wind who) t).1 + 1))), (0, .ref mo), (1, .int (zI ((place : Nat) : Int))), (2, .int (zI ((wind : Nat) : Int))), (3, .int (zI who)), (4, .int (zI what))]) dX7_whistled_106 7 rfl (b := ((t + 1 : Nat) : Int)) (by omega) (by decide) rfl ?_
                      refine x_goto dX7_whistled_109 (tgt := 60) (by decide) ?_
                      refine x_lve (congrArg (fun zz : Int => ([(7, .int (zI ((t + 1 : Nat) : Int))), (6, .int (zI ((wsF (whG b n place wind who) t).2))), (5, .int (zI zz)), (0, .ref mo), (1, .int (zI ((place : Nat) : Int))), (2, .int (zI ((wind : Nat) : Int))), (3, .int (zI who)), (4, .int (zI what))] : List (Nat × Value))) (by first | rw [wsF_1 hgt] | rw [wsF_f hgf] : (wsF (whG b n place wind who) t).1 + 1 = (wsF (whG b n place wind who) (t + 1)).1)) ?_
                      refine x_lve (congrArg (fun zz : Int => ([(7, .int (zI ((t + 1 : Nat) : Int))), (6, .int (zI zz)), (5, .int (zI ((wsF (whG b n place wind who) (t + 1)).1))), (0, .ref mo), (1, .int (zI ((place : Nat) : Int))), (2, .int (zI ((wind : Nat) : Int))), (3, .int (zI who)), (4, .int (zI what))] : List (Nat × Value))) (by first | (rw [wsF_2 hgt]; first | rw [if_pos h94] | rw [if_neg h94]) | rw [wsF_f hgf] : (wsF (whG b n place wind who) t).2 = (wsF (whG b n place wind who) (t + 1)).2)) ?_
                      refine x_lv [3, 4, 5, 6, 7, 2, 1, 0] rfl ?_
                      exact ih60 (t + 1) (by omega) (by omega) (by omega)
                    · skip
                      refine x_iload 99 rfl dX7_whistled_97 7 rfl ?_
                      refine x_goto dX7_whistled_99 (tgt := 104) (by decide) ?_
                      refine x_istore 106 rfl (lv' := [(6, .int (zI ((t : Nat) : Int))), (5, .int (zI ((wsF (whG b n place wind who) t).1 + 1))), (0, .ref mo), (1, .int (zI ((place : Nat) : Int))), (2, .int (zI ((wind : Nat) : Int))), (3, .int (zI who)), (4, .int (zI what)), (7, .int (zI ((t : Nat) : Int)))]) dX7_whistled_104 (by decide) rfl ?_
                      refine x_iinc 109 rfl (lv' := [(7, .int (zI ((t + 1 : Nat) : Int))), (6, .int (zI ((t : Nat) : Int))), (5, .int (zI ((wsF (whG b n place wind who) t).1 + 1))), (0, .ref mo), (1, .int (zI ((place : Nat) : Int))), (2, .int (zI ((wind : Nat) : Int))), (3, .int (zI who)), (4, .int (zI what))]) dX7_whistled_106 7 rfl (b := ((t + 1 : Nat) : Int)) (by omega) (by decide) rfl ?_
                      refine x_goto dX7_whistled_109 (tgt := 60) (by decide) ?_
                      refine x_lve (congrArg (fun zz : Int => ([(7, .int (zI ((t + 1 : Nat) : Int))), (6, .int (zI ((t : Nat) : Int))), (5, .int (zI zz)), (0, .ref mo), (1, .int (zI ((place : Nat) : Int))), (2, .int (zI ((wind : Nat) : Int))), (3, .int (zI who)), (4, .int (zI what))] : List (Nat × Value))) (by first | rw [wsF_1 hgt] | rw [wsF_f hgf] : (wsF (whG b n place wind who) t).1 + 1 = (wsF (whG b n place wind who) (t + 1)).1)) ?_
                      refine x_lve (congrArg (fun zz : Int => ([(7, .int (zI ((t + 1 : Nat) : Int))), (6, .int (zI zz)), (5, .int (zI ((wsF (whG b n place wind who) (t + 1)).1))), (0, .ref mo), (1, .int (zI ((place : Nat) : Int))), (2, .int (zI ((wind : Nat) : Int))), (3, .int (zI who)), (4, .int (zI what))] : List (Nat × Value))) (by first | (rw [wsF_2 hgt]; first | rw [if_pos h94] | rw [if_neg h94]) | rw [wsF_f hgf] : ((t : Nat) : Int) = (wsF (whG b n place wind who) (t + 1)).2)) ?_
                      refine x_lv [3, 4, 5, 6, 7, 2, 1, 0] rfl ?_
                      exact ih60 (t + 1) (by omega) (by omega) (by omega)
          refine x_lve (congrArg (fun zz : Int => ([(7, .int (zI 4)), (6, .int (zI (-1))), (5, .int (zI zz)), (0, .ref mo), (1, .int (zI ((place : Nat) : Int))), (2, .int (zI ((wind : Nat) : Int))), (3, .int (zI who)), (4, .int (zI what))] : List (Nat × Value))) (by rw [wsF_0 4 (fun i hi => by have hvf : vtb i = false := (by decide : ∀ i, i < 4 → vtb i = false) i hi; unfold whG; rw [hvf]; rfl)] : 0 = (wsF (whG b n place wind who) 4).1)) ?_
          refine x_lve (congrArg (fun zz : Int => ([(7, .int (zI 4)), (6, .int (zI zz)), (5, .int (zI ((wsF (whG b n place wind who) 4).1))), (0, .ref mo), (1, .int (zI ((place : Nat) : Int))), (2, .int (zI ((wind : Nat) : Int))), (3, .int (zI who)), (4, .int (zI what))] : List (Nat × Value))) (by rw [wsF_0 4 (fun i hi => by have hvf : vtb i = false := (by decide : ∀ i, i < 4 → vtb i = false) i hi; unfold whG; rw [hvf]; rfl)] : (-1) = (wsF (whG b n place wind who) 4).2)) ?_
          refine x_lv [3, 4, 5, 6, 7, 2, 1, 0] rfl ?_
          exact L60 _ 4 (by omega) (by omega) (Nat.lt_succ_self _)
        · have h43 := of_decide_eq_false h43
          refine x_aload_n 47 rfl dX7_whistled_46 0 rfl ?_
          refine x_callV 50 rfl (c_X7_bad G mo ad qt sc rf) [0, 2] rfl (by decide) 0 rfl rfl gX7_whistled_X7_bad rfl rfl rfl hd_X7_bad ⟨Nat.le_of_ble_eq_true rfl, Nat.le_of_ble_eq_true rfl⟩ (As := []) (rest := []) rfl rfl (Nat.le_of_ble_eq_true rfl) dX7_whistled_47 ⟨Nat.zero_le _, Nat.zero_le _⟩ (fun v w hq => ?_)
          obtain ⟨rfl, rfl⟩ := hq
          refine ⟨rfl, ?_⟩
          refine x_ws (ws' := [(mo, moE ad qt sc), (ad 0, aI G 66 b), (ad 4, aI G 3 (rfU qt rf 0))]) (rfl) ?_
          refine x_iret rfl ?_ dX7_whistled_50
          have hk : kV (whN b n place.toNat wind.toNat who) n place wind who what = 1 := by unfold kV; exact if_neg (fun hh => by first | omega | (simp [*] at hh; done) | (obtain ⟨ha, hb, hc, hd⟩ := hh; first | omega | simp_all) | (obtain ⟨ha, hb, hc⟩ := hh; first | omega | simp_all) | (obtain ⟨ha, hb⟩ := hh; first | omega | simp_all))
          exact ⟨by rw [hk]; rfl, by rw [hk]; rfl⟩

abbrev P_X7_bits (G : XG) (s : Nat) : Option Value → va_W → Prop := fun v w => v = some (.int (zI ((pcF s 7 : Nat) : Int))) ∧ w = []
abbrev W_X7_bits (G : XG) (E : XE) (s : Nat) (pc : Nat) (lv : List (Nat × Value)) (st : List Value) (ws : va_W) : Prop := Wx G E (rmL 0) cX7_bits 3 RX7 wsX7_bits (some .int) "bits" 0 0 (P_X7_bits G s) 0 0 pc lv st ws
set_option maxHeartbeats 4000000 in
set_option maxRecDepth 100000 in
/-- bits -/
theorem c_X7_bits (G : XG) (s : Nat) (hs : s < 2147483648) : Con G yX7_bits wsX7_bits (rmL 0) 0 0 [.int (zI ((s : Nat) : Int))] ([]) (P_X7_bits G s) := by
  refine x_start (cc := cX7_bits) (nL := 3) (ret := (some .int)) (by decide) rfl (Nat.le_of_ble_eq_true rfl) (fun E => ?_)
  show W_X7_bits G E s 0 [(0, .int (zI ((s : Nat) : Int)))] [] ([])
  refine x_iconst 1 rfl dX7_bits_0 (z := 0) (by decide) ?_
  refine x_istore_n 2 rfl (lv' := [(1, .int (zI 0)), (0, .int (zI ((s : Nat) : Int)))]) dX7_bits_1 (by decide) rfl ?_
  refine x_iconst 3 rfl dX7_bits_2 (z := 0) (by decide) ?_
  refine x_istore_n 4 rfl (lv' := [(2, .int (zI 0)), (1, .int (zI 0)), (0, .int (zI ((s : Nat) : Int)))]) dX7_bits_3 (by decide) rfl ?_
  have L4 : ∀ (f4 : Nat) (k : Nat) (hk : k ≤ 7), 7 - k < f4 → W_X7_bits G E s 4 [(0, .int (zI ((s : Nat) : Int))), (1, .int (zI ((pcF s k : Nat) : Int))), (2, .int (zI ((k : Nat) : Int)))] [] ([]) := by
    intro f4
    induction f4 with
    | zero => intro k hk hf4; exact absurd hf4 (Nat.not_lt_zero _)
    | succ f4 ih4 =>
      intro k hk hf4
      refine x_iload_n 5 rfl dX7_bits_4 2 rfl ?_
      refine x_bipush 7 rfl dX7_bits_5 (z := 7) (by decide) ?_
      refine x_icmp_ge 10 rfl (tgt := 24) dX7_bits_7 (by decide) (by omega) (by decide) (fun h7 => ?_) (fun h7 => ?_)
      · skip
        refine x_iload_n 25 rfl dX7_bits_24 1 rfl ?_
        refine x_iret rfl ?_ dX7_bits_25
        have e : k = 7 := by omega
        exact ⟨by rw [e], rfl⟩
      · skip
        refine x_iload_n 11 rfl dX7_bits_10 1 rfl ?_
        refine x_iload_n 12 rfl dX7_bits_11 0 rfl ?_
        refine x_iload_n 13 rfl dX7_bits_12 2 rfl ?_
        obtain ⟨u, hu⟩ : ∃ u, u = s / 2 ^ k := ⟨_, rfl⟩
        have hu2 : u ≤ s := by rw [hu]; exact Nat.div_le_self _ _
        refine x_ishr 14 rfl dX7_bits_13 (z := ((s / 2 ^ k : Nat) : Int)) (zI_shr (t := s) (i := k) (by omega) (by omega)) ?_
        refine x_iconst 15 rfl dX7_bits_14 (z := 1) (by decide) ?_
        refine x_iand 16 rfl dX7_bits_15 (z := ((s / 2 ^ k % 2 : Nat) : Int)) (zI_and1 (t := s / 2 ^ k) (by omega)) ?_
        refine x_iadd 17 rfl dX7_bits_16 (z := ((pcF s k + s / 2 ^ k % 2 : Nat) : Int)) (rfl) ?_
        refine x_istore_n 18 rfl (lv' := [(1, .int (zI ((pcF s k + s / 2 ^ k % 2 : Nat) : Int))), (0, .int (zI ((s : Nat) : Int))), (2, .int (zI ((k : Nat) : Int)))]) dX7_bits_17 (by decide) rfl ?_
        refine x_iinc 21 rfl (lv' := [(2, .int (zI ((k + 1 : Nat) : Int))), (1, .int (zI ((pcF s k + s / 2 ^ k % 2 : Nat) : Int))), (0, .int (zI ((s : Nat) : Int)))]) dX7_bits_18 2 rfl (b := ((k + 1 : Nat) : Int)) (by omega) (by decide) rfl ?_
        refine x_goto dX7_bits_21 (tgt := 4) (by decide) ?_
        refine x_lve (congrArg (fun zz : Int => ([(2, .int (zI ((k + 1 : Nat) : Int))), (1, .int (zI zz)), (0, .int (zI ((s : Nat) : Int)))] : List (Nat × Value))) (rfl : ((pcF s k + s / 2 ^ k % 2 : Nat) : Int) = ((pcF s (k + 1) : Nat) : Int))) ?_
        refine x_lv [2, 1, 0] rfl ?_
        exact ih4 (k + 1) (by omega) (by omega)
  refine x_lve (congrArg (fun zz : Int => ([(2, .int (zI 0)), (1, .int (zI zz)), (0, .int (zI ((s : Nat) : Int)))] : List (Nat × Value))) (rfl : 0 = ((pcF s 0 : Nat) : Int))) ?_
  refine x_lv [2, 1, 0] rfl ?_
  exact L4 _ 0 (by omega) (Nat.lt_succ_self _)

abbrev P_X7_alter (G : XG) (mo : Nat) (ad : Nat → Nat) (qt : Bool) (sc : Nat → Int) (b : Nat → Int) (n : Nat) (d : Nat) (c : Nat) : Option Value → va_W → Prop := fun r ws => r = some (.int (zI (alN b n))) ∧ ws = [(mo, moE ad qt sc), (ad 0, aI G 66 b)]
abbrev W_X7_alter (G : XG) (E : XE) (mo : Nat) (ad : Nat → Nat) (qt : Bool) (sc : Nat → Int) (b : Nat → Int) (n : Nat) (d : Nat) (c : Nat) (pc : Nat) (lv : List (Nat × Value)) (st : List Value) (ws : va_W) : Prop := Wx G E (rmL 6) cX7_alter 6 RX7 wsX7_alter (some .int) "alter" 0 0 (P_X7_alter G mo ad qt sc b n d c) 0 0 pc lv st ws
theorem flX7_alter_7 : Cond.fieldLink RX7 7 (TX7 0).1 (TX7 0).2.1 (TX7 0).2.2.1 ∈ wsX7_alter := by decide +kernel
theorem inX7_alter_X7 : ∀ w ∈ u_ws RX7 TX7 18, w ∈ wsX7_alter := fun _ h => List.mem_cons_of_mem _ (List.mem_append_right _ h)
set_option maxHeartbeats 4000000 in
set_option maxRecDepth 100000 in
/-- alter -/
theorem c_X7_alter (G : XG) (mo : Nat) (ad : Nat → Nat) (qt : Bool) (sc : Nat → Int) (b : Nat → Int) (n d c : Nat) (I : Inv b n d c)  : Con G yX7_alter wsX7_alter (rmL 6) 0 0 [.ref mo] ([(mo, moE ad qt sc), (ad 0, aI G 66 b)]) (P_X7_alter G mo ad qt sc b n d c) := by
  refine x_start (cc := cX7_alter) (nL := 6) (ret := (some .int)) (by decide) rfl (Nat.le_of_ble_eq_true rfl) (fun E => ?_)
  show W_X7_alter G E mo ad qt sc b n d c 0 [(0, .ref mo)] [] ([(mo, moE ad qt sc), (ad 0, aI G 66 b)])
  have hn := I.n1
  have hn7 := I.n7
  have hp2 : 2 ^ n ≤ 2 ^ 7 := Nat.pow_le_pow_right (by decide) hn7
  refine x_iconst 1 rfl dX7_alter_0 (z := (-1)) (by decide) ?_
  refine x_istore_n 2 rfl (lv' := [(1, .int (zI (-1))), (0, .ref mo)]) dX7_alter_1 (by decide) rfl ?_
  refine x_iconst 3 rfl dX7_alter_2 (z := 0) (by decide) ?_
  refine x_istore_n 4 rfl (lv' := [(2, .int (zI 0)), (1, .int (zI (-1))), (0, .ref mo)]) dX7_alter_3 (by decide) rfl ?_
  have L4 : ∀ (f4 : Nat) (s : Nat) (hs : s ≤ 2 ^ n), 2 ^ n - s < f4 → W_X7_alter G E mo ad qt sc b n d c 4 [(0, .ref mo), (1, .int (zI (alM (alOk b n) s))), (2, .int (zI ((s : Nat) : Int)))] [] ([(mo, moE ad qt sc), (ad 0, aI G 66 b)]) := by
    intro f4
    induction f4 with
    | zero => intro s hs hf4; exact absurd hf4 (Nat.not_lt_zero _)
    | succ f4 ih4 =>
      intro s hs hf4
      refine x_iload_n 5 rfl dX7_alter_4 2 rfl ?_
      refine x_iconst 6 rfl dX7_alter_5 (z := 1) (by decide) ?_
      refine x_aload_n 7 rfl dX7_alter_6 0 rfl ?_
      refine x_get 10 rfl 0 0 rfl rfl (by decide) inX7_alter_X7 flX7_alter_7 rfl dX7_alter_7 ?_
      refine x_bipush 12 rfl dX7_alter_10 (z := 15) (by decide) ?_
      refine x_iald 13 rfl 1 15 rfl (⟨by omega, by omega⟩) (by decide) (v := ((n : Nat) : Int)) (hn) dX7_alter_12 ?_
      refine x_ishl 14 rfl dX7_alter_13 (z := ((2 ^ n : Nat) : Int)) (zI_shl1 (i := n) (by omega)) ?_
      have hr := alM_r (alOk b n) s
      refine x_icmp_ge 17 rfl (tgt := 159) dX7_alter_14 (by decide) (by omega) (by omega) (fun h14 => ?_) (fun h14 => ?_)
      · skip
        refine x_iload_n 160 rfl dX7_alter_159 1 rfl ?_
        refine x_iret rfl ?_ dX7_alter_160
        have e : s = 2 ^ n := by omega
        exact ⟨by rw [e]; rfl, rfl⟩
      · skip
        refine x_iload_n 18 rfl dX7_alter_17 1 rfl ?_
        refine x_iconst 19 rfl dX7_alter_18 (z := (-1)) (by decide) ?_
        refine x_icmp_eq 22 rfl (tgt := 33) dX7_alter_19 (by decide) (by omega) (by decide) (fun h19 => ?_) (fun h19 => ?_)
        · skip
          refine x_iconst 34 rfl dX7_alter_33 (z := 1) (by decide) ?_
          refine x_goto dX7_alter_34 (tgt := 38) (by decide) ?_
          refine x_istore_n 39 rfl (lv' := [(3, .int (zI 1)), (0, .ref mo), (1, .int (zI (alM (alOk b n) s))), (2, .int (zI ((s : Nat) : Int)))]) dX7_alter_38 (by decide) rfl ?_
          have L39 : ∀ (al : Bool) (hal : al = decide ((alM (alOk b n) s) = -1 ∨ pcF s 7 < pcF (Int.toNat (alM (alOk b n) s)) 7)), W_X7_alter G E mo ad qt sc b n d c 39 [(0, .ref mo), (1, .int (zI (alM (alOk b n) s))), (2, .int (zI ((s : Nat) : Int))), (3, .int (zB al))] [] ([(mo, moE ad qt sc), (ad 0, aI G 66 b)]) := by
            intro al hal
            refine x_iconst 40 rfl dX7_alter_39 (z := 0) (by decide) ?_
            refine x_istore 42 rfl (lv' := [(4, .int (zI 0)), (0, .ref mo), (1, .int (zI (alM (alOk b n) s))), (2, .int (zI ((s : Nat) : Int))), (3, .int (zB al))]) dX7_alter_40 (by decide) rfl ?_
            have L42 : ∀ (f42 : Nat) (a : Nat) (ha : a ≤ n), n - a < f42 → W_X7_alter G E mo ad qt sc b n d c 42 [(0, .ref mo), (1, .int (zI (alM (alOk b n) s))), (2, .int (zI ((s : Nat) : Int))), (3, .int (zB (al && allF (alA b n s) a))), (4, .int (zI ((a : Nat) : Int)))] [] ([(mo, moE ad qt sc), (ad 0, aI G 66 b)]) := by
              intro f42
              induction f42 with
              | zero => intro a ha hf42; exact absurd hf42 (Nat.not_lt_zero _)
              | succ f42 ih42 =>
                intro a ha hf42
                refine x_iload 44 rfl dX7_alter_42 4 rfl ?_
                refine x_aload_n 45 rfl dX7_alter_44 0 rfl ?_
                refine x_get 48 rfl 0 0 rfl rfl (by decide) inX7_alter_X7 flX7_alter_7 rfl dX7_alter_45 ?_
                refine x_bipush 50 rfl dX7_alter_48 (z := 15) (by decide) ?_
                refine x_iald 51 rfl 1 15 rfl (⟨by omega, by omega⟩) (by decide) (v := ((n : Nat) : Int)) (hn) dX7_alter_50 ?_
                refine x_icmp_ge 54 rfl (tgt := 143) dX7_alter_51 (by decide) (by omega) (by omega) (fun h51 => ?_) (fun h51 => ?_)
                · skip
                  have hfin : (al && allF (alA b n s) a) = (al && alOk b n s) := by rw [show a = n by omega]; rfl
                  refine x_iload_n 144 rfl dX7_alter_143 3 rfl ?_
                  refine x_bif_eq 147 rfl (tgt := 151) dX7_alter_144 (by decide) (fun h144 => ?_) (fun h144 => ?_)
                  · skip
                    refine x_iload_n 152 rfl dX7_alter_151 1 rfl ?_
                    refine x_istore_n 153 rfl (lv' := [(1, .int (zI (alM (alOk b n) s))), (0, .ref mo), (2, .int (zI ((s : Nat) : Int))), (3, .int (zB (al && allF (alA b n s) a))), (4, .int (zI ((a : Nat) : Int)))]) dX7_alter_152 (by decide) rfl ?_
                    refine x_iinc 156 rfl (lv' := [(2, .int (zI ((s + 1 : Nat) : Int))), (1, .int (zI (alM (alOk b n) s))), (0, .ref mo), (3, .int (zB (al && allF (alA b n s) a))), (4, .int (zI ((a : Nat) : Int)))]) dX7_alter_153 2 rfl (b := ((s + 1 : Nat) : Int)) (by omega) (by decide) rfl ?_
                    refine x_goto dX7_alter_156 (tgt := 4) (by decide) ?_
                    refine x_lve (congrArg (fun zz : Int => ([(2, .int (zI ((s + 1 : Nat) : Int))), (1, .int (zI zz)), (0, .ref mo), (3, .int (zB (al && allF (alA b n s) a))), (4, .int (zI ((a : Nat) : Int)))] : List (Nat × Value))) (by show _ = alS (alOk b n) s (alM (alOk b n) s); unfold alS; first | (rw [if_pos ⟨by rw [h144, Bool.true_eq, Bool.and_eq_true, hal, decide_eq_true_iff] at hfin; exact hfin.1, by rw [h144, Bool.true_eq, Bool.and_eq_true] at hfin; exact hfin.2⟩]) | (rw [if_neg (fun hh => by rw [h144, hal, decide_eq_true hh.1, hh.2] at hfin; cases hfin)]) : alM (alOk b n) s = alM (alOk b n) (s + 1))) ?_
                    refine x_lv [2, 1, 0] rfl ?_
                    exact ih4 (s + 1) (by omega) (by omega)
                  · skip
                    refine x_iload_n 148 rfl dX7_alter_147 2 rfl ?_
                    refine x_goto dX7_alter_148 (tgt := 152) (by decide) ?_
                    refine x_istore_n 153 rfl (lv' := [(1, .int (zI ((s : Nat) : Int))), (0, .ref mo), (2, .int (zI ((s : Nat) : Int))), (3, .int (zB (al && allF (alA b n s) a))), (4, .int (zI ((a : Nat) : Int)))]) dX7_alter_152 (by decide) rfl ?_
                    refine x_iinc 156 rfl (lv' := [(2, .int (zI ((s + 1 : Nat) : Int))), (1, .int (zI ((s : Nat) : Int))), (0, .ref mo), (3, .int (zB (al && allF (alA b n s) a))), (4, .int (zI ((a : Nat) : Int)))]) dX7_alter_153 2 rfl (b := ((s + 1 : Nat) : Int)) (by omega) (by decide) rfl ?_
                    refine x_goto dX7_alter_156 (tgt := 4) (by decide) ?_
                    refine x_lve (congrArg (fun zz : Int => ([(2, .int (zI ((s + 1 : Nat) : Int))), (1, .int (zI zz)), (0, .ref mo), (3, .int (zB (al && allF (alA b n s) a))), (4, .int (zI ((a : Nat) : Int)))] : List (Nat × Value))) (by show _ = alS (alOk b n) s (alM (alOk b n) s); unfold alS; first | (rw [if_pos ⟨by rw [h144, Bool.true_eq, Bool.and_eq_true, hal, decide_eq_true_iff] at hfin; exact hfin.1, by rw [h144, Bool.true_eq, Bool.and_eq_true] at hfin; exact hfin.2⟩]) | (rw [if_neg (fun hh => by rw [h144, hal, decide_eq_true hh.1, hh.2] at hfin; cases hfin)]) : ((s : Nat) : Int) = alM (alOk b n) (s + 1))) ?_
                    refine x_lv [2, 1, 0] rfl ?_
                    exact ih4 (s + 1) (by omega) (by omega)
                · skip
                  refine x_iload_n 55 rfl dX7_alter_54 3 rfl ?_
                  refine x_bif_eq 58 rfl (tgt := 143) dX7_alter_55 (by decide) (fun h55 => ?_) (fun h55 => ?_)
                  · skip
                    have hfin : (al && allF (alA b n s) a) = (al && alOk b n s) := by rw [h55]; cases hq : al with | false => rfl | true => rw [hq] at h55; exact (allF_mono (n := n) ha h55).symm
                    refine x_iload_n 144 rfl dX7_alter_143 3 rfl ?_
                    refine x_bif_eq 147 rfl (tgt := 151) dX7_alter_144 (by decide) (fun h144 => ?_) (fun h144 => ?_)
                    · skip
                      refine x_iload_n 152 rfl dX7_alter_151 1 rfl ?_
                      refine x_istore_n 153 rfl (lv' := [(1, .int (zI (alM (alOk b n) s))), (0, .ref mo), (2, .int (zI ((s : Nat) : Int))), (3, .int (zB (al && allF (alA b n s) a))), (4, .int (zI ((a : Nat) : Int)))]) dX7_alter_152 (by decide) rfl ?_
                      refine x_iinc 156 rfl (lv' := [(2, .int (zI ((s + 1 : Nat) : Int))), (1, .int (zI (alM (alOk b n) s))), (0, .ref mo), (3, .int (zB (al && allF (alA b n s) a))), (4, .int (zI ((a : Nat) : Int)))]) dX7_alter_153 2 rfl (b := ((s + 1 : Nat) : Int)) (by omega) (by decide) rfl ?_
                      refine x_goto dX7_alter_156 (tgt := 4) (by decide) ?_
                      refine x_lve (congrArg (fun zz : Int => ([(2, .int (zI ((s + 1 : Nat) : Int))), (1, .int (zI zz)), (0, .ref mo), (3, .int (zB (al && allF (alA b n s) a))), (4, .int (zI ((a : Nat) : Int)))] : List (Nat × Value))) (by show _ = alS (alOk b n) s (alM (alOk b n) s); unfold alS; first | (rw [if_pos ⟨by rw [h144, Bool.true_eq, Bool.and_eq_true, hal, decide_eq_true_iff] at hfin; exact hfin.1, by rw [h144, Bool.true_eq, Bool.and_eq_true] at hfin; exact hfin.2⟩]) | (rw [if_neg (fun hh => by rw [h144, hal, decide_eq_true hh.1, hh.2] at hfin; cases hfin)]) : alM (alOk b n) s = alM (alOk b n) (s + 1))) ?_
                      refine x_lv [2, 1, 0] rfl ?_
                      exact ih4 (s + 1) (by omega) (by omega)
                    · skip
                      refine x_iload_n 148 rfl dX7_alter_147 2 rfl ?_
                      refine x_goto dX7_alter_148 (tgt := 152) (by decide) ?_
                      refine x_istore_n 153 rfl (lv' := [(1, .int (zI ((s : Nat) : Int))), (0, .ref mo), (2, .int (zI ((s : Nat) : Int))), (3, .int (zB (al && allF (alA b n s) a))), (4, .int (zI ((a : Nat) : Int)))]) dX7_alter_152 (by decide) rfl ?_
                      refine x_iinc 156 rfl (lv' := [(2, .int (zI ((s + 1 : Nat) : Int))), (1, .int (zI ((s : Nat) : Int))), (0, .ref mo), (3, .int (zB (al && allF (alA b n s) a))), (4, .int (zI ((a : Nat) : Int)))]) dX7_alter_153 2 rfl (b := ((s + 1 : Nat) : Int)) (by omega) (by decide) rfl ?_
                      refine x_goto dX7_alter_156 (tgt := 4) (by decide) ?_
                      refine x_lve (congrArg (fun zz : Int => ([(2, .int (zI ((s + 1 : Nat) : Int))), (1, .int (zI zz)), (0, .ref mo), (3, .int (zB (al && allF (alA b n s) a))), (4, .int (zI ((a : Nat) : Int)))] : List (Nat × Value))) (by show _ = alS (alOk b n) s (alM (alOk b n) s); unfold alS; first | (rw [if_pos ⟨by rw [h144, Bool.true_eq, Bool.and_eq_true, hal, decide_eq_true_iff] at hfin; exact hfin.1, by rw [h144, Bool.true_eq, Bool.and_eq_true] at hfin; exact hfin.2⟩]) | (rw [if_neg (fun hh => by rw [h144, hal, decide_eq_true hh.1, hh.2] at hfin; cases hfin)]) : ((s : Nat) : Int) = alM (alOk b n) (s + 1))) ?_
                      refine x_lv [2, 1, 0] rfl ?_
                      exact ih4 (s + 1) (by omega) (by omega)
                  · skip
                    refine x_iload 60 rfl dX7_alter_58 4 rfl ?_
                    refine x_iconst 61 rfl dX7_alter_60 (z := 1) (by decide) ?_
                    refine x_iadd 62 rfl dX7_alter_61 (z := ((a + 1 : Nat) : Int)) (by omega) ?_
                    refine x_istore 64 rfl (lv' := [(5, .int (zI ((a + 1 : Nat) : Int))), (0, .ref mo), (1, .int (zI (alM (alOk b n) s))), (2, .int (zI ((s : Nat) : Int))), (3, .int (zB (al && allF (alA b n s) a))), (4, .int (zI ((a : Nat) : Int)))]) dX7_alter_62 (by decide) rfl ?_
                    have L64 : ∀ (f64 : Nat) (j : Nat) (hj : a + 1 + j ≤ n), n - j < f64 → W_X7_alter G E mo ad qt sc b n d c 64 [(0, .ref mo), (1, .int (zI (alM (alOk b n) s))), (2, .int (zI ((s : Nat) : Int))), (3, .int (zB ((al && allF (alA b n s) a) && allF (alI b s a) j))), (4, .int (zI ((a : Nat) : Int))), (5, .int (zI ((a + 1 + j : Nat) : Int)))] [] ([(mo, moE ad qt sc), (ad 0, aI G 66 b)]) := by
                      intro f64
                      induction f64 with
                      | zero => intro j hj hf64; exact absurd hf64 (Nat.not_lt_zero _)
                      | succ f64 ih64 =>
                        intro j hj hf64
                        refine x_iload 66 rfl dX7_alter_64 5 rfl ?_
                        refine x_aload_n 67 rfl dX7_alter_66 0 rfl ?_
                        refine x_get 70 rfl 0 0 rfl rfl (by decide) inX7_alter_X7 flX7_alter_7 rfl dX7_alter_67 ?_
                        refine x_bipush 72 rfl dX7_alter_70 (z := 15) (by decide) ?_
                        refine x_iald 73 rfl 1 15 rfl (⟨by omega, by omega⟩) (by decide) (v := ((n : Nat) : Int)) (hn) dX7_alter_72 ?_
                        refine x_icmp_ge 76 rfl (tgt := 137) dX7_alter_73 (by decide) (by omega) (by omega) (fun h73 => ?_) (fun h73 => ?_)
                        · skip
                          refine x_iinc 140 rfl (lv' := [(4, .int (zI ((a + 1 : Nat) : Int))), (0, .ref mo), (1, .int (zI (alM (alOk b n) s))), (2, .int (zI ((s : Nat) : Int))), (3, .int (zB ((al && allF (alA b n s) a) && allF (alI b s a) j))), (5, .int (zI ((a + 1 + j : Nat) : Int)))]) dX7_alter_137 4 rfl (b := ((a + 1 : Nat) : Int)) (by omega) (by decide) rfl ?_
                          refine x_goto dX7_alter_140 (tgt := 42) (by decide) ?_
                          refine x_lve (congrArg (fun zz : Int32 => ([(4, .int (zI ((a + 1 : Nat) : Int))), (0, .ref mo), (1, .int (zI (alM (alOk b n) s))), (2, .int (zI ((s : Nat) : Int))), (3, .int zz), (5, .int (zI ((a + 1 + j : Nat) : Int)))] : List (Nat × Value))) (by rw [show j = n - (a + 1) by omega, Bool.and_assoc]; rfl : (zB ((al && allF (alA b n s) a) && allF (alI b s a) j)) = (zB (al && allF (alA b n s) (a + 1))))) ?_
                          refine x_lv [1, 2, 3, 4, 0] rfl ?_
                          exact ih42 (a + 1) (by omega) (by omega)
                        · skip
                          refine x_iload_n 77 rfl dX7_alter_76 3 rfl ?_
                          refine x_bif_eq 80 rfl (tgt := 129) dX7_alter_77 (by decide) (fun h77 => ?_) (fun h77 => ?_)
                          · skip
                            refine x_iconst 130 rfl dX7_alter_129 (z := 0) (by decide) ?_
                            refine x_istore_n 131 rfl (lv' := [(3, .int (zI 0)), (0, .ref mo), (1, .int (zI (alM (alOk b n) s))), (2, .int (zI ((s : Nat) : Int))), (4, .int (zI ((a : Nat) : Int))), (5, .int (zI ((a + 1 + j : Nat) : Int)))]) dX7_alter_130 (by decide) rfl ?_
                            refine x_iinc 134 rfl (lv' := [(5, .int (zI ((a + 1 + j + 1 : Nat) : Int))), (3, .int (zI 0)), (0, .ref mo), (1, .int (zI (alM (alOk b n) s))), (2, .int (zI ((s : Nat) : Int))), (4, .int (zI ((a : Nat) : Int)))]) dX7_alter_131 5 rfl (b := ((a + 1 + j + 1 : Nat) : Int)) (by omega) (by decide) rfl ?_
                            refine x_goto dX7_alter_134 (tgt := 64) (by decide) ?_
                            refine x_lve (congrArg (fun zz : Int32 => ([(5, .int (zI ((a + 1 + j + 1 : Nat) : Int))), (3, .int zz), (0, .ref mo), (1, .int (zI (alM (alOk b n) s))), (2, .int (zI ((s : Nat) : Int))), (4, .int (zI ((a : Nat) : Int)))] : List (Nat × Value))) (zB_f (andF_f1 h77) : (zI 0) = (zB ((al && allF (alA b n s) a) && allF (alI b s a) (j + 1))))) ?_
                            refine x_lve (congrArg (fun zz : Int => ([(5, .int (zI zz)), (3, .int (zB ((al && allF (alA b n s) a) && allF (alI b s a) (j + 1)))), (0, .ref mo), (1, .int (zI (alM (alOk b n) s))), (2, .int (zI ((s : Nat) : Int))), (4, .int (zI ((a : Nat) : Int)))] : List (Nat × Value))) (by omega : ((a + 1 + j + 1 : Nat) : Int) = ((a + 1 + (j + 1) : Nat) : Int))) ?_
                            refine x_lv [2, 3, 4, 1, 5, 0] rfl ?_
                            exact ih64 (j + 1) (by omega) (by omega)
                          · skip
                            refine x_iload_n 81 rfl dX7_alter_80 2 rfl ?_
                            refine x_iload 83 rfl dX7_alter_81 4 rfl ?_
                            obtain ⟨v1, hv1⟩ : ∃ v, v = s / 2 ^ a := ⟨_, rfl⟩
                            have hv2 : v1 ≤ s := by rw [hv1]; exact Nat.div_le_self _ _
                            refine x_ishr 84 rfl dX7_alter_83 (z := ((s / 2 ^ a : Nat) : Int)) (zI_shr (t := s) (i := a) (by omega) (by omega)) ?_
                            refine x_iconst 85 rfl dX7_alter_84 (z := 1) (by decide) ?_
                            refine x_iand 86 rfl dX7_alter_85 (z := ((s / 2 ^ a % 2 : Nat) : Int)) (zI_and1 (t := s / 2 ^ a) (by omega)) ?_
                            refine x_iconst 87 rfl dX7_alter_86 (z := 1) (by decide) ?_
                            refine x_icmp_eq 90 rfl (tgt := 125) dX7_alter_87 (by decide) (by omega) (by decide) (fun h87 => ?_) (fun h87 => ?_)
                            · skip
                              refine x_iconst 126 rfl dX7_alter_125 (z := 1) (by decide) ?_
                              refine x_goto dX7_alter_126 (tgt := 130) (by decide) ?_
                              refine x_istore_n 131 rfl (lv' := [(3, .int (zI 1)), (0, .ref mo), (1, .int (zI (alM (alOk b n) s))), (2, .int (zI ((s : Nat) : Int))), (4, .int (zI ((a : Nat) : Int))), (5, .int (zI ((a + 1 + j : Nat) : Int)))]) dX7_alter_130 (by decide) rfl ?_
                              refine x_iinc 134 rfl (lv' := [(5, .int (zI ((a + 1 + j + 1 : Nat) : Int))), (3, .int (zI 1)), (0, .ref mo), (1, .int (zI (alM (alOk b n) s))), (2, .int (zI ((s : Nat) : Int))), (4, .int (zI ((a : Nat) : Int)))]) dX7_alter_131 5 rfl (b := ((a + 1 + j + 1 : Nat) : Int)) (by omega) (by decide) rfl ?_
                              refine x_goto dX7_alter_134 (tgt := 64) (by decide) ?_
                              refine x_lve (congrArg (fun zz : Int32 => ([(5, .int (zI ((a + 1 + j + 1 : Nat) : Int))), (3, .int zz), (0, .ref mo), (1, .int (zI (alM (alOk b n) s))), (2, .int (zI ((s : Nat) : Int))), (4, .int (zI ((a : Nat) : Int)))] : List (Nat × Value))) (zB_t (andF_t h77 (alI_1 (by omega))) : (zI 1) = (zB ((al && allF (alA b n s) a) && allF (alI b s a) (j + 1))))) ?_
                              refine x_lve (congrArg (fun zz : Int => ([(5, .int (zI zz)), (3, .int (zB ((al && allF (alA b n s) a) && allF (alI b s a) (j + 1)))), (0, .ref mo), (1, .int (zI (alM (alOk b n) s))), (2, .int (zI ((s : Nat) : Int))), (4, .int (zI ((a : Nat) : Int)))] : List (Nat × Value))) (by omega : ((a + 1 + j + 1 : Nat) : Int) = ((a + 1 + (j + 1) : Nat) : Int))) ?_
                              refine x_lv [2, 3, 4, 1, 5, 0] rfl ?_
                              exact ih64 (j + 1) (by omega) (by omega)
                            · skip
                              refine x_iload_n 91 rfl dX7_alter_90 2 rfl ?_
                              refine x_iload 93 rfl dX7_alter_91 5 rfl ?_
                              obtain ⟨v3, hv3⟩ : ∃ v, v = s / 2 ^ (a + 1 + j) := ⟨_, rfl⟩
                              have hv4 : v3 ≤ s := by rw [hv3]; exact Nat.div_le_self _ _
                              refine x_ishr 94 rfl dX7_alter_93 (z := ((s / 2 ^ (a + 1 + j) : Nat) : Int)) (zI_shr (t := s) (i := (a + 1 + j)) (by omega) (by omega)) ?_
                              refine x_iconst 95 rfl dX7_alter_94 (z := 1) (by decide) ?_
                              refine x_iand 96 rfl dX7_alter_95 (z := ((s / 2 ^ (a + 1 + j) % 2 : Nat) : Int)) (zI_and1 (t := s / 2 ^ (a + 1 + j)) (by omega)) ?_
                              refine x_iconst 97 rfl dX7_alter_96 (z := 1) (by decide) ?_
                              refine x_icmp_eq 100 rfl (tgt := 125) dX7_alter_97 (by decide) (by omega) (by decide) (fun h97 => ?_) (fun h97 => ?_)
                              · skip
                                refine x_iconst 126 rfl dX7_alter_125 (z := 1) (by decide) ?_
                                refine x_goto dX7_alter_126 (tgt := 130) (by decide) ?_
                                refine x_istore_n 131 rfl (lv' := [(3, .int (zI 1)), (0, .ref mo), (1, .int (zI (alM (alOk b n) s))), (2, .int (zI ((s : Nat) : Int))), (4, .int (zI ((a : Nat) : Int))), (5, .int (zI ((a + 1 + j : Nat) : Int)))]) dX7_alter_130 (by decide) rfl ?_
                                refine x_iinc 134 rfl (lv' := [(5, .int (zI ((a + 1 + j + 1 : Nat) : Int))), (3, .int (zI 1)), (0, .ref mo), (1, .int (zI (alM (alOk b n) s))), (2, .int (zI ((s : Nat) : Int))), (4, .int (zI ((a : Nat) : Int)))]) dX7_alter_131 5 rfl (b := ((a + 1 + j + 1 : Nat) : Int)) (by omega) (by decide) rfl ?_
                                refine x_goto dX7_alter_134 (tgt := 64) (by decide) ?_
                                refine x_lve (congrArg (fun zz : Int32 => ([(5, .int (zI ((a + 1 + j + 1 : Nat) : Int))), (3, .int zz), (0, .ref mo), (1, .int (zI (alM (alOk b n) s))), (2, .int (zI ((s : Nat) : Int))), (4, .int (zI ((a : Nat) : Int)))] : List (Nat × Value))) (zB_t (andF_t h77 (alI_2 (by omega))) : (zI 1) = (zB ((al && allF (alA b n s) a) && allF (alI b s a) (j + 1))))) ?_
                                refine x_lve (congrArg (fun zz : Int => ([(5, .int (zI zz)), (3, .int (zB ((al && allF (alA b n s) a) && allF (alI b s a) (j + 1)))), (0, .ref mo), (1, .int (zI (alM (alOk b n) s))), (2, .int (zI ((s : Nat) : Int))), (4, .int (zI ((a : Nat) : Int)))] : List (Nat × Value))) (by omega : ((a + 1 + j + 1 : Nat) : Int) = ((a + 1 + (j + 1) : Nat) : Int))) ?_
                                refine x_lv [2, 3, 4, 1, 5, 0] rfl ?_
                                exact ih64 (j + 1) (by omega) (by omega)
                              · skip
                                refine x_aload_n 101 rfl dX7_alter_100 0 rfl ?_
                                refine x_iload 103 rfl dX7_alter_101 4 rfl ?_
                                refine x_aload_n 104 rfl dX7_alter_103 0 rfl ?_
                                refine x_iload 106 rfl dX7_alter_104 4 rfl ?_
                                refine x_iconst 107 rfl dX7_alter_106 (z := 1) (by decide) ?_
                                refine x_callV 110 rfl (c_X7_of G mo ad qt sc b a 1 (by omega) (by omega)) [0, 1] rfl (by decide) 0 rfl rfl gX7_alter_X7_of rfl rfl rfl hd_X7_of ⟨Nat.le_of_ble_eq_true rfl, Nat.le_of_ble_eq_true rfl⟩ (As := [.int (zI ((a : Nat) : Int)), .int (zI 1)]) (rest := [.int (zI ((a : Nat) : Int)), .ref mo]) rfl rfl (Nat.le_of_ble_eq_true rfl) dX7_alter_107 ⟨Nat.zero_le _, Nat.zero_le _⟩ (fun v w hq => ?_)
                                obtain ⟨rfl, rfl⟩ := hq
                                refine ⟨rfl, ?_⟩
                                refine x_ws (ws' := [(mo, moE ad qt sc), (ad 0, aI G 66 b)]) (rfl) ?_
                                refine x_int (congrArg zI ((I.t (by omega)).1 : b (18 + 4 * a + 1) = ((tN b a : Nat) : Int))) ?_
                                refine x_iload 112 rfl dX7_alter_110 5 rfl ?_
                                refine x_aload_n 113 rfl dX7_alter_112 0 rfl ?_
                                refine x_iload 115 rfl dX7_alter_113 5 rfl ?_
                                refine x_iconst 116 rfl dX7_alter_115 (z := 1) (by decide) ?_
                                refine x_callV 119 rfl (c_X7_of G mo ad qt sc b (a + 1 + j) 1 (by omega) (by omega)) [0, 1] rfl (by decide) 0 rfl rfl gX7_alter_X7_of rfl rfl rfl hd_X7_of ⟨Nat.le_of_ble_eq_true rfl, Nat.le_of_ble_eq_true rfl⟩ (As := [.int (zI ((a + 1 + j : Nat) : Int)), .int (zI 1)]) (rest := [.int (zI ((a + 1 + j : Nat) : Int)), .int (zI ((tN b a : Nat) : Int)), .int (zI ((a : Nat) : Int)), .ref mo]) rfl rfl (Nat.le_of_ble_eq_true rfl) dX7_alter_116 ⟨Nat.zero_le _, Nat.zero_le _⟩ (fun v w hq => ?_)
                                obtain ⟨rfl, rfl⟩ := hq
                                refine ⟨rfl, ?_⟩
                                refine x_ws (ws' := [(mo, moE ad qt sc), (ad 0, aI G 66 b)]) (rfl) ?_
                                refine x_int (congrArg zI ((I.t (by omega)).1 : b (18 + 4 * (a + 1 + j) + 1) = ((tN b (a + 1 + j) : Nat) : Int))) ?_
                                refine x_callV 122 rfl (c_X7_clashes G mo ad qt sc b n d c I a (tN b a) (a + 1 + j) (tN b (a + 1 + j)) (by omega) (I.t (by omega)).2 (by omega) (I.t (by omega)).2) [0, 1] rfl (by decide) 0 rfl rfl gX7_alter_X7_clashes rfl rfl rfl hd_X7_clashes ⟨Nat.le_of_ble_eq_true rfl, Nat.le_of_ble_eq_true rfl⟩ (As := [.int (zI ((a : Nat) : Int)), .int (zI ((tN b a : Nat) : Int)), .int (zI ((a + 1 + j : Nat) : Int)), .int (zI ((tN b (a + 1 + j) : Nat) : Int))]) (rest := []) rfl rfl (Nat.le_of_ble_eq_true rfl) dX7_alter_119 ⟨Nat.zero_le _, Nat.zero_le _⟩ (fun v w hq => ?_)
                                obtain ⟨rfl, rfl⟩ := hq
                                refine ⟨rfl, ?_⟩
                                refine x_ws (ws' := [(mo, moE ad qt sc), (ad 0, aI G 66 b)]) (rfl) ?_
                                refine x_bif_ne 125 rfl (tgt := 129) dX7_alter_122 (by decide) (fun h122 => ?_) (fun h122 => ?_)
                                · skip
                                  have h122 : clP b a (a + 1 + j) = true := h122
                                  refine x_iconst 130 rfl dX7_alter_129 (z := 0) (by decide) ?_
                                  refine x_istore_n 131 rfl (lv' := [(3, .int (zI 0)), (0, .ref mo), (1, .int (zI (alM (alOk b n) s))), (2, .int (zI ((s : Nat) : Int))), (4, .int (zI ((a : Nat) : Int))), (5, .int (zI ((a + 1 + j : Nat) : Int)))]) dX7_alter_130 (by decide) rfl ?_
                                  refine x_iinc 134 rfl (lv' := [(5, .int (zI ((a + 1 + j + 1 : Nat) : Int))), (3, .int (zI 0)), (0, .ref mo), (1, .int (zI (alM (alOk b n) s))), (2, .int (zI ((s : Nat) : Int))), (4, .int (zI ((a : Nat) : Int)))]) dX7_alter_131 5 rfl (b := ((a + 1 + j + 1 : Nat) : Int)) (by omega) (by decide) rfl ?_
                                  refine x_goto dX7_alter_134 (tgt := 64) (by decide) ?_
                                  refine x_lve (congrArg (fun zz : Int32 => ([(5, .int (zI ((a + 1 + j + 1 : Nat) : Int))), (3, .int zz), (0, .ref mo), (1, .int (zI (alM (alOk b n) s))), (2, .int (zI ((s : Nat) : Int))), (4, .int (zI ((a : Nat) : Int)))] : List (Nat × Value))) (zB_f (andF_f2 (alI_0 (by omega) (by omega) h122)) : (zI 0) = (zB ((al && allF (alA b n s) a) && allF (alI b s a) (j + 1))))) ?_
                                  refine x_lve (congrArg (fun zz : Int => ([(5, .int (zI zz)), (3, .int (zB ((al && allF (alA b n s) a) && allF (alI b s a) (j + 1)))), (0, .ref mo), (1, .int (zI (alM (alOk b n) s))), (2, .int (zI ((s : Nat) : Int))), (4, .int (zI ((a : Nat) : Int)))] : List (Nat × Value))) (by omega : ((a + 1 + j + 1 : Nat) : Int) = ((a + 1 + (j + 1) : Nat) : Int))) ?_
                                  refine x_lv [2, 3, 4, 1, 5, 0] rfl ?_
                                  exact ih64 (j + 1) (by omega) (by omega)
                                · skip
                                  have h122 : clP b a (a + 1 + j) = false := h122
                                  refine x_iconst 126 rfl dX7_alter_125 (z := 1) (by decide) ?_
                                  refine x_goto dX7_alter_126 (tgt := 130) (by decide) ?_
                                  refine x_istore_n 131 rfl (lv' := [(3, .int (zI 1)), (0, .ref mo), (1, .int (zI (alM (alOk b n) s))), (2, .int (zI ((s : Nat) : Int))), (4, .int (zI ((a : Nat) : Int))), (5, .int (zI ((a + 1 + j : Nat) : Int)))]) dX7_alter_130 (by decide) rfl ?_
                                  refine x_iinc 134 rfl (lv' := [(5, .int (zI ((a + 1 + j + 1 : Nat) : Int))), (3, .int (zI 1)), (0, .ref mo), (1, .int (zI (alM (alOk b n) s))), (2, .int (zI ((s : Nat) : Int))), (4, .int (zI ((a : Nat) : Int)))]) dX7_alter_131 5 rfl (b := ((a + 1 + j + 1 : Nat) : Int)) (by omega) (by decide) rfl ?_
                                  refine x_goto dX7_alter_134 (tgt := 64) (by decide) ?_
                                  refine x_lve (congrArg (fun zz : Int32 => ([(5, .int (zI ((a + 1 + j + 1 : Nat) : Int))), (3, .int zz), (0, .ref mo), (1, .int (zI (alM (alOk b n) s))), (2, .int (zI ((s : Nat) : Int))), (4, .int (zI ((a : Nat) : Int)))] : List (Nat × Value))) (zB_t (andF_t h77 (alI_3 h122)) : (zI 1) = (zB ((al && allF (alA b n s) a) && allF (alI b s a) (j + 1))))) ?_
                                  refine x_lve (congrArg (fun zz : Int => ([(5, .int (zI zz)), (3, .int (zB ((al && allF (alA b n s) a) && allF (alI b s a) (j + 1)))), (0, .ref mo), (1, .int (zI (alM (alOk b n) s))), (2, .int (zI ((s : Nat) : Int))), (4, .int (zI ((a : Nat) : Int)))] : List (Nat × Value))) (by omega : ((a + 1 + j + 1 : Nat) : Int) = ((a + 1 + (j + 1) : Nat) : Int))) ?_
                                  refine x_lv [2, 3, 4, 1, 5, 0] rfl ?_
                                  exact ih64 (j + 1) (by omega) (by omega)
                    refine x_lve (congrArg (fun zz : Int32 => ([(5, .int (zI ((a + 1 : Nat) : Int))), (0, .ref mo), (1, .int (zI (alM (alOk b n) s))), (2, .int (zI ((s : Nat) : Int))), (3, .int zz), (4, .int (zI ((a : Nat) : Int)))] : List (Nat × Value))) (by rw [show ((al && allF (alA b n s) a) && allF (alI b s a) 0) = (al && allF (alA b n s) a) from Bool.and_true _] : (zB (al && allF (alA b n s) a)) = (zB ((al && allF (alA b n s) a) && allF (alI b s a) 0)))) ?_
                    refine x_lve (congrArg (fun zz : Int => ([(5, .int (zI zz)), (0, .ref mo), (1, .int (zI (alM (alOk b n) s))), (2, .int (zI ((s : Nat) : Int))), (3, .int (zB ((al && allF (alA b n s) a) && allF (alI b s a) 0))), (4, .int (zI ((a : Nat) : Int)))] : List (Nat × Value))) (by omega : ((a + 1 : Nat) : Int) = ((a + 1 + 0 : Nat) : Int))) ?_
                    refine x_lv [1, 2, 3, 4, 5, 0] rfl ?_
                    exact L64 _ 0 (by omega) (Nat.lt_succ_self _)
            refine x_lve (congrArg (fun zz : Int32 => ([(4, .int (zI 0)), (0, .ref mo), (1, .int (zI (alM (alOk b n) s))), (2, .int (zI ((s : Nat) : Int))), (3, .int zz)] : List (Nat × Value))) (by rw [show (al && allF (alA b n s) 0) = al from Bool.and_true _] : (zB al) = (zB (al && allF (alA b n s) 0)))) ?_
            refine x_lv [1, 2, 3, 4, 0] rfl ?_
            exact L42 _ 0 (by omega) (Nat.lt_succ_self _)
          refine x_lve (congrArg (fun zz : Int32 => ([(3, .int zz), (0, .ref mo), (1, .int (zI (alM (alOk b n) s))), (2, .int (zI ((s : Nat) : Int)))] : List (Nat × Value))) (rfl : (zI 1) = (zB true))) ?_
          refine x_lv [1, 2, 3, 0] rfl ?_
          exact L39 true ((decide_eq_true (Or.inl h19)).symm)
        · skip
          obtain ⟨u, hu⟩ : ∃ u : Nat, (alM (alOk b n) s) = (u : Int) := ⟨Int.toNat (alM (alOk b n) s), by omega⟩
          have hu1 := pcF_le s 7
          have hu2 := pcF_le u 7
          refine x_lve (congrArg (fun zz : Int => ([(0, .ref mo), (1, .int (zI zz)), (2, .int (zI ((s : Nat) : Int)))] : List (Nat × Value))) (hu : alM (alOk b n) s = ((u : Nat) : Int))) ?_
          refine x_iload_n 23 rfl dX7_alter_22 2 rfl ?_
          refine x_callS0 26 rfl (c_X7_bits G s (by omega)) (fun _ _ h => h.2) gX7_alter_X7_bits rfl rfl rfl hd_X7_bits ⟨Nat.le_of_ble_eq_true rfl, Nat.le_of_ble_eq_true rfl⟩ (As := [.int (zI ((s : Nat) : Int))]) (rest := []) rfl rfl (Nat.le_of_ble_eq_true rfl) dX7_alter_23 ⟨Nat.zero_le _, Nat.zero_le _⟩ (fun v hq => ?_)
          obtain ⟨rfl, -⟩ := hq
          refine x_iload_n 27 rfl dX7_alter_26 1 rfl ?_
          refine x_callS0 30 rfl (c_X7_bits G u (by omega)) (fun _ _ h => h.2) gX7_alter_X7_bits rfl rfl rfl hd_X7_bits ⟨Nat.le_of_ble_eq_true rfl, Nat.le_of_ble_eq_true rfl⟩ (As := [.int (zI ((u : Nat) : Int))]) (rest := [.int (zI ((pcF s 7 : Nat) : Int))]) rfl rfl (Nat.le_of_ble_eq_true rfl) dX7_alter_27 ⟨Nat.zero_le _, Nat.zero_le _⟩ (fun v hq => ?_)
          obtain ⟨rfl, -⟩ := hq
          refine x_icmp_ge 33 rfl (tgt := 37) dX7_alter_30 (by decide) (by omega) (by omega) (fun h30 => ?_) (fun h30 => ?_)
          · skip
            refine x_iconst 38 rfl dX7_alter_37 (z := 0) (by decide) ?_
            refine x_istore_n 39 rfl (lv' := [(3, .int (zI 0)), (0, .ref mo), (1, .int (zI ((u : Nat) : Int))), (2, .int (zI ((s : Nat) : Int)))]) dX7_alter_38 (by decide) rfl ?_
            have L39 : ∀ (al : Bool) (hal : al = decide ((alM (alOk b n) s) = -1 ∨ pcF s 7 < pcF (Int.toNat (alM (alOk b n) s)) 7)), W_X7_alter G E mo ad qt sc b n d c 39 [(0, .ref mo), (1, .int (zI (alM (alOk b n) s))), (2, .int (zI ((s : Nat) : Int))), (3, .int (zB al))] [] ([(mo, moE ad qt sc), (ad 0, aI G 66 b)]) := by
              intro al hal
              refine x_iconst 40 rfl dX7_alter_39 (z := 0) (by decide) ?_
              refine x_istore 42 rfl (lv' := [(4, .int (zI 0)), (0, .ref mo), (1, .int (zI (alM (alOk b n) s))), (2, .int (zI ((s : Nat) : Int))), (3, .int (zB al))]) dX7_alter_40 (by decide) rfl ?_
              have L42 : ∀ (f42 : Nat) (a : Nat) (ha : a ≤ n), n - a < f42 → W_X7_alter G E mo ad qt sc b n d c 42 [(0, .ref mo), (1, .int (zI (alM (alOk b n) s))), (2, .int (zI ((s : Nat) : Int))), (3, .int (zB (al && allF (alA b n s) a))), (4, .int (zI ((a : Nat) : Int)))] [] ([(mo, moE ad qt sc), (ad 0, aI G 66 b)]) := by
                intro f42
                induction f42 with
                | zero => intro a ha hf42; exact absurd hf42 (Nat.not_lt_zero _)
                | succ f42 ih42 =>
                  intro a ha hf42
                  refine x_iload 44 rfl dX7_alter_42 4 rfl ?_
                  refine x_aload_n 45 rfl dX7_alter_44 0 rfl ?_
                  refine x_get 48 rfl 0 0 rfl rfl (by decide) inX7_alter_X7 flX7_alter_7 rfl dX7_alter_45 ?_
                  refine x_bipush 50 rfl dX7_alter_48 (z := 15) (by decide) ?_
                  refine x_iald 51 rfl 1 15 rfl (⟨by omega, by omega⟩) (by decide) (v := ((n : Nat) : Int)) (hn) dX7_alter_50 ?_
                  refine x_icmp_ge 54 rfl (tgt := 143) dX7_alter_51 (by decide) (by omega) (by omega) (fun h51 => ?_) (fun h51 => ?_)
                  · skip
                    have hfin : (al && allF (alA b n s) a) = (al && alOk b n s) := by rw [show a = n by omega]; rfl
                    refine x_iload_n 144 rfl dX7_alter_143 3 rfl ?_
                    refine x_bif_eq 147 rfl (tgt := 151) dX7_alter_144 (by decide) (fun h144 => ?_) (fun h144 => ?_)
                    · skip
                      refine x_iload_n 152 rfl dX7_alter_151 1 rfl ?_
                      refine x_istore_n 153 rfl (lv' := [(1, .int (zI (alM (alOk b n) s))), (0, .ref mo), (2, .int (zI ((s : Nat) : Int))), (3, .int (zB (al && allF (alA b n s) a))), (4, .int (zI ((a : Nat) : Int)))]) dX7_alter_152 (by decide) rfl ?_
                      refine x_iinc 156 rfl (lv' := [(2, .int (zI ((s + 1 : Nat) : Int))), (1, .int (zI (alM (alOk b n) s))), (0, .ref mo), (3, .int (zB (al && allF (alA b n s) a))), (4, .int (zI ((a : Nat) : Int)))]) dX7_alter_153 2 rfl (b := ((s + 1 : Nat) : Int)) (by omega) (by decide) rfl ?_
                      refine x_goto dX7_alter_156 (tgt := 4) (by decide) ?_
                      refine x_lve (congrArg (fun zz : Int => ([(2, .int (zI ((s + 1 : Nat) : Int))), (1, .int (zI zz)), (0, .ref mo), (3, .int (zB (al && allF (alA b n s) a))), (4, .int (zI ((a : Nat) : Int)))] : List (Nat × Value))) (by show _ = alS (alOk b n) s (alM (alOk b n) s); unfold alS; first | (rw [if_pos ⟨by rw [h144, Bool.true_eq, Bool.and_eq_true, hal, decide_eq_true_iff] at hfin; exact hfin.1, by rw [h144, Bool.true_eq, Bool.and_eq_true] at hfin; exact hfin.2⟩]) | (rw [if_neg (fun hh => by rw [h144, hal, decide_eq_true hh.1, hh.2] at hfin; cases hfin)]) : alM (alOk b n) s = alM (alOk b n) (s + 1))) ?_
                      refine x_lv [2, 1, 0] rfl ?_
                      exact ih4 (s + 1) (by omega) (by omega)
                    · skip
                      refine x_iload_n 148 rfl dX7_alter_147 2 rfl ?_
                      refine x_goto dX7_alter_148 (tgt := 152) (by decide) ?_
                      refine x_istore_n 153 rfl (lv' := [(1, .int (zI ((s : Nat) : Int))), (0, .ref mo), (2, .int (zI ((s : Nat) : Int))), (3, .int (zB (al && allF (alA b n s) a))), (4, .int (zI ((a : Nat) : Int)))]) dX7_alter_152 (by decide) rfl ?_
                      refine x_iinc 156 rfl (lv' := [(2, .int (zI ((s + 1 : Nat) : Int))), (1, .int (zI ((s : Nat) : Int))), (0, .ref mo), (3, .int (zB (al && allF (alA b n s) a))), (4, .int (zI ((a : Nat) : Int)))]) dX7_alter_153 2 rfl (b := ((s + 1 : Nat) : Int)) (by omega) (by decide) rfl ?_
                      refine x_goto dX7_alter_156 (tgt := 4) (by decide) ?_
                      refine x_lve (congrArg (fun zz : Int => ([(2, .int (zI ((s + 1 : Nat) : Int))), (1, .int (zI zz)), (0, .ref mo), (3, .int (zB (al && allF (alA b n s) a))), (4, .int (zI ((a : Nat) : Int)))] : List (Nat × Value))) (by show _ = alS (alOk b n) s (alM (alOk b n) s); unfold alS; first | (rw [if_pos ⟨by rw [h144, Bool.true_eq, Bool.and_eq_true, hal, decide_eq_true_iff] at hfin; exact hfin.1, by rw [h144, Bool.true_eq, Bool.and_eq_true] at hfin; exact hfin.2⟩]) | (rw [if_neg (fun hh => by rw [h144, hal, decide_eq_true hh.1, hh.2] at hfin; cases hfin)]) : ((s : Nat) : Int) = alM (alOk b n) (s + 1))) ?_
                      refine x_lv [2, 1, 0] rfl ?_
                      exact ih4 (s + 1) (by omega) (by omega)
                  · skip
                    refine x_iload_n 55 rfl dX7_alter_54 3 rfl ?_
                    refine x_bif_eq 58 rfl (tgt := 143) dX7_alter_55 (by decide) (fun h55 => ?_) (fun h55 => ?_)
                    · skip
                      have hfin : (al && allF (alA b n s) a) = (al && alOk b n s) := by rw [h55]; cases hq : al with | false => rfl | true => rw [hq] at h55; exact (allF_mono (n := n) ha h55).symm
                      refine x_iload_n 144 rfl dX7_alter_143 3 rfl ?_
                      refine x_bif_eq 147 rfl (tgt := 151) dX7_alter_144 (by decide) (fun h144 => ?_) (fun h144 => ?_)
                      · skip
                        refine x_iload_n 152 rfl dX7_alter_151 1 rfl ?_
                        refine x_istore_n 153 rfl (lv' := [(1, .int (zI (alM (alOk b n) s))), (0, .ref mo), (2, .int (zI ((s : Nat) : Int))), (3, .int (zB (al && allF (alA b n s) a))), (4, .int (zI ((a : Nat) : Int)))]) dX7_alter_152 (by decide) rfl ?_
                        refine x_iinc 156 rfl (lv' := [(2, .int (zI ((s + 1 : Nat) : Int))), (1, .int (zI (alM (alOk b n) s))), (0, .ref mo), (3, .int (zB (al && allF (alA b n s) a))), (4, .int (zI ((a : Nat) : Int)))]) dX7_alter_153 2 rfl (b := ((s + 1 : Nat) : Int)) (by omega) (by decide) rfl ?_
                        refine x_goto dX7_alter_156 (tgt := 4) (by decide) ?_
                        refine x_lve (congrArg (fun zz : Int => ([(2, .int (zI ((s + 1 : Nat) : Int))), (1, .int (zI zz)), (0, .ref mo), (3, .int (zB (al && allF (alA b n s) a))), (4, .int (zI ((a : Nat) : Int)))] : List (Nat × Value))) (by show _ = alS (alOk b n) s (alM (alOk b n) s); unfold alS; first | (rw [if_pos ⟨by rw [h144, Bool.true_eq, Bool.and_eq_true, hal, decide_eq_true_iff] at hfin; exact hfin.1, by rw [h144, Bool.true_eq, Bool.and_eq_true] at hfin; exact hfin.2⟩]) | (rw [if_neg (fun hh => by rw [h144, hal, decide_eq_true hh.1, hh.2] at hfin; cases hfin)]) : alM (alOk b n) s = alM (alOk b n) (s + 1))) ?_
                        refine x_lv [2, 1, 0] rfl ?_
                        exact ih4 (s + 1) (by omega) (by omega)
                      · skip
                        refine x_iload_n 148 rfl dX7_alter_147 2 rfl ?_
                        refine x_goto dX7_alter_148 (tgt := 152) (by decide) ?_
                        refine x_istore_n 153 rfl (lv' := [(1, .int (zI ((s : Nat) : Int))), (0, .ref mo), (2, .int (zI ((s : Nat) : Int))), (3, .int (zB (al && allF (alA b n s) a))), (4, .int (zI ((a : Nat) : Int)))]) dX7_alter_152 (by decide) rfl ?_
                        refine x_iinc 156 rfl (lv' := [(2, .int (zI ((s + 1 : Nat) : Int))), (1, .int (zI ((s : Nat) : Int))), (0, .ref mo), (3, .int (zB (al && allF (alA b n s) a))), (4, .int (zI ((a : Nat) : Int)))]) dX7_alter_153 2 rfl (b := ((s + 1 : Nat) : Int)) (by omega) (by decide) rfl ?_
                        refine x_goto dX7_alter_156 (tgt := 4) (by decide) ?_
                        refine x_lve (congrArg (fun zz : Int => ([(2, .int (zI ((s + 1 : Nat) : Int))), (1, .int (zI zz)), (0, .ref mo), (3, .int (zB (al && allF (alA b n s) a))), (4, .int (zI ((a : Nat) : Int)))] : List (Nat × Value))) (by show _ = alS (alOk b n) s (alM (alOk b n) s); unfold alS; first | (rw [if_pos ⟨by rw [h144, Bool.true_eq, Bool.and_eq_true, hal, decide_eq_true_iff] at hfin; exact hfin.1, by rw [h144, Bool.true_eq, Bool.and_eq_true] at hfin; exact hfin.2⟩]) | (rw [if_neg (fun hh => by rw [h144, hal, decide_eq_true hh.1, hh.2] at hfin; cases hfin)]) : ((s : Nat) : Int) = alM (alOk b n) (s + 1))) ?_
                        refine x_lv [2, 1, 0] rfl ?_
                        exact ih4 (s + 1) (by omega) (by omega)
                    · skip
                      refine x_iload 60 rfl dX7_alter_58 4 rfl ?_
                      refine x_iconst 61 rfl dX7_alter_60 (z := 1) (by decide) ?_
                      refine x_iadd 62 rfl dX7_alter_61 (z := ((a + 1 : Nat) : Int)) (by omega) ?_
                      refine x_istore 64 rfl (lv' := [(5, .int (zI ((a + 1 : Nat) : Int))), (0, .ref mo), (1, .int (zI (alM (alOk b n) s))), (2, .int (zI ((s : Nat) : Int))), (3, .int (zB (al && allF (alA b n s) a))), (4, .int (zI ((a : Nat) : Int)))]) dX7_alter_62 (by decide) rfl ?_
                      have L64 : ∀ (f64 : Nat) (j : Nat) (hj : a + 1 + j ≤ n), n - j < f64 → W_X7_alter G E mo ad qt sc b n d c 64 [(0, .ref mo), (1, .int (zI (alM (alOk b n) s))), (2, .int (zI ((s : Nat) : Int))), (3, .int (zB ((al && allF (alA b n s) a) && allF (alI b s a) j))), (4, .int (zI ((a : Nat) : Int))), (5, .int (zI ((a + 1 + j : Nat) : Int)))] [] ([(mo, moE ad qt sc), (ad 0, aI G 66 b)]) := by
                        intro f64
                        induction f64 with
                        | zero => intro j hj hf64; exact absurd hf64 (Nat.not_lt_zero _)
                        | succ f64 ih64 =>
                          intro j hj hf64
                          refine x_iload 66 rfl dX7_alter_64 5 rfl ?_
                          refine x_aload_n 67 rfl dX7_alter_66 0 rfl ?_
                          refine x_get 70 rfl 0 0 rfl rfl (by decide) inX7_alter_X7 flX7_alter_7 rfl dX7_alter_67 ?_
                          refine x_bipush 72 rfl dX7_alter_70 (z := 15) (by decide) ?_
                          refine x_iald 73 rfl 1 15 rfl (⟨by omega, by omega⟩) (by decide) (v := ((n : Nat) : Int)) (hn) dX7_alter_72 ?_
                          refine x_icmp_ge 76 rfl (tgt := 137) dX7_alter_73 (by decide) (by omega) (by omega) (fun h73 => ?_) (fun h73 => ?_)
                          · skip
                            refine x_iinc 140 rfl (lv' := [(4, .int (zI ((a + 1 : Nat) : Int))), (0, .ref mo), (1, .int (zI (alM (alOk b n) s))), (2, .int (zI ((s : Nat) : Int))), (3, .int (zB ((al && allF (alA b n s) a) && allF (alI b s a) j))), (5, .int (zI ((a + 1 + j : Nat) : Int)))]) dX7_alter_137 4 rfl (b := ((a + 1 : Nat) : Int)) (by omega) (by decide) rfl ?_
                            refine x_goto dX7_alter_140 (tgt := 42) (by decide) ?_
                            refine x_lve (congrArg (fun zz : Int32 => ([(4, .int (zI ((a + 1 : Nat) : Int))), (0, .ref mo), (1, .int (zI (alM (alOk b n) s))), (2, .int (zI ((s : Nat) : Int))), (3, .int zz), (5, .int (zI ((a + 1 + j : Nat) : Int)))] : List (Nat × Value))) (by rw [show j = n - (a + 1) by omega, Bool.and_assoc]; rfl : (zB ((al && allF (alA b n s) a) && allF (alI b s a) j)) = (zB (al && allF (alA b n s) (a + 1))))) ?_
                            refine x_lv [1, 2, 3, 4, 0] rfl ?_
                            exact ih42 (a + 1) (by omega) (by omega)
                          · skip
                            refine x_iload_n 77 rfl dX7_alter_76 3 rfl ?_
                            refine x_bif_eq 80 rfl (tgt := 129) dX7_alter_77 (by decide) (fun h77 => ?_) (fun h77 => ?_)
                            · skip
                              refine x_iconst 130 rfl dX7_alter_129 (z := 0) (by decide) ?_
                              refine x_istore_n 131 rfl (lv' := [(3, .int (zI 0)), (0, .ref mo), (1, .int (zI (alM (alOk b n) s))), (2, .int (zI ((s : Nat) : Int))), (4, .int (zI ((a : Nat) : Int))), (5, .int (zI ((a + 1 + j : Nat) : Int)))]) dX7_alter_130 (by decide) rfl ?_
                              refine x_iinc 134 rfl (lv' := [(5, .int (zI ((a + 1 + j + 1 : Nat) : Int))), (3, .int (zI 0)), (0, .ref mo), (1, .int (zI (alM (alOk b n) s))), (2, .int (zI ((s : Nat) : Int))), (4, .int (zI ((a : Nat) : Int)))]) dX7_alter_131 5 rfl (b := ((a + 1 + j + 1 : Nat) : Int)) (by omega) (by decide) rfl ?_
                              refine x_goto dX7_alter_134 (tgt := 64) (by decide) ?_
                              refine x_lve (congrArg (fun zz : Int32 => ([(5, .int (zI ((a + 1 + j + 1 : Nat) : Int))), (3, .int zz), (0, .ref mo), (1, .int (zI (alM (alOk b n) s))), (2, .int (zI ((s : Nat) : Int))), (4, .int (zI ((a : Nat) : Int)))] : List (Nat × Value))) (zB_f (andF_f1 h77) : (zI 0) = (zB ((al && allF (alA b n s) a) && allF (alI b s a) (j + 1))))) ?_
                              refine x_lve (congrArg (fun zz : Int => ([(5, .int (zI zz)), (3, .int (zB ((al && allF (alA b n s) a) && allF (alI b s a) (j + 1)))), (0, .ref mo), (1, .int (zI (alM (alOk b n) s))), (2, .int (zI ((s : Nat) : Int))), (4, .int (zI ((a : Nat) : Int)))] : List (Nat × Value))) (by omega : ((a + 1 + j + 1 : Nat) : Int) = ((a + 1 + (j + 1) : Nat) : Int))) ?_
                              refine x_lv [2, 3, 4, 1, 5, 0] rfl ?_
                              exact ih64 (j + 1) (by omega) (by omega)
                            · skip
                              refine x_iload_n 81 rfl dX7_alter_80 2 rfl ?_
                              refine x_iload 83 rfl dX7_alter_81 4 rfl ?_
                              obtain ⟨v1, hv1⟩ : ∃ v, v = s / 2 ^ a := ⟨_, rfl⟩
                              have hv2 : v1 ≤ s := by rw [hv1]; exact Nat.div_le_self _ _
                              refine x_ishr 84 rfl dX7_alter_83 (z := ((s / 2 ^ a : Nat) : Int)) (zI_shr (t := s) (i := a) (by omega) (by omega)) ?_
                              refine x_iconst 85 rfl dX7_alter_84 (z := 1) (by decide) ?_
                              refine x_iand 86 rfl dX7_alter_85 (z := ((s / 2 ^ a % 2 : Nat) : Int)) (zI_and1 (t := s / 2 ^ a) (by omega)) ?_
                              refine x_iconst 87 rfl dX7_alter_86 (z := 1) (by decide) ?_
                              refine x_icmp_eq 90 rfl (tgt := 125) dX7_alter_87 (by decide) (by omega) (by decide) (fun h87 => ?_) (fun h87 => ?_)
                              · skip
                                refine x_iconst 126 rfl dX7_alter_125 (z := 1) (by decide) ?_
                                refine x_goto dX7_alter_126 (tgt := 130) (by decide) ?_
                                refine x_istore_n 131 rfl (lv' := [(3, .int (zI 1)), (0, .ref mo), (1, .int (zI (alM (alOk b n) s))), (2, .int (zI ((s : Nat) : Int))), (4, .int (zI ((a : Nat) : Int))), (5, .int (zI ((a + 1 + j : Nat) : Int)))]) dX7_alter_130 (by decide) rfl ?_
                                refine x_iinc 134 rfl (lv' := [(5, .int (zI ((a + 1 + j + 1 : Nat) : Int))), (3, .int (zI 1)), (0, .ref mo), (1, .int (zI (alM (alOk b n) s))), (2, .int (zI ((s : Nat) : Int))), (4, .int (zI ((a : Nat) : Int)))]) dX7_alter_131 5 rfl (b := ((a + 1 + j + 1 : Nat) : Int)) (by omega) (by decide) rfl ?_
                                refine x_goto dX7_alter_134 (tgt := 64) (by decide) ?_
                                refine x_lve (congrArg (fun zz : Int32 => ([(5, .int (zI ((a + 1 + j + 1 : Nat) : Int))), (3, .int zz), (0, .ref mo), (1, .int (zI (alM (alOk b n) s))), (2, .int (zI ((s : Nat) : Int))), (4, .int (zI ((a : Nat) : Int)))] : List (Nat × Value))) (zB_t (andF_t h77 (alI_1 (by omega))) : (zI 1) = (zB ((al && allF (alA b n s) a) && allF (alI b s a) (j + 1))))) ?_
                                refine x_lve (congrArg (fun zz : Int => ([(5, .int (zI zz)), (3, .int (zB ((al && allF (alA b n s) a) && allF (alI b s a) (j + 1)))), (0, .ref mo), (1, .int (zI (alM (alOk b n) s))), (2, .int (zI ((s : Nat) : Int))), (4, .int (zI ((a : Nat) : Int)))] : List (Nat × Value))) (by omega : ((a + 1 + j + 1 : Nat) : Int) = ((a + 1 + (j + 1) : Nat) : Int))) ?_
                                refine x_lv [2, 3, 4, 1, 5, 0] rfl ?_
                                exact ih64 (j + 1) (by omega) (by omega)
                              · skip
                                refine x_iload_n 91 rfl dX7_alter_90 2 rfl ?_
                                refine x_iload 93 rfl dX7_alter_91 5 rfl ?_
                                obtain ⟨v3, hv3⟩ : ∃ v, v = s / 2 ^ (a + 1 + j) := ⟨_, rfl⟩
                                have hv4 : v3 ≤ s := by rw [hv3]; exact Nat.div_le_self _ _
                                refine x_ishr 94 rfl dX7_alter_93 (z := ((s / 2 ^ (a + 1 + j) : Nat) : Int)) (zI_shr (t := s) (i := (a + 1 + j)) (by omega) (by omega)) ?_
                                refine x_iconst 95 rfl dX7_alter_94 (z := 1) (by decide) ?_
                                refine x_iand 96 rfl dX7_alter_95 (z := ((s / 2 ^ (a + 1 + j) % 2 : Nat) : Int)) (zI_and1 (t := s / 2 ^ (a + 1 + j)) (by omega)) ?_
                                refine x_iconst 97 rfl dX7_alter_96 (z := 1) (by decide) ?_
                                refine x_icmp_eq 100 rfl (tgt := 125) dX7_alter_97 (by decide) (by omega) (by decide) (fun h97 => ?_) (fun h97 => ?_)
                                · skip
                                  refine x_iconst 126 rfl dX7_alter_125 (z := 1) (by decide) ?_
                                  refine x_goto dX7_alter_126 (tgt := 130) (by decide) ?_
                                  refine x_istore_n 131 rfl (lv' := [(3, .int (zI 1)), (0, .ref mo), (1, .int (zI (alM (alOk b n) s))), (2, .int (zI ((s : Nat) : Int))), (4, .int (zI ((a : Nat) : Int))), (5, .int (zI ((a + 1 + j : Nat) : Int)))]) dX7_alter_130 (by decide) rfl ?_
                                  refine x_iinc 134 rfl (lv' := [(5, .int (zI ((a + 1 + j + 1 : Nat) : Int))), (3, .int (zI 1)), (0, .ref mo), (1, .int (zI (alM (alOk b n) s))), (2, .int (zI ((s : Nat) : Int))), (4, .int (zI ((a : Nat) : Int)))]) dX7_alter_131 5 rfl (b := ((a + 1 + j + 1 : Nat) : Int)) (by omega) (by decide) rfl ?_
                                  refine x_goto dX7_alter_134 (tgt := 64) (by decide) ?_
                                  refine x_lve (congrArg (fun zz : Int32 => ([(5, .int (zI ((a + 1 + j + 1 : Nat) : Int))), (3, .int zz), (0, .ref mo), (1, .int (zI (alM (alOk b n) s))), (2, .int (zI ((s : Nat) : Int))), (4, .int (zI ((a : Nat) : Int)))] : List (Nat × Value))) (zB_t (andF_t h77 (alI_2 (by omega))) : (zI 1) = (zB ((al && allF (alA b n s) a) && allF (alI b s a) (j + 1))))) ?_
                                  refine x_lve (congrArg (fun zz : Int => ([(5, .int (zI zz)), (3, .int (zB ((al && allF (alA b n s) a) && allF (alI b s a) (j + 1)))), (0, .ref mo), (1, .int (zI (alM (alOk b n) s))), (2, .int (zI ((s : Nat) : Int))), (4, .int (zI ((a : Nat) : Int)))] : List (Nat × Value))) (by omega : ((a + 1 + j + 1 : Nat) : Int) = ((a + 1 + (j + 1) : Nat) : Int))) ?_
                                  refine x_lv [2, 3, 4, 1, 5, 0] rfl ?_
                                  exact ih64 (j + 1) (by omega) (by omega)
                                · skip
                                  refine x_aload_n 101 rfl dX7_alter_100 0 rfl ?_
                                  refine x_iload 103 rfl dX7_alter_101 4 rfl ?_
                                  refine x_aload_n 104 rfl dX7_alter_103 0 rfl ?_
                                  refine x_iload 106 rfl dX7_alter_104 4 rfl ?_
                                  refine x_iconst 107 rfl dX7_alter_106 (z := 1) (by decide) ?_
                                  refine x_callV 110 rfl (c_X7_of G mo ad qt sc b a 1 (by omega) (by omega)) [0, 1] rfl (by decide) 0 rfl rfl gX7_alter_X7_of rfl rfl rfl hd_X7_of ⟨Nat.le_of_ble_eq_true rfl, Nat.le_of_ble_eq_true rfl⟩ (As := [.int (zI ((a : Nat) : Int)), .int (zI 1)]) (rest := [.int (zI ((a : Nat) : Int)), .ref mo]) rfl rfl (Nat.le_of_ble_eq_true rfl) dX7_alter_107 ⟨Nat.zero_le _, Nat.zero_le _⟩ (fun v w hq => ?_)
                                  obtain ⟨rfl, rfl⟩ := hq
                                  refine ⟨rfl, ?_⟩
                                  refine x_ws (ws' := [(mo, moE ad qt sc), (ad 0, aI G 66 b)]) (rfl) ?_
                                  refine x_int (congrArg zI ((I.t (by omega)).1 : b (18 + 4 * a + 1) = ((tN b a : Nat) : Int))) ?_
                                  refine x_iload 112 rfl dX7_alter_110 5 rfl ?_
                                  refine x_aload_n 113 rfl dX7_alter_112 0 rfl ?_
                                  refine x_iload 115 rfl dX7_alter_113 5 rfl ?_
                                  refine x_iconst 116 rfl dX7_alter_115 (z := 1) (by decide) ?_
                                  refine x_callV 119 rfl (c_X7_of G mo ad qt sc b (a + 1 + j) 1 (by omega) (by omega)) [0, 1] rfl (by decide) 0 rfl rfl gX7_alter_X7_of rfl rfl rfl hd_X7_of ⟨Nat.le_of_ble_eq_true rfl, Nat.le_of_ble_eq_true rfl⟩ (As := [.int (zI ((a + 1 + j : Nat) : Int)), .int (zI 1)]) (rest := [.int (zI ((a + 1 + j : Nat) : Int)), .int (zI ((tN b a : Nat) : Int)), .int (zI ((a : Nat) : Int)), .ref mo]) rfl rfl (Nat.le_of_ble_eq_true rfl) dX7_alter_116 ⟨Nat.zero_le _, Nat.zero_le _⟩ (fun v w hq => ?_)
                                  obtain ⟨rfl, rfl⟩ := hq
                                  refine ⟨rfl, ?_⟩
                                  refine x_ws (ws' := [(mo, moE ad qt sc), (ad 0, aI G 66 b)]) (rfl) ?_
                                  refine x_int (congrArg zI ((I.t (by omega)).1 : b (18 + 4 * (a + 1 + j) + 1) = ((tN b (a + 1 + j) : Nat) : Int))) ?_
                                  refine x_callV 122 rfl (c_X7_clashes G mo ad qt sc b n d c I a (tN b a) (a + 1 + j) (tN b (a + 1 + j)) (by omega) (I.t (by omega)).2 (by omega) (I.t (by omega)).2) [0, 1] rfl (by decide) 0 rfl rfl gX7_alter_X7_clashes rfl rfl rfl hd_X7_clashes ⟨Nat.le_of_ble_eq_true rfl, Nat.le_of_ble_eq_true rfl⟩ (As := [.int (zI ((a : Nat) : Int)), .int (zI ((tN b a : Nat) : Int)), .int (zI ((a + 1 + j : Nat) : Int)), .int (zI ((tN b (a + 1 + j) : Nat) : Int))]) (rest := []) rfl rfl (Nat.le_of_ble_eq_true rfl) dX7_alter_119 ⟨Nat.zero_le _, Nat.zero_le _⟩ (fun v w hq => ?_)
                                  obtain ⟨rfl, rfl⟩ := hq
                                  refine ⟨rfl, ?_⟩
                                  refine x_ws (ws' := [(mo, moE ad qt sc), (ad 0, aI G 66 b)]) (rfl) ?_
                                  refine x_bif_ne 125 rfl (tgt := 129) dX7_alter_122 (by decide) (fun h122 => ?_) (fun h122 => ?_)
                                  · skip
                                    have h122 : clP b a (a + 1 + j) = true := h122
                                    refine x_iconst 130 rfl dX7_alter_129 (z := 0) (by decide) ?_
                                    refine x_istore_n 131 rfl (lv' := [(3, .int (zI 0)), (0, .ref mo), (1, .int (zI (alM (alOk b n) s))), (2, .int (zI ((s : Nat) : Int))), (4, .int (zI ((a : Nat) : Int))), (5, .int (zI ((a + 1 + j : Nat) : Int)))]) dX7_alter_130 (by decide) rfl ?_
                                    refine x_iinc 134 rfl (lv' := [(5, .int (zI ((a + 1 + j + 1 : Nat) : Int))), (3, .int (zI 0)), (0, .ref mo), (1, .int (zI (alM (alOk b n) s))), (2, .int (zI ((s : Nat) : Int))), (4, .int (zI ((a : Nat) : Int)))]) dX7_alter_131 5 rfl (b := ((a + 1 + j + 1 : Nat) : Int)) (by omega) (by decide) rfl ?_
                                    refine x_goto dX7_alter_134 (tgt := 64) (by decide) ?_
                                    refine x_lve (congrArg (fun zz : Int32 => ([(5, .int (zI ((a + 1 + j + 1 : Nat) : Int))), (3, .int zz), (0, .ref mo), (1, .int (zI (alM (alOk b n) s))), (2, .int (zI ((s : Nat) : Int))), (4, .int (zI ((a : Nat) : Int)))] : List (Nat × Value))) (zB_f (andF_f2 (alI_0 (by omega) (by omega) h122)) : (zI 0) = (zB ((al && allF (alA b n s) a) && allF (alI b s a) (j + 1))))) ?_
                                    refine x_lve (congrArg (fun zz : Int => ([(5, .int (zI zz)), (3, .int (zB ((al && allF (alA b n s) a) && allF (alI b s a) (j + 1)))), (0, .ref mo), (1, .int (zI (alM (alOk b n) s))), (2, .int (zI ((s : Nat) : Int))), (4, .int (zI ((a : Nat) : Int)))] : List (Nat × Value))) (by omega : ((a + 1 + j + 1 : Nat) : Int) = ((a + 1 + (j + 1) : Nat) : Int))) ?_
                                    refine x_lv [2, 3, 4, 1, 5, 0] rfl ?_
                                    exact ih64 (j + 1) (by omega) (by omega)
                                  · skip
                                    have h122 : clP b a (a + 1 + j) = false := h122
                                    refine x_iconst 126 rfl dX7_alter_125 (z := 1) (by decide) ?_
                                    refine x_goto dX7_alter_126 (tgt := 130) (by decide) ?_
                                    refine x_istore_n 131 rfl (lv' := [(3, .int (zI 1)), (0, .ref mo), (1, .int (zI (alM (alOk b n) s))), (2, .int (zI ((s : Nat) : Int))), (4, .int (zI ((a : Nat) : Int))), (5, .int (zI ((a + 1 + j : Nat) : Int)))]) dX7_alter_130 (by decide) rfl ?_
                                    refine x_iinc 134 rfl (lv' := [(5, .int (zI ((a + 1 + j + 1 : Nat) : Int))), (3, .int (zI 1)), (0, .ref mo), (1, .int (zI (alM (alOk b n) s))), (2, .int (zI ((s : Nat) : Int))), (4, .int (zI ((a : Nat) : Int)))]) dX7_alter_131 5 rfl (b := ((a + 1 + j + 1 : Nat) : Int)) (by omega) (by decide) rfl ?_
                                    refine x_goto dX7_alter_134 (tgt := 64) (by decide) ?_
                                    refine x_lve (congrArg (fun zz : Int32 => ([(5, .int (zI ((a + 1 + j + 1 : Nat) : Int))), (3, .int zz), (0, .ref mo), (1, .int (zI (alM (alOk b n) s))), (2, .int (zI ((s : Nat) : Int))), (4, .int (zI ((a : Nat) : Int)))] : List (Nat × Value))) (zB_t (andF_t h77 (alI_3 h122)) : (zI 1) = (zB ((al && allF (alA b n s) a) && allF (alI b s a) (j + 1))))) ?_
                                    refine x_lve (congrArg (fun zz : Int => ([(5, .int (zI zz)), (3, .int (zB ((al && allF (alA b n s) a) && allF (alI b s a) (j + 1)))), (0, .ref mo), (1, .int (zI (alM (alOk b n) s))), (2, .int (zI ((s : Nat) : Int))), (4, .int (zI ((a : Nat) : Int)))] : List (Nat × Value))) (by omega : ((a + 1 + j + 1 : Nat) : Int) = ((a + 1 + (j + 1) : Nat) : Int))) ?_
                                    refine x_lv [2, 3, 4, 1, 5, 0] rfl ?_
                                    exact ih64 (j + 1) (by omega) (by omega)
                      refine x_lve (congrArg (fun zz : Int32 => ([(5, .int (zI ((a + 1 : Nat) : Int))), (0, .ref mo), (1, .int (zI (alM (alOk b n) s))), (2, .int (zI ((s : Nat) : Int))), (3, .int zz), (4, .int (zI ((a : Nat) : Int)))] : List (Nat × Value))) (by rw [show ((al && allF (alA b n s) a) && allF (alI b s a) 0) = (al && allF (alA b n s) a) from Bool.and_true _] : (zB (al && allF (alA b n s) a)) = (zB ((al && allF (alA b n s) a) && allF (alI b s a) 0)))) ?_
                      refine x_lve (congrArg (fun zz : Int => ([(5, .int (zI zz)), (0, .ref mo), (1, .int (zI (alM (alOk b n) s))), (2, .int (zI ((s : Nat) : Int))), (3, .int (zB ((al && allF (alA b n s) a) && allF (alI b s a) 0))), (4, .int (zI ((a : Nat) : Int)))] : List (Nat × Value))) (by omega : ((a + 1 : Nat) : Int) = ((a + 1 + 0 : Nat) : Int))) ?_
                      refine x_lv [1, 2, 3, 4, 5, 0] rfl ?_
                      exact L64 _ 0 (by omega) (Nat.lt_succ_self _)
              refine x_lve (congrArg (fun zz : Int32 => ([(4, .int (zI 0)), (0, .ref mo), (1, .int (zI (alM (alOk b n) s))), (2, .int (zI ((s : Nat) : Int))), (3, .int zz)] : List (Nat × Value))) (by rw [show (al && allF (alA b n s) 0) = al from Bool.and_true _] : (zB al) = (zB (al && allF (alA b n s) 0)))) ?_
              refine x_lv [1, 2, 3, 4, 0] rfl ?_
              exact L42 _ 0 (by omega) (Nat.lt_succ_self _)
            refine x_lve (congrArg (fun zz : Int32 => ([(3, .int zz), (0, .ref mo), (1, .int (zI ((u : Nat) : Int))), (2, .int (zI ((s : Nat) : Int)))] : List (Nat × Value))) (rfl : (zI 0) = (zB false))) ?_
            refine x_lve (congrArg (fun zz : Int => ([(3, .int (zB false)), (0, .ref mo), (1, .int (zI zz)), (2, .int (zI ((s : Nat) : Int)))] : List (Nat × Value))) (hu.symm : ((u : Nat) : Int) = alM (alOk b n) s)) ?_
            refine x_lv [1, 2, 3, 0] rfl ?_
            exact L39 false (by rw [hu]; exact (decide_eq_false (fun hh => by rcases hh with hh | hh; exact absurd hh (by omega); rw [Int.toNat_natCast] at hh; omega)).symm)
          · skip
            refine x_iconst 34 rfl dX7_alter_33 (z := 1) (by decide) ?_
            refine x_goto dX7_alter_34 (tgt := 38) (by decide) ?_
            refine x_istore_n 39 rfl (lv' := [(3, .int (zI 1)), (0, .ref mo), (1, .int (zI ((u : Nat) : Int))), (2, .int (zI ((s : Nat) : Int)))]) dX7_alter_38 (by decide) rfl ?_
            have L39 : ∀ (al : Bool) (hal : al = decide ((alM (alOk b n) s) = -1 ∨ pcF s 7 < pcF (Int.toNat (alM (alOk b n) s)) 7)), W_X7_alter G E mo ad qt sc b n d c 39 [(0, .ref mo), (1, .int (zI (alM (alOk b n) s))), (2, .int (zI ((s : Nat) : Int))), (3, .int (zB al))] [] ([(mo, moE ad qt sc), (ad 0, aI G 66 b)]) := by
              intro al hal
              refine x_iconst 40 rfl dX7_alter_39 (z := 0) (by decide) ?_
              refine x_istore 42 rfl (lv' := [(4, .int (zI 0)), (0, .ref mo), (1, .int (zI (alM (alOk b n) s))), (2, .int (zI ((s : Nat) : Int))), (3, .int (zB al))]) dX7_alter_40 (by decide) rfl ?_
              have L42 : ∀ (f42 : Nat) (a : Nat) (ha : a ≤ n), n - a < f42 → W_X7_alter G E mo ad qt sc b n d c 42 [(0, .ref mo), (1, .int (zI (alM (alOk b n) s))), (2, .int (zI ((s : Nat) : Int))), (3, .int (zB (al && allF (alA b n s) a))), (4, .int (zI ((a : Nat) : Int)))] [] ([(mo, moE ad qt sc), (ad 0, aI G 66 b)]) := by
                intro f42
                induction f42 with
                | zero => intro a ha hf42; exact absurd hf42 (Nat.not_lt_zero _)
                | succ f42 ih42 =>
                  intro a ha hf42
                  refine x_iload 44 rfl dX7_alter_42 4 rfl ?_
                  refine x_aload_n 45 rfl dX7_alter_44 0 rfl ?_
                  refine x_get 48 rfl 0 0 rfl rfl (by decide) inX7_alter_X7 flX7_alter_7 rfl dX7_alter_45 ?_
                  refine x_bipush 50 rfl dX7_alter_48 (z := 15) (by decide) ?_
                  refine x_iald 51 rfl 1 15 rfl (⟨by omega, by omega⟩) (by decide) (v := ((n : Nat) : Int)) (hn) dX7_alter_50 ?_
                  refine x_icmp_ge 54 rfl (tgt := 143) dX7_alter_51 (by decide) (by omega) (by omega) (fun h51 => ?_) (fun h51 => ?_)
                  · skip
                    have hfin : (al && allF (alA b n s) a) = (al && alOk b n s) := by rw [show a = n by omega]; rfl
                    refine x_iload_n 144 rfl dX7_alter_143 3 rfl ?_
                    refine x_bif_eq 147 rfl (tgt := 151) dX7_alter_144 (by decide) (fun h144 => ?_) (fun h144 => ?_)
                    · skip
                      refine x_iload_n 152 rfl dX7_alter_151 1 rfl ?_
                      refine x_istore_n 153 rfl (lv' := [(1, .int (zI (alM (alOk b n) s))), (0, .ref mo), (2, .int (zI ((s : Nat) : Int))), (3, .int (zB (al && allF (alA b n s) a))), (4, .int (zI ((a : Nat) : Int)))]) dX7_alter_152 (by decide) rfl ?_
                      refine x_iinc 156 rfl (lv' := [(2, .int (zI ((s + 1 : Nat) : Int))), (1, .int (zI (alM (alOk b n) s))), (0, .ref mo), (3, .int (zB (al && allF (alA b n s) a))), (4, .int (zI ((a : Nat) : Int)))]) dX7_alter_153 2 rfl (b := ((s + 1 : Nat) : Int)) (by omega) (by decide) rfl ?_
                      refine x_goto dX7_alter_156 (tgt := 4) (by decide) ?_
                      refine x_lve (congrArg (fun zz : Int => ([(2, .int (zI ((s + 1 : Nat) : Int))), (1, .int (zI zz)), (0, .ref mo), (3, .int (zB (al && allF (alA b n s) a))), (4, .int (zI ((a : Nat) : Int)))] : List (Nat × Value))) (by show _ = alS (alOk b n) s (alM (alOk b n) s); unfold alS; first | (rw [if_pos ⟨by rw [h144, Bool.true_eq, Bool.and_eq_true, hal, decide_eq_true_iff] at hfin; exact hfin.1, by rw [h144, Bool.true_eq, Bool.and_eq_true] at hfin; exact hfin.2⟩]) | (rw [if_neg (fun hh => by rw [h144, hal, decide_eq_true hh.1, hh.2] at hfin; cases hfin)]) : alM (alOk b n) s = alM (alOk b n) (s + 1))) ?_
                      refine x_lv [2, 1, 0] rfl ?_
                      exact ih4 (s + 1) (by omega) (by omega)
                    · skip
                      refine x_iload_n 148 rfl dX7_alter_147 2 rfl ?_
                      refine x_goto dX7_alter_148 (tgt := 152) (by decide) ?_
                      refine x_istore_n 153 rfl (lv' := [(1, .int (zI ((s : Nat) : Int))), (0, .ref mo), (2, .int (zI ((s : Nat) : Int))), (3, .int (zB (al && allF (alA b n s) a))), (4, .int (zI ((a : Nat) : Int)))]) dX7_alter_152 (by decide) rfl ?_
                      refine x_iinc 156 rfl (lv' := [(2, .int (zI ((s + 1 : Nat) : Int))), (1, .int (zI ((s : Nat) : Int))), (0, .ref mo), (3, .int (zB (al && allF (alA b n s) a))), (4, .int (zI ((a : Nat) : Int)))]) dX7_alter_153 2 rfl (b := ((s + 1 : Nat) : Int)) (by omega) (by decide) rfl ?_
                      refine x_goto dX7_alter_156 (tgt := 4) (by decide) ?_
                      refine x_lve (congrArg (fun zz : Int => ([(2, .int (zI ((s + 1 : Nat) : Int))), (1, .int (zI zz)), (0, .ref mo), (3, .int (zB (al && allF (alA b n s) a))), (4, .int (zI ((a : Nat) : Int)))] : List (Nat × Value))) (by show _ = alS (alOk b n) s (alM (alOk b n) s); unfold alS; first | (rw [if_pos ⟨by rw [h144, Bool.true_eq, Bool.and_eq_true, hal, decide_eq_true_iff] at hfin; exact hfin.1, by rw [h144, Bool.true_eq, Bool.and_eq_true] at hfin; exact hfin.2⟩]) | (rw [if_neg (fun hh => by rw [h144, hal, decide_eq_true hh.1, hh.2] at hfin; cases hfin)]) : ((s : Nat) : Int) = alM (alOk b n) (s + 1))) ?_
                      refine x_lv [2, 1, 0] rfl ?_
                      exact ih4 (s + 1) (by omega) (by omega)
                  · skip
                    refine x_iload_n 55 rfl dX7_alter_54 3 rfl ?_
                    refine x_bif_eq 58 rfl (tgt := 143) dX7_alter_55 (by decide) (fun h55 => ?_) (fun h55 => ?_)
                    · skip
                      have hfin : (al && allF (alA b n s) a) = (al && alOk b n s) := by rw [h55]; cases hq : al with | false => rfl | true => rw [hq] at h55; exact (allF_mono (n := n) ha h55).symm
                      refine x_iload_n 144 rfl dX7_alter_143 3 rfl ?_
                      refine x_bif_eq 147 rfl (tgt := 151) dX7_alter_144 (by decide) (fun h144 => ?_) (fun h144 => ?_)
                      · skip
                        refine x_iload_n 152 rfl dX7_alter_151 1 rfl ?_
                        refine x_istore_n 153 rfl (lv' := [(1, .int (zI (alM (alOk b n) s))), (0, .ref mo), (2, .int (zI ((s : Nat) : Int))), (3, .int (zB (al && allF (alA b n s) a))), (4, .int (zI ((a : Nat) : Int)))]) dX7_alter_152 (by decide) rfl ?_
                        refine x_iinc 156 rfl (lv' := [(2, .int (zI ((s + 1 : Nat) : Int))), (1, .int (zI (alM (alOk b n) s))), (0, .ref mo), (3, .int (zB (al && allF (alA b n s) a))), (4, .int (zI ((a : Nat) : Int)))]) dX7_alter_153 2 rfl (b := ((s + 1 : Nat) : Int)) (by omega) (by decide) rfl ?_
                        refine x_goto dX7_alter_156 (tgt := 4) (by decide) ?_
                        refine x_lve (congrArg (fun zz : Int => ([(2, .int (zI ((s + 1 : Nat) : Int))), (1, .int (zI zz)), (0, .ref mo), (3, .int (zB (al && allF (alA b n s) a))), (4, .int (zI ((a : Nat) : Int)))] : List (Nat × Value))) (by show _ = alS (alOk b n) s (alM (alOk b n) s); unfold alS; first | (rw [if_pos ⟨by rw [h144, Bool.true_eq, Bool.and_eq_true, hal, decide_eq_true_iff] at hfin; exact hfin.1, by rw [h144, Bool.true_eq, Bool.and_eq_true] at hfin; exact hfin.2⟩]) | (rw [if_neg (fun hh => by rw [h144, hal, decide_eq_true hh.1, hh.2] at hfin; cases hfin)]) : alM (alOk b n) s = alM (alOk b n) (s + 1))) ?_
                        refine x_lv [2, 1, 0] rfl ?_
                        exact ih4 (s + 1) (by omega) (by omega)
                      · skip
                        refine x_iload_n 148 rfl dX7_alter_147 2 rfl ?_
                        refine x_goto dX7_alter_148 (tgt := 152) (by decide) ?_
                        refine x_istore_n 153 rfl (lv' := [(1, .int (zI ((s : Nat) : Int))), (0, .ref mo), (2, .int (zI ((s : Nat) : Int))), (3, .int (zB (al && allF (alA b n s) a))), (4, .int (zI ((a : Nat) : Int)))]) dX7_alter_152 (by decide) rfl ?_
                        refine x_iinc 156 rfl (lv' := [(2, .int (zI ((s + 1 : Nat) : Int))), (1, .int (zI ((s : Nat) : Int))), (0, .ref mo), (3, .int (zB (al && allF (alA b n s) a))), (4, .int (zI ((a : Nat) : Int)))]) dX7_alter_153 2 rfl (b := ((s + 1 : Nat) : Int)) (by omega) (by decide) rfl ?_
                        refine x_goto dX7_alter_156 (tgt := 4) (by decide) ?_
                        refine x_lve (congrArg (fun zz : Int => ([(2, .int (zI ((s + 1 : Nat) : Int))), (1, .int (zI zz)), (0, .ref mo), (3, .int (zB (al && allF (alA b n s) a))), (4, .int (zI ((a : Nat) : Int)))] : List (Nat × Value))) (by show _ = alS (alOk b n) s (alM (alOk b n) s); unfold alS; first | (rw [if_pos ⟨by rw [h144, Bool.true_eq, Bool.and_eq_true, hal, decide_eq_true_iff] at hfin; exact hfin.1, by rw [h144, Bool.true_eq, Bool.and_eq_true] at hfin; exact hfin.2⟩]) | (rw [if_neg (fun hh => by rw [h144, hal, decide_eq_true hh.1, hh.2] at hfin; cases hfin)]) : ((s : Nat) : Int) = alM (alOk b n) (s + 1))) ?_
                        refine x_lv [2, 1, 0] rfl ?_
                        exact ih4 (s + 1) (by omega) (by omega)
                    · skip
                      refine x_iload 60 rfl dX7_alter_58 4 rfl ?_
                      refine x_iconst 61 rfl dX7_alter_60 (z := 1) (by decide) ?_
                      refine x_iadd 62 rfl dX7_alter_61 (z := ((a + 1 : Nat) : Int)) (by omega) ?_
                      refine x_istore 64 rfl (lv' := [(5, .int (zI ((a + 1 : Nat) : Int))), (0, .ref mo), (1, .int (zI (alM (alOk b n) s))), (2, .int (zI ((s : Nat) : Int))), (3, .int (zB (al && allF (alA b n s) a))), (4, .int (zI ((a : Nat) : Int)))]) dX7_alter_62 (by decide) rfl ?_
                      have L64 : ∀ (f64 : Nat) (j : Nat) (hj : a + 1 + j ≤ n), n - j < f64 → W_X7_alter G E mo ad qt sc b n d c 64 [(0, .ref mo), (1, .int (zI (alM (alOk b n) s))), (2, .int (zI ((s : Nat) : Int))), (3, .int (zB ((al && allF (alA b n s) a) && allF (alI b s a) j))), (4, .int (zI ((a : Nat) : Int))), (5, .int (zI ((a + 1 + j : Nat) : Int)))] [] ([(mo, moE ad qt sc), (ad 0, aI G 66 b)]) := by
                        intro f64
                        induction f64 with
                        | zero => intro j hj hf64; exact absurd hf64 (Nat.not_lt_zero _)
                        | succ f64 ih64 =>
                          intro j hj hf64
                          refine x_iload 66 rfl dX7_alter_64 5 rfl ?_
                          refine x_aload_n 67 rfl dX7_alter_66 0 rfl ?_
                          refine x_get 70 rfl 0 0 rfl rfl (by decide) inX7_alter_X7 flX7_alter_7 rfl dX7_alter_67 ?_
                          refine x_bipush 72 rfl dX7_alter_70 (z := 15) (by decide) ?_
                          refine x_iald 73 rfl 1 15 rfl (⟨by omega, by omega⟩) (by decide) (v := ((n : Nat) : Int)) (hn) dX7_alter_72 ?_
                          refine x_icmp_ge 76 rfl (tgt := 137) dX7_alter_73 (by decide) (by omega) (by omega) (fun h73 => ?_) (fun h73 => ?_)
                          · skip
                            refine x_iinc 140 rfl (lv' := [(4, .int (zI ((a + 1 : Nat) : Int))), (0, .ref mo), (1, .int (zI (alM (alOk b n) s))), (2, .int (zI ((s : Nat) : Int))), (3, .int (zB ((al && allF (alA b n s) a) && allF (alI b s a) j))), (5, .int (zI ((a + 1 + j : Nat) : Int)))]) dX7_alter_137 4 rfl (b := ((a + 1 : Nat) : Int)) (by omega) (by decide) rfl ?_
                            refine x_goto dX7_alter_140 (tgt := 42) (by decide) ?_
                            refine x_lve (congrArg (fun zz : Int32 => ([(4, .int (zI ((a + 1 : Nat) : Int))), (0, .ref mo), (1, .int (zI (alM (alOk b n) s))), (2, .int (zI ((s : Nat) : Int))), (3, .int zz), (5, .int (zI ((a + 1 + j : Nat) : Int)))] : List (Nat × Value))) (by rw [show j = n - (a + 1) by omega, Bool.and_assoc]; rfl : (zB ((al && allF (alA b n s) a) && allF (alI b s a) j)) = (zB (al && allF (alA b n s) (a + 1))))) ?_
                            refine x_lv [1, 2, 3, 4, 0] rfl ?_
                            exact ih42 (a + 1) (by omega) (by omega)
                          · skip
                            refine x_iload_n 77 rfl dX7_alter_76 3 rfl ?_
                            refine x_bif_eq 80 rfl (tgt := 129) dX7_alter_77 (by decide) (fun h77 => ?_) (fun h77 => ?_)
                            · skip
                              refine x_iconst 130 rfl dX7_alter_129 (z := 0) (by decide) ?_
                              refine x_istore_n 131 rfl (lv' := [(3, .int (zI 0)), (0, .ref mo), (1, .int (zI (alM (alOk b n) s))), (2, .int (zI ((s : Nat) : Int))), (4, .int (zI ((a : Nat) : Int))), (5, .int (zI ((a + 1 + j : Nat) : Int)))]) dX7_alter_130 (by decide) rfl ?_
                              refine x_iinc 134 rfl (lv' := [(5, .int (zI ((a + 1 + j + 1 : Nat) : Int))), (3, .int (zI 0)), (0, .ref mo), (1, .int (zI (alM (alOk b n) s))), (2, .int (zI ((s : Nat) : Int))), (4, .int (zI ((a : Nat) : Int)))]) dX7_alter_131 5 rfl (b := ((a + 1 + j + 1 : Nat) : Int)) (by omega) (by decide) rfl ?_
                              refine x_goto dX7_alter_134 (tgt := 64) (by decide) ?_
                              refine x_lve (congrArg (fun zz : Int32 => ([(5, .int (zI ((a + 1 + j + 1 : Nat) : Int))), (3, .int zz), (0, .ref mo), (1, .int (zI (alM (alOk b n) s))), (2, .int (zI ((s : Nat) : Int))), (4, .int (zI ((a : Nat) : Int)))] : List (Nat × Value))) (zB_f (andF_f1 h77) : (zI 0) = (zB ((al && allF (alA b n s) a) && allF (alI b s a) (j + 1))))) ?_
                              refine x_lve (congrArg (fun zz : Int => ([(5, .int (zI zz)), (3, .int (zB ((al && allF (alA b n s) a) && allF (alI b s a) (j + 1)))), (0, .ref mo), (1, .int (zI (alM (alOk b n) s))), (2, .int (zI ((s : Nat) : Int))), (4, .int (zI ((a : Nat) : Int)))] : List (Nat × Value))) (by omega : ((a + 1 + j + 1 : Nat) : Int) = ((a + 1 + (j + 1) : Nat) : Int))) ?_
                              refine x_lv [2, 3, 4, 1, 5, 0] rfl ?_
                              exact ih64 (j + 1) (by omega) (by omega)
                            · skip
                              refine x_iload_n 81 rfl dX7_alter_80 2 rfl ?_
                              refine x_iload 83 rfl dX7_alter_81 4 rfl ?_
                              obtain ⟨v1, hv1⟩ : ∃ v, v = s / 2 ^ a := ⟨_, rfl⟩
                              have hv2 : v1 ≤ s := by rw [hv1]; exact Nat.div_le_self _ _
                              refine x_ishr 84 rfl dX7_alter_83 (z := ((s / 2 ^ a : Nat) : Int)) (zI_shr (t := s) (i := a) (by omega) (by omega)) ?_
                              refine x_iconst 85 rfl dX7_alter_84 (z := 1) (by decide) ?_
                              refine x_iand 86 rfl dX7_alter_85 (z := ((s / 2 ^ a % 2 : Nat) : Int)) (zI_and1 (t := s / 2 ^ a) (by omega)) ?_
                              refine x_iconst 87 rfl dX7_alter_86 (z := 1) (by decide) ?_
                              refine x_icmp_eq 90 rfl (tgt := 125) dX7_alter_87 (by decide) (by omega) (by decide) (fun h87 => ?_) (fun h87 => ?_)
                              · skip
                                refine x_iconst 126 rfl dX7_alter_125 (z := 1) (by decide) ?_
                                refine x_goto dX7_alter_126 (tgt := 130) (by decide) ?_
                                refine x_istore_n 131 rfl (lv' := [(3, .int (zI 1)), (0, .ref mo), (1, .int (zI (alM (alOk b n) s))), (2, .int (zI ((s : Nat) : Int))), (4, .int (zI ((a : Nat) : Int))), (5, .int (zI ((a + 1 + j : Nat) : Int)))]) dX7_alter_130 (by decide) rfl ?_
                                refine x_iinc 134 rfl (lv' := [(5, .int (zI ((a + 1 + j + 1 : Nat) : Int))), (3, .int (zI 1)), (0, .ref mo), (1, .int (zI (alM (alOk b n) s))), (2, .int (zI ((s : Nat) : Int))), (4, .int (zI ((a : Nat) : Int)))]) dX7_alter_131 5 rfl (b := ((a + 1 + j + 1 : Nat) : Int)) (by omega) (by decide) rfl ?_
                                refine x_goto dX7_alter_134 (tgt := 64) (by decide) ?_
                                refine x_lve (congrArg (fun zz : Int32 => ([(5, .int (zI ((a + 1 + j + 1 : Nat) : Int))), (3, .int zz), (0, .ref mo), (1, .int (zI (alM (alOk b n) s))), (2, .int (zI ((s : Nat) : Int))), (4, .int (zI ((a : Nat) : Int)))] : List (Nat × Value))) (zB_t (andF_t h77 (alI_1 (by omega))) : (zI 1) = (zB ((al && allF (alA b n s) a) && allF (alI b s a) (j + 1))))) ?_
                                refine x_lve (congrArg (fun zz : Int => ([(5, .int (zI zz)), (3, .int (zB ((al && allF (alA b n s) a) && allF (alI b s a) (j + 1)))), (0, .ref mo), (1, .int (zI (alM (alOk b n) s))), (2, .int (zI ((s : Nat) : Int))), (4, .int (zI ((a : Nat) : Int)))] : List (Nat × Value))) (by omega : ((a + 1 + j + 1 : Nat) : Int) = ((a + 1 + (j + 1) : Nat) : Int))) ?_
                                refine x_lv [2, 3, 4, 1, 5, 0] rfl ?_
                                exact ih64 (j + 1) (by omega) (by omega)
                              · skip
                                refine x_iload_n 91 rfl dX7_alter_90 2 rfl ?_
                                refine x_iload 93 rfl dX7_alter_91 5 rfl ?_
                                obtain ⟨v3, hv3⟩ : ∃ v, v = s / 2 ^ (a + 1 + j) := ⟨_, rfl⟩
                                have hv4 : v3 ≤ s := by rw [hv3]; exact Nat.div_le_self _ _
                                refine x_ishr 94 rfl dX7_alter_93 (z := ((s / 2 ^ (a + 1 + j) : Nat) : Int)) (zI_shr (t := s) (i := (a + 1 + j)) (by omega) (by omega)) ?_
                                refine x_iconst 95 rfl dX7_alter_94 (z := 1) (by decide) ?_
                                refine x_iand 96 rfl dX7_alter_95 (z := ((s / 2 ^ (a + 1 + j) % 2 : Nat) : Int)) (zI_and1 (t := s / 2 ^ (a + 1 + j)) (by omega)) ?_
                                refine x_iconst 97 rfl dX7_alter_96 (z := 1) (by decide) ?_
                                refine x_icmp_eq 100 rfl (tgt := 125) dX7_alter_97 (by decide) (by omega) (by decide) (fun h97 => ?_) (fun h97 => ?_)
                                · skip
                                  refine x_iconst 126 rfl dX7_alter_125 (z := 1) (by decide) ?_
                                  refine x_goto dX7_alter_126 (tgt := 130) (by decide) ?_
                                  refine x_istore_n 131 rfl (lv' := [(3, .int (zI 1)), (0, .ref mo), (1, .int (zI (alM (alOk b n) s))), (2, .int (zI ((s : Nat) : Int))), (4, .int (zI ((a : Nat) : Int))), (5, .int (zI ((a + 1 + j : Nat) : Int)))]) dX7_alter_130 (by decide) rfl ?_
                                  refine x_iinc 134 rfl (lv' := [(5, .int (zI ((a + 1 + j + 1 : Nat) : Int))), (3, .int (zI 1)), (0, .ref mo), (1, .int (zI (alM (alOk b n) s))), (2, .int (zI ((s : Nat) : Int))), (4, .int (zI ((a : Nat) : Int)))]) dX7_alter_131 5 rfl (b := ((a + 1 + j + 1 : Nat) : Int)) (by omega) (by decide) rfl ?_
                                  refine x_goto dX7_alter_134 (tgt := 64) (by decide) ?_
                                  refine x_lve (congrArg (fun zz : Int32 => ([(5, .int (zI ((a + 1 + j + 1 : Nat) : Int))), (3, .int zz), (0, .ref mo), (1, .int (zI (alM (alOk b n) s))), (2, .int (zI ((s : Nat) : Int))), (4, .int (zI ((a : Nat) : Int)))] : List (Nat × Value))) (zB_t (andF_t h77 (alI_2 (by omega))) : (zI 1) = (zB ((al && allF (alA b n s) a) && allF (alI b s a) (j + 1))))) ?_
                                  refine x_lve (congrArg (fun zz : Int => ([(5, .int (zI zz)), (3, .int (zB ((al && allF (alA b n s) a) && allF (alI b s a) (j + 1)))), (0, .ref mo), (1, .int (zI (alM (alOk b n) s))), (2, .int (zI ((s : Nat) : Int))), (4, .int (zI ((a : Nat) : Int)))] : List (Nat × Value))) (by omega : ((a + 1 + j + 1 : Nat) : Int) = ((a + 1 + (j + 1) : Nat) : Int))) ?_
                                  refine x_lv [2, 3, 4, 1, 5, 0] rfl ?_
                                  exact ih64 (j + 1) (by omega) (by omega)
                                · skip
                                  refine x_aload_n 101 rfl dX7_alter_100 0 rfl ?_
                                  refine x_iload 103 rfl dX7_alter_101 4 rfl ?_
                                  refine x_aload_n 104 rfl dX7_alter_103 0 rfl ?_
                                  refine x_iload 106 rfl dX7_alter_104 4 rfl ?_
                                  refine x_iconst 107 rfl dX7_alter_106 (z := 1) (by decide) ?_
                                  refine x_callV 110 rfl (c_X7_of G mo ad qt sc b a 1 (by omega) (by omega)) [0, 1] rfl (by decide) 0 rfl rfl gX7_alter_X7_of rfl rfl rfl hd_X7_of ⟨Nat.le_of_ble_eq_true rfl, Nat.le_of_ble_eq_true rfl⟩ (As := [.int (zI ((a : Nat) : Int)), .int (zI 1)]) (rest := [.int (zI ((a : Nat) : Int)), .ref mo]) rfl rfl (Nat.le_of_ble_eq_true rfl) dX7_alter_107 ⟨Nat.zero_le _, Nat.zero_le _⟩ (fun v w hq => ?_)
                                  obtain ⟨rfl, rfl⟩ := hq
                                  refine ⟨rfl, ?_⟩
                                  refine x_ws (ws' := [(mo, moE ad qt sc), (ad 0, aI G 66 b)]) (rfl) ?_
                                  refine x_int (congrArg zI ((I.t (by omega)).1 : b (18 + 4 * a + 1) = ((tN b a : Nat) : Int))) ?_
                                  refine x_iload 112 rfl dX7_alter_110 5 rfl ?_
                                  refine x_aload_n 113 rfl dX7_alter_112 0 rfl ?_
                                  refine x_iload 115 rfl dX7_alter_113 5 rfl ?_
                                  refine x_iconst 116 rfl dX7_alter_115 (z := 1) (by decide) ?_
                                  refine x_callV 119 rfl (c_X7_of G mo ad qt sc b (a + 1 + j) 1 (by omega) (by omega)) [0, 1] rfl (by decide) 0 rfl rfl gX7_alter_X7_of rfl rfl rfl hd_X7_of ⟨Nat.le_of_ble_eq_true rfl, Nat.le_of_ble_eq_true rfl⟩ (As := [.int (zI ((a + 1 + j : Nat) : Int)), .int (zI 1)]) (rest := [.int (zI ((a + 1 + j : Nat) : Int)), .int (zI ((tN b a : Nat) : Int)), .int (zI ((a : Nat) : Int)), .ref mo]) rfl rfl (Nat.le_of_ble_eq_true rfl) dX7_alter_116 ⟨Nat.zero_le _, Nat.zero_le _⟩ (fun v w hq => ?_)
                                  obtain ⟨rfl, rfl⟩ := hq
                                  refine ⟨rfl, ?_⟩
                                  refine x_ws (ws' := [(mo, moE ad qt sc), (ad 0, aI G 66 b)]) (rfl) ?_
                                  refine x_int (congrArg zI ((I.t (by omega)).1 : b (18 + 4 * (a + 1 + j) + 1) = ((tN b (a + 1 + j) : Nat) : Int))) ?_
                                  refine x_callV 122 rfl (c_X7_clashes G mo ad qt sc b n d c I a (tN b a) (a + 1 + j) (tN b (a + 1 + j)) (by omega) (I.t (by omega)).2 (by omega) (I.t (by omega)).2) [0, 1] rfl (by decide) 0 rfl rfl gX7_alter_X7_clashes rfl rfl rfl hd_X7_clashes ⟨Nat.le_of_ble_eq_true rfl, Nat.le_of_ble_eq_true rfl⟩ (As := [.int (zI ((a : Nat) : Int)), .int (zI ((tN b a : Nat) : Int)), .int (zI ((a + 1 + j : Nat) : Int)), .int (zI ((tN b (a + 1 + j) : Nat) : Int))]) (rest := []) rfl rfl (Nat.le_of_ble_eq_true rfl) dX7_alter_119 ⟨Nat.zero_le _, Nat.zero_le _⟩ (fun v w hq => ?_)
                                  obtain ⟨rfl, rfl⟩ := hq
                                  refine ⟨rfl, ?_⟩
                                  refine x_ws (ws' := [(mo, moE ad qt sc), (ad 0, aI G 66 b)]) (rfl) ?_
                                  refine x_bif_ne 125 rfl (tgt := 129) dX7_alter_122 (by decide) (fun h122 => ?_) (fun h122 => ?_)
                                  · skip
                                    have h122 : clP b a (a + 1 + j) = true := h122
                                    refine x_iconst 130 rfl dX7_alter_129 (z := 0) (by decide) ?_
                                    refine x_istore_n 131 rfl (lv' := [(3, .int (zI 0)), (0, .ref mo), (1, .int (zI (alM (alOk b n) s))), (2, .int (zI ((s : Nat) : Int))), (4, .int (zI ((a : Nat) : Int))), (5, .int (zI ((a + 1 + j : Nat) : Int)))]) dX7_alter_130 (by decide) rfl ?_
                                    refine x_iinc 134 rfl (lv' := [(5, .int (zI ((a + 1 + j + 1 : Nat) : Int))), (3, .int (zI 0)), (0, .ref mo), (1, .int (zI (alM (alOk b n) s))), (2, .int (zI ((s : Nat) : Int))), (4, .int (zI ((a : Nat) : Int)))]) dX7_alter_131 5 rfl (b := ((a + 1 + j + 1 : Nat) : Int)) (by omega) (by decide) rfl ?_
                                    refine x_goto dX7_alter_134 (tgt := 64) (by decide) ?_
                                    refine x_lve (congrArg (fun zz : Int32 => ([(5, .int (zI ((a + 1 + j + 1 : Nat) : Int))), (3, .int zz), (0, .ref mo), (1, .int (zI (alM (alOk b n) s))), (2, .int (zI ((s : Nat) : Int))), (4, .int (zI ((a : Nat) : Int)))] : List (Nat × Value))) (zB_f (andF_f2 (alI_0 (by omega) (by omega) h122)) : (zI 0) = (zB ((al && allF (alA b n s) a) && allF (alI b s a) (j + 1))))) ?_
                                    refine x_lve (congrArg (fun zz : Int => ([(5, .int (zI zz)), (3, .int (zB ((al && allF (alA b n s) a) && allF (alI b s a) (j + 1)))), (0, .ref mo), (1, .int (zI (alM (alOk b n) s))), (2, .int (zI ((s : Nat) : Int))), (4, .int (zI ((a : Nat) : Int)))] : List (Nat × Value))) (by omega : ((a + 1 + j + 1 : Nat) : Int) = ((a + 1 + (j + 1) : Nat) : Int))) ?_
                                    refine x_lv [2, 3, 4, 1, 5, 0] rfl ?_
                                    exact ih64 (j + 1) (by omega) (by omega)
                                  · skip
                                    have h122 : clP b a (a + 1 + j) = false := h122
                                    refine x_iconst 126 rfl dX7_alter_125 (z := 1) (by decide) ?_
                                    refine x_goto dX7_alter_126 (tgt := 130) (by decide) ?_
                                    refine x_istore_n 131 rfl (lv' := [(3, .int (zI 1)), (0, .ref mo), (1, .int (zI (alM (alOk b n) s))), (2, .int (zI ((s : Nat) : Int))), (4, .int (zI ((a : Nat) : Int))), (5, .int (zI ((a + 1 + j : Nat) : Int)))]) dX7_alter_130 (by decide) rfl ?_
                                    refine x_iinc 134 rfl (lv' := [(5, .int (zI ((a + 1 + j + 1 : Nat) : Int))), (3, .int (zI 1)), (0, .ref mo), (1, .int (zI (alM (alOk b n) s))), (2, .int (zI ((s : Nat) : Int))), (4, .int (zI ((a : Nat) : Int)))]) dX7_alter_131 5 rfl (b := ((a + 1 + j + 1 : Nat) : Int)) (by omega) (by decide) rfl ?_
                                    refine x_goto dX7_alter_134 (tgt := 64) (by decide) ?_
                                    refine x_lve (congrArg (fun zz : Int32 => ([(5, .int (zI ((a + 1 + j + 1 : Nat) : Int))), (3, .int zz), (0, .ref mo), (1, .int (zI (alM (alOk b n) s))), (2, .int (zI ((s : Nat) : Int))), (4, .int (zI ((a : Nat) : Int)))] : List (Nat × Value))) (zB_t (andF_t h77 (alI_3 h122)) : (zI 1) = (zB ((al && allF (alA b n s) a) && allF (alI b s a) (j + 1))))) ?_
                                    refine x_lve (congrArg (fun zz : Int => ([(5, .int (zI zz)), (3, .int (zB ((al && allF (alA b n s) a) && allF (alI b s a) (j + 1)))), (0, .ref mo), (1, .int (zI (alM (alOk b n) s))), (2, .int (zI ((s : Nat) : Int))), (4, .int (zI ((a : Nat) : Int)))] : List (Nat × Value))) (by omega : ((a + 1 + j + 1 : Nat) : Int) = ((a + 1 + (j + 1) : Nat) : Int))) ?_
                                    refine x_lv [2, 3, 4, 1, 5, 0] rfl ?_
                                    exact ih64 (j + 1) (by omega) (by omega)
                      refine x_lve (congrArg (fun zz : Int32 => ([(5, .int (zI ((a + 1 : Nat) : Int))), (0, .ref mo), (1, .int (zI (alM (alOk b n) s))), (2, .int (zI ((s : Nat) : Int))), (3, .int zz), (4, .int (zI ((a : Nat) : Int)))] : List (Nat × Value))) (by rw [show ((al && allF (alA b n s) a) && allF (alI b s a) 0) = (al && allF (alA b n s) a) from Bool.and_true _] : (zB (al && allF (alA b n s) a)) = (zB ((al && allF (alA b n s) a) && allF (alI b s a) 0)))) ?_
                      refine x_lve (congrArg (fun zz : Int => ([(5, .int (zI zz)), (0, .ref mo), (1, .int (zI (alM (alOk b n) s))), (2, .int (zI ((s : Nat) : Int))), (3, .int (zB ((al && allF (alA b n s) a) && allF (alI b s a) 0))), (4, .int (zI ((a : Nat) : Int)))] : List (Nat × Value))) (by omega : ((a + 1 : Nat) : Int) = ((a + 1 + 0 : Nat) : Int))) ?_
                      refine x_lv [1, 2, 3, 4, 5, 0] rfl ?_
                      exact L64 _ 0 (by omega) (Nat.lt_succ_self _)
              refine x_lve (congrArg (fun zz : Int32 => ([(4, .int (zI 0)), (0, .ref mo), (1, .int (zI (alM (alOk b n) s))), (2, .int (zI ((s : Nat) : Int))), (3, .int zz)] : List (Nat × Value))) (by rw [show (al && allF (alA b n s) 0) = al from Bool.and_true _] : (zB al) = (zB (al && allF (alA b n s) 0)))) ?_
              refine x_lv [1, 2, 3, 4, 0] rfl ?_
              exact L42 _ 0 (by omega) (Nat.lt_succ_self _)
            refine x_lve (congrArg (fun zz : Int32 => ([(3, .int zz), (0, .ref mo), (1, .int (zI ((u : Nat) : Int))), (2, .int (zI ((s : Nat) : Int)))] : List (Nat × Value))) (rfl : (zI 1) = (zB true))) ?_
            refine x_lve (congrArg (fun zz : Int => ([(3, .int (zB true)), (0, .ref mo), (1, .int (zI zz)), (2, .int (zI ((s : Nat) : Int)))] : List (Nat × Value))) (hu.symm : ((u : Nat) : Int) = alM (alOk b n) s)) ?_
            refine x_lv [1, 2, 3, 0] rfl ?_
            exact L39 true (by rw [hu]; exact (decide_eq_true (Or.inr (by show pcF s 7 < pcF (Int.toNat (u : Int)) 7; rw [Int.toNat_natCast]; omega))).symm)
  refine x_lve (congrArg (fun zz : Int => ([(2, .int (zI 0)), (1, .int (zI zz)), (0, .ref mo)] : List (Nat × Value))) (rfl : (-1) = alM (alOk b n) 0)) ?_
  refine x_lv [2, 1, 0] rfl ?_
  exact L4 _ 0 (Nat.zero_le _) (Nat.lt_succ_self _)

abbrev P_X7_takes (G : XG) (mo : Nat) (ad : Nat → Nat) (qt : Bool) (sc : Nat → Int) (b : Nat → Int) (n : Nat) (d : Nat) (c : Nat) (x : Nat) (y : Nat) (wind : Nat) : Option Value → va_W → Prop := fun r ws => r = some (.int (zI ((taN b n wind x y : Nat) : Int))) ∧ ws = [(mo, moE ad qt sc), (ad 0, aI G 66 b)]
abbrev W_X7_takes (G : XG) (E : XE) (mo : Nat) (ad : Nat → Nat) (qt : Bool) (sc : Nat → Int) (b : Nat → Int) (n : Nat) (d : Nat) (c : Nat) (x : Nat) (y : Nat) (wind : Nat) (pc : Nat) (lv : List (Nat × Value)) (st : List Value) (ws : va_W) : Prop := Wx G E (rmL 5) cX7_takes 5 RX7 wsX7_takes (some .int) "takes" 0 0 (P_X7_takes G mo ad qt sc b n d c x y wind) 0 0 pc lv st ws
theorem wX7_takes_ci225 : Cond.constant RX7 225 (zI 100000) ∈ wsX7_takes := by decide +kernel
set_option maxHeartbeats 4000000 in
set_option maxRecDepth 100000 in
/-- takes -/
theorem c_X7_takes (G : XG) (mo : Nat) (ad : Nat → Nat) (qt : Bool) (sc : Nat → Int) (b : Nat → Int) (n d c : Nat) (I : Inv b n d c) (x y wind : Nat) (hx : x < n) (hy : y < n) (hw : wind < 4) : Con G yX7_takes wsX7_takes (rmL 5) 0 0 [.ref mo, .int (zI ((x : Nat) : Int)), .int (zI ((y : Nat) : Int)), .int (zI ((wind : Nat) : Int))] ([(mo, moE ad qt sc), (ad 0, aI G 66 b)]) (P_X7_takes G mo ad qt sc b n d c x y wind) := by
  refine x_start (cc := cX7_takes) (nL := 5) (ret := (some .int)) (by decide) rfl (Nat.le_of_ble_eq_true rfl) (fun E => ?_)
  show W_X7_takes G E mo ad qt sc b n d c x y wind 0 [(0, .ref mo), (1, .int (zI ((x : Nat) : Int))), (2, .int (zI ((y : Nat) : Int))), (3, .int (zI ((wind : Nat) : Int)))] [] ([(mo, moE ad qt sc), (ad 0, aI G 66 b)])
  have hn := I.n1
  have hn7 := I.n7
  refine x_iload_n 1 rfl dX7_takes_0 1 rfl ?_
  refine x_iload_n 2 rfl dX7_takes_1 2 rfl ?_
  refine x_icmp_eq 5 rfl (tgt := 38) dX7_takes_2 (by decide) (by omega) (by omega) (fun h2 => ?_) (fun h2 => ?_)
  · skip
    refine x_iconst 39 rfl dX7_takes_38 (z := 0) (by decide) ?_
    refine x_istore 41 rfl (lv' := [(4, .int (zI 0)), (0, .ref mo), (1, .int (zI ((x : Nat) : Int))), (2, .int (zI ((y : Nat) : Int))), (3, .int (zI ((wind : Nat) : Int)))]) dX7_takes_39 (by decide) rfl ?_
    refine x_iload 43 rfl dX7_takes_41 0 rfl ?_
    refine x_if_eq 46 rfl (tgt := 58) dX7_takes_43 (by decide) (by omega) (fun h43 => ?_) (fun h43 => ?_)
    · skip
      refine x_ldc 60 rfl (v := zI 100000) wX7_takes_ci225 dX7_takes_58 ?_
      refine x_iret rfl ?_ dX7_takes_60
      have e : taN b n wind x y = 100000 := by unfold taN cbN; exact if_neg (by simp only [Bool.and_eq_true, decide_eq_true_eq]; omega)
      exact ⟨by rw [e]; rfl, rfl⟩
    · skip
      exact absurd h43 (by decide)
  · skip
    refine x_aload_n 6 rfl dX7_takes_5 0 rfl ?_
    refine x_aload_n 7 rfl dX7_takes_6 0 rfl ?_
    refine x_iload_n 8 rfl dX7_takes_7 1 rfl ?_
    refine x_iconst 9 rfl dX7_takes_8 (z := 2) (by decide) ?_
    refine x_callV 12 rfl (c_X7_of G mo ad qt sc b x 2 (by omega) (by omega)) [0, 1] rfl (by decide) 0 rfl rfl gX7_takes_X7_of rfl rfl rfl hd_X7_of ⟨Nat.le_of_ble_eq_true rfl, Nat.le_of_ble_eq_true rfl⟩ (As := [.int (zI ((x : Nat) : Int)), .int (zI 2)]) (rest := [.ref mo]) rfl rfl (Nat.le_of_ble_eq_true rfl) dX7_takes_9 ⟨Nat.zero_le _, Nat.zero_le _⟩ (fun v w hq => ?_)
    obtain ⟨rfl, rfl⟩ := hq
    refine ⟨rfl, ?_⟩
    refine x_ws (ws' := [(mo, moE ad qt sc), (ad 0, aI G 66 b)]) (rfl) ?_
    refine x_int (congrArg zI ((I.p (by omega)).1 : b (18 + 4 * x + 2) = ((plN b x : Nat) : Int))) ?_
    refine x_aload_n 13 rfl dX7_takes_12 0 rfl ?_
    refine x_iload_n 14 rfl dX7_takes_13 2 rfl ?_
    refine x_iconst 15 rfl dX7_takes_14 (z := 1) (by decide) ?_
    refine x_callV 18 rfl (c_X7_of G mo ad qt sc b y 1 (by omega) (by omega)) [0, 1] rfl (by decide) 0 rfl rfl gX7_takes_X7_of rfl rfl rfl hd_X7_of ⟨Nat.le_of_ble_eq_true rfl, Nat.le_of_ble_eq_true rfl⟩ (As := [.int (zI ((y : Nat) : Int)), .int (zI 1)]) (rest := [.int (zI ((plN b x : Nat) : Int)), .ref mo]) rfl rfl (Nat.le_of_ble_eq_true rfl) dX7_takes_15 ⟨Nat.zero_le _, Nat.zero_le _⟩ (fun v w hq => ?_)
    obtain ⟨rfl, rfl⟩ := hq
    refine ⟨rfl, ?_⟩
    refine x_ws (ws' := [(mo, moE ad qt sc), (ad 0, aI G 66 b)]) (rfl) ?_
    refine x_int (congrArg zI ((I.t (by omega)).1 : b (18 + 4 * y + 1) = ((tN b y : Nat) : Int))) ?_
    refine x_iload_n 19 rfl dX7_takes_18 3 rfl ?_
    refine x_callV 22 rfl (c_X7_called G mo ad qt sc b n d c I (plN b x) (tN b y) wind ((I.p hx).2) (I.t hy).2 (by omega)) [0, 1] rfl (by decide) 0 rfl rfl gX7_takes_X7_called rfl rfl rfl hd_X7_called ⟨Nat.le_of_ble_eq_true rfl, Nat.le_of_ble_eq_true rfl⟩ (As := [.int (zI ((plN b x : Nat) : Int)), .int (zI ((tN b y : Nat) : Int)), .int (zI ((wind : Nat) : Int))]) (rest := []) rfl rfl (Nat.le_of_ble_eq_true rfl) dX7_takes_19 ⟨Nat.zero_le _, Nat.zero_le _⟩ (fun v w hq => ?_)
    obtain ⟨rfl, rfl⟩ := hq
    refine ⟨rfl, ?_⟩
    refine x_ws (ws' := [(mo, moE ad qt sc), (ad 0, aI G 66 b)]) (rfl) ?_
    have hcl := calN_lt I (plN b x) (tN b y) wind
    obtain ⟨m, hm⟩ : ∃ m, m = calN b n (plN b x) (tN b y) wind &&& (127 - 2 ^ x) := ⟨_, rfl⟩
    have hm2 : m ≤ calN b n (plN b x) (tN b y) wind := by rw [hm]; exact Nat.and_le_left
    refine x_iconst 23 rfl dX7_takes_22 (z := 1) (by decide) ?_
    refine x_iload_n 24 rfl dX7_takes_23 1 rfl ?_
    refine x_ishl 25 rfl dX7_takes_24 (z := ((2 ^ x : Nat) : Int)) (zI_shl1 (i := x) (by omega)) ?_
    refine x_iconst 26 rfl dX7_takes_25 (z := (-1)) (by decide) ?_
    refine x_ixor 27 rfl dX7_takes_26 (z := -1 - ((2 ^ x : Nat) : Int)) (not_i (by omega)) ?_
    refine x_iand 28 rfl dX7_takes_27 (z := ((m : Nat) : Int)) (by rw [hm]; exact clr_i (by omega) (by omega)) ?_
    refine x_iconst 29 rfl dX7_takes_28 (z := 1) (by decide) ?_
    refine x_iload_n 30 rfl dX7_takes_29 2 rfl ?_
    refine x_ishl 31 rfl dX7_takes_30 (z := ((2 ^ y : Nat) : Int)) (zI_shl1 (i := y) (by omega)) ?_
    refine x_icmp_ne 34 rfl (tgt := 38) dX7_takes_31 (by decide) (by omega) (z32_pow (by omega)) (fun h31 => ?_) (fun h31 => ?_)
    · skip
      refine x_iconst 39 rfl dX7_takes_38 (z := 0) (by decide) ?_
      refine x_istore 41 rfl (lv' := [(4, .int (zI 0)), (0, .ref mo), (1, .int (zI ((x : Nat) : Int))), (2, .int (zI ((y : Nat) : Int))), (3, .int (zI ((wind : Nat) : Int)))]) dX7_takes_39 (by decide) rfl ?_
      refine x_iload 43 rfl dX7_takes_41 0 rfl ?_
      refine x_if_eq 46 rfl (tgt := 58) dX7_takes_43 (by decide) (by omega) (fun h43 => ?_) (fun h43 => ?_)
      · skip
        refine x_ldc 60 rfl (v := zI 100000) wX7_takes_ci225 dX7_takes_58 ?_
        refine x_iret rfl ?_ dX7_takes_60
        have e : taN b n wind x y = 100000 := by unfold taN cbN; exact if_neg (by simp only [Bool.and_eq_true, decide_eq_true_eq]; omega)
        exact ⟨by rw [e]; rfl, rfl⟩
      · skip
        exact absurd h43 (by decide)
    · skip
      refine x_iconst 35 rfl dX7_takes_34 (z := 1) (by decide) ?_
      refine x_goto dX7_takes_35 (tgt := 39) (by decide) ?_
      refine x_istore 41 rfl (lv' := [(4, .int (zI 1)), (0, .ref mo), (1, .int (zI ((x : Nat) : Int))), (2, .int (zI ((y : Nat) : Int))), (3, .int (zI ((wind : Nat) : Int)))]) dX7_takes_39 (by decide) rfl ?_
      refine x_iload 43 rfl dX7_takes_41 0 rfl ?_
      refine x_if_eq 46 rfl (tgt := 58) dX7_takes_43 (by decide) (by omega) (fun h43 => ?_) (fun h43 => ?_)
      · skip
        exact absurd h43 (by decide)
      · skip
        refine x_aload_n 47 rfl dX7_takes_46 1 rfl ?_
        refine x_iload_n 48 rfl dX7_takes_47 3 rfl ?_
        refine x_iconst 49 rfl dX7_takes_48 (z := 1) (by decide) ?_
        refine x_callV 52 rfl (c_X7_of G mo ad qt sc b y 1 (by omega) (by omega)) [0, 1] rfl (by decide) 0 rfl rfl gX7_takes_X7_of rfl rfl rfl hd_X7_of ⟨Nat.le_of_ble_eq_true rfl, Nat.le_of_ble_eq_true rfl⟩ (As := [.int (zI ((y : Nat) : Int)), .int (zI 1)]) (rest := []) rfl rfl (Nat.le_of_ble_eq_true rfl) dX7_takes_49 ⟨Nat.zero_le _, Nat.zero_le _⟩ (fun v w hq => ?_)
        obtain ⟨rfl, rfl⟩ := hq
        refine ⟨rfl, ?_⟩
        refine x_ws (ws' := [(mo, moE ad qt sc), (ad 0, aI G 66 b)]) (rfl) ?_
        refine x_int (congrArg zI ((I.t (by omega)).1 : b (18 + 4 * y + 1) = ((tN b y : Nat) : Int))) ?_
        have hv8 := vt_lt (I.t hy).2
        refine x_callS0 55 rfl (c_X7_notes G (tN b y) (by omega)) (fun _ _ h => h.2) gX7_takes_X7_notes rfl rfl rfl hd_X7_notes ⟨Nat.le_of_ble_eq_true rfl, Nat.le_of_ble_eq_true rfl⟩ (As := [.int (zI ((tN b y : Nat) : Int))]) (rest := []) rfl rfl (Nat.le_of_ble_eq_true rfl) dX7_takes_52 ⟨Nat.zero_le _, Nat.zero_le _⟩ (fun v hq => ?_)
        obtain ⟨rfl, -⟩ := hq
        refine x_goto dX7_takes_55 (tgt := 60) (by decide) ?_
        refine x_iret rfl ?_ dX7_takes_60
        have e : taN b n wind x y = notesN (tN b y) := by unfold taN cbN; exact if_pos (by simp only [Bool.and_eq_true, decide_eq_true_eq]; omega)
        exact ⟨by rw [e], rfl⟩

abbrev P_X7_free (G : XG) (mo : Nat) (ad : Nat → Nat) (qt : Bool) (sc : Nat → Int) (b : Nat → Int) (rf : Nat → Int) (n : Nat) (d : Nat) (c : Nat) (p : Int) (year : Int) : Option Value → va_W → Prop := fun r ws => r = some (.int (zI (rC (kF n p year) (frF b n p.toNat year d)))) ∧ ws = [(mo, moE ad qt sc), (ad 0, aI G 66 b), (ad 4, aI G 3 (rfC qt rf (kF n p year)))]
abbrev W_X7_free (G : XG) (E : XE) (mo : Nat) (ad : Nat → Nat) (qt : Bool) (sc : Nat → Int) (b : Nat → Int) (rf : Nat → Int) (n : Nat) (d : Nat) (c : Nat) (p : Int) (year : Int) (pc : Nat) (lv : List (Nat × Value)) (st : List Value) (ws : va_W) : Prop := Wx G E (rmL 7) cX7_free 7 RX7 wsX7_free (some .int) "free" 0 0 (P_X7_free G mo ad qt sc b rf n d c p year) 0 0 pc lv st ws
theorem flX7_free_7 : Cond.fieldLink RX7 7 (TX7 0).1 (TX7 0).2.1 (TX7 0).2.2.1 ∈ wsX7_free := by decide +kernel
theorem inX7_free_X7 : ∀ w ∈ u_ws RX7 TX7 18, w ∈ wsX7_free := fun _ h => List.mem_cons_of_mem _ (List.mem_append_right _ h)
theorem wX7_free_cl124 : Cond.constantLong RX7 124 (zL 99) ∈ wsX7_free := by decide +kernel
set_option maxHeartbeats 4000000 in
set_option maxRecDepth 100000 in
/-- free -/
theorem c_X7_free (G : XG) (mo : Nat) (ad : Nat → Nat) (qt : Bool) (sc : Nat → Int) (b rf : Nat → Int) (n d c : Nat) (I : Inv b n d c) (p year : Int) (h1 : Z32 p) (h2 : Z32 year) : Con G yX7_free wsX7_free (rmL 7) 0 0 [.ref mo, .int (zI p), .int (zI year)] ([(mo, moE ad qt sc), (ad 0, aI G 66 b), (ad 4, aI G 3 rf)]) (P_X7_free G mo ad qt sc b rf n d c p year) := by
  refine x_start (cc := cX7_free) (nL := 7) (ret := (some .int)) (by decide) rfl (Nat.le_of_ble_eq_true rfl) (fun E => ?_)
  show W_X7_free G E mo ad qt sc b rf n d c p year 0 [(0, .ref mo), (1, .int (zI p)), (2, .int (zI year))] [] ([(mo, moE ad qt sc), (ad 0, aI G 66 b), (ad 4, aI G 3 rf)])
  have hn := I.n1
  have hn7 := I.n7
  have hd := I.d1
  have hd6 := I.d6
  have hc := I.c1
  have hc8 := I.c8
  refine x_aload_n 1 rfl dX7_free_0 0 rfl ?_
  refine x_iload_n 2 rfl dX7_free_1 1 rfl ?_
  refine x_callV 5 rfl (c_X7_isOne G mo ad qt sc b n hn (by omega) p (by omega)) [0, 1] rfl (by decide) 0 rfl rfl gX7_free_X7_isOne rfl rfl rfl hd_X7_isOne ⟨Nat.le_of_ble_eq_true rfl, Nat.le_of_ble_eq_true rfl⟩ (As := [.int (zI p)]) (rest := []) rfl rfl (Nat.le_of_ble_eq_true rfl) dX7_free_2 ⟨Nat.zero_le _, Nat.zero_le _⟩ (fun v w hq => ?_)
  obtain ⟨rfl, rfl⟩ := hq
  refine ⟨rfl, ?_⟩
  refine x_ws (ws' := [(mo, moE ad qt sc), (ad 0, aI G 66 b), (ad 4, aI G 3 rf)]) (rfl) ?_
  refine x_bif_eq 8 rfl (tgt := 20) dX7_free_5 (by decide) (fun h5 => ?_) (fun h5 => ?_)
  · have h5 := of_decide_eq_false h5
    refine x_aload_n 21 rfl dX7_free_20 0 rfl ?_
    refine x_callV 24 rfl (c_X7_bad G mo ad qt sc rf) [0, 2] rfl (by decide) 0 rfl rfl gX7_free_X7_bad rfl rfl rfl hd_X7_bad ⟨Nat.le_of_ble_eq_true rfl, Nat.le_of_ble_eq_true rfl⟩ (As := []) (rest := []) rfl rfl (Nat.le_of_ble_eq_true rfl) dX7_free_21 ⟨Nat.zero_le _, Nat.zero_le _⟩ (fun v w hq => ?_)
    obtain ⟨rfl, rfl⟩ := hq
    refine ⟨rfl, ?_⟩
    refine x_ws (ws' := [(mo, moE ad qt sc), (ad 0, aI G 66 b), (ad 4, aI G 3 (rfU qt rf 0))]) (rfl) ?_
    refine x_iret rfl ?_ dX7_free_24
    have hk : kF n p year = 1 := by unfold kF; exact if_neg (fun hh => by first | omega | (simp [*] at hh; done) | (obtain ⟨ha, hb, hc, hd⟩ := hh; first | omega | simp_all) | (obtain ⟨ha, hb, hc⟩ := hh; first | omega | simp_all) | (obtain ⟨ha, hb⟩ := hh; first | omega | simp_all))
    exact ⟨by rw [hk]; rfl, by rw [hk]; rfl⟩
  · have h5 := of_decide_eq_true h5
    refine x_iload_n 9 rfl dX7_free_8 2 rfl ?_
    refine x_i2l 10 rfl dX7_free_9 (z := (zL year)) (zI_i2l (by omega)) ?_
    refine x_lconst 11 rfl dX7_free_10 (z := 0) (by decide) ?_
    refine x_ldc2 14 rfl (v := zL 99) wX7_free_cl124 dX7_free_11 ?_
    refine x_callS0 17 rfl (c_X7_in G year 0 99 (by omega) (by omega) (by decide)) (fun _ _ h => h.2) gX7_free_X7_in rfl rfl rfl hd_X7_in ⟨Nat.le_of_ble_eq_true rfl, Nat.le_of_ble_eq_true rfl⟩ (As := [.long (zL year), .long (zL 0), .long (zL 99)]) (rest := []) rfl rfl (Nat.le_of_ble_eq_true rfl) dX7_free_14 ⟨Nat.zero_le _, Nat.zero_le _⟩ (fun v hq => ?_)
    obtain ⟨rfl, -⟩ := hq
    refine x_bif_ne 20 rfl (tgt := 25) dX7_free_17 (by decide) (fun h17 => ?_) (fun h17 => ?_)
    · have h17 := of_decide_eq_true h17
      obtain ⟨p, rfl⟩ : ∃ zk : Nat, p = (zk : Int) := ⟨Int.toNat p, by omega⟩
      refine x_iconst 26 rfl dX7_free_25 (z := (-1)) (by decide) ?_
      refine x_istore_n 27 rfl (lv' := [(3, .int (zI (-1))), (0, .ref mo), (1, .int (zI ((p : Nat) : Int))), (2, .int (zI year))]) dX7_free_26 (by decide) rfl ?_
      refine x_iconst 28 rfl dX7_free_27 (z := 0) (by decide) ?_
      refine x_istore 30 rfl (lv' := [(4, .int (zI 0)), (3, .int (zI (-1))), (0, .ref mo), (1, .int (zI ((p : Nat) : Int))), (2, .int (zI year))]) dX7_free_28 (by decide) rfl ?_
      have L30 : ∀ (f30 : Nat) (k : Nat) (hk1 : k ≤ d), d - k < f30 → W_X7_free G E mo ad qt sc b rf n d c p year 30 [(0, .ref mo), (1, .int (zI ((p : Nat) : Int))), (2, .int (zI year)), (3, .int (zI (frF b n p year k))), (4, .int (zI ((k : Nat) : Int)))] [] ([(mo, moE ad qt sc), (ad 0, aI G 66 b), (ad 4, aI G 3 rf)]) := by
        intro f30
        induction f30 with
        | zero => intro k hk1 hf30; exact absurd hf30 (Nat.not_lt_zero _)
        | succ f30 ih30 =>
          intro k hk1 hf30
          refine x_iload 32 rfl dX7_free_30 4 rfl ?_
          refine x_aload_n 33 rfl dX7_free_32 0 rfl ?_
          refine x_get 36 rfl 0 0 rfl rfl (by decide) inX7_free_X7 flX7_free_7 rfl dX7_free_33 ?_
          refine x_bipush 38 rfl dX7_free_36 (z := 16) (by decide) ?_
          refine x_iald 39 rfl 1 16 rfl (⟨by omega, by omega⟩) (by decide) (v := ((d : Nat) : Int)) (hd) dX7_free_38 ?_
          refine x_icmp_ge 42 rfl (tgt := 123) dX7_free_39 (by decide) (by omega) (by omega) (fun h39 => ?_) (fun h39 => ?_)
          · skip
            refine x_iload_n 124 rfl dX7_free_123 3 rfl ?_
            refine x_iret rfl ?_ dX7_free_124
            have hk : kF n p year = 0 := by unfold kF; exact if_pos (by omega)
            have e : k = d := by omega
            exact ⟨by rw [hk, e]; rfl, by rw [hk]; rfl⟩
          · skip
            refine x_aload_n 43 rfl dX7_free_42 0 rfl ?_
            refine x_get 46 rfl 0 0 rfl rfl (by decide) inX7_free_X7 flX7_free_7 rfl dX7_free_43 ?_
            refine x_bipush 48 rfl dX7_free_46 (z := 46) (by decide) ?_
            refine x_iconst 49 rfl dX7_free_48 (z := 2) (by decide) ?_
            refine x_iload 51 rfl dX7_free_49 4 rfl ?_
            refine x_imul 52 rfl dX7_free_51 (z := ((2 * k : Nat) : Int)) (by omega) ?_
            refine x_iadd 53 rfl dX7_free_52 (z := ((46 + (2 * k) : Nat) : Int)) (by omega) ?_
            have hdd := I.dd (k := k) (by omega)
            obtain ⟨t, htt, htv⟩ := isT_of hdd.1
            have ht8 := vt_lt htv
            have hfr := frF_r I p year k (by omega)
            have htn : (b (46 + 2 * k)).toNat = t := by rw [htt]; rfl
            refine x_iald 54 rfl 1 (46 + (2 * k)) rfl (⟨by omega, by omega⟩) (by decide) (v := ((t : Nat) : Int)) (htt) dX7_free_53 ?_
            refine x_istore 56 rfl (lv' := [(5, .int (zI ((t : Nat) : Int))), (0, .ref mo), (1, .int (zI ((p : Nat) : Int))), (2, .int (zI year)), (3, .int (zI (frF b n p year k))), (4, .int (zI ((k : Nat) : Int)))]) dX7_free_54 (by decide) rfl ?_
            refine x_iload_n 57 rfl dX7_free_56 3 rfl ?_
            refine x_aload_n 58 rfl dX7_free_57 1 rfl ?_
            refine x_get 61 rfl 0 0 rfl rfl (by decide) inX7_free_X7 flX7_free_7 rfl dX7_free_58 ?_
            refine x_bipush 63 rfl dX7_free_61 (z := 46) (by decide) ?_
            refine x_iconst 64 rfl dX7_free_63 (z := 2) (by decide) ?_
            refine x_iload 66 rfl dX7_free_64 5 rfl ?_
            refine x_imul 67 rfl dX7_free_66 (z := ((2 * k : Nat) : Int)) (by omega) ?_
            refine x_iadd 68 rfl dX7_free_67 (z := ((46 + (2 * k) : Nat) : Int)) (by omega) ?_
            refine x_iconst 69 rfl dX7_free_68 (z := 1) (by decide) ?_
            refine x_iadd 70 rfl dX7_free_69 (z := ((46 + (2 * k) + 1 : Nat) : Int)) (by omega) ?_
            refine x_iald 71 rfl 1 (46 + (2 * k) + 1) rfl (⟨by omega, by omega⟩) (by decide) (v := b (46 + (2 * k) + 1)) (rfl) dX7_free_70 ?_
            refine x_bipush 73 rfl dX7_free_71 (z := 9) (by decide) ?_
            refine x_iadd 74 rfl dX7_free_73 (z := (b (46 + (2 * k) + 1)) + 9) (rfl) ?_
            refine x_icmp_lt 77 rfl (tgt := 91) dX7_free_74 (by decide) (by omega) (by omega) (fun h74 => ?_) (fun h74 => ?_)
            · skip
              refine x_iconst 92 rfl dX7_free_91 (z := 0) (by decide) ?_
              refine x_istore 94 rfl (lv' := [(6, .int (zI 0)), (5, .int (zI ((t : Nat) : Int))), (0, .ref mo), (1, .int (zI ((p : Nat) : Int))), (2, .int (zI year)), (3, .int (zI (frF b n p year k))), (4, .int (zI ((k : Nat) : Int)))]) dX7_free_92 (by decide) rfl ?_
              refine x_iload 96 rfl dX7_free_94 0 rfl ?_
              refine x_if_eq 99 rfl (tgt := 115) dX7_free_96 (by decide) (by omega) (fun h96 => ?_) (fun h96 => ?_)
              · skip
                refine x_iload_n 116 rfl dX7_free_115 5 rfl ?_
                refine x_istore_n 117 rfl (lv' := [(3, .int (zI (frF b n p year k))), (6, .int (zI 0)), (5, .int (zI ((t : Nat) : Int))), (0, .ref mo), (1, .int (zI ((p : Nat) : Int))), (2, .int (zI year)), (4, .int (zI ((k : Nat) : Int)))]) dX7_free_116 (by decide) rfl ?_
                refine x_iinc 120 rfl (lv' := [(4, .int (zI ((k + 1 : Nat) : Int))), (3, .int (zI (frF b n p year k))), (6, .int (zI 0)), (5, .int (zI ((t : Nat) : Int))), (0, .ref mo), (1, .int (zI ((p : Nat) : Int))), (2, .int (zI year))]) dX7_free_117 6 rfl (b := ((k + 1 : Nat) : Int)) (by omega) (by decide) rfl ?_
                refine x_goto dX7_free_120 (tgt := 30) (by decide) ?_
                refine x_lve (congrArg (fun zz : Int => ([(4, .int (zI ((k + 1 : Nat) : Int))), (3, .int (zI zz)), (6, .int (zI 0)), (5, .int (zI ((t : Nat) : Int))), (0, .ref mo), (1, .int (zI ((p : Nat) : Int))), (2, .int (zI year))] : List (Nat × Value))) (by show _ = frS b n p year k (frF b n p year k); unfold frS; exact (if_neg (fun hh => by omega)).symm : frF b n p year k = frF b n p year (k + 1))) ?_
                refine x_lv [4, 5, 6, 1, 0] rfl ?_
                exact ih30 (k + 1) (by omega) (by omega)
              · skip
                exact absurd h96 (by decide)
            · skip
              refine x_aload_n 78 rfl dX7_free_77 1 rfl ?_
              refine x_iload_n 79 rfl dX7_free_78 2 rfl ?_
              refine x_iload 81 rfl dX7_free_79 0 rfl ?_
              refine x_callV 84 rfl (c_X7_isOwn G mo ad qt sc b n d c I p t (by omega) htv) [0, 1] rfl (by decide) 0 rfl rfl gX7_free_X7_isOwn rfl rfl rfl hd_X7_isOwn ⟨Nat.le_of_ble_eq_true rfl, Nat.le_of_ble_eq_true rfl⟩ (As := [.int (zI ((p : Nat) : Int)), .int (zI ((t : Nat) : Int))]) (rest := []) rfl rfl (Nat.le_of_ble_eq_true rfl) dX7_free_81 ⟨Nat.zero_le _, Nat.zero_le _⟩ (fun v w hq => ?_)
              obtain ⟨rfl, rfl⟩ := hq
              refine ⟨rfl, ?_⟩
              refine x_ws (ws' := [(mo, moE ad qt sc), (ad 0, aI G 66 b), (ad 4, aI G 3 rf)]) (rfl) ?_
              refine x_int (y := (zB (ownN b n p (b (46 + 2 * k)).toNat))) (by rw [htn]) ?_
              refine x_bif_eq 87 rfl (tgt := 91) dX7_free_84 (by decide) (fun h84 => ?_) (fun h84 => ?_)
              · skip
                refine x_iconst 92 rfl dX7_free_91 (z := 0) (by decide) ?_
                refine x_istore 94 rfl (lv' := [(6, .int (zI 0)), (5, .int (zI ((t : Nat) : Int))), (0, .ref mo), (1, .int (zI ((p : Nat) : Int))), (2, .int (zI year)), (3, .int (zI (frF b n p year k))), (4, .int (zI ((k : Nat) : Int)))]) dX7_free_92 (by decide) rfl ?_
                refine x_iload 96 rfl dX7_free_94 0 rfl ?_
                refine x_if_eq 99 rfl (tgt := 115) dX7_free_96 (by decide) (by omega) (fun h96 => ?_) (fun h96 => ?_)
                · skip
                  refine x_iload_n 116 rfl dX7_free_115 5 rfl ?_
                  refine x_istore_n 117 rfl (lv' := [(3, .int (zI (frF b n p year k))), (6, .int (zI 0)), (5, .int (zI ((t : Nat) : Int))), (0, .ref mo), (1, .int (zI ((p : Nat) : Int))), (2, .int (zI year)), (4, .int (zI ((k : Nat) : Int)))]) dX7_free_116 (by decide) rfl ?_
                  refine x_iinc 120 rfl (lv' := [(4, .int (zI ((k + 1 : Nat) : Int))), (3, .int (zI (frF b n p year k))), (6, .int (zI 0)), (5, .int (zI ((t : Nat) : Int))), (0, .ref mo), (1, .int (zI ((p : Nat) : Int))), (2, .int (zI year))]) dX7_free_117 6 rfl (b := ((k + 1 : Nat) : Int)) (by omega) (by decide) rfl ?_
                  refine x_goto dX7_free_120 (tgt := 30) (by decide) ?_
                  refine x_lve (congrArg (fun zz : Int => ([(4, .int (zI ((k + 1 : Nat) : Int))), (3, .int (zI zz)), (6, .int (zI 0)), (5, .int (zI ((t : Nat) : Int))), (0, .ref mo), (1, .int (zI ((p : Nat) : Int))), (2, .int (zI year))] : List (Nat × Value))) (by show _ = frS b n p year k (frF b n p year k); unfold frS; exact (if_neg (fun hh => by rw [hh.1.2] at h84; cases h84)).symm : frF b n p year k = frF b n p year (k + 1))) ?_
                  refine x_lv [4, 5, 6, 1, 0] rfl ?_
                  exact ih30 (k + 1) (by omega) (by omega)
                · skip
                  exact absurd h96 (by decide)
              · skip
                refine x_iconst 88 rfl dX7_free_87 (z := 1) (by decide) ?_
                refine x_goto dX7_free_88 (tgt := 92) (by decide) ?_
                refine x_istore 94 rfl (lv' := [(6, .int (zI 1)), (5, .int (zI ((t : Nat) : Int))), (0, .ref mo), (1, .int (zI ((p : Nat) : Int))), (2, .int (zI year)), (3, .int (zI (frF b n p year k))), (4, .int (zI ((k : Nat) : Int)))]) dX7_free_92 (by decide) rfl ?_
                refine x_iload 96 rfl dX7_free_94 0 rfl ?_
                refine x_if_eq 99 rfl (tgt := 115) dX7_free_96 (by decide) (by omega) (fun h96 => ?_) (fun h96 => ?_)
                · skip
                  exact absurd h96 (by decide)
                · skip
                  refine x_iload_n 100 rfl dX7_free_99 5 rfl ?_
                  refine x_iconst 101 rfl dX7_free_100 (z := (-1)) (by decide) ?_
                  refine x_icmp_eq 104 rfl (tgt := 110) dX7_free_101 (by decide) (by omega) (by decide) (fun h101 => ?_) (fun h101 => ?_)
                  · skip
                    refine x_iload 112 rfl dX7_free_110 1 rfl ?_
                    refine x_goto dX7_free_112 (tgt := 116) (by decide) ?_
                    refine x_istore_n 117 rfl (lv' := [(3, .int (zI ((t : Nat) : Int))), (6, .int (zI 1)), (5, .int (zI ((t : Nat) : Int))), (0, .ref mo), (1, .int (zI ((p : Nat) : Int))), (2, .int (zI year)), (4, .int (zI ((k : Nat) : Int)))]) dX7_free_116 (by decide) rfl ?_
                    refine x_iinc 120 rfl (lv' := [(4, .int (zI ((k + 1 : Nat) : Int))), (3, .int (zI ((t : Nat) : Int))), (6, .int (zI 1)), (5, .int (zI ((t : Nat) : Int))), (0, .ref mo), (1, .int (zI ((p : Nat) : Int))), (2, .int (zI year))]) dX7_free_117 6 rfl (b := ((k + 1 : Nat) : Int)) (by omega) (by decide) rfl ?_
                    refine x_goto dX7_free_120 (tgt := 30) (by decide) ?_
                    refine x_lve (congrArg (fun zz : Int => ([(4, .int (zI ((k + 1 : Nat) : Int))), (3, .int (zI zz)), (6, .int (zI 1)), (5, .int (zI ((t : Nat) : Int))), (0, .ref mo), (1, .int (zI ((p : Nat) : Int))), (2, .int (zI year))] : List (Nat × Value))) (by show _ = frS b n p year k (frF b n p year k); unfold frS; rw [if_pos ⟨⟨by omega, h84⟩, by omega⟩]; exact htt.symm : ((t : Nat) : Int) = frF b n p year (k + 1))) ?_
                    refine x_lv [4, 5, 6, 1, 0] rfl ?_
                    exact ih30 (k + 1) (by omega) (by omega)
                  · skip
                    refine x_iload 106 rfl dX7_free_104 1 rfl ?_
                    refine x_iload_n 107 rfl dX7_free_106 5 rfl ?_
                    refine x_icmp_ge 110 rfl (tgt := 115) dX7_free_107 (by decide) (by omega) (by omega) (fun h107 => ?_) (fun h107 => ?_)
                    · skip
                      refine x_iload_n 116 rfl dX7_free_115 5 rfl ?_
                      refine x_istore_n 117 rfl (lv' := [(3, .int (zI (frF b n p year k))), (6, .int (zI 1)), (5, .int (zI ((t : Nat) : Int))), (0, .ref mo), (1, .int (zI ((p : Nat) : Int))), (2, .int (zI year)), (4, .int (zI ((k : Nat) : Int)))]) dX7_free_116 (by decide) rfl ?_
                      refine x_iinc 120 rfl (lv' := [(4, .int (zI ((k + 1 : Nat) : Int))), (3, .int (zI (frF b n p year k))), (6, .int (zI 1)), (5, .int (zI ((t : Nat) : Int))), (0, .ref mo), (1, .int (zI ((p : Nat) : Int))), (2, .int (zI year))]) dX7_free_117 6 rfl (b := ((k + 1 : Nat) : Int)) (by omega) (by decide) rfl ?_
                      refine x_goto dX7_free_120 (tgt := 30) (by decide) ?_
                      refine x_lve (congrArg (fun zz : Int => ([(4, .int (zI ((k + 1 : Nat) : Int))), (3, .int (zI zz)), (6, .int (zI 1)), (5, .int (zI ((t : Nat) : Int))), (0, .ref mo), (1, .int (zI ((p : Nat) : Int))), (2, .int (zI year))] : List (Nat × Value))) (by show _ = frS b n p year k (frF b n p year k); unfold frS; rw [if_neg (fun hh => by omega)] : frF b n p year k = frF b n p year (k + 1))) ?_
                      refine x_lv [4, 5, 6, 1, 0] rfl ?_
                      exact ih30 (k + 1) (by omega) (by omega)
                    · skip
                      refine x_iload 112 rfl dX7_free_110 1 rfl ?_
                      refine x_goto dX7_free_112 (tgt := 116) (by decide) ?_
                      refine x_istore_n 117 rfl (lv' := [(3, .int (zI ((t : Nat) : Int))), (6, .int (zI 1)), (5, .int (zI ((t : Nat) : Int))), (0, .ref mo), (1, .int (zI ((p : Nat) : Int))), (2, .int (zI year)), (4, .int (zI ((k : Nat) : Int)))]) dX7_free_116 (by decide) rfl ?_
                      refine x_iinc 120 rfl (lv' := [(4, .int (zI ((k + 1 : Nat) : Int))), (3, .int (zI ((t : Nat) : Int))), (6, .int (zI 1)), (5, .int (zI ((t : Nat) : Int))), (0, .ref mo), (1, .int (zI ((p : Nat) : Int))), (2, .int (zI year))]) dX7_free_117 6 rfl (b := ((k + 1 : Nat) : Int)) (by omega) (by decide) rfl ?_
                      refine x_goto dX7_free_120 (tgt := 30) (by decide) ?_
                      refine x_lve (congrArg (fun zz : Int => ([(4, .int (zI ((k + 1 : Nat) : Int))), (3, .int (zI zz)), (6, .int (zI 1)), (5, .int (zI ((t : Nat) : Int))), (0, .ref mo), (1, .int (zI ((p : Nat) : Int))), (2, .int (zI year))] : List (Nat × Value))) (by show _ = frS b n p year k (frF b n p year k); unfold frS; rw [if_pos ⟨⟨by omega, h84⟩, by omega⟩]; exact htt.symm : ((t : Nat) : Int) = frF b n p year (k + 1))) ?_
                      refine x_lv [4, 5, 6, 1, 0] rfl ?_
                      exact ih30 (k + 1) (by omega) (by omega)
      refine x_lve (congrArg (fun zz : Int => ([(4, .int (zI 0)), (3, .int (zI zz)), (0, .ref mo), (1, .int (zI ((p : Nat) : Int))), (2, .int (zI year))] : List (Nat × Value))) (rfl : (-1) = frF b n p year 0)) ?_
      refine x_lv [2, 3, 4, 1, 0] rfl ?_
      exact L30 _ 0 (by omega) (Nat.lt_succ_self _)
    · have h17 := of_decide_eq_false h17
      refine x_aload_n 21 rfl dX7_free_20 0 rfl ?_
      refine x_callV 24 rfl (c_X7_bad G mo ad qt sc rf) [0, 2] rfl (by decide) 0 rfl rfl gX7_free_X7_bad rfl rfl rfl hd_X7_bad ⟨Nat.le_of_ble_eq_true rfl, Nat.le_of_ble_eq_true rfl⟩ (As := []) (rest := []) rfl rfl (Nat.le_of_ble_eq_true rfl) dX7_free_21 ⟨Nat.zero_le _, Nat.zero_le _⟩ (fun v w hq => ?_)
      obtain ⟨rfl, rfl⟩ := hq
      refine ⟨rfl, ?_⟩
      refine x_ws (ws' := [(mo, moE ad qt sc), (ad 0, aI G 66 b), (ad 4, aI G 3 (rfU qt rf 0))]) (rfl) ?_
      refine x_iret rfl ?_ dX7_free_24
      have hk : kF n p year = 1 := by unfold kF; exact if_neg (fun hh => by first | omega | (simp [*] at hh; done) | (obtain ⟨ha, hb, hc, hd⟩ := hh; first | omega | simp_all) | (obtain ⟨ha, hb, hc⟩ := hh; first | omega | simp_all) | (obtain ⟨ha, hb⟩ := hh; first | omega | simp_all))
      exact ⟨by rw [hk]; rfl, by rw [hk]; rfl⟩

abbrev P_X7_status (G : XG) (mo : Nat) (ad : Nat → Nat) (qt : Bool) (sc : Nat → Int) (rf : Nat → Int) (what : Int) : Option Value → va_W → Prop := fun r ws => r = some (.int (zI (if kS what = 0 then rf what.toNat else -1))) ∧ ws = [(mo, moE ad qt sc), (ad 4, aI G 3 (rfC qt rf (kS what)))]
abbrev W_X7_status (G : XG) (E : XE) (mo : Nat) (ad : Nat → Nat) (qt : Bool) (sc : Nat → Int) (rf : Nat → Int) (what : Int) (pc : Nat) (lv : List (Nat × Value)) (st : List Value) (ws : va_W) : Prop := Wx G E (rmL 2) cX7_status 2 RX7 wsX7_status (some .int) "status" 0 0 (P_X7_status G mo ad qt sc rf what) 0 0 pc lv st ws
theorem flX7_status_23 : Cond.fieldLink RX7 23 (TX7 4).1 (TX7 4).2.1 (TX7 4).2.2.1 ∈ wsX7_status := by decide +kernel
theorem inX7_status_X7 : ∀ w ∈ u_ws RX7 TX7 18, w ∈ wsX7_status := fun _ h => List.mem_cons_of_mem _ (List.mem_append_right _ h)
theorem wX7_status_cl229 : Cond.constantLong RX7 229 (zL 2) ∈ wsX7_status := by decide +kernel
set_option maxHeartbeats 4000000 in
set_option maxRecDepth 100000 in
/-- status -/
theorem c_X7_status (G : XG) (mo : Nat) (ad : Nat → Nat) (qt : Bool) (sc : Nat → Int) (rf : Nat → Int) (what : Int) (h1 : Z32 what) : Con G yX7_status wsX7_status (rmL 2) 0 0 [.ref mo, .int (zI what)] ([(mo, moE ad qt sc), (ad 4, aI G 3 rf)]) (P_X7_status G mo ad qt sc rf what) := by
  refine x_start (cc := cX7_status) (nL := 2) (ret := (some .int)) (by decide) rfl (Nat.le_of_ble_eq_true rfl) (fun E => ?_)
  show W_X7_status G E mo ad qt sc rf what 0 [(0, .ref mo), (1, .int (zI what))] [] ([(mo, moE ad qt sc), (ad 4, aI G 3 rf)])
  refine x_iload_n 1 rfl dX7_status_0 1 rfl ?_
  refine x_i2l 2 rfl dX7_status_1 (z := (zL what)) (zI_i2l (by omega)) ?_
  refine x_lconst 3 rfl dX7_status_2 (z := 0) (by decide) ?_
  refine x_ldc2 6 rfl (v := zL 2) wX7_status_cl229 dX7_status_3 ?_
  refine x_callS0 9 rfl (c_X7_in G what 0 2 (by omega) (by omega) (by decide)) (fun _ _ h => h.2) gX7_status_X7_in rfl rfl rfl hd_X7_in ⟨Nat.le_of_ble_eq_true rfl, Nat.le_of_ble_eq_true rfl⟩ (As := [.long (zL what), .long (zL 0), .long (zL 2)]) (rest := []) rfl rfl (Nat.le_of_ble_eq_true rfl) dX7_status_6 ⟨Nat.zero_le _, Nat.zero_le _⟩ (fun v hq => ?_)
  obtain ⟨rfl, -⟩ := hq
  refine x_bif_eq 12 rfl (tgt := 21) dX7_status_9 (by decide) (fun h9 => ?_) (fun h9 => ?_)
  · have h9 := of_decide_eq_false h9
    refine x_aload_n 22 rfl dX7_status_21 0 rfl ?_
    refine x_iconst 23 rfl dX7_status_22 (z := 0) (by decide) ?_
    refine x_iconst 24 rfl dX7_status_23 (z := (-1)) (by decide) ?_
    refine x_callV 27 rfl (c_X7_refuses G mo ad qt sc rf 0 (-1) (by omega)) [0, 1] rfl (by decide) 0 rfl rfl gX7_status_X7_refuses rfl rfl rfl hd_X7_refuses ⟨Nat.le_of_ble_eq_true rfl, Nat.le_of_ble_eq_true rfl⟩ (As := [.int (zI 0), .int (zI (-1))]) (rest := []) rfl rfl (Nat.le_of_ble_eq_true rfl) dX7_status_24 ⟨Nat.zero_le _, Nat.zero_le _⟩ (fun v w hq => ?_)
    obtain ⟨rfl, rfl⟩ := hq
    refine ⟨rfl, ?_⟩
    refine x_ws (ws' := [(mo, moE ad qt sc), (ad 4, aI G 3 (rfU qt rf 0))]) (rfl) ?_
    refine x_iret rfl ?_ dX7_status_27
    have hk : kS what = 1 := by unfold kS; exact if_neg (by omega)
    exact ⟨by rw [hk]; rfl, by rw [hk]; rfl⟩
  · have h9 := of_decide_eq_true h9
    obtain ⟨what, rfl⟩ : ∃ zk : Nat, what = (zk : Int) := ⟨Int.toNat what, by omega⟩
    refine x_aload_n 13 rfl dX7_status_12 0 rfl ?_
    refine x_get 16 rfl 0 4 rfl rfl (by decide) inX7_status_X7 flX7_status_23 rfl dX7_status_13 ?_
    refine x_iload_n 17 rfl dX7_status_16 1 rfl ?_
    refine x_iald 18 rfl 1 what rfl (⟨by omega, by omega⟩) (by decide) (v := rf what) (rfl) dX7_status_17 ?_
    refine x_goto dX7_status_18 (tgt := 27) (by decide) ?_
    refine x_iret rfl ?_ dX7_status_27
    have hk : kS what = 0 := by unfold kS; exact if_pos (by omega)
    exact ⟨by rw [hk]; rfl, by rw [hk]; rfl⟩

abbrev P_X7_countOf (G : XG) (mo : Nat) (ad : Nat → Nat) (qt : Bool) (sc : Nat → Int) (b : Nat → Int) (what : Nat) : Option Value → va_W → Prop := fun r ws => r = some (.int (zI (cntN b (sc 0) what))) ∧ ws = [(mo, moE ad qt sc), (ad 0, aI G 66 b)]
abbrev W_X7_countOf (G : XG) (E : XE) (mo : Nat) (ad : Nat → Nat) (qt : Bool) (sc : Nat → Int) (b : Nat → Int) (what : Nat) (pc : Nat) (lv : List (Nat × Value)) (st : List Value) (ws : va_W) : Prop := Wx G E (rmL 0) cX7_countOf 2 RX7 wsX7_countOf (some .int) "countOf" 0 0 (P_X7_countOf G mo ad qt sc b what) 0 0 pc lv st ws
theorem flX7_countOf_7 : Cond.fieldLink RX7 7 (TX7 0).1 (TX7 0).2.1 (TX7 0).2.2.1 ∈ wsX7_countOf := by decide +kernel
theorem flX7_countOf_131 : Cond.fieldLink RX7 131 (TX7 7).1 (TX7 7).2.1 (TX7 7).2.2.1 ∈ wsX7_countOf := by decide +kernel
theorem inX7_countOf_X7 : ∀ w ∈ u_ws RX7 TX7 18, w ∈ wsX7_countOf := fun _ h => List.mem_cons_of_mem _ (List.mem_append_right _ h)
set_option maxHeartbeats 4000000 in
set_option maxRecDepth 100000 in
/-- countOf -/
theorem c_X7_countOf (G : XG) (mo : Nat) (ad : Nat → Nat) (qt : Bool) (sc : Nat → Int) (b : Nat → Int) (what : Nat) (h1 : what ≤ 3) : Con G yX7_countOf wsX7_countOf (rmL 0) 0 0 [.ref mo, .int (zI ((what : Nat) : Int))] ([(mo, moE ad qt sc), (ad 0, aI G 66 b)]) (P_X7_countOf G mo ad qt sc b what) := by
  refine x_start (cc := cX7_countOf) (nL := 2) (ret := (some .int)) (by decide) rfl (Nat.le_of_ble_eq_true rfl) (fun E => ?_)
  show W_X7_countOf G E mo ad qt sc b what 0 [(0, .ref mo), (1, .int (zI ((what : Nat) : Int)))] [] ([(mo, moE ad qt sc), (ad 0, aI G 66 b)])
  refine x_iload_n 1 rfl dX7_countOf_0 1 rfl ?_
  refine x_iconst 2 rfl dX7_countOf_1 (z := 3) (by decide) ?_
  refine x_icmp_ne 5 rfl (tgt := 12) dX7_countOf_2 (by decide) (by omega) (by decide) (fun h2 => ?_) (fun h2 => ?_)
  · skip
    refine x_aload_n 13 rfl dX7_countOf_12 0 rfl ?_
    refine x_get 16 rfl 0 0 rfl rfl (by decide) inX7_countOf_X7 flX7_countOf_7 rfl dX7_countOf_13 ?_
    refine x_bipush 18 rfl dX7_countOf_16 (z := 15) (by decide) ?_
    refine x_iload_n 19 rfl dX7_countOf_18 1 rfl ?_
    refine x_iadd 20 rfl dX7_countOf_19 (z := ((15 + what : Nat) : Int)) (by omega) ?_
    refine x_iald 21 rfl 1 (15 + what) rfl (⟨by omega, by omega⟩) (by decide) (v := b (15 + what)) (rfl) dX7_countOf_20 ?_
    refine x_iret rfl ?_ dX7_countOf_21
    exact ⟨by rw [show cntN b (sc 0) what = b (15 + what) by unfold cntN; first | rw [if_pos (by omega)] | rw [if_neg (by omega)]], rfl⟩
  · skip
    refine x_aload_n 6 rfl dX7_countOf_5 0 rfl ?_
    refine x_get 9 rfl 0 7 rfl rfl (by decide) inX7_countOf_X7 flX7_countOf_131 rfl dX7_countOf_6 ?_
    refine x_goto dX7_countOf_9 (tgt := 21) (by decide) ?_
    refine x_iret rfl ?_ dX7_countOf_21
    exact ⟨by rw [show cntN b (sc 0) what = sc 0 by unfold cntN; first | rw [if_pos (by omega)] | rw [if_neg (by omega)]], rfl⟩

abbrev P_X7_count (G : XG) (mo : Nat) (ad : Nat → Nat) (qt : Bool) (sc : Nat → Int) (b : Nat → Int) (rf : Nat → Int) (what : Int) : Option Value → va_W → Prop := fun r ws => r = some (.int (zI (rC (kN4 what) (cntN b (sc 0) what.toNat)))) ∧ ws = [(mo, moE ad qt sc), (ad 0, aI G 66 b), (ad 4, aI G 3 (rfC qt rf (kN4 what)))]
abbrev W_X7_count (G : XG) (E : XE) (mo : Nat) (ad : Nat → Nat) (qt : Bool) (sc : Nat → Int) (b : Nat → Int) (rf : Nat → Int) (what : Int) (pc : Nat) (lv : List (Nat × Value)) (st : List Value) (ws : va_W) : Prop := Wx G E (rmL 2) cX7_count 2 RX7 wsX7_count (some .int) "count" 0 0 (P_X7_count G mo ad qt sc b rf what) 0 0 pc lv st ws
theorem wX7_count_cl61 : Cond.constantLong RX7 61 (zL 3) ∈ wsX7_count := by decide +kernel
set_option maxHeartbeats 4000000 in
set_option maxRecDepth 100000 in
/-- count -/
theorem c_X7_count (G : XG) (mo : Nat) (ad : Nat → Nat) (qt : Bool) (sc : Nat → Int) (b rf : Nat → Int) (what : Int) (h1 : Z32 what) : Con G yX7_count wsX7_count (rmL 2) 0 0 [.ref mo, .int (zI what)] ([(mo, moE ad qt sc), (ad 0, aI G 66 b), (ad 4, aI G 3 rf)]) (P_X7_count G mo ad qt sc b rf what) := by
  refine x_start (cc := cX7_count) (nL := 2) (ret := (some .int)) (by decide) rfl (Nat.le_of_ble_eq_true rfl) (fun E => ?_)
  show W_X7_count G E mo ad qt sc b rf what 0 [(0, .ref mo), (1, .int (zI what))] [] ([(mo, moE ad qt sc), (ad 0, aI G 66 b), (ad 4, aI G 3 rf)])
  refine x_iload_n 1 rfl dX7_count_0 1 rfl ?_
  refine x_i2l 2 rfl dX7_count_1 (z := (zL what)) (zI_i2l (by omega)) ?_
  refine x_lconst 3 rfl dX7_count_2 (z := 0) (by decide) ?_
  refine x_ldc2 6 rfl (v := zL 3) wX7_count_cl61 dX7_count_3 ?_
  refine x_callS0 9 rfl (c_X7_in G what 0 3 (by omega) (by omega) (by decide)) (fun _ _ h => h.2) gX7_count_X7_in rfl rfl rfl hd_X7_in ⟨Nat.le_of_ble_eq_true rfl, Nat.le_of_ble_eq_true rfl⟩ (As := [.long (zL what), .long (zL 0), .long (zL 3)]) (rest := []) rfl rfl (Nat.le_of_ble_eq_true rfl) dX7_count_6 ⟨Nat.zero_le _, Nat.zero_le _⟩ (fun v hq => ?_)
  obtain ⟨rfl, -⟩ := hq
  refine x_bif_eq 12 rfl (tgt := 20) dX7_count_9 (by decide) (fun h9 => ?_) (fun h9 => ?_)
  · have h9 := of_decide_eq_false h9
    refine x_aload_n 21 rfl dX7_count_20 0 rfl ?_
    refine x_callV 24 rfl (c_X7_bad G mo ad qt sc rf) [0, 2] rfl (by decide) 0 rfl rfl gX7_count_X7_bad rfl rfl rfl hd_X7_bad ⟨Nat.le_of_ble_eq_true rfl, Nat.le_of_ble_eq_true rfl⟩ (As := []) (rest := []) rfl rfl (Nat.le_of_ble_eq_true rfl) dX7_count_21 ⟨Nat.zero_le _, Nat.zero_le _⟩ (fun v w hq => ?_)
    obtain ⟨rfl, rfl⟩ := hq
    refine ⟨rfl, ?_⟩
    refine x_ws (ws' := [(mo, moE ad qt sc), (ad 0, aI G 66 b), (ad 4, aI G 3 (rfU qt rf 0))]) (rfl) ?_
    refine x_iret rfl ?_ dX7_count_24
    have hk : kN4 what = 1 := by unfold kN4; exact if_neg (by omega)
    exact ⟨by rw [hk]; rfl, by rw [hk]; rfl⟩
  · have h9 := of_decide_eq_true h9
    obtain ⟨what, rfl⟩ : ∃ zk : Nat, what = (zk : Int) := ⟨Int.toNat what, by omega⟩
    refine x_aload_n 13 rfl dX7_count_12 0 rfl ?_
    refine x_iload_n 14 rfl dX7_count_13 1 rfl ?_
    refine x_callV 17 rfl (c_X7_countOf G mo ad qt sc b what (by omega)) [0, 1] rfl (by decide) 0 rfl rfl gX7_count_X7_countOf rfl rfl rfl hd_X7_countOf ⟨Nat.le_of_ble_eq_true rfl, Nat.le_of_ble_eq_true rfl⟩ (As := [.int (zI ((what : Nat) : Int))]) (rest := []) rfl rfl (Nat.le_of_ble_eq_true rfl) dX7_count_14 ⟨Nat.zero_le _, Nat.zero_le _⟩ (fun v w hq => ?_)
    obtain ⟨rfl, rfl⟩ := hq
    refine ⟨rfl, ?_⟩
    refine x_ws (ws' := [(mo, moE ad qt sc), (ad 0, aI G 66 b), (ad 4, aI G 3 rf)]) (rfl) ?_
    refine x_goto dX7_count_17 (tgt := 24) (by decide) ?_
    refine x_iret rfl ?_ dX7_count_24
    have hk : kN4 what = 0 := by unfold kN4; exact if_pos (by omega)
    exact ⟨by rw [hk]; rfl, by rw [hk]; rfl⟩

abbrev P_X7_mixed (G : XG) (mo : Nat) (ad : Nat → Nat) (qt : Bool) (sc : Nat → Int) (b : Nat → Int) (h : Int) (lo : Nat) (k : Nat) : Option Value → va_W → Prop := fun r ws => r = some (.long (zL (mxF b h lo k))) ∧ ws = [(mo, moE ad qt sc), (ad 0, aI G 66 b)]
abbrev W_X7_mixed (G : XG) (E : XE) (mo : Nat) (ad : Nat → Nat) (qt : Bool) (sc : Nat → Int) (b : Nat → Int) (h : Int) (lo : Nat) (k : Nat) (pc : Nat) (lv : List (Nat × Value)) (st : List Value) (ws : va_W) : Prop := Wx G E (rmL 0) cX7_mixed 8 RX7 wsX7_mixed (some .long) "mixed" 0 0 (P_X7_mixed G mo ad qt sc b h lo k) 0 0 pc lv st ws
theorem flX7_mixed_7 : Cond.fieldLink RX7 7 (TX7 0).1 (TX7 0).2.1 (TX7 0).2.2.1 ∈ wsX7_mixed := by decide +kernel
theorem inX7_mixed_X7 : ∀ w ∈ u_ws RX7 TX7 18, w ∈ wsX7_mixed := fun _ h => List.mem_cons_of_mem _ (List.mem_append_right _ h)
theorem wX7_mixed_cl69 : Cond.constantLong RX7 69 (zL 31) ∈ wsX7_mixed := by decide +kernel
set_option maxHeartbeats 4000000 in
set_option maxRecDepth 100000 in
/-- mixed -/
theorem c_X7_mixed (G : XG) (mo : Nat) (ad : Nat → Nat) (qt : Bool) (sc : Nat → Int) (b : Nat → Int) (h : Int) (lo k : Nat) (hlk : lo + k ≤ 66) (h32 : ∀ j, j < k → Z32 (b (lo + j))) : Con G yX7_mixed wsX7_mixed (rmL 0) 0 0 [.ref mo, .long (zL h), .int (zI ((lo : Nat) : Int)), .int (zI ((k : Nat) : Int))] ([(mo, moE ad qt sc), (ad 0, aI G 66 b)]) (P_X7_mixed G mo ad qt sc b h lo k) := by
  refine x_start (cc := cX7_mixed) (nL := 8) (ret := (some .long)) (by decide) rfl (Nat.le_of_ble_eq_true rfl) (fun E => ?_)
  show W_X7_mixed G E mo ad qt sc b h lo k 0 [(0, .ref mo), (1, .long (zL h)), (3, .int (zI ((lo : Nat) : Int))), (4, .int (zI ((k : Nat) : Int)))] [] ([(mo, moE ad qt sc), (ad 0, aI G 66 b)])
  refine x_lload_n 1 rfl dX7_mixed_0 1 rfl ?_
  refine x_lstore 3 rfl (lv' := [(5, .long (zL h)), (0, .ref mo), (1, .long (zL h)), (3, .int (zI ((lo : Nat) : Int))), (4, .int (zI ((k : Nat) : Int)))]) dX7_mixed_1 (by decide) rfl ?_
  refine x_iconst 4 rfl dX7_mixed_3 (z := 0) (by decide) ?_
  refine x_istore 6 rfl (lv' := [(7, .int (zI 0)), (5, .long (zL h)), (0, .ref mo), (1, .long (zL h)), (3, .int (zI ((lo : Nat) : Int))), (4, .int (zI ((k : Nat) : Int)))]) dX7_mixed_4 (by decide) rfl ?_
  have L6 : ∀ (f6 : Nat) (j : Nat) (hj : j ≤ k), k - j < f6 → W_X7_mixed G E mo ad qt sc b h lo k 6 [(0, .ref mo), (1, .long (zL h)), (3, .int (zI ((lo : Nat) : Int))), (4, .int (zI ((k : Nat) : Int))), (5, .long (zL (mxF b h lo j))), (7, .int (zI ((j : Nat) : Int)))] [] ([(mo, moE ad qt sc), (ad 0, aI G 66 b)]) := by
    intro f6
    induction f6 with
    | zero => intro j hj hf6; exact absurd hf6 (Nat.not_lt_zero _)
    | succ f6 ih6 =>
      intro j hj hf6
      refine x_iload 8 rfl dX7_mixed_6 5 rfl ?_
      refine x_iload 10 rfl dX7_mixed_8 3 rfl ?_
      refine x_icmp_ge 13 rfl (tgt := 38) dX7_mixed_10 (by decide) (by omega) (by omega) (fun h10 => ?_) (fun h10 => ?_)
      · skip
        refine x_lload 40 rfl dX7_mixed_38 4 rfl ?_
        refine x_lret rfl ?_ dX7_mixed_40
        have e : j = k := by omega
        exact ⟨by rw [e], rfl⟩
      · skip
        refine x_ldc2 16 rfl (v := zL 31) wX7_mixed_cl69 dX7_mixed_13 ?_
        refine x_lload 18 rfl dX7_mixed_16 4 rfl ?_
        refine x_lmul 19 rfl dX7_mixed_18 (z := 31 * (mxF b h lo j)) (rfl) ?_
        refine x_aload_n 20 rfl dX7_mixed_19 0 rfl ?_
        refine x_get 23 rfl 0 0 rfl rfl (by decide) inX7_mixed_X7 flX7_mixed_7 rfl dX7_mixed_20 ?_
        refine x_iload_n 24 rfl dX7_mixed_23 2 rfl ?_
        refine x_iload 26 rfl dX7_mixed_24 5 rfl ?_
        refine x_iadd 27 rfl dX7_mixed_26 (z := ((lo + j : Nat) : Int)) (by omega) ?_
        refine x_iald 28 rfl 1 (lo + j) rfl (⟨by omega, by omega⟩) (by decide) (v := b (lo + j)) (rfl) dX7_mixed_27 ?_
        refine x_i2l 29 rfl dX7_mixed_28 (z := (zL (b (lo + j)))) (zI_i2l (h32 j (by omega))) ?_
        refine x_ladd 30 rfl dX7_mixed_29 (z := (31 * (mxF b h lo j)) + (b (lo + j))) (rfl) ?_
        refine x_lstore 32 rfl (lv' := [(5, .long (zL ((31 * (mxF b h lo j)) + (b (lo + j))))), (0, .ref mo), (1, .long (zL h)), (3, .int (zI ((lo : Nat) : Int))), (4, .int (zI ((k : Nat) : Int))), (7, .int (zI ((j : Nat) : Int)))]) dX7_mixed_30 (by decide) rfl ?_
        refine x_iinc 35 rfl (lv' := [(7, .int (zI ((j + 1 : Nat) : Int))), (5, .long (zL ((31 * (mxF b h lo j)) + (b (lo + j))))), (0, .ref mo), (1, .long (zL h)), (3, .int (zI ((lo : Nat) : Int))), (4, .int (zI ((k : Nat) : Int)))]) dX7_mixed_32 5 rfl (b := ((j + 1 : Nat) : Int)) (by omega) (by decide) rfl ?_
        refine x_goto dX7_mixed_35 (tgt := 6) (by decide) ?_
        refine x_lv [2, 3, 4, 5, 1, 0] rfl ?_
        exact ih6 (j + 1) (by omega) (by omega)
  refine x_lv [2, 3, 4, 5, 1, 0] rfl ?_
  exact L6 _ 0 (by omega) (Nat.lt_succ_self _)

theorem I32p {b : Nat → Int} {n d c : Nat} (I : Inv b n d c) {j : Nat} (hj : j < 4 * n) : Z32 (b (18 + j)) := by
  obtain ⟨p, w, rfl, hw⟩ : ∃ p w, j = 4 * p + w ∧ w < 4 := ⟨j / 4, j % 4, by omega, by omega⟩
  have hp : p < n := by omega
  have h1 := I.e hp; have h2 := I.t hp; have h3 := I.p hp; have h4 := I.k hp
  have h5 := vt_lt h2.2
  have : w = 0 ∨ w = 1 ∨ w = 2 ∨ w = 3 := by omega
  rcases this with rfl | rfl | rfl | rfl <;> rw [← Nat.add_assoc] <;> omega
theorem I32d {b : Nat → Int} {n d c : Nat} (I : Inv b n d c) {j : Nat} (hj : j < 2 * d) : Z32 (b (46 + j)) := by
  obtain ⟨k, w, rfl, hw⟩ : ∃ k w, j = 2 * k + w ∧ w < 2 := ⟨j / 2, j % 2, by omega, by omega⟩
  have h := I.dd (k := k) (by omega)
  obtain ⟨t, h1, h2⟩ := isT_of h.1
  have h5 := vt_lt h2
  have : w = 0 ∨ w = 1 := by omega
  rcases this with rfl | rfl <;> rw [← Nat.add_assoc]
  · rw [Nat.add_zero]; omega
  · omega
abbrev P_X7_digest (G : XG) (mo : Nat) (ad : Nat → Nat) (qt : Bool) (sc : Nat → Int) (b : Nat → Int) (n : Nat) (d : Nat) (c : Nat) : Option Value → va_W → Prop := fun r ws => r = some (.long (zL (dgN b n d c (sc 0)))) ∧ ws = [(mo, moE ad qt sc), (ad 0, aI G 66 b)]
abbrev W_X7_digest (G : XG) (E : XE) (mo : Nat) (ad : Nat → Nat) (qt : Bool) (sc : Nat → Int) (b : Nat → Int) (n : Nat) (d : Nat) (c : Nat) (pc : Nat) (lv : List (Nat × Value)) (st : List Value) (ws : va_W) : Prop := Wx G E (rmL 1) cX7_digest 4 RX7 wsX7_digest (some .long) "digest" 0 0 (P_X7_digest G mo ad qt sc b n d c) 0 0 pc lv st ws
theorem flX7_digest_7 : Cond.fieldLink RX7 7 (TX7 0).1 (TX7 0).2.1 (TX7 0).2.2.1 ∈ wsX7_digest := by decide +kernel
theorem inX7_digest_X7 : ∀ w ∈ u_ws RX7 TX7 18, w ∈ wsX7_digest := fun _ h => List.mem_cons_of_mem _ (List.mem_append_right _ h)
theorem wX7_digest_cl234 : Cond.constantLong RX7 234 (zL 757) ∈ wsX7_digest := by decide +kernel
theorem wX7_digest_cl69 : Cond.constantLong RX7 69 (zL 31) ∈ wsX7_digest := by decide +kernel
set_option maxHeartbeats 4000000 in
set_option maxRecDepth 100000 in
/-- digest -/
theorem c_X7_digest (G : XG) (mo : Nat) (ad : Nat → Nat) (qt : Bool) (sc : Nat → Int) (b : Nat → Int) (n d c : Nat) (I : Inv b n d c) (hty : Z32 (sc 0)) : Con G yX7_digest wsX7_digest (rmL 1) 0 0 [.ref mo] ([(mo, moE ad qt sc), (ad 0, aI G 66 b)]) (P_X7_digest G mo ad qt sc b n d c) := by
  refine x_start (cc := cX7_digest) (nL := 4) (ret := (some .long)) (by decide) rfl (Nat.le_of_ble_eq_true rfl) (fun E => ?_)
  show W_X7_digest G E mo ad qt sc b n d c 0 [(0, .ref mo)] [] ([(mo, moE ad qt sc), (ad 0, aI G 66 b)])
  have hn := I.n1
  have hn7 := I.n7
  have hd := I.d1
  have hd6 := I.d6
  have hc := I.c1
  have hc8 := I.c8
  refine x_ldc2 3 rfl (v := zL 757) wX7_digest_cl234 dX7_digest_0 ?_
  refine x_lstore_n 4 rfl (lv' := [(1, .long (zL 757)), (0, .ref mo)]) dX7_digest_3 (by decide) rfl ?_
  refine x_iconst 5 rfl dX7_digest_4 (z := 0) (by decide) ?_
  refine x_istore_n 6 rfl (lv' := [(3, .int (zI 0)), (1, .long (zL 757)), (0, .ref mo)]) dX7_digest_5 (by decide) rfl ?_
  refine x_iload_n 7 rfl dX7_digest_6 0 rfl ?_
  refine x_iconst 8 rfl dX7_digest_7 (z := 4) (by decide) ?_
  refine x_icmp_ge 11 rfl (tgt := 30) dX7_digest_8 (by decide) (by decide) (by decide) (fun h8 => ?_) (fun h8 => ?_)
  · skip
    exact absurd h8 (by decide)
  · skip
    refine x_ldc2 14 rfl (v := zL 31) wX7_digest_cl69 dX7_digest_11 ?_
    refine x_lload_n 15 rfl dX7_digest_14 1 rfl ?_
    refine x_lmul 16 rfl dX7_digest_15 (z := 31 * 757) (rfl) ?_
    refine x_aload_n 17 rfl dX7_digest_16 2 rfl ?_
    refine x_iload_n 18 rfl dX7_digest_17 0 rfl ?_
    refine x_callV 21 rfl (c_X7_countOf G mo ad qt sc b 0 (by omega)) [0, 1] rfl (by decide) 0 rfl rfl gX7_digest_X7_countOf rfl rfl rfl hd_X7_countOf ⟨Nat.le_of_ble_eq_true rfl, Nat.le_of_ble_eq_true rfl⟩ (As := [.int (zI 0)]) (rest := [.long (zL (31 * 757))]) rfl rfl (Nat.le_of_ble_eq_true rfl) dX7_digest_18 ⟨Nat.zero_le _, Nat.zero_le _⟩ (fun v w hq => ?_)
    obtain ⟨rfl, rfl⟩ := hq
    refine ⟨rfl, ?_⟩
    refine x_ws (ws' := [(mo, moE ad qt sc), (ad 0, aI G 66 b)]) (rfl) ?_
    refine x_i2l 22 rfl dX7_digest_21 (z := (zL ((n : Nat) : Int))) (by rw [show cntN b (sc 0) 0 = ((n : Nat) : Int) from hn]; exact zI_i2l (by omega)) ?_
    refine x_ladd 23 rfl dX7_digest_22 (z := (31 * 757) + ((n : Nat) : Int)) (rfl) ?_
    refine x_lstore_n 24 rfl (lv' := [(1, .long (zL ((31 * 757) + ((n : Nat) : Int)))), (3, .int (zI 0)), (0, .ref mo)]) dX7_digest_23 (by decide) rfl ?_
    refine x_iinc 27 rfl (lv' := [(3, .int (zI 1)), (1, .long (zL ((31 * 757) + ((n : Nat) : Int)))), (0, .ref mo)]) dX7_digest_24 1 rfl (b := 1) (by decide) (by decide) rfl ?_
    refine x_goto dX7_digest_27 (tgt := 6) (by decide) ?_
    refine x_iload_n 7 rfl dX7_digest_6 0 rfl ?_
    refine x_iconst 8 rfl dX7_digest_7 (z := 4) (by decide) ?_
    refine x_icmp_ge 11 rfl (tgt := 30) dX7_digest_8 (by decide) (by decide) (by decide) (fun h8 => ?_) (fun h8 => ?_)
    · skip
      exact absurd h8 (by decide)
    · skip
      refine x_ldc2 14 rfl (v := zL 31) wX7_digest_cl69 dX7_digest_11 ?_
      refine x_lload_n 15 rfl dX7_digest_14 1 rfl ?_
      refine x_lmul 16 rfl dX7_digest_15 (z := 31 * ((31 * 757) + ((n : Nat) : Int))) (rfl) ?_
      refine x_aload_n 17 rfl dX7_digest_16 2 rfl ?_
      refine x_iload_n 18 rfl dX7_digest_17 0 rfl ?_
      refine x_callV 21 rfl (c_X7_countOf G mo ad qt sc b 1 (by omega)) [0, 1] rfl (by decide) 0 rfl rfl gX7_digest_X7_countOf rfl rfl rfl hd_X7_countOf ⟨Nat.le_of_ble_eq_true rfl, Nat.le_of_ble_eq_true rfl⟩ (As := [.int (zI 1)]) (rest := [.long (zL (31 * ((31 * 757) + ((n : Nat) : Int))))]) rfl rfl (Nat.le_of_ble_eq_true rfl) dX7_digest_18 ⟨Nat.zero_le _, Nat.zero_le _⟩ (fun v w hq => ?_)
      obtain ⟨rfl, rfl⟩ := hq
      refine ⟨rfl, ?_⟩
      refine x_ws (ws' := [(mo, moE ad qt sc), (ad 0, aI G 66 b)]) (rfl) ?_
      refine x_i2l 22 rfl dX7_digest_21 (z := (zL ((d : Nat) : Int))) (by rw [show cntN b (sc 0) 1 = ((d : Nat) : Int) from hd]; exact zI_i2l (by omega)) ?_
      refine x_ladd 23 rfl dX7_digest_22 (z := (31 * ((31 * 757) + ((n : Nat) : Int))) + ((d : Nat) : Int)) (rfl) ?_
      refine x_lstore_n 24 rfl (lv' := [(1, .long (zL ((31 * ((31 * 757) + ((n : Nat) : Int))) + ((d : Nat) : Int)))), (3, .int (zI 1)), (0, .ref mo)]) dX7_digest_23 (by decide) rfl ?_
      refine x_iinc 27 rfl (lv' := [(3, .int (zI 2)), (1, .long (zL ((31 * ((31 * 757) + ((n : Nat) : Int))) + ((d : Nat) : Int)))), (0, .ref mo)]) dX7_digest_24 1 rfl (b := 2) (by decide) (by decide) rfl ?_
      refine x_goto dX7_digest_27 (tgt := 6) (by decide) ?_
      refine x_iload_n 7 rfl dX7_digest_6 0 rfl ?_
      refine x_iconst 8 rfl dX7_digest_7 (z := 4) (by decide) ?_
      refine x_icmp_ge 11 rfl (tgt := 30) dX7_digest_8 (by decide) (by decide) (by decide) (fun h8 => ?_) (fun h8 => ?_)
      · skip
        exact absurd h8 (by decide)
      · skip
        refine x_ldc2 14 rfl (v := zL 31) wX7_digest_cl69 dX7_digest_11 ?_
        refine x_lload_n 15 rfl dX7_digest_14 1 rfl ?_
        refine x_lmul 16 rfl dX7_digest_15 (z := 31 * ((31 * ((31 * 757) + ((n : Nat) : Int))) + ((d : Nat) : Int))) (rfl) ?_
        refine x_aload_n 17 rfl dX7_digest_16 2 rfl ?_
        refine x_iload_n 18 rfl dX7_digest_17 0 rfl ?_
        refine x_callV 21 rfl (c_X7_countOf G mo ad qt sc b 2 (by omega)) [0, 1] rfl (by decide) 0 rfl rfl gX7_digest_X7_countOf rfl rfl rfl hd_X7_countOf ⟨Nat.le_of_ble_eq_true rfl, Nat.le_of_ble_eq_true rfl⟩ (As := [.int (zI 2)]) (rest := [.long (zL (31 * ((31 * ((31 * 757) + ((n : Nat) : Int))) + ((d : Nat) : Int))))]) rfl rfl (Nat.le_of_ble_eq_true rfl) dX7_digest_18 ⟨Nat.zero_le _, Nat.zero_le _⟩ (fun v w hq => ?_)
        obtain ⟨rfl, rfl⟩ := hq
        refine ⟨rfl, ?_⟩
        refine x_ws (ws' := [(mo, moE ad qt sc), (ad 0, aI G 66 b)]) (rfl) ?_
        refine x_i2l 22 rfl dX7_digest_21 (z := (zL ((c : Nat) : Int))) (by rw [show cntN b (sc 0) 2 = ((c : Nat) : Int) from hc]; exact zI_i2l (by omega)) ?_
        refine x_ladd 23 rfl dX7_digest_22 (z := (31 * ((31 * ((31 * 757) + ((n : Nat) : Int))) + ((d : Nat) : Int))) + ((c : Nat) : Int)) (rfl) ?_
        refine x_lstore_n 24 rfl (lv' := [(1, .long (zL ((31 * ((31 * ((31 * 757) + ((n : Nat) : Int))) + ((d : Nat) : Int))) + ((c : Nat) : Int)))), (3, .int (zI 2)), (0, .ref mo)]) dX7_digest_23 (by decide) rfl ?_
        refine x_iinc 27 rfl (lv' := [(3, .int (zI 3)), (1, .long (zL ((31 * ((31 * ((31 * 757) + ((n : Nat) : Int))) + ((d : Nat) : Int))) + ((c : Nat) : Int)))), (0, .ref mo)]) dX7_digest_24 1 rfl (b := 3) (by decide) (by decide) rfl ?_
        refine x_goto dX7_digest_27 (tgt := 6) (by decide) ?_
        refine x_iload_n 7 rfl dX7_digest_6 0 rfl ?_
        refine x_iconst 8 rfl dX7_digest_7 (z := 4) (by decide) ?_
        refine x_icmp_ge 11 rfl (tgt := 30) dX7_digest_8 (by decide) (by decide) (by decide) (fun h8 => ?_) (fun h8 => ?_)
        · skip
          exact absurd h8 (by decide)
        · skip
          refine x_ldc2 14 rfl (v := zL 31) wX7_digest_cl69 dX7_digest_11 ?_
          refine x_lload_n 15 rfl dX7_digest_14 1 rfl ?_
          refine x_lmul 16 rfl dX7_digest_15 (z := 31 * ((31 * ((31 * ((31 * 757) + ((n : Nat) : Int))) + ((d : Nat) : Int))) + ((c : Nat) : Int))) (rfl) ?_
          refine x_aload_n 17 rfl dX7_digest_16 2 rfl ?_
          refine x_iload_n 18 rfl dX7_digest_17 0 rfl ?_
          refine x_callV 21 rfl (c_X7_countOf G mo ad qt sc b 3 (by omega)) [0, 1] rfl (by decide) 0 rfl rfl gX7_digest_X7_countOf rfl rfl rfl hd_X7_countOf ⟨Nat.le_of_ble_eq_true rfl, Nat.le_of_ble_eq_true rfl⟩ (As := [.int (zI 3)]) (rest := [.long (zL (31 * ((31 * ((31 * ((31 * 757) + ((n : Nat) : Int))) + ((d : Nat) : Int))) + ((c : Nat) : Int))))]) rfl rfl (Nat.le_of_ble_eq_true rfl) dX7_digest_18 ⟨Nat.zero_le _, Nat.zero_le _⟩ (fun v w hq => ?_)
          obtain ⟨rfl, rfl⟩ := hq
          refine ⟨rfl, ?_⟩
          refine x_ws (ws' := [(mo, moE ad qt sc), (ad 0, aI G 66 b)]) (rfl) ?_
          refine x_i2l 22 rfl dX7_digest_21 (z := (zL (sc 0))) (zI_i2l hty) ?_
          refine x_ladd 23 rfl dX7_digest_22 (z := (31 * ((31 * ((31 * ((31 * 757) + ((n : Nat) : Int))) + ((d : Nat) : Int))) + ((c : Nat) : Int))) + (sc 0)) (rfl) ?_
          refine x_lstore_n 24 rfl (lv' := [(1, .long (zL ((31 * ((31 * ((31 * ((31 * 757) + ((n : Nat) : Int))) + ((d : Nat) : Int))) + ((c : Nat) : Int))) + (sc 0)))), (3, .int (zI 3)), (0, .ref mo)]) dX7_digest_23 (by decide) rfl ?_
          refine x_iinc 27 rfl (lv' := [(3, .int (zI 4)), (1, .long (zL ((31 * ((31 * ((31 * ((31 * 757) + ((n : Nat) : Int))) + ((d : Nat) : Int))) + ((c : Nat) : Int))) + (sc 0)))), (0, .ref mo)]) dX7_digest_24 1 rfl (b := 4) (by decide) (by decide) rfl ?_
          refine x_goto dX7_digest_27 (tgt := 6) (by decide) ?_
          refine x_iload_n 7 rfl dX7_digest_6 0 rfl ?_
          refine x_iconst 8 rfl dX7_digest_7 (z := 4) (by decide) ?_
          refine x_icmp_ge 11 rfl (tgt := 30) dX7_digest_8 (by decide) (by decide) (by decide) (fun h8 => ?_) (fun h8 => ?_)
          · skip
            refine x_aload_n 31 rfl dX7_digest_30 2 rfl ?_
            refine x_lload_n 32 rfl dX7_digest_31 1 rfl ?_
            refine x_iconst 33 rfl dX7_digest_32 (z := 0) (by decide) ?_
            refine x_bipush 35 rfl dX7_digest_33 (z := 15) (by decide) ?_
            refine x_callV 38 rfl (c_X7_mixed G mo ad qt sc b ((31 * ((31 * ((31 * ((31 * 757) + ((n : Nat) : Int))) + ((d : Nat) : Int))) + ((c : Nat) : Int))) + (sc 0)) 0 15 (by omega)  (fun j hj => by rw [Nat.zero_add]; have := I.w hj; omega)) [0, 1] rfl (by decide) 0 rfl rfl gX7_digest_X7_mixed rfl rfl rfl hd_X7_mixed ⟨Nat.le_of_ble_eq_true rfl, Nat.le_of_ble_eq_true rfl⟩ (As := [.long (zL ((31 * ((31 * ((31 * ((31 * 757) + ((n : Nat) : Int))) + ((d : Nat) : Int))) + ((c : Nat) : Int))) + (sc 0))), .int (zI 0), .int (zI 15)]) (rest := []) rfl rfl (Nat.le_of_ble_eq_true rfl) dX7_digest_35 ⟨Nat.zero_le _, Nat.zero_le _⟩ (fun v w hq => ?_)
            obtain ⟨rfl, rfl⟩ := hq
            refine ⟨rfl, ?_⟩
            refine x_ws (ws' := [(mo, moE ad qt sc), (ad 0, aI G 66 b)]) (rfl) ?_
            refine x_lstore_n 39 rfl (lv' := [(1, .long (zL (mxF b ((31 * ((31 * ((31 * ((31 * 757) + ((n : Nat) : Int))) + ((d : Nat) : Int))) + ((c : Nat) : Int))) + (sc 0)) 0 15))), (3, .int (zI 4)), (0, .ref mo)]) dX7_digest_38 (by decide) rfl ?_
            refine x_aload_n 40 rfl dX7_digest_39 2 rfl ?_
            refine x_lload_n 41 rfl dX7_digest_40 0 rfl ?_
            refine x_bipush 43 rfl dX7_digest_41 (z := 18) (by decide) ?_
            refine x_iconst 44 rfl dX7_digest_43 (z := 4) (by decide) ?_
            refine x_aload_n 45 rfl dX7_digest_44 2 rfl ?_
            refine x_get 48 rfl 0 0 rfl rfl (by decide) inX7_digest_X7 flX7_digest_7 rfl dX7_digest_45 ?_
            refine x_bipush 50 rfl dX7_digest_48 (z := 15) (by decide) ?_
            refine x_iald 51 rfl 1 15 rfl (⟨by omega, by omega⟩) (by decide) (v := ((n : Nat) : Int)) (hn) dX7_digest_50 ?_
            refine x_imul 52 rfl dX7_digest_51 (z := ((4 * n : Nat) : Int)) (by omega) ?_
            refine x_callV 55 rfl (c_X7_mixed G mo ad qt sc b (mxF b ((31 * ((31 * ((31 * ((31 * 757) + ((n : Nat) : Int))) + ((d : Nat) : Int))) + ((c : Nat) : Int))) + (sc 0)) 0 15) 18 (4 * n) (by omega)  (fun j hj => I32p I hj)) [0, 1] rfl (by decide) 0 rfl rfl gX7_digest_X7_mixed rfl rfl rfl hd_X7_mixed ⟨Nat.le_of_ble_eq_true rfl, Nat.le_of_ble_eq_true rfl⟩ (As := [.long (zL (mxF b ((31 * ((31 * ((31 * ((31 * 757) + ((n : Nat) : Int))) + ((d : Nat) : Int))) + ((c : Nat) : Int))) + (sc 0)) 0 15)), .int (zI 18), .int (zI ((4 * n : Nat) : Int))]) (rest := []) rfl rfl (Nat.le_of_ble_eq_true rfl) dX7_digest_52 ⟨Nat.zero_le _, Nat.zero_le _⟩ (fun v w hq => ?_)
            obtain ⟨rfl, rfl⟩ := hq
            refine ⟨rfl, ?_⟩
            refine x_ws (ws' := [(mo, moE ad qt sc), (ad 0, aI G 66 b)]) (rfl) ?_
            refine x_lstore_n 56 rfl (lv' := [(1, .long (zL (mxF b (mxF b ((31 * ((31 * ((31 * ((31 * 757) + ((n : Nat) : Int))) + ((d : Nat) : Int))) + ((c : Nat) : Int))) + (sc 0)) 0 15) 18 (4 * n)))), (3, .int (zI 4)), (0, .ref mo)]) dX7_digest_55 (by decide) rfl ?_
            refine x_aload_n 57 rfl dX7_digest_56 2 rfl ?_
            refine x_lload_n 58 rfl dX7_digest_57 0 rfl ?_
            refine x_bipush 60 rfl dX7_digest_58 (z := 46) (by decide) ?_
            refine x_iconst 61 rfl dX7_digest_60 (z := 2) (by decide) ?_
            refine x_aload_n 62 rfl dX7_digest_61 2 rfl ?_
            refine x_get 65 rfl 0 0 rfl rfl (by decide) inX7_digest_X7 flX7_digest_7 rfl dX7_digest_62 ?_
            refine x_bipush 67 rfl dX7_digest_65 (z := 16) (by decide) ?_
            refine x_iald 68 rfl 1 16 rfl (⟨by omega, by omega⟩) (by decide) (v := ((d : Nat) : Int)) (hd) dX7_digest_67 ?_
            refine x_imul 69 rfl dX7_digest_68 (z := ((2 * d : Nat) : Int)) (by omega) ?_
            refine x_callV 72 rfl (c_X7_mixed G mo ad qt sc b (mxF b (mxF b ((31 * ((31 * ((31 * ((31 * 757) + ((n : Nat) : Int))) + ((d : Nat) : Int))) + ((c : Nat) : Int))) + (sc 0)) 0 15) 18 (4 * n)) 46 (2 * d) (by omega)  (fun j hj => I32d I hj)) [0, 1] rfl (by decide) 0 rfl rfl gX7_digest_X7_mixed rfl rfl rfl hd_X7_mixed ⟨Nat.le_of_ble_eq_true rfl, Nat.le_of_ble_eq_true rfl⟩ (As := [.long (zL (mxF b (mxF b ((31 * ((31 * ((31 * ((31 * 757) + ((n : Nat) : Int))) + ((d : Nat) : Int))) + ((c : Nat) : Int))) + (sc 0)) 0 15) 18 (4 * n))), .int (zI 46), .int (zI ((2 * d : Nat) : Int))]) (rest := []) rfl rfl (Nat.le_of_ble_eq_true rfl) dX7_digest_69 ⟨Nat.zero_le _, Nat.zero_le _⟩ (fun v w hq => ?_)
            obtain ⟨rfl, rfl⟩ := hq
            refine ⟨rfl, ?_⟩
            refine x_ws (ws' := [(mo, moE ad qt sc), (ad 0, aI G 66 b)]) (rfl) ?_
            refine x_lstore_n 73 rfl (lv' := [(1, .long (zL (mxF b (mxF b (mxF b ((31 * ((31 * ((31 * ((31 * 757) + ((n : Nat) : Int))) + ((d : Nat) : Int))) + ((c : Nat) : Int))) + (sc 0)) 0 15) 18 (4 * n)) 46 (2 * d)))), (3, .int (zI 4)), (0, .ref mo)]) dX7_digest_72 (by decide) rfl ?_
            refine x_aload_n 74 rfl dX7_digest_73 2 rfl ?_
            refine x_lload_n 75 rfl dX7_digest_74 0 rfl ?_
            refine x_bipush 77 rfl dX7_digest_75 (z := 58) (by decide) ?_
            refine x_aload_n 78 rfl dX7_digest_77 2 rfl ?_
            refine x_get 81 rfl 0 0 rfl rfl (by decide) inX7_digest_X7 flX7_digest_7 rfl dX7_digest_78 ?_
            refine x_bipush 83 rfl dX7_digest_81 (z := 17) (by decide) ?_
            refine x_iald 84 rfl 1 17 rfl (⟨by omega, by omega⟩) (by decide) (v := ((c : Nat) : Int)) (hc) dX7_digest_83 ?_
            refine x_callV 87 rfl (c_X7_mixed G mo ad qt sc b (mxF b (mxF b (mxF b ((31 * ((31 * ((31 * ((31 * 757) + ((n : Nat) : Int))) + ((d : Nat) : Int))) + ((c : Nat) : Int))) + (sc 0)) 0 15) 18 (4 * n)) 46 (2 * d)) 58 c (by omega)  (fun j hj => by have := I.cc hj; omega)) [0, 1] rfl (by decide) 0 rfl rfl gX7_digest_X7_mixed rfl rfl rfl hd_X7_mixed ⟨Nat.le_of_ble_eq_true rfl, Nat.le_of_ble_eq_true rfl⟩ (As := [.long (zL (mxF b (mxF b (mxF b ((31 * ((31 * ((31 * ((31 * 757) + ((n : Nat) : Int))) + ((d : Nat) : Int))) + ((c : Nat) : Int))) + (sc 0)) 0 15) 18 (4 * n)) 46 (2 * d))), .int (zI 58), .int (zI ((c : Nat) : Int))]) (rest := []) rfl rfl (Nat.le_of_ble_eq_true rfl) dX7_digest_84 ⟨Nat.zero_le _, Nat.zero_le _⟩ (fun v w hq => ?_)
            obtain ⟨rfl, rfl⟩ := hq
            refine ⟨rfl, ?_⟩
            refine x_ws (ws' := [(mo, moE ad qt sc), (ad 0, aI G 66 b)]) (rfl) ?_
            refine x_lret rfl ?_ dX7_digest_87
            exact ⟨rfl, rfl⟩
          · skip
            exact absurd h8 (by decide)

abbrev P_X7_image (G : XG) (mo : Nat) (ad : Nat → Nat) (qt : Bool) (sc : Nat → Int) (b : Nat → Int) (rf : Nat → Int) (im : Nat → Int) (kp : Nat → Bool) (i : Int) : Option Value → va_W → Prop := fun r ws => r = some (.int (zI (rC (kG i) 1))) ∧ ws = [(mo, moE ad qt sc), (ad 0, aI G 66 b), (ad 4, aI G 3 (rfC qt rf (kG i))), (ad 1, aI G 132 (if kG i = 0 then imU im b i.toNat else im)), (ad 2, aZ G 2 (if kG i = 0 then zup kp i.toNat true else kp))]
abbrev W_X7_image (G : XG) (E : XE) (mo : Nat) (ad : Nat → Nat) (qt : Bool) (sc : Nat → Int) (b : Nat → Int) (rf : Nat → Int) (im : Nat → Int) (kp : Nat → Bool) (i : Int) (pc : Nat) (lv : List (Nat × Value)) (st : List Value) (ws : va_W) : Prop := Wx G E (rmL 2) cX7_image 3 RX7 wsX7_image (some .int) "image" 0 0 (P_X7_image G mo ad qt sc b rf im kp i) 0 0 pc lv st ws
theorem flX7_image_7 : Cond.fieldLink RX7 7 (TX7 0).1 (TX7 0).2.1 (TX7 0).2.2.1 ∈ wsX7_image := by decide +kernel
theorem flX7_image_13 : Cond.fieldLink RX7 13 (TX7 1).1 (TX7 1).2.1 (TX7 1).2.2.1 ∈ wsX7_image := by decide +kernel
theorem flX7_image_16 : Cond.fieldLink RX7 16 (TX7 2).1 (TX7 2).2.1 (TX7 2).2.2.1 ∈ wsX7_image := by decide +kernel
theorem inX7_image_X7 : ∀ w ∈ u_ws RX7 TX7 18, w ∈ wsX7_image := fun _ h => List.mem_cons_of_mem _ (List.mem_append_right _ h)
set_option maxHeartbeats 4000000 in
set_option maxRecDepth 100000 in
/-- image -/
theorem c_X7_image (G : XG) (mo : Nat) (ad : Nat → Nat) (qt : Bool) (sc : Nat → Int) (b rf im : Nat → Int) (kp : Nat → Bool) (i : Int) (h1 : Z32 i) : Con G yX7_image wsX7_image (rmL 2) 0 0 [.ref mo, .int (zI i)] ([(mo, moE ad qt sc), (ad 0, aI G 66 b), (ad 4, aI G 3 rf), (ad 1, aI G 132 im), (ad 2, aZ G 2 kp)]) (P_X7_image G mo ad qt sc b rf im kp i) := by
  refine x_start (cc := cX7_image) (nL := 3) (ret := (some .int)) (by decide) rfl (Nat.le_of_ble_eq_true rfl) (fun E => ?_)
  show W_X7_image G E mo ad qt sc b rf im kp i 0 [(0, .ref mo), (1, .int (zI i))] [] ([(mo, moE ad qt sc), (ad 0, aI G 66 b), (ad 4, aI G 3 rf), (ad 1, aI G 132 im), (ad 2, aZ G 2 kp)])
  refine x_iload_n 1 rfl dX7_image_0 1 rfl ?_
  refine x_i2l 2 rfl dX7_image_1 (z := (zL i)) (zI_i2l (by omega)) ?_
  refine x_lconst 3 rfl dX7_image_2 (z := 0) (by decide) ?_
  refine x_lconst 4 rfl dX7_image_3 (z := 1) (by decide) ?_
  refine x_callS0 7 rfl (c_X7_in G i 0 1 (by omega) (by omega) (by omega)) (fun _ _ h => h.2) gX7_image_X7_in rfl rfl rfl hd_X7_in ⟨Nat.le_of_ble_eq_true rfl, Nat.le_of_ble_eq_true rfl⟩ (As := [.long (zL i), .long (zL 0), .long (zL 1)]) (rest := []) rfl rfl (Nat.le_of_ble_eq_true rfl) dX7_image_4 ⟨Nat.zero_le _, Nat.zero_le _⟩ (fun v hq => ?_)
  obtain ⟨rfl, -⟩ := hq
  refine x_bif_ne 10 rfl (tgt := 15) dX7_image_7 (by decide) (fun h7 => ?_) (fun h7 => ?_)
  · have h7 := of_decide_eq_true h7
    obtain ⟨i, rfl⟩ : ∃ zk : Nat, i = (zk : Int) := ⟨Int.toNat i, by omega⟩
    refine x_iconst 16 rfl dX7_image_15 (z := 0) (by decide) ?_
    refine x_istore_n 17 rfl (lv' := [(2, .int (zI 0)), (0, .ref mo), (1, .int (zI ((i : Nat) : Int)))]) dX7_image_16 (by decide) rfl ?_
    have L17 : ∀ (f17 : Nat) (k : Nat) (f : Nat → Int) (hk1 : k ≤ 66) (hf : ∀ j, j < 132 → f j = if 66 * i ≤ j ∧ j < 66 * i + k then b (j - 66 * i) else im j), 66 - k < f17 → W_X7_image G E mo ad qt sc b rf im kp i 17 [(0, .ref mo), (1, .int (zI ((i : Nat) : Int))), (2, .int (zI ((k : Nat) : Int)))] [] ([(mo, moE ad qt sc), (ad 0, aI G 66 b), (ad 4, aI G 3 rf), (ad 1, aI G 132 f), (ad 2, aZ G 2 kp)]) := by
      intro f17
      induction f17 with
      | zero => intro k f hk1 hf hf17; exact absurd hf17 (Nat.not_lt_zero _)
      | succ f17 ih17 =>
        intro k f hk1 hf hf17
        refine x_iload_n 18 rfl dX7_image_17 2 rfl ?_
        refine x_bipush 20 rfl dX7_image_18 (z := 66) (by decide) ?_
        refine x_icmp_ge 23 rfl (tgt := 46) dX7_image_20 (by decide) (by omega) (by decide) (fun h20 => ?_) (fun h20 => ?_)
        · skip
          refine x_arr 3 rfl (fun j hj => by rw [hf j hj, show k = 66 by omega]; rfl) (ws' := [(mo, moE ad qt sc), (ad 0, aI G 66 b), (ad 4, aI G 3 rf), (ad 1, aI G 132 (imU im b i)), (ad 2, aZ G 2 kp)]) rfl ?_
          refine x_aload_n 47 rfl dX7_image_46 0 rfl ?_
          refine x_get 50 rfl 0 2 rfl rfl (by decide) inX7_image_X7 flX7_image_16 rfl dX7_image_47 ?_
          refine x_iload_n 51 rfl dX7_image_50 1 rfl ?_
          refine x_iconst 52 rfl dX7_image_51 (z := 1) (by decide) ?_
          refine x_int (y := (zB true)) (rfl) ?_
          refine x_zast 53 rfl 4 i rfl (⟨by omega, by omega⟩) (by decide) (ws' := [(mo, moE ad qt sc), (ad 0, aI G 66 b), (ad 4, aI G 3 rf), (ad 1, aI G 132 (imU im b i)), (ad 2, aZ G 2 (zup kp i true))]) (rfl) dX7_image_52 ?_
          refine x_iconst 54 rfl dX7_image_53 (z := 1) (by decide) ?_
          refine x_iret rfl ?_ dX7_image_54
          have hk : kG i = 0 := by unfold kG; exact if_pos (by omega)
          exact ⟨by rw [hk]; rfl, by rw [hk]; rfl⟩
        · skip
          refine x_aload_n 24 rfl dX7_image_23 0 rfl ?_
          refine x_get 27 rfl 0 1 rfl rfl (by decide) inX7_image_X7 flX7_image_13 rfl dX7_image_24 ?_
          refine x_bipush 29 rfl dX7_image_27 (z := 66) (by decide) ?_
          refine x_iload_n 30 rfl dX7_image_29 1 rfl ?_
          refine x_imul 31 rfl dX7_image_30 (z := ((66 * i : Nat) : Int)) (by omega) ?_
          refine x_iload_n 32 rfl dX7_image_31 2 rfl ?_
          refine x_iadd 33 rfl dX7_image_32 (z := ((66 * i + k : Nat) : Int)) (by omega) ?_
          refine x_aload_n 34 rfl dX7_image_33 0 rfl ?_
          refine x_get 37 rfl 0 0 rfl rfl (by decide) inX7_image_X7 flX7_image_7 rfl dX7_image_34 ?_
          refine x_iload_n 38 rfl dX7_image_37 2 rfl ?_
          refine x_iald 39 rfl 1 k rfl (⟨by omega, by omega⟩) (by decide) (v := b k) (rfl) dX7_image_38 ?_
          refine x_iast 40 rfl 3 (66 * i + k) rfl (⟨by omega, by omega⟩) (by decide) (ws' := [(mo, moE ad qt sc), (ad 0, aI G 66 b), (ad 4, aI G 3 rf), (ad 1, aI G 132 (zup f (66 * i + k) (b k))), (ad 2, aZ G 2 kp)]) (rfl) dX7_image_39 ?_
          refine x_iinc 43 rfl (lv' := [(2, .int (zI ((k + 1 : Nat) : Int))), (0, .ref mo), (1, .int (zI ((i : Nat) : Int)))]) dX7_image_40 2 rfl (b := ((k + 1 : Nat) : Int)) (by omega) (by decide) rfl ?_
          refine x_goto dX7_image_43 (tgt := 17) (by decide) ?_
          refine x_lv [1, 2, 0] rfl ?_
          exact ih17 (k + 1) (zup f (66 * i + k) (b k)) (by omega) (fun j hj => by
              by_cases e : j = 66 * i + k
              · subst e; rw [zup_s, if_pos (by omega)]; exact congrArg b (by omega)
              · rw [zup_n _ _ e, hf j hj]; by_cases e2 : 66 * i ≤ j ∧ j < 66 * i + k
                · rw [if_pos e2, if_pos (by omega)]
                · rw [if_neg e2, if_neg (by omega)]) (by omega)
    refine x_lv [1, 2, 0] rfl ?_
    exact L17 _ 0 im (by omega) (fun j _ => (if_neg (by omega)).symm) (Nat.lt_succ_self _)
  · have h7 := of_decide_eq_false h7
    refine x_aload_n 11 rfl dX7_image_10 0 rfl ?_
    refine x_callV 14 rfl (c_X7_bad G mo ad qt sc rf) [0, 2] rfl (by decide) 0 rfl rfl gX7_image_X7_bad rfl rfl rfl hd_X7_bad ⟨Nat.le_of_ble_eq_true rfl, Nat.le_of_ble_eq_true rfl⟩ (As := []) (rest := []) rfl rfl (Nat.le_of_ble_eq_true rfl) dX7_image_11 ⟨Nat.zero_le _, Nat.zero_le _⟩ (fun v w hq => ?_)
    obtain ⟨rfl, rfl⟩ := hq
    refine ⟨rfl, ?_⟩
    refine x_ws (ws' := [(mo, moE ad qt sc), (ad 0, aI G 66 b), (ad 4, aI G 3 (rfU qt rf 0)), (ad 1, aI G 132 im), (ad 2, aZ G 2 kp)]) (rfl) ?_
    refine x_iret rfl ?_ dX7_image_14
    have hk : kG i = 1 := by unfold kG; exact if_neg (by omega)
    exact ⟨by rw [hk]; rfl, by rw [hk]; rfl⟩

abbrev P_X7_from (G : XG) (mo : Nat) (ad : Nat → Nat) (qt : Bool) (sc : Nat → Int) (b : Nat → Int) (rf : Nat → Int) (im : Nat → Int) (kp : Nat → Bool) (i : Int) : Option Value → va_W → Prop := fun r ws => r = some (.int (zI (rC (kFr kp i) 1))) ∧ ws = [(mo, moE ad qt sc), (ad 0, aI G 66 (if kFr kp i = 0 then bFr im i.toNat else b)), (ad 4, aI G 3 (rfC qt rf (kFr kp i))), (ad 1, aI G 132 im), (ad 2, aZ G 2 kp)]
abbrev W_X7_from (G : XG) (E : XE) (mo : Nat) (ad : Nat → Nat) (qt : Bool) (sc : Nat → Int) (b : Nat → Int) (rf : Nat → Int) (im : Nat → Int) (kp : Nat → Bool) (i : Int) (pc : Nat) (lv : List (Nat × Value)) (st : List Value) (ws : va_W) : Prop := Wx G E (rmL 2) cX7_from 3 RX7 wsX7_from (some .int) "from" 0 0 (P_X7_from G mo ad qt sc b rf im kp i) 0 0 pc lv st ws
theorem flX7_from_7 : Cond.fieldLink RX7 7 (TX7 0).1 (TX7 0).2.1 (TX7 0).2.2.1 ∈ wsX7_from := by decide +kernel
theorem flX7_from_13 : Cond.fieldLink RX7 13 (TX7 1).1 (TX7 1).2.1 (TX7 1).2.2.1 ∈ wsX7_from := by decide +kernel
theorem flX7_from_16 : Cond.fieldLink RX7 16 (TX7 2).1 (TX7 2).2.1 (TX7 2).2.2.1 ∈ wsX7_from := by decide +kernel
theorem inX7_from_X7 : ∀ w ∈ u_ws RX7 TX7 18, w ∈ wsX7_from := fun _ h => List.mem_cons_of_mem _ (List.mem_append_right _ h)
set_option maxHeartbeats 4000000 in
set_option maxRecDepth 100000 in
/-- from -/
theorem c_X7_from (G : XG) (mo : Nat) (ad : Nat → Nat) (qt : Bool) (sc : Nat → Int) (b rf im : Nat → Int) (kp : Nat → Bool) (i : Int) (h1 : Z32 i) : Con G yX7_from wsX7_from (rmL 2) 0 0 [.ref mo, .int (zI i)] ([(mo, moE ad qt sc), (ad 0, aI G 66 b), (ad 4, aI G 3 rf), (ad 1, aI G 132 im), (ad 2, aZ G 2 kp)]) (P_X7_from G mo ad qt sc b rf im kp i) := by
  refine x_start (cc := cX7_from) (nL := 3) (ret := (some .int)) (by decide) rfl (Nat.le_of_ble_eq_true rfl) (fun E => ?_)
  show W_X7_from G E mo ad qt sc b rf im kp i 0 [(0, .ref mo), (1, .int (zI i))] [] ([(mo, moE ad qt sc), (ad 0, aI G 66 b), (ad 4, aI G 3 rf), (ad 1, aI G 132 im), (ad 2, aZ G 2 kp)])
  refine x_iload_n 1 rfl dX7_from_0 1 rfl ?_
  refine x_i2l 2 rfl dX7_from_1 (z := (zL i)) (zI_i2l (by omega)) ?_
  refine x_lconst 3 rfl dX7_from_2 (z := 0) (by decide) ?_
  refine x_lconst 4 rfl dX7_from_3 (z := 1) (by decide) ?_
  refine x_callS0 7 rfl (c_X7_in G i 0 1 (by omega) (by omega) (by omega)) (fun _ _ h => h.2) gX7_from_X7_in rfl rfl rfl hd_X7_in ⟨Nat.le_of_ble_eq_true rfl, Nat.le_of_ble_eq_true rfl⟩ (As := [.long (zL i), .long (zL 0), .long (zL 1)]) (rest := []) rfl rfl (Nat.le_of_ble_eq_true rfl) dX7_from_4 ⟨Nat.zero_le _, Nat.zero_le _⟩ (fun v hq => ?_)
  obtain ⟨rfl, -⟩ := hq
  refine x_bif_ne 10 rfl (tgt := 15) dX7_from_7 (by decide) (fun h7 => ?_) (fun h7 => ?_)
  · have h7 := of_decide_eq_true h7
    obtain ⟨i, rfl⟩ : ∃ zk : Nat, i = (zk : Int) := ⟨Int.toNat i, by omega⟩
    refine x_aload_n 16 rfl dX7_from_15 0 rfl ?_
    refine x_get 19 rfl 0 2 rfl rfl (by decide) inX7_from_X7 flX7_from_16 rfl dX7_from_16 ?_
    refine x_iload_n 20 rfl dX7_from_19 1 rfl ?_
    refine x_zald 21 rfl 4 i rfl (⟨by omega, by omega⟩) (by decide) (v := kp i) (rfl) dX7_from_20 ?_
    refine x_bif_ne 24 rfl (tgt := 29) dX7_from_21 (by decide) (fun h21 => ?_) (fun h21 => ?_)
    · skip
      refine x_iconst 30 rfl dX7_from_29 (z := 0) (by decide) ?_
      refine x_istore_n 31 rfl (lv' := [(2, .int (zI 0)), (0, .ref mo), (1, .int (zI ((i : Nat) : Int)))]) dX7_from_30 (by decide) rfl ?_
      have L31 : ∀ (f31 : Nat) (k : Nat) (f : Nat → Int) (hk1 : k ≤ 66) (hf : ∀ j, j < k → f j = bFr im i j), 66 - k < f31 → W_X7_from G E mo ad qt sc b rf im kp i 31 [(0, .ref mo), (1, .int (zI ((i : Nat) : Int))), (2, .int (zI ((k : Nat) : Int)))] [] ([(mo, moE ad qt sc), (ad 0, aI G 66 f), (ad 4, aI G 3 rf), (ad 1, aI G 132 im), (ad 2, aZ G 2 kp)]) := by
        intro f31
        induction f31 with
        | zero => intro k f hk1 hf hf31; exact absurd hf31 (Nat.not_lt_zero _)
        | succ f31 ih31 =>
          intro k f hk1 hf hf31
          refine x_iload_n 32 rfl dX7_from_31 2 rfl ?_
          refine x_bipush 34 rfl dX7_from_32 (z := 66) (by decide) ?_
          refine x_icmp_ge 37 rfl (tgt := 60) dX7_from_34 (by decide) (by omega) (by decide) (fun h34 => ?_) (fun h34 => ?_)
          · skip
            refine x_arr 1 rfl (fun j hj => hf j (by omega)) (ws' := [(mo, moE ad qt sc), (ad 0, aI G 66 (bFr im i)), (ad 4, aI G 3 rf), (ad 1, aI G 132 im), (ad 2, aZ G 2 kp)]) rfl ?_
            refine x_iconst 61 rfl dX7_from_60 (z := 1) (by decide) ?_
            refine x_iret rfl ?_ dX7_from_61
            have hk : kFr kp i = 0 := by unfold kFr; rw [if_pos (by omega)]; exact if_pos h21
            exact ⟨by rw [hk]; rfl, by rw [hk]; rfl⟩
          · skip
            refine x_aload_n 38 rfl dX7_from_37 0 rfl ?_
            refine x_get 41 rfl 0 0 rfl rfl (by decide) inX7_from_X7 flX7_from_7 rfl dX7_from_38 ?_
            refine x_iload_n 42 rfl dX7_from_41 2 rfl ?_
            refine x_aload_n 43 rfl dX7_from_42 0 rfl ?_
            refine x_get 46 rfl 0 1 rfl rfl (by decide) inX7_from_X7 flX7_from_13 rfl dX7_from_43 ?_
            refine x_bipush 48 rfl dX7_from_46 (z := 66) (by decide) ?_
            refine x_iload_n 49 rfl dX7_from_48 1 rfl ?_
            refine x_imul 50 rfl dX7_from_49 (z := ((66 * i : Nat) : Int)) (by omega) ?_
            refine x_iload_n 51 rfl dX7_from_50 2 rfl ?_
            refine x_iadd 52 rfl dX7_from_51 (z := ((66 * i + k : Nat) : Int)) (by omega) ?_
            refine x_iald 53 rfl 3 (66 * i + k) rfl (⟨by omega, by omega⟩) (by decide) (v := im (66 * i + k)) (rfl) dX7_from_52 ?_
            refine x_iast 54 rfl 1 k rfl (⟨by omega, by omega⟩) (by decide) (ws' := [(mo, moE ad qt sc), (ad 0, aI G 66 (zup f k (im (66 * i + k)))), (ad 4, aI G 3 rf), (ad 1, aI G 132 im), (ad 2, aZ G 2 kp)]) (rfl) dX7_from_53 ?_
            refine x_iinc 57 rfl (lv' := [(2, .int (zI ((k + 1 : Nat) : Int))), (0, .ref mo), (1, .int (zI ((i : Nat) : Int)))]) dX7_from_54 2 rfl (b := ((k + 1 : Nat) : Int)) (by omega) (by decide) rfl ?_
            refine x_goto dX7_from_57 (tgt := 31) (by decide) ?_
            refine x_lv [1, 2, 0] rfl ?_
            exact ih31 (k + 1) (zup f k (im (66 * i + k))) (by omega) (fun j hj => by
                by_cases e : j = k
                · subst e; rw [zup_s]; rfl
                · rw [zup_n _ _ e]; exact hf j (by omega)) (by omega)
      refine x_lv [1, 2, 0] rfl ?_
      exact L31 _ 0 b (by omega) (fun j hj => absurd hj (Nat.not_lt_zero _)) (Nat.lt_succ_self _)
    · skip
      refine x_aload_n 25 rfl dX7_from_24 0 rfl ?_
      refine x_callV 28 rfl (c_X7_no G mo ad qt sc rf) [0, 2] rfl (by decide) 0 rfl rfl gX7_from_X7_no rfl rfl rfl hd_X7_no ⟨Nat.le_of_ble_eq_true rfl, Nat.le_of_ble_eq_true rfl⟩ (As := []) (rest := []) rfl rfl (Nat.le_of_ble_eq_true rfl) dX7_from_25 ⟨Nat.zero_le _, Nat.zero_le _⟩ (fun v w hq => ?_)
      obtain ⟨rfl, rfl⟩ := hq
      refine ⟨rfl, ?_⟩
      refine x_ws (ws' := [(mo, moE ad qt sc), (ad 0, aI G 66 b), (ad 4, aI G 3 (rfU qt rf 1)), (ad 1, aI G 132 im), (ad 2, aZ G 2 kp)]) (rfl) ?_
      refine x_iret rfl ?_ dX7_from_28
      have hk : kFr kp i = 2 := by unfold kFr; rw [if_pos (by omega)]; exact if_neg (fun hh => by rw [show Int.toNat (i : Int) = i from rfl, h21] at hh; cases hh)
      exact ⟨by rw [hk]; rfl, by rw [hk]; rfl⟩
  · have h7 := of_decide_eq_false h7
    refine x_aload_n 11 rfl dX7_from_10 0 rfl ?_
    refine x_callV 14 rfl (c_X7_bad G mo ad qt sc rf) [0, 2] rfl (by decide) 0 rfl rfl gX7_from_X7_bad rfl rfl rfl hd_X7_bad ⟨Nat.le_of_ble_eq_true rfl, Nat.le_of_ble_eq_true rfl⟩ (As := []) (rest := []) rfl rfl (Nat.le_of_ble_eq_true rfl) dX7_from_11 ⟨Nat.zero_le _, Nat.zero_le _⟩ (fun v w hq => ?_)
    obtain ⟨rfl, rfl⟩ := hq
    refine ⟨rfl, ?_⟩
    refine x_ws (ws' := [(mo, moE ad qt sc), (ad 0, aI G 66 b), (ad 4, aI G 3 (rfU qt rf 0)), (ad 1, aI G 132 im), (ad 2, aZ G 2 kp)]) (rfl) ?_
    refine x_iret rfl ?_ dX7_from_14
    have hk : kFr kp i = 1 := by unfold kFr; exact if_neg (by omega)
    exact ⟨by rw [hk]; rfl, by rw [hk]; rfl⟩

