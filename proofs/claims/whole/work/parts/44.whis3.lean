section XR3
variable {G : XG} {E : XE} {R : Room} {cc : ByteArray} {nL : Nat} {own : String} {Ts : List Cond} {ret : Option FieldType} {nm : String} {mc ms : Nat} {Post : Option Value → va_W → Prop} {cells slots pc : Nat} {lv lv' : List (Nat × Value)} {st : List Value} {ws ws' : va_W}
theorem x_iushr (pc' : Nat) (hp : pc + 1 = pc') {x y : Int32} {z : Int} (hdg : decode cc pc = .ok (.iushr, 1)) (hz : (x.toUInt32 >>> (y.toUInt32 &&& Int32.toUInt32 31)).toInt32 = zI z) (kk : Wx G E R cc nL own Ts ret nm mc ms Post cells slots pc' lv (.int (zI z) :: st) ws) : Wx G E R cc nL own Ts ret nm mc ms Post cells slots pc lv (.int y :: .int x :: st) ws := by
  subst hp
  exact fun C H locs ls hP hD hS hl => lv_iushr C.1 C.2.1 hdg hz (kk C H locs ls hP hD hS hl)
theorem x_ldcw (pc' : Nat) (hp : pc + 3 = pc') {index : Nat} {v : Int32} (hw : Cond.constant own index v ∈ Ts) (hdg : decode cc pc = .ok (.ldc_w index, 3)) (kk : Wx G E R cc nL own Ts ret nm mc ms Post cells slots pc' lv (.int v :: st) ws) : Wx G E R cc nL own Ts ret nm mc ms Post cells slots pc lv (st) ws := by
  subst hp
  exact fun C H locs ls hP hD hS hl => lv_ldcw C.1 C.2.1 C.2.2.2.1 (C.2.2.2.2.1 _ hw) hdg (kk C H locs ls hP hD hS hl)
end XR3
def ush (a k : Int) : Int := Int32.toInt ((zI a).toUInt32 >>> ((zI k).toUInt32 &&& Int32.toUInt32 31)).toInt32
def ban (a m : Int) : Int := Int32.toInt (zI a &&& zI m)
theorem ush_e (a k : Int) : ((zI a).toUInt32 >>> ((zI k).toUInt32 &&& Int32.toUInt32 31)).toInt32 = zI (ush a k) := (Int32.ofInt_toInt _).symm
theorem ban_e (a m : Int) : zI a &&& zI m = zI (ban a m) := (Int32.ofInt_toInt _).symm
def bc1 (s : Nat) : Int := (s : Int) - ban (ush (s : Int) 1) 1431655765
def bc2 (s : Nat) : Int := ban (bc1 s) 858993459 + ban (ush (bc1 s) 2) 858993459
def bc3 (s : Nat) : Int := ban (bc2 s + ush (bc2 s) 4) 252645135
def bc4 (s : Nat) : Int := bc3 s + ush (bc3 s) 8
def bc5 (s : Nat) : Int := bc4 s + ush (bc4 s) 16
def bc6 (s : Nat) : Int := ban (bc5 s) 63
theorem bc_b : (List.range 128).all (fun s => decide (bc6 s = ((pcF s 7 : Nat) : Int))) = true := by decide +kernel
theorem bc_pc {s : Nat} (h : s < 128) : bc6 s = ((pcF s 7 : Nat) : Int) := of_decide_eq_true (all_r bc_b h)
theorem hd_J6_bitCount_0f7a4 : yJ6_bitCount_0f7a4.cls ≠ "java/lang/invoke/MethodHandle" ∧ yJ6_bitCount_0f7a4.cls ≠ "java/lang/invoke/VarHandle" ∧ (parseMethodDescriptor yJ6_bitCount_0f7a4.desc).map (fun d => d.parameters.length) = some 1 := by decide +kernel
abbrev P_J6_bitCount_0f7a4 (G : XG) (s : Nat) : Option Value → va_W → Prop := fun r ws => r = some (.int (zI ((pcF s 7 : Nat) : Int))) ∧ ws = []
abbrev W_J6_bitCount_0f7a4 (G : XG) (E : XE) (s : Nat) (pc : Nat) (lv : List (Nat × Value)) (st : List Value) (ws : va_W) : Prop := Wx G E (rmL 0) cJ6_bitCount_0f7a4 1 RJ6 wsJ6_bitCount_0f7a4 (some .int) "bitCount" 0 0 (P_J6_bitCount_0f7a4 G s) 0 0 pc lv st ws
theorem wJ6_bitCount_0f7a4_ci265 : Cond.constant RJ6 265 (zI 1431655765) ∈ wsJ6_bitCount_0f7a4 := by decide +kernel
theorem wJ6_bitCount_0f7a4_ci266 : Cond.constant RJ6 266 (zI 858993459) ∈ wsJ6_bitCount_0f7a4 := by decide +kernel
theorem wJ6_bitCount_0f7a4_ci267 : Cond.constant RJ6 267 (zI 252645135) ∈ wsJ6_bitCount_0f7a4 := by decide +kernel
set_option maxHeartbeats 4000000 in
set_option maxRecDepth 100000 in
/-- Integer.bitCount, of a few bits -/
theorem c_J6_bitCount_0f7a4 (G : XG) (s : Nat) (hs : s < 128) : Con G yJ6_bitCount_0f7a4 wsJ6_bitCount_0f7a4 (rmL 0) 0 0 [.int (zI ((s : Nat) : Int))] ([]) (P_J6_bitCount_0f7a4 G s) := by
  refine x_start (cc := cJ6_bitCount_0f7a4) (nL := 1) (ret := (some .int)) (by decide) rfl (Nat.le_of_ble_eq_true rfl) (fun E => ?_)
  show W_J6_bitCount_0f7a4 G E s 0 [(0, .int (zI ((s : Nat) : Int)))] [] ([])
  refine x_iload_n 1 rfl dJ6_bitCount_0f7a4_0 0 rfl ?_
  refine x_iload_n 2 rfl dJ6_bitCount_0f7a4_1 0 rfl ?_
  refine x_iconst 3 rfl dJ6_bitCount_0f7a4_2 (z := 1) (by decide) ?_
  refine x_iushr 4 rfl dJ6_bitCount_0f7a4_3 (z := ush ((s : Nat) : Int) 1) (ush_e _ _) ?_
  refine x_ldcw 7 rfl (v := zI 1431655765) wJ6_bitCount_0f7a4_ci265 dJ6_bitCount_0f7a4_4 ?_
  refine x_iand 8 rfl dJ6_bitCount_0f7a4_7 (z := ban (ush ((s : Nat) : Int) 1) 1431655765) (ban_e _ _) ?_
  refine x_isub 9 rfl dJ6_bitCount_0f7a4_8 (z := bc1 s) (rfl) ?_
  refine x_istore_n 10 rfl (lv' := [(0, .int (zI (bc1 s)))]) dJ6_bitCount_0f7a4_9 (by decide) rfl ?_
  refine x_iload_n 11 rfl dJ6_bitCount_0f7a4_10 0 rfl ?_
  refine x_ldcw 14 rfl (v := zI 858993459) wJ6_bitCount_0f7a4_ci266 dJ6_bitCount_0f7a4_11 ?_
  refine x_iand 15 rfl dJ6_bitCount_0f7a4_14 (z := ban (bc1 s) 858993459) (ban_e _ _) ?_
  refine x_iload_n 16 rfl dJ6_bitCount_0f7a4_15 0 rfl ?_
  refine x_iconst 17 rfl dJ6_bitCount_0f7a4_16 (z := 2) (by decide) ?_
  refine x_iushr 18 rfl dJ6_bitCount_0f7a4_17 (z := ush (bc1 s) 2) (ush_e _ _) ?_
  refine x_ldcw 21 rfl (v := zI 858993459) wJ6_bitCount_0f7a4_ci266 dJ6_bitCount_0f7a4_18 ?_
  refine x_iand 22 rfl dJ6_bitCount_0f7a4_21 (z := ban (ush (bc1 s) 2) 858993459) (ban_e _ _) ?_
  refine x_iadd 23 rfl dJ6_bitCount_0f7a4_22 (z := bc2 s) (rfl) ?_
  refine x_istore_n 24 rfl (lv' := [(0, .int (zI (bc2 s)))]) dJ6_bitCount_0f7a4_23 (by decide) rfl ?_
  refine x_iload_n 25 rfl dJ6_bitCount_0f7a4_24 0 rfl ?_
  refine x_iload_n 26 rfl dJ6_bitCount_0f7a4_25 0 rfl ?_
  refine x_iconst 27 rfl dJ6_bitCount_0f7a4_26 (z := 4) (by decide) ?_
  refine x_iushr 28 rfl dJ6_bitCount_0f7a4_27 (z := ush (bc2 s) 4) (ush_e _ _) ?_
  refine x_iadd 29 rfl dJ6_bitCount_0f7a4_28 (z := (bc2 s) + (ush (bc2 s) 4)) (rfl) ?_
  refine x_ldcw 32 rfl (v := zI 252645135) wJ6_bitCount_0f7a4_ci267 dJ6_bitCount_0f7a4_29 ?_
  refine x_iand 33 rfl dJ6_bitCount_0f7a4_32 (z := bc3 s) (ban_e _ _) ?_
  refine x_istore_n 34 rfl (lv' := [(0, .int (zI (bc3 s)))]) dJ6_bitCount_0f7a4_33 (by decide) rfl ?_
  refine x_iload_n 35 rfl dJ6_bitCount_0f7a4_34 0 rfl ?_
  refine x_iload_n 36 rfl dJ6_bitCount_0f7a4_35 0 rfl ?_
  refine x_bipush 38 rfl dJ6_bitCount_0f7a4_36 (z := 8) (by decide) ?_
  refine x_iushr 39 rfl dJ6_bitCount_0f7a4_38 (z := ush (bc3 s) 8) (ush_e _ _) ?_
  refine x_iadd 40 rfl dJ6_bitCount_0f7a4_39 (z := bc4 s) (rfl) ?_
  refine x_istore_n 41 rfl (lv' := [(0, .int (zI (bc4 s)))]) dJ6_bitCount_0f7a4_40 (by decide) rfl ?_
  refine x_iload_n 42 rfl dJ6_bitCount_0f7a4_41 0 rfl ?_
  refine x_iload_n 43 rfl dJ6_bitCount_0f7a4_42 0 rfl ?_
  refine x_bipush 45 rfl dJ6_bitCount_0f7a4_43 (z := 16) (by decide) ?_
  refine x_iushr 46 rfl dJ6_bitCount_0f7a4_45 (z := ush (bc4 s) 16) (ush_e _ _) ?_
  refine x_iadd 47 rfl dJ6_bitCount_0f7a4_46 (z := bc5 s) (rfl) ?_
  refine x_istore_n 48 rfl (lv' := [(0, .int (zI (bc5 s)))]) dJ6_bitCount_0f7a4_47 (by decide) rfl ?_
  refine x_iload_n 49 rfl dJ6_bitCount_0f7a4_48 0 rfl ?_
  refine x_bipush 51 rfl dJ6_bitCount_0f7a4_49 (z := 63) (by decide) ?_
  refine x_iand 52 rfl dJ6_bitCount_0f7a4_51 (z := ((pcF s 7 : Nat) : Int)) (by rw [← bc_pc hs]; exact ban_e _ _) ?_
  refine x_iret rfl ?_ dJ6_bitCount_0f7a4_52
  exact ⟨rfl, rfl⟩

theorem not7_b : (List.range 128).all (fun s => decide (zI ((s : Nat) : Int) ^^^ zI (-1) = zI (-1 - ((s : Nat) : Int)))) = true := by decide +kernel
theorem not7 {s : Nat} (h : s < 128) : zI ((s : Nat) : Int) ^^^ zI (-1) = zI (-1 - ((s : Nat) : Int)) := of_decide_eq_true (all_r not7_b h)
theorem clr7_b : (List.range 128).all (fun m => (List.range 128).all (fun s => decide (zI ((m : Nat) : Int) &&& zI (-1 - ((s : Nat) : Int)) = zI ((m &&& (127 - s) : Nat) : Int)))) = true := by decide +kernel
theorem clr7 {m s : Nat} (hm : m < 128) (hs : s < 128) : zI ((m : Nat) : Int) &&& zI (-1 - ((s : Nat) : Int)) = zI ((m &&& (127 - s) : Nat) : Int) := of_decide_eq_true (all_r (all_r clr7_b hm) hs)
theorem tb_127 {s i : Nat} (hs : s < 128) : (127 - s).testBit i = (decide (i < 7) && !s.testBit i) := by
  have h := Nat.testBit_two_pow_sub_succ (x := s) (n := 7) hs i
  rw [show 2 ^ 7 - (s + 1) = 127 - s by omega] at h
  exact h
theorem bit_1 {s i : Nat} : s / 2 ^ i % 2 = 1 ↔ s.testBit i = true := by rw [Nat.testBit_eq_decide_div_mod_eq, decide_eq_true_iff]
theorem clP_sym (b : Nat → Int) (x y : Nat) : clP b x y = clP b y x := by
  show (tkP b x y || tkP b y x) = (tkP b y x || tkP b x y)
  exact Bool.or_comm _ _
theorem clG_of {b : Nat → Int} {x y : Nat} (h : x ≠ y) : clG b x y = clP b x y := by unfold clG; rw [decide_eq_true h]; rfl
def ipF (b : Nat → Int) (n s a : Nat) : Bool := decide (s / 2 ^ a % 2 = 1) || decide (bitF (clG b a) n &&& (127 - s) = 0)
theorem ip_ok {b : Nat → Int} {n s : Nat} (hn : n ≤ 7) (hs : s < 128) : allF (ipF b n s) n = alOk b n s := by
  have key : allF (ipF b n s) n = true ↔ alOk b n s = true := by
    unfold alOk
    rw [allF_iff, allF_iff]
    constructor
    · intro h a ha
      unfold alA
      rw [allF_iff]
      intro j hj
      by_cases h1 : s / 2 ^ a % 2 = 1
      · exact alI_1 h1
      · by_cases h2 : s / 2 ^ (a + 1 + j) % 2 = 1
        · exact alI_2 h2
        · have h3 := h a ha
          unfold ipF at h3
          rw [decide_eq_false h1, Bool.false_or, decide_eq_true_iff] at h3
          refine alI_3 ?_
          cases hc : clP b a (a + 1 + j) with
          | false => rfl
          | true =>
            exfalso
            have e : (bitF (clG b a) n &&& (127 - s)).testBit (a + 1 + j) = true := by
              rw [Nat.testBit_and, bitF_test, tb_127 hs, clG_of (by omega), hc, decide_eq_true (show a + 1 + j < n by omega), decide_eq_true (show a + 1 + j < 7 by omega)]
              cases ht : s.testBit (a + 1 + j) with
              | false => rfl
              | true => exact absurd (bit_1.mpr ht) h2
            rw [h3, Nat.zero_testBit] at e; cases e
    · intro h a ha
      unfold ipF
      by_cases h1 : s / 2 ^ a % 2 = 1
      · rw [decide_eq_true h1]; rfl
      · rw [decide_eq_false h1, Bool.false_or, decide_eq_true_iff]
        apply Nat.eq_of_testBit_eq
        intro i
        rw [Nat.zero_testBit, Nat.testBit_and, bitF_test, tb_127 hs]
        by_cases hi : i < n
        · by_cases hia : a = i
          · rw [clG_e hia, Bool.and_false]; rfl
          · rw [clG_of hia]
            cases hc : clP b a i with
            | false => rw [Bool.and_false]; rfl
            | true =>
              have hb : s / 2 ^ i % 2 = 1 := by
                by_cases hb : s / 2 ^ i % 2 = 1
                · exact hb
                · exfalso
                  rcases Nat.lt_or_gt_of_ne hia with g | g
                  · have h2 := h a ha
                    unfold alA at h2
                    rw [allF_iff] at h2
                    have h3 := h2 (i - (a + 1)) (by omega)
                    rw [alI_0 h1 (by rw [show a + 1 + (i - (a + 1)) = i by omega]; exact hb) (by rw [show a + 1 + (i - (a + 1)) = i by omega]; exact hc)] at h3
                    cases h3
                  · have h2 := h i hi
                    unfold alA at h2
                    rw [allF_iff] at h2
                    have h3 := h2 (a - (i + 1)) (by omega)
                    rw [alI_0 hb (by rw [show i + 1 + (a - (i + 1)) = a by omega]; exact h1) (by rw [show i + 1 + (a - (i + 1)) = a by omega, clP_sym]; exact hc)] at h3
                    cases h3
              rw [bit_1.mp hb, Bool.not_true, Bool.and_false, Bool.and_false]
        · rw [decide_eq_false hi]; rfl
  exact Bool.eq_iff_iff.mpr key
theorem ip_no {b : Nat → Int} {n s a : Nat} (hn : n ≤ 7) (hs : s < 128) (ha : a < n) (h : ipF b n s a = false) : alOk b n s = false := by
  rw [← ip_ok hn hs]
  cases e : allF (ipF b n s) n with
  | false => rfl
  | true => rw [(allF_iff _ _).mp e a ha] at h; cases h
abbrev P_X5_isInEachPair (G : XG) (b : Nat → Int) (n : Nat) (d : Nat) (c : Nat) (wh : Nat) (wa : Nat → Nat) (fo : Int) (le : Int) (cf : Nat → Int) (s : Nat) : Option Value → va_W → Prop := fun r ws => r = some (.int (zB (alOk b n s))) ∧ ws = [(wh, whE wa fo le), (wa 3, aI G 7 cf)]
abbrev W_X5_isInEachPair (G : XG) (E : XE) (b : Nat → Int) (n : Nat) (d : Nat) (c : Nat) (wh : Nat) (wa : Nat → Nat) (fo : Int) (le : Int) (cf : Nat → Int) (s : Nat) (pc : Nat) (lv : List (Nat × Value)) (st : List Value) (ws : va_W) : Prop := Wx G E (rmL 0) cX5_isInEachPair 5 RX5 wsX5_isInEachPair (some .boolean) "isInEachPair" 0 0 (P_X5_isInEachPair G b n d c wh wa fo le cf s) 0 0 pc lv st ws
theorem flX5_isInEachPair_15 : Cond.fieldLink RX5 15 (TX5 3).1 (TX5 3).2.1 (TX5 3).2.2.1 ∈ wsX5_isInEachPair := by decide +kernel
theorem inX5_isInEachPair_X5 : ∀ w ∈ u_ws RX5 TX5 7, w ∈ wsX5_isInEachPair := fun _ h => List.mem_cons_of_mem _ (List.mem_append_right _ h)
set_option maxHeartbeats 4000000 in
set_option maxRecDepth 100000 in
/-- isInEachPair -/
theorem c_X5_isInEachPair (G : XG) (b : Nat → Int) (n d c : Nat) (I : Inv b n d c) (wh : Nat) (wa : Nat → Nat) (fo le : Int) (cf : Nat → Int) (s : Nat) (hs : s < 128) (hf : ∀ i, i < n → cf i = ((bitF (clG b i) n : Nat) : Int))  : Con G yX5_isInEachPair wsX5_isInEachPair (rmL 0) 0 0 [.ref wh, .int (zI ((s : Nat) : Int)), .int (zI ((n : Nat) : Int))] ([(wh, whE wa fo le), (wa 3, aI G 7 cf)]) (P_X5_isInEachPair G b n d c wh wa fo le cf s) := by
  refine x_start (cc := cX5_isInEachPair) (nL := 5) (ret := (some .boolean)) (by decide) rfl (Nat.le_of_ble_eq_true rfl) (fun E => ?_)
  show W_X5_isInEachPair G E b n d c wh wa fo le cf s 0 [(0, .ref wh), (1, .int (zI ((s : Nat) : Int))), (2, .int (zI ((n : Nat) : Int)))] [] ([(wh, whE wa fo le), (wa 3, aI G 7 cf)])
  have hn7 := I.n7
  refine x_iconst 1 rfl dX5_isInEachPair_0 (z := 0) (by decide) ?_
  refine x_istore_n 2 rfl (lv' := [(3, .int (zI 0)), (0, .ref wh), (1, .int (zI ((s : Nat) : Int))), (2, .int (zI ((n : Nat) : Int)))]) dX5_isInEachPair_1 (by decide) rfl ?_
  have L2 : ∀ (f2 : Nat) (a : Nat) (ha : a ≤ n) (hk : allF (ipF b n s) a = true), n - a < f2 → W_X5_isInEachPair G E b n d c wh wa fo le cf s 2 [(0, .ref wh), (1, .int (zI ((s : Nat) : Int))), (2, .int (zI ((n : Nat) : Int))), (3, .int (zI ((a : Nat) : Int)))] [] ([(wh, whE wa fo le), (wa 3, aI G 7 cf)]) := by
    intro f2
    induction f2 with
    | zero => intro a ha hk hf2; exact absurd hf2 (Nat.not_lt_zero _)
    | succ f2 ih2 =>
      intro a ha hk hf2
      refine x_iload_n 3 rfl dX5_isInEachPair_2 3 rfl ?_
      refine x_iload_n 4 rfl dX5_isInEachPair_3 2 rfl ?_
      refine x_icmp_ge 7 rfl (tgt := 48) dX5_isInEachPair_4 (by decide) (by omega) (by omega) (fun h4 => ?_) (fun h4 => ?_)
      · skip
        refine x_iconst 49 rfl dX5_isInEachPair_48 (z := 1) (by decide) ?_
        refine x_int (y := zB (alOk b n s)) (zB_t (by obtain rfl : a = n := (by omega); exact (ip_ok hn7 hs).symm.trans hk)) ?_
        refine x_zret rfl ?_ dX5_isInEachPair_49
        exact ⟨rfl, rfl⟩
      · skip
        obtain ⟨v1, hv1⟩ : ∃ v, v = s / 2 ^ a := ⟨_, rfl⟩
        have hv2 : v1 ≤ s := by rw [hv1]; exact Nat.div_le_self _ _
        have hbl := bitF_lt (clG b a) n
        have hpn : 2 ^ n ≤ 2 ^ 7 := Nat.pow_le_pow_right (by decide) hn7
        refine x_iload_n 8 rfl dX5_isInEachPair_7 1 rfl ?_
        refine x_iload_n 9 rfl dX5_isInEachPair_8 3 rfl ?_
        refine x_ishr 10 rfl dX5_isInEachPair_9 (z := ((s / 2 ^ a : Nat) : Int)) (zI_shr (t := s) (i := a) (by omega) (by omega)) ?_
        refine x_iconst 11 rfl dX5_isInEachPair_10 (z := 1) (by decide) ?_
        refine x_iand 12 rfl dX5_isInEachPair_11 (z := ((s / 2 ^ a % 2 : Nat) : Int)) (zI_and1 (t := s / 2 ^ a) (by omega)) ?_
        refine x_if_ne 15 rfl (tgt := 19) dX5_isInEachPair_12 (by decide) (by omega) (fun h12 => ?_) (fun h12 => ?_)
        · skip
          have hip : ipF b n s a = true := by unfold ipF; rw [decide_eq_true (by omega)]; rfl
          refine x_iconst 20 rfl dX5_isInEachPair_19 (z := 0) (by decide) ?_
          refine x_istore 22 rfl (lv' := [(4, .int (zI 0)), (0, .ref wh), (1, .int (zI ((s : Nat) : Int))), (2, .int (zI ((n : Nat) : Int))), (3, .int (zI ((a : Nat) : Int)))]) dX5_isInEachPair_20 (by decide) rfl ?_
          refine x_iload 24 rfl dX5_isInEachPair_22 0 rfl ?_
          refine x_if_eq 27 rfl (tgt := 42) dX5_isInEachPair_24 (by decide) (by omega) (fun h24 => ?_) (fun h24 => ?_)
          · skip
            refine x_iinc 45 rfl (lv' := [(3, .int (zI ((a + 1 : Nat) : Int))), (4, .int (zI 0)), (0, .ref wh), (1, .int (zI ((s : Nat) : Int))), (2, .int (zI ((n : Nat) : Int)))]) dX5_isInEachPair_42 4 rfl (b := ((a + 1 : Nat) : Int)) (by omega) (by decide) rfl ?_
            refine x_goto dX5_isInEachPair_45 (tgt := 2) (by decide) ?_
            refine x_lv [2, 3, 4, 0] rfl ?_
            exact ih2 (a + 1) (by omega) (allF_t hk hip) (by omega)
          · skip
            exact absurd h24 (by decide)
        · skip
          refine x_iconst 16 rfl dX5_isInEachPair_15 (z := 1) (by decide) ?_
          refine x_goto dX5_isInEachPair_16 (tgt := 20) (by decide) ?_
          refine x_istore 22 rfl (lv' := [(4, .int (zI 1)), (0, .ref wh), (1, .int (zI ((s : Nat) : Int))), (2, .int (zI ((n : Nat) : Int))), (3, .int (zI ((a : Nat) : Int)))]) dX5_isInEachPair_20 (by decide) rfl ?_
          refine x_iload 24 rfl dX5_isInEachPair_22 0 rfl ?_
          refine x_if_eq 27 rfl (tgt := 42) dX5_isInEachPair_24 (by decide) (by omega) (fun h24 => ?_) (fun h24 => ?_)
          · skip
            exact absurd h24 (by decide)
          · skip
            refine x_aload_n 28 rfl dX5_isInEachPair_27 1 rfl ?_
            refine x_get 31 rfl (v := .ref (wa 3)) 0 3 rfl rfl (by decide) inX5_isInEachPair_X5 flX5_isInEachPair_15 rfl dX5_isInEachPair_28 ?_
            refine x_iload_n 32 rfl dX5_isInEachPair_31 4 rfl ?_
            refine x_iald 33 rfl 1 a rfl (⟨by omega, by omega⟩) (by decide) (v := ((bitF (clG b a) n : Nat) : Int)) (hf a (by omega)) dX5_isInEachPair_32 ?_
            refine x_iload_n 34 rfl dX5_isInEachPair_33 2 rfl ?_
            refine x_iconst 35 rfl dX5_isInEachPair_34 (z := (-1)) (by decide) ?_
            refine x_ixor 36 rfl dX5_isInEachPair_35 (z := -1 - ((s : Nat) : Int)) (not7 hs) ?_
            refine x_iand 37 rfl dX5_isInEachPair_36 (z := ((bitF (clG b a) n &&& (127 - s) : Nat) : Int)) (clr7 (by omega) hs) ?_
            obtain ⟨mm, hmm⟩ : ∃ mm, mm = bitF (clG b a) n &&& (127 - s) := ⟨_, rfl⟩
            have hm2 : mm ≤ bitF (clG b a) n := by rw [hmm]; exact Nat.and_le_left
            refine x_if_eq 40 rfl (tgt := 42) dX5_isInEachPair_37 (by decide) (by omega) (fun h37 => ?_) (fun h37 => ?_)
            · skip
              have hip : ipF b n s a = true := by unfold ipF; rw [decide_eq_true (show bitF (clG b a) n &&& (127 - s) = 0 by omega), Bool.or_true]
              refine x_iinc 45 rfl (lv' := [(3, .int (zI ((a + 1 : Nat) : Int))), (4, .int (zI 1)), (0, .ref wh), (1, .int (zI ((s : Nat) : Int))), (2, .int (zI ((n : Nat) : Int)))]) dX5_isInEachPair_42 4 rfl (b := ((a + 1 : Nat) : Int)) (by omega) (by decide) rfl ?_
              refine x_goto dX5_isInEachPair_45 (tgt := 2) (by decide) ?_
              refine x_lv [2, 3, 4, 0] rfl ?_
              exact ih2 (a + 1) (by omega) (allF_t hk hip) (by omega)
            · skip
              have hno : ipF b n s a = false := by unfold ipF; rw [decide_eq_false (show ¬ s / 2 ^ a % 2 = 1 by omega), decide_eq_false (show ¬ bitF (clG b a) n &&& (127 - s) = 0 by omega)]; rfl
              refine x_iconst 41 rfl dX5_isInEachPair_40 (z := 0) (by decide) ?_
              refine x_int (y := zB (alOk b n s)) (zB_f (ip_no hn7 hs (by omega) hno)) ?_
              refine x_zret rfl ?_ dX5_isInEachPair_41
              exact ⟨rfl, rfl⟩
  refine x_lv [1, 2, 3, 0] rfl ?_
  exact L2 _ 0 (by omega) (rfl) (Nat.lt_succ_self _)

theorem pc_full_b : (List.range 8).all (fun n => Nat.beq (pcF (2 ^ n - 1) 7) n && (List.range 128).all (fun s => !Nat.blt s (2 ^ n - 1) || Nat.blt (pcF s 7) n)) = true := by decide +kernel
theorem pc_full {n : Nat} (hn : n ≤ 7) : pcF (2 ^ n - 1) 7 = n ∧ ∀ s, s < 2 ^ n - 1 → pcF s 7 < n := by
  have h := all_r pc_full_b (show n < 8 by omega)
  rw [Bool.and_eq_true] at h
  refine ⟨Nat.eq_of_beq_eq_true h.1, fun s hs => ?_⟩
  have hp : 2 ^ n ≤ 2 ^ 7 := Nat.pow_le_pow_right (by decide) hn
  have h2 := all_r h.2 (show s < 128 by omega)
  rw [Bool.or_eq_true, Nat.blt_eq] at h2
  rcases h2 with h2 | h2
  · rw [Bool.not_eq_true', ← Bool.not_eq_true, Nat.blt_eq] at h2; omega
  · exact h2
def alB (b : Nat → Int) (n s : Nat) : Nat := if alM (alOk b n) s = -1 then 2 ^ n - 1 else (alM (alOk b n) s).toNat
theorem alB_r {b : Nat → Int} {n s : Nat} (hs : s ≤ 2 ^ n - 1) : alB b n s ≤ 2 ^ n - 1 := by
  have h := alM_r (alOk b n) s
  unfold alB; split <;> omega
theorem alB_f {b : Nat → Int} {n s : Nat} (h : alOk b n s = false) : alB b n (s + 1) = alB b n s := by
  have e : alM (alOk b n) (s + 1) = alM (alOk b n) s := by
    show alS (alOk b n) s (alM (alOk b n) s) = _
    unfold alS; rw [if_neg (fun hh => by rw [h] at hh; cases hh.2)]
  unfold alB; rw [e]
theorem alB_n {b : Nat → Int} {n s : Nat} (hn : n ≤ 7) (hs : s < 2 ^ n - 1) (h : pcF (alB b n s) 7 ≤ pcF s 7) : alB b n (s + 1) = alB b n s := by
  obtain ⟨p1, p2⟩ := pc_full hn
  have p3 := p2 s hs
  have e : alM (alOk b n) (s + 1) = alM (alOk b n) s := by
    show alS (alOk b n) s (alM (alOk b n) s) = _
    unfold alS
    refine if_neg (fun hh => ?_)
    unfold alB at h
    by_cases c : alM (alOk b n) s = -1
    · rw [if_pos c, p1] at h; omega
    · rw [if_neg c] at h; omega
  unfold alB; rw [e]
theorem alB_t {b : Nat → Int} {n s : Nat} (h : pcF s 7 < pcF (alB b n s) 7) (ho : alOk b n s = true) : alB b n (s + 1) = s := by
  have e : alM (alOk b n) (s + 1) = (s : Int) := by
    show alS (alOk b n) s (alM (alOk b n) s) = _
    unfold alS
    refine if_pos ⟨?_, ho⟩
    unfold alB at h
    by_cases c : alM (alOk b n) s = -1
    · exact Or.inl c
    · rw [if_neg c] at h; exact Or.inr h
  unfold alB; rw [e, if_neg (by omega)]; rfl
theorem alOk_full {b : Nat → Int} {n : Nat} : alOk b n (2 ^ n - 1) = true := by
  unfold alOk; rw [allF_iff]
  intro a ha
  unfold alA; rw [allF_iff]
  intro j hj
  refine alI_1 (bit_1.mpr ?_)
  rw [Nat.testBit_two_pow_sub_one, decide_eq_true ha]
theorem alB_end {b : Nat → Int} {n : Nat} (hn : n ≤ 7) : ((alB b n (2 ^ n - 1) : Nat) : Int) = alN b n := by
  obtain ⟨p1, p2⟩ := pc_full hn
  have hp := Nat.two_pow_pos n
  have r := alM_r (alOk b n) (2 ^ n - 1)
  have e : alN b n = alS (alOk b n) (2 ^ n - 1) (alM (alOk b n) (2 ^ n - 1)) := by
    unfold alN
    rw [show 2 ^ n = (2 ^ n - 1) + 1 by omega]; rfl
  rw [e]
  unfold alB alS
  by_cases c : alM (alOk b n) (2 ^ n - 1) = -1
  · rw [if_pos c, if_pos ⟨Or.inl c, alOk_full⟩]
  · have p3 := p2 (alM (alOk b n) (2 ^ n - 1)).toNat (by omega)
    rw [if_neg c, if_neg (fun hh => by rw [p1] at hh; omega)]; omega
abbrev P_X5_fewestInEachPair (G : XG) (b : Nat → Int) (n : Nat) (d : Nat) (c : Nat) (wh : Nat) (wa : Nat → Nat) (fo : Int) (le : Int) (cf : Nat → Int) : Option Value → va_W → Prop := fun r ws => r = some (.int (zI (alN b n))) ∧ ws = [(wh, whE wa fo le), (wa 3, aI G 7 cf)]
abbrev W_X5_fewestInEachPair (G : XG) (E : XE) (b : Nat → Int) (n : Nat) (d : Nat) (c : Nat) (wh : Nat) (wa : Nat → Nat) (fo : Int) (le : Int) (cf : Nat → Int) (pc : Nat) (lv : List (Nat × Value)) (st : List Value) (ws : va_W) : Prop := Wx G E (rmL 1) cX5_fewestInEachPair 5 RX5 wsX5_fewestInEachPair (some .int) "fewestInEachPair" 0 0 (P_X5_fewestInEachPair G b n d c wh wa fo le cf) 0 0 pc lv st ws
set_option maxHeartbeats 4000000 in
set_option maxRecDepth 100000 in
/-- fewestInEachPair -/
theorem c_X5_fewestInEachPair (G : XG) (b : Nat → Int) (n d c : Nat) (I : Inv b n d c) (wh : Nat) (wa : Nat → Nat) (fo le : Int) (cf : Nat → Int) (hf : ∀ i, i < n → cf i = ((bitF (clG b i) n : Nat) : Int))  : Con G yX5_fewestInEachPair wsX5_fewestInEachPair (rmL 1) 0 0 [.ref wh, .int (zI ((n : Nat) : Int))] ([(wh, whE wa fo le), (wa 3, aI G 7 cf)]) (P_X5_fewestInEachPair G b n d c wh wa fo le cf) := by
  refine x_start (cc := cX5_fewestInEachPair) (nL := 5) (ret := (some .int)) (by decide) rfl (Nat.le_of_ble_eq_true rfl) (fun E => ?_)
  show W_X5_fewestInEachPair G E b n d c wh wa fo le cf 0 [(0, .ref wh), (1, .int (zI ((n : Nat) : Int)))] [] ([(wh, whE wa fo le), (wa 3, aI G 7 cf)])
  have hn7 := I.n7
  have hp0 := Nat.two_pow_pos n
  have hpn : 2 ^ n ≤ 2 ^ 7 := Nat.pow_le_pow_right (by decide) hn7
  refine x_iconst 1 rfl dX5_fewestInEachPair_0 (z := 1) (by decide) ?_
  refine x_iload_n 2 rfl dX5_fewestInEachPair_1 1 rfl ?_
  refine x_ishl 3 rfl dX5_fewestInEachPair_2 (z := ((2 ^ n : Nat) : Int)) (zI_shl1 (i := n) (by omega)) ?_
  refine x_iconst 4 rfl dX5_fewestInEachPair_3 (z := 1) (by decide) ?_
  refine x_isub 5 rfl dX5_fewestInEachPair_4 (z := ((2 ^ n - 1 : Nat) : Int)) (by omega) ?_
  refine x_istore_n 6 rfl (lv' := [(2, .int (zI ((2 ^ n - 1 : Nat) : Int))), (0, .ref wh), (1, .int (zI ((n : Nat) : Int)))]) dX5_fewestInEachPair_5 (by decide) rfl ?_
  refine x_iload_n 7 rfl dX5_fewestInEachPair_6 0 rfl ?_
  refine x_istore_n 8 rfl (lv' := [(3, .int (zI ((2 ^ n - 1 : Nat) : Int))), (2, .int (zI ((2 ^ n - 1 : Nat) : Int))), (0, .ref wh), (1, .int (zI ((n : Nat) : Int)))]) dX5_fewestInEachPair_7 (by decide) rfl ?_
  refine x_iconst 9 rfl dX5_fewestInEachPair_8 (z := 0) (by decide) ?_
  refine x_istore 11 rfl (lv' := [(4, .int (zI 0)), (3, .int (zI ((2 ^ n - 1 : Nat) : Int))), (2, .int (zI ((2 ^ n - 1 : Nat) : Int))), (0, .ref wh), (1, .int (zI ((n : Nat) : Int)))]) dX5_fewestInEachPair_9 (by decide) rfl ?_
  have L11 : ∀ (f11 : Nat) (s : Nat) (hs : s ≤ 2 ^ n - 1), 2 ^ n - 1 - s < f11 → W_X5_fewestInEachPair G E b n d c wh wa fo le cf 11 [(0, .ref wh), (1, .int (zI ((n : Nat) : Int))), (2, .int (zI ((2 ^ n - 1 : Nat) : Int))), (3, .int (zI ((alB b n s : Nat) : Int))), (4, .int (zI ((s : Nat) : Int)))] [] ([(wh, whE wa fo le), (wa 3, aI G 7 cf)]) := by
    intro f11
    induction f11 with
    | zero => intro s hs hf11; exact absurd hf11 (Nat.not_lt_zero _)
    | succ f11 ih11 =>
      intro s hs hf11
      refine x_iload 13 rfl dX5_fewestInEachPair_11 4 rfl ?_
      refine x_iload_n 14 rfl dX5_fewestInEachPair_13 2 rfl ?_
      refine x_icmp_ge 17 rfl (tgt := 48) dX5_fewestInEachPair_14 (by decide) (by omega) (by omega) (fun h14 => ?_) (fun h14 => ?_)
      · skip
        refine x_iload_n 49 rfl dX5_fewestInEachPair_48 3 rfl ?_
        refine x_iret rfl ?_ dX5_fewestInEachPair_49
        have e : s = 2 ^ n - 1 := by omega
        exact ⟨by rw [e, alB_end hn7], rfl⟩
      · skip
        have hbr := alB_r (b := b) (n := n) (s := s) (by omega)
        have q1 := pcF_le s 7
        have q2 := pcF_le (alB b n s) 7
        refine x_iload 19 rfl dX5_fewestInEachPair_17 4 rfl ?_
        refine x_callS0 22 rfl (c_J6_bitCount_0f7a4 G s (by omega)) (fun _ _ h => h.2) gX5_fewestInEachPair_J6_bitCount_0f7a4 rfl rfl rfl hd_J6_bitCount_0f7a4 ⟨Nat.le_of_ble_eq_true rfl, Nat.le_of_ble_eq_true rfl⟩ (As := [.int (zI ((s : Nat) : Int))]) (rest := []) rfl rfl (Nat.le_of_ble_eq_true rfl) dX5_fewestInEachPair_19 ⟨Nat.zero_le _, Nat.zero_le _⟩ (fun v hq => ?_)
        obtain ⟨rfl, -⟩ := hq
        refine x_iload_n 23 rfl dX5_fewestInEachPair_22 3 rfl ?_
        refine x_callS0 26 rfl (c_J6_bitCount_0f7a4 G (alB b n s) (by omega)) (fun _ _ h => h.2) gX5_fewestInEachPair_J6_bitCount_0f7a4 rfl rfl rfl hd_J6_bitCount_0f7a4 ⟨Nat.le_of_ble_eq_true rfl, Nat.le_of_ble_eq_true rfl⟩ (As := [.int (zI ((alB b n s : Nat) : Int))]) (rest := [.int (zI ((pcF s 7 : Nat) : Int))]) rfl rfl (Nat.le_of_ble_eq_true rfl) dX5_fewestInEachPair_23 ⟨Nat.zero_le _, Nat.zero_le _⟩ (fun v hq => ?_)
        obtain ⟨rfl, -⟩ := hq
        refine x_icmp_ge 29 rfl (tgt := 42) dX5_fewestInEachPair_26 (by decide) (by omega) (by omega) (fun h26 => ?_) (fun h26 => ?_)
        · skip
          have h26 : pcF (alB b n s) 7 ≤ pcF s 7 := by omega
          refine x_iinc 45 rfl (lv' := [(4, .int (zI ((s + 1 : Nat) : Int))), (0, .ref wh), (1, .int (zI ((n : Nat) : Int))), (2, .int (zI ((2 ^ n - 1 : Nat) : Int))), (3, .int (zI ((alB b n s : Nat) : Int)))]) dX5_fewestInEachPair_42 4 rfl (b := ((s + 1 : Nat) : Int)) (by omega) (by decide) rfl ?_
          refine x_goto dX5_fewestInEachPair_45 (tgt := 11) (by decide) ?_
          refine x_lve (congrArg (fun zz : Int => ([(4, .int (zI ((s + 1 : Nat) : Int))), (0, .ref wh), (1, .int (zI ((n : Nat) : Int))), (2, .int (zI ((2 ^ n - 1 : Nat) : Int))), (3, .int (zI zz))] : List (Nat × Value))) (by first | rw [alB_f h36] | rw [alB_t h26 h36] | rw [alB_n hn7 (by omega) (by omega)] : ((alB b n s : Nat) : Int) = ((alB b n (s + 1) : Nat) : Int))) ?_
          refine x_lv [1, 2, 3, 4, 0] rfl ?_
          exact ih11 (s + 1) (by omega) (by omega)
        · skip
          have h26 : pcF s 7 < pcF (alB b n s) 7 := by omega
          refine x_aload_n 30 rfl dX5_fewestInEachPair_29 0 rfl ?_
          refine x_iload 32 rfl dX5_fewestInEachPair_30 4 rfl ?_
          refine x_iload_n 33 rfl dX5_fewestInEachPair_32 1 rfl ?_
          refine x_callV 36 rfl (c_X5_isInEachPair G b n d c I wh wa fo le cf s (by omega) (hf)) [0, 1] rfl (by decide) 0 rfl rfl gX5_fewestInEachPair_X5_isInEachPair rfl rfl rfl hd_X5_isInEachPair ⟨Nat.le_of_ble_eq_true rfl, Nat.le_of_ble_eq_true rfl⟩ (As := [.int (zI ((s : Nat) : Int)), .int (zI ((n : Nat) : Int))]) (rest := []) rfl rfl (Nat.le_of_ble_eq_true rfl) dX5_fewestInEachPair_33 ⟨Nat.zero_le _, Nat.zero_le _⟩ (fun v w hq => ?_)
          obtain ⟨rfl, rfl⟩ := hq
          refine ⟨rfl, ?_⟩
          refine x_ws (ws' := [(wh, whE wa fo le), (wa 3, aI G 7 cf)]) (rfl) ?_
          refine x_bif_eq 39 rfl (tgt := 42) dX5_fewestInEachPair_36 (by decide) (fun h36 => ?_) (fun h36 => ?_)
          · skip
            refine x_iinc 45 rfl (lv' := [(4, .int (zI ((s + 1 : Nat) : Int))), (0, .ref wh), (1, .int (zI ((n : Nat) : Int))), (2, .int (zI ((2 ^ n - 1 : Nat) : Int))), (3, .int (zI ((alB b n s : Nat) : Int)))]) dX5_fewestInEachPair_42 4 rfl (b := ((s + 1 : Nat) : Int)) (by omega) (by decide) rfl ?_
            refine x_goto dX5_fewestInEachPair_45 (tgt := 11) (by decide) ?_
            refine x_lve (congrArg (fun zz : Int => ([(4, .int (zI ((s + 1 : Nat) : Int))), (0, .ref wh), (1, .int (zI ((n : Nat) : Int))), (2, .int (zI ((2 ^ n - 1 : Nat) : Int))), (3, .int (zI zz))] : List (Nat × Value))) (by first | rw [alB_f h36] | rw [alB_t h26 h36] | rw [alB_n hn7 (by omega) (by omega)] : ((alB b n s : Nat) : Int) = ((alB b n (s + 1) : Nat) : Int))) ?_
            refine x_lv [1, 2, 3, 4, 0] rfl ?_
            exact ih11 (s + 1) (by omega) (by omega)
          · skip
            refine x_iload 41 rfl dX5_fewestInEachPair_39 4 rfl ?_
            refine x_istore_n 42 rfl (lv' := [(3, .int (zI ((s : Nat) : Int))), (0, .ref wh), (1, .int (zI ((n : Nat) : Int))), (2, .int (zI ((2 ^ n - 1 : Nat) : Int))), (4, .int (zI ((s : Nat) : Int)))]) dX5_fewestInEachPair_41 (by decide) rfl ?_
            refine x_iinc 45 rfl (lv' := [(4, .int (zI ((s + 1 : Nat) : Int))), (3, .int (zI ((s : Nat) : Int))), (0, .ref wh), (1, .int (zI ((n : Nat) : Int))), (2, .int (zI ((2 ^ n - 1 : Nat) : Int)))]) dX5_fewestInEachPair_42 4 rfl (b := ((s + 1 : Nat) : Int)) (by omega) (by decide) rfl ?_
            refine x_goto dX5_fewestInEachPair_45 (tgt := 11) (by decide) ?_
            refine x_lve (congrArg (fun zz : Int => ([(4, .int (zI ((s + 1 : Nat) : Int))), (3, .int (zI zz)), (0, .ref wh), (1, .int (zI ((n : Nat) : Int))), (2, .int (zI ((2 ^ n - 1 : Nat) : Int)))] : List (Nat × Value))) (by first | rw [alB_f h36] | rw [alB_t h26 h36] | rw [alB_n hn7 (by omega) (by omega)] : ((s : Nat) : Int) = ((alB b n (s + 1) : Nat) : Int))) ?_
            refine x_lv [2, 3, 4, 1, 0] rfl ?_
            exact ih11 (s + 1) (by omega) (by omega)
  refine x_lve (congrArg (fun zz : Int => ([(4, .int (zI 0)), (3, .int (zI zz)), (2, .int (zI ((2 ^ n - 1 : Nat) : Int))), (0, .ref wh), (1, .int (zI ((n : Nat) : Int)))] : List (Nat × Value))) (rfl : ((2 ^ n - 1 : Nat) : Int) = ((alB b n 0 : Nat) : Int))) ?_
  refine x_lv [3, 4, 2, 1, 0] rfl ?_
  exact L11 _ 0 (Nat.zero_le _) (Nat.lt_succ_self _)

