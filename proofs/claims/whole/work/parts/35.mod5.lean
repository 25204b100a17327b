theorem hd_X7_word : yX7_word.cls = RX7 ∧ yX7_word.cls ≠ "java/lang/invoke/MethodHandle" ∧ yX7_word.cls ≠ "java/lang/invoke/VarHandle" ∧ (parseMethodDescriptor yX7_word.desc).map (fun d => d.parameters.length) = some 4 := by decide +kernel
abbrev P_X7_word (G : XG) (mo : Nat) (ad : Nat → Nat) (qt : Bool) (sc : Nat → Int) (b : Nat → Int) (rf : Nat → Int) (fa : Nat → Int) (n : Nat) (d : Nat) (c : Nat) (fr : Int) (to : Int) (wind : Int) (what : Int) : Option Value → va_W → Prop := fun r ws => ∃ f' : Nat → Int, r = some (.int (zI (rC (kX n fr to wind what) (wdR b n fr.toNat to.toNat wind.toNat what)))) ∧ ws = [(mo, moE ad qt sc), (ad 0, aI G 66 b), (ad 4, aI G 3 (rfC qt rf (kX n fr to wind what))), (ad 10, aI G 7 f')]
abbrev W_X7_word (G : XG) (E : XE) (mo : Nat) (ad : Nat → Nat) (qt : Bool) (sc : Nat → Int) (b : Nat → Int) (rf : Nat → Int) (fa : Nat → Int) (n : Nat) (d : Nat) (c : Nat) (fr : Int) (to : Int) (wind : Int) (what : Int) (pc : Nat) (lv : List (Nat × Value)) (st : List Value) (ws : va_W) : Prop := Wx G E (rmL 6) cX7_word 9 RX7 wsX7_word (some .int) "word" 0 0 (P_X7_word G mo ad qt sc b rf fa n d c fr to wind what) 0 0 pc lv st ws
theorem flX7_word_7 : Cond.fieldLink RX7 7 (TX7 0).1 (TX7 0).2.1 (TX7 0).2.2.1 ∈ wsX7_word := by decide +kernel
theorem flX7_word_41 : Cond.fieldLink RX7 41 (TX7 17).1 (TX7 17).2.1 (TX7 17).2.2.1 ∈ wsX7_word := by decide +kernel
theorem inX7_word_X7 : ∀ w ∈ u_ws RX7 TX7 18, w ∈ wsX7_word := fun _ h => List.mem_cons_of_mem _ (List.mem_append_right _ h)
theorem wX7_word_ci225 : Cond.constant RX7 225 (zI 100000) ∈ wsX7_word := by decide +kernel
set_option maxHeartbeats 4000000 in
set_option maxRecDepth 100000 in
/-- word -/
theorem c_X7_word (G : XG) (mo : Nat) (ad : Nat → Nat) (qt : Bool) (sc : Nat → Int) (b rf : Nat → Int) (fa : Nat → Int) (n d c : Nat) (I : Inv b n d c) (fr to wind what : Int) (h1 : Z32 fr) (h2 : Z32 to) (h3 : Z32 wind) (h4 : Z32 what) : Con G yX7_word wsX7_word (rmL 6) 0 0 [.ref mo, .int (zI fr), .int (zI to), .int (zI wind), .int (zI what)] ([(mo, moE ad qt sc), (ad 0, aI G 66 b), (ad 4, aI G 3 rf), (ad 10, aI G 7 fa)]) (P_X7_word G mo ad qt sc b rf fa n d c fr to wind what) := by
  refine x_start (cc := cX7_word) (nL := 9) (ret := (some .int)) (by decide) rfl (Nat.le_of_ble_eq_true rfl) (fun E => ?_)
  show W_X7_word G E mo ad qt sc b rf fa n d c fr to wind what 0 [(0, .ref mo), (1, .int (zI fr)), (2, .int (zI to)), (3, .int (zI wind)), (4, .int (zI what))] [] ([(mo, moE ad qt sc), (ad 0, aI G 66 b), (ad 4, aI G 3 rf), (ad 10, aI G 7 fa)])
  have hn := I.n1
  have hn7 := I.n7
  have hd := I.d1
  have hd6 := I.d6
  have hc := I.c1
  have hc8 := I.c8
  refine x_aload_n 1 rfl dX7_word_0 0 rfl ?_
  refine x_iload_n 2 rfl dX7_word_1 1 rfl ?_
  refine x_callV 5 rfl (c_X7_isOne G mo ad qt sc b n hn (by omega) fr (by omega)) [0, 1] rfl (by decide) 0 rfl rfl gX7_word_X7_isOne rfl rfl rfl hd_X7_isOne ⟨Nat.le_of_ble_eq_true rfl, Nat.le_of_ble_eq_true rfl⟩ (As := [.int (zI fr)]) (rest := []) rfl rfl (Nat.le_of_ble_eq_true rfl) dX7_word_2 ⟨Nat.zero_le _, Nat.zero_le _⟩ (fun v w hq => ?_)
  obtain ⟨rfl, rfl⟩ := hq
  refine ⟨rfl, ?_⟩
  refine x_ws (ws' := [(mo, moE ad qt sc), (ad 0, aI G 66 b), (ad 4, aI G 3 rf), (ad 10, aI G 7 fa)]) (rfl) ?_
  refine x_bif_eq 8 rfl (tgt := 39) dX7_word_5 (by decide) (fun h5 => ?_) (fun h5 => ?_)
  · have h5 := of_decide_eq_false h5
    refine x_aload_n 40 rfl dX7_word_39 0 rfl ?_
    refine x_callV 43 rfl (c_X7_bad G mo ad qt sc rf) [0, 2] rfl (by decide) 0 rfl rfl gX7_word_X7_bad rfl rfl rfl hd_X7_bad ⟨Nat.le_of_ble_eq_true rfl, Nat.le_of_ble_eq_true rfl⟩ (As := []) (rest := []) rfl rfl (Nat.le_of_ble_eq_true rfl) dX7_word_40 ⟨Nat.zero_le _, Nat.zero_le _⟩ (fun v w hq => ?_)
    obtain ⟨rfl, rfl⟩ := hq
    refine ⟨rfl, ?_⟩
    refine x_ws (ws' := [(mo, moE ad qt sc), (ad 0, aI G 66 b), (ad 4, aI G 3 (rfU qt rf 0)), (ad 10, aI G 7 fa)]) (rfl) ?_
    refine x_iret rfl ?_ dX7_word_43
    have hk : kX n fr to wind what = 1 := by unfold kX; exact if_neg (fun hh => by obtain ⟨ha, hb, hc, hd, he⟩ := hh; first | omega | simp_all)
    exact ⟨fa, by rw [hk]; rfl, by rw [hk]; rfl⟩
  · have h5 := of_decide_eq_true h5
    refine x_aload_n 9 rfl dX7_word_8 0 rfl ?_
    refine x_iload_n 10 rfl dX7_word_9 2 rfl ?_
    refine x_callV 13 rfl (c_X7_isOne G mo ad qt sc b n hn (by omega) to (by omega)) [0, 1] rfl (by decide) 0 rfl rfl gX7_word_X7_isOne rfl rfl rfl hd_X7_isOne ⟨Nat.le_of_ble_eq_true rfl, Nat.le_of_ble_eq_true rfl⟩ (As := [.int (zI to)]) (rest := []) rfl rfl (Nat.le_of_ble_eq_true rfl) dX7_word_10 ⟨Nat.zero_le _, Nat.zero_le _⟩ (fun v w hq => ?_)
    obtain ⟨rfl, rfl⟩ := hq
    refine ⟨rfl, ?_⟩
    refine x_ws (ws' := [(mo, moE ad qt sc), (ad 0, aI G 66 b), (ad 4, aI G 3 rf), (ad 10, aI G 7 fa)]) (rfl) ?_
    refine x_bif_eq 16 rfl (tgt := 39) dX7_word_13 (by decide) (fun h13 => ?_) (fun h13 => ?_)
    · have h13 := of_decide_eq_false h13
      refine x_aload_n 40 rfl dX7_word_39 0 rfl ?_
      refine x_callV 43 rfl (c_X7_bad G mo ad qt sc rf) [0, 2] rfl (by decide) 0 rfl rfl gX7_word_X7_bad rfl rfl rfl hd_X7_bad ⟨Nat.le_of_ble_eq_true rfl, Nat.le_of_ble_eq_true rfl⟩ (As := []) (rest := []) rfl rfl (Nat.le_of_ble_eq_true rfl) dX7_word_40 ⟨Nat.zero_le _, Nat.zero_le _⟩ (fun v w hq => ?_)
      obtain ⟨rfl, rfl⟩ := hq
      refine ⟨rfl, ?_⟩
      refine x_ws (ws' := [(mo, moE ad qt sc), (ad 0, aI G 66 b), (ad 4, aI G 3 (rfU qt rf 0)), (ad 10, aI G 7 fa)]) (rfl) ?_
      refine x_iret rfl ?_ dX7_word_43
      have hk : kX n fr to wind what = 1 := by unfold kX; exact if_neg (fun hh => by obtain ⟨ha, hb, hc, hd, he⟩ := hh; first | omega | simp_all)
      exact ⟨fa, by rw [hk]; rfl, by rw [hk]; rfl⟩
    · have h13 := of_decide_eq_true h13
      refine x_iload_n 17 rfl dX7_word_16 1 rfl ?_
      refine x_iload_n 18 rfl dX7_word_17 2 rfl ?_
      refine x_icmp_eq 21 rfl (tgt := 39) dX7_word_18 (by decide) (by omega) (by omega) (fun h18 => ?_) (fun h18 => ?_)
      · skip
        refine x_aload_n 40 rfl dX7_word_39 0 rfl ?_
        refine x_callV 43 rfl (c_X7_bad G mo ad qt sc rf) [0, 2] rfl (by decide) 0 rfl rfl gX7_word_X7_bad rfl rfl rfl hd_X7_bad ⟨Nat.le_of_ble_eq_true rfl, Nat.le_of_ble_eq_true rfl⟩ (As := []) (rest := []) rfl rfl (Nat.le_of_ble_eq_true rfl) dX7_word_40 ⟨Nat.zero_le _, Nat.zero_le _⟩ (fun v w hq => ?_)
        obtain ⟨rfl, rfl⟩ := hq
        refine ⟨rfl, ?_⟩
        refine x_ws (ws' := [(mo, moE ad qt sc), (ad 0, aI G 66 b), (ad 4, aI G 3 (rfU qt rf 0)), (ad 10, aI G 7 fa)]) (rfl) ?_
        refine x_iret rfl ?_ dX7_word_43
        have hk : kX n fr to wind what = 1 := by unfold kX; exact if_neg (fun hh => by obtain ⟨ha, hb, hc, hd, he⟩ := hh; first | omega | simp_all)
        exact ⟨fa, by rw [hk]; rfl, by rw [hk]; rfl⟩
      · skip
        refine x_iload_n 22 rfl dX7_word_21 3 rfl ?_
        refine x_callS0 25 rfl (c_X7_isWind G wind (by omega)) (fun _ _ h => h.2) gX7_word_X7_isWind rfl rfl rfl hd_X7_isWind ⟨Nat.le_of_ble_eq_true rfl, Nat.le_of_ble_eq_true rfl⟩ (As := [.int (zI wind)]) (rest := []) rfl rfl (Nat.le_of_ble_eq_true rfl) dX7_word_22 ⟨Nat.zero_le _, Nat.zero_le _⟩ (fun v hq => ?_)
        obtain ⟨rfl, -⟩ := hq
        refine x_bif_eq 28 rfl (tgt := 39) dX7_word_25 (by decide) (fun h25 => ?_) (fun h25 => ?_)
        · have h25 := of_decide_eq_false h25
          refine x_aload_n 40 rfl dX7_word_39 0 rfl ?_
          refine x_callV 43 rfl (c_X7_bad G mo ad qt sc rf) [0, 2] rfl (by decide) 0 rfl rfl gX7_word_X7_bad rfl rfl rfl hd_X7_bad ⟨Nat.le_of_ble_eq_true rfl, Nat.le_of_ble_eq_true rfl⟩ (As := []) (rest := []) rfl rfl (Nat.le_of_ble_eq_true rfl) dX7_word_40 ⟨Nat.zero_le _, Nat.zero_le _⟩ (fun v w hq => ?_)
          obtain ⟨rfl, rfl⟩ := hq
          refine ⟨rfl, ?_⟩
          refine x_ws (ws' := [(mo, moE ad qt sc), (ad 0, aI G 66 b), (ad 4, aI G 3 (rfU qt rf 0)), (ad 10, aI G 7 fa)]) (rfl) ?_
          refine x_iret rfl ?_ dX7_word_43
          have hk : kX n fr to wind what = 1 := by unfold kX; exact if_neg (fun hh => by obtain ⟨ha, hb, hc, hd, he⟩ := hh; first | omega | simp_all)
          exact ⟨fa, by rw [hk]; rfl, by rw [hk]; rfl⟩
        · have h25 := of_decide_eq_true h25
          refine x_iload 30 rfl dX7_word_28 4 rfl ?_
          refine x_i2l 31 rfl dX7_word_30 (z := (zL what)) (zI_i2l (by omega)) ?_
          refine x_lconst 32 rfl dX7_word_31 (z := 0) (by decide) ?_
          refine x_lconst 33 rfl dX7_word_32 (z := 1) (by decide) ?_
          refine x_callS0 36 rfl (c_X7_in G what 0 1 (by omega) (by omega) (by omega)) (fun _ _ h => h.2) gX7_word_X7_in rfl rfl rfl hd_X7_in ⟨Nat.le_of_ble_eq_true rfl, Nat.le_of_ble_eq_true rfl⟩ (As := [.long (zL what), .long (zL 0), .long (zL 1)]) (rest := []) rfl rfl (Nat.le_of_ble_eq_true rfl) dX7_word_33 ⟨Nat.zero_le _, Nat.zero_le _⟩ (fun v hq => ?_)
          obtain ⟨rfl, -⟩ := hq
          refine x_bif_ne 39 rfl (tgt := 44) dX7_word_36 (by decide) (fun h36 => ?_) (fun h36 => ?_)
          · have h36 := of_decide_eq_true h36
            obtain ⟨fr, rfl⟩ : ∃ zk : Nat, fr = (zk : Int) := ⟨Int.toNat fr, by omega⟩
            obtain ⟨to, rfl⟩ : ∃ zk : Nat, to = (zk : Int) := ⟨Int.toNat to, by omega⟩
            obtain ⟨wind, rfl⟩ : ∃ zk : Nat, wind = (zk : Int) := ⟨Int.toNat wind, by omega⟩
            refine x_iconst 45 rfl dX7_word_44 (z := 0) (by decide) ?_
            have hk0 : kX n fr to wind what = 0 := by unfold kX; exact if_pos ⟨by omega, by omega, by omega, by omega, by omega⟩
            refine x_istore 47 rfl (lv' := [(5, .int (zI 0)), (0, .ref mo), (1, .int (zI ((fr : Nat) : Int))), (2, .int (zI ((to : Nat) : Int))), (3, .int (zI ((wind : Nat) : Int))), (4, .int (zI what))]) dX7_word_45 (by decide) rfl ?_
            have L47 : ∀ (f47 : Nat) (k : Nat) (f : Nat → Int) (hk1 : k ≤ n) (hf : ∀ p, p < k → f p = wd0 fr p), n - k < f47 → W_X7_word G E mo ad qt sc b rf fa n d c fr to wind what 47 [(0, .ref mo), (1, .int (zI ((fr : Nat) : Int))), (2, .int (zI ((to : Nat) : Int))), (3, .int (zI ((wind : Nat) : Int))), (4, .int (zI what)), (5, .int (zI ((k : Nat) : Int)))] [] ([(mo, moE ad qt sc), (ad 0, aI G 66 b), (ad 4, aI G 3 rf), (ad 10, aI G 7 f)]) := by
              intro f47
              induction f47 with
              | zero => intro k f hk1 hf hf47; exact absurd hf47 (Nat.not_lt_zero _)
              | succ f47 ih47 =>
                intro k f hk1 hf hf47
                refine x_iload 49 rfl dX7_word_47 5 rfl ?_
                refine x_aload_n 50 rfl dX7_word_49 0 rfl ?_
                refine x_get 53 rfl 0 0 rfl rfl (by decide) inX7_word_X7 flX7_word_7 rfl dX7_word_50 ?_
                refine x_bipush 55 rfl dX7_word_53 (z := 15) (by decide) ?_
                refine x_iald 56 rfl 1 15 rfl (⟨by omega, by omega⟩) (by decide) (v := ((n : Nat) : Int)) (hn) dX7_word_55 ?_
                refine x_icmp_ge 59 rfl (tgt := 84) dX7_word_56 (by decide) (by omega) (by omega) (fun h56 => ?_) (fun h56 => ?_)
                · skip
                  refine x_iconst 85 rfl dX7_word_84 (z := 0) (by decide) ?_
                  refine x_istore 87 rfl (lv' := [(5, .int (zI 0)), (0, .ref mo), (1, .int (zI ((fr : Nat) : Int))), (2, .int (zI ((to : Nat) : Int))), (3, .int (zI ((wind : Nat) : Int))), (4, .int (zI what))]) dX7_word_85 (by decide) rfl ?_
                  have L87 : ∀ (f87 : Nat) (r : Nat) (f : Nat → Int) (hr1 : r ≤ 7) (hf : ∀ p, p < n → f p = (fwN b n wind fr ((r * n) * n)) p), 7 - r < f87 → W_X7_word G E mo ad qt sc b rf fa n d c fr to wind what 87 [(0, .ref mo), (1, .int (zI ((fr : Nat) : Int))), (2, .int (zI ((to : Nat) : Int))), (3, .int (zI ((wind : Nat) : Int))), (4, .int (zI what)), (5, .int (zI ((r : Nat) : Int)))] [] ([(mo, moE ad qt sc), (ad 0, aI G 66 b), (ad 4, aI G 3 rf), (ad 10, aI G 7 f)]) := by
                    intro f87
                    induction f87 with
                    | zero => intro r f hr1 hf hf87; exact absurd hf87 (Nat.not_lt_zero _)
                    | succ f87 ih87 =>
                      intro r f hr1 hf hf87
                      refine x_iload 89 rfl dX7_word_87 5 rfl ?_
                      refine x_bipush 91 rfl dX7_word_89 (z := 7) (by decide) ?_
                      refine x_icmp_ge 94 rfl (tgt := 192) dX7_word_91 (by decide) (by omega) (by decide) (fun h91 => ?_) (fun h91 => ?_)
                      · skip
                        have hr7 : r = 7 := by omega
                        have hF : ∀ p, p < n → f p = fwN b n wind fr ((7 * n) * n) p := fun p hp => by rw [hf p hp, hr7]
                        have g1 := fw_r I wind fr ((7 * n) * n) to
                        refine x_aload_n 193 rfl dX7_word_192 0 rfl ?_
                        refine x_get 196 rfl 0 17 rfl rfl (by decide) inX7_word_X7 flX7_word_41 rfl dX7_word_193 ?_
                        refine x_iload_n 197 rfl dX7_word_196 2 rfl ?_
                        refine x_iald 198 rfl 3 to rfl (⟨by omega, by omega⟩) (by decide) (v := fwN b n wind fr ((7 * n) * n) to) (hF to (by omega)) dX7_word_197 ?_
                        refine x_ldc 200 rfl (v := zI 100000) wX7_word_ci225 dX7_word_198 ?_
                        refine x_icmp_lt 203 rfl (tgt := 205) dX7_word_200 (by decide) (by omega) (by decide) (fun h200 => ?_) (fun h200 => ?_)
                        · skip
                          refine x_iconst 206 rfl dX7_word_205 (z := 0) (by decide) ?_
                          refine x_istore 208 rfl (lv' := [(5, .int (zI 0)), (0, .ref mo), (1, .int (zI ((fr : Nat) : Int))), (2, .int (zI ((to : Nat) : Int))), (3, .int (zI ((wind : Nat) : Int))), (4, .int (zI what))]) dX7_word_206 (by decide) rfl ?_
                          have L208 : ∀ (f208 : Nat) (k : Nat) (hk1 : k < n) (hex : ∃ x, k ≤ x ∧ x < n ∧ lsG b n wind fr to x = true) (hL : leF (lsG b n wind fr to) 0 n = leF (lsG b n wind fr to) k (n - k)), n - k < f208 → W_X7_word G E mo ad qt sc b rf fa n d c fr to wind what 208 [(0, .ref mo), (1, .int (zI ((fr : Nat) : Int))), (2, .int (zI ((to : Nat) : Int))), (3, .int (zI ((wind : Nat) : Int))), (4, .int (zI what)), (5, .int (zI ((k : Nat) : Int)))] [] ([(mo, moE ad qt sc), (ad 0, aI G 66 b), (ad 4, aI G 3 rf), (ad 10, aI G 7 f)]) := by
                            intro f208
                            induction f208 with
                            | zero => intro k hk1 hex hL hf208; exact absurd hf208 (Nat.not_lt_zero _)
                            | succ f208 ih208 =>
                              intro k hk1 hex hL hf208
                              refine x_aload_n 209 rfl dX7_word_208 0 rfl ?_
                              refine x_get 212 rfl 0 17 rfl rfl (by decide) inX7_word_X7 flX7_word_41 rfl dX7_word_209 ?_
                              refine x_iload 214 rfl dX7_word_212 5 rfl ?_
                              refine x_iald 215 rfl 3 k rfl (⟨by omega, by omega⟩) (by decide) (v := fwN b n wind fr ((7 * n) * n) k) (hF k (by omega)) dX7_word_214 ?_
                              refine x_aload_n 216 rfl dX7_word_215 0 rfl ?_
                              refine x_iload 218 rfl dX7_word_216 5 rfl ?_
                              refine x_iload_n 219 rfl dX7_word_218 2 rfl ?_
                              refine x_iload_n 220 rfl dX7_word_219 3 rfl ?_
                              refine x_callV 223 rfl (c_X7_takes G mo ad qt sc b n d c I k to wind (by omega) (by omega) (by omega)) [0, 1] rfl (by decide) 0 rfl rfl gX7_word_X7_takes rfl rfl rfl hd_X7_takes ⟨Nat.le_of_ble_eq_true rfl, Nat.le_of_ble_eq_true rfl⟩ (As := [.int (zI ((k : Nat) : Int)), .int (zI ((to : Nat) : Int)), .int (zI ((wind : Nat) : Int))]) (rest := [.int (zI (fwN b n wind fr ((7 * n) * n) k))]) rfl rfl (Nat.le_of_ble_eq_true rfl) dX7_word_220 ⟨Nat.zero_le _, Nat.zero_le _⟩ (fun v w hq => ?_)
                              obtain ⟨rfl, rfl⟩ := hq
                              refine ⟨rfl, ?_⟩
                              refine x_ws (ws' := [(mo, moE ad qt sc), (ad 0, aI G 66 b), (ad 4, aI G 3 rf), (ad 10, aI G 7 f)]) (rfl) ?_
                              refine x_int (congrArg zI (by rw [taW_N (by omega) (by omega)] : ((taN b n wind k to : Nat) : Int) = ((taW b n wind k to : Nat) : Int))) ?_
                              have g2 := fw_r I wind fr ((7 * n) * n) k
                              have g3 := taW_r I wind k to
                              refine x_iadd 224 rfl dX7_word_223 (z := (fwN b n wind fr ((7 * n) * n) k) + ((taW b n wind k to : Nat) : Int)) (rfl) ?_
                              refine x_aload_n 225 rfl dX7_word_224 0 rfl ?_
                              refine x_get 228 rfl 0 17 rfl rfl (by decide) inX7_word_X7 flX7_word_41 rfl dX7_word_225 ?_
                              refine x_iload_n 229 rfl dX7_word_228 2 rfl ?_
                              refine x_iald 230 rfl 3 to rfl (⟨by omega, by omega⟩) (by decide) (v := fwN b n wind fr ((7 * n) * n) to) (hF to (by omega)) dX7_word_229 ?_
                              refine x_icmp_eq 233 rfl (tgt := 239) dX7_word_230 (by decide) (by omega) (by omega) (fun h230 => ?_) (fun h230 => ?_)
                              · skip
                                have hgt : lsG b n wind fr to k = true := decide_eq_true h230
                                refine x_iload 241 rfl dX7_word_239 4 rfl ?_
                                refine x_if_ne 244 rfl (tgt := 253) dX7_word_241 (by decide) (by omega) (fun h241 => ?_) (fun h241 => ?_)
                                · skip
                                  refine x_iload 255 rfl dX7_word_253 5 rfl ?_
                                  refine x_iret rfl ?_ dX7_word_255
                                  have e : wdR b n fr to wind what = ((k : Nat) : Int) := by unfold wdR; rw [if_neg (by omega), if_neg (by omega), hL]; exact leF_t (by omega) hgt
                                  exact ⟨f, by rw [hk0]; exact congrArg (fun z => some (Value.int (zI z))) e.symm, by rw [hk0]; rfl⟩
                                · skip
                                  refine x_aload_n 245 rfl dX7_word_244 0 rfl ?_
                                  refine x_get 248 rfl 0 17 rfl rfl (by decide) inX7_word_X7 flX7_word_41 rfl dX7_word_245 ?_
                                  refine x_iload_n 249 rfl dX7_word_248 2 rfl ?_
                                  refine x_iald 250 rfl 3 to rfl (⟨by omega, by omega⟩) (by decide) (v := fwN b n wind fr ((7 * n) * n) to) (hF to (by omega)) dX7_word_249 ?_
                                  refine x_goto dX7_word_250 (tgt := 255) (by decide) ?_
                                  refine x_iret rfl ?_ dX7_word_255
                                  have e : wdR b n fr to wind what = fwN b n wind fr ((7 * n) * n) to := by unfold wdR; rw [if_neg (by omega), if_pos (by omega)]
                                  exact ⟨f, by rw [hk0]; exact congrArg (fun z => some (Value.int (zI z))) e.symm, by rw [hk0]; rfl⟩
                              · skip
                                have hgf : lsG b n wind fr to k = false := decide_eq_false h230
                                refine x_iinc 236 rfl (lv' := [(5, .int (zI ((k + 1 : Nat) : Int))), (0, .ref mo), (1, .int (zI ((fr : Nat) : Int))), (2, .int (zI ((to : Nat) : Int))), (3, .int (zI ((wind : Nat) : Int))), (4, .int (zI what))]) dX7_word_233 5 rfl (b := ((k + 1 : Nat) : Int)) (by omega) (by decide) rfl ?_
                                refine x_goto dX7_word_236 (tgt := 208) (by decide) ?_
                                refine x_lv [1, 2, 3, 4, 5, 0] rfl ?_
                                exact ih208 (k + 1) (by obtain ⟨x, hx1, hx2, hx3⟩ := hex; by_cases e : x = k; (rw [e, hgf] at hx3; cases hx3); omega) (by obtain ⟨x, hx1, hx2, hx3⟩ := hex; by_cases e : x = k; (rw [e, hgf] at hx3; cases hx3); exact ⟨x, by omega, hx2, hx3⟩) (by rw [hL, leF_f (by omega) hgf, Nat.sub_sub]) (by omega)
                          refine x_lv [1, 2, 3, 4, 5, 0] rfl ?_
                          exact L208 _ 0 (by omega) (by obtain ⟨x, hx, he⟩ := g_last (tk := taW b n wind) (fr := fr) (s := (7 * n) * n) (by omega) (by omega) (taW_1 I wind) (taW_d b n wind) (seven_n hn7) (y := to) (by omega) (by omega) h200; exact ⟨x, Nat.zero_le _, hx, decide_eq_true he⟩) (rfl) (Nat.lt_succ_self _)
                        · skip
                          refine x_iconst 204 rfl dX7_word_203 (z := (-1)) (by decide) ?_
                          refine x_iret rfl ?_ dX7_word_204
                          have e : wdR b n fr to wind what = -1 := by unfold wdR; exact if_pos (by omega)
                          exact ⟨f, by rw [hk0]; exact congrArg (fun z => some (Value.int (zI z))) e.symm, by rw [hk0]; rfl⟩
                      · skip
                        refine x_iconst 95 rfl dX7_word_94 (z := 0) (by decide) ?_
                        refine x_istore 97 rfl (lv' := [(6, .int (zI 0)), (0, .ref mo), (1, .int (zI ((fr : Nat) : Int))), (2, .int (zI ((to : Nat) : Int))), (3, .int (zI ((wind : Nat) : Int))), (4, .int (zI what)), (5, .int (zI ((r : Nat) : Int)))]) dX7_word_95 (by decide) rfl ?_
                        have L97 : ∀ (f97 : Nat) (x : Nat) (f : Nat → Int) (hx1 : x ≤ n) (hf : ∀ p, p < n → f p = (fwN b n wind fr ((r * n + x) * n)) p), n - x < f97 → W_X7_word G E mo ad qt sc b rf fa n d c fr to wind what 97 [(0, .ref mo), (1, .int (zI ((fr : Nat) : Int))), (2, .int (zI ((to : Nat) : Int))), (3, .int (zI ((wind : Nat) : Int))), (4, .int (zI what)), (5, .int (zI ((r : Nat) : Int))), (6, .int (zI ((x : Nat) : Int)))] [] ([(mo, moE ad qt sc), (ad 0, aI G 66 b), (ad 4, aI G 3 rf), (ad 10, aI G 7 f)]) := by
                          intro f97
                          induction f97 with
                          | zero => intro x f hx1 hf hf97; exact absurd hf97 (Nat.not_lt_zero _)
                          | succ f97 ih97 =>
                            intro x f hx1 hf hf97
                            refine x_iload 99 rfl dX7_word_97 6 rfl ?_
                            refine x_aload_n 100 rfl dX7_word_99 0 rfl ?_
                            refine x_get 103 rfl 0 0 rfl rfl (by decide) inX7_word_X7 flX7_word_7 rfl dX7_word_100 ?_
                            refine x_bipush 105 rfl dX7_word_103 (z := 15) (by decide) ?_
                            refine x_iald 106 rfl 1 15 rfl (⟨by omega, by omega⟩) (by decide) (v := ((n : Nat) : Int)) (hn) dX7_word_105 ?_
                            refine x_icmp_ge 109 rfl (tgt := 186) dX7_word_106 (by decide) (by omega) (by omega) (fun h106 => ?_) (fun h106 => ?_)
                            · skip
                              refine x_iinc 189 rfl (lv' := [(5, .int (zI ((r + 1 : Nat) : Int))), (0, .ref mo), (1, .int (zI ((fr : Nat) : Int))), (2, .int (zI ((to : Nat) : Int))), (3, .int (zI ((wind : Nat) : Int))), (4, .int (zI what)), (6, .int (zI ((x : Nat) : Int)))]) dX7_word_186 5 rfl (b := ((r + 1 : Nat) : Int)) (by omega) (by decide) rfl ?_
                              refine x_goto dX7_word_189 (tgt := 87) (by decide) ?_
                              refine x_lv [1, 2, 3, 4, 5, 0] rfl ?_
                              exact ih87 (r + 1) f (by omega) (fun p hp => by rw [hf p hp, show x = n by omega, Nat.succ_mul]) (by omega)
                            · skip
                              refine x_iconst 110 rfl dX7_word_109 (z := 0) (by decide) ?_
                              refine x_istore 112 rfl (lv' := [(7, .int (zI 0)), (0, .ref mo), (1, .int (zI ((fr : Nat) : Int))), (2, .int (zI ((to : Nat) : Int))), (3, .int (zI ((wind : Nat) : Int))), (4, .int (zI what)), (5, .int (zI ((r : Nat) : Int))), (6, .int (zI ((x : Nat) : Int)))]) dX7_word_110 (by decide) rfl ?_
                              have L112 : ∀ (f112 : Nat) (y : Nat) (f : Nat → Int) (hy1 : y ≤ n) (hf : ∀ p, p < n → f p = (fwN b n wind fr ((r * n + x) * n + y)) p), n - y < f112 → W_X7_word G E mo ad qt sc b rf fa n d c fr to wind what 112 [(0, .ref mo), (1, .int (zI ((fr : Nat) : Int))), (2, .int (zI ((to : Nat) : Int))), (3, .int (zI ((wind : Nat) : Int))), (4, .int (zI what)), (5, .int (zI ((r : Nat) : Int))), (6, .int (zI ((x : Nat) : Int))), (7, .int (zI ((y : Nat) : Int)))] [] ([(mo, moE ad qt sc), (ad 0, aI G 66 b), (ad 4, aI G 3 rf), (ad 10, aI G 7 f)]) := by
                                intro f112
                                induction f112 with
                                | zero => intro y f hy1 hf hf112; exact absurd hf112 (Nat.not_lt_zero _)
                                | succ f112 ih112 =>
                                  intro y f hy1 hf hf112
                                  refine x_iload 114 rfl dX7_word_112 7 rfl ?_
                                  refine x_aload_n 115 rfl dX7_word_114 0 rfl ?_
                                  refine x_get 118 rfl 0 0 rfl rfl (by decide) inX7_word_X7 flX7_word_7 rfl dX7_word_115 ?_
                                  refine x_bipush 120 rfl dX7_word_118 (z := 15) (by decide) ?_
                                  refine x_iald 121 rfl 1 15 rfl (⟨by omega, by omega⟩) (by decide) (v := ((n : Nat) : Int)) (hn) dX7_word_120 ?_
                                  refine x_icmp_ge 124 rfl (tgt := 180) dX7_word_121 (by decide) (by omega) (by omega) (fun h121 => ?_) (fun h121 => ?_)
                                  · skip
                                    refine x_iinc 183 rfl (lv' := [(6, .int (zI ((x + 1 : Nat) : Int))), (0, .ref mo), (1, .int (zI ((fr : Nat) : Int))), (2, .int (zI ((to : Nat) : Int))), (3, .int (zI ((wind : Nat) : Int))), (4, .int (zI what)), (5, .int (zI ((r : Nat) : Int))), (7, .int (zI ((y : Nat) : Int)))]) dX7_word_180 6 rfl (b := ((x + 1 : Nat) : Int)) (by omega) (by decide) rfl ?_
                                    refine x_goto dX7_word_183 (tgt := 97) (by decide) ?_
                                    refine x_lv [1, 2, 3, 4, 5, 6, 0] rfl ?_
                                    exact ih97 (x + 1) f (by omega) (fun p hp => by rw [hf p hp, show y = n by omega, ← Nat.add_assoc, Nat.succ_mul]) (by omega)
                                  · skip
                                    have g1 := fw_r I wind fr ((r * n + x) * n + y) x
                                    have g2 := fw_r I wind fr ((r * n + x) * n + y) y
                                    have g3 := taW_r I wind x y
                                    refine x_aload_n 125 rfl dX7_word_124 0 rfl ?_
                                    refine x_get 128 rfl 0 17 rfl rfl (by decide) inX7_word_X7 flX7_word_41 rfl dX7_word_125 ?_
                                    refine x_iload 130 rfl dX7_word_128 6 rfl ?_
                                    refine x_iald 131 rfl 3 x rfl (⟨by omega, by omega⟩) (by decide) (v := fwN b n wind fr ((r * n + x) * n + y) x) (hf x (by omega)) dX7_word_130 ?_
                                    refine x_aload_n 132 rfl dX7_word_131 0 rfl ?_
                                    refine x_iload 134 rfl dX7_word_132 6 rfl ?_
                                    refine x_iload 136 rfl dX7_word_134 7 rfl ?_
                                    refine x_iload_n 137 rfl dX7_word_136 3 rfl ?_
                                    refine x_callV 140 rfl (c_X7_takes G mo ad qt sc b n d c I x y wind (by omega) (by omega) (by omega)) [0, 1] rfl (by decide) 0 rfl rfl gX7_word_X7_takes rfl rfl rfl hd_X7_takes ⟨Nat.le_of_ble_eq_true rfl, Nat.le_of_ble_eq_true rfl⟩ (As := [.int (zI ((x : Nat) : Int)), .int (zI ((y : Nat) : Int)), .int (zI ((wind : Nat) : Int))]) (rest := [.int (zI (fwN b n wind fr ((r * n + x) * n + y) x))]) rfl rfl (Nat.le_of_ble_eq_true rfl) dX7_word_137 ⟨Nat.zero_le _, Nat.zero_le _⟩ (fun v w hq => ?_)
                                    obtain ⟨rfl, rfl⟩ := hq
                                    refine ⟨rfl, ?_⟩
                                    refine x_ws (ws' := [(mo, moE ad qt sc), (ad 0, aI G 66 b), (ad 4, aI G 3 rf), (ad 10, aI G 7 f)]) (rfl) ?_
                                    refine x_int (congrArg zI (by rw [taW_N (by omega) (by omega)] : ((taN b n wind x y : Nat) : Int) = ((taW b n wind x y : Nat) : Int))) ?_
                                    refine x_iadd 141 rfl dX7_word_140 (z := (fwN b n wind fr ((r * n + x) * n + y) x) + ((taW b n wind x y : Nat) : Int)) (rfl) ?_
                                    refine x_istore 143 rfl (lv' := [(8, .int (zI ((fwN b n wind fr ((r * n + x) * n + y) x) + ((taW b n wind x y : Nat) : Int)))), (0, .ref mo), (1, .int (zI ((fr : Nat) : Int))), (2, .int (zI ((to : Nat) : Int))), (3, .int (zI ((wind : Nat) : Int))), (4, .int (zI what)), (5, .int (zI ((r : Nat) : Int))), (6, .int (zI ((x : Nat) : Int))), (7, .int (zI ((y : Nat) : Int)))]) dX7_word_141 (by decide) rfl ?_
                                    refine x_aload_n 144 rfl dX7_word_143 1 rfl ?_
                                    refine x_get 147 rfl 0 17 rfl rfl (by decide) inX7_word_X7 flX7_word_41 rfl dX7_word_144 ?_
                                    refine x_iload 149 rfl dX7_word_147 8 rfl ?_
                                    refine x_iload 151 rfl dX7_word_149 0 rfl ?_
                                    refine x_aload_n 152 rfl dX7_word_151 1 rfl ?_
                                    refine x_get 155 rfl 0 17 rfl rfl (by decide) inX7_word_X7 flX7_word_41 rfl dX7_word_152 ?_
                                    refine x_iload 157 rfl dX7_word_155 8 rfl ?_
                                    refine x_iald 158 rfl 3 y rfl (⟨by omega, by omega⟩) (by decide) (v := fwN b n wind fr ((r * n + x) * n + y) y) (hf y (by omega)) dX7_word_157 ?_
                                    refine x_icmp_ge 161 rfl (tgt := 166) dX7_word_158 (by decide) (by omega) (by omega) (fun h158 => ?_) (fun h158 => ?_)
                                    · skip
                                      refine x_aload_n 167 rfl dX7_word_166 1 rfl ?_
                                      refine x_get 170 rfl 0 17 rfl rfl (by decide) inX7_word_X7 flX7_word_41 rfl dX7_word_167 ?_
                                      refine x_iload 172 rfl dX7_word_170 8 rfl ?_
                                      refine x_iald 173 rfl 3 y rfl (⟨by omega, by omega⟩) (by decide) (v := fwN b n wind fr ((r * n + x) * n + y) y) (hf y (by omega)) dX7_word_172 ?_
                                      refine x_iast 174 rfl 3 y rfl (⟨by omega, by omega⟩) (by decide) (ws' := [(mo, moE ad qt sc), (ad 0, aI G 66 b), (ad 4, aI G 3 rf), (ad 10, aI G 7 (zup f y (fwN b n wind fr ((r * n + x) * n + y) y)))]) (rfl) dX7_word_173 ?_
                                      refine x_iinc 177 rfl (lv' := [(7, .int (zI ((y + 1 : Nat) : Int))), (8, .int (zI ((fwN b n wind fr ((r * n + x) * n + y) x) + ((taW b n wind x y : Nat) : Int)))), (0, .ref mo), (1, .int (zI ((fr : Nat) : Int))), (2, .int (zI ((to : Nat) : Int))), (3, .int (zI ((wind : Nat) : Int))), (4, .int (zI what)), (5, .int (zI ((r : Nat) : Int))), (6, .int (zI ((x : Nat) : Int)))]) dX7_word_174 8 rfl (b := ((y + 1 : Nat) : Int)) (by omega) (by decide) rfl ?_
                                      refine x_goto dX7_word_177 (tgt := 112) (by decide) ?_
                                      refine x_lv [2, 3, 4, 5, 6, 7, 8, 0] rfl ?_
                                      exact ih112 (y + 1) (zup f y (fwN b n wind fr ((r * n + x) * n + y) y)) (by omega) (fun p hp => by
                                          rw [fw_s (by omega) (by omega)]
                                          by_cases e : p = y
                                          · subst e; rw [zup_s, if_pos rfl]; omega
                                          · rw [zup_n _ _ e, if_neg e]; exact hf p hp) (by omega)
                                    · skip
                                      refine x_iload 163 rfl dX7_word_161 0 rfl ?_
                                      refine x_goto dX7_word_163 (tgt := 173) (by decide) ?_
                                      refine x_iast 174 rfl 3 y rfl (⟨by omega, by omega⟩) (by decide) (ws' := [(mo, moE ad qt sc), (ad 0, aI G 66 b), (ad 4, aI G 3 rf), (ad 10, aI G 7 (zup f y ((fwN b n wind fr ((r * n + x) * n + y) x) + ((taW b n wind x y : Nat) : Int))))]) (rfl) dX7_word_173 ?_
                                      refine x_iinc 177 rfl (lv' := [(7, .int (zI ((y + 1 : Nat) : Int))), (8, .int (zI ((fwN b n wind fr ((r * n + x) * n + y) x) + ((taW b n wind x y : Nat) : Int)))), (0, .ref mo), (1, .int (zI ((fr : Nat) : Int))), (2, .int (zI ((to : Nat) : Int))), (3, .int (zI ((wind : Nat) : Int))), (4, .int (zI what)), (5, .int (zI ((r : Nat) : Int))), (6, .int (zI ((x : Nat) : Int)))]) dX7_word_174 8 rfl (b := ((y + 1 : Nat) : Int)) (by omega) (by decide) rfl ?_
                                      refine x_goto dX7_word_177 (tgt := 112) (by decide) ?_
                                      refine x_lv [2, 3, 4, 5, 6, 7, 8, 0] rfl ?_
                                      exact ih112 (y + 1) (zup f y ((fwN b n wind fr ((r * n + x) * n + y) x) + ((taW b n wind x y : Nat) : Int))) (by omega) (fun p hp => by
                                          rw [fw_s (by omega) (by omega)]
                                          by_cases e : p = y
                                          · subst e; rw [zup_s, if_pos rfl]; omega
                                          · rw [zup_n _ _ e, if_neg e]; exact hf p hp) (by omega)
                              refine x_lv [1, 2, 3, 4, 5, 6, 7, 0] rfl ?_
                              exact L112 _ 0 f (by omega) (hf) (Nat.lt_succ_self _)
                        refine x_lv [1, 2, 3, 4, 5, 6, 0] rfl ?_
                        exact L97 _ 0 f (by omega) (hf) (Nat.lt_succ_self _)
                  refine x_lv [1, 2, 3, 4, 5, 0] rfl ?_
                  exact L87 _ 0 f (by omega) (fun p hp => by rw [hf p (by omega), Nat.zero_mul, Nat.zero_mul]; rfl) (Nat.lt_succ_self _)
                · skip
                  refine x_aload_n 60 rfl dX7_word_59 0 rfl ?_
                  refine x_get 63 rfl 0 17 rfl rfl (by decide) inX7_word_X7 flX7_word_41 rfl dX7_word_60 ?_
                  refine x_iload 65 rfl dX7_word_63 5 rfl ?_
                  refine x_iload 67 rfl dX7_word_65 5 rfl ?_
                  refine x_iload_n 68 rfl dX7_word_67 1 rfl ?_
                  refine x_icmp_ne 71 rfl (tgt := 75) dX7_word_68 (by decide) (by omega) (by omega) (fun h68 => ?_) (fun h68 => ?_)
                  · skip
                    refine x_ldc 77 rfl (v := zI 100000) wX7_word_ci225 dX7_word_75 ?_
                    refine x_iast 78 rfl 3 k rfl (⟨by omega, by omega⟩) (by decide) (ws' := [(mo, moE ad qt sc), (ad 0, aI G 66 b), (ad 4, aI G 3 rf), (ad 10, aI G 7 (zup f k 100000))]) (rfl) dX7_word_77 ?_
                    refine x_iinc 81 rfl (lv' := [(5, .int (zI ((k + 1 : Nat) : Int))), (0, .ref mo), (1, .int (zI ((fr : Nat) : Int))), (2, .int (zI ((to : Nat) : Int))), (3, .int (zI ((wind : Nat) : Int))), (4, .int (zI what))]) dX7_word_78 5 rfl (b := ((k + 1 : Nat) : Int)) (by omega) (by decide) rfl ?_
                    refine x_goto dX7_word_81 (tgt := 47) (by decide) ?_
                    refine x_lv [1, 2, 3, 4, 5, 0] rfl ?_
                    exact ih47 (k + 1) (zup f k 100000) (by omega) (fun p hp => by
                        by_cases e : p = k
                        · subst e; rw [zup_s]; unfold wd0; first | rw [if_pos (by omega)] | rw [if_neg (by omega)]
                        · rw [zup_n _ _ e]; exact hf p (by omega)) (by omega)
                  · skip
                    refine x_iconst 72 rfl dX7_word_71 (z := 0) (by decide) ?_
                    refine x_goto dX7_word_72 (tgt := 77) (by decide) ?_
                    refine x_iast 78 rfl 3 k rfl (⟨by omega, by omega⟩) (by decide) (ws' := [(mo, moE ad qt sc), (ad 0, aI G 66 b), (ad 4, aI G 3 rf), (ad 10, aI G 7 (zup f k 0))]) (rfl) dX7_word_77 ?_
                    refine x_iinc 81 rfl (lv' := [(5, .int (zI ((k + 1 : Nat) : Int))), (0, .ref mo), (1, .int (zI ((fr : Nat) : Int))), (2, .int (zI ((to : Nat) : Int))), (3, .int (zI ((wind : Nat) : Int))), (4, .int (zI what))]) dX7_word_78 5 rfl (b := ((k + 1 : Nat) : Int)) (by omega) (by decide) rfl ?_
                    refine x_goto dX7_word_81 (tgt := 47) (by decide) ?_
                    refine x_lv [1, 2, 3, 4, 5, 0] rfl ?_
                    exact ih47 (k + 1) (zup f k 0) (by omega) (fun p hp => by
                        by_cases e : p = k
                        · subst e; rw [zup_s]; unfold wd0; first | rw [if_pos (by omega)] | rw [if_neg (by omega)]
                        · rw [zup_n _ _ e]; exact hf p (by omega)) (by omega)
            refine x_lv [1, 2, 3, 4, 5, 0] rfl ?_
            exact L47 _ 0 fa (by omega) (fun p hp => absurd hp (Nat.not_lt_zero _)) (Nat.lt_succ_self _)
          · have h36 := of_decide_eq_false h36
            refine x_aload_n 40 rfl dX7_word_39 0 rfl ?_
            refine x_callV 43 rfl (c_X7_bad G mo ad qt sc rf) [0, 2] rfl (by decide) 0 rfl rfl gX7_word_X7_bad rfl rfl rfl hd_X7_bad ⟨Nat.le_of_ble_eq_true rfl, Nat.le_of_ble_eq_true rfl⟩ (As := []) (rest := []) rfl rfl (Nat.le_of_ble_eq_true rfl) dX7_word_40 ⟨Nat.zero_le _, Nat.zero_le _⟩ (fun v w hq => ?_)
            obtain ⟨rfl, rfl⟩ := hq
            refine ⟨rfl, ?_⟩
            refine x_ws (ws' := [(mo, moE ad qt sc), (ad 0, aI G 66 b), (ad 4, aI G 3 (rfU qt rf 0)), (ad 10, aI G 7 fa)]) (rfl) ?_
            refine x_iret rfl ?_ dX7_word_43
            have hk : kX n fr to wind what = 1 := by unfold kX; exact if_neg (fun hh => by obtain ⟨ha, hb, hc, hd, he⟩ := hh; first | omega | simp_all)
            exact ⟨fa, by rw [hk]; rfl, by rw [hk]; rfl⟩

