abbrev P_X6_word (G : XG) (go : Nat) (ga : Nat → Nat) (b : Nat → Int) (n : Nat) (d : Nat) (c : Nat) (gf : Nat → Nat → Int) (wn : Nat) (sp : Nat) (ia : Nat) (ka : Nat) (tq : Nat) (wh : Nat) (nm : Nat) (ra : Nat) (rf : Nat → Int) (wa : Nat → Nat) (fo : Int) (le : Int) (la : Nat → Nat) (F : Nat → LsT) (kf : Nat → Int) (nf : Nat → Int) (fr : Int) (to : Int) (wind : Int) (what : Int) : Option Value → va_W → Prop := fun r ws => ∃ F' : Nat → LsT, ∃ kf' nf' : Nat → Int, r = some (.int (zI (rC (kX n fr to wind what) (wdR b n fr.toNat to.toNat wind.toNat what)))) ∧ ws = [(wn, .inr (5, [.ref go, .ref sp, .ref ia, .ref ka, .ref tq, .ref wh, .ref nm, .ref ra])), (ra, aI G 3 (rfC false rf (kX n fr to wind what))), (wh, whE wa fo le), (wa 0, aN G 7 (laF la)), (wa 2, aI G 7 kf'), (wa 4, aI G 7 nf'), (go, goE ga ((n : Nat) : Int) ((d : Nat) : Int) ((c : Nat) : Int)), (ga 0, aI G 36 (gf 0)), (ga 1, aI G 7 (gf 1)), (ga 2, aI G 7 (gf 2)), (ga 3, aI G 7 (gf 3)), (ga 4, aI G 7 (gf 4)), (ga 5, aI G 6 (gf 5)), (ga 6, aI G 6 (gf 6)), (ga 7, aI G 8 (gf 7))] ++ lsW la F'
abbrev W_X6_word (G : XG) (E : XE) (go : Nat) (ga : Nat → Nat) (b : Nat → Int) (n : Nat) (d : Nat) (c : Nat) (gf : Nat → Nat → Int) (wn : Nat) (sp : Nat) (ia : Nat) (ka : Nat) (tq : Nat) (wh : Nat) (nm : Nat) (ra : Nat) (rf : Nat → Int) (wa : Nat → Nat) (fo : Int) (le : Int) (la : Nat → Nat) (F : Nat → LsT) (kf : Nat → Int) (nf : Nat → Int) (fr : Int) (to : Int) (wind : Int) (what : Int) (pc : Nat) (lv : List (Nat × Value)) (st : List Value) (ws : va_W) : Prop := Wx G E (rmL 6) cX6_word 6 RX6 wsX6_word (some .int) "word" 0 0 (P_X6_word G go ga b n d c gf wn sp ia ka tq wh nm ra rf wa fo le la F kf nf fr to wind what) 0 0 pc lv st ws
theorem flX6_word_10 : Cond.fieldLink RX6 10 (TX6 0).1 (TX6 0).2.1 (TX6 0).2.2.1 ∈ wsX6_word := by decide +kernel
theorem flX6_word_37 : Cond.fieldLink RX6 37 (TX6 5).1 (TX6 5).2.1 (TX6 5).2.2.1 ∈ wsX6_word := by decide +kernel
theorem flX6_word_175 : Cond.fieldLink RX6 175 (TX5 4).1 (TX5 4).2.1 (TX5 4).2.2.1 ∈ wsX6_word := by decide +kernel
theorem inX6_word_X5 : ∀ w ∈ u_ws RX5 TX5 7, w ∈ wsX6_word := fun _ h => List.mem_cons_of_mem _ (List.mem_append_left _ (List.mem_append_left _ (List.mem_append_right _ h)))
theorem inX6_word_X6 : ∀ w ∈ u_ws RX6 TX6 8, w ∈ wsX6_word := fun _ h => List.mem_cons_of_mem _ (List.mem_append_left _ (List.mem_append_left _ (List.mem_append_left _ (List.mem_append_right _ h))))
set_option maxHeartbeats 4000000 in
set_option maxRecDepth 100000 in
/-- word -/
theorem c_X6_word (G : XG) (go : Nat) (ga : Nat → Nat) (b : Nat → Int) (n d c : Nat) (gf : Nat → Nat → Int) (I : Inv b n d c) (R : GR b n d c gf) (wn sp ia ka tq wh nm ra : Nat) (rf : Nat → Int) (wa : Nat → Nat) (fo le : Int) (la : Nat → Nat) (F : Nat → LsT) (kf nf : Nat → Int) (fr to wind what : Int) (h1 : Z32 fr) (h2 : Z32 to) (h3 : Z32 wind) (h4 : Z32 what) : Con G yX6_word wsX6_word (rmL 6) 0 0 [.ref wn, .int (zI fr), .int (zI to), .int (zI wind), .int (zI what)] ([(wn, .inr (5, [.ref go, .ref sp, .ref ia, .ref ka, .ref tq, .ref wh, .ref nm, .ref ra])), (ra, aI G 3 rf), (wh, whE wa fo le), (wa 0, aN G 7 (laF la)), (wa 2, aI G 7 kf), (wa 4, aI G 7 nf), (go, goE ga ((n : Nat) : Int) ((d : Nat) : Int) ((c : Nat) : Int)), (ga 0, aI G 36 (gf 0)), (ga 1, aI G 7 (gf 1)), (ga 2, aI G 7 (gf 2)), (ga 3, aI G 7 (gf 3)), (ga 4, aI G 7 (gf 4)), (ga 5, aI G 6 (gf 5)), (ga 6, aI G 6 (gf 6)), (ga 7, aI G 8 (gf 7))] ++ lsW la F) (P_X6_word G go ga b n d c gf wn sp ia ka tq wh nm ra rf wa fo le la F kf nf fr to wind what) := by
  refine x_start (cc := cX6_word) (nL := 6) (ret := (some .int)) (by decide) rfl (Nat.le_of_ble_eq_true rfl) (fun E => ?_)
  show W_X6_word G E go ga b n d c gf wn sp ia ka tq wh nm ra rf wa fo le la F kf nf fr to wind what 0 [(0, .ref wn), (1, .int (zI fr)), (2, .int (zI to)), (3, .int (zI wind)), (4, .int (zI what))] [] ([(wn, .inr (5, [.ref go, .ref sp, .ref ia, .ref ka, .ref tq, .ref wh, .ref nm, .ref ra])), (ra, aI G 3 rf), (wh, whE wa fo le), (wa 0, aN G 7 (laF la)), (wa 2, aI G 7 kf), (wa 4, aI G 7 nf), (go, goE ga ((n : Nat) : Int) ((d : Nat) : Int) ((c : Nat) : Int)), (ga 0, aI G 36 (gf 0)), (ga 1, aI G 7 (gf 1)), (ga 2, aI G 7 (gf 2)), (ga 3, aI G 7 (gf 3)), (ga 4, aI G 7 (gf 4)), (ga 5, aI G 6 (gf 5)), (ga 6, aI G 6 (gf 6)), (ga 7, aI G 8 (gf 7))] ++ lsW la F)
  have hn7 := I.n7
  have hd6 := I.d6
  have hc8 := I.c8
  refine x_aload_n 1 rfl dX6_word_0 0 rfl ?_
  refine x_get 4 rfl (v := .ref go) 0 0 rfl rfl (by decide) inX6_word_X6 flX6_word_10 rfl dX6_word_1 ?_
  refine x_iload_n 5 rfl dX6_word_4 1 rfl ?_
  refine x_callV 8 rfl (c_X0_isPerson G go ga b n d c gf I R fr (by omega)) [6, 7, 8, 9, 10, 11, 12, 13, 14] rfl (by decide) 6 rfl rfl gX6_word_X0_isPerson rfl rfl rfl hd_X0_isPerson ⟨Nat.le_of_ble_eq_true rfl, Nat.le_of_ble_eq_true rfl⟩ (As := [.int (zI fr)]) (rest := []) rfl rfl (Nat.le_of_ble_eq_true rfl) dX6_word_5 ⟨Nat.zero_le _, Nat.zero_le _⟩ (fun v w hq => ?_)
  obtain ⟨rfl, rfl⟩ := hq
  refine ⟨rfl, ?_⟩
  refine x_wp (ws' := [(wn, .inr (5, [.ref go, .ref sp, .ref ia, .ref ka, .ref tq, .ref wh, .ref nm, .ref ra])), (ra, aI G 3 rf), (wh, whE wa fo le), (wa 0, aN G 7 (laF la)), (wa 2, aI G 7 kf), (wa 4, aI G 7 nf), (go, goE ga ((n : Nat) : Int) ((d : Nat) : Int) ((c : Nat) : Int)), (ga 0, aI G 36 (gf 0)), (ga 1, aI G 7 (gf 1)), (ga 2, aI G 7 (gf 2)), (ga 3, aI G 7 (gf 3)), (ga 4, aI G 7 (gf 4)), (ga 5, aI G 6 (gf 5)), (ga 6, aI G 6 (gf 6)), (ga 7, aI G 8 (gf 7))] ++ lsW la F) rfl ?_
  refine x_bif_eq 11 rfl (tgt := 27) dX6_word_8 (by decide) (fun h8 => ?_) (fun h8 => ?_)
  · have h8 := of_decide_eq_false h8
    refine x_aload_n 28 rfl dX6_word_27 0 rfl ?_
    refine x_bipush 30 rfl dX6_word_28 (z := (-2)) (by decide) ?_
    refine x_bipush 32 rfl dX6_word_30 (z := (-2)) (by decide) ?_
    refine x_callV 35 rfl (c_X6_refuse G wn go sp ia ka tq wh nm ra rf 1 (-2) (-2) (by decide) (by decide) (by decide)) [0, 1] rfl (by decide) 0 rfl rfl gX6_word_X6_refuse rfl rfl rfl hd_X6_refuse ⟨Nat.le_of_ble_eq_true rfl, Nat.le_of_ble_eq_true rfl⟩ (As := [.int (zI (-2)), .int (zI (-2))]) (rest := []) rfl rfl (Nat.le_of_ble_eq_true rfl) dX6_word_32 ⟨Nat.zero_le _, Nat.zero_le _⟩ (fun v w hq => ?_)
    obtain ⟨rfl, rfl⟩ := hq
    refine ⟨rfl, ?_⟩
    refine x_wp (ws' := [(wn, .inr (5, [.ref go, .ref sp, .ref ia, .ref ka, .ref tq, .ref wh, .ref nm, .ref ra])), (ra, aI G 3 (rfC false rf 1)), (wh, whE wa fo le), (wa 0, aN G 7 (laF la)), (wa 2, aI G 7 kf), (wa 4, aI G 7 nf), (go, goE ga ((n : Nat) : Int) ((d : Nat) : Int) ((c : Nat) : Int)), (ga 0, aI G 36 (gf 0)), (ga 1, aI G 7 (gf 1)), (ga 2, aI G 7 (gf 2)), (ga 3, aI G 7 (gf 3)), (ga 4, aI G 7 (gf 4)), (ga 5, aI G 6 (gf 5)), (ga 6, aI G 6 (gf 6)), (ga 7, aI G 8 (gf 7))] ++ lsW la F) rfl ?_
    refine x_iret rfl ?_ dX6_word_35
    have hk : kX n fr to wind what = 1 := by unfold kX; exact if_neg (fun hh => by first | omega | (simp [*] at hh; done) | (obtain ⟨ha, hb, hc, hd⟩ := hh; first | omega | simp_all) | (obtain ⟨ha, hb, hc⟩ := hh; first | omega | simp_all) | (obtain ⟨ha, hb⟩ := hh; first | omega | simp_all))
    exact ⟨_, _, _, by rw [hk] <;> rfl, by rw [hk] <;> rfl⟩
  · have h8 := of_decide_eq_true h8
    refine x_aload_n 12 rfl dX6_word_11 0 rfl ?_
    refine x_get 15 rfl (v := .ref go) 0 0 rfl rfl (by decide) inX6_word_X6 flX6_word_10 rfl dX6_word_12 ?_
    refine x_iload_n 16 rfl dX6_word_15 2 rfl ?_
    refine x_callV 19 rfl (c_X0_isPerson G go ga b n d c gf I R to (by omega)) [6, 7, 8, 9, 10, 11, 12, 13, 14] rfl (by decide) 6 rfl rfl gX6_word_X0_isPerson rfl rfl rfl hd_X0_isPerson ⟨Nat.le_of_ble_eq_true rfl, Nat.le_of_ble_eq_true rfl⟩ (As := [.int (zI to)]) (rest := []) rfl rfl (Nat.le_of_ble_eq_true rfl) dX6_word_16 ⟨Nat.zero_le _, Nat.zero_le _⟩ (fun v w hq => ?_)
    obtain ⟨rfl, rfl⟩ := hq
    refine ⟨rfl, ?_⟩
    refine x_wp (ws' := [(wn, .inr (5, [.ref go, .ref sp, .ref ia, .ref ka, .ref tq, .ref wh, .ref nm, .ref ra])), (ra, aI G 3 rf), (wh, whE wa fo le), (wa 0, aN G 7 (laF la)), (wa 2, aI G 7 kf), (wa 4, aI G 7 nf), (go, goE ga ((n : Nat) : Int) ((d : Nat) : Int) ((c : Nat) : Int)), (ga 0, aI G 36 (gf 0)), (ga 1, aI G 7 (gf 1)), (ga 2, aI G 7 (gf 2)), (ga 3, aI G 7 (gf 3)), (ga 4, aI G 7 (gf 4)), (ga 5, aI G 6 (gf 5)), (ga 6, aI G 6 (gf 6)), (ga 7, aI G 8 (gf 7))] ++ lsW la F) rfl ?_
    refine x_bif_eq 22 rfl (tgt := 27) dX6_word_19 (by decide) (fun h19 => ?_) (fun h19 => ?_)
    · have h19 := of_decide_eq_false h19
      refine x_aload_n 28 rfl dX6_word_27 0 rfl ?_
      refine x_bipush 30 rfl dX6_word_28 (z := (-2)) (by decide) ?_
      refine x_bipush 32 rfl dX6_word_30 (z := (-2)) (by decide) ?_
      refine x_callV 35 rfl (c_X6_refuse G wn go sp ia ka tq wh nm ra rf 1 (-2) (-2) (by decide) (by decide) (by decide)) [0, 1] rfl (by decide) 0 rfl rfl gX6_word_X6_refuse rfl rfl rfl hd_X6_refuse ⟨Nat.le_of_ble_eq_true rfl, Nat.le_of_ble_eq_true rfl⟩ (As := [.int (zI (-2)), .int (zI (-2))]) (rest := []) rfl rfl (Nat.le_of_ble_eq_true rfl) dX6_word_32 ⟨Nat.zero_le _, Nat.zero_le _⟩ (fun v w hq => ?_)
      obtain ⟨rfl, rfl⟩ := hq
      refine ⟨rfl, ?_⟩
      refine x_wp (ws' := [(wn, .inr (5, [.ref go, .ref sp, .ref ia, .ref ka, .ref tq, .ref wh, .ref nm, .ref ra])), (ra, aI G 3 (rfC false rf 1)), (wh, whE wa fo le), (wa 0, aN G 7 (laF la)), (wa 2, aI G 7 kf), (wa 4, aI G 7 nf), (go, goE ga ((n : Nat) : Int) ((d : Nat) : Int) ((c : Nat) : Int)), (ga 0, aI G 36 (gf 0)), (ga 1, aI G 7 (gf 1)), (ga 2, aI G 7 (gf 2)), (ga 3, aI G 7 (gf 3)), (ga 4, aI G 7 (gf 4)), (ga 5, aI G 6 (gf 5)), (ga 6, aI G 6 (gf 6)), (ga 7, aI G 8 (gf 7))] ++ lsW la F) rfl ?_
      refine x_iret rfl ?_ dX6_word_35
      have hk : kX n fr to wind what = 1 := by unfold kX; exact if_neg (fun hh => by first | omega | (simp [*] at hh; done) | (obtain ⟨ha, hb, hc, hd⟩ := hh; first | omega | simp_all) | (obtain ⟨ha, hb, hc⟩ := hh; first | omega | simp_all) | (obtain ⟨ha, hb⟩ := hh; first | omega | simp_all))
      exact ⟨_, _, _, by rw [hk] <;> rfl, by rw [hk] <;> rfl⟩
    · have h19 := of_decide_eq_true h19
      refine x_iload_n 23 rfl dX6_word_22 1 rfl ?_
      refine x_iload_n 24 rfl dX6_word_23 2 rfl ?_
      refine x_icmp_ne 27 rfl (tgt := 36) dX6_word_24 (by decide) (by omega) (by omega) (fun h24 => ?_) (fun h24 => ?_)
      · skip
        refine x_iload_n 37 rfl dX6_word_36 3 rfl ?_
        refine x_iconst 38 rfl dX6_word_37 (z := 4) (by decide) ?_
        refine x_callS0 41 rfl (c_X6_isBelow G wind 4 (by omega) (by omega)) (fun _ _ h => h.2) gX6_word_X6_isBelow rfl rfl rfl hd_X6_isBelow ⟨Nat.le_of_ble_eq_true rfl, Nat.le_of_ble_eq_true rfl⟩ (As := [.int (zI wind), .int (zI 4)]) (rest := []) rfl rfl (Nat.le_of_ble_eq_true rfl) dX6_word_38 ⟨Nat.zero_le _, Nat.zero_le _⟩ (fun v hq => ?_)
        obtain ⟨rfl, -⟩ := hq
        refine x_bif_eq 44 rfl (tgt := 53) dX6_word_41 (by decide) (fun h41 => ?_) (fun h41 => ?_)
        · have h41 := of_decide_eq_false h41
          refine x_aload_n 54 rfl dX6_word_53 0 rfl ?_
          refine x_bipush 56 rfl dX6_word_54 (z := (-2)) (by decide) ?_
          refine x_bipush 58 rfl dX6_word_56 (z := (-2)) (by decide) ?_
          refine x_callV 61 rfl (c_X6_refuse G wn go sp ia ka tq wh nm ra rf 1 (-2) (-2) (by decide) (by decide) (by decide)) [0, 1] rfl (by decide) 0 rfl rfl gX6_word_X6_refuse rfl rfl rfl hd_X6_refuse ⟨Nat.le_of_ble_eq_true rfl, Nat.le_of_ble_eq_true rfl⟩ (As := [.int (zI (-2)), .int (zI (-2))]) (rest := []) rfl rfl (Nat.le_of_ble_eq_true rfl) dX6_word_58 ⟨Nat.zero_le _, Nat.zero_le _⟩ (fun v w hq => ?_)
          obtain ⟨rfl, rfl⟩ := hq
          refine ⟨rfl, ?_⟩
          refine x_wp (ws' := [(wn, .inr (5, [.ref go, .ref sp, .ref ia, .ref ka, .ref tq, .ref wh, .ref nm, .ref ra])), (ra, aI G 3 (rfC false rf 1)), (wh, whE wa fo le), (wa 0, aN G 7 (laF la)), (wa 2, aI G 7 kf), (wa 4, aI G 7 nf), (go, goE ga ((n : Nat) : Int) ((d : Nat) : Int) ((c : Nat) : Int)), (ga 0, aI G 36 (gf 0)), (ga 1, aI G 7 (gf 1)), (ga 2, aI G 7 (gf 2)), (ga 3, aI G 7 (gf 3)), (ga 4, aI G 7 (gf 4)), (ga 5, aI G 6 (gf 5)), (ga 6, aI G 6 (gf 6)), (ga 7, aI G 8 (gf 7))] ++ lsW la F) rfl ?_
          refine x_iret rfl ?_ dX6_word_61
          have hk : kX n fr to wind what = 1 := by unfold kX; exact if_neg (fun hh => by first | omega | (simp [*] at hh; done) | (obtain ⟨ha, hb, hc, hd⟩ := hh; first | omega | simp_all) | (obtain ⟨ha, hb, hc⟩ := hh; first | omega | simp_all) | (obtain ⟨ha, hb⟩ := hh; first | omega | simp_all))
          exact ⟨_, _, _, by rw [hk] <;> rfl, by rw [hk] <;> rfl⟩
        · have h41 := of_decide_eq_true h41
          refine x_iload 46 rfl dX6_word_44 4 rfl ?_
          refine x_iconst 47 rfl dX6_word_46 (z := 2) (by decide) ?_
          refine x_callS0 50 rfl (c_X6_isBelow G what 2 (by omega) (by omega)) (fun _ _ h => h.2) gX6_word_X6_isBelow rfl rfl rfl hd_X6_isBelow ⟨Nat.le_of_ble_eq_true rfl, Nat.le_of_ble_eq_true rfl⟩ (As := [.int (zI what), .int (zI 2)]) (rest := []) rfl rfl (Nat.le_of_ble_eq_true rfl) dX6_word_47 ⟨Nat.zero_le _, Nat.zero_le _⟩ (fun v hq => ?_)
          obtain ⟨rfl, -⟩ := hq
          refine x_bif_ne 53 rfl (tgt := 62) dX6_word_50 (by decide) (fun h50 => ?_) (fun h50 => ?_)
          · have h50 := of_decide_eq_true h50
            obtain ⟨fr, rfl⟩ : ∃ zk : Nat, fr = (zk : Int) := ⟨Int.toNat fr, by omega⟩
            obtain ⟨to, rfl⟩ : ∃ zk : Nat, to = (zk : Int) := ⟨Int.toNat to, by omega⟩
            obtain ⟨wind, rfl⟩ : ∃ zk : Nat, wind = (zk : Int) := ⟨Int.toNat wind, by omega⟩
            refine x_aload_n 63 rfl dX6_word_62 0 rfl ?_
            have hk0 : kX n ((fr : Nat) : Int) ((to : Nat) : Int) ((wind : Nat) : Int) what = 0 := by unfold kX; exact if_pos ⟨by omega, by omega, by omega, by omega, by omega⟩
            refine x_get 66 rfl (v := .ref wh) 0 5 rfl rfl (by decide) inX6_word_X6 flX6_word_37 rfl dX6_word_63 ?_
            refine x_aload_n 67 rfl dX6_word_66 0 rfl ?_
            refine x_get 70 rfl (v := .ref go) 0 0 rfl rfl (by decide) inX6_word_X6 flX6_word_10 rfl dX6_word_67 ?_
            refine x_iload_n 71 rfl dX6_word_70 1 rfl ?_
            refine x_iload_n 72 rfl dX6_word_71 3 rfl ?_
            refine x_callV 75 rfl (c_X5_sendWord G go ga b n d c gf I R wh wa fo le la F kf nf fr wind (by omega) (by omega)) [2, 3, 4, 5, 6, 7, 8, 9, 10, 11, 12, 13, 14, 15, 16, 17, 18, 19, 20, 21] rfl (by decide) 2 rfl rfl gX6_word_X5_sendWord rfl rfl rfl hd_X5_sendWord ⟨Nat.le_of_ble_eq_true rfl, Nat.le_of_ble_eq_true rfl⟩ (As := [.ref go, .int (zI ((fr : Nat) : Int)), .int (zI ((wind : Nat) : Int))]) (rest := []) rfl rfl (Nat.le_of_ble_eq_true rfl) dX6_word_72 ⟨Nat.zero_le _, Nat.zero_le _⟩ (fun v w hq => ?_)
            obtain ⟨Fz, kz, nz, rfl, rfl, hkz, hnz⟩ := hq
            refine ⟨rfl, ?_⟩
            refine x_wp (ws' := [(wn, .inr (5, [.ref go, .ref sp, .ref ia, .ref ka, .ref tq, .ref wh, .ref nm, .ref ra])), (ra, aI G 3 rf), (wh, whE wa fo le), (wa 0, aN G 7 (laF la)), (wa 2, aI G 7 kz), (wa 4, aI G 7 nz), (go, goE ga ((n : Nat) : Int) ((d : Nat) : Int) ((c : Nat) : Int)), (ga 0, aI G 36 (gf 0)), (ga 1, aI G 7 (gf 1)), (ga 2, aI G 7 (gf 2)), (ga 3, aI G 7 (gf 3)), (ga 4, aI G 7 (gf 4)), (ga 5, aI G 6 (gf 5)), (ga 6, aI G 6 (gf 6)), (ga 7, aI G 8 (gf 7))] ++ lsW la Fz) rfl ?_
            have hfw := fw_r I wind fr ((7 * n) * n) to
            obtain ⟨w0, hw0⟩ : ∃ w0, w0 = enc (fwN b n wind fr ((7 * n) * n) to) := ⟨_, rfl⟩
            have hw1 : -1 ≤ w0 ∧ w0 ≤ 100000 ∧ ((fwN b n wind fr ((7 * n) * n) to) < 100000 → w0 = (fwN b n wind fr ((7 * n) * n) to)) ∧ (100000 ≤ (fwN b n wind fr ((7 * n) * n) to) → w0 = -1) := by rw [hw0]; unfold enc; split <;> omega
            refine x_aload_n 76 rfl dX6_word_75 0 rfl ?_
            refine x_get 79 rfl (v := .ref wh) 0 5 rfl rfl (by decide) inX6_word_X6 flX6_word_37 rfl dX6_word_76 ?_
            refine x_get 82 rfl (v := .ref (wa 4)) 2 4 rfl rfl (by decide) inX6_word_X5 flX6_word_175 rfl dX6_word_79 ?_
            refine x_iload_n 83 rfl dX6_word_82 2 rfl ?_
            refine x_iald 84 rfl 5 to rfl (⟨by omega, by omega⟩) (by decide) (v := w0) ((hnz to (by omega)).trans hw0.symm) dX6_word_83 ?_
            refine x_istore 86 rfl (lv' := [(5, .int (zI w0)), (0, .ref wn), (1, .int (zI ((fr : Nat) : Int))), (2, .int (zI ((to : Nat) : Int))), (3, .int (zI ((wind : Nat) : Int))), (4, .int (zI what))]) dX6_word_84 (by decide) rfl ?_
            refine x_iload 88 rfl dX6_word_86 0 rfl ?_
            refine x_iconst 89 rfl dX6_word_88 (z := (-1)) (by decide) ?_
            refine x_icmp_ne 92 rfl (tgt := 94) dX6_word_89 (by decide) (by omega) (by decide) (fun h89 => ?_) (fun h89 => ?_)
            · skip
              refine x_iload 96 rfl dX6_word_94 5 rfl ?_
              refine x_if_ne 99 rfl (tgt := 104) dX6_word_96 (by decide) (by omega) (fun h96 => ?_) (fun h96 => ?_)
              · skip
                refine x_aload_n 105 rfl dX6_word_104 1 rfl ?_
                refine x_get 108 rfl (v := .ref wh) 0 5 rfl rfl (by decide) inX6_word_X6 flX6_word_37 rfl dX6_word_105 ?_
                refine x_aload_n 109 rfl dX6_word_108 1 rfl ?_
                refine x_get 112 rfl (v := .ref go) 0 0 rfl rfl (by decide) inX6_word_X6 flX6_word_10 rfl dX6_word_109 ?_
                refine x_iload_n 113 rfl dX6_word_112 3 rfl ?_
                refine x_callV 116 rfl (c_X5_lastCaller G go ga b n d c gf I R wh wa fo le kz nz wind fr to (by omega) (by omega) (by omega) hkz hnz (by omega)) [2, 4, 5, 6, 7, 8, 9, 10, 11, 12, 13, 14] rfl (by decide) 2 rfl rfl gX6_word_X5_lastCaller rfl rfl rfl hd_X5_lastCaller ⟨Nat.le_of_ble_eq_true rfl, Nat.le_of_ble_eq_true rfl⟩ (As := [.ref go, .int (zI ((to : Nat) : Int))]) (rest := []) rfl rfl (Nat.le_of_ble_eq_true rfl) dX6_word_113 ⟨Nat.zero_le _, Nat.zero_le _⟩ (fun v w hq => ?_)
                obtain ⟨rfl, rfl⟩ := hq
                refine ⟨rfl, ?_⟩
                refine x_wp (ws' := [(wn, .inr (5, [.ref go, .ref sp, .ref ia, .ref ka, .ref tq, .ref wh, .ref nm, .ref ra])), (ra, aI G 3 rf), (wh, whE wa fo le), (wa 0, aN G 7 (laF la)), (wa 2, aI G 7 kz), (wa 4, aI G 7 nz), (go, goE ga ((n : Nat) : Int) ((d : Nat) : Int) ((c : Nat) : Int)), (ga 0, aI G 36 (gf 0)), (ga 1, aI G 7 (gf 1)), (ga 2, aI G 7 (gf 2)), (ga 3, aI G 7 (gf 3)), (ga 4, aI G 7 (gf 4)), (ga 5, aI G 6 (gf 5)), (ga 6, aI G 6 (gf 6)), (ga 7, aI G 8 (gf 7))] ++ lsW la Fz) rfl ?_
                refine x_iret rfl ?_ dX6_word_116
                have e : wdR b n fr to wind what = leF (lsG b n wind fr to) 0 n := by unfold wdR; rw [if_neg (by omega), if_neg (by omega)]
                exact ⟨_, _, _, by show _ = some (Value.int (zI (rC (kX n ((fr : Nat) : Int) ((to : Nat) : Int) ((wind : Nat) : Int) what) (wdR b n fr to wind what)))); rw [hk0, e] <;> rfl, by show _ = [_, (ra, aI G 3 (rfC false rf (kX n ((fr : Nat) : Int) ((to : Nat) : Int) ((wind : Nat) : Int) what))), _, _, _, _, _, _, _, _, _, _, _, _, _] ++ _; rw [hk0] <;> rfl⟩
              · skip
                refine x_iload 101 rfl dX6_word_99 0 rfl ?_
                refine x_goto dX6_word_101 (tgt := 116) (by decide) ?_
                refine x_iret rfl ?_ dX6_word_116
                have e : wdR b n fr to wind what = w0 := by unfold wdR; rw [if_neg (by omega), if_pos (by omega)]; omega
                exact ⟨_, _, _, by show _ = some (Value.int (zI (rC (kX n ((fr : Nat) : Int) ((to : Nat) : Int) ((wind : Nat) : Int) what) (wdR b n fr to wind what)))); rw [hk0, e] <;> rfl, by show _ = [_, (ra, aI G 3 (rfC false rf (kX n ((fr : Nat) : Int) ((to : Nat) : Int) ((wind : Nat) : Int) what))), _, _, _, _, _, _, _, _, _, _, _, _, _] ++ _; rw [hk0] <;> rfl⟩
            · skip
              refine x_iconst 93 rfl dX6_word_92 (z := (-1)) (by decide) ?_
              refine x_iret rfl ?_ dX6_word_93
              have e : wdR b n fr to wind what = -1 := by unfold wdR; exact if_pos (by omega)
              exact ⟨_, _, _, by show _ = some (Value.int (zI (rC (kX n ((fr : Nat) : Int) ((to : Nat) : Int) ((wind : Nat) : Int) what) (wdR b n fr to wind what)))); rw [hk0, e] <;> rfl, by show _ = [_, (ra, aI G 3 (rfC false rf (kX n ((fr : Nat) : Int) ((to : Nat) : Int) ((wind : Nat) : Int) what))), _, _, _, _, _, _, _, _, _, _, _, _, _] ++ _; rw [hk0] <;> rfl⟩
          · have h50 := of_decide_eq_false h50
            refine x_aload_n 54 rfl dX6_word_53 0 rfl ?_
            refine x_bipush 56 rfl dX6_word_54 (z := (-2)) (by decide) ?_
            refine x_bipush 58 rfl dX6_word_56 (z := (-2)) (by decide) ?_
            refine x_callV 61 rfl (c_X6_refuse G wn go sp ia ka tq wh nm ra rf 1 (-2) (-2) (by decide) (by decide) (by decide)) [0, 1] rfl (by decide) 0 rfl rfl gX6_word_X6_refuse rfl rfl rfl hd_X6_refuse ⟨Nat.le_of_ble_eq_true rfl, Nat.le_of_ble_eq_true rfl⟩ (As := [.int (zI (-2)), .int (zI (-2))]) (rest := []) rfl rfl (Nat.le_of_ble_eq_true rfl) dX6_word_58 ⟨Nat.zero_le _, Nat.zero_le _⟩ (fun v w hq => ?_)
            obtain ⟨rfl, rfl⟩ := hq
            refine ⟨rfl, ?_⟩
            refine x_wp (ws' := [(wn, .inr (5, [.ref go, .ref sp, .ref ia, .ref ka, .ref tq, .ref wh, .ref nm, .ref ra])), (ra, aI G 3 (rfC false rf 1)), (wh, whE wa fo le), (wa 0, aN G 7 (laF la)), (wa 2, aI G 7 kf), (wa 4, aI G 7 nf), (go, goE ga ((n : Nat) : Int) ((d : Nat) : Int) ((c : Nat) : Int)), (ga 0, aI G 36 (gf 0)), (ga 1, aI G 7 (gf 1)), (ga 2, aI G 7 (gf 2)), (ga 3, aI G 7 (gf 3)), (ga 4, aI G 7 (gf 4)), (ga 5, aI G 6 (gf 5)), (ga 6, aI G 6 (gf 6)), (ga 7, aI G 8 (gf 7))] ++ lsW la F) rfl ?_
            refine x_iret rfl ?_ dX6_word_61
            have hk : kX n fr to wind what = 1 := by unfold kX; exact if_neg (fun hh => by first | omega | (simp [*] at hh; done) | (obtain ⟨ha, hb, hc, hd⟩ := hh; first | omega | simp_all) | (obtain ⟨ha, hb, hc⟩ := hh; first | omega | simp_all) | (obtain ⟨ha, hb⟩ := hh; first | omega | simp_all))
            exact ⟨_, _, _, by rw [hk] <;> rfl, by rw [hk] <;> rfl⟩
      · skip
        refine x_aload_n 28 rfl dX6_word_27 0 rfl ?_
        refine x_bipush 30 rfl dX6_word_28 (z := (-2)) (by decide) ?_
        refine x_bipush 32 rfl dX6_word_30 (z := (-2)) (by decide) ?_
        refine x_callV 35 rfl (c_X6_refuse G wn go sp ia ka tq wh nm ra rf 1 (-2) (-2) (by decide) (by decide) (by decide)) [0, 1] rfl (by decide) 0 rfl rfl gX6_word_X6_refuse rfl rfl rfl hd_X6_refuse ⟨Nat.le_of_ble_eq_true rfl, Nat.le_of_ble_eq_true rfl⟩ (As := [.int (zI (-2)), .int (zI (-2))]) (rest := []) rfl rfl (Nat.le_of_ble_eq_true rfl) dX6_word_32 ⟨Nat.zero_le _, Nat.zero_le _⟩ (fun v w hq => ?_)
        obtain ⟨rfl, rfl⟩ := hq
        refine ⟨rfl, ?_⟩
        refine x_wp (ws' := [(wn, .inr (5, [.ref go, .ref sp, .ref ia, .ref ka, .ref tq, .ref wh, .ref nm, .ref ra])), (ra, aI G 3 (rfC false rf 1)), (wh, whE wa fo le), (wa 0, aN G 7 (laF la)), (wa 2, aI G 7 kf), (wa 4, aI G 7 nf), (go, goE ga ((n : Nat) : Int) ((d : Nat) : Int) ((c : Nat) : Int)), (ga 0, aI G 36 (gf 0)), (ga 1, aI G 7 (gf 1)), (ga 2, aI G 7 (gf 2)), (ga 3, aI G 7 (gf 3)), (ga 4, aI G 7 (gf 4)), (ga 5, aI G 6 (gf 5)), (ga 6, aI G 6 (gf 6)), (ga 7, aI G 8 (gf 7))] ++ lsW la F) rfl ?_
        refine x_iret rfl ?_ dX6_word_35
        have hk : kX n fr to wind what = 1 := by unfold kX; exact if_neg (fun hh => by first | omega | (simp [*] at hh; done) | (obtain ⟨ha, hb, hc, hd⟩ := hh; first | omega | simp_all) | (obtain ⟨ha, hb, hc⟩ := hh; first | omega | simp_all) | (obtain ⟨ha, hb⟩ := hh; first | omega | simp_all))
        exact ⟨_, _, _, by rw [hk] <;> rfl, by rw [hk] <;> rfl⟩

