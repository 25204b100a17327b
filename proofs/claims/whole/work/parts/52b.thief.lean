abbrev P_X6_thief (G : XG) (go : Nat) (ga : Nat → Nat) (b : Nat → Int) (n : Nat) (d : Nat) (c : Nat) (gf : Nat → Nat → Int) (wn : Nat) (sp : Nat) (ia : Nat) (ka : Nat) (tq : Nat) (wh : Nat) (nm : Nat) (ra : Nat) (rf : Nat → Int) (wa : Nat → Nat) (fo : Int) (le : Int) (la : Nat → Nat) (F : Nat → LsT) (place : Int) (wind : Int) (p : Int) : Option Value → va_W → Prop := fun r ws => ∃ F' : Nat → LsT, r = some (.int (zI (rC (kB n place wind p) (thN b n place.toNat wind.toNat p.toNat)))) ∧ ws = [(wn, .inr (5, [.ref go, .ref sp, .ref ia, .ref ka, .ref tq, .ref wh, .ref nm, .ref ra])), (ra, aI G 3 (rfC false rf (kB n place wind p))), (wh, whE wa fo le), (wa 0, aN G 7 (laF la)), (go, goE ga ((n : Nat) : Int) ((d : Nat) : Int) ((c : Nat) : Int)), (ga 0, aI G 36 (gf 0)), (ga 1, aI G 7 (gf 1)), (ga 2, aI G 7 (gf 2)), (ga 3, aI G 7 (gf 3)), (ga 4, aI G 7 (gf 4)), (ga 5, aI G 6 (gf 5)), (ga 6, aI G 6 (gf 6)), (ga 7, aI G 8 (gf 7))] ++ lsW la F'
abbrev W_X6_thief (G : XG) (E : XE) (go : Nat) (ga : Nat → Nat) (b : Nat → Int) (n : Nat) (d : Nat) (c : Nat) (gf : Nat → Nat → Int) (wn : Nat) (sp : Nat) (ia : Nat) (ka : Nat) (tq : Nat) (wh : Nat) (nm : Nat) (ra : Nat) (rf : Nat → Int) (wa : Nat → Nat) (fo : Int) (le : Int) (la : Nat → Nat) (F : Nat → LsT) (place : Int) (wind : Int) (p : Int) (pc : Nat) (lv : List (Nat × Value)) (st : List Value) (ws : va_W) : Prop := Wx G E (rmL 5) cX6_thief 9 RX6 wsX6_thief (some .int) "thief" 0 0 (P_X6_thief G go ga b n d c gf wn sp ia ka tq wh nm ra rf wa fo le la F place wind p) 0 0 pc lv st ws
theorem flX6_thief_10 : Cond.fieldLink RX6 10 (TX6 0).1 (TX6 0).2.1 (TX6 0).2.2.1 ∈ wsX6_thief := by decide +kernel
theorem flX6_thief_37 : Cond.fieldLink RX6 37 (TX6 5).1 (TX6 5).2.1 (TX6 5).2.2.1 ∈ wsX6_thief := by decide +kernel
theorem flX6_thief_77 : Cond.fieldLink RX6 77 (TX0 5).1 (TX0 5).2.1 (TX0 5).2.2.1 ∈ wsX6_thief := by decide +kernel
theorem inX6_thief_X0 : ∀ w ∈ u_ws RX0 TX0 11, w ∈ wsX6_thief := fun _ h => List.mem_cons_of_mem _ (List.mem_append_left _ (List.mem_append_left _ (List.mem_append_right _ h)))
theorem inX6_thief_X6 : ∀ w ∈ u_ws RX6 TX6 8, w ∈ wsX6_thief := fun _ h => List.mem_cons_of_mem _ (List.mem_append_left _ (List.mem_append_left _ (List.mem_append_left _ (List.mem_append_right _ h))))
set_option maxHeartbeats 4000000 in
set_option maxRecDepth 100000 in
/-- thief -/
theorem c_X6_thief (G : XG) (go : Nat) (ga : Nat → Nat) (b : Nat → Int) (n d c : Nat) (gf : Nat → Nat → Int) (I : Inv b n d c) (R : GR b n d c gf) (wn sp ia ka tq wh nm ra : Nat) (rf : Nat → Int) (wa : Nat → Nat) (fo le : Int) (la : Nat → Nat) (F : Nat → LsT) (place wind p : Int) (h1 : Z32 place) (h2 : Z32 wind) (h3 : Z32 p) : Con G yX6_thief wsX6_thief (rmL 5) 0 0 [.ref wn, .int (zI place), .int (zI wind), .int (zI p)] ([(wn, .inr (5, [.ref go, .ref sp, .ref ia, .ref ka, .ref tq, .ref wh, .ref nm, .ref ra])), (ra, aI G 3 rf), (wh, whE wa fo le), (wa 0, aN G 7 (laF la)), (go, goE ga ((n : Nat) : Int) ((d : Nat) : Int) ((c : Nat) : Int)), (ga 0, aI G 36 (gf 0)), (ga 1, aI G 7 (gf 1)), (ga 2, aI G 7 (gf 2)), (ga 3, aI G 7 (gf 3)), (ga 4, aI G 7 (gf 4)), (ga 5, aI G 6 (gf 5)), (ga 6, aI G 6 (gf 6)), (ga 7, aI G 8 (gf 7))] ++ lsW la F) (P_X6_thief G go ga b n d c gf wn sp ia ka tq wh nm ra rf wa fo le la F place wind p) := by
  refine x_start (cc := cX6_thief) (nL := 9) (ret := (some .int)) (by decide) rfl (Nat.le_of_ble_eq_true rfl) (fun E => ?_)
  show W_X6_thief G E go ga b n d c gf wn sp ia ka tq wh nm ra rf wa fo le la F place wind p 0 [(0, .ref wn), (1, .int (zI place)), (2, .int (zI wind)), (3, .int (zI p))] [] ([(wn, .inr (5, [.ref go, .ref sp, .ref ia, .ref ka, .ref tq, .ref wh, .ref nm, .ref ra])), (ra, aI G 3 rf), (wh, whE wa fo le), (wa 0, aN G 7 (laF la)), (go, goE ga ((n : Nat) : Int) ((d : Nat) : Int) ((c : Nat) : Int)), (ga 0, aI G 36 (gf 0)), (ga 1, aI G 7 (gf 1)), (ga 2, aI G 7 (gf 2)), (ga 3, aI G 7 (gf 3)), (ga 4, aI G 7 (gf 4)), (ga 5, aI G 6 (gf 5)), (ga 6, aI G 6 (gf 6)), (ga 7, aI G 8 (gf 7))] ++ lsW la F)
  have hn7 := I.n7
  have hd6 := I.d6
  have hc8 := I.c8
  refine x_iload_n 1 rfl dX6_thief_0 1 rfl ?_
  refine x_bipush 3 rfl dX6_thief_1 (z := 6) (by decide) ?_
  refine x_callS0 6 rfl (c_X6_isBelow G place 6 (by omega) (by omega)) (fun _ _ h => h.2) gX6_thief_X6_isBelow rfl rfl rfl hd_X6_isBelow ⟨Nat.le_of_ble_eq_true rfl, Nat.le_of_ble_eq_true rfl⟩ (As := [.int (zI place), .int (zI 6)]) (rest := []) rfl rfl (Nat.le_of_ble_eq_true rfl) dX6_thief_3 ⟨Nat.zero_le _, Nat.zero_le _⟩ (fun v hq => ?_)
  obtain ⟨rfl, -⟩ := hq
  refine x_bif_eq 9 rfl (tgt := 28) dX6_thief_6 (by decide) (fun h6 => ?_) (fun h6 => ?_)
  · have h6 := of_decide_eq_false h6
    refine x_aload_n 29 rfl dX6_thief_28 0 rfl ?_
    refine x_bipush 31 rfl dX6_thief_29 (z := (-2)) (by decide) ?_
    refine x_bipush 33 rfl dX6_thief_31 (z := (-2)) (by decide) ?_
    refine x_callV 36 rfl (c_X6_refuse G wn go sp ia ka tq wh nm ra rf 1 (-2) (-2) (by decide) (by decide) (by decide)) [0, 1] rfl (by decide) 0 rfl rfl gX6_thief_X6_refuse rfl rfl rfl hd_X6_refuse ⟨Nat.le_of_ble_eq_true rfl, Nat.le_of_ble_eq_true rfl⟩ (As := [.int (zI (-2)), .int (zI (-2))]) (rest := []) rfl rfl (Nat.le_of_ble_eq_true rfl) dX6_thief_33 ⟨Nat.zero_le _, Nat.zero_le _⟩ (fun v w hq => ?_)
    obtain ⟨rfl, rfl⟩ := hq
    refine ⟨rfl, ?_⟩
    refine x_ws (ws' := [(wn, .inr (5, [.ref go, .ref sp, .ref ia, .ref ka, .ref tq, .ref wh, .ref nm, .ref ra])), (ra, aI G 3 (rfC false rf 1)), (wh, whE wa fo le), (wa 0, aN G 7 (laF la)), (go, goE ga ((n : Nat) : Int) ((d : Nat) : Int) ((c : Nat) : Int)), (ga 0, aI G 36 (gf 0)), (ga 1, aI G 7 (gf 1)), (ga 2, aI G 7 (gf 2)), (ga 3, aI G 7 (gf 3)), (ga 4, aI G 7 (gf 4)), (ga 5, aI G 6 (gf 5)), (ga 6, aI G 6 (gf 6)), (ga 7, aI G 8 (gf 7))] ++ lsW la F) (rfl) ?_
    refine x_iret rfl ?_ dX6_thief_36
    have hk : kB n place wind p = 1 := by unfold kB; exact if_neg (fun hh => by first | omega | (simp [*] at hh; done) | (obtain ⟨ha, hb, hc, hd⟩ := hh; first | omega | simp_all) | (obtain ⟨ha, hb, hc⟩ := hh; first | omega | simp_all) | (obtain ⟨ha, hb⟩ := hh; first | omega | simp_all))
    exact ⟨_, by rw [hk] <;> rfl, by rw [hk] <;> rfl⟩
  · have h6 := of_decide_eq_true h6
    refine x_iload_n 10 rfl dX6_thief_9 2 rfl ?_
    refine x_iconst 11 rfl dX6_thief_10 (z := 4) (by decide) ?_
    refine x_callS0 14 rfl (c_X6_isBelow G wind 4 (by omega) (by omega)) (fun _ _ h => h.2) gX6_thief_X6_isBelow rfl rfl rfl hd_X6_isBelow ⟨Nat.le_of_ble_eq_true rfl, Nat.le_of_ble_eq_true rfl⟩ (As := [.int (zI wind), .int (zI 4)]) (rest := []) rfl rfl (Nat.le_of_ble_eq_true rfl) dX6_thief_11 ⟨Nat.zero_le _, Nat.zero_le _⟩ (fun v hq => ?_)
    obtain ⟨rfl, -⟩ := hq
    refine x_bif_eq 17 rfl (tgt := 28) dX6_thief_14 (by decide) (fun h14 => ?_) (fun h14 => ?_)
    · have h14 := of_decide_eq_false h14
      refine x_aload_n 29 rfl dX6_thief_28 0 rfl ?_
      refine x_bipush 31 rfl dX6_thief_29 (z := (-2)) (by decide) ?_
      refine x_bipush 33 rfl dX6_thief_31 (z := (-2)) (by decide) ?_
      refine x_callV 36 rfl (c_X6_refuse G wn go sp ia ka tq wh nm ra rf 1 (-2) (-2) (by decide) (by decide) (by decide)) [0, 1] rfl (by decide) 0 rfl rfl gX6_thief_X6_refuse rfl rfl rfl hd_X6_refuse ⟨Nat.le_of_ble_eq_true rfl, Nat.le_of_ble_eq_true rfl⟩ (As := [.int (zI (-2)), .int (zI (-2))]) (rest := []) rfl rfl (Nat.le_of_ble_eq_true rfl) dX6_thief_33 ⟨Nat.zero_le _, Nat.zero_le _⟩ (fun v w hq => ?_)
      obtain ⟨rfl, rfl⟩ := hq
      refine ⟨rfl, ?_⟩
      refine x_ws (ws' := [(wn, .inr (5, [.ref go, .ref sp, .ref ia, .ref ka, .ref tq, .ref wh, .ref nm, .ref ra])), (ra, aI G 3 (rfC false rf 1)), (wh, whE wa fo le), (wa 0, aN G 7 (laF la)), (go, goE ga ((n : Nat) : Int) ((d : Nat) : Int) ((c : Nat) : Int)), (ga 0, aI G 36 (gf 0)), (ga 1, aI G 7 (gf 1)), (ga 2, aI G 7 (gf 2)), (ga 3, aI G 7 (gf 3)), (ga 4, aI G 7 (gf 4)), (ga 5, aI G 6 (gf 5)), (ga 6, aI G 6 (gf 6)), (ga 7, aI G 8 (gf 7))] ++ lsW la F) (rfl) ?_
      refine x_iret rfl ?_ dX6_thief_36
      have hk : kB n place wind p = 1 := by unfold kB; exact if_neg (fun hh => by first | omega | (simp [*] at hh; done) | (obtain ⟨ha, hb, hc, hd⟩ := hh; first | omega | simp_all) | (obtain ⟨ha, hb, hc⟩ := hh; first | omega | simp_all) | (obtain ⟨ha, hb⟩ := hh; first | omega | simp_all))
      exact ⟨_, by rw [hk] <;> rfl, by rw [hk] <;> rfl⟩
    · have h14 := of_decide_eq_true h14
      refine x_aload_n 18 rfl dX6_thief_17 0 rfl ?_
      refine x_get 21 rfl (v := .ref go) 0 0 rfl rfl (by decide) inX6_thief_X6 flX6_thief_10 rfl dX6_thief_18 ?_
      refine x_iload_n 22 rfl dX6_thief_21 3 rfl ?_
      refine x_callV 25 rfl (c_X0_isPerson G go ga b n d c gf I R p (by omega)) [4, 5, 6, 7, 8, 9, 10, 11, 12] rfl (by decide) 4 rfl rfl gX6_thief_X0_isPerson rfl rfl rfl hd_X0_isPerson ⟨Nat.le_of_ble_eq_true rfl, Nat.le_of_ble_eq_true rfl⟩ (As := [.int (zI p)]) (rest := []) rfl rfl (Nat.le_of_ble_eq_true rfl) dX6_thief_22 ⟨Nat.zero_le _, Nat.zero_le _⟩ (fun v w hq => ?_)
      obtain ⟨rfl, rfl⟩ := hq
      refine ⟨rfl, ?_⟩
      refine x_ws (ws' := [(wn, .inr (5, [.ref go, .ref sp, .ref ia, .ref ka, .ref tq, .ref wh, .ref nm, .ref ra])), (ra, aI G 3 rf), (wh, whE wa fo le), (wa 0, aN G 7 (laF la)), (go, goE ga ((n : Nat) : Int) ((d : Nat) : Int) ((c : Nat) : Int)), (ga 0, aI G 36 (gf 0)), (ga 1, aI G 7 (gf 1)), (ga 2, aI G 7 (gf 2)), (ga 3, aI G 7 (gf 3)), (ga 4, aI G 7 (gf 4)), (ga 5, aI G 6 (gf 5)), (ga 6, aI G 6 (gf 6)), (ga 7, aI G 8 (gf 7))] ++ lsW la F) (rfl) ?_
      refine x_bif_ne 28 rfl (tgt := 37) dX6_thief_25 (by decide) (fun h25 => ?_) (fun h25 => ?_)
      · have h25 := of_decide_eq_true h25
        obtain ⟨place, rfl⟩ : ∃ zk : Nat, place = (zk : Int) := ⟨Int.toNat place, by omega⟩
        obtain ⟨wind, rfl⟩ : ∃ zk : Nat, wind = (zk : Int) := ⟨Int.toNat wind, by omega⟩
        obtain ⟨p, rfl⟩ : ∃ zk : Nat, p = (zk : Int) := ⟨Int.toNat p, by omega⟩
        refine x_aload_n 38 rfl dX6_thief_37 0 rfl ?_
        have htv := (I.t (p := p) (by omega)).2
        have ht8 := vt_lt htv
        have hnt := notes_vt _ ht8 htv
        have hk0 : kB n place wind p = 0 := by unfold kB; exact if_pos (by omega)
        refine x_get 41 rfl (v := .ref go) 0 0 rfl rfl (by decide) inX6_thief_X6 flX6_thief_10 rfl dX6_thief_38 ?_
        refine x_get 44 rfl (v := .ref (ga 2)) 4 5 rfl rfl (by decide) inX6_thief_X0 flX6_thief_77 rfl dX6_thief_41 ?_
        refine x_iload_n 45 rfl dX6_thief_44 3 rfl ?_
        refine x_iald 46 rfl 7 p rfl (⟨by omega, by omega⟩) (by decide) (v := ((tN b p : Nat) : Int)) (R.t I (by omega)) dX6_thief_45 ?_
        refine x_istore 48 rfl (lv' := [(4, .int (zI ((tN b p : Nat) : Int))), (0, .ref wn), (1, .int (zI ((place : Nat) : Int))), (2, .int (zI ((wind : Nat) : Int))), (3, .int (zI ((p : Nat) : Int)))]) dX6_thief_46 (by decide) rfl ?_
        refine x_iload 50 rfl dX6_thief_48 0 rfl ?_
        refine x_callS0 53 rfl (c_X4_notes_v G (tN b p) htv) (fun _ _ h => h.2) gX6_thief_X4_notes rfl rfl rfl hd_X4_notes ⟨Nat.le_of_ble_eq_true rfl, Nat.le_of_ble_eq_true rfl⟩ (As := [.int (zI ((tN b p : Nat) : Int))]) (rest := []) rfl rfl (Nat.le_of_ble_eq_true rfl) dX6_thief_50 ⟨Nat.zero_le _, Nat.zero_le _⟩ (fun v hq => ?_)
        obtain ⟨rfl, -⟩ := hq
        refine x_istore 55 rfl (lv' := [(5, .int (zI ((notesN (tN b p) : Nat) : Int))), (4, .int (zI ((tN b p : Nat) : Int))), (0, .ref wn), (1, .int (zI ((place : Nat) : Int))), (2, .int (zI ((wind : Nat) : Int))), (3, .int (zI ((p : Nat) : Int)))]) dX6_thief_53 (by decide) rfl ?_
        refine x_iconst 56 rfl dX6_thief_55 (z := 1) (by decide) ?_
        refine x_istore 58 rfl (lv' := [(6, .int (zI 1)), (5, .int (zI ((notesN (tN b p) : Nat) : Int))), (4, .int (zI ((tN b p : Nat) : Int))), (0, .ref wn), (1, .int (zI ((place : Nat) : Int))), (2, .int (zI ((wind : Nat) : Int))), (3, .int (zI ((p : Nat) : Int)))]) dX6_thief_56 (by decide) rfl ?_
        have L58 : ∀ (fz58 : Nat) (k : Nat) (F1 : Nat → LsT) (hk : k ≤ notesN (tN b p)) (hL : thN b n place wind p = leF (thG b n place wind p) (1 + k) (notesN (tN b p) - k)), notesN (tN b p) - k < fz58 → W_X6_thief G E go ga b n d c gf wn sp ia ka tq wh nm ra rf wa fo le la F place wind p 58 [(0, .ref wn), (1, .int (zI ((place : Nat) : Int))), (2, .int (zI ((wind : Nat) : Int))), (3, .int (zI ((p : Nat) : Int))), (4, .int (zI ((tN b p : Nat) : Int))), (5, .int (zI ((notesN (tN b p) : Nat) : Int))), (6, .int (zI ((1 + k : Nat) : Int)))] [] ([(wn, .inr (5, [.ref go, .ref sp, .ref ia, .ref ka, .ref tq, .ref wh, .ref nm, .ref ra])), (ra, aI G 3 rf), (wh, whE wa fo le), (wa 0, aN G 7 (laF la)), (go, goE ga ((n : Nat) : Int) ((d : Nat) : Int) ((c : Nat) : Int)), (ga 0, aI G 36 (gf 0)), (ga 1, aI G 7 (gf 1)), (ga 2, aI G 7 (gf 2)), (ga 3, aI G 7 (gf 3)), (ga 4, aI G 7 (gf 4)), (ga 5, aI G 6 (gf 5)), (ga 6, aI G 6 (gf 6)), (ga 7, aI G 8 (gf 7))] ++ lsW la F1) := by
          intro fz58
          induction fz58 with
          | zero => intro k F1 hk hL hf58; exact absurd hf58 (Nat.not_lt_zero _)
          | succ fz58 ih58 =>
            intro k F1 hk hL hf58
            refine x_iload 60 rfl dX6_thief_58 6 rfl ?_
            refine x_iload 62 rfl dX6_thief_60 5 rfl ?_
            refine x_icmp_gt 65 rfl (tgt := 111) dX6_thief_62 (by decide) (by omega) (by omega) (fun h62 => ?_) (fun h62 => ?_)
            · skip
              refine x_iconst 112 rfl dX6_thief_111 (z := (-1)) (by decide) ?_
              refine x_iret rfl ?_ dX6_thief_112
              have e : thN b n place wind p = -1 := by rw [hL, show notesN (tN b p) - k = 0 by omega] <;> rfl
              exact ⟨_, by rw [hk0]; exact congrArg (fun z => some (Value.int (zI z))) e.symm, by rw [hk0] <;> rfl⟩
            · skip
              refine x_iload 67 rfl dX6_thief_65 4 rfl ?_
              refine x_iconst 68 rfl dX6_thief_67 (z := 2) (by decide) ?_
              refine x_iload 70 rfl dX6_thief_68 5 rfl ?_
              refine x_iload 72 rfl dX6_thief_70 6 rfl ?_
              refine x_isub 73 rfl dX6_thief_72 (z := ((notesN (tN b p) - (1 + k) : Nat) : Int)) (by omega) ?_
              refine x_imul 74 rfl dX6_thief_73 (z := 2 * ((notesN (tN b p) - (1 + k) : Nat) : Int)) (by omega) ?_
              refine x_ishr 75 rfl dX6_thief_74 (z := ((frontN (tN b p) (1 + k) : Nat) : Int)) (zI_shr4 (k := notesN (tN b p) - (1 + k)) (by omega) (by omega) (by omega)) ?_
              refine x_istore 77 rfl (lv' := [(7, .int (zI ((frontN (tN b p) (1 + k) : Nat) : Int))), (0, .ref wn), (1, .int (zI ((place : Nat) : Int))), (2, .int (zI ((wind : Nat) : Int))), (3, .int (zI ((p : Nat) : Int))), (4, .int (zI ((tN b p : Nat) : Int))), (5, .int (zI ((notesN (tN b p) : Nat) : Int))), (6, .int (zI ((1 + k : Nat) : Int)))]) dX6_thief_75 (by decide) rfl ?_
              refine x_aload_n 78 rfl dX6_thief_77 1 rfl ?_
              refine x_get 81 rfl (v := .ref wh) 0 5 rfl rfl (by decide) inX6_thief_X6 flX6_thief_37 rfl dX6_thief_78 ?_
              refine x_aload_n 82 rfl dX6_thief_81 1 rfl ?_
              refine x_get 85 rfl (v := .ref go) 0 0 rfl rfl (by decide) inX6_thief_X6 flX6_thief_10 rfl dX6_thief_82 ?_
              refine x_iload_n 86 rfl dX6_thief_85 2 rfl ?_
              refine x_iload 88 rfl dX6_thief_86 0 rfl ?_
              refine x_iload_n 89 rfl dX6_thief_88 3 rfl ?_
              refine x_callV 92 rfl (c_X5_turners G go ga b n d c gf I R wh wa fo le la F1 place wind (frontN (tN b p) (1 + k)) (by omega) (by omega) ((front_vt htv (by omega) (by omega)))) [2, 3, 4, 5, 6, 7, 8, 9, 10, 11, 12, 13, 14, 15, 16, 17, 18, 19] rfl (by decide) 2 rfl rfl gX6_thief_X5_turners rfl rfl rfl hd_X5_turners ⟨Nat.le_of_ble_eq_true rfl, Nat.le_of_ble_eq_true rfl⟩ (As := [.ref go, .int (zI ((place : Nat) : Int)), .int (zI ((frontN (tN b p) (1 + k) : Nat) : Int)), .int (zI ((wind : Nat) : Int))]) (rest := []) rfl rfl (Nat.le_of_ble_eq_true rfl) dX6_thief_89 ⟨Nat.zero_le _, Nat.zero_le _⟩ (fun v w hq => ?_)
              obtain ⟨Fz_1, rfl, rfl⟩ := hq
              refine ⟨rfl, ?_⟩
              refine x_ws (ws' := [(wn, .inr (5, [.ref go, .ref sp, .ref ia, .ref ka, .ref tq, .ref wh, .ref nm, .ref ra])), (ra, aI G 3 rf), (wh, whE wa fo le), (wa 0, aN G 7 (laF la)), (go, goE ga ((n : Nat) : Int) ((d : Nat) : Int) ((c : Nat) : Int)), (ga 0, aI G 36 (gf 0)), (ga 1, aI G 7 (gf 1)), (ga 2, aI G 7 (gf 2)), (ga 3, aI G 7 (gf 3)), (ga 4, aI G 7 (gf 4)), (ga 5, aI G 6 (gf 5)), (ga 6, aI G 6 (gf 6)), (ga 7, aI G 8 (gf 7))] ++ lsW la Fz_1) (rfl) ?_
              refine x_istore 94 rfl (lv' := [(8, .int (zI ((calN b n place (frontN (tN b p) (1 + k)) wind : Nat) : Int))), (7, .int (zI ((frontN (tN b p) (1 + k) : Nat) : Int))), (0, .ref wn), (1, .int (zI ((place : Nat) : Int))), (2, .int (zI ((wind : Nat) : Int))), (3, .int (zI ((p : Nat) : Int))), (4, .int (zI ((tN b p : Nat) : Int))), (5, .int (zI ((notesN (tN b p) : Nat) : Int))), (6, .int (zI ((1 + k : Nat) : Int)))]) dX6_thief_92 (by decide) rfl ?_
              refine x_iload 96 rfl dX6_thief_94 0 rfl ?_
              refine x_iconst 97 rfl dX6_thief_96 (z := 1) (by decide) ?_
              refine x_iload_n 98 rfl dX6_thief_97 5 rfl ?_
              refine x_ishl 99 rfl dX6_thief_98 (z := ((2 ^ p : Nat) : Int)) (zI_shl1 (i := p) (by omega)) ?_
              refine x_icmp_ne 102 rfl (tgt := 105) dX6_thief_99 (by decide) (by have := calN_lt I place (frontN (tN b p) (1 + k)) wind; omega) (z32_pow (by omega)) (fun h99 => ?_) (fun h99 => ?_)
              · skip
                have hgf : (thG b n place wind p) (1 + k) = false := by unfold thG; exact decide_eq_false (by omega)
                refine x_iinc 108 rfl (lv' := [(6, .int (zI ((1 + k + 1 : Nat) : Int))), (8, .int (zI ((calN b n place (frontN (tN b p) (1 + k)) wind : Nat) : Int))), (7, .int (zI ((frontN (tN b p) (1 + k) : Nat) : Int))), (0, .ref wn), (1, .int (zI ((place : Nat) : Int))), (2, .int (zI ((wind : Nat) : Int))), (3, .int (zI ((p : Nat) : Int))), (4, .int (zI ((tN b p : Nat) : Int))), (5, .int (zI ((notesN (tN b p) : Nat) : Int)))]) dX6_thief_105 8 rfl (b := ((1 + k + 1 : Nat) : Int)) (by omega) (by decide) rfl ?_
                refine x_goto dX6_thief_108 (tgt := 58) (by decide) ?_
                refine x_lve (congrArg (fun zz : Int => ([(6, .int (zI zz)), (8, .int (zI ((calN b n place (frontN (tN b p) (1 + k)) wind : Nat) : Int))), (7, .int (zI ((frontN (tN b p) (1 + k) : Nat) : Int))), (0, .ref wn), (1, .int (zI ((place : Nat) : Int))), (2, .int (zI ((wind : Nat) : Int))), (3, .int (zI ((p : Nat) : Int))), (4, .int (zI ((tN b p : Nat) : Int))), (5, .int (zI ((notesN (tN b p) : Nat) : Int)))] : List (Nat × Value))) (by omega : ((1 + k + 1 : Nat) : Int) = ((1 + (k + 1) : Nat) : Int))) ?_
                refine x_lv [3, 4, 5, 6, 7, 8, 0] rfl ?_
                exact ih58 (k + 1) Fz_1 (by omega) (by rw [hL, leF_f (by omega) hgf, Nat.add_assoc, Nat.sub_sub]) (by omega)
              · skip
                refine x_iload 104 rfl dX6_thief_102 8 rfl ?_
                refine x_iret rfl ?_ dX6_thief_104
                have hgt : (thG b n place wind p) (1 + k) = true := by unfold thG; exact decide_eq_true (by omega)
                have e : thN b n place wind p = ((1 + k : Nat) : Int) := by rw [hL]; exact leF_t (by omega) hgt
                exact ⟨_, by rw [hk0]; exact congrArg (fun z => some (Value.int (zI z))) e.symm, by rw [hk0] <;> rfl⟩
        refine x_lve (congrArg (fun zz : Int => ([(6, .int (zI zz)), (5, .int (zI ((notesN (tN b p) : Nat) : Int))), (4, .int (zI ((tN b p : Nat) : Int))), (0, .ref wn), (1, .int (zI ((place : Nat) : Int))), (2, .int (zI ((wind : Nat) : Int))), (3, .int (zI ((p : Nat) : Int)))] : List (Nat × Value))) (rfl : 1 = ((1 + 0 : Nat) : Int))) ?_
        refine x_lv [3, 4, 5, 6, 2, 1, 0] rfl ?_
        exact L58 _ 0 F (by omega) (by unfold thN; rw [Nat.sub_zero]) (Nat.lt_succ_self _)
      · have h25 := of_decide_eq_false h25
        refine x_aload_n 29 rfl dX6_thief_28 0 rfl ?_
        refine x_bipush 31 rfl dX6_thief_29 (z := (-2)) (by decide) ?_
        refine x_bipush 33 rfl dX6_thief_31 (z := (-2)) (by decide) ?_
        refine x_callV 36 rfl (c_X6_refuse G wn go sp ia ka tq wh nm ra rf 1 (-2) (-2) (by decide) (by decide) (by decide)) [0, 1] rfl (by decide) 0 rfl rfl gX6_thief_X6_refuse rfl rfl rfl hd_X6_refuse ⟨Nat.le_of_ble_eq_true rfl, Nat.le_of_ble_eq_true rfl⟩ (As := [.int (zI (-2)), .int (zI (-2))]) (rest := []) rfl rfl (Nat.le_of_ble_eq_true rfl) dX6_thief_33 ⟨Nat.zero_le _, Nat.zero_le _⟩ (fun v w hq => ?_)
        obtain ⟨rfl, rfl⟩ := hq
        refine ⟨rfl, ?_⟩
        refine x_ws (ws' := [(wn, .inr (5, [.ref go, .ref sp, .ref ia, .ref ka, .ref tq, .ref wh, .ref nm, .ref ra])), (ra, aI G 3 (rfC false rf 1)), (wh, whE wa fo le), (wa 0, aN G 7 (laF la)), (go, goE ga ((n : Nat) : Int) ((d : Nat) : Int) ((c : Nat) : Int)), (ga 0, aI G 36 (gf 0)), (ga 1, aI G 7 (gf 1)), (ga 2, aI G 7 (gf 2)), (ga 3, aI G 7 (gf 3)), (ga 4, aI G 7 (gf 4)), (ga 5, aI G 6 (gf 5)), (ga 6, aI G 6 (gf 6)), (ga 7, aI G 8 (gf 7))] ++ lsW la F) (rfl) ?_
        refine x_iret rfl ?_ dX6_thief_36
        have hk : kB n place wind p = 1 := by unfold kB; exact if_neg (fun hh => by first | omega | (simp [*] at hh; done) | (obtain ⟨ha, hb, hc, hd⟩ := hh; first | omega | simp_all) | (obtain ⟨ha, hb, hc⟩ := hh; first | omega | simp_all) | (obtain ⟨ha, hb⟩ := hh; first | omega | simp_all))
        exact ⟨_, by rw [hk] <;> rfl, by rw [hk] <;> rfl⟩

abbrev P_X6_whistled (G : XG) (go : Nat) (ga : Nat → Nat) (b : Nat → Int) (n : Nat) (d : Nat) (c : Nat) (gf : Nat → Nat → Int) (wn : Nat) (sp : Nat) (ia : Nat) (ka : Nat) (tq : Nat) (wh : Nat) (nm : Nat) (ra : Nat) (rf : Nat → Int) (wa : Nat → Nat) (fo : Int) (le : Int) (la : Nat → Nat) (F : Nat → LsT) (place : Int) (wind : Int) (who : Int) (what : Int) : Option Value → va_W → Prop := fun r ws => ∃ F' : Nat → LsT, ∃ fo' le' : Int, r = some (.int (zI (rC (kV (whN b n place.toNat wind.toNat who) n place wind who what) (if what = 0 then (whN b n place.toNat wind.toNat who).1 else (whN b n place.toNat wind.toNat who).2)))) ∧ ws = [(wn, .inr (5, [.ref go, .ref sp, .ref ia, .ref ka, .ref tq, .ref wh, .ref nm, .ref ra])), (ra, aI G 3 (rfC false rf (kV (whN b n place.toNat wind.toNat who) n place wind who what))), (wh, whE wa fo' le'), (wa 0, aN G 7 (laF la)), (go, goE ga ((n : Nat) : Int) ((d : Nat) : Int) ((c : Nat) : Int)), (ga 0, aI G 36 (gf 0)), (ga 1, aI G 7 (gf 1)), (ga 2, aI G 7 (gf 2)), (ga 3, aI G 7 (gf 3)), (ga 4, aI G 7 (gf 4)), (ga 5, aI G 6 (gf 5)), (ga 6, aI G 6 (gf 6)), (ga 7, aI G 8 (gf 7))] ++ lsW la F'
abbrev W_X6_whistled (G : XG) (E : XE) (go : Nat) (ga : Nat → Nat) (b : Nat → Int) (n : Nat) (d : Nat) (c : Nat) (gf : Nat → Nat → Int) (wn : Nat) (sp : Nat) (ia : Nat) (ka : Nat) (tq : Nat) (wh : Nat) (nm : Nat) (ra : Nat) (rf : Nat → Int) (wa : Nat → Nat) (fo : Int) (le : Int) (la : Nat → Nat) (F : Nat → LsT) (place : Int) (wind : Int) (who : Int) (what : Int) (pc : Nat) (lv : List (Nat × Value)) (st : List Value) (ws : va_W) : Prop := Wx G E (rmL 5) cX6_whistled 5 RX6 wsX6_whistled (some .int) "whistled" 0 0 (P_X6_whistled G go ga b n d c gf wn sp ia ka tq wh nm ra rf wa fo le la F place wind who what) 0 0 pc lv st ws
theorem flX6_whistled_10 : Cond.fieldLink RX6 10 (TX6 0).1 (TX6 0).2.1 (TX6 0).2.2.1 ∈ wsX6_whistled := by decide +kernel
theorem flX6_whistled_37 : Cond.fieldLink RX6 37 (TX6 5).1 (TX6 5).2.1 (TX6 5).2.2.1 ∈ wsX6_whistled := by decide +kernel
theorem flX6_whistled_132 : Cond.fieldLink RX6 132 (TX0 0).1 (TX0 0).2.1 (TX0 0).2.2.1 ∈ wsX6_whistled := by decide +kernel
theorem flX6_whistled_165 : Cond.fieldLink RX6 165 (TX5 5).1 (TX5 5).2.1 (TX5 5).2.2.1 ∈ wsX6_whistled := by decide +kernel
theorem flX6_whistled_168 : Cond.fieldLink RX6 168 (TX5 6).1 (TX5 6).2.1 (TX5 6).2.2.1 ∈ wsX6_whistled := by decide +kernel
theorem inX6_whistled_X0 : ∀ w ∈ u_ws RX0 TX0 11, w ∈ wsX6_whistled := fun _ h => List.mem_cons_of_mem _ (List.mem_append_left _ (List.mem_append_left _ (List.mem_append_right _ h)))
theorem inX6_whistled_X5 : ∀ w ∈ u_ws RX5 TX5 7, w ∈ wsX6_whistled := fun _ h => List.mem_cons_of_mem _ (List.mem_append_left _ (List.mem_append_right _ h))
theorem inX6_whistled_X6 : ∀ w ∈ u_ws RX6 TX6 8, w ∈ wsX6_whistled := fun _ h => List.mem_cons_of_mem _ (List.mem_append_left _ (List.mem_append_left _ (List.mem_append_left _ (List.mem_append_right _ h))))
set_option maxHeartbeats 4000000 in
set_option maxRecDepth 100000 in
/-- whistled -/
theorem c_X6_whistled (G : XG) (go : Nat) (ga : Nat → Nat) (b : Nat → Int) (n d c : Nat) (gf : Nat → Nat → Int) (I : Inv b n d c) (R : GR b n d c gf) (wn sp ia ka tq wh nm ra : Nat) (rf : Nat → Int) (wa : Nat → Nat) (fo le : Int) (la : Nat → Nat) (F : Nat → LsT) (place wind who what : Int) (h1 : Z32 place) (h2 : Z32 wind) (h3 : Z32 who) (h4 : Z32 what) : Con G yX6_whistled wsX6_whistled (rmL 5) 0 0 [.ref wn, .int (zI place), .int (zI wind), .int (zI who), .int (zI what)] ([(wn, .inr (5, [.ref go, .ref sp, .ref ia, .ref ka, .ref tq, .ref wh, .ref nm, .ref ra])), (ra, aI G 3 rf), (wh, whE wa fo le), (wa 0, aN G 7 (laF la)), (go, goE ga ((n : Nat) : Int) ((d : Nat) : Int) ((c : Nat) : Int)), (ga 0, aI G 36 (gf 0)), (ga 1, aI G 7 (gf 1)), (ga 2, aI G 7 (gf 2)), (ga 3, aI G 7 (gf 3)), (ga 4, aI G 7 (gf 4)), (ga 5, aI G 6 (gf 5)), (ga 6, aI G 6 (gf 6)), (ga 7, aI G 8 (gf 7))] ++ lsW la F) (P_X6_whistled G go ga b n d c gf wn sp ia ka tq wh nm ra rf wa fo le la F place wind who what) := by
  refine x_start (cc := cX6_whistled) (nL := 5) (ret := (some .int)) (by decide) rfl (Nat.le_of_ble_eq_true rfl) (fun E => ?_)
  show W_X6_whistled G E go ga b n d c gf wn sp ia ka tq wh nm ra rf wa fo le la F place wind who what 0 [(0, .ref wn), (1, .int (zI place)), (2, .int (zI wind)), (3, .int (zI who)), (4, .int (zI what))] [] ([(wn, .inr (5, [.ref go, .ref sp, .ref ia, .ref ka, .ref tq, .ref wh, .ref nm, .ref ra])), (ra, aI G 3 rf), (wh, whE wa fo le), (wa 0, aN G 7 (laF la)), (go, goE ga ((n : Nat) : Int) ((d : Nat) : Int) ((c : Nat) : Int)), (ga 0, aI G 36 (gf 0)), (ga 1, aI G 7 (gf 1)), (ga 2, aI G 7 (gf 2)), (ga 3, aI G 7 (gf 3)), (ga 4, aI G 7 (gf 4)), (ga 5, aI G 6 (gf 5)), (ga 6, aI G 6 (gf 6)), (ga 7, aI G 8 (gf 7))] ++ lsW la F)
  have hn7 := I.n7
  have hd6 := I.d6
  have hc8 := I.c8
  have hp2 : 2 ^ n ≤ 2 ^ 7 := Nat.pow_le_pow_right (by decide) hn7
  have hp0 : 0 < 2 ^ n := Nat.two_pow_pos n
  refine x_iload_n 1 rfl dX6_whistled_0 1 rfl ?_
  refine x_bipush 3 rfl dX6_whistled_1 (z := 6) (by decide) ?_
  refine x_callS0 6 rfl (c_X6_isBelow G place 6 (by omega) (by omega)) (fun _ _ h => h.2) gX6_whistled_X6_isBelow rfl rfl rfl hd_X6_isBelow ⟨Nat.le_of_ble_eq_true rfl, Nat.le_of_ble_eq_true rfl⟩ (As := [.int (zI place), .int (zI 6)]) (rest := []) rfl rfl (Nat.le_of_ble_eq_true rfl) dX6_whistled_3 ⟨Nat.zero_le _, Nat.zero_le _⟩ (fun v hq => ?_)
  obtain ⟨rfl, -⟩ := hq
  refine x_bif_eq 9 rfl (tgt := 17) dX6_whistled_6 (by decide) (fun h6 => ?_) (fun h6 => ?_)
  · have h6 := of_decide_eq_false h6
    refine x_aload_n 18 rfl dX6_whistled_17 0 rfl ?_
    refine x_bipush 20 rfl dX6_whistled_18 (z := (-2)) (by decide) ?_
    refine x_bipush 22 rfl dX6_whistled_20 (z := (-2)) (by decide) ?_
    refine x_callV 25 rfl (c_X6_refuse G wn go sp ia ka tq wh nm ra rf 1 (-2) (-2) (by decide) (by decide) (by decide)) [0, 1] rfl (by decide) 0 rfl rfl gX6_whistled_X6_refuse rfl rfl rfl hd_X6_refuse ⟨Nat.le_of_ble_eq_true rfl, Nat.le_of_ble_eq_true rfl⟩ (As := [.int (zI (-2)), .int (zI (-2))]) (rest := []) rfl rfl (Nat.le_of_ble_eq_true rfl) dX6_whistled_22 ⟨Nat.zero_le _, Nat.zero_le _⟩ (fun v w hq => ?_)
    obtain ⟨rfl, rfl⟩ := hq
    refine ⟨rfl, ?_⟩
    refine x_ws (ws' := [(wn, .inr (5, [.ref go, .ref sp, .ref ia, .ref ka, .ref tq, .ref wh, .ref nm, .ref ra])), (ra, aI G 3 (rfC false rf 1)), (wh, whE wa fo le), (wa 0, aN G 7 (laF la)), (go, goE ga ((n : Nat) : Int) ((d : Nat) : Int) ((c : Nat) : Int)), (ga 0, aI G 36 (gf 0)), (ga 1, aI G 7 (gf 1)), (ga 2, aI G 7 (gf 2)), (ga 3, aI G 7 (gf 3)), (ga 4, aI G 7 (gf 4)), (ga 5, aI G 6 (gf 5)), (ga 6, aI G 6 (gf 6)), (ga 7, aI G 8 (gf 7))] ++ lsW la F) (rfl) ?_
    refine x_iret rfl ?_ dX6_whistled_25
    have hk : kV (whN b n place.toNat wind.toNat who) n place wind who what = 1 := by unfold kV; exact if_neg (fun hh => by first | omega | (simp [*] at hh; done) | (obtain ⟨ha, hb, hc, hd⟩ := hh; first | omega | simp_all) | (obtain ⟨ha, hb, hc⟩ := hh; first | omega | simp_all) | (obtain ⟨ha, hb⟩ := hh; first | omega | simp_all))
    exact ⟨_, _, _, by rw [hk] <;> rfl, by rw [hk] <;> rfl⟩
  · have h6 := of_decide_eq_true h6
    refine x_iload_n 10 rfl dX6_whistled_9 2 rfl ?_
    refine x_iconst 11 rfl dX6_whistled_10 (z := 4) (by decide) ?_
    refine x_callS0 14 rfl (c_X6_isBelow G wind 4 (by omega) (by omega)) (fun _ _ h => h.2) gX6_whistled_X6_isBelow rfl rfl rfl hd_X6_isBelow ⟨Nat.le_of_ble_eq_true rfl, Nat.le_of_ble_eq_true rfl⟩ (As := [.int (zI wind), .int (zI 4)]) (rest := []) rfl rfl (Nat.le_of_ble_eq_true rfl) dX6_whistled_11 ⟨Nat.zero_le _, Nat.zero_le _⟩ (fun v hq => ?_)
    obtain ⟨rfl, -⟩ := hq
    refine x_bif_ne 17 rfl (tgt := 26) dX6_whistled_14 (by decide) (fun h14 => ?_) (fun h14 => ?_)
    · have h14 := of_decide_eq_true h14
      refine x_iload_n 27 rfl dX6_whistled_26 3 rfl ?_
      refine x_iconst 28 rfl dX6_whistled_27 (z := 1) (by decide) ?_
      refine x_aload_n 29 rfl dX6_whistled_28 0 rfl ?_
      refine x_get 32 rfl (v := .ref go) 0 0 rfl rfl (by decide) inX6_whistled_X6 flX6_whistled_10 rfl dX6_whistled_29 ?_
      refine x_get 35 rfl (v := .int (zI ((n : Nat) : Int))) 4 0 rfl rfl (by decide) inX6_whistled_X0 flX6_whistled_132 rfl dX6_whistled_32 ?_
      refine x_ishl 36 rfl dX6_whistled_35 (z := ((2 ^ n : Nat) : Int)) (zI_shl1 (i := n) (by omega)) ?_
      refine x_callS0 39 rfl (c_X6_isBelow G who ((2 ^ n : Nat) : Int) (by omega) (by omega)) (fun _ _ h => h.2) gX6_whistled_X6_isBelow rfl rfl rfl hd_X6_isBelow ⟨Nat.le_of_ble_eq_true rfl, Nat.le_of_ble_eq_true rfl⟩ (As := [.int (zI who), .int (zI ((2 ^ n : Nat) : Int))]) (rest := []) rfl rfl (Nat.le_of_ble_eq_true rfl) dX6_whistled_36 ⟨Nat.zero_le _, Nat.zero_le _⟩ (fun v hq => ?_)
      obtain ⟨rfl, -⟩ := hq
      refine x_bif_eq 42 rfl (tgt := 51) dX6_whistled_39 (by decide) (fun h39 => ?_) (fun h39 => ?_)
      · have h39 := of_decide_eq_false h39
        refine x_aload_n 52 rfl dX6_whistled_51 0 rfl ?_
        refine x_bipush 54 rfl dX6_whistled_52 (z := (-2)) (by decide) ?_
        refine x_bipush 56 rfl dX6_whistled_54 (z := (-2)) (by decide) ?_
        refine x_callV 59 rfl (c_X6_refuse G wn go sp ia ka tq wh nm ra rf 1 (-2) (-2) (by decide) (by decide) (by decide)) [0, 1] rfl (by decide) 0 rfl rfl gX6_whistled_X6_refuse rfl rfl rfl hd_X6_refuse ⟨Nat.le_of_ble_eq_true rfl, Nat.le_of_ble_eq_true rfl⟩ (As := [.int (zI (-2)), .int (zI (-2))]) (rest := []) rfl rfl (Nat.le_of_ble_eq_true rfl) dX6_whistled_56 ⟨Nat.zero_le _, Nat.zero_le _⟩ (fun v w hq => ?_)
        obtain ⟨rfl, rfl⟩ := hq
        refine ⟨rfl, ?_⟩
        refine x_ws (ws' := [(wn, .inr (5, [.ref go, .ref sp, .ref ia, .ref ka, .ref tq, .ref wh, .ref nm, .ref ra])), (ra, aI G 3 (rfC false rf 1)), (wh, whE wa fo le), (wa 0, aN G 7 (laF la)), (go, goE ga ((n : Nat) : Int) ((d : Nat) : Int) ((c : Nat) : Int)), (ga 0, aI G 36 (gf 0)), (ga 1, aI G 7 (gf 1)), (ga 2, aI G 7 (gf 2)), (ga 3, aI G 7 (gf 3)), (ga 4, aI G 7 (gf 4)), (ga 5, aI G 6 (gf 5)), (ga 6, aI G 6 (gf 6)), (ga 7, aI G 8 (gf 7))] ++ lsW la F) (rfl) ?_
        refine x_iret rfl ?_ dX6_whistled_59
        have hk : kV (whN b n place.toNat wind.toNat who) n place wind who what = 1 := by unfold kV; exact if_neg (fun hh => by first | omega | (simp [*] at hh; done) | (obtain ⟨ha, hb, hc, hd⟩ := hh; first | omega | simp_all) | (obtain ⟨ha, hb, hc⟩ := hh; first | omega | simp_all) | (obtain ⟨ha, hb⟩ := hh; first | omega | simp_all))
        exact ⟨_, _, _, by rw [hk] <;> rfl, by rw [hk] <;> rfl⟩
      · have h39 := of_decide_eq_true h39
        refine x_iload 44 rfl dX6_whistled_42 4 rfl ?_
        refine x_iconst 45 rfl dX6_whistled_44 (z := 2) (by decide) ?_
        refine x_callS0 48 rfl (c_X6_isBelow G what 2 (by omega) (by omega)) (fun _ _ h => h.2) gX6_whistled_X6_isBelow rfl rfl rfl hd_X6_isBelow ⟨Nat.le_of_ble_eq_true rfl, Nat.le_of_ble_eq_true rfl⟩ (As := [.int (zI what), .int (zI 2)]) (rest := []) rfl rfl (Nat.le_of_ble_eq_true rfl) dX6_whistled_45 ⟨Nat.zero_le _, Nat.zero_le _⟩ (fun v hq => ?_)
        obtain ⟨rfl, -⟩ := hq
        refine x_bif_ne 51 rfl (tgt := 60) dX6_whistled_48 (by decide) (fun h48 => ?_) (fun h48 => ?_)
        · have h48 := of_decide_eq_true h48
          obtain ⟨place, rfl⟩ : ∃ zk : Nat, place = (zk : Int) := ⟨Int.toNat place, by omega⟩
          obtain ⟨wind, rfl⟩ : ∃ zk : Nat, wind = (zk : Int) := ⟨Int.toNat wind, by omega⟩
          refine x_aload_n 61 rfl dX6_whistled_60 0 rfl ?_
          refine x_get 64 rfl (v := .ref wh) 0 5 rfl rfl (by decide) inX6_whistled_X6 flX6_whistled_37 rfl dX6_whistled_61 ?_
          refine x_aload_n 65 rfl dX6_whistled_64 0 rfl ?_
          refine x_get 68 rfl (v := .ref go) 0 0 rfl rfl (by decide) inX6_whistled_X6 flX6_whistled_10 rfl dX6_whistled_65 ?_
          refine x_iload_n 69 rfl dX6_whistled_68 1 rfl ?_
          refine x_iload_n 70 rfl dX6_whistled_69 2 rfl ?_
          refine x_iload_n 71 rfl dX6_whistled_70 3 rfl ?_
          refine x_callV 74 rfl (c_X5_findWhistled G go ga b n d c gf I R wh wa fo le la F place wind who (by omega) (by omega) (by omega)) [2, 3, 4, 5, 6, 7, 8, 9, 10, 11, 12, 13, 14, 15, 16, 17, 18, 19] rfl (by decide) 2 rfl rfl gX6_whistled_X5_findWhistled rfl rfl rfl hd_X5_findWhistled ⟨Nat.le_of_ble_eq_true rfl, Nat.le_of_ble_eq_true rfl⟩ (As := [.ref go, .int (zI ((place : Nat) : Int)), .int (zI ((wind : Nat) : Int)), .int (zI who)]) (rest := []) rfl rfl (Nat.le_of_ble_eq_true rfl) dX6_whistled_71 ⟨Nat.zero_le _, Nat.zero_le _⟩ (fun v w hq => ?_)
          obtain ⟨Fz_1, rfl, rfl⟩ := hq
          refine ⟨rfl, ?_⟩
          refine x_ws (ws' := [(wn, .inr (5, [.ref go, .ref sp, .ref ia, .ref ka, .ref tq, .ref wh, .ref nm, .ref ra])), (ra, aI G 3 rf), (wh, whE wa ((whN b n place wind who).1) ((whN b n place wind who).2)), (wa 0, aN G 7 (laF la)), (go, goE ga ((n : Nat) : Int) ((d : Nat) : Int) ((c : Nat) : Int)), (ga 0, aI G 36 (gf 0)), (ga 1, aI G 7 (gf 1)), (ga 2, aI G 7 (gf 2)), (ga 3, aI G 7 (gf 3)), (ga 4, aI G 7 (gf 4)), (ga 5, aI G 6 (gf 5)), (ga 6, aI G 6 (gf 6)), (ga 7, aI G 8 (gf 7))] ++ lsW la Fz_1) (rfl) ?_
          have hwr := wsF_r (whG b n place wind who) 2048
          have hwz := wsF_z (whG b n place wind who) 2048
          have hwr2 : 0 ≤ (whN b n place wind who).1 ∧ (whN b n place wind who).1 ≤ 2048 ∧ -1 ≤ (whN b n place wind who).2 ∧ (whN b n place wind who).2 < 2049 := hwr
          have hwz2 : (whN b n place wind who).1 = 0 ↔ (whN b n place wind who).2 = -1 := hwz
          refine x_iload 76 rfl dX6_whistled_74 4 rfl ?_
          refine x_if_ne 79 rfl (tgt := 87) dX6_whistled_76 (by decide) (by omega) (fun h76 => ?_) (fun h76 => ?_)
          · skip
            refine x_aload_n 88 rfl dX6_whistled_87 0 rfl ?_
            refine x_get 91 rfl (v := .ref wh) 0 5 rfl rfl (by decide) inX6_whistled_X6 flX6_whistled_37 rfl dX6_whistled_88 ?_
            refine x_get 94 rfl (v := .int (zI ((whN b n place wind who).1))) 2 5 rfl rfl (by decide) inX6_whistled_X5 flX6_whistled_165 rfl dX6_whistled_91 ?_
            refine x_if_ne 97 rfl (tgt := 108) dX6_whistled_94 (by decide) (by omega) (fun h94 => ?_) (fun h94 => ?_)
            · skip
              refine x_aload_n 109 rfl dX6_whistled_108 0 rfl ?_
              refine x_get 112 rfl (v := .ref wh) 0 5 rfl rfl (by decide) inX6_whistled_X6 flX6_whistled_37 rfl dX6_whistled_109 ?_
              refine x_get 115 rfl (v := .int (zI ((whN b n place wind who).2))) 2 6 rfl rfl (by decide) inX6_whistled_X5 flX6_whistled_168 rfl dX6_whistled_112 ?_
              refine x_iret rfl ?_ dX6_whistled_115
              have hk : kV (whN b n place wind who) n ((place : Nat) : Int) ((wind : Nat) : Int) who what = 0 := by unfold kV; rw [if_pos (by omega), if_neg (by omega), if_neg (by omega)]
              exact ⟨_, _, _, by show _ = some (Value.int (zI (rC (kV (whN b n place wind who) n ((place : Nat) : Int) ((wind : Nat) : Int) who what) (if what = 0 then (whN b n place wind who).1 else (whN b n place wind who).2)))); rw [hk, if_neg (by omega)] <;> rfl, by show _ = [_, (ra, aI G 3 (rfC false rf (kV (whN b n place wind who) n ((place : Nat) : Int) ((wind : Nat) : Int) who what))), _, _, _, _, _, _, _, _, _, _, _] ++ _; rw [hk] <;> rfl⟩
            · skip
              refine x_aload_n 98 rfl dX6_whistled_97 0 rfl ?_
              refine x_bipush 100 rfl dX6_whistled_98 (z := (-3)) (by decide) ?_
              refine x_bipush 102 rfl dX6_whistled_100 (z := (-3)) (by decide) ?_
              refine x_callV 105 rfl (c_X6_refuse G wn go sp ia ka tq wh nm ra rf 2 (-3) (-3) (by decide) (by decide) (by decide)) [0, 1] rfl (by decide) 0 rfl rfl gX6_whistled_X6_refuse rfl rfl rfl hd_X6_refuse ⟨Nat.le_of_ble_eq_true rfl, Nat.le_of_ble_eq_true rfl⟩ (As := [.int (zI (-3)), .int (zI (-3))]) (rest := []) rfl rfl (Nat.le_of_ble_eq_true rfl) dX6_whistled_102 ⟨Nat.zero_le _, Nat.zero_le _⟩ (fun v w hq => ?_)
              obtain ⟨rfl, rfl⟩ := hq
              refine ⟨rfl, ?_⟩
              refine x_ws (ws' := [(wn, .inr (5, [.ref go, .ref sp, .ref ia, .ref ka, .ref tq, .ref wh, .ref nm, .ref ra])), (ra, aI G 3 (rfC false rf 2)), (wh, whE wa ((whN b n place wind who).1) ((whN b n place wind who).2)), (wa 0, aN G 7 (laF la)), (go, goE ga ((n : Nat) : Int) ((d : Nat) : Int) ((c : Nat) : Int)), (ga 0, aI G 36 (gf 0)), (ga 1, aI G 7 (gf 1)), (ga 2, aI G 7 (gf 2)), (ga 3, aI G 7 (gf 3)), (ga 4, aI G 7 (gf 4)), (ga 5, aI G 6 (gf 5)), (ga 6, aI G 6 (gf 6)), (ga 7, aI G 8 (gf 7))] ++ lsW la Fz_1) (rfl) ?_
              refine x_goto dX6_whistled_105 (tgt := 115) (by decide) ?_
              refine x_iret rfl ?_ dX6_whistled_115
              have hk : kV (whN b n place wind who) n ((place : Nat) : Int) ((wind : Nat) : Int) who what = 2 := by unfold kV; rw [if_pos (by omega), if_neg (by omega), if_pos (by omega)]
              exact ⟨_, _, _, by show _ = some (Value.int (zI (rC (kV (whN b n place wind who) n ((place : Nat) : Int) ((wind : Nat) : Int) who what) _))); rw [hk] <;> rfl, by show _ = [_, (ra, aI G 3 (rfC false rf (kV (whN b n place wind who) n ((place : Nat) : Int) ((wind : Nat) : Int) who what))), _, _, _, _, _, _, _, _, _, _, _] ++ _; rw [hk] <;> rfl⟩
          · skip
            refine x_aload_n 80 rfl dX6_whistled_79 0 rfl ?_
            refine x_get 83 rfl (v := .ref wh) 0 5 rfl rfl (by decide) inX6_whistled_X6 flX6_whistled_37 rfl dX6_whistled_80 ?_
            refine x_get 86 rfl (v := .int (zI ((whN b n place wind who).1))) 2 5 rfl rfl (by decide) inX6_whistled_X5 flX6_whistled_165 rfl dX6_whistled_83 ?_
            refine x_iret rfl ?_ dX6_whistled_86
            have hk : kV (whN b n place wind who) n ((place : Nat) : Int) ((wind : Nat) : Int) who what = 0 := by unfold kV; rw [if_pos (by omega), if_pos (by omega)]
            exact ⟨_, _, _, by show _ = some (Value.int (zI (rC (kV (whN b n place wind who) n ((place : Nat) : Int) ((wind : Nat) : Int) who what) (if what = 0 then (whN b n place wind who).1 else (whN b n place wind who).2)))); rw [hk, if_pos (by omega)] <;> rfl, by show _ = [_, (ra, aI G 3 (rfC false rf (kV (whN b n place wind who) n ((place : Nat) : Int) ((wind : Nat) : Int) who what))), _, _, _, _, _, _, _, _, _, _, _] ++ _; rw [hk] <;> rfl⟩
        · have h48 := of_decide_eq_false h48
          refine x_aload_n 52 rfl dX6_whistled_51 0 rfl ?_
          refine x_bipush 54 rfl dX6_whistled_52 (z := (-2)) (by decide) ?_
          refine x_bipush 56 rfl dX6_whistled_54 (z := (-2)) (by decide) ?_
          refine x_callV 59 rfl (c_X6_refuse G wn go sp ia ka tq wh nm ra rf 1 (-2) (-2) (by decide) (by decide) (by decide)) [0, 1] rfl (by decide) 0 rfl rfl gX6_whistled_X6_refuse rfl rfl rfl hd_X6_refuse ⟨Nat.le_of_ble_eq_true rfl, Nat.le_of_ble_eq_true rfl⟩ (As := [.int (zI (-2)), .int (zI (-2))]) (rest := []) rfl rfl (Nat.le_of_ble_eq_true rfl) dX6_whistled_56 ⟨Nat.zero_le _, Nat.zero_le _⟩ (fun v w hq => ?_)
          obtain ⟨rfl, rfl⟩ := hq
          refine ⟨rfl, ?_⟩
          refine x_ws (ws' := [(wn, .inr (5, [.ref go, .ref sp, .ref ia, .ref ka, .ref tq, .ref wh, .ref nm, .ref ra])), (ra, aI G 3 (rfC false rf 1)), (wh, whE wa fo le), (wa 0, aN G 7 (laF la)), (go, goE ga ((n : Nat) : Int) ((d : Nat) : Int) ((c : Nat) : Int)), (ga 0, aI G 36 (gf 0)), (ga 1, aI G 7 (gf 1)), (ga 2, aI G 7 (gf 2)), (ga 3, aI G 7 (gf 3)), (ga 4, aI G 7 (gf 4)), (ga 5, aI G 6 (gf 5)), (ga 6, aI G 6 (gf 6)), (ga 7, aI G 8 (gf 7))] ++ lsW la F) (rfl) ?_
          refine x_iret rfl ?_ dX6_whistled_59
          have hk : kV (whN b n place.toNat wind.toNat who) n place wind who what = 1 := by unfold kV; exact if_neg (fun hh => by first | omega | (simp [*] at hh; done) | (obtain ⟨ha, hb, hc, hd⟩ := hh; first | omega | simp_all) | (obtain ⟨ha, hb, hc⟩ := hh; first | omega | simp_all) | (obtain ⟨ha, hb⟩ := hh; first | omega | simp_all))
          exact ⟨_, _, _, by rw [hk] <;> rfl, by rw [hk] <;> rfl⟩
    · have h14 := of_decide_eq_false h14
      refine x_aload_n 18 rfl dX6_whistled_17 0 rfl ?_
      refine x_bipush 20 rfl dX6_whistled_18 (z := (-2)) (by decide) ?_
      refine x_bipush 22 rfl dX6_whistled_20 (z := (-2)) (by decide) ?_
      refine x_callV 25 rfl (c_X6_refuse G wn go sp ia ka tq wh nm ra rf 1 (-2) (-2) (by decide) (by decide) (by decide)) [0, 1] rfl (by decide) 0 rfl rfl gX6_whistled_X6_refuse rfl rfl rfl hd_X6_refuse ⟨Nat.le_of_ble_eq_true rfl, Nat.le_of_ble_eq_true rfl⟩ (As := [.int (zI (-2)), .int (zI (-2))]) (rest := []) rfl rfl (Nat.le_of_ble_eq_true rfl) dX6_whistled_22 ⟨Nat.zero_le _, Nat.zero_le _⟩ (fun v w hq => ?_)
      obtain ⟨rfl, rfl⟩ := hq
      refine ⟨rfl, ?_⟩
      refine x_ws (ws' := [(wn, .inr (5, [.ref go, .ref sp, .ref ia, .ref ka, .ref tq, .ref wh, .ref nm, .ref ra])), (ra, aI G 3 (rfC false rf 1)), (wh, whE wa fo le), (wa 0, aN G 7 (laF la)), (go, goE ga ((n : Nat) : Int) ((d : Nat) : Int) ((c : Nat) : Int)), (ga 0, aI G 36 (gf 0)), (ga 1, aI G 7 (gf 1)), (ga 2, aI G 7 (gf 2)), (ga 3, aI G 7 (gf 3)), (ga 4, aI G 7 (gf 4)), (ga 5, aI G 6 (gf 5)), (ga 6, aI G 6 (gf 6)), (ga 7, aI G 8 (gf 7))] ++ lsW la F) (rfl) ?_
      refine x_iret rfl ?_ dX6_whistled_25
      have hk : kV (whN b n place.toNat wind.toNat who) n place wind who what = 1 := by unfold kV; exact if_neg (fun hh => by first | omega | (simp [*] at hh; done) | (obtain ⟨ha, hb, hc, hd⟩ := hh; first | omega | simp_all) | (obtain ⟨ha, hb, hc⟩ := hh; first | omega | simp_all) | (obtain ⟨ha, hb⟩ := hh; first | omega | simp_all))
      exact ⟨_, _, _, by rw [hk] <;> rfl, by rw [hk] <;> rfl⟩

