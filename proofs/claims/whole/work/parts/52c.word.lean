abbrev P_X6_free (G : XG) (go : Nat) (ga : Nat → Nat) (b : Nat → Int) (n : Nat) (d : Nat) (c : Nat) (gf : Nat → Nat → Int) (wn : Nat) (sp : Nat) (ia : Nat) (ka : Nat) (tq : Nat) (wh : Nat) (nm : Nat) (ra : Nat) (rf : Nat → Int) (wa : Nat → Nat) (fo : Int) (le : Int) (e0 : Int) (o0 : Int) (l0 : Int) (a0 : Bool) (p : Int) (year : Int) : Option Value → va_W → Prop := fun r ws => ∃ e1 o1 l1 : Int, ∃ a1 : Bool, r = some (.int (zI (rC (kF n p year) (frF b n p.toNat year d)))) ∧ ws = [(wn, .inr (5, [.ref go, .ref sp, .ref ia, .ref ka, .ref tq, .ref wh, .ref nm, .ref ra])), (ra, aI G 3 (rfC false rf (kF n p year))), (wh, whE wa fo le), (wa 1, .inr (1, [.int (zI e1), .int (zI o1), .int (zI l1), .int (zB a1)])), (go, goE ga ((n : Nat) : Int) ((d : Nat) : Int) ((c : Nat) : Int)), (ga 0, aI G 36 (gf 0)), (ga 1, aI G 7 (gf 1)), (ga 2, aI G 7 (gf 2)), (ga 3, aI G 7 (gf 3)), (ga 4, aI G 7 (gf 4)), (ga 5, aI G 6 (gf 5)), (ga 6, aI G 6 (gf 6)), (ga 7, aI G 8 (gf 7))]
abbrev W_X6_free (G : XG) (E : XE) (go : Nat) (ga : Nat → Nat) (b : Nat → Int) (n : Nat) (d : Nat) (c : Nat) (gf : Nat → Nat → Int) (wn : Nat) (sp : Nat) (ia : Nat) (ka : Nat) (tq : Nat) (wh : Nat) (nm : Nat) (ra : Nat) (rf : Nat → Int) (wa : Nat → Nat) (fo : Int) (le : Int) (e0 : Int) (o0 : Int) (l0 : Int) (a0 : Bool) (p : Int) (year : Int) (pc : Nat) (lv : List (Nat × Value)) (st : List Value) (ws : va_W) : Prop := Wx G E (rmL 5) cX6_free 8 RX6 wsX6_free (some .int) "free" 0 0 (P_X6_free G go ga b n d c gf wn sp ia ka tq wh nm ra rf wa fo le e0 o0 l0 a0 p year) 0 0 pc lv st ws
theorem flX6_free_10 : Cond.fieldLink RX6 10 (TX6 0).1 (TX6 0).2.1 (TX6 0).2.2.1 ∈ wsX6_free := by decide +kernel
theorem flX6_free_37 : Cond.fieldLink RX6 37 (TX6 5).1 (TX6 5).2.1 (TX6 5).2.2.1 ∈ wsX6_free := by decide +kernel
theorem flX6_free_181 : Cond.fieldLink RX6 181 (TX0 1).1 (TX0 1).2.1 (TX0 1).2.2.1 ∈ wsX6_free := by decide +kernel
theorem flX6_free_184 : Cond.fieldLink RX6 184 (TX0 8).1 (TX0 8).2.1 (TX0 8).2.2.1 ∈ wsX6_free := by decide +kernel
theorem flX6_free_187 : Cond.fieldLink RX6 187 (TX0 9).1 (TX0 9).2.1 (TX0 9).2.2.1 ∈ wsX6_free := by decide +kernel
theorem inX6_free_X0 : ∀ w ∈ u_ws RX0 TX0 11, w ∈ wsX6_free := fun _ h => List.mem_cons_of_mem _ (List.mem_append_left _ (List.mem_append_left _ (List.mem_append_right _ h)))
theorem inX6_free_X6 : ∀ w ∈ u_ws RX6 TX6 8, w ∈ wsX6_free := fun _ h => List.mem_cons_of_mem _ (List.mem_append_left _ (List.mem_append_left _ (List.mem_append_left _ (List.mem_append_right _ h))))
set_option maxHeartbeats 4000000 in
set_option maxRecDepth 100000 in
/-- free -/
theorem c_X6_free (G : XG) (go : Nat) (ga : Nat → Nat) (b : Nat → Int) (n d c : Nat) (gf : Nat → Nat → Int) (I : Inv b n d c) (R : GR b n d c gf) (wn sp ia ka tq wh nm ra : Nat) (rf : Nat → Int) (wa : Nat → Nat) (fo le : Int) (e0 o0 l0 : Int) (a0 : Bool) (p year : Int) (h1 : Z32 p) (h2 : Z32 year) : Con G yX6_free wsX6_free (rmL 5) 0 0 [.ref wn, .int (zI p), .int (zI year)] ([(wn, .inr (5, [.ref go, .ref sp, .ref ia, .ref ka, .ref tq, .ref wh, .ref nm, .ref ra])), (ra, aI G 3 rf), (wh, whE wa fo le), (wa 1, .inr (1, [.int (zI e0), .int (zI o0), .int (zI l0), .int (zB a0)])), (go, goE ga ((n : Nat) : Int) ((d : Nat) : Int) ((c : Nat) : Int)), (ga 0, aI G 36 (gf 0)), (ga 1, aI G 7 (gf 1)), (ga 2, aI G 7 (gf 2)), (ga 3, aI G 7 (gf 3)), (ga 4, aI G 7 (gf 4)), (ga 5, aI G 6 (gf 5)), (ga 6, aI G 6 (gf 6)), (ga 7, aI G 8 (gf 7))]) (P_X6_free G go ga b n d c gf wn sp ia ka tq wh nm ra rf wa fo le e0 o0 l0 a0 p year) := by
  refine x_start (cc := cX6_free) (nL := 8) (ret := (some .int)) (by decide) rfl (Nat.le_of_ble_eq_true rfl) (fun E => ?_)
  show W_X6_free G E go ga b n d c gf wn sp ia ka tq wh nm ra rf wa fo le e0 o0 l0 a0 p year 0 [(0, .ref wn), (1, .int (zI p)), (2, .int (zI year))] [] ([(wn, .inr (5, [.ref go, .ref sp, .ref ia, .ref ka, .ref tq, .ref wh, .ref nm, .ref ra])), (ra, aI G 3 rf), (wh, whE wa fo le), (wa 1, .inr (1, [.int (zI e0), .int (zI o0), .int (zI l0), .int (zB a0)])), (go, goE ga ((n : Nat) : Int) ((d : Nat) : Int) ((c : Nat) : Int)), (ga 0, aI G 36 (gf 0)), (ga 1, aI G 7 (gf 1)), (ga 2, aI G 7 (gf 2)), (ga 3, aI G 7 (gf 3)), (ga 4, aI G 7 (gf 4)), (ga 5, aI G 6 (gf 5)), (ga 6, aI G 6 (gf 6)), (ga 7, aI G 8 (gf 7))])
  have hn7 := I.n7
  have hd6 := I.d6
  have hc8 := I.c8
  refine x_aload_n 1 rfl dX6_free_0 0 rfl ?_
  refine x_get 4 rfl (v := .ref go) 0 0 rfl rfl (by decide) inX6_free_X6 flX6_free_10 rfl dX6_free_1 ?_
  refine x_iload_n 5 rfl dX6_free_4 1 rfl ?_
  refine x_callV 8 rfl (c_X0_isPerson G go ga b n d c gf I R p (by omega)) [4, 5, 6, 7, 8, 9, 10, 11, 12] rfl (by decide) 4 rfl rfl gX6_free_X0_isPerson rfl rfl rfl hd_X0_isPerson ⟨Nat.le_of_ble_eq_true rfl, Nat.le_of_ble_eq_true rfl⟩ (As := [.int (zI p)]) (rest := []) rfl rfl (Nat.le_of_ble_eq_true rfl) dX6_free_5 ⟨Nat.zero_le _, Nat.zero_le _⟩ (fun v w hq => ?_)
  obtain ⟨rfl, rfl⟩ := hq
  refine ⟨rfl, ?_⟩
  refine x_wp (ws' := [(wn, .inr (5, [.ref go, .ref sp, .ref ia, .ref ka, .ref tq, .ref wh, .ref nm, .ref ra])), (ra, aI G 3 rf), (wh, whE wa fo le), (wa 1, .inr (1, [.int (zI e0), .int (zI o0), .int (zI l0), .int (zB a0)])), (go, goE ga ((n : Nat) : Int) ((d : Nat) : Int) ((c : Nat) : Int)), (ga 0, aI G 36 (gf 0)), (ga 1, aI G 7 (gf 1)), (ga 2, aI G 7 (gf 2)), (ga 3, aI G 7 (gf 3)), (ga 4, aI G 7 (gf 4)), (ga 5, aI G 6 (gf 5)), (ga 6, aI G 6 (gf 6)), (ga 7, aI G 8 (gf 7))]) rfl ?_
  refine x_bif_eq 11 rfl (tgt := 20) dX6_free_8 (by decide) (fun h8 => ?_) (fun h8 => ?_)
  · have h8 := of_decide_eq_false h8
    refine x_aload_n 21 rfl dX6_free_20 0 rfl ?_
    refine x_bipush 23 rfl dX6_free_21 (z := (-2)) (by decide) ?_
    refine x_bipush 25 rfl dX6_free_23 (z := (-2)) (by decide) ?_
    refine x_callV 28 rfl (c_X6_refuse G wn go sp ia ka tq wh nm ra rf 1 (-2) (-2) (by decide) (by decide) (by decide)) [0, 1] rfl (by decide) 0 rfl rfl gX6_free_X6_refuse rfl rfl rfl hd_X6_refuse ⟨Nat.le_of_ble_eq_true rfl, Nat.le_of_ble_eq_true rfl⟩ (As := [.int (zI (-2)), .int (zI (-2))]) (rest := []) rfl rfl (Nat.le_of_ble_eq_true rfl) dX6_free_25 ⟨Nat.zero_le _, Nat.zero_le _⟩ (fun v w hq => ?_)
    obtain ⟨rfl, rfl⟩ := hq
    refine ⟨rfl, ?_⟩
    refine x_wp (ws' := [(wn, .inr (5, [.ref go, .ref sp, .ref ia, .ref ka, .ref tq, .ref wh, .ref nm, .ref ra])), (ra, aI G 3 (rfC false rf 1)), (wh, whE wa fo le), (wa 1, .inr (1, [.int (zI e0), .int (zI o0), .int (zI l0), .int (zB a0)])), (go, goE ga ((n : Nat) : Int) ((d : Nat) : Int) ((c : Nat) : Int)), (ga 0, aI G 36 (gf 0)), (ga 1, aI G 7 (gf 1)), (ga 2, aI G 7 (gf 2)), (ga 3, aI G 7 (gf 3)), (ga 4, aI G 7 (gf 4)), (ga 5, aI G 6 (gf 5)), (ga 6, aI G 6 (gf 6)), (ga 7, aI G 8 (gf 7))]) rfl ?_
    refine x_iret rfl ?_ dX6_free_28
    have hk : kF n p year = 1 := by unfold kF; exact if_neg (fun hh => by first | omega | (simp [*] at hh; done) | (obtain ⟨ha, hb, hc, hd⟩ := hh; first | omega | simp_all) | (obtain ⟨ha, hb, hc⟩ := hh; first | omega | simp_all) | (obtain ⟨ha, hb⟩ := hh; first | omega | simp_all))
    exact ⟨_, _, _, _, by rw [hk] <;> rfl, by rw [hk] <;> rfl⟩
  · have h8 := of_decide_eq_true h8
    refine x_iload_n 12 rfl dX6_free_11 2 rfl ?_
    refine x_bipush 14 rfl dX6_free_12 (z := 100) (by decide) ?_
    refine x_callS0 17 rfl (c_X6_isBelow G year 100 (by omega) (by omega)) (fun _ _ h => h.2) gX6_free_X6_isBelow rfl rfl rfl hd_X6_isBelow ⟨Nat.le_of_ble_eq_true rfl, Nat.le_of_ble_eq_true rfl⟩ (As := [.int (zI year), .int (zI 100)]) (rest := []) rfl rfl (Nat.le_of_ble_eq_true rfl) dX6_free_14 ⟨Nat.zero_le _, Nat.zero_le _⟩ (fun v hq => ?_)
    obtain ⟨rfl, -⟩ := hq
    refine x_bif_ne 20 rfl (tgt := 29) dX6_free_17 (by decide) (fun h17 => ?_) (fun h17 => ?_)
    · have h17 := of_decide_eq_true h17
      obtain ⟨p, rfl⟩ : ∃ zk : Nat, p = (zk : Int) := ⟨Int.toNat p, by omega⟩
      refine x_iconst 30 rfl dX6_free_29 (z := (-1)) (by decide) ?_
      refine x_istore_n 31 rfl (lv' := [(3, .int (zI (-1))), (0, .ref wn), (1, .int (zI ((p : Nat) : Int))), (2, .int (zI year))]) dX6_free_30 (by decide) rfl ?_
      refine x_iconst 32 rfl dX6_free_31 (z := 0) (by decide) ?_
      refine x_istore 34 rfl (lv' := [(4, .int (zI 0)), (3, .int (zI (-1))), (0, .ref wn), (1, .int (zI ((p : Nat) : Int))), (2, .int (zI year))]) dX6_free_32 (by decide) rfl ?_
      have L34 : ∀ (fz34 : Nat) (k : Nat) (e1 : Int) (o1 : Int) (l1 : Int) (a1 : Bool) (hk1 : k ≤ d), d - k < fz34 → W_X6_free G E go ga b n d c gf wn sp ia ka tq wh nm ra rf wa fo le e0 o0 l0 a0 p year 34 [(0, .ref wn), (1, .int (zI ((p : Nat) : Int))), (2, .int (zI year)), (3, .int (zI (frF b n p year k))), (4, .int (zI ((k : Nat) : Int)))] [] ([(wn, .inr (5, [.ref go, .ref sp, .ref ia, .ref ka, .ref tq, .ref wh, .ref nm, .ref ra])), (ra, aI G 3 rf), (wh, whE wa fo le), (wa 1, .inr (1, [.int (zI e1), .int (zI o1), .int (zI l1), .int (zB a1)])), (go, goE ga ((n : Nat) : Int) ((d : Nat) : Int) ((c : Nat) : Int)), (ga 0, aI G 36 (gf 0)), (ga 1, aI G 7 (gf 1)), (ga 2, aI G 7 (gf 2)), (ga 3, aI G 7 (gf 3)), (ga 4, aI G 7 (gf 4)), (ga 5, aI G 6 (gf 5)), (ga 6, aI G 6 (gf 6)), (ga 7, aI G 8 (gf 7))]) := by
        intro fz34
        induction fz34 with
        | zero => intro k e1 o1 l1 a1 hk1 hf34; exact absurd hf34 (Nat.not_lt_zero _)
        | succ fz34 ih34 =>
          intro k e1 o1 l1 a1 hk1 hf34
          refine x_iload 36 rfl dX6_free_34 4 rfl ?_
          refine x_aload_n 37 rfl dX6_free_36 0 rfl ?_
          refine x_get 40 rfl (v := .ref go) 0 0 rfl rfl (by decide) inX6_free_X6 flX6_free_10 rfl dX6_free_37 ?_
          refine x_get 43 rfl (v := .int (zI ((d : Nat) : Int))) 4 1 rfl rfl (by decide) inX6_free_X0 flX6_free_181 rfl dX6_free_40 ?_
          refine x_icmp_ge 46 rfl (tgt := 136) dX6_free_43 (by decide) (by omega) (by omega) (fun h43 => ?_) (fun h43 => ?_)
          · skip
            refine x_iload_n 137 rfl dX6_free_136 3 rfl ?_
            refine x_iret rfl ?_ dX6_free_137
            have hk : kF n ((p : Nat) : Int) year = 0 := by unfold kF; exact if_pos (by omega)
            have e : k = d := by omega
            exact ⟨_, _, _, _, by rw [hk, e] <;> rfl, by rw [hk] <;> rfl⟩
          · skip
            have hdd := I.dd (k := k) (by omega)
            obtain ⟨t, htt, htv⟩ := isT_of hdd.1
            have ht8 := vt_lt htv
            have hfr := frF_r I p year k (by omega)
            have htn : (b (46 + 2 * k)).toNat = t := by rw [htt] <;> rfl
            refine x_aload_n 47 rfl dX6_free_46 0 rfl ?_
            refine x_get 50 rfl (v := .ref go) 0 0 rfl rfl (by decide) inX6_free_X6 flX6_free_10 rfl dX6_free_47 ?_
            refine x_get 53 rfl (v := .ref (ga 5)) 4 8 rfl rfl (by decide) inX6_free_X0 flX6_free_184 rfl dX6_free_50 ?_
            refine x_iload 55 rfl dX6_free_53 4 rfl ?_
            refine x_iald 56 rfl 10 k rfl (⟨by omega, by omega⟩) (by decide) (v := ((t : Nat) : Int)) ((R.2.2.1 k (by omega)).1.trans htt) dX6_free_55 ?_
            refine x_istore 58 rfl (lv' := [(5, .int (zI ((t : Nat) : Int))), (0, .ref wn), (1, .int (zI ((p : Nat) : Int))), (2, .int (zI year)), (3, .int (zI (frF b n p year k))), (4, .int (zI ((k : Nat) : Int)))]) dX6_free_56 (by decide) rfl ?_
            refine x_iload_n 59 rfl dX6_free_58 4 rfl ?_
            refine x_iconst 60 rfl dX6_free_59 (z := (-1)) (by decide) ?_
            refine x_icmp_eq 63 rfl (tgt := 69) dX6_free_60 (by decide) (by omega) (by decide) (fun h60 => ?_) (fun h60 => ?_)
            · skip
              refine x_iconst 70 rfl dX6_free_69 (z := 1) (by decide) ?_
              refine x_goto dX6_free_70 (tgt := 74) (by decide) ?_
              refine x_istore 76 rfl (lv' := [(6, .int (zI 1)), (5, .int (zI ((t : Nat) : Int))), (0, .ref wn), (1, .int (zI ((p : Nat) : Int))), (2, .int (zI year)), (3, .int (zI (frF b n p year k))), (4, .int (zI ((k : Nat) : Int)))]) dX6_free_74 (by decide) rfl ?_
              refine x_iload_n 77 rfl dX6_free_76 4 rfl ?_
              refine x_aload_n 78 rfl dX6_free_77 2 rfl ?_
              refine x_get 81 rfl (v := .ref go) 0 0 rfl rfl (by decide) inX6_free_X6 flX6_free_10 rfl dX6_free_78 ?_
              refine x_get 84 rfl (v := .ref (ga 6)) 4 9 rfl rfl (by decide) inX6_free_X0 flX6_free_187 rfl dX6_free_81 ?_
              refine x_iload 86 rfl dX6_free_84 6 rfl ?_
              refine x_iald 87 rfl 11 k rfl (⟨by omega, by omega⟩) (by decide) (v := b (46 + 2 * k + 1)) ((R.2.2.1 k (by omega)).2) dX6_free_86 ?_
              refine x_bipush 89 rfl dX6_free_87 (z := 9) (by decide) ?_
              refine x_iadd 90 rfl dX6_free_89 (z := (b (46 + 2 * k + 1)) + 9) (rfl) ?_
              refine x_icmp_lt 93 rfl (tgt := 97) dX6_free_90 (by decide) (by omega) (by omega) (fun h90 => ?_) (fun h90 => ?_)
              · skip
                refine x_iconst 98 rfl dX6_free_97 (z := 0) (by decide) ?_
                refine x_istore 100 rfl (lv' := [(7, .int (zI 0)), (6, .int (zI 1)), (5, .int (zI ((t : Nat) : Int))), (0, .ref wn), (1, .int (zI ((p : Nat) : Int))), (2, .int (zI year)), (3, .int (zI (frF b n p year k))), (4, .int (zI ((k : Nat) : Int)))]) dX6_free_98 (by decide) rfl ?_
                refine x_iload 102 rfl dX6_free_100 1 rfl ?_
                refine x_if_eq 105 rfl (tgt := 130) dX6_free_102 (by decide) (by omega) (fun h102 => ?_) (fun h102 => ?_)
                · skip
                  exact absurd h102 (by decide)
                · skip
                  refine x_iload 107 rfl dX6_free_105 0 rfl ?_
                  refine x_if_eq 110 rfl (tgt := 130) dX6_free_107 (by decide) (by omega) (fun h107 => ?_) (fun h107 => ?_)
                  · skip
                    refine x_iinc 133 rfl (lv' := [(4, .int (zI ((k + 1 : Nat) : Int))), (7, .int (zI 0)), (6, .int (zI 1)), (5, .int (zI ((t : Nat) : Int))), (0, .ref wn), (1, .int (zI ((p : Nat) : Int))), (2, .int (zI year)), (3, .int (zI (frF b n p year k)))]) dX6_free_130 7 rfl (b := ((k + 1 : Nat) : Int)) (by omega) (by decide) rfl ?_
                    refine x_goto dX6_free_133 (tgt := 34) (by decide) ?_
                    refine x_lve (congrArg (fun zz : Int => ([(4, .int (zI ((k + 1 : Nat) : Int))), (7, .int (zI 0)), (6, .int (zI 1)), (5, .int (zI ((t : Nat) : Int))), (0, .ref wn), (1, .int (zI ((p : Nat) : Int))), (2, .int (zI year)), (3, .int (zI zz))] : List (Nat × Value))) (by show _ = frS b n p year k (frF b n p year k); unfold frS; rw [if_neg (fun hh => by first | omega | (have hq := hh.1.2; rw [htn, h124] at hq; cases hq))] : frF b n p year k = frF b n p year (k + 1))) ?_
                    refine x_lv [4, 5, 6, 7, 0] rfl ?_
                    exact ih34 (k + 1) e1 o1 l1 a1 (by omega) (by omega)
                  · skip
                    exact absurd h107 (by decide)
              · skip
                refine x_iconst 94 rfl dX6_free_93 (z := 1) (by decide) ?_
                refine x_goto dX6_free_94 (tgt := 98) (by decide) ?_
                refine x_istore 100 rfl (lv' := [(7, .int (zI 1)), (6, .int (zI 1)), (5, .int (zI ((t : Nat) : Int))), (0, .ref wn), (1, .int (zI ((p : Nat) : Int))), (2, .int (zI year)), (3, .int (zI (frF b n p year k))), (4, .int (zI ((k : Nat) : Int)))]) dX6_free_98 (by decide) rfl ?_
                refine x_iload 102 rfl dX6_free_100 1 rfl ?_
                refine x_if_eq 105 rfl (tgt := 130) dX6_free_102 (by decide) (by omega) (fun h102 => ?_) (fun h102 => ?_)
                · skip
                  exact absurd h102 (by decide)
                · skip
                  refine x_iload 107 rfl dX6_free_105 0 rfl ?_
                  refine x_if_eq 110 rfl (tgt := 130) dX6_free_107 (by decide) (by omega) (fun h107 => ?_) (fun h107 => ?_)
                  · skip
                    exact absurd h107 (by decide)
                  · skip
                    refine x_aload_n 111 rfl dX6_free_110 3 rfl ?_
                    refine x_get 114 rfl (v := .ref wh) 0 5 rfl rfl (by decide) inX6_free_X6 flX6_free_37 rfl dX6_free_111 ?_
                    refine x_aload_n 115 rfl dX6_free_114 3 rfl ?_
                    refine x_get 118 rfl (v := .ref go) 0 0 rfl rfl (by decide) inX6_free_X6 flX6_free_10 rfl dX6_free_115 ?_
                    refine x_iload_n 119 rfl dX6_free_118 4 rfl ?_
                    refine x_iload 121 rfl dX6_free_119 2 rfl ?_
                    refine x_callV 124 rfl (c_X5_standsAlone G go ga b n d c gf I R wh wa fo le e1 o1 l1 a1 p t (by omega) (htv)) [2, 3, 4, 5, 6, 7, 8, 9, 10, 11, 12] rfl (by decide) 2 rfl rfl gX6_free_X5_standsAlone rfl rfl rfl hd_X5_standsAlone ⟨Nat.le_of_ble_eq_true rfl, Nat.le_of_ble_eq_true rfl⟩ (As := [.ref go, .int (zI ((p : Nat) : Int)), .int (zI ((t : Nat) : Int))]) (rest := []) rfl rfl (Nat.le_of_ble_eq_true rfl) dX6_free_121 ⟨Nat.zero_le _, Nat.zero_le _⟩ (fun v w hq => ?_)
                    obtain ⟨ez_1, oz_1, lz_1, az_1, rfl, rfl⟩ := hq
                    refine ⟨rfl, ?_⟩
                    refine x_wp (ws' := [(wn, .inr (5, [.ref go, .ref sp, .ref ia, .ref ka, .ref tq, .ref wh, .ref nm, .ref ra])), (ra, aI G 3 rf), (wh, whE wa fo le), (wa 1, .inr (1, [.int (zI ez_1), .int (zI oz_1), .int (zI lz_1), .int (zB az_1)])), (go, goE ga ((n : Nat) : Int) ((d : Nat) : Int) ((c : Nat) : Int)), (ga 0, aI G 36 (gf 0)), (ga 1, aI G 7 (gf 1)), (ga 2, aI G 7 (gf 2)), (ga 3, aI G 7 (gf 3)), (ga 4, aI G 7 (gf 4)), (ga 5, aI G 6 (gf 5)), (ga 6, aI G 6 (gf 6)), (ga 7, aI G 8 (gf 7))]) rfl ?_
                    refine x_bif_eq 127 rfl (tgt := 130) dX6_free_124 (by decide) (fun h124 => ?_) (fun h124 => ?_)
                    · skip
                      refine x_iinc 133 rfl (lv' := [(4, .int (zI ((k + 1 : Nat) : Int))), (7, .int (zI 1)), (6, .int (zI 1)), (5, .int (zI ((t : Nat) : Int))), (0, .ref wn), (1, .int (zI ((p : Nat) : Int))), (2, .int (zI year)), (3, .int (zI (frF b n p year k)))]) dX6_free_130 7 rfl (b := ((k + 1 : Nat) : Int)) (by omega) (by decide) rfl ?_
                      refine x_goto dX6_free_133 (tgt := 34) (by decide) ?_
                      refine x_lve (congrArg (fun zz : Int => ([(4, .int (zI ((k + 1 : Nat) : Int))), (7, .int (zI 1)), (6, .int (zI 1)), (5, .int (zI ((t : Nat) : Int))), (0, .ref wn), (1, .int (zI ((p : Nat) : Int))), (2, .int (zI year)), (3, .int (zI zz))] : List (Nat × Value))) (by show _ = frS b n p year k (frF b n p year k); unfold frS; rw [if_neg (fun hh => by first | omega | (have hq := hh.1.2; rw [htn, h124] at hq; cases hq))] : frF b n p year k = frF b n p year (k + 1))) ?_
                      refine x_lv [4, 5, 6, 7, 0] rfl ?_
                      exact ih34 (k + 1) ez_1 oz_1 lz_1 az_1 (by omega) (by omega)
                    · skip
                      refine x_iload 129 rfl dX6_free_127 2 rfl ?_
                      refine x_istore_n 130 rfl (lv' := [(3, .int (zI ((t : Nat) : Int))), (7, .int (zI 1)), (6, .int (zI 1)), (5, .int (zI ((t : Nat) : Int))), (0, .ref wn), (1, .int (zI ((p : Nat) : Int))), (2, .int (zI year)), (4, .int (zI ((k : Nat) : Int)))]) dX6_free_129 (by decide) rfl ?_
                      refine x_iinc 133 rfl (lv' := [(4, .int (zI ((k + 1 : Nat) : Int))), (3, .int (zI ((t : Nat) : Int))), (7, .int (zI 1)), (6, .int (zI 1)), (5, .int (zI ((t : Nat) : Int))), (0, .ref wn), (1, .int (zI ((p : Nat) : Int))), (2, .int (zI year))]) dX6_free_130 7 rfl (b := ((k + 1 : Nat) : Int)) (by omega) (by decide) rfl ?_
                      refine x_goto dX6_free_133 (tgt := 34) (by decide) ?_
                      refine x_lve (congrArg (fun zz : Int => ([(4, .int (zI ((k + 1 : Nat) : Int))), (3, .int (zI zz)), (7, .int (zI 1)), (6, .int (zI 1)), (5, .int (zI ((t : Nat) : Int))), (0, .ref wn), (1, .int (zI ((p : Nat) : Int))), (2, .int (zI year))] : List (Nat × Value))) (by show _ = frS b n p year k (frF b n p year k); unfold frS; rw [if_pos ⟨⟨by omega, by rw [htn]; exact h124⟩, by omega⟩]; omega : ((t : Nat) : Int) = frF b n p year (k + 1))) ?_
                      refine x_lv [5, 6, 7, 1, 0] rfl ?_
                      exact ih34 (k + 1) ez_1 oz_1 lz_1 az_1 (by omega) (by omega)
            · skip
              refine x_iload 65 rfl dX6_free_63 0 rfl ?_
              refine x_iload_n 66 rfl dX6_free_65 4 rfl ?_
              refine x_icmp_ge 69 rfl (tgt := 73) dX6_free_66 (by decide) (by omega) (by omega) (fun h66 => ?_) (fun h66 => ?_)
              · skip
                refine x_iconst 74 rfl dX6_free_73 (z := 0) (by decide) ?_
                refine x_istore 76 rfl (lv' := [(6, .int (zI 0)), (5, .int (zI ((t : Nat) : Int))), (0, .ref wn), (1, .int (zI ((p : Nat) : Int))), (2, .int (zI year)), (3, .int (zI (frF b n p year k))), (4, .int (zI ((k : Nat) : Int)))]) dX6_free_74 (by decide) rfl ?_
                refine x_iload_n 77 rfl dX6_free_76 4 rfl ?_
                refine x_aload_n 78 rfl dX6_free_77 2 rfl ?_
                refine x_get 81 rfl (v := .ref go) 0 0 rfl rfl (by decide) inX6_free_X6 flX6_free_10 rfl dX6_free_78 ?_
                refine x_get 84 rfl (v := .ref (ga 6)) 4 9 rfl rfl (by decide) inX6_free_X0 flX6_free_187 rfl dX6_free_81 ?_
                refine x_iload 86 rfl dX6_free_84 6 rfl ?_
                refine x_iald 87 rfl 11 k rfl (⟨by omega, by omega⟩) (by decide) (v := b (46 + 2 * k + 1)) ((R.2.2.1 k (by omega)).2) dX6_free_86 ?_
                refine x_bipush 89 rfl dX6_free_87 (z := 9) (by decide) ?_
                refine x_iadd 90 rfl dX6_free_89 (z := (b (46 + 2 * k + 1)) + 9) (rfl) ?_
                refine x_icmp_lt 93 rfl (tgt := 97) dX6_free_90 (by decide) (by omega) (by omega) (fun h90 => ?_) (fun h90 => ?_)
                · skip
                  refine x_iconst 98 rfl dX6_free_97 (z := 0) (by decide) ?_
                  refine x_istore 100 rfl (lv' := [(7, .int (zI 0)), (6, .int (zI 0)), (5, .int (zI ((t : Nat) : Int))), (0, .ref wn), (1, .int (zI ((p : Nat) : Int))), (2, .int (zI year)), (3, .int (zI (frF b n p year k))), (4, .int (zI ((k : Nat) : Int)))]) dX6_free_98 (by decide) rfl ?_
                  refine x_iload 102 rfl dX6_free_100 1 rfl ?_
                  refine x_if_eq 105 rfl (tgt := 130) dX6_free_102 (by decide) (by omega) (fun h102 => ?_) (fun h102 => ?_)
                  · skip
                    refine x_iinc 133 rfl (lv' := [(4, .int (zI ((k + 1 : Nat) : Int))), (7, .int (zI 0)), (6, .int (zI 0)), (5, .int (zI ((t : Nat) : Int))), (0, .ref wn), (1, .int (zI ((p : Nat) : Int))), (2, .int (zI year)), (3, .int (zI (frF b n p year k)))]) dX6_free_130 7 rfl (b := ((k + 1 : Nat) : Int)) (by omega) (by decide) rfl ?_
                    refine x_goto dX6_free_133 (tgt := 34) (by decide) ?_
                    refine x_lve (congrArg (fun zz : Int => ([(4, .int (zI ((k + 1 : Nat) : Int))), (7, .int (zI 0)), (6, .int (zI 0)), (5, .int (zI ((t : Nat) : Int))), (0, .ref wn), (1, .int (zI ((p : Nat) : Int))), (2, .int (zI year)), (3, .int (zI zz))] : List (Nat × Value))) (by show _ = frS b n p year k (frF b n p year k); unfold frS; rw [if_neg (fun hh => by first | omega | (have hq := hh.1.2; rw [htn, h124] at hq; cases hq))] : frF b n p year k = frF b n p year (k + 1))) ?_
                    refine x_lv [4, 5, 6, 7, 0] rfl ?_
                    exact ih34 (k + 1) e1 o1 l1 a1 (by omega) (by omega)
                  · skip
                    exact absurd h102 (by decide)
                · skip
                  refine x_iconst 94 rfl dX6_free_93 (z := 1) (by decide) ?_
                  refine x_goto dX6_free_94 (tgt := 98) (by decide) ?_
                  refine x_istore 100 rfl (lv' := [(7, .int (zI 1)), (6, .int (zI 0)), (5, .int (zI ((t : Nat) : Int))), (0, .ref wn), (1, .int (zI ((p : Nat) : Int))), (2, .int (zI year)), (3, .int (zI (frF b n p year k))), (4, .int (zI ((k : Nat) : Int)))]) dX6_free_98 (by decide) rfl ?_
                  refine x_iload 102 rfl dX6_free_100 1 rfl ?_
                  refine x_if_eq 105 rfl (tgt := 130) dX6_free_102 (by decide) (by omega) (fun h102 => ?_) (fun h102 => ?_)
                  · skip
                    refine x_iinc 133 rfl (lv' := [(4, .int (zI ((k + 1 : Nat) : Int))), (7, .int (zI 1)), (6, .int (zI 0)), (5, .int (zI ((t : Nat) : Int))), (0, .ref wn), (1, .int (zI ((p : Nat) : Int))), (2, .int (zI year)), (3, .int (zI (frF b n p year k)))]) dX6_free_130 7 rfl (b := ((k + 1 : Nat) : Int)) (by omega) (by decide) rfl ?_
                    refine x_goto dX6_free_133 (tgt := 34) (by decide) ?_
                    refine x_lve (congrArg (fun zz : Int => ([(4, .int (zI ((k + 1 : Nat) : Int))), (7, .int (zI 1)), (6, .int (zI 0)), (5, .int (zI ((t : Nat) : Int))), (0, .ref wn), (1, .int (zI ((p : Nat) : Int))), (2, .int (zI year)), (3, .int (zI zz))] : List (Nat × Value))) (by show _ = frS b n p year k (frF b n p year k); unfold frS; rw [if_neg (fun hh => by first | omega | (have hq := hh.1.2; rw [htn, h124] at hq; cases hq))] : frF b n p year k = frF b n p year (k + 1))) ?_
                    refine x_lv [4, 5, 6, 7, 0] rfl ?_
                    exact ih34 (k + 1) e1 o1 l1 a1 (by omega) (by omega)
                  · skip
                    exact absurd h102 (by decide)
              · skip
                refine x_iconst 70 rfl dX6_free_69 (z := 1) (by decide) ?_
                refine x_goto dX6_free_70 (tgt := 74) (by decide) ?_
                refine x_istore 76 rfl (lv' := [(6, .int (zI 1)), (5, .int (zI ((t : Nat) : Int))), (0, .ref wn), (1, .int (zI ((p : Nat) : Int))), (2, .int (zI year)), (3, .int (zI (frF b n p year k))), (4, .int (zI ((k : Nat) : Int)))]) dX6_free_74 (by decide) rfl ?_
                refine x_iload_n 77 rfl dX6_free_76 4 rfl ?_
                refine x_aload_n 78 rfl dX6_free_77 2 rfl ?_
                refine x_get 81 rfl (v := .ref go) 0 0 rfl rfl (by decide) inX6_free_X6 flX6_free_10 rfl dX6_free_78 ?_
                refine x_get 84 rfl (v := .ref (ga 6)) 4 9 rfl rfl (by decide) inX6_free_X0 flX6_free_187 rfl dX6_free_81 ?_
                refine x_iload 86 rfl dX6_free_84 6 rfl ?_
                refine x_iald 87 rfl 11 k rfl (⟨by omega, by omega⟩) (by decide) (v := b (46 + 2 * k + 1)) ((R.2.2.1 k (by omega)).2) dX6_free_86 ?_
                refine x_bipush 89 rfl dX6_free_87 (z := 9) (by decide) ?_
                refine x_iadd 90 rfl dX6_free_89 (z := (b (46 + 2 * k + 1)) + 9) (rfl) ?_
                refine x_icmp_lt 93 rfl (tgt := 97) dX6_free_90 (by decide) (by omega) (by omega) (fun h90 => ?_) (fun h90 => ?_)
                · skip
                  refine x_iconst 98 rfl dX6_free_97 (z := 0) (by decide) ?_
                  refine x_istore 100 rfl (lv' := [(7, .int (zI 0)), (6, .int (zI 1)), (5, .int (zI ((t : Nat) : Int))), (0, .ref wn), (1, .int (zI ((p : Nat) : Int))), (2, .int (zI year)), (3, .int (zI (frF b n p year k))), (4, .int (zI ((k : Nat) : Int)))]) dX6_free_98 (by decide) rfl ?_
                  refine x_iload 102 rfl dX6_free_100 1 rfl ?_
                  refine x_if_eq 105 rfl (tgt := 130) dX6_free_102 (by decide) (by omega) (fun h102 => ?_) (fun h102 => ?_)
                  · skip
                    exact absurd h102 (by decide)
                  · skip
                    refine x_iload 107 rfl dX6_free_105 0 rfl ?_
                    refine x_if_eq 110 rfl (tgt := 130) dX6_free_107 (by decide) (by omega) (fun h107 => ?_) (fun h107 => ?_)
                    · skip
                      refine x_iinc 133 rfl (lv' := [(4, .int (zI ((k + 1 : Nat) : Int))), (7, .int (zI 0)), (6, .int (zI 1)), (5, .int (zI ((t : Nat) : Int))), (0, .ref wn), (1, .int (zI ((p : Nat) : Int))), (2, .int (zI year)), (3, .int (zI (frF b n p year k)))]) dX6_free_130 7 rfl (b := ((k + 1 : Nat) : Int)) (by omega) (by decide) rfl ?_
                      refine x_goto dX6_free_133 (tgt := 34) (by decide) ?_
                      refine x_lve (congrArg (fun zz : Int => ([(4, .int (zI ((k + 1 : Nat) : Int))), (7, .int (zI 0)), (6, .int (zI 1)), (5, .int (zI ((t : Nat) : Int))), (0, .ref wn), (1, .int (zI ((p : Nat) : Int))), (2, .int (zI year)), (3, .int (zI zz))] : List (Nat × Value))) (by show _ = frS b n p year k (frF b n p year k); unfold frS; rw [if_neg (fun hh => by first | omega | (have hq := hh.1.2; rw [htn, h124] at hq; cases hq))] : frF b n p year k = frF b n p year (k + 1))) ?_
                      refine x_lv [4, 5, 6, 7, 0] rfl ?_
                      exact ih34 (k + 1) e1 o1 l1 a1 (by omega) (by omega)
                    · skip
                      exact absurd h107 (by decide)
                · skip
                  refine x_iconst 94 rfl dX6_free_93 (z := 1) (by decide) ?_
                  refine x_goto dX6_free_94 (tgt := 98) (by decide) ?_
                  refine x_istore 100 rfl (lv' := [(7, .int (zI 1)), (6, .int (zI 1)), (5, .int (zI ((t : Nat) : Int))), (0, .ref wn), (1, .int (zI ((p : Nat) : Int))), (2, .int (zI year)), (3, .int (zI (frF b n p year k))), (4, .int (zI ((k : Nat) : Int)))]) dX6_free_98 (by decide) rfl ?_
                  refine x_iload 102 rfl dX6_free_100 1 rfl ?_
                  refine x_if_eq 105 rfl (tgt := 130) dX6_free_102 (by decide) (by omega) (fun h102 => ?_) (fun h102 => ?_)
                  · skip
                    exact absurd h102 (by decide)
                  · skip
                    refine x_iload 107 rfl dX6_free_105 0 rfl ?_
                    refine x_if_eq 110 rfl (tgt := 130) dX6_free_107 (by decide) (by omega) (fun h107 => ?_) (fun h107 => ?_)
                    · skip
                      exact absurd h107 (by decide)
                    · skip
                      refine x_aload_n 111 rfl dX6_free_110 3 rfl ?_
                      refine x_get 114 rfl (v := .ref wh) 0 5 rfl rfl (by decide) inX6_free_X6 flX6_free_37 rfl dX6_free_111 ?_
                      refine x_aload_n 115 rfl dX6_free_114 3 rfl ?_
                      refine x_get 118 rfl (v := .ref go) 0 0 rfl rfl (by decide) inX6_free_X6 flX6_free_10 rfl dX6_free_115 ?_
                      refine x_iload_n 119 rfl dX6_free_118 4 rfl ?_
                      refine x_iload 121 rfl dX6_free_119 2 rfl ?_
                      refine x_callV 124 rfl (c_X5_standsAlone G go ga b n d c gf I R wh wa fo le e1 o1 l1 a1 p t (by omega) (htv)) [2, 3, 4, 5, 6, 7, 8, 9, 10, 11, 12] rfl (by decide) 2 rfl rfl gX6_free_X5_standsAlone rfl rfl rfl hd_X5_standsAlone ⟨Nat.le_of_ble_eq_true rfl, Nat.le_of_ble_eq_true rfl⟩ (As := [.ref go, .int (zI ((p : Nat) : Int)), .int (zI ((t : Nat) : Int))]) (rest := []) rfl rfl (Nat.le_of_ble_eq_true rfl) dX6_free_121 ⟨Nat.zero_le _, Nat.zero_le _⟩ (fun v w hq => ?_)
                      obtain ⟨ez_2, oz_2, lz_2, az_2, rfl, rfl⟩ := hq
                      refine ⟨rfl, ?_⟩
                      refine x_wp (ws' := [(wn, .inr (5, [.ref go, .ref sp, .ref ia, .ref ka, .ref tq, .ref wh, .ref nm, .ref ra])), (ra, aI G 3 rf), (wh, whE wa fo le), (wa 1, .inr (1, [.int (zI ez_2), .int (zI oz_2), .int (zI lz_2), .int (zB az_2)])), (go, goE ga ((n : Nat) : Int) ((d : Nat) : Int) ((c : Nat) : Int)), (ga 0, aI G 36 (gf 0)), (ga 1, aI G 7 (gf 1)), (ga 2, aI G 7 (gf 2)), (ga 3, aI G 7 (gf 3)), (ga 4, aI G 7 (gf 4)), (ga 5, aI G 6 (gf 5)), (ga 6, aI G 6 (gf 6)), (ga 7, aI G 8 (gf 7))]) rfl ?_
                      refine x_bif_eq 127 rfl (tgt := 130) dX6_free_124 (by decide) (fun h124 => ?_) (fun h124 => ?_)
                      · skip
                        refine x_iinc 133 rfl (lv' := [(4, .int (zI ((k + 1 : Nat) : Int))), (7, .int (zI 1)), (6, .int (zI 1)), (5, .int (zI ((t : Nat) : Int))), (0, .ref wn), (1, .int (zI ((p : Nat) : Int))), (2, .int (zI year)), (3, .int (zI (frF b n p year k)))]) dX6_free_130 7 rfl (b := ((k + 1 : Nat) : Int)) (by omega) (by decide) rfl ?_
                        refine x_goto dX6_free_133 (tgt := 34) (by decide) ?_
                        refine x_lve (congrArg (fun zz : Int => ([(4, .int (zI ((k + 1 : Nat) : Int))), (7, .int (zI 1)), (6, .int (zI 1)), (5, .int (zI ((t : Nat) : Int))), (0, .ref wn), (1, .int (zI ((p : Nat) : Int))), (2, .int (zI year)), (3, .int (zI zz))] : List (Nat × Value))) (by show _ = frS b n p year k (frF b n p year k); unfold frS; rw [if_neg (fun hh => by first | omega | (have hq := hh.1.2; rw [htn, h124] at hq; cases hq))] : frF b n p year k = frF b n p year (k + 1))) ?_
                        refine x_lv [4, 5, 6, 7, 0] rfl ?_
                        exact ih34 (k + 1) ez_2 oz_2 lz_2 az_2 (by omega) (by omega)
                      · skip
                        refine x_iload 129 rfl dX6_free_127 2 rfl ?_
                        refine x_istore_n 130 rfl (lv' := [(3, .int (zI ((t : Nat) : Int))), (7, .int (zI 1)), (6, .int (zI 1)), (5, .int (zI ((t : Nat) : Int))), (0, .ref wn), (1, .int (zI ((p : Nat) : Int))), (2, .int (zI year)), (4, .int (zI ((k : Nat) : Int)))]) dX6_free_129 (by decide) rfl ?_
                        refine x_iinc 133 rfl (lv' := [(4, .int (zI ((k + 1 : Nat) : Int))), (3, .int (zI ((t : Nat) : Int))), (7, .int (zI 1)), (6, .int (zI 1)), (5, .int (zI ((t : Nat) : Int))), (0, .ref wn), (1, .int (zI ((p : Nat) : Int))), (2, .int (zI year))]) dX6_free_130 7 rfl (b := ((k + 1 : Nat) : Int)) (by omega) (by decide) rfl ?_
                        refine x_goto dX6_free_133 (tgt := 34) (by decide) ?_
                        refine x_lve (congrArg (fun zz : Int => ([(4, .int (zI ((k + 1 : Nat) : Int))), (3, .int (zI zz)), (7, .int (zI 1)), (6, .int (zI 1)), (5, .int (zI ((t : Nat) : Int))), (0, .ref wn), (1, .int (zI ((p : Nat) : Int))), (2, .int (zI year))] : List (Nat × Value))) (by show _ = frS b n p year k (frF b n p year k); unfold frS; rw [if_pos ⟨⟨by omega, by rw [htn]; exact h124⟩, by omega⟩]; omega : ((t : Nat) : Int) = frF b n p year (k + 1))) ?_
                        refine x_lv [5, 6, 7, 1, 0] rfl ?_
                        exact ih34 (k + 1) ez_2 oz_2 lz_2 az_2 (by omega) (by omega)
      refine x_lve (congrArg (fun zz : Int => ([(4, .int (zI 0)), (3, .int (zI zz)), (0, .ref wn), (1, .int (zI ((p : Nat) : Int))), (2, .int (zI year))] : List (Nat × Value))) (rfl : (-1) = frF b n p year 0)) ?_
      refine x_lv [2, 3, 4, 1, 0] rfl ?_
      exact L34 _ 0 e0 o0 l0 a0 (by omega) (Nat.lt_succ_self _)
    · have h17 := of_decide_eq_false h17
      refine x_aload_n 21 rfl dX6_free_20 0 rfl ?_
      refine x_bipush 23 rfl dX6_free_21 (z := (-2)) (by decide) ?_
      refine x_bipush 25 rfl dX6_free_23 (z := (-2)) (by decide) ?_
      refine x_callV 28 rfl (c_X6_refuse G wn go sp ia ka tq wh nm ra rf 1 (-2) (-2) (by decide) (by decide) (by decide)) [0, 1] rfl (by decide) 0 rfl rfl gX6_free_X6_refuse rfl rfl rfl hd_X6_refuse ⟨Nat.le_of_ble_eq_true rfl, Nat.le_of_ble_eq_true rfl⟩ (As := [.int (zI (-2)), .int (zI (-2))]) (rest := []) rfl rfl (Nat.le_of_ble_eq_true rfl) dX6_free_25 ⟨Nat.zero_le _, Nat.zero_le _⟩ (fun v w hq => ?_)
      obtain ⟨rfl, rfl⟩ := hq
      refine ⟨rfl, ?_⟩
      refine x_wp (ws' := [(wn, .inr (5, [.ref go, .ref sp, .ref ia, .ref ka, .ref tq, .ref wh, .ref nm, .ref ra])), (ra, aI G 3 (rfC false rf 1)), (wh, whE wa fo le), (wa 1, .inr (1, [.int (zI e0), .int (zI o0), .int (zI l0), .int (zB a0)])), (go, goE ga ((n : Nat) : Int) ((d : Nat) : Int) ((c : Nat) : Int)), (ga 0, aI G 36 (gf 0)), (ga 1, aI G 7 (gf 1)), (ga 2, aI G 7 (gf 2)), (ga 3, aI G 7 (gf 3)), (ga 4, aI G 7 (gf 4)), (ga 5, aI G 6 (gf 5)), (ga 6, aI G 6 (gf 6)), (ga 7, aI G 8 (gf 7))]) rfl ?_
      refine x_iret rfl ?_ dX6_free_28
      have hk : kF n p year = 1 := by unfold kF; exact if_neg (fun hh => by first | omega | (simp [*] at hh; done) | (obtain ⟨ha, hb, hc, hd⟩ := hh; first | omega | simp_all) | (obtain ⟨ha, hb, hc⟩ := hh; first | omega | simp_all) | (obtain ⟨ha, hb⟩ := hh; first | omega | simp_all))
      exact ⟨_, _, _, _, by rw [hk] <;> rfl, by rw [hk] <;> rfl⟩

abbrev P_X6_status (G : XG) (wn : Nat) (go : Nat) (sp : Nat) (ia : Nat) (ka : Nat) (tq : Nat) (wh : Nat) (nm : Nat) (ra : Nat) (rf : Nat → Int) (what : Int) : Option Value → va_W → Prop := fun r ws => r = some (.int (zI (if kS what = 0 then rf what.toNat else -1))) ∧ ws = [(wn, .inr (5, [.ref go, .ref sp, .ref ia, .ref ka, .ref tq, .ref wh, .ref nm, .ref ra])), (ra, aI G 3 (rfC false rf (kS what)))]
abbrev W_X6_status (G : XG) (E : XE) (wn : Nat) (go : Nat) (sp : Nat) (ia : Nat) (ka : Nat) (tq : Nat) (wh : Nat) (nm : Nat) (ra : Nat) (rf : Nat → Int) (what : Int) (pc : Nat) (lv : List (Nat × Value)) (st : List Value) (ws : va_W) : Prop := Wx G E (rmL 1) cX6_status 2 RX6 wsX6_status (some .int) "status" 0 0 (P_X6_status G wn go sp ia ka tq wh nm ra rf what) 0 0 pc lv st ws
theorem flX6_status_48 : Cond.fieldLink RX6 48 (TX6 7).1 (TX6 7).2.1 (TX6 7).2.2.1 ∈ wsX6_status := by decide +kernel
theorem inX6_status_X6 : ∀ w ∈ u_ws RX6 TX6 8, w ∈ wsX6_status := fun _ h => List.mem_cons_of_mem _ (List.mem_append_right _ h)
set_option maxHeartbeats 4000000 in
set_option maxRecDepth 100000 in
/-- status -/
theorem c_X6_status (G : XG) (wn go sp ia ka tq wh nm ra : Nat) (rf : Nat → Int) (what : Int) (h1 : Z32 what) : Con G yX6_status wsX6_status (rmL 1) 0 0 [.ref wn, .int (zI what)] ([(wn, .inr (5, [.ref go, .ref sp, .ref ia, .ref ka, .ref tq, .ref wh, .ref nm, .ref ra])), (ra, aI G 3 rf)]) (P_X6_status G wn go sp ia ka tq wh nm ra rf what) := by
  refine x_start (cc := cX6_status) (nL := 2) (ret := (some .int)) (by decide) rfl (Nat.le_of_ble_eq_true rfl) (fun E => ?_)
  show W_X6_status G E wn go sp ia ka tq wh nm ra rf what 0 [(0, .ref wn), (1, .int (zI what))] [] ([(wn, .inr (5, [.ref go, .ref sp, .ref ia, .ref ka, .ref tq, .ref wh, .ref nm, .ref ra])), (ra, aI G 3 rf)])
  refine x_iload_n 1 rfl dX6_status_0 1 rfl ?_
  refine x_aload_n 2 rfl dX6_status_1 0 rfl ?_
  refine x_get 5 rfl (v := .ref ra) 0 7 rfl rfl (by decide) inX6_status_X6 flX6_status_48 rfl dX6_status_2 ?_
  refine x_alenI 6 rfl 1 rfl dX6_status_5 ?_
  refine x_callS0 9 rfl (c_X6_isBelow G what ((3 : Nat) : Int) (by omega) (by omega)) (fun _ _ h => h.2) gX6_status_X6_isBelow rfl rfl rfl hd_X6_isBelow ⟨Nat.le_of_ble_eq_true rfl, Nat.le_of_ble_eq_true rfl⟩ (As := [.int (zI what), .int (zI ((3 : Nat) : Int))]) (rest := []) rfl rfl (Nat.le_of_ble_eq_true rfl) dX6_status_6 ⟨Nat.zero_le _, Nat.zero_le _⟩ (fun v hq => ?_)
  obtain ⟨rfl, -⟩ := hq
  refine x_bif_ne 12 rfl (tgt := 20) dX6_status_9 (by decide) (fun h9 => ?_) (fun h9 => ?_)
  · have h9 := of_decide_eq_true h9
    obtain ⟨what, rfl⟩ : ∃ zk : Nat, what = (zk : Int) := ⟨Int.toNat what, by omega⟩
    refine x_aload_n 21 rfl dX6_status_20 0 rfl ?_
    refine x_get 24 rfl (v := .ref ra) 0 7 rfl rfl (by decide) inX6_status_X6 flX6_status_48 rfl dX6_status_21 ?_
    refine x_iload_n 25 rfl dX6_status_24 1 rfl ?_
    refine x_iald 26 rfl 1 what rfl (⟨by omega, by omega⟩) (by decide) (v := rf what) (rfl) dX6_status_25 ?_
    refine x_iret rfl ?_ dX6_status_26
    have hk : kS ((what : Nat) : Int) = 0 := by unfold kS; exact if_pos (by omega)
    exact ⟨by rw [hk] <;> rfl, by rw [hk] <;> rfl⟩
  · have h9 := of_decide_eq_false h9
    refine x_aload_n 13 rfl dX6_status_12 0 rfl ?_
    refine x_bipush 15 rfl dX6_status_13 (z := (-2)) (by decide) ?_
    refine x_iconst 16 rfl dX6_status_15 (z := (-1)) (by decide) ?_
    refine x_callV 19 rfl (c_X6_refuse G wn go sp ia ka tq wh nm ra rf 1 (-2) (-1) (by decide) (by decide) (by decide)) [0, 1] rfl (by decide) 0 rfl rfl gX6_status_X6_refuse rfl rfl rfl hd_X6_refuse ⟨Nat.le_of_ble_eq_true rfl, Nat.le_of_ble_eq_true rfl⟩ (As := [.int (zI (-2)), .int (zI (-1))]) (rest := []) rfl rfl (Nat.le_of_ble_eq_true rfl) dX6_status_16 ⟨Nat.zero_le _, Nat.zero_le _⟩ (fun v w hq => ?_)
    obtain ⟨rfl, rfl⟩ := hq
    refine ⟨rfl, ?_⟩
    refine x_wp (ws' := [(wn, .inr (5, [.ref go, .ref sp, .ref ia, .ref ka, .ref tq, .ref wh, .ref nm, .ref ra])), (ra, aI G 3 (rfC false rf 1))]) rfl ?_
    refine x_iret rfl ?_ dX6_status_19
    have hk : kS what = 1 := by unfold kS; exact if_neg (by omega)
    exact ⟨by rw [hk] <;> rfl, by rw [hk] <;> rfl⟩

