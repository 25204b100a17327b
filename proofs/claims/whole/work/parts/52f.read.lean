theorem ftI_le (tx : Nat → Int) {L a : Nat} (h : a ≤ L) : ftI tx L a ≤ L := by
  unfold ftI
  split
  · exact tokS_le tx h
  · exact tokS_le tx (posF_le tx h _)
abbrev P_X6_read (G : XG) (wn : Nat) (go : Nat) (sp : Nat) (ia : Nat) (ka : Nat) (tq : Nat) (wh : Nat) (nm : Nat) (ra : Nat) (ga : Nat → Nat) (ta : Nat → Nat) (n : Nat) (d : Nat) (c : Nat) (gf : Nat → Nat → Int) (sc : Nat → Int) (tx : Nat → Int) (nf : Nat → Int) (L : Nat) : Option Value → va_W → Prop := fun r ws => ∃ nw2 sp2 it1 n' d' c' : Nat, ∃ fr1 at1 st1 tk1 vl1 : Int, ∃ nf' : Nat → Int, ∃ gf' : Nat → Nat → Int, r = some (.int (zI (rdR tx L))) ∧ ws = [(wn, .inr (5, [.ref nw2, .ref sp2, .ref ia, .ref ka, .ref tq, .ref wh, .ref nm, .ref ra])), (tq, txE ta (zup (zup (zup (zup (zup (zup (zup sc 0 ((L : Nat) : Int)) 1 ((it1 : Nat) : Int)) 2 fr1) 3 at1) 4 st1) 5 tk1) 6 vl1)), (ta 0, aI G 200 tx), (ta 1, aI G 4 nf'), (sp, goE ga ((n' : Nat) : Int) ((d' : Nat) : Int) ((c' : Nat) : Int)), (ga 0, aI G 36 (gf' 0)), (ga 1, aI G 7 (gf' 1)), (ga 2, aI G 7 (gf' 2)), (ga 3, aI G 7 (gf' 3)), (ga 4, aI G 7 (gf' 4)), (ga 5, aI G 6 (gf' 5)), (ga 6, aI G 6 (gf' 6)), (ga 7, aI G 8 (gf' 7))] ∧ ((okR tx L = true ∧ toN tx L = mN tx L) → nw2 = sp ∧ sp2 = go ∧ Inv (tbF tx L (mN tx L)) n' d' c' ∧ GR (tbF tx L (mN tx L)) n' d' c' gf') ∧ (¬ (okR tx L = true ∧ toN tx L = mN tx L) → nw2 = go ∧ sp2 = sp)
abbrev W_X6_read (G : XG) (E : XE) (wn : Nat) (go : Nat) (sp : Nat) (ia : Nat) (ka : Nat) (tq : Nat) (wh : Nat) (nm : Nat) (ra : Nat) (ga : Nat → Nat) (ta : Nat → Nat) (n : Nat) (d : Nat) (c : Nat) (gf : Nat → Nat → Int) (sc : Nat → Int) (tx : Nat → Int) (nf : Nat → Int) (L : Nat) (pc : Nat) (lv : List (Nat × Value)) (st : List Value) (ws : va_W) : Prop := Wx G E (rmL 10) cX6_read 3 RX6 wsX6_read (some .int) "read" 0 0 (P_X6_read G wn go sp ia ka tq wh nm ra ga ta n d c gf sc tx nf L) 0 0 pc lv st ws
theorem flX6_read_10 : Cond.fieldLink RX6 10 (TX6 0).1 (TX6 0).2.1 (TX6 0).2.2.1 ∈ wsX6_read := by decide +kernel
theorem flX6_read_16 : Cond.fieldLink RX6 16 (TX6 1).1 (TX6 1).2.1 (TX6 1).2.2.1 ∈ wsX6_read := by decide +kernel
theorem flX6_read_30 : Cond.fieldLink RX6 30 (TX6 4).1 (TX6 4).2.1 (TX6 4).2.2.1 ∈ wsX6_read := by decide +kernel
theorem flX6_read_105 : Cond.fieldLink RX6 105 (TX3 2).1 (TX3 2).2.1 (TX3 2).2.2.1 ∈ wsX6_read := by decide +kernel
theorem flX6_read_108 : Cond.fieldLink RX6 108 (TX3 1).1 (TX3 1).2.1 (TX3 1).2.2.1 ∈ wsX6_read := by decide +kernel
theorem inX6_read_X3 : ∀ w ∈ u_ws RX3 TX3 9, w ∈ wsX6_read := fun _ h => List.mem_cons_of_mem _ (List.mem_append_left _ (List.mem_append_right _ h))
theorem inX6_read_X6 : ∀ w ∈ u_ws RX6 TX6 8, w ∈ wsX6_read := fun _ h => List.mem_cons_of_mem _ (List.mem_append_left _ (List.mem_append_left _ (List.mem_append_right _ h)))
set_option maxHeartbeats 4000000 in
set_option maxRecDepth 100000 in
/-- read -/
theorem c_X6_read (G : XG) (S : SG) (wn go sp ia ka tq wh nm ra : Nat) (ga ta : Nat → Nat) (n d c : Nat) (gf : Nat → Nat → Int) (sc tx nf : Nat → Int) (L : Nat) (hL : L ≤ 200) (ht : ∀ j, j < L → 0 ≤ tx j ∧ tx j ≤ 255)  : ConS G S yX6_read wsX6_read (rmL 10) 0 0 [.ref wn] ([(wn, .inr (5, [.ref go, .ref sp, .ref ia, .ref ka, .ref tq, .ref wh, .ref nm, .ref ra])), (tq, txE ta (zup sc 0 ((L : Nat) : Int))), (ta 0, aI G 200 tx), (ta 1, aI G 4 nf), (sp, goE ga ((n : Nat) : Int) ((d : Nat) : Int) ((c : Nat) : Int)), (ga 0, aI G 36 (gf 0)), (ga 1, aI G 7 (gf 1)), (ga 2, aI G 7 (gf 2)), (ga 3, aI G 7 (gf 3)), (ga 4, aI G 7 (gf 4)), (ga 5, aI G 6 (gf 5)), (ga 6, aI G 6 (gf 6)), (ga 7, aI G 8 (gf 7))]) (P_X6_read G wn go sp ia ka tq wh nm ra ga ta n d c gf sc tx nf L) := by
  refine x_startS (cc := cX6_read) (nL := 3) (ret := (some .int)) (by decide) rfl (Nat.le_of_ble_eq_true rfl) (fun E hs => ?_)
  show W_X6_read G E wn go sp ia ka tq wh nm ra ga ta n d c gf sc tx nf L 0 [(0, .ref wn)] [] ([(wn, .inr (5, [.ref go, .ref sp, .ref ia, .ref ka, .ref tq, .ref wh, .ref nm, .ref ra])), (tq, txE ta (zup sc 0 ((L : Nat) : Int))), (ta 0, aI G 200 tx), (ta 1, aI G 4 nf), (sp, goE ga ((n : Nat) : Int) ((d : Nat) : Int) ((c : Nat) : Int)), (ga 0, aI G 36 (gf 0)), (ga 1, aI G 7 (gf 1)), (ga 2, aI G 7 (gf 2)), (ga 3, aI G 7 (gf 3)), (ga 4, aI G 7 (gf 4)), (ga 5, aI G 6 (gf 5)), (ga 6, aI G 6 (gf 6)), (ga 7, aI G 8 (gf 7))])
  refine x_aload_n 1 rfl dX6_read_0 0 rfl ?_
  refine x_get 4 rfl (v := .ref tq) 0 4 rfl rfl (by decide) inX6_read_X6 flX6_read_30 rfl dX6_read_1 ?_
  refine x_aload_n 5 rfl dX6_read_4 0 rfl ?_
  refine x_get 8 rfl (v := .ref sp) 0 1 rfl rfl (by decide) inX6_read_X6 flX6_read_16 rfl dX6_read_5 ?_
  refine x_callVS 11 rfl hs (c_X3_tellInto G S sp ga n d c gf tq ta (zup sc 0 ((L : Nat) : Int)) tx nf L hL ht) [1, 2, 3, 4, 5, 6, 7, 8, 9, 10, 11, 12] rfl (by decide) 1 rfl rfl gX6_read_X3_tellInto rfl rfl rfl hd_X3_tellInto ⟨Nat.le_of_ble_eq_true rfl, Nat.le_of_ble_eq_true rfl⟩ (As := [.ref sp]) (rest := []) rfl rfl (Nat.le_of_ble_eq_true rfl) dX6_read_8 ⟨Nat.zero_le _, Nat.zero_le _⟩ (fun v w hq => ?_)
  obtain ⟨at1, st1, tk1, vl1, fr, kk, n', d', nf', gf', rfl, rfl, hfr, Ik, Rk⟩ := hq
  refine ⟨rfl, ?_⟩
  refine x_wp (ws' := [(wn, .inr (5, [.ref go, .ref sp, .ref ia, .ref ka, .ref tq, .ref wh, .ref nm, .ref ra])), (tq, txE ta (zup (zup (zup (zup (zup (zup (zup sc 0 ((L : Nat) : Int)) 1 ((mN tx L : Nat) : Int)) 2 fr) 3 at1) 4 st1) 5 tk1) 6 vl1)), (ta 0, aI G 200 tx), (ta 1, aI G 4 nf'), (sp, goE ga ((n' : Nat) : Int) ((d' : Nat) : Int) ((0 : Nat) : Int)), (ga 0, aI G 36 (gf' 0)), (ga 1, aI G 7 (gf' 1)), (ga 2, aI G 7 (gf' 2)), (ga 3, aI G 7 (gf' 3)), (ga 4, aI G 7 (gf' 4)), (ga 5, aI G 6 (gf' 5)), (ga 6, aI G 6 (gf' 6)), (ga 7, aI G 8 (gf' 7))]) rfl ?_
  have hm40 := mN_le (tx := tx) hL
  have hto : toN tx L ≤ mN tx L := by unfold toN; have := lsN_le (fun k => decide (teK (tbF tx L k) (itV tx L k) = 0)) (mN tx L) 0; omega
  have hft : ((ftI tx L (aF tx L (mN tx L)) : Nat) : Int) ≤ 1000 := by have := ftI_le tx (aF_le tx L (mN tx L)); omega
  refine x_istore_n 12 rfl (lv' := [(1, .int (zI (if okR tx L = true then -1 else ((ftI tx L (aF tx L (mN tx L)) : Nat) : Int)))), (0, .ref wn)]) dX6_read_11 (by decide) rfl ?_
  refine x_iload_n 13 rfl dX6_read_12 0 rfl ?_
  refine x_iconst 14 rfl dX6_read_13 (z := (-1)) (by decide) ?_
  refine x_icmp_eq 17 rfl (tgt := 22) dX6_read_14 (by decide) (by split <;> omega) (by decide) (fun h14 => ?_) (fun h14 => ?_)
  · skip
    have hok : okR tx L = true := by cases hq : okR tx L with | true => rfl | false => (rw [hq, if_neg (by decide)] at h14; omega)
    have hfk := hfr hok
    have hfz : -1 ≤ fr ∧ fr ≤ 1000 := by by_cases q : toN tx L = mN tx L; (have := hfk.2.1 q; omega); (have := hfk.2.2 q; omega)
    refine x_aload_n 23 rfl dX6_read_22 1 rfl ?_
    refine x_get 26 rfl (v := .ref tq) 0 4 rfl rfl (by decide) inX6_read_X6 flX6_read_30 rfl dX6_read_23 ?_
    refine x_get 29 rfl (v := .int (zI fr)) 1 2 rfl rfl (by decide) inX6_read_X3 flX6_read_105 rfl dX6_read_26 ?_
    refine x_iconst 30 rfl dX6_read_29 (z := (-1)) (by decide) ?_
    refine x_icmp_eq 33 rfl (tgt := 45) dX6_read_30 (by decide) (by omega) (by decide) (fun h30 => ?_) (fun h30 => ?_)
    · skip
      have heq : toN tx L = mN tx L := by by_cases q : toN tx L = mN tx L; exact q; (have := hfk.2.2 q; omega)
      refine x_aload_n 46 rfl dX6_read_45 1 rfl ?_
      refine x_get 49 rfl (v := .ref go) 0 0 rfl rfl (by decide) inX6_read_X6 flX6_read_10 rfl dX6_read_46 ?_
      refine x_astore_n 50 rfl (lv' := [(2, .ref go), (1, .int (zI (if okR tx L = true then -1 else ((ftI tx L (aF tx L (mN tx L)) : Nat) : Int)))), (0, .ref wn)]) dX6_read_49 (by decide) rfl ?_
      refine x_aload_n 51 rfl dX6_read_50 2 rfl ?_
      refine x_aload_n 52 rfl dX6_read_51 2 rfl ?_
      refine x_get 55 rfl (v := .ref sp) 0 1 rfl rfl (by decide) inX6_read_X6 flX6_read_16 rfl dX6_read_52 ?_
      refine x_put 58 rfl 0 0 rfl rfl (by decide) inX6_read_X6 flX6_read_10 tyX6_ok nmX6 rfl rfl rfl rfl (Nat.le_of_ble_eq_true rfl) (ws' := [(wn, .inr (5, [.ref sp, .ref sp, .ref ia, .ref ka, .ref tq, .ref wh, .ref nm, .ref ra])), (tq, txE ta (zup (zup (zup (zup (zup (zup (zup sc 0 ((L : Nat) : Int)) 1 ((mN tx L : Nat) : Int)) 2 fr) 3 at1) 4 st1) 5 tk1) 6 vl1)), (ta 0, aI G 200 tx), (ta 1, aI G 4 nf'), (sp, goE ga ((n' : Nat) : Int) ((d' : Nat) : Int) ((0 : Nat) : Int)), (ga 0, aI G 36 (gf' 0)), (ga 1, aI G 7 (gf' 1)), (ga 2, aI G 7 (gf' 2)), (ga 3, aI G 7 (gf' 3)), (ga 4, aI G 7 (gf' 4)), (ga 5, aI G 6 (gf' 5)), (ga 6, aI G 6 (gf' 6)), (ga 7, aI G 8 (gf' 7))]) rfl dX6_read_55 ?_
      refine x_aload_n 59 rfl dX6_read_58 2 rfl ?_
      refine x_aload_n 60 rfl dX6_read_59 0 rfl ?_
      refine x_put 63 rfl 0 1 rfl rfl (by decide) inX6_read_X6 flX6_read_16 tyX6_ok nmX6 rfl rfl rfl rfl (Nat.le_of_ble_eq_true rfl) (ws' := [(wn, .inr (5, [.ref sp, .ref go, .ref ia, .ref ka, .ref tq, .ref wh, .ref nm, .ref ra])), (tq, txE ta (zup (zup (zup (zup (zup (zup (zup sc 0 ((L : Nat) : Int)) 1 ((mN tx L : Nat) : Int)) 2 fr) 3 at1) 4 st1) 5 tk1) 6 vl1)), (ta 0, aI G 200 tx), (ta 1, aI G 4 nf'), (sp, goE ga ((n' : Nat) : Int) ((d' : Nat) : Int) ((0 : Nat) : Int)), (ga 0, aI G 36 (gf' 0)), (ga 1, aI G 7 (gf' 1)), (ga 2, aI G 7 (gf' 2)), (ga 3, aI G 7 (gf' 3)), (ga 4, aI G 7 (gf' 4)), (ga 5, aI G 6 (gf' 5)), (ga 6, aI G 6 (gf' 6)), (ga 7, aI G 8 (gf' 7))]) rfl dX6_read_60 ?_
      refine x_aload_n 64 rfl dX6_read_63 2 rfl ?_
      refine x_get 67 rfl (v := .ref tq) 0 4 rfl rfl (by decide) inX6_read_X6 flX6_read_30 rfl dX6_read_64 ?_
      refine x_get 70 rfl (v := .int (zI ((mN tx L : Nat) : Int))) 1 1 rfl rfl (by decide) inX6_read_X3 flX6_read_108 rfl dX6_read_67 ?_
      refine x_iret rfl ?_ dX6_read_70
      have e : rdR tx L = ((mN tx L : Nat) : Int) := by unfold rdR; rw [if_pos hok, if_pos heq]
      have ek : kk = mN tx L := by omega
      rw [ek] at Ik Rk
      exact ⟨sp, go, mN tx L, n', d', 0, fr, at1, st1, tk1, vl1, nf', gf', by rw [e], rfl, (fun _ => ⟨rfl, rfl, Ik, Rk⟩), (fun h => absurd ⟨hok, heq⟩ h)⟩
    · skip
      have hne : toN tx L ≠ mN tx L := fun q => h30 (hfk.2.1 q)
      refine x_sipush 36 rfl dX6_read_33 (z := (-1000)) (by decide) ?_
      refine x_aload_n 37 rfl dX6_read_36 1 rfl ?_
      refine x_get 40 rfl (v := .ref tq) 0 4 rfl rfl (by decide) inX6_read_X6 flX6_read_30 rfl dX6_read_37 ?_
      refine x_get 43 rfl (v := .int (zI fr)) 1 2 rfl rfl (by decide) inX6_read_X3 flX6_read_105 rfl dX6_read_40 ?_
      refine x_isub 44 rfl dX6_read_43 (z := (-1000) - fr) (rfl) ?_
      refine x_iret rfl ?_ dX6_read_44
      have e : rdR tx L = -1000 - fr := by unfold rdR; rw [if_pos hok, if_neg hne, hfk.2.2 hne]
      exact ⟨go, sp, mN tx L, n', d', 0, fr, at1, st1, tk1, vl1, nf', gf', by rw [e], rfl, (fun h => absurd h.2 hne), (fun _ => ⟨rfl, rfl⟩)⟩
  · skip
    have hok : okR tx L = false := by cases hq : okR tx L with | false => rfl | true => (rw [hq, if_pos rfl] at h14; exact absurd rfl h14)
    refine x_bipush 19 rfl dX6_read_17 (z := (-10)) (by decide) ?_
    refine x_iload_n 20 rfl dX6_read_19 0 rfl ?_
    refine x_isub 21 rfl dX6_read_20 (z := (-10) - (if okR tx L = true then -1 else ((ftI tx L (aF tx L (mN tx L)) : Nat) : Int))) (rfl) ?_
    refine x_iret rfl ?_ dX6_read_21
    have e : rdR tx L = -10 - (if okR tx L = true then -1 else ((ftI tx L (aF tx L (mN tx L)) : Nat) : Int)) := by unfold rdR; rw [if_neg (by rw [hok]; decide), if_neg (by rw [hok]; decide)]
    exact ⟨go, sp, mN tx L, n', d', 0, fr, at1, st1, tk1, vl1, nf', gf', by rw [e], rfl, (fun h => by rw [hok] at h; cases h.1), (fun _ => ⟨rfl, rfl⟩)⟩

