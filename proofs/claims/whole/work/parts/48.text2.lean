abbrev P_X3_add (G : XG) (tq : Nat) (ta : Nat → Nat) (sc : Nat → Int) (tx : Nat → Int) (L : Nat) (v : Int64) (n : Nat) : Option Value → va_W → Prop := fun r ws => ∃ tx' : Nat → Int, r = some (.int (zI (if 200 < L + n then -4 else (L : Int) + n))) ∧ ws = [(tq, txE ta (zup sc 0 (if 200 < L + n then (L : Int) else (L : Int) + n))), (ta 0, aI G 200 tx')] ∧ (∀ j, j < 200 → tx' j = (if 200 < L + n then tx else tyT tx L v n) j)
abbrev W_X3_add (G : XG) (E : XE) (tq : Nat) (ta : Nat → Nat) (sc : Nat → Int) (tx : Nat → Int) (L : Nat) (v : Int64) (n : Nat) (pc : Nat) (lv : List (Nat × Value)) (st : List Value) (ws : va_W) : Prop := Wx G E (rmL 0) cX3_add 5 RX3 wsX3_add (some .int) "add" 0 0 (P_X3_add G tq ta sc tx L v n) 0 0 pc lv st ws
theorem flX3_add_9 : Cond.fieldLink RX3 9 (TX3 3).1 (TX3 3).2.1 (TX3 3).2.2.1 ∈ wsX3_add := by decide +kernel
theorem flX3_add_18 : Cond.fieldLink RX3 18 (TX3 0).1 (TX3 0).2.1 (TX3 0).2.2.1 ∈ wsX3_add := by decide +kernel
theorem inX3_add_X3 : ∀ w ∈ u_ws RX3 TX3 9, w ∈ wsX3_add := fun _ h => List.mem_cons_of_mem _ (List.mem_append_right _ h)
set_option maxHeartbeats 4000000 in
set_option maxRecDepth 100000 in
/-- add -/
theorem c_X3_add (G : XG) (tq : Nat) (ta : Nat → Nat) (sc : Nat → Int) (tx : Nat → Int) (L : Nat) (v : Int64) (n : Nat) (hL2 : L ≤ 200) (h1 : 1 ≤ n ∧ n ≤ 8) : Con G yX3_add wsX3_add (rmL 0) 0 0 [.ref tq, .long v, .int (zI ((n : Nat) : Int))] ([(tq, txE ta (zup sc 0 ((L : Nat) : Int))), (ta 0, aI G 200 tx)]) (P_X3_add G tq ta sc tx L v n) := by
  refine x_start (cc := cX3_add) (nL := 5) (ret := (some .int)) (by decide) rfl (Nat.le_of_ble_eq_true rfl) (fun E => ?_)
  show W_X3_add G E tq ta sc tx L v n 0 [(0, .ref tq), (1, .long v), (3, .int (zI ((n : Nat) : Int)))] [] ([(tq, txE ta (zup sc 0 ((L : Nat) : Int))), (ta 0, aI G 200 tx)])
  refine x_aload_n 1 rfl dX3_add_0 0 rfl ?_
  refine x_get 4 rfl (v := .int (zI ((L : Nat) : Int))) 0 0 rfl rfl (by decide) inX3_add_X3 flX3_add_18 rfl dX3_add_1 ?_
  refine x_iload_n 5 rfl dX3_add_4 2 rfl ?_
  refine x_iadd 6 rfl dX3_add_5 (z := ((L + n : Nat) : Int)) (by omega) ?_
  refine x_sipush 9 rfl dX3_add_6 (z := 200) (by decide) ?_
  refine x_icmp_le 12 rfl (tgt := 15) dX3_add_9 (by decide) (by omega) (by decide) (fun h9 => ?_) (fun h9 => ?_)
  · skip
    refine x_ws (ws' := [(tq, txE ta (zup sc 0 ((L + (n - n) : Nat) : Int))), (ta 0, aI G 200 tx)]) (by rw [Nat.sub_self, Nat.add_zero]) ?_
    refine x_iload_n 16 rfl dX3_add_15 2 rfl ?_
    refine x_iconst 17 rfl dX3_add_16 (z := 1) (by decide) ?_
    refine x_isub 18 rfl dX3_add_17 (z := ((n : Nat) : Int) - 1) (rfl) ?_
    refine x_istore 20 rfl (lv' := [(4, .int (zI (((n : Nat) : Int) - 1))), (0, .ref tq), (1, .long v), (3, .int (zI ((n : Nat) : Int)))]) dX3_add_18 (by decide) rfl ?_
    have L20 : ∀ (f20 : Nat) (k : Nat) (f : Nat → Int) (hk : k ≤ n) (hf : ∀ j, j < 200 → f j = if L ≤ j ∧ j < L + (n - k) then byI v (n - 1 - (j - L)) else tx j), k < f20 → W_X3_add G E tq ta sc tx L v n 20 [(0, .ref tq), (1, .long v), (3, .int (zI ((n : Nat) : Int))), (4, .int (zI (((k : Nat) : Int) - 1)))] [] ([(tq, txE ta (zup sc 0 ((L + (n - k) : Nat) : Int))), (ta 0, aI G 200 f)]) := by
      intro f20
      induction f20 with
      | zero => intro k f hk hf hf20; exact absurd hf20 (Nat.not_lt_zero _)
      | succ f20 ih20 =>
        intro k f hk hf hf20
        refine x_iload 22 rfl dX3_add_20 3 rfl ?_
        refine x_if_lt 25 rfl (tgt := 62) dX3_add_22 (by decide) (by omega) (fun h22 => ?_) (fun h22 => ?_)
        · skip
          refine x_aload_n 63 rfl dX3_add_62 0 rfl ?_
          refine x_get 66 rfl (v := .int (zI ((L + (n - k) : Nat) : Int))) 0 0 rfl rfl (by decide) inX3_add_X3 flX3_add_18 rfl dX3_add_63 ?_
          refine x_iret rfl ?_ dX3_add_66
          have hk0 : k = 0 := by omega
          exact ⟨f, by rw [if_neg (show ¬ 200 < L + n by omega), hk0]; rfl, by rw [if_neg (show ¬ 200 < L + n by omega), hk0]; rfl, fun j hj => by rw [if_neg (show ¬ 200 < L + n by omega), hf j hj, hk0]; rfl⟩
        · skip
          refine x_aload_n 26 rfl dX3_add_25 0 rfl ?_
          refine x_get 29 rfl (v := .ref (ta 0)) 0 3 rfl rfl (by decide) inX3_add_X3 flX3_add_9 rfl dX3_add_26 ?_
          refine x_aload_n 30 rfl dX3_add_29 0 rfl ?_
          refine x_get 33 rfl (v := .int (zI ((L + (n - k) : Nat) : Int))) 0 0 rfl rfl (by decide) inX3_add_X3 flX3_add_18 rfl dX3_add_30 ?_
          refine x_lload_n 34 rfl dX3_add_33 1 rfl ?_
          refine x_bipush 36 rfl dX3_add_34 (z := 8) (by decide) ?_
          refine x_iload 38 rfl dX3_add_36 3 rfl ?_
          refine x_imul 39 rfl dX3_add_38 (z := ((8 * (k - 1) : Nat) : Int)) (by omega) ?_
          refine x_lshr 40 rfl dX3_add_39 (z := (v >>> ((zI ((8 * (k - 1) : Nat) : Int)).toInt64 &&& 63))) (rfl) ?_
          refine x_l2i 41 rfl dX3_add_40 (z := ((v >>> ((zI ((8 * (k - 1) : Nat) : Int)).toInt64 &&& 63)).toInt32)) (rfl) ?_
          refine x_sipush 44 rfl dX3_add_41 (z := 255) (by decide) ?_
          refine x_iand 45 rfl dX3_add_44 (z := byI v (k - 1)) (byI_c v (k - 1)) ?_
          refine x_iast 46 rfl 1 (L + (n - k)) rfl (⟨by omega, by omega⟩) (by decide) (ws' := [(tq, txE ta (zup sc 0 ((L + (n - k) : Nat) : Int))), (ta 0, aI G 200 (zup f (L + (n - k)) (byI v (k - 1))))]) (rfl) dX3_add_45 ?_
          refine x_aload_n 47 rfl dX3_add_46 0 rfl ?_
          refine x_dup 48 rfl dX3_add_47 rfl ?_
          refine x_get 51 rfl (v := .int (zI ((L + (n - k) : Nat) : Int))) 0 0 rfl rfl (by decide) inX3_add_X3 flX3_add_18 rfl dX3_add_48 ?_
          refine x_iconst 52 rfl dX3_add_51 (z := 1) (by decide) ?_
          refine x_iadd 53 rfl dX3_add_52 (z := ((L + (n - k) + 1 : Nat) : Int)) (by omega) ?_
          refine x_put 56 rfl 0 0 rfl rfl (by decide) inX3_add_X3 flX3_add_18 tyX3_ok nmX3 rfl rfl rfl rfl (Nat.le_of_ble_eq_true rfl) (ws' := [(tq, txE ta (zup sc 0 ((L + (n - k) + 1 : Nat) : Int))), (ta 0, aI G 200 (zup f (L + (n - k)) (byI v (k - 1))))]) rfl dX3_add_53 ?_
          refine x_ws (ws' := [(tq, txE ta (zup sc 0 ((L + (n - (k - 1)) : Nat) : Int))), (ta 0, aI G 200 (zup f (L + (n - k)) (byI v (k - 1))))]) (by rw [show ((L + (n - k) + 1 : Nat) : Int) = ((L + (n - (k - 1)) : Nat) : Int) by omega]) ?_
          refine x_iinc 59 rfl (lv' := [(4, .int (zI (((k : Nat) : Int) - 1 - 1))), (0, .ref tq), (1, .long v), (3, .int (zI ((n : Nat) : Int)))]) dX3_add_56 3 rfl (b := ((k : Nat) : Int) - 1 - 1) (by omega) (by decide) rfl ?_
          refine x_goto dX3_add_59 (tgt := 20) (by decide) ?_
          refine x_lve (congrArg (fun zz : Int => ([(4, .int (zI zz)), (0, .ref tq), (1, .long v), (3, .int (zI ((n : Nat) : Int)))] : List (Nat × Value))) (by omega : ((k : Nat) : Int) - 1 - 1 = ((k - 1 : Nat) : Int) - 1)) ?_
          refine x_lv [1, 2, 3, 0] rfl ?_
          exact ih20 (k - 1) (zup f (L + (n - k)) (byI v (k - 1))) (by omega) (fun j hj => by
                        by_cases e : j = L + (n - k)
                        · subst e; rw [zup_s, if_pos (by omega)]; exact congrArg (byI v) (by omega)
                        · rw [zup_n _ _ e, hf j hj]; by_cases e2 : L ≤ j ∧ j < L + (n - k)
                          · rw [if_pos e2, if_pos (by omega)]
                          · rw [if_neg e2, if_neg (by omega)]) (by omega)
    refine x_lv [1, 2, 3, 0] rfl ?_
    exact L20 _ n tx (by omega) (fun j _ => (if_neg (by omega)).symm) (Nat.lt_succ_self _)
  · skip
    refine x_bipush 14 rfl dX3_add_12 (z := (-4)) (by decide) ?_
    refine x_iret rfl ?_ dX3_add_14
    exact ⟨tx, by rw [if_pos (show 200 < L + n by omega)], by rw [if_pos (show 200 < L + n by omega)], fun j _ => by rw [if_pos (show 200 < L + n by omega)]⟩

theorem itX_cnt {w : Nat} (nf : Nat → Int) (hw : w ≤ 2) : (if itX ((w : Nat) : Int) nf 0 = 0 then 3 else if itX ((w : Nat) : Int) nf 0 = 1 then 4 else 2) = nKw (w + 4) ∧ (if w = 0 then 3 else if w = 1 then 4 else 2) = nKw (w + 4) := by
  have : w = 0 ∨ w = 1 ∨ w = 2 := by omega
  rcases this with rfl | rfl | rfl <;> exact ⟨rfl, rfl⟩
theorem te_item {b tx nf : Nat → Int} {L m w : Nat} (hw : tokK tx L (aF tx L m) = w + 4) (h2 : w ≤ 2) (hn : ∀ j, j < nKw (tokK tx L (aF tx L m)) → nf j = ((tokV tx L (posF tx L (aF tx L m) (j + 1)) : Nat) : Int)) : teK b (itX ((w : Nat) : Int) nf) = teK b (itV tx L m) ∧ teB b (itX ((w : Nat) : Int) nf) = teB b (itV tx L m) := by
  refine te_congr (fun j hj => ?_)
  have hj2 : j ≤ nKw (w + 4) := (itX_cnt nf h2).1 ▸ hj
  by_cases e : j = 0
  · subst e
    show ((w : Nat) : Int) = ((tokK tx L (aF tx L m) - 4 : Nat) : Int)
    omega
  · unfold itX itV
    rw [if_neg e, if_neg e, hn (j - 1) (by rw [hw]; omega), show j - 1 + 1 = j by omega]
theorem toN_all {tx : Nat → Int} {L m : Nat} (hm : mN tx L = m) (h : ∀ j, j < m → teK (tbF tx L j) (itV tx L j) = 0) : toN tx L = m := by
  unfold toN; rw [hm]
  exact lsN_eq _ _ (Nat.zero_le _) (by omega) (fun j _ hj => decide_eq_true (h j hj)) (fun h => absurd h (by omega))
theorem toN_some {tx : Nat → Int} {L m k : Nat} (hm : mN tx L = m) (hk : k < m) (h : ∀ j, j < k → teK (tbF tx L j) (itV tx L j) = 0) (h2 : teK (tbF tx L k) (itV tx L k) ≠ 0) : toN tx L = k := by
  unfold toN; rw [hm]
  exact lsN_eq _ _ (Nat.zero_le _) (by omega) (fun j _ hj => decide_eq_true (h j hj)) (fun _ => decide_eq_false h2)
abbrev P_X3_tellInto (G : XG) (go : Nat) (ga : Nat → Nat) (n : Nat) (d : Nat) (c : Nat) (gf : Nat → Nat → Int) (tq : Nat) (ta : Nat → Nat) (sc : Nat → Int) (tx : Nat → Int) (nf : Nat → Int) (L : Nat) : Option Value → va_W → Prop := fun r ws => ∃ at1 st1 tk1 vl1 fr : Int, ∃ k n' d' : Nat, ∃ nf' : Nat → Int, ∃ gf' : Nat → Nat → Int, r = some (.int (zI (if okR tx L = true then -1 else ((ftI tx L (aF tx L (mN tx L)) : Nat) : Int)))) ∧ ws = [(tq, txE ta (zup (zup (zup (zup (zup (zup (zup sc 0 ((L : Nat) : Int)) 1 ((mN tx L : Nat) : Int)) 2 fr) 3 at1) 4 st1) 5 tk1) 6 vl1)), (ta 0, aI G 200 tx), (ta 1, aI G 4 nf'), (go, goE ga ((n' : Nat) : Int) ((d' : Nat) : Int) ((0 : Nat) : Int)), (ga 0, aI G 36 (gf' 0)), (ga 1, aI G 7 (gf' 1)), (ga 2, aI G 7 (gf' 2)), (ga 3, aI G 7 (gf' 3)), (ga 4, aI G 7 (gf' 4)), (ga 5, aI G 6 (gf' 5)), (ga 6, aI G 6 (gf' 6)), (ga 7, aI G 8 (gf' 7))] ∧ (okR tx L = true → k = toN tx L ∧ (toN tx L = mN tx L → fr = -1) ∧ (toN tx L ≠ mN tx L → fr = ((toN tx L : Nat) : Int))) ∧ Inv (tbF tx L k) n' d' 0 ∧ GR (tbF tx L k) n' d' 0 gf'
abbrev W_X3_tellInto (G : XG) (E : XE) (go : Nat) (ga : Nat → Nat) (n : Nat) (d : Nat) (c : Nat) (gf : Nat → Nat → Int) (tq : Nat) (ta : Nat → Nat) (sc : Nat → Int) (tx : Nat → Int) (nf : Nat → Int) (L : Nat) (pc : Nat) (lv : List (Nat × Value)) (st : List Value) (ws : va_W) : Prop := Wx G E (rmL 8) cX3_tellInto 4 RX3 wsX3_tellInto (some .int) "tellInto" 0 0 (P_X3_tellInto G go ga n d c gf tq ta sc tx nf L) 0 0 pc lv st ws
theorem flX3_tellInto_27 : Cond.fieldLink RX3 27 (TX3 5).1 (TX3 5).2.1 (TX3 5).2.2.1 ∈ wsX3_tellInto := by decide +kernel
theorem flX3_tellInto_30 : Cond.fieldLink RX3 30 (TX3 1).1 (TX3 1).2.1 (TX3 1).2.2.1 ∈ wsX3_tellInto := by decide +kernel
theorem flX3_tellInto_33 : Cond.fieldLink RX3 33 (TX3 2).1 (TX3 2).2.1 (TX3 2).2.2.1 ∈ wsX3_tellInto := by decide +kernel
theorem flX3_tellInto_39 : Cond.fieldLink RX3 39 (TX3 7).1 (TX3 7).2.1 (TX3 7).2.2.1 ∈ wsX3_tellInto := by decide +kernel
theorem flX3_tellInto_42 : Cond.fieldLink RX3 42 (TX3 6).1 (TX3 6).2.1 (TX3 6).2.2.1 ∈ wsX3_tellInto := by decide +kernel
theorem flX3_tellInto_45 : Cond.fieldLink RX3 45 (TX3 8).1 (TX3 8).2.1 (TX3 8).2.2.1 ∈ wsX3_tellInto := by decide +kernel
theorem inX3_tellInto_X3 : ∀ w ∈ u_ws RX3 TX3 9, w ∈ wsX3_tellInto := fun _ h => List.mem_cons_of_mem _ (List.mem_append_left _ (List.mem_append_right _ h))
set_option maxHeartbeats 4000000 in
set_option maxRecDepth 100000 in
/-- tellInto -/
theorem c_X3_tellInto (G : XG) (S : SG) (go : Nat) (ga : Nat → Nat) (n d c : Nat) (gf : Nat → Nat → Int) (tq : Nat) (ta : Nat → Nat) (sc tx nf : Nat → Int) (L : Nat) (hL : L ≤ 200) (ht : ∀ j, j < L → 0 ≤ tx j ∧ tx j ≤ 255)  : ConS G S yX3_tellInto wsX3_tellInto (rmL 8) 0 0 [.ref tq, .ref go] ([(tq, txE ta (zup sc 0 ((L : Nat) : Int))), (ta 0, aI G 200 tx), (ta 1, aI G 4 nf), (go, goE ga ((n : Nat) : Int) ((d : Nat) : Int) ((c : Nat) : Int)), (ga 0, aI G 36 (gf 0)), (ga 1, aI G 7 (gf 1)), (ga 2, aI G 7 (gf 2)), (ga 3, aI G 7 (gf 3)), (ga 4, aI G 7 (gf 4)), (ga 5, aI G 6 (gf 5)), (ga 6, aI G 6 (gf 6)), (ga 7, aI G 8 (gf 7))]) (P_X3_tellInto G go ga n d c gf tq ta sc tx nf L) := by
  refine x_startS (cc := cX3_tellInto) (nL := 4) (ret := (some .int)) (by decide) rfl (Nat.le_of_ble_eq_true rfl) (fun E hs => ?_)
  show W_X3_tellInto G E go ga n d c gf tq ta sc tx nf L 0 [(0, .ref tq), (1, .ref go)] [] ([(tq, txE ta (zup sc 0 ((L : Nat) : Int))), (ta 0, aI G 200 tx), (ta 1, aI G 4 nf), (go, goE ga ((n : Nat) : Int) ((d : Nat) : Int) ((c : Nat) : Int)), (ga 0, aI G 36 (gf 0)), (ga 1, aI G 7 (gf 1)), (ga 2, aI G 7 (gf 2)), (ga 3, aI G 7 (gf 3)), (ga 4, aI G 7 (gf 4)), (ga 5, aI G 6 (gf 5)), (ga 6, aI G 6 (gf 6)), (ga 7, aI G 8 (gf 7))])
  refine x_aload_n 1 rfl dX3_tellInto_0 1 rfl ?_
  refine x_callV 4 rfl (c_X0_empty G go ga empB n d c gf) [3, 4, 5, 6, 7, 8, 9, 10, 11] rfl (by decide) 3 rfl rfl gX3_tellInto_X0_empty rfl rfl rfl hd_X0_empty ⟨Nat.le_of_ble_eq_true rfl, Nat.le_of_ble_eq_true rfl⟩ (As := []) (rest := []) rfl rfl (Nat.le_of_ble_eq_true rfl) dX3_tellInto_1 ⟨Nat.zero_le _, Nat.zero_le _⟩ (fun v w hq => ?_)
  obtain ⟨gfe, rfl, rfl, Re⟩ := hq
  refine ⟨rfl, ?_⟩
  refine x_ws (ws' := [(tq, txE ta (zup sc 0 ((L : Nat) : Int))), (ta 0, aI G 200 tx), (ta 1, aI G 4 nf), (go, goE ga 0 0 0), (ga 0, aI G 36 (gfe 0)), (ga 1, aI G 7 (gfe 1)), (ga 2, aI G 7 (gfe 2)), (ga 3, aI G 7 (gfe 3)), (ga 4, aI G 7 (gfe 4)), (ga 5, aI G 6 (gfe 5)), (ga 6, aI G 6 (gfe 6)), (ga 7, aI G 8 (gfe 7))]) (rfl) ?_
  refine x_aload_n 5 rfl dX3_tellInto_4 0 rfl ?_
  refine x_iconst 6 rfl dX3_tellInto_5 (z := 0) (by decide) ?_
  refine x_put 9 rfl 0 5 rfl rfl (by decide) inX3_tellInto_X3 flX3_tellInto_27 tyX3_ok nmX3 rfl rfl rfl rfl (Nat.le_of_ble_eq_true rfl) (ws' := [(tq, txE ta (zup (zup sc 0 ((L : Nat) : Int)) 3 0)), (ta 0, aI G 200 tx), (ta 1, aI G 4 nf), (go, goE ga 0 0 0), (ga 0, aI G 36 (gfe 0)), (ga 1, aI G 7 (gfe 1)), (ga 2, aI G 7 (gfe 2)), (ga 3, aI G 7 (gfe 3)), (ga 4, aI G 7 (gfe 4)), (ga 5, aI G 6 (gfe 5)), (ga 6, aI G 6 (gfe 6)), (ga 7, aI G 8 (gfe 7))]) rfl dX3_tellInto_6 ?_
  refine x_aload_n 10 rfl dX3_tellInto_9 0 rfl ?_
  refine x_iconst 11 rfl dX3_tellInto_10 (z := 0) (by decide) ?_
  refine x_put 14 rfl 0 1 rfl rfl (by decide) inX3_tellInto_X3 flX3_tellInto_30 tyX3_ok nmX3 rfl rfl rfl rfl (Nat.le_of_ble_eq_true rfl) (ws' := [(tq, txE ta (zup (zup (zup sc 0 ((L : Nat) : Int)) 1 0) 3 0)), (ta 0, aI G 200 tx), (ta 1, aI G 4 nf), (go, goE ga 0 0 0), (ga 0, aI G 36 (gfe 0)), (ga 1, aI G 7 (gfe 1)), (ga 2, aI G 7 (gfe 2)), (ga 3, aI G 7 (gfe 3)), (ga 4, aI G 7 (gfe 4)), (ga 5, aI G 6 (gfe 5)), (ga 6, aI G 6 (gfe 6)), (ga 7, aI G 8 (gfe 7))]) rfl dX3_tellInto_11 ?_
  refine x_aload_n 15 rfl dX3_tellInto_14 0 rfl ?_
  refine x_iconst 16 rfl dX3_tellInto_15 (z := (-1)) (by decide) ?_
  refine x_put 19 rfl 0 2 rfl rfl (by decide) inX3_tellInto_X3 flX3_tellInto_33 tyX3_ok nmX3 rfl rfl rfl rfl (Nat.le_of_ble_eq_true rfl) (ws' := [(tq, txE ta (zup (zup (zup (zup sc 0 ((L : Nat) : Int)) 1 0) 2 (-1)) 3 0)), (ta 0, aI G 200 tx), (ta 1, aI G 4 nf), (go, goE ga 0 0 0), (ga 0, aI G 36 (gfe 0)), (ga 1, aI G 7 (gfe 1)), (ga 2, aI G 7 (gfe 2)), (ga 3, aI G 7 (gfe 3)), (ga 4, aI G 7 (gfe 4)), (ga 5, aI G 6 (gfe 5)), (ga 6, aI G 6 (gfe 6)), (ga 7, aI G 8 (gfe 7))]) rfl dX3_tellInto_16 ?_
  refine x_iconst 20 rfl dX3_tellInto_19 (z := 0) (by decide) ?_
  refine x_istore_n 21 rfl (lv' := [(2, .int (zI 0)), (0, .ref tq), (1, .ref go)]) dX3_tellInto_20 (by decide) rfl ?_
  have L21 : ∀ (f21 : Nat) (m : Nat) (k : Nat) (n : Nat) (d : Nat) (fr : Int) (f : Nat → Int) (gf : Nat → Nat → Int) (s1 : Int) (t1 : Int) (v1 : Int) (hg : ∀ j, j < m → gdI tx L (aF tx L j) = true) (hac : ∀ j, j < k → teK (tbF tx L j) (itV tx L j) = 0) (hkm : k ≤ m) (hst : (fr = -1 ∧ k = m) ∨ (fr = ((k : Nat) : Int) ∧ k < m ∧ teK (tbF tx L k) (itV tx L k) ≠ 0)) (I : Inv (tbF tx L k) n d 0) (R : GR (tbF tx L k) n d 0 gf), 41 - m < f21 → W_X3_tellInto G E go ga n d c gf tq ta sc tx nf L 21 [(0, .ref tq), (1, .ref go), (2, .int (zI ((m : Nat) : Int)))] [] ([(tq, txE ta (zup (zup (zup (zup (zup (zup (zup sc 0 ((L : Nat) : Int)) 1 ((m : Nat) : Int)) 2 fr) 3 ((aF tx L m : Nat) : Int)) 4 s1) 5 t1) 6 v1)), (ta 0, aI G 200 tx), (ta 1, aI G 4 f), (go, goE ga ((n : Nat) : Int) ((d : Nat) : Int) ((0 : Nat) : Int)), (ga 0, aI G 36 (gf 0)), (ga 1, aI G 7 (gf 1)), (ga 2, aI G 7 (gf 2)), (ga 3, aI G 7 (gf 3)), (ga 4, aI G 7 (gf 4)), (ga 5, aI G 6 (gf 5)), (ga 6, aI G 6 (gf 6)), (ga 7, aI G 8 (gf 7))]) := by
    intro f21
    induction f21 with
    | zero => intro m k n d fr f gf s1 t1 v1 hg hac hkm hst I R hf21; exact absurd hf21 (Nat.not_lt_zero _)
    | succ f21 ih21 =>
      intro m k n d fr f gf s1 t1 v1 hg hac hkm hst I R hf21
      refine x_iload_n 22 rfl dX3_tellInto_21 2 rfl ?_
      have h5m := aF_ge m hg
      have haL := aF_le tx L m
      have hkr := tokK_r tx L (aF tx L m)
      refine x_sipush 25 rfl dX3_tellInto_22 (z := 200) (by decide) ?_
      refine x_icmp_gt 28 rfl (tgt := 115) dX3_tellInto_25 (by decide) (by omega) (by decide) (fun h25 => ?_) (fun h25 => ?_)
      · skip
        omega
      · skip
        refine x_aload_n 29 rfl dX3_tellInto_28 0 rfl ?_
        refine x_callVS 32 rfl hs (c_X3_nextToken G S tq ta (zup (zup (zup (zup (zup (zup (zup sc 0 ((L : Nat) : Int)) 1 ((m : Nat) : Int)) 2 fr) 3 ((aF tx L m : Nat) : Int)) 4 s1) 5 t1) 6 v1) tx L (aF tx L m) hL (haL) ht) [0, 1] rfl (by decide) 0 rfl rfl gX3_tellInto_X3_nextToken rfl rfl rfl hd_X3_nextToken ⟨Nat.le_of_ble_eq_true rfl, Nat.le_of_ble_eq_true rfl⟩ (As := []) (rest := []) rfl rfl (Nat.le_of_ble_eq_true rfl) dX3_tellInto_29 ⟨Nat.zero_le _, Nat.zero_le _⟩ (fun v w hq => ?_)
        obtain ⟨v4, rfl, rfl, hv4, hv4'⟩ := hq
        refine ⟨rfl, ?_⟩
        refine x_ws (ws' := [(tq, txE ta (zup (zup (zup (zup (zup (zup (zup sc 0 ((L : Nat) : Int)) 1 ((m : Nat) : Int)) 2 fr) 3 ((tokE tx L (aF tx L m) : Nat) : Int)) 4 ((tokS tx L (aF tx L m) : Nat) : Int)) 5 ((ctN (tokK tx L (aF tx L m)) : Nat) : Int)) 6 v4)), (ta 0, aI G 200 tx), (ta 1, aI G 4 f), (go, goE ga ((n : Nat) : Int) ((d : Nat) : Int) ((0 : Nat) : Int)), (ga 0, aI G 36 (gf 0)), (ga 1, aI G 7 (gf 1)), (ga 2, aI G 7 (gf 2)), (ga 3, aI G 7 (gf 3)), (ga 4, aI G 7 (gf 4)), (ga 5, aI G 6 (gf 5)), (ga 6, aI G 6 (gf 6)), (ga 7, aI G 8 (gf 7))]) (rfl) ?_
        refine x_aload_n 33 rfl dX3_tellInto_32 0 rfl ?_
        refine x_get 36 rfl (v := .int (zI ((ctN (tokK tx L (aF tx L m)) : Nat) : Int))) 0 7 rfl rfl (by decide) inX3_tellInto_X3 flX3_tellInto_39 rfl dX3_tellInto_33 ?_
        refine x_if_ne 39 rfl (tgt := 41) dX3_tellInto_36 (by decide) (by unfold ctN; (repeat' split) <;> omega) (fun h36 => ?_) (fun h36 => ?_)
        · skip
          have k0 : tokK tx L (aF tx L m) ≠ 0 := fun hh => by rw [hh] at h36; exact h36 rfl
          refine x_aload_n 42 rfl dX3_tellInto_41 0 rfl ?_
          refine x_get 45 rfl (v := .int (zI ((ctN (tokK tx L (aF tx L m)) : Nat) : Int))) 0 7 rfl rfl (by decide) inX3_tellInto_X3 flX3_tellInto_39 rfl dX3_tellInto_42 ?_
          refine x_iconst 46 rfl dX3_tellInto_45 (z := 1) (by decide) ?_
          refine x_icmp_eq 49 rfl (tgt := 54) dX3_tellInto_46 (by decide) (by unfold ctN; (repeat' split) <;> omega) (by decide) (fun h46 => ?_) (fun h46 => ?_)
          · skip
            have k4 : 4 ≤ tokK tx L (aF tx L m) := by unfold ctN at h46; (repeat' split at h46) <;> omega
            obtain ⟨w, hw⟩ : ∃ w, tokK tx L (aF tx L m) = w + 4 := ⟨tokK tx L (aF tx L m) - 4, by omega⟩
            have hvw := hv4' k4
            refine x_aload_n 55 rfl dX3_tellInto_54 0 rfl ?_
            refine x_get 58 rfl (v := .int (zI v4)) 0 8 rfl rfl (by decide) inX3_tellInto_X3 flX3_tellInto_45 rfl dX3_tellInto_55 ?_
            refine x_int (congrArg zI (by omega : v4 = ((w : Nat) : Int))) ?_
            refine x_istore_n 59 rfl (lv' := [(3, .int (zI ((w : Nat) : Int))), (0, .ref tq), (1, .ref go), (2, .int (zI ((m : Nat) : Int)))]) dX3_tellInto_58 (by decide) rfl ?_
            refine x_aload_n 60 rfl dX3_tellInto_59 1 rfl ?_
            refine x_iload_n 61 rfl dX3_tellInto_60 0 rfl ?_
            refine x_callVS 64 rfl hs (c_X3_isRestOfItem G S tq ta (zup (zup (zup (zup (zup (zup (zup sc 0 ((L : Nat) : Int)) 1 ((m : Nat) : Int)) 2 fr) 3 ((tokE tx L (aF tx L m) : Nat) : Int)) 4 ((tokS tx L (aF tx L m) : Nat) : Int)) 5 ((ctN (tokK tx L (aF tx L m)) : Nat) : Int)) 6 v4) tx f L (aF tx L m) w hL (haL) ht (hw)) [0, 1, 2] rfl (by decide) 0 rfl rfl gX3_tellInto_X3_isRestOfItem rfl rfl rfl hd_X3_isRestOfItem ⟨Nat.le_of_ble_eq_true rfl, Nat.le_of_ble_eq_true rfl⟩ (As := [.int (zI ((w : Nat) : Int))]) (rest := []) rfl rfl (Nat.le_of_ble_eq_true rfl) dX3_tellInto_61 ⟨Nat.zero_le _, Nat.zero_le _⟩ (fun v w hq => ?_)
            obtain ⟨at2, st2, tk2, vl2, nf2, rfl, rfl, hgt2, hgf2⟩ := hq
            refine ⟨rfl, ?_⟩
            refine x_ws (ws' := [(tq, txE ta (zup (zup (zup (zup (zup (zup (zup sc 0 ((L : Nat) : Int)) 1 ((m : Nat) : Int)) 2 fr) 3 at2) 4 st2) 5 tk2) 6 vl2)), (ta 0, aI G 200 tx), (ta 1, aI G 4 nf2), (go, goE ga ((n : Nat) : Int) ((d : Nat) : Int) ((0 : Nat) : Int)), (ga 0, aI G 36 (gf 0)), (ga 1, aI G 7 (gf 1)), (ga 2, aI G 7 (gf 2)), (ga 3, aI G 7 (gf 3)), (ga 4, aI G 7 (gf 4)), (ga 5, aI G 6 (gf 5)), (ga 6, aI G 6 (gf 6)), (ga 7, aI G 8 (gf 7))]) (rfl) ?_
            refine x_bif_ne 67 rfl (tgt := 72) dX3_tellInto_64 (by decide) (fun h64 => ?_) (fun h64 => ?_)
            · skip
              have hpp := gd_parts h64
              have hcw := itX_cnt nf2 (w := w) (by omega)
              refine x_ws (ws' := [(tq, txE ta (zup (zup (zup (zup (zup (zup (zup sc 0 ((L : Nat) : Int)) 1 ((m : Nat) : Int)) 2 fr) 3 ((aF tx L (m + 1) : Nat) : Int)) 4 st2) 5 tk2) 6 vl2)), (ta 0, aI G 200 tx), (ta 1, aI G 4 nf2), (go, goE ga ((n : Nat) : Int) ((d : Nat) : Int) ((0 : Nat) : Int)), (ga 0, aI G 36 (gf 0)), (ga 1, aI G 7 (gf 1)), (ga 2, aI G 7 (gf 2)), (ga 3, aI G 7 (gf 3)), (ga 4, aI G 7 (gf 4)), (ga 5, aI G 6 (gf 5)), (ga 6, aI G 6 (gf 6)), (ga 7, aI G 8 (gf 7))]) (by rw [(hgt2 h64).1]; rfl) ?_
              refine x_aload_n 73 rfl dX3_tellInto_72 1 rfl ?_
              refine x_get 76 rfl (v := .int (zI fr)) 0 2 rfl rfl (by decide) inX3_tellInto_X3 flX3_tellInto_33 rfl dX3_tellInto_73 ?_
              refine x_iconst 77 rfl dX3_tellInto_76 (z := (-1)) (by decide) ?_
              refine x_icmp_ne 80 rfl (tgt := 99) dX3_tellInto_77 (by decide) (by omega) (by decide) (fun h77 => ?_) (fun h77 => ?_)
              · skip
                refine x_aload_n 100 rfl dX3_tellInto_99 1 rfl ?_
                refine x_dup 101 rfl dX3_tellInto_100 rfl ?_
                refine x_get 104 rfl (v := .int (zI ((m : Nat) : Int))) 0 1 rfl rfl (by decide) inX3_tellInto_X3 flX3_tellInto_30 rfl dX3_tellInto_101 ?_
                refine x_iconst 105 rfl dX3_tellInto_104 (z := 1) (by decide) ?_
                refine x_iadd 106 rfl dX3_tellInto_105 (z := ((m + 1 : Nat) : Int)) (by omega) ?_
                refine x_put 109 rfl 0 1 rfl rfl (by decide) inX3_tellInto_X3 flX3_tellInto_30 tyX3_ok nmX3 rfl rfl rfl rfl (Nat.le_of_ble_eq_true rfl) (ws' := [(tq, txE ta (zup (zup (zup (zup (zup (zup (zup sc 0 ((L : Nat) : Int)) 1 ((m + 1 : Nat) : Int)) 2 fr) 3 ((aF tx L (m + 1) : Nat) : Int)) 4 st2) 5 tk2) 6 vl2)), (ta 0, aI G 200 tx), (ta 1, aI G 4 nf2), (go, goE ga ((n : Nat) : Int) ((d : Nat) : Int) ((0 : Nat) : Int)), (ga 0, aI G 36 (gf 0)), (ga 1, aI G 7 (gf 1)), (ga 2, aI G 7 (gf 2)), (ga 3, aI G 7 (gf 3)), (ga 4, aI G 7 (gf 4)), (ga 5, aI G 6 (gf 5)), (ga 6, aI G 6 (gf 6)), (ga 7, aI G 8 (gf 7))]) rfl dX3_tellInto_106 ?_
                refine x_iinc 112 rfl (lv' := [(2, .int (zI ((m + 1 : Nat) : Int))), (3, .int (zI ((w : Nat) : Int))), (0, .ref tq), (1, .ref go)]) dX3_tellInto_109 3 rfl (b := ((m + 1 : Nat) : Int)) (by omega) (by decide) rfl ?_
                refine x_goto dX3_tellInto_112 (tgt := 21) (by decide) ?_
                refine x_lv [2, 3, 0] rfl ?_
                exact ih21 (m + 1) k n d fr nf2 gf st2 tk2 vl2 (fun j hj => by by_cases e : j = m; (subst e; exact h64); exact hg j (by omega)) (hac) (by omega) (by omega) (I) (R) (by omega)
              · skip
                have hkm2 : k = m := by omega
                have hnf : ∀ j, j < nKw (tokK tx L (aF tx L k)) → nf2 j = ((tokV tx L (posF tx L (aF tx L k) (j + 1)) : Nat) : Int) := fun j hj => by rw [hkm2] at hj ⊢; exact (hgt2 h64).2 j hj
                have hte := te_item (b := tbF tx L k) (nf := nf2) (by rw [hkm2]; exact hw) (by omega) hnf
                have hz : ∀ j, j < (if w = 0 then 3 else if w = 1 then 4 else 2) → Z32 (nf2 j) := fun j hj => by rw [hcw.2, ← hw] at hj; rw [(hgt2 h64).2 j hj]; have := tokV_r ht (hpp.2 j hj); omega
                refine x_aload_n 81 rfl dX3_tellInto_80 1 rfl ?_
                refine x_aload_n 82 rfl dX3_tellInto_81 2 rfl ?_
                refine x_iload_n 83 rfl dX3_tellInto_82 0 rfl ?_
                refine x_callV 86 rfl (c_X3_tellItem G go ga (tbF tx L k) n d 0 gf I R tq ta (zup (zup (zup (zup (zup (zup (zup sc 0 ((L : Nat) : Int)) 1 ((m : Nat) : Int)) 2 fr) 3 ((aF tx L (m + 1) : Nat) : Int)) 4 st2) 5 tk2) 6 vl2) nf2 w (by omega) hz) [0, 2, 3, 4, 5, 6, 7, 8, 9, 10, 11] rfl (by decide) 0 rfl rfl gX3_tellInto_X3_tellItem rfl rfl rfl hd_X3_tellItem ⟨Nat.le_of_ble_eq_true rfl, Nat.le_of_ble_eq_true rfl⟩ (As := [.ref go, .int (zI ((w : Nat) : Int))]) (rest := []) rfl rfl (Nat.le_of_ble_eq_true rfl) dX3_tellInto_83 ⟨Nat.zero_le _, Nat.zero_le _⟩ (fun v w hq => ?_)
                obtain ⟨v3, n3, d3, gf3, rfl, rfl, hv3, hr3, I3, R3⟩ := hq
                refine ⟨rfl, ?_⟩
                refine x_ws (ws' := [(tq, txE ta (zup (zup (zup (zup (zup (zup (zup sc 0 ((L : Nat) : Int)) 1 ((m : Nat) : Int)) 2 fr) 3 ((aF tx L (m + 1) : Nat) : Int)) 4 st2) 5 tk2) 6 vl2)), (ta 0, aI G 200 tx), (ta 1, aI G 4 nf2), (go, goE ga ((n3 : Nat) : Int) ((d3 : Nat) : Int) ((0 : Nat) : Int)), (ga 0, aI G 36 (gf3 0)), (ga 1, aI G 7 (gf3 1)), (ga 2, aI G 7 (gf3 2)), (ga 3, aI G 7 (gf3 3)), (ga 4, aI G 7 (gf3 4)), (ga 5, aI G 6 (gf3 5)), (ga 6, aI G 6 (gf3 6)), (ga 7, aI G 8 (gf3 7))]) (rfl) ?_
                refine x_bipush 88 rfl dX3_tellInto_86 (z := (-2)) (by decide) ?_
                refine x_icmp_gt 91 rfl (tgt := 99) dX3_tellInto_88 (by decide) (by omega) (by decide) (fun h88 => ?_) (fun h88 => ?_)
                · skip
                  refine x_aload_n 100 rfl dX3_tellInto_99 1 rfl ?_
                  refine x_dup 101 rfl dX3_tellInto_100 rfl ?_
                  refine x_get 104 rfl (v := .int (zI ((m : Nat) : Int))) 0 1 rfl rfl (by decide) inX3_tellInto_X3 flX3_tellInto_30 rfl dX3_tellInto_101 ?_
                  refine x_iconst 105 rfl dX3_tellInto_104 (z := 1) (by decide) ?_
                  refine x_iadd 106 rfl dX3_tellInto_105 (z := ((m + 1 : Nat) : Int)) (by omega) ?_
                  refine x_put 109 rfl 0 1 rfl rfl (by decide) inX3_tellInto_X3 flX3_tellInto_30 tyX3_ok nmX3 rfl rfl rfl rfl (Nat.le_of_ble_eq_true rfl) (ws' := [(tq, txE ta (zup (zup (zup (zup (zup (zup (zup sc 0 ((L : Nat) : Int)) 1 ((m + 1 : Nat) : Int)) 2 fr) 3 ((aF tx L (m + 1) : Nat) : Int)) 4 st2) 5 tk2) 6 vl2)), (ta 0, aI G 200 tx), (ta 1, aI G 4 nf2), (go, goE ga ((n3 : Nat) : Int) ((d3 : Nat) : Int) ((0 : Nat) : Int)), (ga 0, aI G 36 (gf3 0)), (ga 1, aI G 7 (gf3 1)), (ga 2, aI G 7 (gf3 2)), (ga 3, aI G 7 (gf3 3)), (ga 4, aI G 7 (gf3 4)), (ga 5, aI G 6 (gf3 5)), (ga 6, aI G 6 (gf3 6)), (ga 7, aI G 8 (gf3 7))]) rfl dX3_tellInto_106 ?_
                  refine x_iinc 112 rfl (lv' := [(2, .int (zI ((m + 1 : Nat) : Int))), (3, .int (zI ((w : Nat) : Int))), (0, .ref tq), (1, .ref go)]) dX3_tellInto_109 3 rfl (b := ((m + 1 : Nat) : Int)) (by omega) (by decide) rfl ?_
                  refine x_goto dX3_tellInto_112 (tgt := 21) (by decide) ?_
                  refine x_lv [2, 3, 0] rfl ?_
                  exact ih21 (m + 1) (k + 1) n3 d3 fr nf2 gf3 st2 tk2 vl2 (fun j hj => by by_cases e : j = m; (subst e; exact h64); exact hg j (by omega)) (fun j hj => by by_cases e : j = k; (subst e; rw [← hte.1]; omega); exact hac j (by omega)) (by omega) (Or.inl ⟨by omega, by omega⟩) (by show Inv (teB (tbF tx L k) (itV tx L k)) n3 d3 0; rw [← hte.2]; exact I3) (by show GR (teB (tbF tx L k) (itV tx L k)) n3 d3 0 gf3; rw [← hte.2]; exact R3) (by omega)
                · skip
                  refine x_aload_n 92 rfl dX3_tellInto_91 1 rfl ?_
                  refine x_aload_n 93 rfl dX3_tellInto_92 1 rfl ?_
                  refine x_get 96 rfl (v := .int (zI ((m : Nat) : Int))) 0 1 rfl rfl (by decide) inX3_tellInto_X3 flX3_tellInto_30 rfl dX3_tellInto_93 ?_
                  refine x_put 99 rfl 0 2 rfl rfl (by decide) inX3_tellInto_X3 flX3_tellInto_33 tyX3_ok nmX3 rfl rfl rfl rfl (Nat.le_of_ble_eq_true rfl) (ws' := [(tq, txE ta (zup (zup (zup (zup (zup (zup (zup sc 0 ((L : Nat) : Int)) 1 ((m : Nat) : Int)) 2 ((m : Nat) : Int)) 3 ((aF tx L (m + 1) : Nat) : Int)) 4 st2) 5 tk2) 6 vl2)), (ta 0, aI G 200 tx), (ta 1, aI G 4 nf2), (go, goE ga ((n3 : Nat) : Int) ((d3 : Nat) : Int) ((0 : Nat) : Int)), (ga 0, aI G 36 (gf3 0)), (ga 1, aI G 7 (gf3 1)), (ga 2, aI G 7 (gf3 2)), (ga 3, aI G 7 (gf3 3)), (ga 4, aI G 7 (gf3 4)), (ga 5, aI G 6 (gf3 5)), (ga 6, aI G 6 (gf3 6)), (ga 7, aI G 8 (gf3 7))]) rfl dX3_tellInto_96 ?_
                  refine x_aload_n 100 rfl dX3_tellInto_99 1 rfl ?_
                  refine x_dup 101 rfl dX3_tellInto_100 rfl ?_
                  refine x_get 104 rfl (v := .int (zI ((m : Nat) : Int))) 0 1 rfl rfl (by decide) inX3_tellInto_X3 flX3_tellInto_30 rfl dX3_tellInto_101 ?_
                  refine x_iconst 105 rfl dX3_tellInto_104 (z := 1) (by decide) ?_
                  refine x_iadd 106 rfl dX3_tellInto_105 (z := ((m + 1 : Nat) : Int)) (by omega) ?_
                  refine x_put 109 rfl 0 1 rfl rfl (by decide) inX3_tellInto_X3 flX3_tellInto_30 tyX3_ok nmX3 rfl rfl rfl rfl (Nat.le_of_ble_eq_true rfl) (ws' := [(tq, txE ta (zup (zup (zup (zup (zup (zup (zup sc 0 ((L : Nat) : Int)) 1 ((m + 1 : Nat) : Int)) 2 ((m : Nat) : Int)) 3 ((aF tx L (m + 1) : Nat) : Int)) 4 st2) 5 tk2) 6 vl2)), (ta 0, aI G 200 tx), (ta 1, aI G 4 nf2), (go, goE ga ((n3 : Nat) : Int) ((d3 : Nat) : Int) ((0 : Nat) : Int)), (ga 0, aI G 36 (gf3 0)), (ga 1, aI G 7 (gf3 1)), (ga 2, aI G 7 (gf3 2)), (ga 3, aI G 7 (gf3 3)), (ga 4, aI G 7 (gf3 4)), (ga 5, aI G 6 (gf3 5)), (ga 6, aI G 6 (gf3 6)), (ga 7, aI G 8 (gf3 7))]) rfl dX3_tellInto_106 ?_
                  refine x_iinc 112 rfl (lv' := [(2, .int (zI ((m + 1 : Nat) : Int))), (3, .int (zI ((w : Nat) : Int))), (0, .ref tq), (1, .ref go)]) dX3_tellInto_109 3 rfl (b := ((m + 1 : Nat) : Int)) (by omega) (by decide) rfl ?_
                  refine x_goto dX3_tellInto_112 (tgt := 21) (by decide) ?_
                  refine x_lv [2, 3, 0] rfl ?_
                  exact ih21 (m + 1) k n3 d3 ((m : Nat) : Int) nf2 gf3 st2 tk2 vl2 (fun j hj => by by_cases e : j = m; (subst e; exact h64); exact hg j (by omega)) (hac) (by omega) (Or.inr ⟨by omega, by omega, by rw [← hte.1]; omega⟩) (by rw [← teB_bad (show teK (tbF tx L k) (itX ((w : Nat) : Int) nf2) ≠ 0 by omega)]; exact I3) (by rw [← teB_bad (show teK (tbF tx L k) (itX ((w : Nat) : Int) nf2) ≠ 0 by omega)]; exact R3) (by omega)
            · skip
              refine x_aload_n 68 rfl dX3_tellInto_67 1 rfl ?_
              refine x_get 71 rfl (v := .int (zI st2)) 0 6 rfl rfl (by decide) inX3_tellInto_X3 flX3_tellInto_42 rfl dX3_tellInto_68 ?_
              refine x_iret rfl ?_ dX3_tellInto_71
              have hbad : gdI tx L (aF tx L m) = false := h64
              have hmN := mN_eq hL hg hbad
              have hok : okR tx L = false := by unfold okR; rw [hmN]; exact decide_eq_false k0
              have hft := hgf2 h64
              exact ⟨at2, st2, tk2, vl2, fr, k, n, d, nf2, gf, by rw [if_neg (by rw [hok]; decide), hmN, ← hft], by rw [hmN], (fun hh => by rw [hok] at hh; cases hh), I, R⟩
          · skip
            have k4 : ¬ 4 ≤ tokK tx L (aF tx L m) := fun hh => h46 (by unfold ctN; rw [if_neg (by omega), if_pos hh]; rfl)
            refine x_aload_n 50 rfl dX3_tellInto_49 0 rfl ?_
            refine x_get 53 rfl (v := .int (zI ((tokS tx L (aF tx L m) : Nat) : Int))) 0 6 rfl rfl (by decide) inX3_tellInto_X3 flX3_tellInto_42 rfl dX3_tellInto_50 ?_
            refine x_iret rfl ?_ dX3_tellInto_53
            have hbad : gdI tx L (aF tx L m) = false := by unfold gdI; rw [decide_eq_false (by omega)]; rfl
            have hmN := mN_eq hL hg hbad
            have hok : okR tx L = false := by unfold okR; rw [hmN]; exact decide_eq_false k0
            have hft : tokS tx L (aF tx L m) = ftI tx L (aF tx L m) := by unfold ftI; rw [if_pos (by omega)]
            exact ⟨((tokE tx L (aF tx L m) : Nat) : Int), ((tokS tx L (aF tx L m) : Nat) : Int), ((ctN (tokK tx L (aF tx L m)) : Nat) : Int), v4, fr, k, n, d, f, gf, by rw [if_neg (by rw [hok]; decide), hmN, ← hft], by rw [hmN], (fun hh => by rw [hok] at hh; cases hh), I, R⟩
        · skip
          have k0 : tokK tx L (aF tx L m) = 0 := by unfold ctN at h36; (repeat' split at h36) <;> omega
          refine x_iconst 40 rfl dX3_tellInto_39 (z := (-1)) (by decide) ?_
          refine x_iret rfl ?_ dX3_tellInto_40
          have hbad : gdI tx L (aF tx L m) = false := by unfold gdI; rw [decide_eq_false (by omega)]; rfl
          have hmN := mN_eq hL hg hbad
          have hok : okR tx L = true := by unfold okR; rw [hmN]; exact decide_eq_true k0
          have hend : okR tx L = true → k = toN tx L ∧ (toN tx L = mN tx L → fr = -1) ∧ (toN tx L ≠ mN tx L → fr = ((toN tx L : Nat) : Int)) := fun _ => by
              rcases hst with ⟨q1, q2⟩ | ⟨q1, q2, q3⟩
              · have := toN_all hmN (fun j hj => hac j (by omega)); omega
              · have := toN_some hmN q2 hac q3; omega
          exact ⟨((tokE tx L (aF tx L m) : Nat) : Int), ((tokS tx L (aF tx L m) : Nat) : Int), ((ctN (tokK tx L (aF tx L m)) : Nat) : Int), v4, fr, k, n, d, f, gf, by rw [if_pos hok], by rw [hmN], hend, I, R⟩
  refine x_lv [1, 2, 0] rfl ?_
  exact L21 _ 0 0 0 0 (-1) nf gfe (sc 4) (sc 5) (sc 6) (fun j hj => absurd hj (Nat.not_lt_zero _)) (fun j hj => absurd hj (Nat.not_lt_zero _)) (Nat.le_refl _) (Or.inl ⟨rfl, rfl⟩) (Inv_emp) (Re) (Nat.lt_succ_self _)

