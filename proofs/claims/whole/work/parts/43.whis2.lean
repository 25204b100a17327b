/-! the whistler's seven listeners, in a row of cells -/
abbrev LsT : Type := Int × Int × Int × Bool
abbrev lsE (v : LsT) : va_E := .inr (1, [.int (zI v.1), .int (zI v.2.1), .int (zI v.2.2.1), .int (zB v.2.2.2)])
abbrev lsW (la : Nat → Nat) (F : Nat → LsT) : va_W := [(la 0, lsE (F 0)), (la 1, lsE (F 1)), (la 2, lsE (F 2)), (la 3, lsE (F 3)), (la 4, lsE (F 4)), (la 5, lsE (F 5)), (la 6, lsE (F 6))]
def laF (la : Nat → Nat) : Nat → Option Nat := fun k => some (la k)
abbrev lsV (b : Nat → Int) (pl wind k : Nat) : LsT := (((eN b k : Nat) : Int), ((tN b k : Nat) : Int), ((leftN (if eN b k = 2 ∨ eN b k = 5 then halfN (tN b k) else tN b k) wind : Nat) : Int), decide (eN b k = 5 ∧ 1 < wind) || decide (upN b pl (plN b k) < (wind : Int)))
theorem zup_id {α : Type} {F : Nat → α} {k : Nat} {v : α} (h : F k = v) : zup F k v = F := by
  funext j; unfold zup; split
  · rename_i e; rw [e, h]
  · rfl
theorem lsW_get {pre : va_W} {la : Nat → Nat} {F : Nat → LsT} {L k : Nat} (hL : pre.length = L) (hk : k < 7) {v : LsT} (hv : F k = v) : (pre ++ lsW la F)[L + k]? = some (la k, lsE v) := by
  subst hL; subst hv
  rw [List.getElem?_append_right (Nat.le_add_right _ _), Nat.add_sub_cancel_left]
  match k, hk with
  | 0, _ => rfl
  | 1, _ => rfl
  | 2, _ => rfl
  | 3, _ => rfl
  | 4, _ => rfl
  | 5, _ => rfl
  | 6, _ => rfl
theorem lsW_plc {pre : va_W} {la : Nat → Nat} {F : Nat → LsT} {L k : Nat} (hL : pre.length = L) (hk : k < 7) (v : LsT) : plc (pre ++ lsW la F) [L + k] [(la k, lsE v)] = pre ++ lsW la (zup F k v) := by
  subst hL
  show (pre ++ lsW la F).set (pre.length + k) (la k, lsE v) = _
  rw [List.set_append_right _ _ (Nat.le_add_right _ _), Nat.add_sub_cancel_left]
  congr 1
  match k, hk with
  | 0, _ => rfl
  | 1, _ => rfl
  | 2, _ => rfl
  | 3, _ => rfl
  | 4, _ => rfl
  | 5, _ => rfl
  | 6, _ => rfl
theorem lsW_same {pre : va_W} {la : Nat → Nat} {F : Nat → LsT} {L k : Nat} (hL : pre.length = L) (hk : k < 7) {v : LsT} (hv : F k = v) : plc (pre ++ lsW la F) [L + k] [(la k, lsE v)] = pre ++ lsW la F :=
  (lsW_plc hL hk v).trans (by rw [zup_id hv])
theorem lsV_a {b : Nat → Int} {pl wind k : Nat} (h : (wind : Int) ≤ upN b pl (plN b k)) : lsV b pl wind k = ((((eN b k : Nat) : Int), ((tN b k : Nat) : Int), ((leftN (if eN b k = 2 ∨ eN b k = 5 then halfN (tN b k) else tN b k) wind : Nat) : Int), decide (eN b k = 5 ∧ 1 < wind)) : LsT) := by
  show (_, _, _, _ || _) = _
  rw [decide_eq_false (show ¬ upN b pl (plN b k) < (wind : Int) by omega), Bool.or_false]
theorem lsV_s {b : Nat → Int} {pl wind k : Nat} (h : upN b pl (plN b k) < (wind : Int)) : lsV b pl wind k = ((((eN b k : Nat) : Int), ((tN b k : Nat) : Int), ((leftN (if eN b k = 2 ∨ eN b k = 5 then halfN (tN b k) else tN b k) wind : Nat) : Int), true) : LsT) := by
  show (_, _, _, _ || _) = _
  rw [decide_eq_true h, Bool.or_true]
theorem tAt_tb {b : Nat → Int} {n d c : Nat} (I : Inv b n d c) {pl wind tune k : Nat} (hk : k < n) (hw : wind < 4) (ht : vt tune) : tAt (eN b k) (tN b k) (leftN (if eN b k = 2 ∨ eN b k = 5 then halfN (tN b k) else tN b k) wind) (decide (eN b k = 5 ∧ 1 < wind) || decide (upN b pl (plN b k) < (wind : Int))) tune (leftN tune wind) = tb b pl tune wind k := by
  by_cases h : upN b pl (plN b k) < (wind : Int)
  · rw [decide_eq_true h, Bool.or_true, tb_f1 h]
    exact if_pos rfl
  · rw [decide_eq_false h, Bool.or_false, tAt_turns (I.e hk).2 (I.t hk).2 ht hw]
    unfold tb; rw [decide_eq_true (show (wind : Int) ≤ upN b pl (plN b k) by omega)]; rfl
abbrev P_X5_listen (G : XG) (go : Nat) (ga : Nat → Nat) (b : Nat → Int) (n : Nat) (d : Nat) (c : Nat) (gf : Nat → Nat → Int) (wh : Nat) (wa : Nat → Nat) (fo : Int) (le : Int) (la : Nat → Nat) (F : Nat → LsT) (pl : Nat) (wind : Nat) : Option Value → va_W → Prop := fun r ws => ∃ F' : Nat → LsT, r = none ∧ ws = [(wh, whE wa fo le), (wa 0, aN G 7 (laF la)), (go, goE ga ((n : Nat) : Int) ((d : Nat) : Int) ((c : Nat) : Int)), (ga 0, aI G 36 (gf 0)), (ga 1, aI G 7 (gf 1)), (ga 2, aI G 7 (gf 2)), (ga 3, aI G 7 (gf 3)), (ga 4, aI G 7 (gf 4)), (ga 5, aI G 6 (gf 5)), (ga 6, aI G 6 (gf 6)), (ga 7, aI G 8 (gf 7))] ++ lsW la F' ∧ ∀ i, i < n → F' i = lsV b pl wind i
abbrev W_X5_listen (G : XG) (E : XE) (go : Nat) (ga : Nat → Nat) (b : Nat → Int) (n : Nat) (d : Nat) (c : Nat) (gf : Nat → Nat → Int) (wh : Nat) (wa : Nat → Nat) (fo : Int) (le : Int) (la : Nat → Nat) (F : Nat → LsT) (pl : Nat) (wind : Nat) (pc : Nat) (lv : List (Nat × Value)) (st : List Value) (ws : va_W) : Prop := Wx G E (rmL 3) cX5_listen 5 RX5 wsX5_listen none "listen" 0 0 (P_X5_listen G go ga b n d c gf wh wa fo le la F pl wind) 0 0 pc lv st ws
theorem flX5_listen_23 : Cond.fieldLink RX5 23 (TX5 0).1 (TX5 0).2.1 (TX5 0).2.2.1 ∈ wsX5_listen := by decide +kernel
theorem flX5_listen_36 : Cond.fieldLink RX5 36 (TX0 0).1 (TX0 0).2.1 (TX0 0).2.2.1 ∈ wsX5_listen := by decide +kernel
theorem flX5_listen_46 : Cond.fieldLink RX5 46 (TX0 4).1 (TX0 4).2.1 (TX0 4).2.2.1 ∈ wsX5_listen := by decide +kernel
theorem flX5_listen_49 : Cond.fieldLink RX5 49 (TX0 5).1 (TX0 5).2.1 (TX0 5).2.2.1 ∈ wsX5_listen := by decide +kernel
theorem flX5_listen_56 : Cond.fieldLink RX5 56 (TX0 3).1 (TX0 3).2.1 (TX0 3).2.2.1 ∈ wsX5_listen := by decide +kernel
theorem flX5_listen_59 : Cond.fieldLink RX5 59 (TX0 6).1 (TX0 6).2.1 (TX0 6).2.2.1 ∈ wsX5_listen := by decide +kernel
theorem inX5_listen_X0 : ∀ w ∈ u_ws RX0 TX0 11, w ∈ wsX5_listen := fun _ h => List.mem_cons_of_mem _ (List.mem_append_left _ (List.mem_append_left _ (List.mem_append_right _ h)))
theorem inX5_listen_X5 : ∀ w ∈ u_ws RX5 TX5 7, w ∈ wsX5_listen := fun _ h => List.mem_cons_of_mem _ (List.mem_append_left _ (List.mem_append_right _ h))
set_option maxHeartbeats 4000000 in
set_option maxRecDepth 100000 in
/-- listen -/
theorem c_X5_listen (G : XG) (go : Nat) (ga : Nat → Nat) (b : Nat → Int) (n d c : Nat) (gf : Nat → Nat → Int) (I : Inv b n d c) (R : GR b n d c gf) (wh : Nat) (wa : Nat → Nat) (fo le : Int) (la : Nat → Nat) (F : Nat → LsT) (pl wind : Nat) (hpl : pl < 6) (hw : wind < 4) : Con G yX5_listen wsX5_listen (rmL 3) 0 0 [.ref wh, .ref go, .int (zI ((pl : Nat) : Int)), .int (zI ((wind : Nat) : Int))] ([(wh, whE wa fo le), (wa 0, aN G 7 (laF la)), (go, goE ga ((n : Nat) : Int) ((d : Nat) : Int) ((c : Nat) : Int)), (ga 0, aI G 36 (gf 0)), (ga 1, aI G 7 (gf 1)), (ga 2, aI G 7 (gf 2)), (ga 3, aI G 7 (gf 3)), (ga 4, aI G 7 (gf 4)), (ga 5, aI G 6 (gf 5)), (ga 6, aI G 6 (gf 6)), (ga 7, aI G 8 (gf 7))] ++ lsW la F) (P_X5_listen G go ga b n d c gf wh wa fo le la F pl wind) := by
  refine x_start (cc := cX5_listen) (nL := 5) (ret := none) (by decide) rfl (Nat.le_of_ble_eq_true rfl) (fun E => ?_)
  show W_X5_listen G E go ga b n d c gf wh wa fo le la F pl wind 0 [(0, .ref wh), (1, .ref go), (2, .int (zI ((pl : Nat) : Int))), (3, .int (zI ((wind : Nat) : Int)))] [] ([(wh, whE wa fo le), (wa 0, aN G 7 (laF la)), (go, goE ga ((n : Nat) : Int) ((d : Nat) : Int) ((c : Nat) : Int)), (ga 0, aI G 36 (gf 0)), (ga 1, aI G 7 (gf 1)), (ga 2, aI G 7 (gf 2)), (ga 3, aI G 7 (gf 3)), (ga 4, aI G 7 (gf 4)), (ga 5, aI G 6 (gf 5)), (ga 6, aI G 6 (gf 6)), (ga 7, aI G 8 (gf 7))] ++ lsW la F)
  have hn7 := I.n7
  have hd6 := I.d6
  have hc8 := I.c8
  refine x_iconst 1 rfl dX5_listen_0 (z := 0) (by decide) ?_
  refine x_istore 3 rfl (lv' := [(4, .int (zI 0)), (0, .ref wh), (1, .ref go), (2, .int (zI ((pl : Nat) : Int))), (3, .int (zI ((wind : Nat) : Int)))]) dX5_listen_1 (by decide) rfl ?_
  have L3 : ∀ (f3 : Nat) (k : Nat) (F1 : Nat → LsT) (hk : k ≤ n) (hf : ∀ i, i < k → F1 i = lsV b pl wind i), n - k < f3 → W_X5_listen G E go ga b n d c gf wh wa fo le la F pl wind 3 [(0, .ref wh), (1, .ref go), (2, .int (zI ((pl : Nat) : Int))), (3, .int (zI ((wind : Nat) : Int))), (4, .int (zI ((k : Nat) : Int)))] [] ([(wh, whE wa fo le), (wa 0, aN G 7 (laF la)), (go, goE ga ((n : Nat) : Int) ((d : Nat) : Int) ((c : Nat) : Int)), (ga 0, aI G 36 (gf 0)), (ga 1, aI G 7 (gf 1)), (ga 2, aI G 7 (gf 2)), (ga 3, aI G 7 (gf 3)), (ga 4, aI G 7 (gf 4)), (ga 5, aI G 6 (gf 5)), (ga 6, aI G 6 (gf 6)), (ga 7, aI G 8 (gf 7))] ++ lsW la F1) := by
    intro f3
    induction f3 with
    | zero => intro k F1 hk hf hf3; exact absurd hf3 (Nat.not_lt_zero _)
    | succ f3 ih3 =>
      intro k F1 hk hf hf3
      refine x_iload 5 rfl dX5_listen_3 4 rfl ?_
      refine x_aload_n 6 rfl dX5_listen_5 1 rfl ?_
      refine x_get 9 rfl (v := .int (zI ((n : Nat) : Int))) 2 0 rfl rfl (by decide) inX5_listen_X0 flX5_listen_36 rfl dX5_listen_6 ?_
      refine x_icmp_ge 12 rfl (tgt := 74) dX5_listen_9 (by decide) (by omega) (by omega) (fun h9 => ?_) (fun h9 => ?_)
      · skip
        refine x_vret rfl ?_ dX5_listen_74
        exact ⟨F1, rfl, rfl, fun i hi => hf i (by omega)⟩
      · skip
        have hkn : k < n := by omega
        have hek := I.e hkn
        have htk := I.t hkn
        have hpk := I.p hkn
        have hup := upN_r I hpl hpk.2
        refine x_aload_n 13 rfl dX5_listen_12 0 rfl ?_
        refine x_get 16 rfl (v := .ref (wa 0)) 0 0 rfl rfl (by decide) inX5_listen_X5 flX5_listen_23 rfl dX5_listen_13 ?_
        refine x_iload 18 rfl dX5_listen_16 4 rfl ?_
        refine x_aaldN 19 rfl 1 k rfl (⟨by omega, by omega⟩) (by decide) (rfl) dX5_listen_18 ?_
        refine x_aload_n 20 rfl dX5_listen_19 1 rfl ?_
        refine x_get 23 rfl (v := .ref (ga 1)) 2 4 rfl rfl (by decide) inX5_listen_X0 flX5_listen_46 rfl dX5_listen_20 ?_
        refine x_iload 25 rfl dX5_listen_23 4 rfl ?_
        refine x_iald 26 rfl 4 k rfl (⟨by omega, by omega⟩) (by decide) (v := ((eN b k : Nat) : Int)) (R.e I hkn) dX5_listen_25 ?_
        refine x_aload_n 27 rfl dX5_listen_26 1 rfl ?_
        refine x_get 30 rfl (v := .ref (ga 2)) 2 5 rfl rfl (by decide) inX5_listen_X0 flX5_listen_49 rfl dX5_listen_27 ?_
        refine x_iload 32 rfl dX5_listen_30 4 rfl ?_
        refine x_iald 33 rfl 5 k rfl (⟨by omega, by omega⟩) (by decide) (v := ((tN b k : Nat) : Int)) (R.t I hkn) dX5_listen_32 ?_
        refine x_iload_n 34 rfl dX5_listen_33 3 rfl ?_
        refine x_callV 37 rfl (c_X1_makeReady G (la k) (F1 k).1 (F1 k).2.1 (F1 k).2.2.1 (F1 k).2.2.2 (eN b k) (tN b k) wind (hek.2) (htk.2) (hw)) [11 + k] (congrArg (fun z => [z]) (lsW_get (k := k) rfl (by omega) (v := (F1 k)) rfl)) (rfl) (11 + k) (lsW_get (k := k) rfl (by omega) (v := (F1 k)) rfl) rfl gX5_listen_X1_makeReady rfl rfl rfl hd_X1_makeReady ⟨Nat.le_of_ble_eq_true rfl, Nat.le_of_ble_eq_true rfl⟩ (As := [.int (zI ((eN b k : Nat) : Int)), .int (zI ((tN b k : Nat) : Int)), .int (zI ((wind : Nat) : Int))]) (rest := []) rfl rfl (Nat.le_of_ble_eq_true rfl) dX5_listen_34 ⟨Nat.zero_le _, Nat.zero_le _⟩ (fun v w hq => ?_)
        obtain ⟨rfl, rfl⟩ := hq
        refine ⟨rfl, ?_⟩
        refine x_ws (ws' := [(wh, whE wa fo le), (wa 0, aN G 7 (laF la)), (go, goE ga ((n : Nat) : Int) ((d : Nat) : Int) ((c : Nat) : Int)), (ga 0, aI G 36 (gf 0)), (ga 1, aI G 7 (gf 1)), (ga 2, aI G 7 (gf 2)), (ga 3, aI G 7 (gf 3)), (ga 4, aI G 7 (gf 4)), (ga 5, aI G 6 (gf 5)), (ga 6, aI G 6 (gf 6)), (ga 7, aI G 8 (gf 7))] ++ lsW la (zup F1 k ((((eN b k : Nat) : Int), ((tN b k : Nat) : Int), ((leftN (if eN b k = 2 ∨ eN b k = 5 then halfN (tN b k) else tN b k) wind : Nat) : Int), decide (eN b k = 5 ∧ 1 < wind)) : LsT))) (lsW_plc (k := k) rfl (by omega) ((((eN b k : Nat) : Int), ((tN b k : Nat) : Int), ((leftN (if eN b k = 2 ∨ eN b k = 5 then halfN (tN b k) else tN b k) wind : Nat) : Int), decide (eN b k = 5 ∧ 1 < wind)) : LsT)) ?_
        refine x_iload_n 38 rfl dX5_listen_37 3 rfl ?_
        refine x_aload_n 39 rfl dX5_listen_38 1 rfl ?_
        refine x_get 42 rfl (v := .ref (ga 0)) 2 3 rfl rfl (by decide) inX5_listen_X0 flX5_listen_56 rfl dX5_listen_39 ?_
        refine x_iload_n 43 rfl dX5_listen_42 2 rfl ?_
        refine x_bipush 45 rfl dX5_listen_43 (z := 6) (by decide) ?_
        refine x_imul 46 rfl dX5_listen_45 (z := ((pl * 6 : Nat) : Int)) (by omega) ?_
        refine x_aload_n 47 rfl dX5_listen_46 1 rfl ?_
        refine x_get 50 rfl (v := .ref (ga 3)) 2 6 rfl rfl (by decide) inX5_listen_X0 flX5_listen_59 rfl dX5_listen_47 ?_
        refine x_iload 52 rfl dX5_listen_50 4 rfl ?_
        refine x_iald 53 rfl 6 k rfl (⟨by omega, by omega⟩) (by decide) (v := ((plN b k : Nat) : Int)) (R.p I hkn) dX5_listen_52 ?_
        refine x_iadd 54 rfl dX5_listen_53 (z := ((pl * 6 + (plN b k) : Nat) : Int)) (by omega) ?_
        refine x_iald 55 rfl 3 (pl * 6 + (plN b k)) rfl (⟨by omega, by omega⟩) (by decide) (v := upN b pl (plN b k)) (R.w hpl hpk.2) dX5_listen_54 ?_
        refine x_icmp_le 58 rfl (tgt := 68) dX5_listen_55 (by decide) (by omega) (by omega) (fun h55 => ?_) (fun h55 => ?_)
        · skip
          refine x_iinc 71 rfl (lv' := [(4, .int (zI ((k + 1 : Nat) : Int))), (0, .ref wh), (1, .ref go), (2, .int (zI ((pl : Nat) : Int))), (3, .int (zI ((wind : Nat) : Int)))]) dX5_listen_68 4 rfl (b := ((k + 1 : Nat) : Int)) (by omega) (by decide) rfl ?_
          refine x_goto dX5_listen_71 (tgt := 3) (by decide) ?_
          refine x_lv [1, 2, 3, 4, 0] rfl ?_
          exact ih3 (k + 1) (zup F1 k ((((eN b k : Nat) : Int), ((tN b k : Nat) : Int), ((leftN (if eN b k = 2 ∨ eN b k = 5 then halfN (tN b k) else tN b k) wind : Nat) : Int), decide (eN b k = 5 ∧ 1 < wind)) : LsT)) (by omega) (fun i hi => by
              by_cases e : i = k
              · subst e; rw [zup_s]; exact (lsV_a h55).symm
              · rw [zup_n _ _ e]; exact hf i (by omega)) (by omega)
        · skip
          refine x_aload_n 59 rfl dX5_listen_58 0 rfl ?_
          refine x_get 62 rfl (v := .ref (wa 0)) 0 0 rfl rfl (by decide) inX5_listen_X5 flX5_listen_23 rfl dX5_listen_59 ?_
          refine x_iload 64 rfl dX5_listen_62 4 rfl ?_
          refine x_aaldN 65 rfl 1 k rfl (⟨by omega, by omega⟩) (by decide) (rfl) dX5_listen_64 ?_
          refine x_callV 68 rfl (c_X1_fallAsleep G (la k) ((((eN b k : Nat) : Int), ((tN b k : Nat) : Int), ((leftN (if eN b k = 2 ∨ eN b k = 5 then halfN (tN b k) else tN b k) wind : Nat) : Int), decide (eN b k = 5 ∧ 1 < wind)) : LsT).1 ((((eN b k : Nat) : Int), ((tN b k : Nat) : Int), ((leftN (if eN b k = 2 ∨ eN b k = 5 then halfN (tN b k) else tN b k) wind : Nat) : Int), decide (eN b k = 5 ∧ 1 < wind)) : LsT).2.1 ((((eN b k : Nat) : Int), ((tN b k : Nat) : Int), ((leftN (if eN b k = 2 ∨ eN b k = 5 then halfN (tN b k) else tN b k) wind : Nat) : Int), decide (eN b k = 5 ∧ 1 < wind)) : LsT).2.2.1 ((((eN b k : Nat) : Int), ((tN b k : Nat) : Int), ((leftN (if eN b k = 2 ∨ eN b k = 5 then halfN (tN b k) else tN b k) wind : Nat) : Int), decide (eN b k = 5 ∧ 1 < wind)) : LsT).2.2.2) [11 + k] (congrArg (fun z => [z]) (lsW_get (k := k) rfl (by omega) (v := ((((eN b k : Nat) : Int), ((tN b k : Nat) : Int), ((leftN (if eN b k = 2 ∨ eN b k = 5 then halfN (tN b k) else tN b k) wind : Nat) : Int), decide (eN b k = 5 ∧ 1 < wind)) : LsT)) (zup_s _ _ _))) (rfl) (11 + k) (lsW_get (k := k) rfl (by omega) (v := ((((eN b k : Nat) : Int), ((tN b k : Nat) : Int), ((leftN (if eN b k = 2 ∨ eN b k = 5 then halfN (tN b k) else tN b k) wind : Nat) : Int), decide (eN b k = 5 ∧ 1 < wind)) : LsT)) (zup_s _ _ _)) rfl gX5_listen_X1_fallAsleep rfl rfl rfl hd_X1_fallAsleep ⟨Nat.le_of_ble_eq_true rfl, Nat.le_of_ble_eq_true rfl⟩ (As := []) (rest := []) rfl rfl (Nat.le_of_ble_eq_true rfl) dX5_listen_65 ⟨Nat.zero_le _, Nat.zero_le _⟩ (fun v w hq => ?_)
          obtain ⟨rfl, rfl⟩ := hq
          refine ⟨rfl, ?_⟩
          refine x_ws (ws' := [(wh, whE wa fo le), (wa 0, aN G 7 (laF la)), (go, goE ga ((n : Nat) : Int) ((d : Nat) : Int) ((c : Nat) : Int)), (ga 0, aI G 36 (gf 0)), (ga 1, aI G 7 (gf 1)), (ga 2, aI G 7 (gf 2)), (ga 3, aI G 7 (gf 3)), (ga 4, aI G 7 (gf 4)), (ga 5, aI G 6 (gf 5)), (ga 6, aI G 6 (gf 6)), (ga 7, aI G 8 (gf 7))] ++ lsW la (zup (zup F1 k ((((eN b k : Nat) : Int), ((tN b k : Nat) : Int), ((leftN (if eN b k = 2 ∨ eN b k = 5 then halfN (tN b k) else tN b k) wind : Nat) : Int), decide (eN b k = 5 ∧ 1 < wind)) : LsT)) k ((((eN b k : Nat) : Int), ((tN b k : Nat) : Int), ((leftN (if eN b k = 2 ∨ eN b k = 5 then halfN (tN b k) else tN b k) wind : Nat) : Int), true) : LsT))) (lsW_plc (k := k) rfl (by omega) ((((eN b k : Nat) : Int), ((tN b k : Nat) : Int), ((leftN (if eN b k = 2 ∨ eN b k = 5 then halfN (tN b k) else tN b k) wind : Nat) : Int), true) : LsT)) ?_
          refine x_iinc 71 rfl (lv' := [(4, .int (zI ((k + 1 : Nat) : Int))), (0, .ref wh), (1, .ref go), (2, .int (zI ((pl : Nat) : Int))), (3, .int (zI ((wind : Nat) : Int)))]) dX5_listen_68 4 rfl (b := ((k + 1 : Nat) : Int)) (by omega) (by decide) rfl ?_
          refine x_goto dX5_listen_71 (tgt := 3) (by decide) ?_
          refine x_lv [1, 2, 3, 4, 0] rfl ?_
          exact ih3 (k + 1) (zup (zup F1 k ((((eN b k : Nat) : Int), ((tN b k : Nat) : Int), ((leftN (if eN b k = 2 ∨ eN b k = 5 then halfN (tN b k) else tN b k) wind : Nat) : Int), decide (eN b k = 5 ∧ 1 < wind)) : LsT)) k ((((eN b k : Nat) : Int), ((tN b k : Nat) : Int), ((leftN (if eN b k = 2 ∨ eN b k = 5 then halfN (tN b k) else tN b k) wind : Nat) : Int), true) : LsT)) (by omega) (fun i hi => by
              by_cases e : i = k
              · subst e; rw [zup_s]; exact (lsV_s h55).symm
              · rw [zup_n _ _ e, zup_n _ _ e]; exact hf i (by omega)) (by omega)
  refine x_lv [1, 2, 3, 4, 0] rfl ?_
  exact L3 _ 0 F (by omega) (fun i hi => absurd hi (Nat.not_lt_zero _)) (Nat.lt_succ_self _)

abbrev P_X5_turnersReady (G : XG) (b : Nat → Int) (n : Nat) (d : Nat) (c : Nat) (wh : Nat) (wa : Nat → Nat) (fo : Int) (le : Int) (la : Nat → Nat) (F : Nat → LsT) (pl : Nat) (wind : Nat) (tune : Nat) : Option Value → va_W → Prop := fun r ws => r = some (.int (zI ((calN b n pl tune wind : Nat) : Int))) ∧ ws = [(wh, whE wa fo le), (wa 0, aN G 7 (laF la))] ++ lsW la F
abbrev W_X5_turnersReady (G : XG) (E : XE) (b : Nat → Int) (n : Nat) (d : Nat) (c : Nat) (wh : Nat) (wa : Nat → Nat) (fo : Int) (le : Int) (la : Nat → Nat) (F : Nat → LsT) (pl : Nat) (wind : Nat) (tune : Nat) (pc : Nat) (lv : List (Nat × Value)) (st : List Value) (ws : va_W) : Prop := Wx G E (rmL 3) cX5_turnersReady 7 RX5 wsX5_turnersReady (some .int) "turnersReady" 0 0 (P_X5_turnersReady G b n d c wh wa fo le la F pl wind tune) 0 0 pc lv st ws
theorem flX5_turnersReady_23 : Cond.fieldLink RX5 23 (TX5 0).1 (TX5 0).2.1 (TX5 0).2.2.1 ∈ wsX5_turnersReady := by decide +kernel
theorem inX5_turnersReady_X5 : ∀ w ∈ u_ws RX5 TX5 7, w ∈ wsX5_turnersReady := fun _ h => List.mem_cons_of_mem _ (List.mem_append_left _ (List.mem_append_right _ h))
set_option maxHeartbeats 4000000 in
set_option maxRecDepth 100000 in
/-- turnersReady -/
theorem c_X5_turnersReady (G : XG) (b : Nat → Int) (n d c : Nat) (I : Inv b n d c) (wh : Nat) (wa : Nat → Nat) (fo le : Int) (la : Nat → Nat) (F : Nat → LsT) (pl wind tune : Nat) (hw : wind < 4) (hF : ∀ i, i < n → F i = lsV b pl wind i) (ht : vt tune) : Con G yX5_turnersReady wsX5_turnersReady (rmL 3) 0 0 [.ref wh, .int (zI ((n : Nat) : Int)), .int (zI ((tune : Nat) : Int)), .int (zI ((wind : Nat) : Int))] ([(wh, whE wa fo le), (wa 0, aN G 7 (laF la))] ++ lsW la F) (P_X5_turnersReady G b n d c wh wa fo le la F pl wind tune) := by
  refine x_start (cc := cX5_turnersReady) (nL := 7) (ret := (some .int)) (by decide) rfl (Nat.le_of_ble_eq_true rfl) (fun E => ?_)
  show W_X5_turnersReady G E b n d c wh wa fo le la F pl wind tune 0 [(0, .ref wh), (1, .int (zI ((n : Nat) : Int))), (2, .int (zI ((tune : Nat) : Int))), (3, .int (zI ((wind : Nat) : Int)))] [] ([(wh, whE wa fo le), (wa 0, aN G 7 (laF la))] ++ lsW la F)
  have hn7 := I.n7
  have htt := vt_lt ht
  refine x_iload_n 1 rfl dX5_turnersReady_0 2 rfl ?_
  refine x_iload_n 2 rfl dX5_turnersReady_1 3 rfl ?_
  refine x_callS0 5 rfl (c_X4_lessLost G tune wind ht (by omega)) (fun _ _ h => h.2) gX5_turnersReady_X4_lessLost rfl rfl rfl hd_X4_lessLost ⟨Nat.le_of_ble_eq_true rfl, Nat.le_of_ble_eq_true rfl⟩ (As := [.int (zI ((tune : Nat) : Int)), .int (zI ((wind : Nat) : Int))]) (rest := []) rfl rfl (Nat.le_of_ble_eq_true rfl) dX5_turnersReady_2 ⟨Nat.zero_le _, Nat.zero_le _⟩ (fun v hq => ?_)
  obtain ⟨rfl, -⟩ := hq
  refine x_istore 7 rfl (lv' := [(4, .int (zI ((leftN tune wind : Nat) : Int))), (0, .ref wh), (1, .int (zI ((n : Nat) : Int))), (2, .int (zI ((tune : Nat) : Int))), (3, .int (zI ((wind : Nat) : Int)))]) dX5_turnersReady_5 (by decide) rfl ?_
  refine x_iconst 8 rfl dX5_turnersReady_7 (z := 0) (by decide) ?_
  refine x_istore 10 rfl (lv' := [(5, .int (zI 0)), (4, .int (zI ((leftN tune wind : Nat) : Int))), (0, .ref wh), (1, .int (zI ((n : Nat) : Int))), (2, .int (zI ((tune : Nat) : Int))), (3, .int (zI ((wind : Nat) : Int)))]) dX5_turnersReady_8 (by decide) rfl ?_
  refine x_iconst 11 rfl dX5_turnersReady_10 (z := 0) (by decide) ?_
  refine x_istore 13 rfl (lv' := [(6, .int (zI 0)), (5, .int (zI 0)), (4, .int (zI ((leftN tune wind : Nat) : Int))), (0, .ref wh), (1, .int (zI ((n : Nat) : Int))), (2, .int (zI ((tune : Nat) : Int))), (3, .int (zI ((wind : Nat) : Int)))]) dX5_turnersReady_11 (by decide) rfl ?_
  have L13 : ∀ (f13 : Nat) (k : Nat) (hk : k ≤ n), n - k < f13 → W_X5_turnersReady G E b n d c wh wa fo le la F pl wind tune 13 [(0, .ref wh), (1, .int (zI ((n : Nat) : Int))), (2, .int (zI ((tune : Nat) : Int))), (3, .int (zI ((wind : Nat) : Int))), (4, .int (zI ((leftN tune wind : Nat) : Int))), (5, .int (zI ((bitF (tb b pl tune wind) k : Nat) : Int))), (6, .int (zI ((k : Nat) : Int)))] [] ([(wh, whE wa fo le), (wa 0, aN G 7 (laF la))] ++ lsW la F) := by
    intro f13
    induction f13 with
    | zero => intro k hk hf13; exact absurd hf13 (Nat.not_lt_zero _)
    | succ f13 ih13 =>
      intro k hk hf13
      refine x_iload 15 rfl dX5_turnersReady_13 6 rfl ?_
      refine x_iload_n 16 rfl dX5_turnersReady_15 1 rfl ?_
      refine x_icmp_ge 19 rfl (tgt := 50) dX5_turnersReady_16 (by decide) (by omega) (by omega) (fun h16 => ?_) (fun h16 => ?_)
      · skip
        refine x_iload 52 rfl dX5_turnersReady_50 5 rfl ?_
        refine x_iret rfl ?_ dX5_turnersReady_52
        have e : k = n := by omega
        exact ⟨by rw [e]; rfl, rfl⟩
      · skip
        have hkn : k < n := by omega
        have hek := I.e hkn
        have htk := I.t hkn
        have htk8 := vt_lt htk.2
        have hbl := bitF_lt (tb b pl tune wind) k
        have hpk : 2 ^ k ≤ 2 ^ 6 := Nat.pow_le_pow_right (by decide) (by omega)
        refine x_aload_n 20 rfl dX5_turnersReady_19 0 rfl ?_
        refine x_get 23 rfl (v := .ref (wa 0)) 0 0 rfl rfl (by decide) inX5_turnersReady_X5 flX5_turnersReady_23 rfl dX5_turnersReady_20 ?_
        refine x_iload 25 rfl dX5_turnersReady_23 6 rfl ?_
        refine x_aaldN 26 rfl 1 k rfl (⟨by omega, by omega⟩) (by decide) (rfl) dX5_turnersReady_25 ?_
        refine x_iload_n 27 rfl dX5_turnersReady_26 2 rfl ?_
        refine x_iload 29 rfl dX5_turnersReady_27 4 rfl ?_
        refine x_callV 32 rfl (c_X1_turnsAt G (la k) (eN b k) (tN b k) (leftN (if eN b k = 2 ∨ eN b k = 5 then halfN (tN b k) else tN b k) wind) (decide (eN b k = 5 ∧ 1 < wind) || decide (upN b pl (plN b k) < (wind : Int))) tune (leftN tune wind) (hek.2) (by omega) (by omega) (left_vt tune htt ht wind hw) (his_vt htk.2 hw)) [2 + k] (congrArg (fun z => [z]) (lsW_get (k := k) rfl (by omega) (v := (lsV b pl wind k)) (hF k hkn))) (rfl) (2 + k) (lsW_get (k := k) rfl (by omega) (v := (lsV b pl wind k)) (hF k hkn)) rfl gX5_turnersReady_X1_turnsAt rfl rfl rfl hd_X1_turnsAt ⟨Nat.le_of_ble_eq_true rfl, Nat.le_of_ble_eq_true rfl⟩ (As := [.int (zI ((tune : Nat) : Int)), .int (zI ((leftN tune wind : Nat) : Int))]) (rest := []) rfl rfl (Nat.le_of_ble_eq_true rfl) dX5_turnersReady_29 ⟨Nat.zero_le _, Nat.zero_le _⟩ (fun v w hq => ?_)
        obtain ⟨rfl, rfl⟩ := hq
        refine ⟨rfl, ?_⟩
        refine x_ws (ws' := [(wh, whE wa fo le), (wa 0, aN G 7 (laF la))] ++ lsW la F) (lsW_same (k := k) rfl (by omega) (v := (lsV b pl wind k)) (hF k hkn)) ?_
        refine x_int (y := (zB (tb b pl tune wind k))) (congrArg zB (tAt_tb I hkn hw ht)) ?_
        refine x_bif_eq 35 rfl (tgt := 44) dX5_turnersReady_32 (by decide) (fun h32 => ?_) (fun h32 => ?_)
        · skip
          refine x_iinc 47 rfl (lv' := [(6, .int (zI ((k + 1 : Nat) : Int))), (0, .ref wh), (1, .int (zI ((n : Nat) : Int))), (2, .int (zI ((tune : Nat) : Int))), (3, .int (zI ((wind : Nat) : Int))), (4, .int (zI ((leftN tune wind : Nat) : Int))), (5, .int (zI ((bitF (tb b pl tune wind) k : Nat) : Int)))]) dX5_turnersReady_44 6 rfl (b := ((k + 1 : Nat) : Int)) (by omega) (by decide) rfl ?_
          refine x_goto dX5_turnersReady_47 (tgt := 13) (by decide) ?_
          refine x_lve (congrArg (fun zz : Int => ([(6, .int (zI ((k + 1 : Nat) : Int))), (0, .ref wh), (1, .int (zI ((n : Nat) : Int))), (2, .int (zI ((tune : Nat) : Int))), (3, .int (zI ((wind : Nat) : Int))), (4, .int (zI ((leftN tune wind : Nat) : Int))), (5, .int (zI zz))] : List (Nat × Value))) (by first | rw [bitF_t h32] | rw [bitF_f h32] : ((bitF (tb b pl tune wind) k : Nat) : Int) = ((bitF (tb b pl tune wind) (k + 1) : Nat) : Int))) ?_
          refine x_lv [1, 2, 3, 4, 5, 6, 0] rfl ?_
          exact ih13 (k + 1) (by omega) (by omega)
        · skip
          refine x_iload 37 rfl dX5_turnersReady_35 5 rfl ?_
          refine x_iconst 38 rfl dX5_turnersReady_37 (z := 1) (by decide) ?_
          refine x_iload 40 rfl dX5_turnersReady_38 6 rfl ?_
          refine x_ishl 41 rfl dX5_turnersReady_40 (z := ((2 ^ k : Nat) : Int)) (zI_shl1 (i := k) (by omega)) ?_
          refine x_ior 42 rfl dX5_turnersReady_41 (z := (((bitF (tb b pl tune wind) k) ||| (2 ^ k) : Nat) : Int)) (zI_or (a := (bitF (tb b pl tune wind) k)) (b := (2 ^ k)) (by omega) (by omega)) ?_
          refine x_istore 44 rfl (lv' := [(5, .int (zI (((bitF (tb b pl tune wind) k) ||| (2 ^ k) : Nat) : Int))), (0, .ref wh), (1, .int (zI ((n : Nat) : Int))), (2, .int (zI ((tune : Nat) : Int))), (3, .int (zI ((wind : Nat) : Int))), (4, .int (zI ((leftN tune wind : Nat) : Int))), (6, .int (zI ((k : Nat) : Int)))]) dX5_turnersReady_42 (by decide) rfl ?_
          refine x_iinc 47 rfl (lv' := [(6, .int (zI ((k + 1 : Nat) : Int))), (5, .int (zI (((bitF (tb b pl tune wind) k) ||| (2 ^ k) : Nat) : Int))), (0, .ref wh), (1, .int (zI ((n : Nat) : Int))), (2, .int (zI ((tune : Nat) : Int))), (3, .int (zI ((wind : Nat) : Int))), (4, .int (zI ((leftN tune wind : Nat) : Int)))]) dX5_turnersReady_44 6 rfl (b := ((k + 1 : Nat) : Int)) (by omega) (by decide) rfl ?_
          refine x_goto dX5_turnersReady_47 (tgt := 13) (by decide) ?_
          refine x_lve (congrArg (fun zz : Int => ([(6, .int (zI ((k + 1 : Nat) : Int))), (5, .int (zI zz)), (0, .ref wh), (1, .int (zI ((n : Nat) : Int))), (2, .int (zI ((tune : Nat) : Int))), (3, .int (zI ((wind : Nat) : Int))), (4, .int (zI ((leftN tune wind : Nat) : Int)))] : List (Nat × Value))) (by first | rw [bitF_t h32] | rw [bitF_f h32] : (((bitF (tb b pl tune wind) k) ||| (2 ^ k) : Nat) : Int) = ((bitF (tb b pl tune wind) (k + 1) : Nat) : Int))) ?_
          refine x_lv [2, 3, 4, 5, 6, 1, 0] rfl ?_
          exact ih13 (k + 1) (by omega) (by omega)
  refine x_lve (congrArg (fun zz : Int => ([(6, .int (zI 0)), (5, .int (zI zz)), (4, .int (zI ((leftN tune wind : Nat) : Int))), (0, .ref wh), (1, .int (zI ((n : Nat) : Int))), (2, .int (zI ((tune : Nat) : Int))), (3, .int (zI ((wind : Nat) : Int)))] : List (Nat × Value))) (rfl : 0 = ((bitF (tb b pl tune wind) 0 : Nat) : Int))) ?_
  refine x_lv [3, 4, 5, 6, 2, 1, 0] rfl ?_
  exact L13 _ 0 (by omega) (Nat.lt_succ_self _)

abbrev P_X5_turners (G : XG) (go : Nat) (ga : Nat → Nat) (b : Nat → Int) (n : Nat) (d : Nat) (c : Nat) (gf : Nat → Nat → Int) (wh : Nat) (wa : Nat → Nat) (fo : Int) (le : Int) (la : Nat → Nat) (F : Nat → LsT) (pl : Nat) (wind : Nat) (tune : Nat) : Option Value → va_W → Prop := fun r ws => ∃ F' : Nat → LsT, r = some (.int (zI ((calN b n pl tune wind : Nat) : Int))) ∧ ws = [(wh, whE wa fo le), (wa 0, aN G 7 (laF la)), (go, goE ga ((n : Nat) : Int) ((d : Nat) : Int) ((c : Nat) : Int)), (ga 0, aI G 36 (gf 0)), (ga 1, aI G 7 (gf 1)), (ga 2, aI G 7 (gf 2)), (ga 3, aI G 7 (gf 3)), (ga 4, aI G 7 (gf 4)), (ga 5, aI G 6 (gf 5)), (ga 6, aI G 6 (gf 6)), (ga 7, aI G 8 (gf 7))] ++ lsW la F'
abbrev W_X5_turners (G : XG) (E : XE) (go : Nat) (ga : Nat → Nat) (b : Nat → Int) (n : Nat) (d : Nat) (c : Nat) (gf : Nat → Nat → Int) (wh : Nat) (wa : Nat → Nat) (fo : Int) (le : Int) (la : Nat → Nat) (F : Nat → LsT) (pl : Nat) (wind : Nat) (tune : Nat) (pc : Nat) (lv : List (Nat × Value)) (st : List Value) (ws : va_W) : Prop := Wx G E (rmL 4) cX5_turners 5 RX5 wsX5_turners (some .int) "turners" 0 0 (P_X5_turners G go ga b n d c gf wh wa fo le la F pl wind tune) 0 0 pc lv st ws
theorem flX5_turners_36 : Cond.fieldLink RX5 36 (TX0 0).1 (TX0 0).2.1 (TX0 0).2.2.1 ∈ wsX5_turners := by decide +kernel
theorem inX5_turners_X0 : ∀ w ∈ u_ws RX0 TX0 11, w ∈ wsX5_turners := fun _ h => List.mem_cons_of_mem _ (List.mem_append_left _ (List.mem_append_left _ (List.mem_append_right _ h)))
set_option maxHeartbeats 4000000 in
set_option maxRecDepth 100000 in
/-- turners -/
theorem c_X5_turners (G : XG) (go : Nat) (ga : Nat → Nat) (b : Nat → Int) (n d c : Nat) (gf : Nat → Nat → Int) (I : Inv b n d c) (R : GR b n d c gf) (wh : Nat) (wa : Nat → Nat) (fo le : Int) (la : Nat → Nat) (F : Nat → LsT) (pl wind tune : Nat) (hpl : pl < 6) (hw : wind < 4) (ht : vt tune) : Con G yX5_turners wsX5_turners (rmL 4) 0 0 [.ref wh, .ref go, .int (zI ((pl : Nat) : Int)), .int (zI ((tune : Nat) : Int)), .int (zI ((wind : Nat) : Int))] ([(wh, whE wa fo le), (wa 0, aN G 7 (laF la)), (go, goE ga ((n : Nat) : Int) ((d : Nat) : Int) ((c : Nat) : Int)), (ga 0, aI G 36 (gf 0)), (ga 1, aI G 7 (gf 1)), (ga 2, aI G 7 (gf 2)), (ga 3, aI G 7 (gf 3)), (ga 4, aI G 7 (gf 4)), (ga 5, aI G 6 (gf 5)), (ga 6, aI G 6 (gf 6)), (ga 7, aI G 8 (gf 7))] ++ lsW la F) (P_X5_turners G go ga b n d c gf wh wa fo le la F pl wind tune) := by
  refine x_start (cc := cX5_turners) (nL := 5) (ret := (some .int)) (by decide) rfl (Nat.le_of_ble_eq_true rfl) (fun E => ?_)
  show W_X5_turners G E go ga b n d c gf wh wa fo le la F pl wind tune 0 [(0, .ref wh), (1, .ref go), (2, .int (zI ((pl : Nat) : Int))), (3, .int (zI ((tune : Nat) : Int))), (4, .int (zI ((wind : Nat) : Int)))] [] ([(wh, whE wa fo le), (wa 0, aN G 7 (laF la)), (go, goE ga ((n : Nat) : Int) ((d : Nat) : Int) ((c : Nat) : Int)), (ga 0, aI G 36 (gf 0)), (ga 1, aI G 7 (gf 1)), (ga 2, aI G 7 (gf 2)), (ga 3, aI G 7 (gf 3)), (ga 4, aI G 7 (gf 4)), (ga 5, aI G 6 (gf 5)), (ga 6, aI G 6 (gf 6)), (ga 7, aI G 8 (gf 7))] ++ lsW la F)
  have hn7 := I.n7
  have hd6 := I.d6
  have hc8 := I.c8
  refine x_aload_n 1 rfl dX5_turners_0 0 rfl ?_
  refine x_aload_n 2 rfl dX5_turners_1 1 rfl ?_
  refine x_iload_n 3 rfl dX5_turners_2 2 rfl ?_
  refine x_iload 5 rfl dX5_turners_3 4 rfl ?_
  refine x_callV 8 rfl (c_X5_listen G go ga b n d c gf I R wh wa fo le la F pl wind (by omega) (by omega)) [0, 1, 2, 3, 4, 5, 6, 7, 8, 9, 10, 11, 12, 13, 14, 15, 16, 17] rfl (by decide) 0 rfl rfl gX5_turners_X5_listen rfl rfl rfl hd_X5_listen ⟨Nat.le_of_ble_eq_true rfl, Nat.le_of_ble_eq_true rfl⟩ (As := [.ref go, .int (zI ((pl : Nat) : Int)), .int (zI ((wind : Nat) : Int))]) (rest := []) rfl rfl (Nat.le_of_ble_eq_true rfl) dX5_turners_5 ⟨Nat.zero_le _, Nat.zero_le _⟩ (fun v w hq => ?_)
  obtain ⟨Fz_1, rfl, rfl, hFz_2⟩ := hq
  refine ⟨rfl, ?_⟩
  refine x_ws (ws' := [(wh, whE wa fo le), (wa 0, aN G 7 (laF la)), (go, goE ga ((n : Nat) : Int) ((d : Nat) : Int) ((c : Nat) : Int)), (ga 0, aI G 36 (gf 0)), (ga 1, aI G 7 (gf 1)), (ga 2, aI G 7 (gf 2)), (ga 3, aI G 7 (gf 3)), (ga 4, aI G 7 (gf 4)), (ga 5, aI G 6 (gf 5)), (ga 6, aI G 6 (gf 6)), (ga 7, aI G 8 (gf 7))] ++ lsW la Fz_1) (rfl) ?_
  have hFc := hFz_2
  refine x_aload_n 9 rfl dX5_turners_8 0 rfl ?_
  refine x_aload_n 10 rfl dX5_turners_9 1 rfl ?_
  refine x_get 13 rfl (v := .int (zI ((n : Nat) : Int))) 2 0 rfl rfl (by decide) inX5_turners_X0 flX5_turners_36 rfl dX5_turners_10 ?_
  refine x_iload_n 14 rfl dX5_turners_13 3 rfl ?_
  refine x_iload 16 rfl dX5_turners_14 4 rfl ?_
  refine x_callV 19 rfl (c_X5_turnersReady G b n d c I wh wa fo le la Fz_1 pl wind tune (by omega) (hFc) (ht)) [0, 1, 11, 12, 13, 14, 15, 16, 17] rfl (by decide) 0 rfl rfl gX5_turners_X5_turnersReady rfl rfl rfl hd_X5_turnersReady ⟨Nat.le_of_ble_eq_true rfl, Nat.le_of_ble_eq_true rfl⟩ (As := [.int (zI ((n : Nat) : Int)), .int (zI ((tune : Nat) : Int)), .int (zI ((wind : Nat) : Int))]) (rest := []) rfl rfl (Nat.le_of_ble_eq_true rfl) dX5_turners_16 ⟨Nat.zero_le _, Nat.zero_le _⟩ (fun v w hq => ?_)
  obtain ⟨rfl, rfl⟩ := hq
  refine ⟨rfl, ?_⟩
  refine x_ws (ws' := [(wh, whE wa fo le), (wa 0, aN G 7 (laF la)), (go, goE ga ((n : Nat) : Int) ((d : Nat) : Int) ((c : Nat) : Int)), (ga 0, aI G 36 (gf 0)), (ga 1, aI G 7 (gf 1)), (ga 2, aI G 7 (gf 2)), (ga 3, aI G 7 (gf 3)), (ga 4, aI G 7 (gf 4)), (ga 5, aI G 6 (gf 5)), (ga 6, aI G 6 (gf 6)), (ga 7, aI G 8 (gf 7))] ++ lsW la Fz_1) (rfl) ?_
  refine x_iret rfl ?_ dX5_turners_19
  exact ⟨_, rfl, rfl⟩

theorem wsF_z (g : Nat → Bool) : ∀ k, (wsF g k).1 = 0 ↔ (wsF g k).2 = -1
  | 0 => ⟨fun _ => rfl, fun _ => rfl⟩
  | k + 1 => by
    have h := wsF_z g k
    have r := wsF_r g k
    cases hg : g k with
    | false => rw [wsF_f hg]; exact h
    | true => rw [wsF_1 hg, wsF_2 hg]; split <;> omega
theorem wsF_t0 {g : Nat → Bool} {k : Nat} (hg : g k = true) (h : (wsF g k).1 = 0) : ((wsF g k).1 + 1, (k : Int)) = wsF g (k + 1) :=
  Prod.ext (wsF_1 hg).symm (by rw [wsF_2 hg, if_pos ((wsF_z g k).mp h)])
theorem wsF_t1 {g : Nat → Bool} {k : Nat} (hg : g k = true) (h : (wsF g k).1 ≠ 0) : ((wsF g k).1 + 1, (wsF g k).2) = wsF g (k + 1) :=
  Prod.ext (wsF_1 hg).symm (by rw [wsF_2 hg, if_neg (fun e => h ((wsF_z g k).mpr e))])
theorem wsF_gap {g : Nat → Bool} {a : Nat} : ∀ k, (∀ i, a ≤ i → i < a + k → g i = false) → wsF g (a + k) = wsF g a
  | 0, _ => rfl
  | k + 1, h => (wsF_f (h (a + k) (by omega) (by omega))).trans (wsF_gap k (fun i h1 h2 => h i h1 (by omega)))
theorem whG_gap {b : Nat → Int} {n pl wind : Nat} {who : Int} {k : Nat} (hk : k ≤ 4) : wsF (whG b n pl wind who) (4 ^ (k + 1)) = wsF (whG b n pl wind who) (2 * 4 ^ k) := by
  have e : 4 ^ (k + 1) = 2 * 4 ^ k + 2 * 4 ^ k := by rw [Nat.pow_succ]; omega
  rw [e]
  refine wsF_gap _ (fun i h1 h2 => ?_)
  have hv : vtb i = false := by
    cases hq : vtb i with
    | false => rfl
    | true =>
      exfalso
      have hv := vtb_iff.mp hq
      have : k = 0 ∨ k = 1 ∨ k = 2 ∨ k = 3 ∨ k = 4 := by omega
      rcases this with rfl | rfl | rfl | rfl | rfl <;> (unfold vt at hv; omega)
  unfold whG; rw [hv]; rfl
theorem whG_0 {b : Nat → Int} {n pl wind : Nat} {who : Int} : ((0, -1) : Int × Int) = wsF (whG b n pl wind who) (2 * 4 ^ 0) := rfl
abbrev P_X5_findWhistled (G : XG) (go : Nat) (ga : Nat → Nat) (b : Nat → Int) (n : Nat) (d : Nat) (c : Nat) (gf : Nat → Nat → Int) (wh : Nat) (wa : Nat → Nat) (fo : Int) (le : Int) (la : Nat → Nat) (F : Nat → LsT) (pl : Nat) (wind : Nat) (who : Int) : Option Value → va_W → Prop := fun r ws => ∃ F' : Nat → LsT, r = none ∧ ws = [(wh, whE wa ((whN b n pl wind who).1) ((whN b n pl wind who).2)), (wa 0, aN G 7 (laF la)), (go, goE ga ((n : Nat) : Int) ((d : Nat) : Int) ((c : Nat) : Int)), (ga 0, aI G 36 (gf 0)), (ga 1, aI G 7 (gf 1)), (ga 2, aI G 7 (gf 2)), (ga 3, aI G 7 (gf 3)), (ga 4, aI G 7 (gf 4)), (ga 5, aI G 6 (gf 5)), (ga 6, aI G 6 (gf 6)), (ga 7, aI G 8 (gf 7))] ++ lsW la F'
abbrev W_X5_findWhistled (G : XG) (E : XE) (go : Nat) (ga : Nat → Nat) (b : Nat → Int) (n : Nat) (d : Nat) (c : Nat) (gf : Nat → Nat → Int) (wh : Nat) (wa : Nat → Nat) (fo : Int) (le : Int) (la : Nat → Nat) (F : Nat → LsT) (pl : Nat) (wind : Nat) (who : Int) (pc : Nat) (lv : List (Nat × Value)) (st : List Value) (ws : va_W) : Prop := Wx G E (rmL 4) cX5_findWhistled 8 RX5 wsX5_findWhistled none "findWhistled" 0 0 (P_X5_findWhistled G go ga b n d c gf wh wa fo le la F pl wind who) 0 0 pc lv st ws
theorem flX5_findWhistled_36 : Cond.fieldLink RX5 36 (TX0 0).1 (TX0 0).2.1 (TX0 0).2.2.1 ∈ wsX5_findWhistled := by decide +kernel
theorem flX5_findWhistled_75 : Cond.fieldLink RX5 75 (TX5 5).1 (TX5 5).2.1 (TX5 5).2.2.1 ∈ wsX5_findWhistled := by decide +kernel
theorem flX5_findWhistled_78 : Cond.fieldLink RX5 78 (TX5 6).1 (TX5 6).2.1 (TX5 6).2.2.1 ∈ wsX5_findWhistled := by decide +kernel
theorem inX5_findWhistled_X0 : ∀ w ∈ u_ws RX0 TX0 11, w ∈ wsX5_findWhistled := fun _ h => List.mem_cons_of_mem _ (List.mem_append_left _ (List.mem_append_right _ h))
theorem inX5_findWhistled_X5 : ∀ w ∈ u_ws RX5 TX5 7, w ∈ wsX5_findWhistled := fun _ h => List.mem_cons_of_mem _ (List.mem_append_left _ (List.mem_append_left _ (List.mem_append_right _ h)))
set_option maxHeartbeats 4000000 in
set_option maxRecDepth 100000 in
/-- findWhistled -/
theorem c_X5_findWhistled (G : XG) (go : Nat) (ga : Nat → Nat) (b : Nat → Int) (n d c : Nat) (gf : Nat → Nat → Int) (I : Inv b n d c) (R : GR b n d c gf) (wh : Nat) (wa : Nat → Nat) (fo le : Int) (la : Nat → Nat) (F : Nat → LsT) (pl wind : Nat) (who : Int) (hpl : pl < 6) (hw : wind < 4) (hwho : Z32 who) : Con G yX5_findWhistled wsX5_findWhistled (rmL 4) 0 0 [.ref wh, .ref go, .int (zI ((pl : Nat) : Int)), .int (zI ((wind : Nat) : Int)), .int (zI who)] ([(wh, whE wa fo le), (wa 0, aN G 7 (laF la)), (go, goE ga ((n : Nat) : Int) ((d : Nat) : Int) ((c : Nat) : Int)), (ga 0, aI G 36 (gf 0)), (ga 1, aI G 7 (gf 1)), (ga 2, aI G 7 (gf 2)), (ga 3, aI G 7 (gf 3)), (ga 4, aI G 7 (gf 4)), (ga 5, aI G 6 (gf 5)), (ga 6, aI G 6 (gf 6)), (ga 7, aI G 8 (gf 7))] ++ lsW la F) (P_X5_findWhistled G go ga b n d c gf wh wa fo le la F pl wind who) := by
  refine x_start (cc := cX5_findWhistled) (nL := 8) (ret := none) (by decide) rfl (Nat.le_of_ble_eq_true rfl) (fun E => ?_)
  show W_X5_findWhistled G E go ga b n d c gf wh wa fo le la F pl wind who 0 [(0, .ref wh), (1, .ref go), (2, .int (zI ((pl : Nat) : Int))), (3, .int (zI ((wind : Nat) : Int))), (4, .int (zI who))] [] ([(wh, whE wa fo le), (wa 0, aN G 7 (laF la)), (go, goE ga ((n : Nat) : Int) ((d : Nat) : Int) ((c : Nat) : Int)), (ga 0, aI G 36 (gf 0)), (ga 1, aI G 7 (gf 1)), (ga 2, aI G 7 (gf 2)), (ga 3, aI G 7 (gf 3)), (ga 4, aI G 7 (gf 4)), (ga 5, aI G 6 (gf 5)), (ga 6, aI G 6 (gf 6)), (ga 7, aI G 8 (gf 7))] ++ lsW la F)
  have hn7 := I.n7
  have hd6 := I.d6
  have hc8 := I.c8
  refine x_aload_n 1 rfl dX5_findWhistled_0 0 rfl ?_
  refine x_aload_n 2 rfl dX5_findWhistled_1 1 rfl ?_
  refine x_iload_n 3 rfl dX5_findWhistled_2 2 rfl ?_
  refine x_iload_n 4 rfl dX5_findWhistled_3 3 rfl ?_
  refine x_callV 7 rfl (c_X5_listen G go ga b n d c gf I R wh wa fo le la F pl wind (by omega) (by omega)) [0, 1, 2, 3, 4, 5, 6, 7, 8, 9, 10, 11, 12, 13, 14, 15, 16, 17] rfl (by decide) 0 rfl rfl gX5_findWhistled_X5_listen rfl rfl rfl hd_X5_listen ⟨Nat.le_of_ble_eq_true rfl, Nat.le_of_ble_eq_true rfl⟩ (As := [.ref go, .int (zI ((pl : Nat) : Int)), .int (zI ((wind : Nat) : Int))]) (rest := []) rfl rfl (Nat.le_of_ble_eq_true rfl) dX5_findWhistled_4 ⟨Nat.zero_le _, Nat.zero_le _⟩ (fun v w hq => ?_)
  obtain ⟨Fz_1, rfl, rfl, hFz_2⟩ := hq
  refine ⟨rfl, ?_⟩
  refine x_ws (ws' := [(wh, whE wa fo le), (wa 0, aN G 7 (laF la)), (go, goE ga ((n : Nat) : Int) ((d : Nat) : Int) ((c : Nat) : Int)), (ga 0, aI G 36 (gf 0)), (ga 1, aI G 7 (gf 1)), (ga 2, aI G 7 (gf 2)), (ga 3, aI G 7 (gf 3)), (ga 4, aI G 7 (gf 4)), (ga 5, aI G 6 (gf 5)), (ga 6, aI G 6 (gf 6)), (ga 7, aI G 8 (gf 7))] ++ lsW la Fz_1) (rfl) ?_
  have hFc := hFz_2
  refine x_aload_n 8 rfl dX5_findWhistled_7 0 rfl ?_
  refine x_iconst 9 rfl dX5_findWhistled_8 (z := 0) (by decide) ?_
  refine x_put 12 rfl 0 5 rfl rfl (by decide) inX5_findWhistled_X5 flX5_findWhistled_75 tyX5_ok nmX5 rfl rfl rfl rfl (Nat.le_of_ble_eq_true rfl) (ws' := [(wh, whE wa 0 le), (wa 0, aN G 7 (laF la)), (go, goE ga ((n : Nat) : Int) ((d : Nat) : Int) ((c : Nat) : Int)), (ga 0, aI G 36 (gf 0)), (ga 1, aI G 7 (gf 1)), (ga 2, aI G 7 (gf 2)), (ga 3, aI G 7 (gf 3)), (ga 4, aI G 7 (gf 4)), (ga 5, aI G 6 (gf 5)), (ga 6, aI G 6 (gf 6)), (ga 7, aI G 8 (gf 7))] ++ lsW la Fz_1) rfl dX5_findWhistled_9 ?_
  refine x_aload_n 13 rfl dX5_findWhistled_12 0 rfl ?_
  refine x_iconst 14 rfl dX5_findWhistled_13 (z := (-1)) (by decide) ?_
  refine x_put 17 rfl 0 6 rfl rfl (by decide) inX5_findWhistled_X5 flX5_findWhistled_78 tyX5_ok nmX5 rfl rfl rfl rfl (Nat.le_of_ble_eq_true rfl) (ws' := [(wh, whE wa 0 (-1)), (wa 0, aN G 7 (laF la)), (go, goE ga ((n : Nat) : Int) ((d : Nat) : Int) ((c : Nat) : Int)), (ga 0, aI G 36 (gf 0)), (ga 1, aI G 7 (gf 1)), (ga 2, aI G 7 (gf 2)), (ga 3, aI G 7 (gf 3)), (ga 4, aI G 7 (gf 4)), (ga 5, aI G 6 (gf 5)), (ga 6, aI G 6 (gf 6)), (ga 7, aI G 8 (gf 7))] ++ lsW la Fz_1) rfl dX5_findWhistled_14 ?_
  refine x_ws (congrArg (fun zz : Int × Int => ([(wh, whE wa zz.1 zz.2), (wa 0, aN G 7 (laF la)), (go, goE ga ((n : Nat) : Int) ((d : Nat) : Int) ((c : Nat) : Int)), (ga 0, aI G 36 (gf 0)), (ga 1, aI G 7 (gf 1)), (ga 2, aI G 7 (gf 2)), (ga 3, aI G 7 (gf 3)), (ga 4, aI G 7 (gf 4)), (ga 5, aI G 6 (gf 5)), (ga 6, aI G 6 (gf 6)), (ga 7, aI G 8 (gf 7))] ++ lsW la Fz_1 : va_W)) (whG_0 : ((0, -1) : Int × Int) = (wsF (whG b n pl wind who) (2 * 4 ^ 0)))) ?_
  refine x_iconst 18 rfl dX5_findWhistled_17 (z := 1) (by decide) ?_
  refine x_istore 20 rfl (lv' := [(5, .int (zI 1)), (0, .ref wh), (1, .ref go), (2, .int (zI ((pl : Nat) : Int))), (3, .int (zI ((wind : Nat) : Int))), (4, .int (zI who))]) dX5_findWhistled_18 (by decide) rfl ?_
  have L20 : ∀ (f20 : Nat) (k : Nat) (hk : k ≤ 5), 5 - k < f20 → W_X5_findWhistled G E go ga b n d c gf wh wa fo le la F pl wind who 20 [(0, .ref wh), (1, .ref go), (2, .int (zI ((pl : Nat) : Int))), (3, .int (zI ((wind : Nat) : Int))), (4, .int (zI who)), (5, .int (zI ((k + 1 : Nat) : Int)))] [] ([(wh, whE wa ((wsF (whG b n pl wind who) (2 * 4 ^ k)).1) ((wsF (whG b n pl wind who) (2 * 4 ^ k)).2)), (wa 0, aN G 7 (laF la)), (go, goE ga ((n : Nat) : Int) ((d : Nat) : Int) ((c : Nat) : Int)), (ga 0, aI G 36 (gf 0)), (ga 1, aI G 7 (gf 1)), (ga 2, aI G 7 (gf 2)), (ga 3, aI G 7 (gf 3)), (ga 4, aI G 7 (gf 4)), (ga 5, aI G 6 (gf 5)), (ga 6, aI G 6 (gf 6)), (ga 7, aI G 8 (gf 7))] ++ lsW la Fz_1) := by
    intro f20
    induction f20 with
    | zero => intro k hk hf20; exact absurd hf20 (Nat.not_lt_zero _)
    | succ f20 ih20 =>
      intro k hk hf20
      refine x_iload 22 rfl dX5_findWhistled_20 5 rfl ?_
      refine x_iconst 23 rfl dX5_findWhistled_22 (z := 5) (by decide) ?_
      refine x_icmp_gt 26 rfl (tgt := 105) dX5_findWhistled_23 (by decide) (by omega) (by decide) (fun h23 => ?_) (fun h23 => ?_)
      · skip
        refine x_vret rfl ?_ dX5_findWhistled_105
        obtain rfl : k = 5 := by omega
        exact ⟨_, rfl, rfl⟩
      · skip
        have hp4 : 4 ^ (k + 1) ≤ 1024 := four_pow (by omega)
        have hpp : 0 < 4 ^ (k + 1) := Nat.pow_pos (by decide)
        refine x_iconst 27 rfl dX5_findWhistled_26 (z := 1) (by decide) ?_
        refine x_iconst 28 rfl dX5_findWhistled_27 (z := 2) (by decide) ?_
        refine x_iload 30 rfl dX5_findWhistled_28 5 rfl ?_
        refine x_imul 31 rfl dX5_findWhistled_30 (z := ((2 * (k + 1) : Nat) : Int)) (by omega) ?_
        refine x_ishl 32 rfl dX5_findWhistled_31 (z := ((4 ^ (k + 1) : Nat) : Int)) (by rw [← pow4]; exact zI_shl1 (by omega)) ?_
        refine x_istore 34 rfl (lv' := [(6, .int (zI ((4 ^ (k + 1) : Nat) : Int))), (0, .ref wh), (1, .ref go), (2, .int (zI ((pl : Nat) : Int))), (3, .int (zI ((wind : Nat) : Int))), (4, .int (zI who)), (5, .int (zI ((k + 1 : Nat) : Int)))]) dX5_findWhistled_32 (by decide) rfl ?_
        refine x_ws (congrArg (fun zz : Int × Int => ([(wh, whE wa zz.1 zz.2), (wa 0, aN G 7 (laF la)), (go, goE ga ((n : Nat) : Int) ((d : Nat) : Int) ((c : Nat) : Int)), (ga 0, aI G 36 (gf 0)), (ga 1, aI G 7 (gf 1)), (ga 2, aI G 7 (gf 2)), (ga 3, aI G 7 (gf 3)), (ga 4, aI G 7 (gf 4)), (ga 5, aI G 6 (gf 5)), (ga 6, aI G 6 (gf 6)), (ga 7, aI G 8 (gf 7))] ++ lsW la Fz_1 : va_W)) ((whG_gap (by omega)).symm : wsF (whG b n pl wind who) (2 * 4 ^ k) = (wsF (whG b n pl wind who) (4 ^ (k + 1))))) ?_
        refine x_iload 36 rfl dX5_findWhistled_34 0 rfl ?_
        refine x_istore 38 rfl (lv' := [(7, .int (zI ((4 ^ (k + 1) : Nat) : Int))), (6, .int (zI ((4 ^ (k + 1) : Nat) : Int))), (0, .ref wh), (1, .ref go), (2, .int (zI ((pl : Nat) : Int))), (3, .int (zI ((wind : Nat) : Int))), (4, .int (zI who)), (5, .int (zI ((k + 1 : Nat) : Int)))]) dX5_findWhistled_36 (by decide) rfl ?_
        have L38 : ∀ (f38 : Nat) (t : Nat) (ht4 : 4 ^ (k + 1) ≤ t) (ht5 : t ≤ 2 * 4 ^ (k + 1)), 2 * 4 ^ (k + 1) - t < f38 → W_X5_findWhistled G E go ga b n d c gf wh wa fo le la F pl wind who 38 [(0, .ref wh), (1, .ref go), (2, .int (zI ((pl : Nat) : Int))), (3, .int (zI ((wind : Nat) : Int))), (4, .int (zI who)), (5, .int (zI ((k + 1 : Nat) : Int))), (6, .int (zI ((4 ^ (k + 1) : Nat) : Int))), (7, .int (zI ((t : Nat) : Int)))] [] ([(wh, whE wa ((wsF (whG b n pl wind who) t).1) ((wsF (whG b n pl wind who) t).2)), (wa 0, aN G 7 (laF la)), (go, goE ga ((n : Nat) : Int) ((d : Nat) : Int) ((c : Nat) : Int)), (ga 0, aI G 36 (gf 0)), (ga 1, aI G 7 (gf 1)), (ga 2, aI G 7 (gf 2)), (ga 3, aI G 7 (gf 3)), (ga 4, aI G 7 (gf 4)), (ga 5, aI G 6 (gf 5)), (ga 6, aI G 6 (gf 6)), (ga 7, aI G 8 (gf 7))] ++ lsW la Fz_1) := by
          intro f38
          induction f38 with
          | zero => intro t ht4 ht5 hf38; exact absurd hf38 (Nat.not_lt_zero _)
          | succ f38 ih38 =>
            intro t ht4 ht5 hf38
            refine x_iload 40 rfl dX5_findWhistled_38 7 rfl ?_
            refine x_iconst 41 rfl dX5_findWhistled_40 (z := 2) (by decide) ?_
            refine x_iload 43 rfl dX5_findWhistled_41 6 rfl ?_
            refine x_imul 44 rfl dX5_findWhistled_43 (z := ((2 * (4 ^ (k + 1)) : Nat) : Int)) (by omega) ?_
            refine x_icmp_ge 47 rfl (tgt := 99) dX5_findWhistled_44 (by decide) (by omega) (by omega) (fun h44 => ?_) (fun h44 => ?_)
            · skip
              refine x_ws (congrArg (fun zz : Int × Int => ([(wh, whE wa zz.1 zz.2), (wa 0, aN G 7 (laF la)), (go, goE ga ((n : Nat) : Int) ((d : Nat) : Int) ((c : Nat) : Int)), (ga 0, aI G 36 (gf 0)), (ga 1, aI G 7 (gf 1)), (ga 2, aI G 7 (gf 2)), (ga 3, aI G 7 (gf 3)), (ga 4, aI G 7 (gf 4)), (ga 5, aI G 6 (gf 5)), (ga 6, aI G 6 (gf 6)), (ga 7, aI G 8 (gf 7))] ++ lsW la Fz_1 : va_W)) (by rw [show t = 2 * 4 ^ (k + 1) by omega] : wsF (whG b n pl wind who) t = (wsF (whG b n pl wind who) (2 * 4 ^ (k + 1))))) ?_
              refine x_iinc 102 rfl (lv' := [(5, .int (zI ((k + 2 : Nat) : Int))), (0, .ref wh), (1, .ref go), (2, .int (zI ((pl : Nat) : Int))), (3, .int (zI ((wind : Nat) : Int))), (4, .int (zI who)), (6, .int (zI ((4 ^ (k + 1) : Nat) : Int))), (7, .int (zI ((t : Nat) : Int)))]) dX5_findWhistled_99 5 rfl (b := ((k + 2 : Nat) : Int)) (by omega) (by decide) rfl ?_
              refine x_goto dX5_findWhistled_102 (tgt := 20) (by decide) ?_
              refine x_lv [1, 2, 3, 4, 5, 0] rfl ?_
              exact ih20 (k + 1) (by omega) (by omega)
            · skip
              have htv : vt t := each_vt (k := k + 1) (by omega) (by omega) ht4 (by omega)
              have hr := wsF_r (whG b n pl wind who) t
              have ht8 := vt_lt htv
              refine x_aload_n 48 rfl dX5_findWhistled_47 0 rfl ?_
              refine x_aload_n 49 rfl dX5_findWhistled_48 1 rfl ?_
              refine x_get 52 rfl (v := .int (zI ((n : Nat) : Int))) 2 0 rfl rfl (by decide) inX5_findWhistled_X0 flX5_findWhistled_36 rfl dX5_findWhistled_49 ?_
              refine x_iload 54 rfl dX5_findWhistled_52 7 rfl ?_
              refine x_iload_n 55 rfl dX5_findWhistled_54 3 rfl ?_
              refine x_callV 58 rfl (c_X5_turnersReady G b n d c I wh wa ((wsF (whG b n pl wind who) t).1) ((wsF (whG b n pl wind who) t).2) la Fz_1 pl wind t (by omega) (hFc) (htv)) [0, 1, 11, 12, 13, 14, 15, 16, 17] rfl (by decide) 0 rfl rfl gX5_findWhistled_X5_turnersReady rfl rfl rfl hd_X5_turnersReady ⟨Nat.le_of_ble_eq_true rfl, Nat.le_of_ble_eq_true rfl⟩ (As := [.int (zI ((n : Nat) : Int)), .int (zI ((t : Nat) : Int)), .int (zI ((wind : Nat) : Int))]) (rest := []) rfl rfl (Nat.le_of_ble_eq_true rfl) dX5_findWhistled_55 ⟨Nat.zero_le _, Nat.zero_le _⟩ (fun v w hq => ?_)
              obtain ⟨rfl, rfl⟩ := hq
              refine ⟨rfl, ?_⟩
              refine x_ws (ws' := [(wh, whE wa ((wsF (whG b n pl wind who) t).1) ((wsF (whG b n pl wind who) t).2)), (wa 0, aN G 7 (laF la)), (go, goE ga ((n : Nat) : Int) ((d : Nat) : Int) ((c : Nat) : Int)), (ga 0, aI G 36 (gf 0)), (ga 1, aI G 7 (gf 1)), (ga 2, aI G 7 (gf 2)), (ga 3, aI G 7 (gf 3)), (ga 4, aI G 7 (gf 4)), (ga 5, aI G 6 (gf 5)), (ga 6, aI G 6 (gf 6)), (ga 7, aI G 8 (gf 7))] ++ lsW la Fz_1) (rfl) ?_
              have hcl := calN_lt I pl t wind
              refine x_iload 60 rfl dX5_findWhistled_58 4 rfl ?_
              refine x_icmp_ne 63 rfl (tgt := 93) dX5_findWhistled_60 (by decide) (by omega) (by omega) (fun h60 => ?_) (fun h60 => ?_)
              · skip
                have hgf : (whG b n pl wind who) t = false := by unfold whG; rw [decide_eq_false (by omega)]; exact Bool.and_false _
                refine x_ws (congrArg (fun zz : Int × Int => ([(wh, whE wa zz.1 zz.2), (wa 0, aN G 7 (laF la)), (go, goE ga ((n : Nat) : Int) ((d : Nat) : Int) ((c : Nat) : Int)), (ga 0, aI G 36 (gf 0)), (ga 1, aI G 7 (gf 1)), (ga 2, aI G 7 (gf 2)), (ga 3, aI G 7 (gf 3)), (ga 4, aI G 7 (gf 4)), (ga 5, aI G 6 (gf 5)), (ga 6, aI G 6 (gf 6)), (ga 7, aI G 8 (gf 7))] ++ lsW la Fz_1 : va_W)) ((wsF_f hgf).symm : (wsF (whG b n pl wind who) t) = (wsF (whG b n pl wind who) (t + 1)))) ?_
                refine x_iinc 96 rfl (lv' := [(7, .int (zI ((t + 1 : Nat) : Int))), (0, .ref wh), (1, .ref go), (2, .int (zI ((pl : Nat) : Int))), (3, .int (zI ((wind : Nat) : Int))), (4, .int (zI who)), (5, .int (zI ((k + 1 : Nat) : Int))), (6, .int (zI ((4 ^ (k + 1) : Nat) : Int)))]) dX5_findWhistled_93 7 rfl (b := ((t + 1 : Nat) : Int)) (by omega) (by decide) rfl ?_
                refine x_goto dX5_findWhistled_96 (tgt := 38) (by decide) ?_
                refine x_lv [1, 2, 3, 4, 5, 6, 7, 0] rfl ?_
                exact ih38 (t + 1) (by omega) (by omega) (by omega)
              · skip
                have hgt : (whG b n pl wind who) t = true := by unfold whG; rw [vtb_iff.mpr htv, decide_eq_true (by omega)]; rfl
                refine x_aload_n 64 rfl dX5_findWhistled_63 0 rfl ?_
                refine x_aload_n 65 rfl dX5_findWhistled_64 0 rfl ?_
                refine x_get 68 rfl (v := .int (zI ((wsF (whG b n pl wind who) t).1))) 0 5 rfl rfl (by decide) inX5_findWhistled_X5 flX5_findWhistled_75 rfl dX5_findWhistled_65 ?_
                refine x_if_ne 71 rfl (tgt := 76) dX5_findWhistled_68 (by decide) (by omega) (fun h68 => ?_) (fun h68 => ?_)
                · skip
                  refine x_aload_n 77 rfl dX5_findWhistled_76 0 rfl ?_
                  refine x_get 80 rfl (v := .int (zI ((wsF (whG b n pl wind who) t).2))) 0 6 rfl rfl (by decide) inX5_findWhistled_X5 flX5_findWhistled_78 rfl dX5_findWhistled_77 ?_
                  refine x_put 83 rfl 0 6 rfl rfl (by decide) inX5_findWhistled_X5 flX5_findWhistled_78 tyX5_ok nmX5 rfl rfl rfl rfl (Nat.le_of_ble_eq_true rfl) (ws' := [(wh, whE wa ((wsF (whG b n pl wind who) t).1) ((wsF (whG b n pl wind who) t).2)), (wa 0, aN G 7 (laF la)), (go, goE ga ((n : Nat) : Int) ((d : Nat) : Int) ((c : Nat) : Int)), (ga 0, aI G 36 (gf 0)), (ga 1, aI G 7 (gf 1)), (ga 2, aI G 7 (gf 2)), (ga 3, aI G 7 (gf 3)), (ga 4, aI G 7 (gf 4)), (ga 5, aI G 6 (gf 5)), (ga 6, aI G 6 (gf 6)), (ga 7, aI G 8 (gf 7))] ++ lsW la Fz_1) rfl dX5_findWhistled_80 ?_
                  refine x_aload_n 84 rfl dX5_findWhistled_83 0 rfl ?_
                  refine x_dup 85 rfl dX5_findWhistled_84 rfl ?_
                  refine x_get 88 rfl (v := .int (zI ((wsF (whG b n pl wind who) t).1))) 0 5 rfl rfl (by decide) inX5_findWhistled_X5 flX5_findWhistled_75 rfl dX5_findWhistled_85 ?_
                  refine x_iconst 89 rfl dX5_findWhistled_88 (z := 1) (by decide) ?_
                  refine x_iadd 90 rfl dX5_findWhistled_89 (z := ((wsF (whG b n pl wind who) t).1) + 1) (rfl) ?_
                  refine x_put 93 rfl 0 5 rfl rfl (by decide) inX5_findWhistled_X5 flX5_findWhistled_75 tyX5_ok nmX5 rfl rfl rfl rfl (Nat.le_of_ble_eq_true rfl) (ws' := [(wh, whE wa (((wsF (whG b n pl wind who) t).1) + 1) ((wsF (whG b n pl wind who) t).2)), (wa 0, aN G 7 (laF la)), (go, goE ga ((n : Nat) : Int) ((d : Nat) : Int) ((c : Nat) : Int)), (ga 0, aI G 36 (gf 0)), (ga 1, aI G 7 (gf 1)), (ga 2, aI G 7 (gf 2)), (ga 3, aI G 7 (gf 3)), (ga 4, aI G 7 (gf 4)), (ga 5, aI G 6 (gf 5)), (ga 6, aI G 6 (gf 6)), (ga 7, aI G 8 (gf 7))] ++ lsW la Fz_1) rfl dX5_findWhistled_90 ?_
                  refine x_ws (congrArg (fun zz : Int × Int => ([(wh, whE wa zz.1 zz.2), (wa 0, aN G 7 (laF la)), (go, goE ga ((n : Nat) : Int) ((d : Nat) : Int) ((c : Nat) : Int)), (ga 0, aI G 36 (gf 0)), (ga 1, aI G 7 (gf 1)), (ga 2, aI G 7 (gf 2)), (ga 3, aI G 7 (gf 3)), (ga 4, aI G 7 (gf 4)), (ga 5, aI G 6 (gf 5)), (ga 6, aI G 6 (gf 6)), (ga 7, aI G 8 (gf 7))] ++ lsW la Fz_1 : va_W)) (wsF_t1 hgt h68 : ((wsF (whG b n pl wind who) t).1 + 1, (wsF (whG b n pl wind who) t).2) = (wsF (whG b n pl wind who) (t + 1)))) ?_
                  refine x_iinc 96 rfl (lv' := [(7, .int (zI ((t + 1 : Nat) : Int))), (0, .ref wh), (1, .ref go), (2, .int (zI ((pl : Nat) : Int))), (3, .int (zI ((wind : Nat) : Int))), (4, .int (zI who)), (5, .int (zI ((k + 1 : Nat) : Int))), (6, .int (zI ((4 ^ (k + 1) : Nat) : Int)))]) dX5_findWhistled_93 7 rfl (b := ((t + 1 : Nat) : Int)) (by omega) (by decide) rfl ?_
                  refine x_goto dX5_findWhistled_96 (tgt := 38) (by decide) ?_
                  refine x_lv [1, 2, 3, 4, 5, 6, 7, 0] rfl ?_
                  exact ih38 (t + 1) (by omega) (by omega) (by omega)
                · skip
                  refine x_iload 73 rfl dX5_findWhistled_71 7 rfl ?_
                  refine x_goto dX5_findWhistled_73 (tgt := 80) (by decide) ?_
                  refine x_put 83 rfl 0 6 rfl rfl (by decide) inX5_findWhistled_X5 flX5_findWhistled_78 tyX5_ok nmX5 rfl rfl rfl rfl (Nat.le_of_ble_eq_true rfl) (ws' := [(wh, whE wa ((wsF (whG b n pl wind who) t).1) ((t : Nat) : Int)), (wa 0, aN G 7 (laF la)), (go, goE ga ((n : Nat) : Int) ((d : Nat) : Int) ((c : Nat) : Int)), (ga 0, aI G 36 (gf 0)), (ga 1, aI G 7 (gf 1)), (ga 2, aI G 7 (gf 2)), (ga 3, aI G 7 (gf 3)), (ga 4, aI G 7 (gf 4)), (ga 5, aI G 6 (gf 5)), (ga 6, aI G 6 (gf 6)), (ga 7, aI G 8 (gf 7))] ++ lsW la Fz_1) rfl dX5_findWhistled_80 ?_
                  refine x_aload_n 84 rfl dX5_findWhistled_83 0 rfl ?_
                  refine x_dup 85 rfl dX5_findWhistled_84 rfl ?_
                  refine x_get 88 rfl (v := .int (zI ((wsF (whG b n pl wind who) t).1))) 0 5 rfl rfl (by decide) inX5_findWhistled_X5 flX5_findWhistled_75 rfl dX5_findWhistled_85 ?_
                  refine x_iconst 89 rfl dX5_findWhistled_88 (z := 1) (by decide) ?_
                  refine x_iadd 90 rfl dX5_findWhistled_89 (z := ((wsF (whG b n pl wind who) t).1) + 1) (rfl) ?_
                  refine x_put 93 rfl 0 5 rfl rfl (by decide) inX5_findWhistled_X5 flX5_findWhistled_75 tyX5_ok nmX5 rfl rfl rfl rfl (Nat.le_of_ble_eq_true rfl) (ws' := [(wh, whE wa (((wsF (whG b n pl wind who) t).1) + 1) ((t : Nat) : Int)), (wa 0, aN G 7 (laF la)), (go, goE ga ((n : Nat) : Int) ((d : Nat) : Int) ((c : Nat) : Int)), (ga 0, aI G 36 (gf 0)), (ga 1, aI G 7 (gf 1)), (ga 2, aI G 7 (gf 2)), (ga 3, aI G 7 (gf 3)), (ga 4, aI G 7 (gf 4)), (ga 5, aI G 6 (gf 5)), (ga 6, aI G 6 (gf 6)), (ga 7, aI G 8 (gf 7))] ++ lsW la Fz_1) rfl dX5_findWhistled_90 ?_
                  refine x_ws (congrArg (fun zz : Int × Int => ([(wh, whE wa zz.1 zz.2), (wa 0, aN G 7 (laF la)), (go, goE ga ((n : Nat) : Int) ((d : Nat) : Int) ((c : Nat) : Int)), (ga 0, aI G 36 (gf 0)), (ga 1, aI G 7 (gf 1)), (ga 2, aI G 7 (gf 2)), (ga 3, aI G 7 (gf 3)), (ga 4, aI G 7 (gf 4)), (ga 5, aI G 6 (gf 5)), (ga 6, aI G 6 (gf 6)), (ga 7, aI G 8 (gf 7))] ++ lsW la Fz_1 : va_W)) (wsF_t0 hgt h68 : ((wsF (whG b n pl wind who) t).1 + 1, (t : Int)) = (wsF (whG b n pl wind who) (t + 1)))) ?_
                  refine x_iinc 96 rfl (lv' := [(7, .int (zI ((t + 1 : Nat) : Int))), (0, .ref wh), (1, .ref go), (2, .int (zI ((pl : Nat) : Int))), (3, .int (zI ((wind : Nat) : Int))), (4, .int (zI who)), (5, .int (zI ((k + 1 : Nat) : Int))), (6, .int (zI ((4 ^ (k + 1) : Nat) : Int)))]) dX5_findWhistled_93 7 rfl (b := ((t + 1 : Nat) : Int)) (by omega) (by decide) rfl ?_
                  refine x_goto dX5_findWhistled_96 (tgt := 38) (by decide) ?_
                  refine x_lv [1, 2, 3, 4, 5, 6, 7, 0] rfl ?_
                  exact ih38 (t + 1) (by omega) (by omega) (by omega)
        refine x_lv [2, 3, 4, 5, 6, 7, 1, 0] rfl ?_
        exact L38 _ (4 ^ (k + 1)) (Nat.le_refl _) (by omega) (Nat.lt_succ_self _)
  refine x_lve (congrArg (fun zz : Int => ([(5, .int (zI zz)), (0, .ref wh), (1, .ref go), (2, .int (zI ((pl : Nat) : Int))), (3, .int (zI ((wind : Nat) : Int))), (4, .int (zI who))] : List (Nat × Value))) (rfl : 1 = ((0 + 1 : Nat) : Int))) ?_
  refine x_lv [1, 2, 3, 4, 5, 0] rfl ?_
  exact L20 _ 0 (by omega) (Nat.lt_succ_self _)

