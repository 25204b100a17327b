theorem cbN_t {b : Nat → Int} {n wind x y : Nat} (h : x ≠ y) (g : calN b n (plN b x) (tN b y) wind &&& (127 - 2 ^ x) = 2 ^ y) : cbN b n wind x y = true := by unfold cbN; rw [decide_eq_true h, decide_eq_true g]; rfl
theorem cbN_f {b : Nat → Int} {n wind x y : Nat} (h : x = y ∨ calN b n (plN b x) (tN b y) wind &&& (127 - 2 ^ x) ≠ 2 ^ y) : cbN b n wind x y = false := by
  unfold cbN
  rcases h with h | h
  · rw [decide_eq_false (fun e => e h)]; rfl
  · rw [decide_eq_false h, Bool.and_false]
abbrev P_X5_findCallable (G : XG) (go : Nat) (ga : Nat → Nat) (b : Nat → Int) (n : Nat) (d : Nat) (c : Nat) (gf : Nat → Nat → Int) (wh : Nat) (wa : Nat → Nat) (fo : Int) (le : Int) (la : Nat → Nat) (F : Nat → LsT) (kf : Nat → Int) (wind : Nat) : Option Value → va_W → Prop := fun r ws => ∃ F' : Nat → LsT, ∃ kf' : Nat → Int, r = none ∧ ws = [(wh, whE wa fo le), (wa 0, aN G 7 (laF la)), (wa 2, aI G 7 kf'), (go, goE ga ((n : Nat) : Int) ((d : Nat) : Int) ((c : Nat) : Int)), (ga 0, aI G 36 (gf 0)), (ga 1, aI G 7 (gf 1)), (ga 2, aI G 7 (gf 2)), (ga 3, aI G 7 (gf 3)), (ga 4, aI G 7 (gf 4)), (ga 5, aI G 6 (gf 5)), (ga 6, aI G 6 (gf 6)), (ga 7, aI G 8 (gf 7))] ++ lsW la F' ∧ ∀ i, i < n → kf' i = ((bitF (cbN b n wind i) n : Nat) : Int)
abbrev W_X5_findCallable (G : XG) (E : XE) (go : Nat) (ga : Nat → Nat) (b : Nat → Int) (n : Nat) (d : Nat) (c : Nat) (gf : Nat → Nat → Int) (wh : Nat) (wa : Nat → Nat) (fo : Int) (le : Int) (la : Nat → Nat) (F : Nat → LsT) (kf : Nat → Int) (wind : Nat) (pc : Nat) (lv : List (Nat × Value)) (st : List Value) (ws : va_W) : Prop := Wx G E (rmL 4) cX5_findCallable 6 RX5 wsX5_findCallable none "findCallable" 0 0 (P_X5_findCallable G go ga b n d c gf wh wa fo le la F kf wind) 0 0 pc lv st ws
theorem flX5_findCallable_9 : Cond.fieldLink RX5 9 (TX5 2).1 (TX5 2).2.1 (TX5 2).2.2.1 ∈ wsX5_findCallable := by decide +kernel
theorem flX5_findCallable_36 : Cond.fieldLink RX5 36 (TX0 0).1 (TX0 0).2.1 (TX0 0).2.2.1 ∈ wsX5_findCallable := by decide +kernel
theorem flX5_findCallable_49 : Cond.fieldLink RX5 49 (TX0 5).1 (TX0 5).2.1 (TX0 5).2.2.1 ∈ wsX5_findCallable := by decide +kernel
theorem flX5_findCallable_59 : Cond.fieldLink RX5 59 (TX0 6).1 (TX0 6).2.1 (TX0 6).2.2.1 ∈ wsX5_findCallable := by decide +kernel
theorem inX5_findCallable_X0 : ∀ w ∈ u_ws RX0 TX0 11, w ∈ wsX5_findCallable := fun _ h => List.mem_cons_of_mem _ (List.mem_append_left _ (List.mem_append_left _ (List.mem_append_right _ h)))
theorem inX5_findCallable_X5 : ∀ w ∈ u_ws RX5 TX5 7, w ∈ wsX5_findCallable := fun _ h => List.mem_cons_of_mem _ (List.mem_append_left _ (List.mem_append_right _ h))
set_option maxHeartbeats 4000000 in
set_option maxRecDepth 100000 in
/-- findCallable -/
theorem c_X5_findCallable (G : XG) (go : Nat) (ga : Nat → Nat) (b : Nat → Int) (n d c : Nat) (gf : Nat → Nat → Int) (I : Inv b n d c) (R : GR b n d c gf) (wh : Nat) (wa : Nat → Nat) (fo le : Int) (la : Nat → Nat) (F : Nat → LsT) (kf : Nat → Int) (wind : Nat) (hw : wind < 4) : Con G yX5_findCallable wsX5_findCallable (rmL 4) 0 0 [.ref wh, .ref go, .int (zI ((wind : Nat) : Int))] ([(wh, whE wa fo le), (wa 0, aN G 7 (laF la)), (wa 2, aI G 7 kf), (go, goE ga ((n : Nat) : Int) ((d : Nat) : Int) ((c : Nat) : Int)), (ga 0, aI G 36 (gf 0)), (ga 1, aI G 7 (gf 1)), (ga 2, aI G 7 (gf 2)), (ga 3, aI G 7 (gf 3)), (ga 4, aI G 7 (gf 4)), (ga 5, aI G 6 (gf 5)), (ga 6, aI G 6 (gf 6)), (ga 7, aI G 8 (gf 7))] ++ lsW la F) (P_X5_findCallable G go ga b n d c gf wh wa fo le la F kf wind) := by
  refine x_start (cc := cX5_findCallable) (nL := 6) (ret := none) (by decide) rfl (Nat.le_of_ble_eq_true rfl) (fun E => ?_)
  show W_X5_findCallable G E go ga b n d c gf wh wa fo le la F kf wind 0 [(0, .ref wh), (1, .ref go), (2, .int (zI ((wind : Nat) : Int)))] [] ([(wh, whE wa fo le), (wa 0, aN G 7 (laF la)), (wa 2, aI G 7 kf), (go, goE ga ((n : Nat) : Int) ((d : Nat) : Int) ((c : Nat) : Int)), (ga 0, aI G 36 (gf 0)), (ga 1, aI G 7 (gf 1)), (ga 2, aI G 7 (gf 2)), (ga 3, aI G 7 (gf 3)), (ga 4, aI G 7 (gf 4)), (ga 5, aI G 6 (gf 5)), (ga 6, aI G 6 (gf 6)), (ga 7, aI G 8 (gf 7))] ++ lsW la F)
  have hn7 := I.n7
  have hd6 := I.d6
  have hc8 := I.c8
  refine x_iconst 1 rfl dX5_findCallable_0 (z := 0) (by decide) ?_
  refine x_istore_n 2 rfl (lv' := [(3, .int (zI 0)), (0, .ref wh), (1, .ref go), (2, .int (zI ((wind : Nat) : Int)))]) dX5_findCallable_1 (by decide) rfl ?_
  have L2 : ∀ (f2 : Nat) (x : Nat) (f : Nat → Int) (F1 : Nat → LsT) (hx : x ≤ n) (hf : ∀ i, i < x → f i = ((bitF (cbN b n wind i) n : Nat) : Int)), n - x < f2 → W_X5_findCallable G E go ga b n d c gf wh wa fo le la F kf wind 2 [(0, .ref wh), (1, .ref go), (2, .int (zI ((wind : Nat) : Int))), (3, .int (zI ((x : Nat) : Int)))] [] ([(wh, whE wa fo le), (wa 0, aN G 7 (laF la)), (wa 2, aI G 7 f), (go, goE ga ((n : Nat) : Int) ((d : Nat) : Int) ((c : Nat) : Int)), (ga 0, aI G 36 (gf 0)), (ga 1, aI G 7 (gf 1)), (ga 2, aI G 7 (gf 2)), (ga 3, aI G 7 (gf 3)), (ga 4, aI G 7 (gf 4)), (ga 5, aI G 6 (gf 5)), (ga 6, aI G 6 (gf 6)), (ga 7, aI G 8 (gf 7))] ++ lsW la F1) := by
    intro f2
    induction f2 with
    | zero => intro x f F1 hx hf hf2; exact absurd hf2 (Nat.not_lt_zero _)
    | succ f2 ih2 =>
      intro x f F1 hx hf hf2
      refine x_iload_n 3 rfl dX5_findCallable_2 3 rfl ?_
      refine x_aload_n 4 rfl dX5_findCallable_3 1 rfl ?_
      refine x_get 7 rfl (v := .int (zI ((n : Nat) : Int))) 3 0 rfl rfl (by decide) inX5_findCallable_X0 flX5_findCallable_36 rfl dX5_findCallable_4 ?_
      refine x_icmp_ge 10 rfl (tgt := 105) dX5_findCallable_7 (by decide) (by omega) (by omega) (fun h7 => ?_) (fun h7 => ?_)
      · skip
        refine x_vret rfl ?_ dX5_findCallable_105
        have e : x = n := by omega
        exact ⟨_, f, rfl, rfl, fun i hi => hf i (by omega)⟩
      · skip
        have hxn : x < n := by omega
        have hpx := I.p hxn
        refine x_aload_n 11 rfl dX5_findCallable_10 0 rfl ?_
        refine x_get 14 rfl (v := .ref (wa 2)) 0 2 rfl rfl (by decide) inX5_findCallable_X5 flX5_findCallable_9 rfl dX5_findCallable_11 ?_
        refine x_iload_n 15 rfl dX5_findCallable_14 3 rfl ?_
        refine x_iconst 16 rfl dX5_findCallable_15 (z := 0) (by decide) ?_
        refine x_iast 17 rfl 2 x rfl (⟨by omega, by omega⟩) (by decide) (ws' := [(wh, whE wa fo le), (wa 0, aN G 7 (laF la)), (wa 2, aI G 7 (zup f x 0)), (go, goE ga ((n : Nat) : Int) ((d : Nat) : Int) ((c : Nat) : Int)), (ga 0, aI G 36 (gf 0)), (ga 1, aI G 7 (gf 1)), (ga 2, aI G 7 (gf 2)), (ga 3, aI G 7 (gf 3)), (ga 4, aI G 7 (gf 4)), (ga 5, aI G 6 (gf 5)), (ga 6, aI G 6 (gf 6)), (ga 7, aI G 8 (gf 7))] ++ lsW la F1) (rfl) dX5_findCallable_16 ?_
        refine x_aload_n 18 rfl dX5_findCallable_17 0 rfl ?_
        refine x_aload_n 19 rfl dX5_findCallable_18 1 rfl ?_
        refine x_aload_n 20 rfl dX5_findCallable_19 1 rfl ?_
        refine x_get 23 rfl (v := .ref (ga 3)) 3 6 rfl rfl (by decide) inX5_findCallable_X0 flX5_findCallable_59 rfl dX5_findCallable_20 ?_
        refine x_iload_n 24 rfl dX5_findCallable_23 3 rfl ?_
        refine x_iald 25 rfl 7 x rfl (⟨by omega, by omega⟩) (by decide) (v := ((plN b x : Nat) : Int)) (R.p I hxn) dX5_findCallable_24 ?_
        refine x_iload_n 26 rfl dX5_findCallable_25 2 rfl ?_
        refine x_callV 29 rfl (c_X5_listen G go ga b n d c gf I R wh wa fo le la F1 (plN b x) wind (hpx.2) (by omega)) [0, 1, 3, 4, 5, 6, 7, 8, 9, 10, 11, 12, 13, 14, 15, 16, 17, 18] rfl (by decide) 0 rfl rfl gX5_findCallable_X5_listen rfl rfl rfl hd_X5_listen ⟨Nat.le_of_ble_eq_true rfl, Nat.le_of_ble_eq_true rfl⟩ (As := [.ref go, .int (zI ((plN b x : Nat) : Int)), .int (zI ((wind : Nat) : Int))]) (rest := []) rfl rfl (Nat.le_of_ble_eq_true rfl) dX5_findCallable_26 ⟨Nat.zero_le _, Nat.zero_le _⟩ (fun v w hq => ?_)
        obtain ⟨Fz_1, rfl, rfl, hFz_2⟩ := hq
        refine ⟨rfl, ?_⟩
        refine x_ws (ws' := [(wh, whE wa fo le), (wa 0, aN G 7 (laF la)), (wa 2, aI G 7 (zup f x 0)), (go, goE ga ((n : Nat) : Int) ((d : Nat) : Int) ((c : Nat) : Int)), (ga 0, aI G 36 (gf 0)), (ga 1, aI G 7 (gf 1)), (ga 2, aI G 7 (gf 2)), (ga 3, aI G 7 (gf 3)), (ga 4, aI G 7 (gf 4)), (ga 5, aI G 6 (gf 5)), (ga 6, aI G 6 (gf 6)), (ga 7, aI G 8 (gf 7))] ++ lsW la Fz_1) (rfl) ?_
        have hFc := hFz_2
        refine x_iconst 30 rfl dX5_findCallable_29 (z := 0) (by decide) ?_
        refine x_istore 32 rfl (lv' := [(4, .int (zI 0)), (0, .ref wh), (1, .ref go), (2, .int (zI ((wind : Nat) : Int))), (3, .int (zI ((x : Nat) : Int)))]) dX5_findCallable_30 (by decide) rfl ?_
        have L32 : ∀ (f32 : Nat) (y : Nat) (f : Nat → Int) (hy : y ≤ n) (hf : ∀ i, i < x → f i = ((bitF (cbN b n wind i) n : Nat) : Int)) (hfx : f x = ((bitF (cbN b n wind x) y : Nat) : Int)), n - y < f32 → W_X5_findCallable G E go ga b n d c gf wh wa fo le la F kf wind 32 [(0, .ref wh), (1, .ref go), (2, .int (zI ((wind : Nat) : Int))), (3, .int (zI ((x : Nat) : Int))), (4, .int (zI ((y : Nat) : Int)))] [] ([(wh, whE wa fo le), (wa 0, aN G 7 (laF la)), (wa 2, aI G 7 f), (go, goE ga ((n : Nat) : Int) ((d : Nat) : Int) ((c : Nat) : Int)), (ga 0, aI G 36 (gf 0)), (ga 1, aI G 7 (gf 1)), (ga 2, aI G 7 (gf 2)), (ga 3, aI G 7 (gf 3)), (ga 4, aI G 7 (gf 4)), (ga 5, aI G 6 (gf 5)), (ga 6, aI G 6 (gf 6)), (ga 7, aI G 8 (gf 7))] ++ lsW la Fz_1) := by
          intro f32
          induction f32 with
          | zero => intro y f hy hf hfx hf32; exact absurd hf32 (Nat.not_lt_zero _)
          | succ f32 ih32 =>
            intro y f hy hf hfx hf32
            refine x_iload 34 rfl dX5_findCallable_32 4 rfl ?_
            refine x_aload_n 35 rfl dX5_findCallable_34 1 rfl ?_
            refine x_get 38 rfl (v := .int (zI ((n : Nat) : Int))) 3 0 rfl rfl (by decide) inX5_findCallable_X0 flX5_findCallable_36 rfl dX5_findCallable_35 ?_
            refine x_icmp_ge 41 rfl (tgt := 99) dX5_findCallable_38 (by decide) (by omega) (by omega) (fun h38 => ?_) (fun h38 => ?_)
            · skip
              refine x_iinc 102 rfl (lv' := [(3, .int (zI ((x + 1 : Nat) : Int))), (0, .ref wh), (1, .ref go), (2, .int (zI ((wind : Nat) : Int))), (4, .int (zI ((y : Nat) : Int)))]) dX5_findCallable_99 3 rfl (b := ((x + 1 : Nat) : Int)) (by omega) (by decide) rfl ?_
              refine x_goto dX5_findCallable_102 (tgt := 2) (by decide) ?_
              refine x_lv [1, 2, 3, 0] rfl ?_
              exact ih2 (x + 1) f Fz_1 (by omega) (fun i hi => by
        by_cases e : i = x
        · subst e; rw [hfx, show y = n by omega]
        · exact hf i (by omega)) (by omega)
            · skip
              have hyn : y < n := by omega
              have hty := I.t hyn
              have hcl := calN_lt I (plN b x) (tN b y) wind
              have hbl := bitF_lt (cbN b n wind x) y
              have hpk : 2 ^ y ≤ 2 ^ 6 := Nat.pow_le_pow_right (by decide) (by omega)
              have hpx6 : 2 ^ x ≤ 2 ^ 6 := Nat.pow_le_pow_right (by decide) (by omega)
              obtain ⟨mm, hmm⟩ : ∃ mm, mm = calN b n (plN b x) (tN b y) wind &&& (127 - 2 ^ x) := ⟨_, rfl⟩
              have hm2 : mm ≤ calN b n (plN b x) (tN b y) wind := by rw [hmm]; exact Nat.and_le_left
              refine x_aload_n 42 rfl dX5_findCallable_41 0 rfl ?_
              refine x_aload_n 43 rfl dX5_findCallable_42 1 rfl ?_
              refine x_get 46 rfl (v := .int (zI ((n : Nat) : Int))) 3 0 rfl rfl (by decide) inX5_findCallable_X0 flX5_findCallable_36 rfl dX5_findCallable_43 ?_
              refine x_aload_n 47 rfl dX5_findCallable_46 1 rfl ?_
              refine x_get 50 rfl (v := .ref (ga 2)) 3 5 rfl rfl (by decide) inX5_findCallable_X0 flX5_findCallable_49 rfl dX5_findCallable_47 ?_
              refine x_iload 52 rfl dX5_findCallable_50 4 rfl ?_
              refine x_iald 53 rfl 6 y rfl (⟨by omega, by omega⟩) (by decide) (v := ((tN b y : Nat) : Int)) (R.t I hyn) dX5_findCallable_52 ?_
              refine x_iload_n 54 rfl dX5_findCallable_53 2 rfl ?_
              refine x_callV 57 rfl (c_X5_turnersReady G b n d c I wh wa fo le la Fz_1 (plN b x) wind (tN b y) (by omega) (hFc) (hty.2)) [0, 1, 12, 13, 14, 15, 16, 17, 18] rfl (by decide) 0 rfl rfl gX5_findCallable_X5_turnersReady rfl rfl rfl hd_X5_turnersReady ⟨Nat.le_of_ble_eq_true rfl, Nat.le_of_ble_eq_true rfl⟩ (As := [.int (zI ((n : Nat) : Int)), .int (zI ((tN b y : Nat) : Int)), .int (zI ((wind : Nat) : Int))]) (rest := []) rfl rfl (Nat.le_of_ble_eq_true rfl) dX5_findCallable_54 ⟨Nat.zero_le _, Nat.zero_le _⟩ (fun v w hq => ?_)
              obtain ⟨rfl, rfl⟩ := hq
              refine ⟨rfl, ?_⟩
              refine x_ws (ws' := [(wh, whE wa fo le), (wa 0, aN G 7 (laF la)), (wa 2, aI G 7 f), (go, goE ga ((n : Nat) : Int) ((d : Nat) : Int) ((c : Nat) : Int)), (ga 0, aI G 36 (gf 0)), (ga 1, aI G 7 (gf 1)), (ga 2, aI G 7 (gf 2)), (ga 3, aI G 7 (gf 3)), (ga 4, aI G 7 (gf 4)), (ga 5, aI G 6 (gf 5)), (ga 6, aI G 6 (gf 6)), (ga 7, aI G 8 (gf 7))] ++ lsW la Fz_1) (rfl) ?_
              refine x_istore 59 rfl (lv' := [(5, .int (zI ((calN b n (plN b x) (tN b y) wind : Nat) : Int))), (0, .ref wh), (1, .ref go), (2, .int (zI ((wind : Nat) : Int))), (3, .int (zI ((x : Nat) : Int))), (4, .int (zI ((y : Nat) : Int)))]) dX5_findCallable_57 (by decide) rfl ?_
              refine x_iload 61 rfl dX5_findCallable_59 5 rfl ?_
              refine x_iload_n 62 rfl dX5_findCallable_61 4 rfl ?_
              refine x_icmp_eq 65 rfl (tgt := 93) dX5_findCallable_62 (by decide) (by omega) (by omega) (fun h62 => ?_) (fun h62 => ?_)
              · skip
                refine x_iinc 96 rfl (lv' := [(4, .int (zI ((y + 1 : Nat) : Int))), (5, .int (zI ((calN b n (plN b x) (tN b y) wind : Nat) : Int))), (0, .ref wh), (1, .ref go), (2, .int (zI ((wind : Nat) : Int))), (3, .int (zI ((x : Nat) : Int)))]) dX5_findCallable_93 5 rfl (b := ((y + 1 : Nat) : Int)) (by omega) (by decide) rfl ?_
                refine x_goto dX5_findCallable_96 (tgt := 32) (by decide) ?_
                refine x_lv [2, 3, 4, 5, 0] rfl ?_
                exact ih32 (y + 1) f (by omega) (hf) (by rw [hfx, bitF_f (f := cbN b n wind x) (k := y) (cbN_f (by omega))]) (by omega)
              · skip
                refine x_iload 67 rfl dX5_findCallable_65 0 rfl ?_
                refine x_iconst 68 rfl dX5_findCallable_67 (z := 1) (by decide) ?_
                refine x_iload_n 69 rfl dX5_findCallable_68 4 rfl ?_
                refine x_ishl 70 rfl dX5_findCallable_69 (z := ((2 ^ x : Nat) : Int)) (zI_shl1 (i := x) (by omega)) ?_
                refine x_iconst 71 rfl dX5_findCallable_70 (z := (-1)) (by decide) ?_
                refine x_ixor 72 rfl dX5_findCallable_71 (z := -1 - ((2 ^ x : Nat) : Int)) (not_i (by omega)) ?_
                refine x_iand 73 rfl dX5_findCallable_72 (z := ((calN b n (plN b x) (tN b y) wind &&& (127 - 2 ^ x) : Nat) : Int)) (clr_i (by omega) (by omega)) ?_
                refine x_iconst 74 rfl dX5_findCallable_73 (z := 1) (by decide) ?_
                refine x_iload 76 rfl dX5_findCallable_74 5 rfl ?_
                refine x_ishl 77 rfl dX5_findCallable_76 (z := ((2 ^ y : Nat) : Int)) (zI_shl1 (i := y) (by omega)) ?_
                refine x_icmp_ne 80 rfl (tgt := 93) dX5_findCallable_77 (by decide) (by omega) (by omega) (fun h77 => ?_) (fun h77 => ?_)
                · skip
                  refine x_iinc 96 rfl (lv' := [(4, .int (zI ((y + 1 : Nat) : Int))), (5, .int (zI ((calN b n (plN b x) (tN b y) wind : Nat) : Int))), (0, .ref wh), (1, .ref go), (2, .int (zI ((wind : Nat) : Int))), (3, .int (zI ((x : Nat) : Int)))]) dX5_findCallable_93 5 rfl (b := ((y + 1 : Nat) : Int)) (by omega) (by decide) rfl ?_
                  refine x_goto dX5_findCallable_96 (tgt := 32) (by decide) ?_
                  refine x_lv [2, 3, 4, 5, 0] rfl ?_
                  exact ih32 (y + 1) f (by omega) (hf) (by rw [hfx, bitF_f (f := cbN b n wind x) (k := y) (cbN_f (by omega))]) (by omega)
                · skip
                  refine x_aload_n 81 rfl dX5_findCallable_80 1 rfl ?_
                  refine x_get 84 rfl (v := .ref (wa 2)) 0 2 rfl rfl (by decide) inX5_findCallable_X5 flX5_findCallable_9 rfl dX5_findCallable_81 ?_
                  refine x_iload_n 85 rfl dX5_findCallable_84 4 rfl ?_
                  refine x_dup2 86 rfl dX5_findCallable_85 rfl rfl ?_
                  refine x_iald 87 rfl 2 x rfl (⟨by omega, by omega⟩) (by decide) (v := ((bitF (cbN b n wind x) y : Nat) : Int)) (hfx) dX5_findCallable_86 ?_
                  refine x_iconst 88 rfl dX5_findCallable_87 (z := 1) (by decide) ?_
                  refine x_iload 90 rfl dX5_findCallable_88 5 rfl ?_
                  refine x_ishl 91 rfl dX5_findCallable_90 (z := ((2 ^ y : Nat) : Int)) (zI_shl1 (i := y) (by omega)) ?_
                  refine x_ior 92 rfl dX5_findCallable_91 (z := (((bitF (cbN b n wind x) y) ||| (2 ^ y) : Nat) : Int)) (zI_or (a := (bitF (cbN b n wind x) y)) (b := (2 ^ y)) (by omega) (by omega)) ?_
                  refine x_iast 93 rfl 2 x rfl (⟨by omega, by omega⟩) (by decide) (ws' := [(wh, whE wa fo le), (wa 0, aN G 7 (laF la)), (wa 2, aI G 7 (zup f x (((bitF (cbN b n wind x) y) ||| (2 ^ y) : Nat) : Int))), (go, goE ga ((n : Nat) : Int) ((d : Nat) : Int) ((c : Nat) : Int)), (ga 0, aI G 36 (gf 0)), (ga 1, aI G 7 (gf 1)), (ga 2, aI G 7 (gf 2)), (ga 3, aI G 7 (gf 3)), (ga 4, aI G 7 (gf 4)), (ga 5, aI G 6 (gf 5)), (ga 6, aI G 6 (gf 6)), (ga 7, aI G 8 (gf 7))] ++ lsW la Fz_1) (rfl) dX5_findCallable_92 ?_
                  refine x_iinc 96 rfl (lv' := [(4, .int (zI ((y + 1 : Nat) : Int))), (5, .int (zI ((calN b n (plN b x) (tN b y) wind : Nat) : Int))), (0, .ref wh), (1, .ref go), (2, .int (zI ((wind : Nat) : Int))), (3, .int (zI ((x : Nat) : Int)))]) dX5_findCallable_93 5 rfl (b := ((y + 1 : Nat) : Int)) (by omega) (by decide) rfl ?_
                  refine x_goto dX5_findCallable_96 (tgt := 32) (by decide) ?_
                  refine x_lv [2, 3, 4, 5, 0] rfl ?_
                  exact ih32 (y + 1) (zup f x (((bitF (cbN b n wind x) y) ||| (2 ^ y) : Nat) : Int)) (by omega) (fun i hi => (zup_n _ _ (by omega)).trans (hf i hi)) (by rw [zup_s, bitF_t (f := cbN b n wind x) (k := y) (cbN_t (by omega) (by omega))]) (by omega)
        refine x_lv [1, 2, 3, 4, 0] rfl ?_
        exact L32 _ 0 (zup f x 0) (by omega) (fun i hi => (zup_n _ _ (by omega)).trans (hf i hi)) (zup_s _ _ _) (Nat.lt_succ_self _)
  refine x_lv [1, 2, 3, 0] rfl ?_
  exact L2 _ 0 kf F (by omega) (fun i hi => absurd hi (Nat.not_lt_zero _)) (Nat.lt_succ_self _)

def enc (v : Int) : Int := if 100000 ≤ v then -1 else v
theorem enc_1 {v : Int} (h : 100000 ≤ v) : enc v = -1 := if_pos h
theorem enc_0 {v : Int} (h : v < 100000) : enc v = v := if_neg (by omega)
theorem cb_bit {f : Nat → Bool} {n y : Nat} (hy : y < n) : bitF f n / 2 ^ y % 2 = 1 ↔ f y = true := by
  rw [bit_1, bitF_test, decide_eq_true hy, Bool.true_and]
theorem taW_t {b : Nat → Int} {n wind x y : Nat} (hx : x < n) (hy : y < n) (h : cbN b n wind x y = true) : taW b n wind x y = notesN (tN b y) := by unfold taW; exact if_pos ⟨⟨hx, hy⟩, h⟩
theorem taW_f {b : Nat → Int} {n wind x y : Nat} (h : ¬ cbN b n wind x y = true) : taW b n wind x y = 100000 := by unfold taW; exact if_neg (fun hh => h hh.2)
theorem fw_mono {b : Nat → Int} {n wind fr s t z : Nat} (h : s ≤ t) : fwN b n wind fr t z ≤ fwN b n wind fr s z := gX_mono' _ _ _ z h
theorem fw_skip {b : Nat → Int} {n d c : Nat} (I : Inv b n d c) {wind fr r x : Nat} (hx : x < n) (h : 100000 ≤ fwN b n wind fr ((r * n + x) * n) x) : ∀ y, y ≤ n → ∀ z, fwN b n wind fr ((r * n + x) * n + y) z = fwN b n wind fr ((r * n + x) * n) z
  | 0, _, z => rfl
  | y + 1, hy, z => by
    have ih := fw_skip I (fr := fr) hx h y (by omega)
    rw [fw_s hx (by omega)]
    by_cases e : z = y
    · subst e
      have t1 := taW_1 I wind x z
      have r1 := fw_r I wind fr ((r * n + x) * n + z) z
      rw [if_pos rfl, ih x, Int.min_eq_right (by omega), ih z]
    · rw [if_neg e, ih z]
theorem fw_small {b : Nat → Int} {n d c : Nat} (I : Inv b n d c) (hn : 0 < n) {wind fr t z : Nat} (h : fwN b n wind fr t z < 100000) : fwN b n wind fr t z ≤ 5 * (t : Int) := g_small hn (taW_1 I wind) (taW_5 I wind) t z h
theorem t_small {n r x y : Nat} (hn : n ≤ 7) (hr : r < 7) (hx : x < n) (hy : y ≤ n) : (r * n + x) * n + y ≤ 406 := by
  have h1 : r * n ≤ 6 * 7 := Nat.mul_le_mul (by omega) hn
  have h2 : (r * n + x) * n ≤ 57 * 7 := Nat.mul_le_mul (by omega) hn
  omega
abbrev P_X5_passOn (G : XG) (go : Nat) (ga : Nat → Nat) (b : Nat → Int) (n : Nat) (d : Nat) (c : Nat) (gf : Nat → Nat → Int) (wh : Nat) (wa : Nat → Nat) (fo : Int) (le : Int) (kf : Nat → Int) (nf : Nat → Int) (wind : Nat) (fr : Nat) (r : Nat) (x : Nat) : Option Value → va_W → Prop := fun q ws => ∃ nf' : Nat → Int, q = none ∧ ws = [(wh, whE wa fo le), (wa 2, aI G 7 kf), (wa 4, aI G 7 nf'), (go, goE ga ((n : Nat) : Int) ((d : Nat) : Int) ((c : Nat) : Int)), (ga 0, aI G 36 (gf 0)), (ga 1, aI G 7 (gf 1)), (ga 2, aI G 7 (gf 2)), (ga 3, aI G 7 (gf 3)), (ga 4, aI G 7 (gf 4)), (ga 5, aI G 6 (gf 5)), (ga 6, aI G 6 (gf 6)), (ga 7, aI G 8 (gf 7))] ∧ ∀ p, p < n → nf' p = enc (fwN b n wind fr ((r * n + x) * n + n) p)
abbrev W_X5_passOn (G : XG) (E : XE) (go : Nat) (ga : Nat → Nat) (b : Nat → Int) (n : Nat) (d : Nat) (c : Nat) (gf : Nat → Nat → Int) (wh : Nat) (wa : Nat → Nat) (fo : Int) (le : Int) (kf : Nat → Int) (nf : Nat → Int) (wind : Nat) (fr : Nat) (r : Nat) (x : Nat) (pc : Nat) (lv : List (Nat × Value)) (st : List Value) (ws : va_W) : Prop := Wx G E (rmL 1) cX5_passOn 5 RX5 wsX5_passOn none "passOn" 0 0 (P_X5_passOn G go ga b n d c gf wh wa fo le kf nf wind fr r x) 0 0 pc lv st ws
theorem flX5_passOn_9 : Cond.fieldLink RX5 9 (TX5 2).1 (TX5 2).2.1 (TX5 2).2.2.1 ∈ wsX5_passOn := by decide +kernel
theorem flX5_passOn_18 : Cond.fieldLink RX5 18 (TX5 4).1 (TX5 4).2.1 (TX5 4).2.2.1 ∈ wsX5_passOn := by decide +kernel
theorem flX5_passOn_36 : Cond.fieldLink RX5 36 (TX0 0).1 (TX0 0).2.1 (TX0 0).2.2.1 ∈ wsX5_passOn := by decide +kernel
theorem flX5_passOn_49 : Cond.fieldLink RX5 49 (TX0 5).1 (TX0 5).2.1 (TX0 5).2.2.1 ∈ wsX5_passOn := by decide +kernel
theorem inX5_passOn_X0 : ∀ w ∈ u_ws RX0 TX0 11, w ∈ wsX5_passOn := fun _ h => List.mem_cons_of_mem _ (List.mem_append_left _ (List.mem_append_right _ h))
theorem inX5_passOn_X5 : ∀ w ∈ u_ws RX5 TX5 7, w ∈ wsX5_passOn := fun _ h => List.mem_cons_of_mem _ (List.mem_append_right _ h)
set_option maxHeartbeats 4000000 in
set_option maxRecDepth 100000 in
/-- passOn -/
theorem c_X5_passOn (G : XG) (go : Nat) (ga : Nat → Nat) (b : Nat → Int) (n d c : Nat) (gf : Nat → Nat → Int) (I : Inv b n d c) (R : GR b n d c gf) (wh : Nat) (wa : Nat → Nat) (fo le : Int) (kf nf : Nat → Int) (wind fr r x : Nat) (hr : r < 7) (hx : x < n) (hk : ∀ i, i < n → kf i = ((bitF (cbN b n wind i) n : Nat) : Int)) (hnf : ∀ p, p < n → nf p = enc (fwN b n wind fr ((r * n + x) * n) p)) (hlt : fwN b n wind fr ((r * n + x) * n) x < 100000) : Con G yX5_passOn wsX5_passOn (rmL 1) 0 0 [.ref wh, .ref go, .int (zI ((x : Nat) : Int))] ([(wh, whE wa fo le), (wa 2, aI G 7 kf), (wa 4, aI G 7 nf), (go, goE ga ((n : Nat) : Int) ((d : Nat) : Int) ((c : Nat) : Int)), (ga 0, aI G 36 (gf 0)), (ga 1, aI G 7 (gf 1)), (ga 2, aI G 7 (gf 2)), (ga 3, aI G 7 (gf 3)), (ga 4, aI G 7 (gf 4)), (ga 5, aI G 6 (gf 5)), (ga 6, aI G 6 (gf 6)), (ga 7, aI G 8 (gf 7))]) (P_X5_passOn G go ga b n d c gf wh wa fo le kf nf wind fr r x) := by
  refine x_start (cc := cX5_passOn) (nL := 5) (ret := none) (by decide) rfl (Nat.le_of_ble_eq_true rfl) (fun E => ?_)
  show W_X5_passOn G E go ga b n d c gf wh wa fo le kf nf wind fr r x 0 [(0, .ref wh), (1, .ref go), (2, .int (zI ((x : Nat) : Int)))] [] ([(wh, whE wa fo le), (wa 2, aI G 7 kf), (wa 4, aI G 7 nf), (go, goE ga ((n : Nat) : Int) ((d : Nat) : Int) ((c : Nat) : Int)), (ga 0, aI G 36 (gf 0)), (ga 1, aI G 7 (gf 1)), (ga 2, aI G 7 (gf 2)), (ga 3, aI G 7 (gf 3)), (ga 4, aI G 7 (gf 4)), (ga 5, aI G 6 (gf 5)), (ga 6, aI G 6 (gf 6)), (ga 7, aI G 8 (gf 7))])
  have hn7 := I.n7
  have hd6 := I.d6
  have hc8 := I.c8
  refine x_iconst 1 rfl dX5_passOn_0 (z := 0) (by decide) ?_
  refine x_istore_n 2 rfl (lv' := [(3, .int (zI 0)), (0, .ref wh), (1, .ref go), (2, .int (zI ((x : Nat) : Int)))]) dX5_passOn_1 (by decide) rfl ?_
  have L2 : ∀ (f2 : Nat) (y : Nat) (f : Nat → Int) (hy : y ≤ n) (hf : ∀ p, p < n → f p = enc (fwN b n wind fr ((r * n + x) * n + y) p)), n - y < f2 → W_X5_passOn G E go ga b n d c gf wh wa fo le kf nf wind fr r x 2 [(0, .ref wh), (1, .ref go), (2, .int (zI ((x : Nat) : Int))), (3, .int (zI ((y : Nat) : Int)))] [] ([(wh, whE wa fo le), (wa 2, aI G 7 kf), (wa 4, aI G 7 f), (go, goE ga ((n : Nat) : Int) ((d : Nat) : Int) ((c : Nat) : Int)), (ga 0, aI G 36 (gf 0)), (ga 1, aI G 7 (gf 1)), (ga 2, aI G 7 (gf 2)), (ga 3, aI G 7 (gf 3)), (ga 4, aI G 7 (gf 4)), (ga 5, aI G 6 (gf 5)), (ga 6, aI G 6 (gf 6)), (ga 7, aI G 8 (gf 7))]) := by
    intro f2
    induction f2 with
    | zero => intro y f hy hf hf2; exact absurd hf2 (Nat.not_lt_zero _)
    | succ f2 ih2 =>
      intro y f hy hf hf2
      refine x_iload_n 3 rfl dX5_passOn_2 3 rfl ?_
      refine x_aload_n 4 rfl dX5_passOn_3 1 rfl ?_
      refine x_get 7 rfl (v := .int (zI ((n : Nat) : Int))) 3 0 rfl rfl (by decide) inX5_passOn_X0 flX5_passOn_36 rfl dX5_passOn_4 ?_
      refine x_icmp_ge 10 rfl (tgt := 79) dX5_passOn_7 (by decide) (by omega) (by omega) (fun h7 => ?_) (fun h7 => ?_)
      · skip
        refine x_vret rfl ?_ dX5_passOn_79
        have e : y = n := by omega
        exact ⟨f, rfl, rfl, fun p hp => by rw [hf p hp, e]⟩
      · skip
        have hyn : y < n := by omega
        have hty := I.t hyn
        have hnt := notes_vt _ (vt_lt hty.2) hty.2
        have hbl := bitF_lt (cbN b n wind x) n
        have hpn : 2 ^ n ≤ 2 ^ 7 := Nat.pow_le_pow_right (by decide) hn7
        have hvx : fwN b n wind fr ((r * n + x) * n + y) x < 100000 := Int.lt_of_le_of_lt (fw_mono (by omega)) hlt
        have hvs := fw_small I (by omega) hvx
        have hts := t_small (y := y) hn7 hr hx (by omega)
        have hvr := fw_r I wind fr ((r * n + x) * n + y) x
        have hwr := fw_r I wind fr ((r * n + x) * n + y) y
        have hex := enc_0 hvx
        obtain ⟨v1, hv1⟩ : ∃ v, v = bitF (cbN b n wind x) n / 2 ^ y := ⟨_, rfl⟩
        have hv2 : v1 ≤ bitF (cbN b n wind x) n := by rw [hv1]; exact Nat.div_le_self _ _
        obtain ⟨w0, hw0⟩ : ∃ w0, w0 = enc (fwN b n wind fr ((r * n + x) * n + y) y) := ⟨_, rfl⟩
        have hw1 : -1 ≤ w0 ∧ w0 ≤ 100000 ∧ (fwN b n wind fr ((r * n + x) * n + y) y < 100000 → w0 = fwN b n wind fr ((r * n + x) * n + y) y) ∧ (100000 ≤ fwN b n wind fr ((r * n + x) * n + y) y → w0 = -1) := by rw [hw0]; unfold enc; split <;> omega
        refine x_aload_n 11 rfl dX5_passOn_10 0 rfl ?_
        refine x_get 14 rfl (v := .ref (wa 2)) 0 2 rfl rfl (by decide) inX5_passOn_X5 flX5_passOn_9 rfl dX5_passOn_11 ?_
        refine x_iload_n 15 rfl dX5_passOn_14 2 rfl ?_
        refine x_iald 16 rfl 1 x rfl (⟨by omega, by omega⟩) (by decide) (v := ((bitF (cbN b n wind x) n : Nat) : Int)) (hk x hx) dX5_passOn_15 ?_
        refine x_iload_n 17 rfl dX5_passOn_16 3 rfl ?_
        refine x_ishr 18 rfl dX5_passOn_17 (z := (((bitF (cbN b n wind x) n) / 2 ^ y : Nat) : Int)) (zI_shr (t := (bitF (cbN b n wind x) n)) (i := y) (by omega) (by omega)) ?_
        refine x_iconst 19 rfl dX5_passOn_18 (z := 1) (by decide) ?_
        refine x_iand 20 rfl dX5_passOn_19 (z := ((bitF (cbN b n wind x) n / 2 ^ y % 2 : Nat) : Int)) (zI_and1 (t := bitF (cbN b n wind x) n / 2 ^ y) (by omega)) ?_
        refine x_if_ne 23 rfl (tgt := 26) dX5_passOn_20 (by decide) (by omega) (fun h20 => ?_) (fun h20 => ?_)
        · skip
          have htaw : taW b n wind x y = notesN (tN b y) := taW_t hx hyn ((cb_bit hyn).mp (by omega))
          refine x_aload_n 27 rfl dX5_passOn_26 0 rfl ?_
          refine x_get 30 rfl (v := .ref (wa 4)) 0 4 rfl rfl (by decide) inX5_passOn_X5 flX5_passOn_18 rfl dX5_passOn_27 ?_
          refine x_iload_n 31 rfl dX5_passOn_30 2 rfl ?_
          refine x_iald 32 rfl 2 x rfl (⟨by omega, by omega⟩) (by decide) (v := fwN b n wind fr ((r * n + x) * n + y) x) ((hf x hx).trans hex) dX5_passOn_31 ?_
          refine x_aload_n 33 rfl dX5_passOn_32 1 rfl ?_
          refine x_get 36 rfl (v := .ref (ga 2)) 3 5 rfl rfl (by decide) inX5_passOn_X0 flX5_passOn_49 rfl dX5_passOn_33 ?_
          refine x_iload_n 37 rfl dX5_passOn_36 3 rfl ?_
          refine x_iald 38 rfl 6 y rfl (⟨by omega, by omega⟩) (by decide) (v := ((tN b y : Nat) : Int)) (R.t I hyn) dX5_passOn_37 ?_
          refine x_callS0 41 rfl (c_X4_notes_v G (tN b y) hty.2) (fun _ _ h => h.2) gX5_passOn_X4_notes rfl rfl rfl hd_X4_notes ⟨Nat.le_of_ble_eq_true rfl, Nat.le_of_ble_eq_true rfl⟩ (As := [.int (zI ((tN b y : Nat) : Int))]) (rest := [.int (zI (fwN b n wind fr ((r * n + x) * n + y) x))]) rfl rfl (Nat.le_of_ble_eq_true rfl) dX5_passOn_38 ⟨Nat.zero_le _, Nat.zero_le _⟩ (fun v hq => ?_)
          obtain ⟨rfl, -⟩ := hq
          refine x_iadd 42 rfl dX5_passOn_41 (z := (fwN b n wind fr ((r * n + x) * n + y) x) + ((notesN (tN b y) : Nat) : Int)) (rfl) ?_
          refine x_istore 44 rfl (lv' := [(4, .int (zI ((fwN b n wind fr ((r * n + x) * n + y) x) + ((notesN (tN b y) : Nat) : Int)))), (0, .ref wh), (1, .ref go), (2, .int (zI ((x : Nat) : Int))), (3, .int (zI ((y : Nat) : Int)))]) dX5_passOn_42 (by decide) rfl ?_
          refine x_aload_n 45 rfl dX5_passOn_44 1 rfl ?_
          refine x_get 48 rfl (v := .ref (wa 4)) 0 4 rfl rfl (by decide) inX5_passOn_X5 flX5_passOn_18 rfl dX5_passOn_45 ?_
          refine x_iload_n 49 rfl dX5_passOn_48 4 rfl ?_
          refine x_iald 50 rfl 2 y rfl (⟨by omega, by omega⟩) (by decide) (v := w0) ((hf y hyn).trans hw0.symm) dX5_passOn_49 ?_
          refine x_iconst 51 rfl dX5_passOn_50 (z := (-1)) (by decide) ?_
          refine x_icmp_eq 54 rfl (tgt := 65) dX5_passOn_51 (by decide) (by omega) (by decide) (fun h51 => ?_) (fun h51 => ?_)
          · skip
            refine x_aload_n 66 rfl dX5_passOn_65 1 rfl ?_
            refine x_get 69 rfl (v := .ref (wa 4)) 0 4 rfl rfl (by decide) inX5_passOn_X5 flX5_passOn_18 rfl dX5_passOn_66 ?_
            refine x_iload_n 70 rfl dX5_passOn_69 4 rfl ?_
            refine x_iload 72 rfl dX5_passOn_70 0 rfl ?_
            refine x_iast 73 rfl 2 y rfl (⟨by omega, by omega⟩) (by decide) (ws' := [(wh, whE wa fo le), (wa 2, aI G 7 kf), (wa 4, aI G 7 (zup f y ((fwN b n wind fr ((r * n + x) * n + y) x) + ((notesN (tN b y) : Nat) : Int)))), (go, goE ga ((n : Nat) : Int) ((d : Nat) : Int) ((c : Nat) : Int)), (ga 0, aI G 36 (gf 0)), (ga 1, aI G 7 (gf 1)), (ga 2, aI G 7 (gf 2)), (ga 3, aI G 7 (gf 3)), (ga 4, aI G 7 (gf 4)), (ga 5, aI G 6 (gf 5)), (ga 6, aI G 6 (gf 6)), (ga 7, aI G 8 (gf 7))]) (rfl) dX5_passOn_72 ?_
            refine x_iinc 76 rfl (lv' := [(3, .int (zI ((y + 1 : Nat) : Int))), (4, .int (zI ((fwN b n wind fr ((r * n + x) * n + y) x) + ((notesN (tN b y) : Nat) : Int)))), (0, .ref wh), (1, .ref go), (2, .int (zI ((x : Nat) : Int)))]) dX5_passOn_73 4 rfl (b := ((y + 1 : Nat) : Int)) (by omega) (by decide) rfl ?_
            refine x_goto dX5_passOn_76 (tgt := 2) (by decide) ?_
            refine x_lv [2, 3, 4, 0] rfl ?_
            exact ih2 (y + 1) (zup f y ((fwN b n wind fr ((r * n + x) * n + y) x) + ((notesN (tN b y) : Nat) : Int))) (by omega) (fun p hp => by
                rw [fw_s hx hyn]
                by_cases e : p = y
                · subst e; rw [zup_s, if_pos rfl, htaw]; unfold enc; split <;> omega
                · rw [zup_n _ _ e, if_neg e]; exact hf p hp) (by omega)
          · skip
            refine x_iload 56 rfl dX5_passOn_54 0 rfl ?_
            refine x_aload_n 57 rfl dX5_passOn_56 1 rfl ?_
            refine x_get 60 rfl (v := .ref (wa 4)) 0 4 rfl rfl (by decide) inX5_passOn_X5 flX5_passOn_18 rfl dX5_passOn_57 ?_
            refine x_iload_n 61 rfl dX5_passOn_60 4 rfl ?_
            refine x_iald 62 rfl 2 y rfl (⟨by omega, by omega⟩) (by decide) (v := w0) ((hf y hyn).trans hw0.symm) dX5_passOn_61 ?_
            refine x_icmp_ge 65 rfl (tgt := 73) dX5_passOn_62 (by decide) (by omega) (by omega) (fun h62 => ?_) (fun h62 => ?_)
            · skip
              refine x_iinc 76 rfl (lv' := [(3, .int (zI ((y + 1 : Nat) : Int))), (4, .int (zI ((fwN b n wind fr ((r * n + x) * n + y) x) + ((notesN (tN b y) : Nat) : Int)))), (0, .ref wh), (1, .ref go), (2, .int (zI ((x : Nat) : Int)))]) dX5_passOn_73 4 rfl (b := ((y + 1 : Nat) : Int)) (by omega) (by decide) rfl ?_
              refine x_goto dX5_passOn_76 (tgt := 2) (by decide) ?_
              refine x_lv [2, 3, 4, 0] rfl ?_
              exact ih2 (y + 1) f (by omega) (fun p hp => by
                  rw [fw_s hx hyn]
                  by_cases e : p = y
                  · subst e; rw [hf p hp, if_pos rfl, htaw]; unfold enc; split <;> split <;> omega
                  · rw [if_neg e]; exact hf p hp) (by omega)
            · skip
              refine x_aload_n 66 rfl dX5_passOn_65 1 rfl ?_
              refine x_get 69 rfl (v := .ref (wa 4)) 0 4 rfl rfl (by decide) inX5_passOn_X5 flX5_passOn_18 rfl dX5_passOn_66 ?_
              refine x_iload_n 70 rfl dX5_passOn_69 4 rfl ?_
              refine x_iload 72 rfl dX5_passOn_70 0 rfl ?_
              refine x_iast 73 rfl 2 y rfl (⟨by omega, by omega⟩) (by decide) (ws' := [(wh, whE wa fo le), (wa 2, aI G 7 kf), (wa 4, aI G 7 (zup f y ((fwN b n wind fr ((r * n + x) * n + y) x) + ((notesN (tN b y) : Nat) : Int)))), (go, goE ga ((n : Nat) : Int) ((d : Nat) : Int) ((c : Nat) : Int)), (ga 0, aI G 36 (gf 0)), (ga 1, aI G 7 (gf 1)), (ga 2, aI G 7 (gf 2)), (ga 3, aI G 7 (gf 3)), (ga 4, aI G 7 (gf 4)), (ga 5, aI G 6 (gf 5)), (ga 6, aI G 6 (gf 6)), (ga 7, aI G 8 (gf 7))]) (rfl) dX5_passOn_72 ?_
              refine x_iinc 76 rfl (lv' := [(3, .int (zI ((y + 1 : Nat) : Int))), (4, .int (zI ((fwN b n wind fr ((r * n + x) * n + y) x) + ((notesN (tN b y) : Nat) : Int)))), (0, .ref wh), (1, .ref go), (2, .int (zI ((x : Nat) : Int)))]) dX5_passOn_73 4 rfl (b := ((y + 1 : Nat) : Int)) (by omega) (by decide) rfl ?_
              refine x_goto dX5_passOn_76 (tgt := 2) (by decide) ?_
              refine x_lv [2, 3, 4, 0] rfl ?_
              exact ih2 (y + 1) (zup f y ((fwN b n wind fr ((r * n + x) * n + y) x) + ((notesN (tN b y) : Nat) : Int))) (by omega) (fun p hp => by
                  rw [fw_s hx hyn]
                  by_cases e : p = y
                  · subst e; rw [zup_s, if_pos rfl, htaw]; unfold enc; split <;> omega
                  · rw [zup_n _ _ e, if_neg e]; exact hf p hp) (by omega)
        · skip
          have htaw : taW b n wind x y = 100000 := taW_f (fun hh => by have := (cb_bit (n := n) hyn).mpr hh; omega)
          refine x_goto dX5_passOn_23 (tgt := 73) (by decide) ?_
          refine x_iinc 76 rfl (lv' := [(3, .int (zI ((y + 1 : Nat) : Int))), (0, .ref wh), (1, .ref go), (2, .int (zI ((x : Nat) : Int)))]) dX5_passOn_73 3 rfl (b := ((y + 1 : Nat) : Int)) (by omega) (by decide) rfl ?_
          refine x_goto dX5_passOn_76 (tgt := 2) (by decide) ?_
          refine x_lv [1, 2, 3, 0] rfl ?_
          exact ih2 (y + 1) f (by omega) (fun p hp => by
              rw [fw_s hx hyn]
              by_cases e : p = y
              · subst e; rw [hf p hp, if_pos rfl, htaw]; unfold enc; split <;> split <;> omega
              · rw [if_neg e]; exact hf p hp) (by omega)
  refine x_lv [1, 2, 3, 0] rfl ?_
  exact L2 _ 0 nf (by omega) (hnf) (Nat.lt_succ_self _)

theorem Nat.succ_add_mul_n {r n x : Nat} : (r * n + (x + 1)) * n = (r * n + x) * n + n := by rw [← Nat.add_assoc, Nat.succ_mul]
theorem enc_wd {fr p : Nat} : enc (wd0 fr p) = if p = fr then 0 else -1 := by unfold enc wd0; split <;> rfl
abbrev P_X5_sendWord (G : XG) (go : Nat) (ga : Nat → Nat) (b : Nat → Int) (n : Nat) (d : Nat) (c : Nat) (gf : Nat → Nat → Int) (wh : Nat) (wa : Nat → Nat) (fo : Int) (le : Int) (la : Nat → Nat) (F : Nat → LsT) (kf : Nat → Int) (nf : Nat → Int) (fr : Nat) (wind : Nat) : Option Value → va_W → Prop := fun q ws => ∃ F' : Nat → LsT, ∃ kf' nf' : Nat → Int, q = none ∧ ws = [(wh, whE wa fo le), (wa 0, aN G 7 (laF la)), (wa 2, aI G 7 kf'), (wa 4, aI G 7 nf'), (go, goE ga ((n : Nat) : Int) ((d : Nat) : Int) ((c : Nat) : Int)), (ga 0, aI G 36 (gf 0)), (ga 1, aI G 7 (gf 1)), (ga 2, aI G 7 (gf 2)), (ga 3, aI G 7 (gf 3)), (ga 4, aI G 7 (gf 4)), (ga 5, aI G 6 (gf 5)), (ga 6, aI G 6 (gf 6)), (ga 7, aI G 8 (gf 7))] ++ lsW la F' ∧ (∀ i, i < n → kf' i = ((bitF (cbN b n wind i) n : Nat) : Int)) ∧ ∀ p, p < n → nf' p = enc (fwN b n wind fr ((7 * n) * n) p)
abbrev W_X5_sendWord (G : XG) (E : XE) (go : Nat) (ga : Nat → Nat) (b : Nat → Int) (n : Nat) (d : Nat) (c : Nat) (gf : Nat → Nat → Int) (wh : Nat) (wa : Nat → Nat) (fo : Int) (le : Int) (la : Nat → Nat) (F : Nat → LsT) (kf : Nat → Int) (nf : Nat → Int) (fr : Nat) (wind : Nat) (pc : Nat) (lv : List (Nat × Value)) (st : List Value) (ws : va_W) : Prop := Wx G E (rmL 5) cX5_sendWord 6 RX5 wsX5_sendWord none "sendWord" 0 0 (P_X5_sendWord G go ga b n d c gf wh wa fo le la F kf nf fr wind) 0 0 pc lv st ws
theorem flX5_sendWord_18 : Cond.fieldLink RX5 18 (TX5 4).1 (TX5 4).2.1 (TX5 4).2.2.1 ∈ wsX5_sendWord := by decide +kernel
theorem flX5_sendWord_36 : Cond.fieldLink RX5 36 (TX0 0).1 (TX0 0).2.1 (TX0 0).2.2.1 ∈ wsX5_sendWord := by decide +kernel
theorem inX5_sendWord_X0 : ∀ w ∈ u_ws RX0 TX0 11, w ∈ wsX5_sendWord := fun _ h => List.mem_cons_of_mem _ (List.mem_append_left _ (List.mem_append_left _ (List.mem_append_right _ h)))
theorem inX5_sendWord_X5 : ∀ w ∈ u_ws RX5 TX5 7, w ∈ wsX5_sendWord := fun _ h => List.mem_cons_of_mem _ (List.mem_append_left _ (List.mem_append_right _ h))
set_option maxHeartbeats 4000000 in
set_option maxRecDepth 100000 in
/-- sendWord -/
theorem c_X5_sendWord (G : XG) (go : Nat) (ga : Nat → Nat) (b : Nat → Int) (n d c : Nat) (gf : Nat → Nat → Int) (I : Inv b n d c) (R : GR b n d c gf) (wh : Nat) (wa : Nat → Nat) (fo le : Int) (la : Nat → Nat) (F : Nat → LsT) (kf nf : Nat → Int) (fr wind : Nat) (hfr : fr < n) (hw : wind < 4) : Con G yX5_sendWord wsX5_sendWord (rmL 5) 0 0 [.ref wh, .ref go, .int (zI ((fr : Nat) : Int)), .int (zI ((wind : Nat) : Int))] ([(wh, whE wa fo le), (wa 0, aN G 7 (laF la)), (wa 2, aI G 7 kf), (wa 4, aI G 7 nf), (go, goE ga ((n : Nat) : Int) ((d : Nat) : Int) ((c : Nat) : Int)), (ga 0, aI G 36 (gf 0)), (ga 1, aI G 7 (gf 1)), (ga 2, aI G 7 (gf 2)), (ga 3, aI G 7 (gf 3)), (ga 4, aI G 7 (gf 4)), (ga 5, aI G 6 (gf 5)), (ga 6, aI G 6 (gf 6)), (ga 7, aI G 8 (gf 7))] ++ lsW la F) (P_X5_sendWord G go ga b n d c gf wh wa fo le la F kf nf fr wind) := by
  refine x_start (cc := cX5_sendWord) (nL := 6) (ret := none) (by decide) rfl (Nat.le_of_ble_eq_true rfl) (fun E => ?_)
  show W_X5_sendWord G E go ga b n d c gf wh wa fo le la F kf nf fr wind 0 [(0, .ref wh), (1, .ref go), (2, .int (zI ((fr : Nat) : Int))), (3, .int (zI ((wind : Nat) : Int)))] [] ([(wh, whE wa fo le), (wa 0, aN G 7 (laF la)), (wa 2, aI G 7 kf), (wa 4, aI G 7 nf), (go, goE ga ((n : Nat) : Int) ((d : Nat) : Int) ((c : Nat) : Int)), (ga 0, aI G 36 (gf 0)), (ga 1, aI G 7 (gf 1)), (ga 2, aI G 7 (gf 2)), (ga 3, aI G 7 (gf 3)), (ga 4, aI G 7 (gf 4)), (ga 5, aI G 6 (gf 5)), (ga 6, aI G 6 (gf 6)), (ga 7, aI G 8 (gf 7))] ++ lsW la F)
  have hn7 := I.n7
  have hd6 := I.d6
  have hc8 := I.c8
  refine x_aload_n 1 rfl dX5_sendWord_0 0 rfl ?_
  refine x_aload_n 2 rfl dX5_sendWord_1 1 rfl ?_
  refine x_iload_n 3 rfl dX5_sendWord_2 3 rfl ?_
  refine x_callV 6 rfl (c_X5_findCallable G go ga b n d c gf I R wh wa fo le la F kf wind (by omega)) [0, 1, 2, 4, 5, 6, 7, 8, 9, 10, 11, 12, 13, 14, 15, 16, 17, 18, 19] rfl (by decide) 0 rfl rfl gX5_sendWord_X5_findCallable rfl rfl rfl hd_X5_findCallable ⟨Nat.le_of_ble_eq_true rfl, Nat.le_of_ble_eq_true rfl⟩ (As := [.ref go, .int (zI ((wind : Nat) : Int))]) (rest := []) rfl rfl (Nat.le_of_ble_eq_true rfl) dX5_sendWord_3 ⟨Nat.zero_le _, Nat.zero_le _⟩ (fun v w hq => ?_)
  obtain ⟨Fz_1, kz_2, rfl, rfl, hkz⟩ := hq
  refine ⟨rfl, ?_⟩
  refine x_ws (ws' := [(wh, whE wa fo le), (wa 0, aN G 7 (laF la)), (wa 2, aI G 7 kz_2), (wa 4, aI G 7 nf), (go, goE ga ((n : Nat) : Int) ((d : Nat) : Int) ((c : Nat) : Int)), (ga 0, aI G 36 (gf 0)), (ga 1, aI G 7 (gf 1)), (ga 2, aI G 7 (gf 2)), (ga 3, aI G 7 (gf 3)), (ga 4, aI G 7 (gf 4)), (ga 5, aI G 6 (gf 5)), (ga 6, aI G 6 (gf 6)), (ga 7, aI G 8 (gf 7))] ++ lsW la Fz_1) (rfl) ?_
  refine x_iconst 7 rfl dX5_sendWord_6 (z := 0) (by decide) ?_
  refine x_istore 9 rfl (lv' := [(4, .int (zI 0)), (0, .ref wh), (1, .ref go), (2, .int (zI ((fr : Nat) : Int))), (3, .int (zI ((wind : Nat) : Int)))]) dX5_sendWord_7 (by decide) rfl ?_
  have L9 : ∀ (f9 : Nat) (k : Nat) (f : Nat → Int) (hkn : k ≤ n) (hf : ∀ p, p < k → f p = enc (wd0 fr p)), n - k < f9 → W_X5_sendWord G E go ga b n d c gf wh wa fo le la F kf nf fr wind 9 [(0, .ref wh), (1, .ref go), (2, .int (zI ((fr : Nat) : Int))), (3, .int (zI ((wind : Nat) : Int))), (4, .int (zI ((k : Nat) : Int)))] [] ([(wh, whE wa fo le), (wa 0, aN G 7 (laF la)), (wa 2, aI G 7 kz_2), (wa 4, aI G 7 f), (go, goE ga ((n : Nat) : Int) ((d : Nat) : Int) ((c : Nat) : Int)), (ga 0, aI G 36 (gf 0)), (ga 1, aI G 7 (gf 1)), (ga 2, aI G 7 (gf 2)), (ga 3, aI G 7 (gf 3)), (ga 4, aI G 7 (gf 4)), (ga 5, aI G 6 (gf 5)), (ga 6, aI G 6 (gf 6)), (ga 7, aI G 8 (gf 7))] ++ lsW la Fz_1) := by
    intro f9
    induction f9 with
    | zero => intro k f hkn hf hf9; exact absurd hf9 (Nat.not_lt_zero _)
    | succ f9 ih9 =>
      intro k f hkn hf hf9
      refine x_iload 11 rfl dX5_sendWord_9 4 rfl ?_
      refine x_aload_n 12 rfl dX5_sendWord_11 1 rfl ?_
      refine x_get 15 rfl (v := .int (zI ((n : Nat) : Int))) 4 0 rfl rfl (by decide) inX5_sendWord_X0 flX5_sendWord_36 rfl dX5_sendWord_12 ?_
      refine x_icmp_ge 18 rfl (tgt := 42) dX5_sendWord_15 (by decide) (by omega) (by omega) (fun h15 => ?_) (fun h15 => ?_)
      · skip
        refine x_iconst 43 rfl dX5_sendWord_42 (z := 0) (by decide) ?_
        refine x_istore 45 rfl (lv' := [(4, .int (zI 0)), (0, .ref wh), (1, .ref go), (2, .int (zI ((fr : Nat) : Int))), (3, .int (zI ((wind : Nat) : Int)))]) dX5_sendWord_43 (by decide) rfl ?_
        have L45 : ∀ (f45 : Nat) (r : Nat) (f : Nat → Int) (hr : r ≤ n) (hf : ∀ p, p < n → f p = enc (fwN b n wind fr ((r * n) * n) p)), n - r < f45 → W_X5_sendWord G E go ga b n d c gf wh wa fo le la F kf nf fr wind 45 [(0, .ref wh), (1, .ref go), (2, .int (zI ((fr : Nat) : Int))), (3, .int (zI ((wind : Nat) : Int))), (4, .int (zI ((r : Nat) : Int)))] [] ([(wh, whE wa fo le), (wa 0, aN G 7 (laF la)), (wa 2, aI G 7 kz_2), (wa 4, aI G 7 f), (go, goE ga ((n : Nat) : Int) ((d : Nat) : Int) ((c : Nat) : Int)), (ga 0, aI G 36 (gf 0)), (ga 1, aI G 7 (gf 1)), (ga 2, aI G 7 (gf 2)), (ga 3, aI G 7 (gf 3)), (ga 4, aI G 7 (gf 4)), (ga 5, aI G 6 (gf 5)), (ga 6, aI G 6 (gf 6)), (ga 7, aI G 8 (gf 7))] ++ lsW la Fz_1) := by
          intro f45
          induction f45 with
          | zero => intro r f hr hf hf45; exact absurd hf45 (Nat.not_lt_zero _)
          | succ f45 ih45 =>
            intro r f hr hf hf45
            refine x_iload 47 rfl dX5_sendWord_45 4 rfl ?_
            refine x_aload_n 48 rfl dX5_sendWord_47 1 rfl ?_
            refine x_get 51 rfl (v := .int (zI ((n : Nat) : Int))) 4 0 rfl rfl (by decide) inX5_sendWord_X0 flX5_sendWord_36 rfl dX5_sendWord_48 ?_
            refine x_icmp_ge 54 rfl (tgt := 96) dX5_sendWord_51 (by decide) (by omega) (by omega) (fun h51 => ?_) (fun h51 => ?_)
            · skip
              refine x_vret rfl ?_ dX5_sendWord_96
              obtain rfl : r = n := by omega
              exact ⟨_, _, f, rfl, rfl, hkz, fun p hp => by rw [hf p hp]; exact congrArg enc (g_end (by omega) hfr (taW_1 I wind) (by rw [Nat.mul_assoc]; exact Nat.mul_le_mul_right _ (by omega)) (seven_n hn7) p)⟩
            · skip
              refine x_iconst 55 rfl dX5_sendWord_54 (z := 0) (by decide) ?_
              refine x_istore 57 rfl (lv' := [(5, .int (zI 0)), (0, .ref wh), (1, .ref go), (2, .int (zI ((fr : Nat) : Int))), (3, .int (zI ((wind : Nat) : Int))), (4, .int (zI ((r : Nat) : Int)))]) dX5_sendWord_55 (by decide) rfl ?_
              have L57 : ∀ (f57 : Nat) (x : Nat) (f : Nat → Int) (hx1 : x ≤ n) (hf : ∀ p, p < n → f p = enc (fwN b n wind fr ((r * n + x) * n) p)), n - x < f57 → W_X5_sendWord G E go ga b n d c gf wh wa fo le la F kf nf fr wind 57 [(0, .ref wh), (1, .ref go), (2, .int (zI ((fr : Nat) : Int))), (3, .int (zI ((wind : Nat) : Int))), (4, .int (zI ((r : Nat) : Int))), (5, .int (zI ((x : Nat) : Int)))] [] ([(wh, whE wa fo le), (wa 0, aN G 7 (laF la)), (wa 2, aI G 7 kz_2), (wa 4, aI G 7 f), (go, goE ga ((n : Nat) : Int) ((d : Nat) : Int) ((c : Nat) : Int)), (ga 0, aI G 36 (gf 0)), (ga 1, aI G 7 (gf 1)), (ga 2, aI G 7 (gf 2)), (ga 3, aI G 7 (gf 3)), (ga 4, aI G 7 (gf 4)), (ga 5, aI G 6 (gf 5)), (ga 6, aI G 6 (gf 6)), (ga 7, aI G 8 (gf 7))] ++ lsW la Fz_1) := by
                intro f57
                induction f57 with
                | zero => intro x f hx1 hf hf57; exact absurd hf57 (Nat.not_lt_zero _)
                | succ f57 ih57 =>
                  intro x f hx1 hf hf57
                  refine x_iload 59 rfl dX5_sendWord_57 5 rfl ?_
                  refine x_aload_n 60 rfl dX5_sendWord_59 1 rfl ?_
                  refine x_get 63 rfl (v := .int (zI ((n : Nat) : Int))) 4 0 rfl rfl (by decide) inX5_sendWord_X0 flX5_sendWord_36 rfl dX5_sendWord_60 ?_
                  refine x_icmp_ge 66 rfl (tgt := 90) dX5_sendWord_63 (by decide) (by omega) (by omega) (fun h63 => ?_) (fun h63 => ?_)
                  · skip
                    refine x_iinc 93 rfl (lv' := [(4, .int (zI ((r + 1 : Nat) : Int))), (0, .ref wh), (1, .ref go), (2, .int (zI ((fr : Nat) : Int))), (3, .int (zI ((wind : Nat) : Int))), (5, .int (zI ((x : Nat) : Int)))]) dX5_sendWord_90 4 rfl (b := ((r + 1 : Nat) : Int)) (by omega) (by decide) rfl ?_
                    refine x_goto dX5_sendWord_93 (tgt := 45) (by decide) ?_
                    refine x_lv [1, 2, 3, 4, 0] rfl ?_
                    exact ih45 (r + 1) f (by omega) (fun p hp => by rw [hf p hp, show x = n by omega, Nat.succ_mul]) (by omega)
                  · skip
                    have hxn : x < n := by omega
                    obtain ⟨w0, hw0⟩ : ∃ w0, w0 = enc (fwN b n wind fr ((r * n + x) * n) x) := ⟨_, rfl⟩
                    have hwr := fw_r I wind fr ((r * n + x) * n) x
                    have hw1 : -1 ≤ w0 ∧ w0 ≤ 100000 ∧ (fwN b n wind fr ((r * n + x) * n) x < 100000 → w0 = fwN b n wind fr ((r * n + x) * n) x) := by rw [hw0]; unfold enc; split <;> omega
                    have hw2 : 100000 ≤ fwN b n wind fr ((r * n + x) * n) x → w0 = -1 := fun h => by rw [hw0]; exact enc_1 h
                    refine x_aload_n 67 rfl dX5_sendWord_66 0 rfl ?_
                    refine x_get 70 rfl (v := .ref (wa 4)) 0 4 rfl rfl (by decide) inX5_sendWord_X5 flX5_sendWord_18 rfl dX5_sendWord_67 ?_
                    refine x_iload 72 rfl dX5_sendWord_70 5 rfl ?_
                    refine x_iald 73 rfl 3 x rfl (⟨by omega, by omega⟩) (by decide) (v := w0) ((hf x hxn).trans hw0.symm) dX5_sendWord_72 ?_
                    refine x_iconst 74 rfl dX5_sendWord_73 (z := (-1)) (by decide) ?_
                    refine x_icmp_eq 77 rfl (tgt := 84) dX5_sendWord_74 (by decide) (by omega) (by decide) (fun h74 => ?_) (fun h74 => ?_)
                    · skip
                      have hsk : 100000 ≤ fwN b n wind fr ((r * n + x) * n) x := by omega
                      refine x_iinc 87 rfl (lv' := [(5, .int (zI ((x + 1 : Nat) : Int))), (0, .ref wh), (1, .ref go), (2, .int (zI ((fr : Nat) : Int))), (3, .int (zI ((wind : Nat) : Int))), (4, .int (zI ((r : Nat) : Int)))]) dX5_sendWord_84 5 rfl (b := ((x + 1 : Nat) : Int)) (by omega) (by decide) rfl ?_
                      refine x_goto dX5_sendWord_87 (tgt := 57) (by decide) ?_
                      refine x_lv [1, 2, 3, 4, 5, 0] rfl ?_
                      exact ih57 (x + 1) f (by omega) (fun p hp => by rw [Nat.succ_add_mul_n, hf p hp, fw_skip I (by omega) hsk n (Nat.le_refl n) p]) (by omega)
                    · skip
                      have hlt : fwN b n wind fr ((r * n + x) * n) x < 100000 := by omega
                      refine x_aload_n 78 rfl dX5_sendWord_77 0 rfl ?_
                      refine x_aload_n 79 rfl dX5_sendWord_78 1 rfl ?_
                      refine x_iload 81 rfl dX5_sendWord_79 5 rfl ?_
                      refine x_callV 84 rfl (c_X5_passOn G go ga b n d c gf I R wh wa fo le kz_2 f wind fr r x (by omega) hxn hkz hf hlt) [0, 2, 3, 4, 5, 6, 7, 8, 9, 10, 11, 12] rfl (by decide) 0 rfl rfl gX5_sendWord_X5_passOn rfl rfl rfl hd_X5_passOn ⟨Nat.le_of_ble_eq_true rfl, Nat.le_of_ble_eq_true rfl⟩ (As := [.ref go, .int (zI ((x : Nat) : Int))]) (rest := []) rfl rfl (Nat.le_of_ble_eq_true rfl) dX5_sendWord_81 ⟨Nat.zero_le _, Nat.zero_le _⟩ (fun v w hq => ?_)
                      obtain ⟨nz_3, rfl, rfl, hnz⟩ := hq
                      refine ⟨rfl, ?_⟩
                      refine x_ws (ws' := [(wh, whE wa fo le), (wa 0, aN G 7 (laF la)), (wa 2, aI G 7 kz_2), (wa 4, aI G 7 nz_3), (go, goE ga ((n : Nat) : Int) ((d : Nat) : Int) ((c : Nat) : Int)), (ga 0, aI G 36 (gf 0)), (ga 1, aI G 7 (gf 1)), (ga 2, aI G 7 (gf 2)), (ga 3, aI G 7 (gf 3)), (ga 4, aI G 7 (gf 4)), (ga 5, aI G 6 (gf 5)), (ga 6, aI G 6 (gf 6)), (ga 7, aI G 8 (gf 7))] ++ lsW la Fz_1) (rfl) ?_
                      refine x_iinc 87 rfl (lv' := [(5, .int (zI ((x + 1 : Nat) : Int))), (0, .ref wh), (1, .ref go), (2, .int (zI ((fr : Nat) : Int))), (3, .int (zI ((wind : Nat) : Int))), (4, .int (zI ((r : Nat) : Int)))]) dX5_sendWord_84 5 rfl (b := ((x + 1 : Nat) : Int)) (by omega) (by decide) rfl ?_
                      refine x_goto dX5_sendWord_87 (tgt := 57) (by decide) ?_
                      refine x_lv [1, 2, 3, 4, 5, 0] rfl ?_
                      exact ih57 (x + 1) nz_3 (by omega) (fun p hp => by rw [Nat.succ_add_mul_n]; exact hnz p hp) (by omega)
              refine x_lv [1, 2, 3, 4, 5, 0] rfl ?_
              exact L57 _ 0 f (by omega) (hf) (Nat.lt_succ_self _)
        refine x_lv [1, 2, 3, 4, 0] rfl ?_
        exact L45 _ 0 f (by omega) (fun p hp => by rw [hf p (by omega), Nat.zero_mul, Nat.zero_mul]; rfl) (Nat.lt_succ_self _)
      · skip
        refine x_aload_n 19 rfl dX5_sendWord_18 0 rfl ?_
        refine x_get 22 rfl (v := .ref (wa 4)) 0 4 rfl rfl (by decide) inX5_sendWord_X5 flX5_sendWord_18 rfl dX5_sendWord_19 ?_
        refine x_iload 24 rfl dX5_sendWord_22 4 rfl ?_
        refine x_iload 26 rfl dX5_sendWord_24 4 rfl ?_
        refine x_iload_n 27 rfl dX5_sendWord_26 2 rfl ?_
        refine x_icmp_ne 30 rfl (tgt := 34) dX5_sendWord_27 (by decide) (by omega) (by omega) (fun h27 => ?_) (fun h27 => ?_)
        · skip
          refine x_iconst 35 rfl dX5_sendWord_34 (z := (-1)) (by decide) ?_
          refine x_iast 36 rfl 3 k rfl (⟨by omega, by omega⟩) (by decide) (ws' := [(wh, whE wa fo le), (wa 0, aN G 7 (laF la)), (wa 2, aI G 7 kz_2), (wa 4, aI G 7 (zup f k (-1))), (go, goE ga ((n : Nat) : Int) ((d : Nat) : Int) ((c : Nat) : Int)), (ga 0, aI G 36 (gf 0)), (ga 1, aI G 7 (gf 1)), (ga 2, aI G 7 (gf 2)), (ga 3, aI G 7 (gf 3)), (ga 4, aI G 7 (gf 4)), (ga 5, aI G 6 (gf 5)), (ga 6, aI G 6 (gf 6)), (ga 7, aI G 8 (gf 7))] ++ lsW la Fz_1) (rfl) dX5_sendWord_35 ?_
          refine x_iinc 39 rfl (lv' := [(4, .int (zI ((k + 1 : Nat) : Int))), (0, .ref wh), (1, .ref go), (2, .int (zI ((fr : Nat) : Int))), (3, .int (zI ((wind : Nat) : Int)))]) dX5_sendWord_36 4 rfl (b := ((k + 1 : Nat) : Int)) (by omega) (by decide) rfl ?_
          refine x_goto dX5_sendWord_39 (tgt := 9) (by decide) ?_
          refine x_lv [1, 2, 3, 4, 0] rfl ?_
          exact ih9 (k + 1) (zup f k (-1)) (by omega) (fun p hp => by
              by_cases e : p = k
              · subst e; rw [zup_s]; unfold enc wd0; first | (rw [if_pos (show p = fr by omega)]; rfl) | (rw [if_neg (show ¬ p = fr by omega)]; rfl)
              · rw [zup_n _ _ e]; exact hf p (by omega)) (by omega)
        · skip
          refine x_iconst 31 rfl dX5_sendWord_30 (z := 0) (by decide) ?_
          refine x_goto dX5_sendWord_31 (tgt := 35) (by decide) ?_
          refine x_iast 36 rfl 3 k rfl (⟨by omega, by omega⟩) (by decide) (ws' := [(wh, whE wa fo le), (wa 0, aN G 7 (laF la)), (wa 2, aI G 7 kz_2), (wa 4, aI G 7 (zup f k 0)), (go, goE ga ((n : Nat) : Int) ((d : Nat) : Int) ((c : Nat) : Int)), (ga 0, aI G 36 (gf 0)), (ga 1, aI G 7 (gf 1)), (ga 2, aI G 7 (gf 2)), (ga 3, aI G 7 (gf 3)), (ga 4, aI G 7 (gf 4)), (ga 5, aI G 6 (gf 5)), (ga 6, aI G 6 (gf 6)), (ga 7, aI G 8 (gf 7))] ++ lsW la Fz_1) (rfl) dX5_sendWord_35 ?_
          refine x_iinc 39 rfl (lv' := [(4, .int (zI ((k + 1 : Nat) : Int))), (0, .ref wh), (1, .ref go), (2, .int (zI ((fr : Nat) : Int))), (3, .int (zI ((wind : Nat) : Int)))]) dX5_sendWord_36 4 rfl (b := ((k + 1 : Nat) : Int)) (by omega) (by decide) rfl ?_
          refine x_goto dX5_sendWord_39 (tgt := 9) (by decide) ?_
          refine x_lv [1, 2, 3, 4, 0] rfl ?_
          exact ih9 (k + 1) (zup f k 0) (by omega) (fun p hp => by
              by_cases e : p = k
              · subst e; rw [zup_s]; unfold enc wd0; first | (rw [if_pos (show p = fr by omega)]; rfl) | (rw [if_neg (show ¬ p = fr by omega)]; rfl)
              · rw [zup_n _ _ e]; exact hf p (by omega)) (by omega)
  refine x_lv [1, 2, 3, 4, 0] rfl ?_
  exact L9 _ 0 nf (by omega) (fun p hp => absurd hp (Nat.not_lt_zero _)) (Nat.lt_succ_self _)

abbrev P_X5_lastCaller (G : XG) (go : Nat) (ga : Nat → Nat) (b : Nat → Int) (n : Nat) (d : Nat) (c : Nat) (gf : Nat → Nat → Int) (wh : Nat) (wa : Nat → Nat) (fo : Int) (le : Int) (kf : Nat → Int) (nf : Nat → Int) (wind : Nat) (fr : Nat) (to : Nat) : Option Value → va_W → Prop := fun q ws => q = some (.int (zI (leF (lsG b n wind fr to) 0 n))) ∧ ws = [(wh, whE wa fo le), (wa 2, aI G 7 kf), (wa 4, aI G 7 nf), (go, goE ga ((n : Nat) : Int) ((d : Nat) : Int) ((c : Nat) : Int)), (ga 0, aI G 36 (gf 0)), (ga 1, aI G 7 (gf 1)), (ga 2, aI G 7 (gf 2)), (ga 3, aI G 7 (gf 3)), (ga 4, aI G 7 (gf 4)), (ga 5, aI G 6 (gf 5)), (ga 6, aI G 6 (gf 6)), (ga 7, aI G 8 (gf 7))]
abbrev W_X5_lastCaller (G : XG) (E : XE) (go : Nat) (ga : Nat → Nat) (b : Nat → Int) (n : Nat) (d : Nat) (c : Nat) (gf : Nat → Nat → Int) (wh : Nat) (wa : Nat → Nat) (fo : Int) (le : Int) (kf : Nat → Int) (nf : Nat → Int) (wind : Nat) (fr : Nat) (to : Nat) (pc : Nat) (lv : List (Nat × Value)) (st : List Value) (ws : va_W) : Prop := Wx G E (rmL 1) cX5_lastCaller 6 RX5 wsX5_lastCaller (some .int) "lastCaller" 0 0 (P_X5_lastCaller G go ga b n d c gf wh wa fo le kf nf wind fr to) 0 0 pc lv st ws
theorem flX5_lastCaller_9 : Cond.fieldLink RX5 9 (TX5 2).1 (TX5 2).2.1 (TX5 2).2.2.1 ∈ wsX5_lastCaller := by decide +kernel
theorem flX5_lastCaller_18 : Cond.fieldLink RX5 18 (TX5 4).1 (TX5 4).2.1 (TX5 4).2.2.1 ∈ wsX5_lastCaller := by decide +kernel
theorem flX5_lastCaller_36 : Cond.fieldLink RX5 36 (TX0 0).1 (TX0 0).2.1 (TX0 0).2.2.1 ∈ wsX5_lastCaller := by decide +kernel
theorem flX5_lastCaller_49 : Cond.fieldLink RX5 49 (TX0 5).1 (TX0 5).2.1 (TX0 5).2.2.1 ∈ wsX5_lastCaller := by decide +kernel
theorem inX5_lastCaller_X0 : ∀ w ∈ u_ws RX0 TX0 11, w ∈ wsX5_lastCaller := fun _ h => List.mem_cons_of_mem _ (List.mem_append_right _ h)
theorem inX5_lastCaller_X5 : ∀ w ∈ u_ws RX5 TX5 7, w ∈ wsX5_lastCaller := fun _ h => List.mem_cons_of_mem _ (List.mem_append_left _ (List.mem_append_right _ h))
set_option maxHeartbeats 4000000 in
set_option maxRecDepth 100000 in
/-- lastCaller -/
theorem c_X5_lastCaller (G : XG) (go : Nat) (ga : Nat → Nat) (b : Nat → Int) (n d c : Nat) (gf : Nat → Nat → Int) (I : Inv b n d c) (R : GR b n d c gf) (wh : Nat) (wa : Nat → Nat) (fo le : Int) (kf nf : Nat → Int) (wind fr to : Nat) (hfr : fr < n) (hto : to < n) (hne : to ≠ fr) (hk : ∀ i, i < n → kf i = ((bitF (cbN b n wind i) n : Nat) : Int)) (hnf : ∀ p, p < n → nf p = enc (fwN b n wind fr ((7 * n) * n) p)) (hlt : fwN b n wind fr ((7 * n) * n) to < 100000) : Con G yX5_lastCaller wsX5_lastCaller (rmL 1) 0 0 [.ref wh, .ref go, .int (zI ((to : Nat) : Int))] ([(wh, whE wa fo le), (wa 2, aI G 7 kf), (wa 4, aI G 7 nf), (go, goE ga ((n : Nat) : Int) ((d : Nat) : Int) ((c : Nat) : Int)), (ga 0, aI G 36 (gf 0)), (ga 1, aI G 7 (gf 1)), (ga 2, aI G 7 (gf 2)), (ga 3, aI G 7 (gf 3)), (ga 4, aI G 7 (gf 4)), (ga 5, aI G 6 (gf 5)), (ga 6, aI G 6 (gf 6)), (ga 7, aI G 8 (gf 7))]) (P_X5_lastCaller G go ga b n d c gf wh wa fo le kf nf wind fr to) := by
  refine x_start (cc := cX5_lastCaller) (nL := 6) (ret := (some .int)) (by decide) rfl (Nat.le_of_ble_eq_true rfl) (fun E => ?_)
  show W_X5_lastCaller G E go ga b n d c gf wh wa fo le kf nf wind fr to 0 [(0, .ref wh), (1, .ref go), (2, .int (zI ((to : Nat) : Int)))] [] ([(wh, whE wa fo le), (wa 2, aI G 7 kf), (wa 4, aI G 7 nf), (go, goE ga ((n : Nat) : Int) ((d : Nat) : Int) ((c : Nat) : Int)), (ga 0, aI G 36 (gf 0)), (ga 1, aI G 7 (gf 1)), (ga 2, aI G 7 (gf 2)), (ga 3, aI G 7 (gf 3)), (ga 4, aI G 7 (gf 4)), (ga 5, aI G 6 (gf 5)), (ga 6, aI G 6 (gf 6)), (ga 7, aI G 8 (gf 7))])
  have hn7 := I.n7
  have hd6 := I.d6
  have hc8 := I.c8
  have hty := I.t hto
  have hnt := notes_vt _ (vt_lt hty.2) hty.2
  have hrt := fw_r I wind fr ((7 * n) * n) to
  have het := enc_0 hlt
  obtain ⟨x0, hx0, hx1⟩ := g_last (tk := taW b n wind) (fr := fr) (s := (7 * n) * n) (by omega) hfr (taW_1 I wind) (taW_d b n wind) (seven_n hn7) hto hne hlt
  have hx2 : fwN b n wind fr ((7 * n) * n) x0 + (taW b n wind x0 to : Int) = fwN b n wind fr ((7 * n) * n) to := hx1
  have hx3 := fw_r I wind fr ((7 * n) * n) x0
  have hx4 : (notesN (tN b to) : Int) ≤ fwN b n wind fr ((7 * n) * n) to := by
    by_cases hc : cbN b n wind x0 to = true
    · rw [taW_t hx0 hto hc] at hx2; omega
    · rw [taW_f hc] at hx2; omega
  refine x_aload_n 1 rfl dX5_lastCaller_0 0 rfl ?_
  refine x_get 4 rfl (v := .ref (wa 4)) 0 4 rfl rfl (by decide) inX5_lastCaller_X5 flX5_lastCaller_18 rfl dX5_lastCaller_1 ?_
  refine x_iload_n 5 rfl dX5_lastCaller_4 2 rfl ?_
  refine x_iald 6 rfl 2 to rfl (⟨by omega, by omega⟩) (by decide) (v := fwN b n wind fr ((7 * n) * n) to) ((hnf to hto).trans het) dX5_lastCaller_5 ?_
  refine x_aload_n 7 rfl dX5_lastCaller_6 1 rfl ?_
  refine x_get 10 rfl (v := .ref (ga 2)) 3 5 rfl rfl (by decide) inX5_lastCaller_X0 flX5_lastCaller_49 rfl dX5_lastCaller_7 ?_
  refine x_iload_n 11 rfl dX5_lastCaller_10 2 rfl ?_
  refine x_iald 12 rfl 6 to rfl (⟨by omega, by omega⟩) (by decide) (v := ((tN b to : Nat) : Int)) (R.t I hto) dX5_lastCaller_11 ?_
  refine x_callS0 15 rfl (c_X4_notes_v G (tN b to) hty.2) (fun _ _ h => h.2) gX5_lastCaller_X4_notes rfl rfl rfl hd_X4_notes ⟨Nat.le_of_ble_eq_true rfl, Nat.le_of_ble_eq_true rfl⟩ (As := [.int (zI ((tN b to : Nat) : Int))]) (rest := [.int (zI (fwN b n wind fr ((7 * n) * n) to))]) rfl rfl (Nat.le_of_ble_eq_true rfl) dX5_lastCaller_12 ⟨Nat.zero_le _, Nat.zero_le _⟩ (fun v hq => ?_)
  obtain ⟨rfl, -⟩ := hq
  refine x_isub 16 rfl dX5_lastCaller_15 (z := (fwN b n wind fr ((7 * n) * n) to) - ((notesN (tN b to) : Nat) : Int)) (rfl) ?_
  refine x_istore_n 17 rfl (lv' := [(3, .int (zI ((fwN b n wind fr ((7 * n) * n) to) - ((notesN (tN b to) : Nat) : Int)))), (0, .ref wh), (1, .ref go), (2, .int (zI ((to : Nat) : Int)))]) dX5_lastCaller_16 (by decide) rfl ?_
  refine x_iconst 18 rfl dX5_lastCaller_17 (z := 0) (by decide) ?_
  refine x_istore 20 rfl (lv' := [(4, .int (zI 0)), (3, .int (zI ((fwN b n wind fr ((7 * n) * n) to) - ((notesN (tN b to) : Nat) : Int)))), (0, .ref wh), (1, .ref go), (2, .int (zI ((to : Nat) : Int)))]) dX5_lastCaller_18 (by decide) rfl ?_
  have L20 : ∀ (f20 : Nat) (k : Nat) (hkn : k ≤ n) (hL : leF (lsG b n wind fr to) 0 n = leF (lsG b n wind fr to) k (n - k)), n - k < f20 → W_X5_lastCaller G E go ga b n d c gf wh wa fo le kf nf wind fr to 20 [(0, .ref wh), (1, .ref go), (2, .int (zI ((to : Nat) : Int))), (3, .int (zI ((fwN b n wind fr ((7 * n) * n) to) - ((notesN (tN b to) : Nat) : Int)))), (4, .int (zI ((k : Nat) : Int)))] [] ([(wh, whE wa fo le), (wa 2, aI G 7 kf), (wa 4, aI G 7 nf), (go, goE ga ((n : Nat) : Int) ((d : Nat) : Int) ((c : Nat) : Int)), (ga 0, aI G 36 (gf 0)), (ga 1, aI G 7 (gf 1)), (ga 2, aI G 7 (gf 2)), (ga 3, aI G 7 (gf 3)), (ga 4, aI G 7 (gf 4)), (ga 5, aI G 6 (gf 5)), (ga 6, aI G 6 (gf 6)), (ga 7, aI G 8 (gf 7))]) := by
    intro f20
    induction f20 with
    | zero => intro k hkn hL hf20; exact absurd hf20 (Nat.not_lt_zero _)
    | succ f20 ih20 =>
      intro k hkn hL hf20
      refine x_iload 22 rfl dX5_lastCaller_20 4 rfl ?_
      refine x_aload_n 23 rfl dX5_lastCaller_22 1 rfl ?_
      refine x_get 26 rfl (v := .int (zI ((n : Nat) : Int))) 3 0 rfl rfl (by decide) inX5_lastCaller_X0 flX5_lastCaller_36 rfl dX5_lastCaller_23 ?_
      refine x_icmp_ge 29 rfl (tgt := 75) dX5_lastCaller_26 (by decide) (by omega) (by omega) (fun h26 => ?_) (fun h26 => ?_)
      · skip
        refine x_iconst 76 rfl dX5_lastCaller_75 (z := (-1)) (by decide) ?_
        refine x_iret rfl ?_ dX5_lastCaller_76
        exact ⟨by rw [hL, show n - k = 0 by omega]; rfl, rfl⟩
      · skip
        have hkk : k < n := by omega
        have hbl := bitF_lt (cbN b n wind k) n
        have hpn : 2 ^ n ≤ 2 ^ 7 := Nat.pow_le_pow_right (by decide) hn7
        obtain ⟨v1, hv1⟩ : ∃ v, v = bitF (cbN b n wind k) n / 2 ^ to := ⟨_, rfl⟩
        have hv2 : v1 ≤ bitF (cbN b n wind k) n := by rw [hv1]; exact Nat.div_le_self _ _
        have hkr := fw_r I wind fr ((7 * n) * n) k
        obtain ⟨w0, hw0⟩ : ∃ w0, w0 = enc (fwN b n wind fr ((7 * n) * n) k) := ⟨_, rfl⟩
        have hw1 : -1 ≤ w0 ∧ w0 ≤ 100000 ∧ (fwN b n wind fr ((7 * n) * n) k < 100000 → w0 = fwN b n wind fr ((7 * n) * n) k) ∧ (100000 ≤ fwN b n wind fr ((7 * n) * n) k → w0 = -1) := by rw [hw0]; unfold enc; split <;> omega
        refine x_aload_n 30 rfl dX5_lastCaller_29 0 rfl ?_
        refine x_get 33 rfl (v := .ref (wa 2)) 0 2 rfl rfl (by decide) inX5_lastCaller_X5 flX5_lastCaller_9 rfl dX5_lastCaller_30 ?_
        refine x_iload 35 rfl dX5_lastCaller_33 4 rfl ?_
        refine x_iald 36 rfl 1 k rfl (⟨by omega, by omega⟩) (by decide) (v := ((bitF (cbN b n wind k) n : Nat) : Int)) (hk k hkk) dX5_lastCaller_35 ?_
        refine x_iload_n 37 rfl dX5_lastCaller_36 2 rfl ?_
        refine x_ishr 38 rfl dX5_lastCaller_37 (z := (((bitF (cbN b n wind k) n) / 2 ^ to : Nat) : Int)) (zI_shr (t := (bitF (cbN b n wind k) n)) (i := to) (by omega) (by omega)) ?_
        refine x_iconst 39 rfl dX5_lastCaller_38 (z := 1) (by decide) ?_
        refine x_iand 40 rfl dX5_lastCaller_39 (z := ((bitF (cbN b n wind k) n / 2 ^ to % 2 : Nat) : Int)) (zI_and1 (t := bitF (cbN b n wind k) n / 2 ^ to) (by omega)) ?_
        refine x_if_eq 43 rfl (tgt := 47) dX5_lastCaller_40 (by decide) (by omega) (fun h40 => ?_) (fun h40 => ?_)
        · skip
          have htaw : taW b n wind k to = 100000 := taW_f (fun hh => by have := (cb_bit (n := n) hto).mpr hh; omega)
          have hgf : lsG b n wind fr to k = false := by unfold lsG; exact decide_eq_false (by omega)
          refine x_iconst 48 rfl dX5_lastCaller_47 (z := 0) (by decide) ?_
          refine x_istore 50 rfl (lv' := [(5, .int (zI 0)), (0, .ref wh), (1, .ref go), (2, .int (zI ((to : Nat) : Int))), (3, .int (zI ((fwN b n wind fr ((7 * n) * n) to) - ((notesN (tN b to) : Nat) : Int)))), (4, .int (zI ((k : Nat) : Int)))]) dX5_lastCaller_48 (by decide) rfl ?_
          refine x_iload 52 rfl dX5_lastCaller_50 0 rfl ?_
          refine x_if_eq 55 rfl (tgt := 69) dX5_lastCaller_52 (by decide) (by omega) (fun h52 => ?_) (fun h52 => ?_)
          · skip
            refine x_iinc 72 rfl (lv' := [(4, .int (zI ((k + 1 : Nat) : Int))), (5, .int (zI 0)), (0, .ref wh), (1, .ref go), (2, .int (zI ((to : Nat) : Int))), (3, .int (zI ((fwN b n wind fr ((7 * n) * n) to) - ((notesN (tN b to) : Nat) : Int))))]) dX5_lastCaller_69 5 rfl (b := ((k + 1 : Nat) : Int)) (by omega) (by decide) rfl ?_
            refine x_goto dX5_lastCaller_72 (tgt := 20) (by decide) ?_
            refine x_lv [2, 3, 4, 5, 0] rfl ?_
            exact ih20 (k + 1) (by omega) (by rw [hL, leF_f (by omega) hgf, Nat.sub_sub]) (by omega)
          · skip
            exact absurd h52 (by decide)
        · skip
          have htaw : taW b n wind k to = notesN (tN b to) := taW_t hkk hto ((cb_bit hto).mp (by omega))
          refine x_iconst 44 rfl dX5_lastCaller_43 (z := 1) (by decide) ?_
          refine x_goto dX5_lastCaller_44 (tgt := 48) (by decide) ?_
          refine x_istore 50 rfl (lv' := [(5, .int (zI 1)), (0, .ref wh), (1, .ref go), (2, .int (zI ((to : Nat) : Int))), (3, .int (zI ((fwN b n wind fr ((7 * n) * n) to) - ((notesN (tN b to) : Nat) : Int)))), (4, .int (zI ((k : Nat) : Int)))]) dX5_lastCaller_48 (by decide) rfl ?_
          refine x_iload 52 rfl dX5_lastCaller_50 0 rfl ?_
          refine x_if_eq 55 rfl (tgt := 69) dX5_lastCaller_52 (by decide) (by omega) (fun h52 => ?_) (fun h52 => ?_)
          · skip
            exact absurd h52 (by decide)
          · skip
            refine x_aload_n 56 rfl dX5_lastCaller_55 1 rfl ?_
            refine x_get 59 rfl (v := .ref (wa 4)) 0 4 rfl rfl (by decide) inX5_lastCaller_X5 flX5_lastCaller_18 rfl dX5_lastCaller_56 ?_
            refine x_iload 61 rfl dX5_lastCaller_59 5 rfl ?_
            refine x_iald 62 rfl 2 k rfl (⟨by omega, by omega⟩) (by decide) (v := w0) ((hnf k hkk).trans hw0.symm) dX5_lastCaller_61 ?_
            refine x_iload_n 63 rfl dX5_lastCaller_62 4 rfl ?_
            refine x_icmp_ne 66 rfl (tgt := 69) dX5_lastCaller_63 (by decide) (by omega) (by omega) (fun h63 => ?_) (fun h63 => ?_)
            · skip
              have hgf : lsG b n wind fr to k = false := by unfold lsG; exact decide_eq_false (by omega)
              refine x_iinc 72 rfl (lv' := [(4, .int (zI ((k + 1 : Nat) : Int))), (5, .int (zI 1)), (0, .ref wh), (1, .ref go), (2, .int (zI ((to : Nat) : Int))), (3, .int (zI ((fwN b n wind fr ((7 * n) * n) to) - ((notesN (tN b to) : Nat) : Int))))]) dX5_lastCaller_69 5 rfl (b := ((k + 1 : Nat) : Int)) (by omega) (by decide) rfl ?_
              refine x_goto dX5_lastCaller_72 (tgt := 20) (by decide) ?_
              refine x_lv [2, 3, 4, 5, 0] rfl ?_
              exact ih20 (k + 1) (by omega) (by rw [hL, leF_f (by omega) hgf, Nat.sub_sub]) (by omega)
            · skip
              have hgt : lsG b n wind fr to k = true := by unfold lsG; exact decide_eq_true (by omega)
              refine x_iload 68 rfl dX5_lastCaller_66 5 rfl ?_
              refine x_iret rfl ?_ dX5_lastCaller_68
              exact ⟨by rw [hL, leF_t (by omega) hgt], rfl⟩
  refine x_lv [2, 3, 4, 1, 0] rfl ?_
  exact L20 _ 0 (by omega) (rfl) (Nat.lt_succ_self _)

