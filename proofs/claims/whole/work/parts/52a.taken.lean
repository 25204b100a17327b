abbrev P_X6_taken (G : XG) (go : Nat) (ga : Nat → Nat) (b : Nat → Int) (n : Nat) (d : Nat) (c : Nat) (gf : Nat → Nat → Int) (wn : Nat) (sp : Nat) (ia : Nat) (ka : Nat) (tq : Nat) (wh : Nat) (nm : Nat) (ra : Nat) (rf : Nat → Int) (wa : Nat → Nat) (fo : Int) (le : Int) (e0 : Int) (o0 : Int) (l0 : Int) (a0 : Bool) (x : Int) (y : Int) : Option Value → va_W → Prop := fun r ws => ∃ e1 o1 l1 : Int, ∃ a1 : Bool, r = some (.int (zI (rC (kK n x y) (oneIf (tkP b x.toNat y.toNat))))) ∧ ws = [(wn, .inr (5, [.ref go, .ref sp, .ref ia, .ref ka, .ref tq, .ref wh, .ref nm, .ref ra])), (ra, aI G 3 (rfC false rf (kK n x y))), (wh, whE wa fo le), (wa 1, .inr (1, [.int (zI e1), .int (zI o1), .int (zI l1), .int (zB a1)])), (go, goE ga ((n : Nat) : Int) ((d : Nat) : Int) ((c : Nat) : Int)), (ga 0, aI G 36 (gf 0)), (ga 1, aI G 7 (gf 1)), (ga 2, aI G 7 (gf 2)), (ga 3, aI G 7 (gf 3)), (ga 4, aI G 7 (gf 4)), (ga 5, aI G 6 (gf 5)), (ga 6, aI G 6 (gf 6)), (ga 7, aI G 8 (gf 7))]
abbrev W_X6_taken (G : XG) (E : XE) (go : Nat) (ga : Nat → Nat) (b : Nat → Int) (n : Nat) (d : Nat) (c : Nat) (gf : Nat → Nat → Int) (wn : Nat) (sp : Nat) (ia : Nat) (ka : Nat) (tq : Nat) (wh : Nat) (nm : Nat) (ra : Nat) (rf : Nat → Int) (wa : Nat → Nat) (fo : Int) (le : Int) (e0 : Int) (o0 : Int) (l0 : Int) (a0 : Bool) (x : Int) (y : Int) (pc : Nat) (lv : List (Nat × Value)) (st : List Value) (ws : va_W) : Prop := Wx G E (rmL 5) cX6_taken 3 RX6 wsX6_taken (some .int) "taken" 0 0 (P_X6_taken G go ga b n d c gf wn sp ia ka tq wh nm ra rf wa fo le e0 o0 l0 a0 x y) 0 0 pc lv st ws
theorem flX6_taken_10 : Cond.fieldLink RX6 10 (TX6 0).1 (TX6 0).2.1 (TX6 0).2.2.1 ∈ wsX6_taken := by decide +kernel
theorem flX6_taken_37 : Cond.fieldLink RX6 37 (TX6 5).1 (TX6 5).2.1 (TX6 5).2.2.1 ∈ wsX6_taken := by decide +kernel
theorem inX6_taken_X6 : ∀ w ∈ u_ws RX6 TX6 8, w ∈ wsX6_taken := fun _ h => List.mem_cons_of_mem _ (List.mem_append_left _ (List.mem_append_left _ (List.mem_append_left _ (List.mem_append_right _ h))))
set_option maxHeartbeats 4000000 in
set_option maxRecDepth 100000 in
/-- taken -/
theorem c_X6_taken (G : XG) (go : Nat) (ga : Nat → Nat) (b : Nat → Int) (n d c : Nat) (gf : Nat → Nat → Int) (I : Inv b n d c) (R : GR b n d c gf) (wn sp ia ka tq wh nm ra : Nat) (rf : Nat → Int) (wa : Nat → Nat) (fo le : Int) (e0 o0 l0 : Int) (a0 : Bool) (x y : Int) (h1 : Z32 x) (h2 : Z32 y) : Con G yX6_taken wsX6_taken (rmL 5) 0 0 [.ref wn, .int (zI x), .int (zI y)] ([(wn, .inr (5, [.ref go, .ref sp, .ref ia, .ref ka, .ref tq, .ref wh, .ref nm, .ref ra])), (ra, aI G 3 rf), (wh, whE wa fo le), (wa 1, .inr (1, [.int (zI e0), .int (zI o0), .int (zI l0), .int (zB a0)])), (go, goE ga ((n : Nat) : Int) ((d : Nat) : Int) ((c : Nat) : Int)), (ga 0, aI G 36 (gf 0)), (ga 1, aI G 7 (gf 1)), (ga 2, aI G 7 (gf 2)), (ga 3, aI G 7 (gf 3)), (ga 4, aI G 7 (gf 4)), (ga 5, aI G 6 (gf 5)), (ga 6, aI G 6 (gf 6)), (ga 7, aI G 8 (gf 7))]) (P_X6_taken G go ga b n d c gf wn sp ia ka tq wh nm ra rf wa fo le e0 o0 l0 a0 x y) := by
  refine x_start (cc := cX6_taken) (nL := 3) (ret := (some .int)) (by decide) rfl (Nat.le_of_ble_eq_true rfl) (fun E => ?_)
  show W_X6_taken G E go ga b n d c gf wn sp ia ka tq wh nm ra rf wa fo le e0 o0 l0 a0 x y 0 [(0, .ref wn), (1, .int (zI x)), (2, .int (zI y))] [] ([(wn, .inr (5, [.ref go, .ref sp, .ref ia, .ref ka, .ref tq, .ref wh, .ref nm, .ref ra])), (ra, aI G 3 rf), (wh, whE wa fo le), (wa 1, .inr (1, [.int (zI e0), .int (zI o0), .int (zI l0), .int (zB a0)])), (go, goE ga ((n : Nat) : Int) ((d : Nat) : Int) ((c : Nat) : Int)), (ga 0, aI G 36 (gf 0)), (ga 1, aI G 7 (gf 1)), (ga 2, aI G 7 (gf 2)), (ga 3, aI G 7 (gf 3)), (ga 4, aI G 7 (gf 4)), (ga 5, aI G 6 (gf 5)), (ga 6, aI G 6 (gf 6)), (ga 7, aI G 8 (gf 7))])
  have hn7 := I.n7
  have hd6 := I.d6
  have hc8 := I.c8
  refine x_aload_n 1 rfl dX6_taken_0 0 rfl ?_
  refine x_get 4 rfl (v := .ref go) 0 0 rfl rfl (by decide) inX6_taken_X6 flX6_taken_10 rfl dX6_taken_1 ?_
  refine x_iload_n 5 rfl dX6_taken_4 1 rfl ?_
  refine x_callV 8 rfl (c_X0_isPerson G go ga b n d c gf I R x (by omega)) [4, 5, 6, 7, 8, 9, 10, 11, 12] rfl (by decide) 4 rfl rfl gX6_taken_X0_isPerson rfl rfl rfl hd_X0_isPerson ⟨Nat.le_of_ble_eq_true rfl, Nat.le_of_ble_eq_true rfl⟩ (As := [.int (zI x)]) (rest := []) rfl rfl (Nat.le_of_ble_eq_true rfl) dX6_taken_5 ⟨Nat.zero_le _, Nat.zero_le _⟩ (fun v w hq => ?_)
  obtain ⟨rfl, rfl⟩ := hq
  refine ⟨rfl, ?_⟩
  refine x_ws (ws' := [(wn, .inr (5, [.ref go, .ref sp, .ref ia, .ref ka, .ref tq, .ref wh, .ref nm, .ref ra])), (ra, aI G 3 rf), (wh, whE wa fo le), (wa 1, .inr (1, [.int (zI e0), .int (zI o0), .int (zI l0), .int (zB a0)])), (go, goE ga ((n : Nat) : Int) ((d : Nat) : Int) ((c : Nat) : Int)), (ga 0, aI G 36 (gf 0)), (ga 1, aI G 7 (gf 1)), (ga 2, aI G 7 (gf 2)), (ga 3, aI G 7 (gf 3)), (ga 4, aI G 7 (gf 4)), (ga 5, aI G 6 (gf 5)), (ga 6, aI G 6 (gf 6)), (ga 7, aI G 8 (gf 7))]) (rfl) ?_
  refine x_bif_eq 11 rfl (tgt := 27) dX6_taken_8 (by decide) (fun h8 => ?_) (fun h8 => ?_)
  · have h8 := of_decide_eq_false h8
    refine x_aload_n 28 rfl dX6_taken_27 0 rfl ?_
    refine x_bipush 30 rfl dX6_taken_28 (z := (-2)) (by decide) ?_
    refine x_bipush 32 rfl dX6_taken_30 (z := (-2)) (by decide) ?_
    refine x_callV 35 rfl (c_X6_refuse G wn go sp ia ka tq wh nm ra rf 1 (-2) (-2) (by decide) (by decide) (by decide)) [0, 1] rfl (by decide) 0 rfl rfl gX6_taken_X6_refuse rfl rfl rfl hd_X6_refuse ⟨Nat.le_of_ble_eq_true rfl, Nat.le_of_ble_eq_true rfl⟩ (As := [.int (zI (-2)), .int (zI (-2))]) (rest := []) rfl rfl (Nat.le_of_ble_eq_true rfl) dX6_taken_32 ⟨Nat.zero_le _, Nat.zero_le _⟩ (fun v w hq => ?_)
    obtain ⟨rfl, rfl⟩ := hq
    refine ⟨rfl, ?_⟩
    refine x_ws (ws' := [(wn, .inr (5, [.ref go, .ref sp, .ref ia, .ref ka, .ref tq, .ref wh, .ref nm, .ref ra])), (ra, aI G 3 (rfC false rf 1)), (wh, whE wa fo le), (wa 1, .inr (1, [.int (zI e0), .int (zI o0), .int (zI l0), .int (zB a0)])), (go, goE ga ((n : Nat) : Int) ((d : Nat) : Int) ((c : Nat) : Int)), (ga 0, aI G 36 (gf 0)), (ga 1, aI G 7 (gf 1)), (ga 2, aI G 7 (gf 2)), (ga 3, aI G 7 (gf 3)), (ga 4, aI G 7 (gf 4)), (ga 5, aI G 6 (gf 5)), (ga 6, aI G 6 (gf 6)), (ga 7, aI G 8 (gf 7))]) (rfl) ?_
    refine x_iret rfl ?_ dX6_taken_35
    have hk : kK n x y = 1 := by unfold kK; exact if_neg (fun hh => by first | omega | (simp [*] at hh; done) | (obtain ⟨ha, hb, hc, hd⟩ := hh; first | omega | simp_all) | (obtain ⟨ha, hb, hc⟩ := hh; first | omega | simp_all) | (obtain ⟨ha, hb⟩ := hh; first | omega | simp_all))
    exact ⟨_, _, _, _, by rw [hk] <;> rfl, by rw [hk] <;> rfl⟩
  · have h8 := of_decide_eq_true h8
    refine x_aload_n 12 rfl dX6_taken_11 0 rfl ?_
    refine x_get 15 rfl (v := .ref go) 0 0 rfl rfl (by decide) inX6_taken_X6 flX6_taken_10 rfl dX6_taken_12 ?_
    refine x_iload_n 16 rfl dX6_taken_15 2 rfl ?_
    refine x_callV 19 rfl (c_X0_isPerson G go ga b n d c gf I R y (by omega)) [4, 5, 6, 7, 8, 9, 10, 11, 12] rfl (by decide) 4 rfl rfl gX6_taken_X0_isPerson rfl rfl rfl hd_X0_isPerson ⟨Nat.le_of_ble_eq_true rfl, Nat.le_of_ble_eq_true rfl⟩ (As := [.int (zI y)]) (rest := []) rfl rfl (Nat.le_of_ble_eq_true rfl) dX6_taken_16 ⟨Nat.zero_le _, Nat.zero_le _⟩ (fun v w hq => ?_)
    obtain ⟨rfl, rfl⟩ := hq
    refine ⟨rfl, ?_⟩
    refine x_ws (ws' := [(wn, .inr (5, [.ref go, .ref sp, .ref ia, .ref ka, .ref tq, .ref wh, .ref nm, .ref ra])), (ra, aI G 3 rf), (wh, whE wa fo le), (wa 1, .inr (1, [.int (zI e0), .int (zI o0), .int (zI l0), .int (zB a0)])), (go, goE ga ((n : Nat) : Int) ((d : Nat) : Int) ((c : Nat) : Int)), (ga 0, aI G 36 (gf 0)), (ga 1, aI G 7 (gf 1)), (ga 2, aI G 7 (gf 2)), (ga 3, aI G 7 (gf 3)), (ga 4, aI G 7 (gf 4)), (ga 5, aI G 6 (gf 5)), (ga 6, aI G 6 (gf 6)), (ga 7, aI G 8 (gf 7))]) (rfl) ?_
    refine x_bif_eq 22 rfl (tgt := 27) dX6_taken_19 (by decide) (fun h19 => ?_) (fun h19 => ?_)
    · have h19 := of_decide_eq_false h19
      refine x_aload_n 28 rfl dX6_taken_27 0 rfl ?_
      refine x_bipush 30 rfl dX6_taken_28 (z := (-2)) (by decide) ?_
      refine x_bipush 32 rfl dX6_taken_30 (z := (-2)) (by decide) ?_
      refine x_callV 35 rfl (c_X6_refuse G wn go sp ia ka tq wh nm ra rf 1 (-2) (-2) (by decide) (by decide) (by decide)) [0, 1] rfl (by decide) 0 rfl rfl gX6_taken_X6_refuse rfl rfl rfl hd_X6_refuse ⟨Nat.le_of_ble_eq_true rfl, Nat.le_of_ble_eq_true rfl⟩ (As := [.int (zI (-2)), .int (zI (-2))]) (rest := []) rfl rfl (Nat.le_of_ble_eq_true rfl) dX6_taken_32 ⟨Nat.zero_le _, Nat.zero_le _⟩ (fun v w hq => ?_)
      obtain ⟨rfl, rfl⟩ := hq
      refine ⟨rfl, ?_⟩
      refine x_ws (ws' := [(wn, .inr (5, [.ref go, .ref sp, .ref ia, .ref ka, .ref tq, .ref wh, .ref nm, .ref ra])), (ra, aI G 3 (rfC false rf 1)), (wh, whE wa fo le), (wa 1, .inr (1, [.int (zI e0), .int (zI o0), .int (zI l0), .int (zB a0)])), (go, goE ga ((n : Nat) : Int) ((d : Nat) : Int) ((c : Nat) : Int)), (ga 0, aI G 36 (gf 0)), (ga 1, aI G 7 (gf 1)), (ga 2, aI G 7 (gf 2)), (ga 3, aI G 7 (gf 3)), (ga 4, aI G 7 (gf 4)), (ga 5, aI G 6 (gf 5)), (ga 6, aI G 6 (gf 6)), (ga 7, aI G 8 (gf 7))]) (rfl) ?_
      refine x_iret rfl ?_ dX6_taken_35
      have hk : kK n x y = 1 := by unfold kK; exact if_neg (fun hh => by first | omega | (simp [*] at hh; done) | (obtain ⟨ha, hb, hc, hd⟩ := hh; first | omega | simp_all) | (obtain ⟨ha, hb, hc⟩ := hh; first | omega | simp_all) | (obtain ⟨ha, hb⟩ := hh; first | omega | simp_all))
      exact ⟨_, _, _, _, by rw [hk] <;> rfl, by rw [hk] <;> rfl⟩
    · have h19 := of_decide_eq_true h19
      refine x_iload_n 23 rfl dX6_taken_22 1 rfl ?_
      refine x_iload_n 24 rfl dX6_taken_23 2 rfl ?_
      refine x_icmp_ne 27 rfl (tgt := 36) dX6_taken_24 (by decide) (by omega) (by omega) (fun h24 => ?_) (fun h24 => ?_)
      · skip
        obtain ⟨x, rfl⟩ : ∃ zk : Nat, x = (zk : Int) := ⟨Int.toNat x, by omega⟩
        obtain ⟨y, rfl⟩ : ∃ zk : Nat, y = (zk : Int) := ⟨Int.toNat y, by omega⟩
        refine x_aload_n 37 rfl dX6_taken_36 0 rfl ?_
        refine x_get 40 rfl (v := .ref wh) 0 5 rfl rfl (by decide) inX6_taken_X6 flX6_taken_37 rfl dX6_taken_37 ?_
        refine x_aload_n 41 rfl dX6_taken_40 0 rfl ?_
        refine x_get 44 rfl (v := .ref go) 0 0 rfl rfl (by decide) inX6_taken_X6 flX6_taken_10 rfl dX6_taken_41 ?_
        refine x_iload_n 45 rfl dX6_taken_44 1 rfl ?_
        refine x_iload_n 46 rfl dX6_taken_45 2 rfl ?_
        refine x_callV 49 rfl (c_X5_isTakenFor G go ga b n d c gf I R wh wa fo le e0 o0 l0 a0 x y (by omega) (by omega)) [2, 3, 4, 5, 6, 7, 8, 9, 10, 11, 12] rfl (by decide) 2 rfl rfl gX6_taken_X5_isTakenFor rfl rfl rfl hd_X5_isTakenFor ⟨Nat.le_of_ble_eq_true rfl, Nat.le_of_ble_eq_true rfl⟩ (As := [.ref go, .int (zI ((x : Nat) : Int)), .int (zI ((y : Nat) : Int))]) (rest := []) rfl rfl (Nat.le_of_ble_eq_true rfl) dX6_taken_46 ⟨Nat.zero_le _, Nat.zero_le _⟩ (fun v w hq => ?_)
        obtain ⟨ez_1, oz_1, lz_1, az_1, rfl, rfl⟩ := hq
        refine ⟨rfl, ?_⟩
        refine x_ws (ws' := [(wn, .inr (5, [.ref go, .ref sp, .ref ia, .ref ka, .ref tq, .ref wh, .ref nm, .ref ra])), (ra, aI G 3 rf), (wh, whE wa fo le), (wa 1, .inr (1, [.int (zI ez_1), .int (zI oz_1), .int (zI lz_1), .int (zB az_1)])), (go, goE ga ((n : Nat) : Int) ((d : Nat) : Int) ((c : Nat) : Int)), (ga 0, aI G 36 (gf 0)), (ga 1, aI G 7 (gf 1)), (ga 2, aI G 7 (gf 2)), (ga 3, aI G 7 (gf 3)), (ga 4, aI G 7 (gf 4)), (ga 5, aI G 6 (gf 5)), (ga 6, aI G 6 (gf 6)), (ga 7, aI G 8 (gf 7))]) (rfl) ?_
        refine x_bif_eq 52 rfl (tgt := 56) dX6_taken_49 (by decide) (fun h49 => ?_) (fun h49 => ?_)
        · skip
          refine x_iconst 57 rfl dX6_taken_56 (z := 0) (by decide) ?_
          refine x_iret rfl ?_ dX6_taken_57
          have hk : kK n ((x : Nat) : Int) ((y : Nat) : Int) = 0 := by unfold kK; exact if_pos ⟨by omega, by omega, by omega⟩
          exact ⟨_, _, _, _, by rw [hk]; show _ = some (Value.int (zI (oneIf (tkP b x y)))); rw [h49] <;> rfl, by rw [hk] <;> rfl⟩
        · skip
          refine x_iconst 53 rfl dX6_taken_52 (z := 1) (by decide) ?_
          refine x_goto dX6_taken_53 (tgt := 57) (by decide) ?_
          refine x_iret rfl ?_ dX6_taken_57
          have hk : kK n ((x : Nat) : Int) ((y : Nat) : Int) = 0 := by unfold kK; exact if_pos ⟨by omega, by omega, by omega⟩
          exact ⟨_, _, _, _, by rw [hk]; show _ = some (Value.int (zI (oneIf (tkP b x y)))); rw [h49] <;> rfl, by rw [hk] <;> rfl⟩
      · skip
        refine x_aload_n 28 rfl dX6_taken_27 0 rfl ?_
        refine x_bipush 30 rfl dX6_taken_28 (z := (-2)) (by decide) ?_
        refine x_bipush 32 rfl dX6_taken_30 (z := (-2)) (by decide) ?_
        refine x_callV 35 rfl (c_X6_refuse G wn go sp ia ka tq wh nm ra rf 1 (-2) (-2) (by decide) (by decide) (by decide)) [0, 1] rfl (by decide) 0 rfl rfl gX6_taken_X6_refuse rfl rfl rfl hd_X6_refuse ⟨Nat.le_of_ble_eq_true rfl, Nat.le_of_ble_eq_true rfl⟩ (As := [.int (zI (-2)), .int (zI (-2))]) (rest := []) rfl rfl (Nat.le_of_ble_eq_true rfl) dX6_taken_32 ⟨Nat.zero_le _, Nat.zero_le _⟩ (fun v w hq => ?_)
        obtain ⟨rfl, rfl⟩ := hq
        refine ⟨rfl, ?_⟩
        refine x_ws (ws' := [(wn, .inr (5, [.ref go, .ref sp, .ref ia, .ref ka, .ref tq, .ref wh, .ref nm, .ref ra])), (ra, aI G 3 (rfC false rf 1)), (wh, whE wa fo le), (wa 1, .inr (1, [.int (zI e0), .int (zI o0), .int (zI l0), .int (zB a0)])), (go, goE ga ((n : Nat) : Int) ((d : Nat) : Int) ((c : Nat) : Int)), (ga 0, aI G 36 (gf 0)), (ga 1, aI G 7 (gf 1)), (ga 2, aI G 7 (gf 2)), (ga 3, aI G 7 (gf 3)), (ga 4, aI G 7 (gf 4)), (ga 5, aI G 6 (gf 5)), (ga 6, aI G 6 (gf 6)), (ga 7, aI G 8 (gf 7))]) (rfl) ?_
        refine x_iret rfl ?_ dX6_taken_35
        have hk : kK n x y = 1 := by unfold kK; exact if_neg (fun hh => by first | omega | (simp [*] at hh; done) | (obtain ⟨ha, hb, hc, hd⟩ := hh; first | omega | simp_all) | (obtain ⟨ha, hb, hc⟩ := hh; first | omega | simp_all) | (obtain ⟨ha, hb⟩ := hh; first | omega | simp_all))
        exact ⟨_, _, _, _, by rw [hk] <;> rfl, by rw [hk] <;> rfl⟩

theorem csS_z {f : Nat → Nat → Bool} {a e : Nat} {r : Int × Int} (h0 : 0 ≤ r.1) (h : r.1 = 0 ↔ r.2 = -1) : 0 ≤ (csS f a e r).1 ∧ ((csS f a e r).1 = 0 ↔ (csS f a e r).2 = -1) := by
  unfold csS
  split
  · dsimp only
    split <;> omega
  · exact ⟨h0, h⟩
theorem csI_z {f : Nat → Nat → Bool} {a : Nat} {s : Int × Int} (h0 : 0 ≤ s.1) (h : s.1 = 0 ↔ s.2 = -1) : ∀ k, 0 ≤ (csI f a s k).1 ∧ ((csI f a s k).1 = 0 ↔ (csI f a s k).2 = -1)
  | 0 => ⟨h0, h⟩
  | k + 1 => by have := csI_z (f := f) (a := a) h0 h k; exact csS_z this.1 this.2
theorem csO_z {f : Nat → Nat → Bool} {n : Nat} : ∀ a, 0 ≤ (csO f n a).1 ∧ ((csO f n a).1 = 0 ↔ (csO f n a).2 = -1)
  | 0 => ⟨Int.le_refl 0, ⟨fun _ => rfl, fun _ => rfl⟩⟩
  | a + 1 => by have := csO_z (f := f) (n := n) a; exact csI_z this.1 this.2 _
abbrev P_X6_clash (G : XG) (go : Nat) (ga : Nat → Nat) (b : Nat → Int) (n : Nat) (d : Nat) (c : Nat) (gf : Nat → Nat → Int) (wn : Nat) (sp : Nat) (ia : Nat) (ka : Nat) (tq : Nat) (wh : Nat) (nm : Nat) (ra : Nat) (rf : Nat → Int) (wa : Nat → Nat) (fo : Int) (le : Int) (e0 : Int) (o0 : Int) (l0 : Int) (a0 : Bool) (cf : Nat → Int) (what : Int) : Option Value → va_W → Prop := fun r ws => ∃ e1 o1 l1 : Int, ∃ a1 : Bool, ∃ cf' : Nat → Int, r = some (.int (zI (rC (kQ (csN b n) what) (if what = 0 then (csN b n).1 else (csN b n).2)))) ∧ ws = [(wn, .inr (5, [.ref go, .ref sp, .ref ia, .ref ka, .ref tq, .ref wh, .ref nm, .ref ra])), (ra, aI G 3 (rfC false rf (kQ (csN b n) what))), (wh, whE wa fo le), (wa 1, .inr (1, [.int (zI e1), .int (zI o1), .int (zI l1), .int (zB a1)])), (wa 3, aI G 7 cf'), (go, goE ga ((n : Nat) : Int) ((d : Nat) : Int) ((c : Nat) : Int)), (ga 0, aI G 36 (gf 0)), (ga 1, aI G 7 (gf 1)), (ga 2, aI G 7 (gf 2)), (ga 3, aI G 7 (gf 3)), (ga 4, aI G 7 (gf 4)), (ga 5, aI G 6 (gf 5)), (ga 6, aI G 6 (gf 6)), (ga 7, aI G 8 (gf 7))]
abbrev W_X6_clash (G : XG) (E : XE) (go : Nat) (ga : Nat → Nat) (b : Nat → Int) (n : Nat) (d : Nat) (c : Nat) (gf : Nat → Nat → Int) (wn : Nat) (sp : Nat) (ia : Nat) (ka : Nat) (tq : Nat) (wh : Nat) (nm : Nat) (ra : Nat) (rf : Nat → Int) (wa : Nat → Nat) (fo : Int) (le : Int) (e0 : Int) (o0 : Int) (l0 : Int) (a0 : Bool) (cf : Nat → Int) (what : Int) (pc : Nat) (lv : List (Nat × Value)) (st : List Value) (ws : va_W) : Prop := Wx G E (rmL 6) cX6_clash 6 RX6 wsX6_clash (some .int) "clash" 0 0 (P_X6_clash G go ga b n d c gf wn sp ia ka tq wh nm ra rf wa fo le e0 o0 l0 a0 cf what) 0 0 pc lv st ws
theorem flX6_clash_10 : Cond.fieldLink RX6 10 (TX6 0).1 (TX6 0).2.1 (TX6 0).2.2.1 ∈ wsX6_clash := by decide +kernel
theorem flX6_clash_37 : Cond.fieldLink RX6 37 (TX6 5).1 (TX6 5).2.1 (TX6 5).2.2.1 ∈ wsX6_clash := by decide +kernel
theorem flX6_clash_132 : Cond.fieldLink RX6 132 (TX0 0).1 (TX0 0).2.1 (TX0 0).2.2.1 ∈ wsX6_clash := by decide +kernel
theorem flX6_clash_135 : Cond.fieldLink RX6 135 (TX5 3).1 (TX5 3).2.1 (TX5 3).2.2.1 ∈ wsX6_clash := by decide +kernel
theorem inX6_clash_X0 : ∀ w ∈ u_ws RX0 TX0 11, w ∈ wsX6_clash := fun _ h => List.mem_cons_of_mem _ (List.mem_append_left _ (List.mem_append_left _ (List.mem_append_right _ h)))
theorem inX6_clash_X5 : ∀ w ∈ u_ws RX5 TX5 7, w ∈ wsX6_clash := fun _ h => List.mem_cons_of_mem _ (List.mem_append_left _ (List.mem_append_right _ h))
theorem inX6_clash_X6 : ∀ w ∈ u_ws RX6 TX6 8, w ∈ wsX6_clash := fun _ h => List.mem_cons_of_mem _ (List.mem_append_left _ (List.mem_append_left _ (List.mem_append_left _ (List.mem_append_right _ h))))
set_option maxHeartbeats 4000000 in
set_option maxRecDepth 100000 in
/-- clash -/
theorem c_X6_clash (G : XG) (go : Nat) (ga : Nat → Nat) (b : Nat → Int) (n d c : Nat) (gf : Nat → Nat → Int) (I : Inv b n d c) (R : GR b n d c gf) (wn sp ia ka tq wh nm ra : Nat) (rf : Nat → Int) (wa : Nat → Nat) (fo le : Int) (e0 o0 l0 : Int) (a0 : Bool) (cf : Nat → Int) (what : Int) (h1 : Z32 what) : Con G yX6_clash wsX6_clash (rmL 6) 0 0 [.ref wn, .int (zI what)] ([(wn, .inr (5, [.ref go, .ref sp, .ref ia, .ref ka, .ref tq, .ref wh, .ref nm, .ref ra])), (ra, aI G 3 rf), (wh, whE wa fo le), (wa 1, .inr (1, [.int (zI e0), .int (zI o0), .int (zI l0), .int (zB a0)])), (wa 3, aI G 7 cf), (go, goE ga ((n : Nat) : Int) ((d : Nat) : Int) ((c : Nat) : Int)), (ga 0, aI G 36 (gf 0)), (ga 1, aI G 7 (gf 1)), (ga 2, aI G 7 (gf 2)), (ga 3, aI G 7 (gf 3)), (ga 4, aI G 7 (gf 4)), (ga 5, aI G 6 (gf 5)), (ga 6, aI G 6 (gf 6)), (ga 7, aI G 8 (gf 7))]) (P_X6_clash G go ga b n d c gf wn sp ia ka tq wh nm ra rf wa fo le e0 o0 l0 a0 cf what) := by
  refine x_start (cc := cX6_clash) (nL := 6) (ret := (some .int)) (by decide) rfl (Nat.le_of_ble_eq_true rfl) (fun E => ?_)
  show W_X6_clash G E go ga b n d c gf wn sp ia ka tq wh nm ra rf wa fo le e0 o0 l0 a0 cf what 0 [(0, .ref wn), (1, .int (zI what))] [] ([(wn, .inr (5, [.ref go, .ref sp, .ref ia, .ref ka, .ref tq, .ref wh, .ref nm, .ref ra])), (ra, aI G 3 rf), (wh, whE wa fo le), (wa 1, .inr (1, [.int (zI e0), .int (zI o0), .int (zI l0), .int (zB a0)])), (wa 3, aI G 7 cf), (go, goE ga ((n : Nat) : Int) ((d : Nat) : Int) ((c : Nat) : Int)), (ga 0, aI G 36 (gf 0)), (ga 1, aI G 7 (gf 1)), (ga 2, aI G 7 (gf 2)), (ga 3, aI G 7 (gf 3)), (ga 4, aI G 7 (gf 4)), (ga 5, aI G 6 (gf 5)), (ga 6, aI G 6 (gf 6)), (ga 7, aI G 8 (gf 7))])
  have hn7 := I.n7
  have hd6 := I.d6
  have hc8 := I.c8
  refine x_iload_n 1 rfl dX6_clash_0 1 rfl ?_
  refine x_iconst 2 rfl dX6_clash_1 (z := 2) (by decide) ?_
  refine x_callS0 5 rfl (c_X6_isBelow G what 2 (by omega) (by omega)) (fun _ _ h => h.2) gX6_clash_X6_isBelow rfl rfl rfl hd_X6_isBelow ⟨Nat.le_of_ble_eq_true rfl, Nat.le_of_ble_eq_true rfl⟩ (As := [.int (zI what), .int (zI 2)]) (rest := []) rfl rfl (Nat.le_of_ble_eq_true rfl) dX6_clash_2 ⟨Nat.zero_le _, Nat.zero_le _⟩ (fun v hq => ?_)
  obtain ⟨rfl, -⟩ := hq
  refine x_bif_ne 8 rfl (tgt := 17) dX6_clash_5 (by decide) (fun h5 => ?_) (fun h5 => ?_)
  · have h5 := of_decide_eq_true h5
    refine x_aload_n 18 rfl dX6_clash_17 0 rfl ?_
    refine x_get 21 rfl (v := .ref wh) 0 5 rfl rfl (by decide) inX6_clash_X6 flX6_clash_37 rfl dX6_clash_18 ?_
    refine x_aload_n 22 rfl dX6_clash_21 0 rfl ?_
    refine x_get 25 rfl (v := .ref go) 0 0 rfl rfl (by decide) inX6_clash_X6 flX6_clash_10 rfl dX6_clash_22 ?_
    refine x_callV 28 rfl (c_X5_findClashes G go ga b n d c gf I R wh wa fo le e0 o0 l0 a0 cf) [2, 3, 4, 5, 6, 7, 8, 9, 10, 11, 12, 13] rfl (by decide) 2 rfl rfl gX6_clash_X5_findClashes rfl rfl rfl hd_X5_findClashes ⟨Nat.le_of_ble_eq_true rfl, Nat.le_of_ble_eq_true rfl⟩ (As := [.ref go]) (rest := []) rfl rfl (Nat.le_of_ble_eq_true rfl) dX6_clash_25 ⟨Nat.zero_le _, Nat.zero_le _⟩ (fun v w hq => ?_)
    obtain ⟨ez_1, oz_1, lz_1, az_1, cfz, rfl, rfl, hcf⟩ := hq
    refine ⟨rfl, ?_⟩
    refine x_ws (ws' := [(wn, .inr (5, [.ref go, .ref sp, .ref ia, .ref ka, .ref tq, .ref wh, .ref nm, .ref ra])), (ra, aI G 3 rf), (wh, whE wa fo le), (wa 1, .inr (1, [.int (zI ez_1), .int (zI oz_1), .int (zI lz_1), .int (zB az_1)])), (wa 3, aI G 7 cfz), (go, goE ga ((n : Nat) : Int) ((d : Nat) : Int) ((c : Nat) : Int)), (ga 0, aI G 36 (gf 0)), (ga 1, aI G 7 (gf 1)), (ga 2, aI G 7 (gf 2)), (ga 3, aI G 7 (gf 3)), (ga 4, aI G 7 (gf 4)), (ga 5, aI G 6 (gf 5)), (ga 6, aI G 6 (gf 6)), (ga 7, aI G 8 (gf 7))]) (rfl) ?_
    refine x_iconst 29 rfl dX6_clash_28 (z := 0) (by decide) ?_
    refine x_istore_n 30 rfl (lv' := [(2, .int (zI 0)), (0, .ref wn), (1, .int (zI what))]) dX6_clash_29 (by decide) rfl ?_
    refine x_iconst 31 rfl dX6_clash_30 (z := (-1)) (by decide) ?_
    refine x_istore_n 32 rfl (lv' := [(3, .int (zI (-1))), (2, .int (zI 0)), (0, .ref wn), (1, .int (zI what))]) dX6_clash_31 (by decide) rfl ?_
    refine x_iconst 33 rfl dX6_clash_32 (z := 0) (by decide) ?_
    refine x_istore 35 rfl (lv' := [(4, .int (zI 0)), (3, .int (zI (-1))), (2, .int (zI 0)), (0, .ref wn), (1, .int (zI what))]) dX6_clash_33 (by decide) rfl ?_
    have L35 : ∀ (fz35 : Nat) (a : Nat) (ha : a ≤ n), n - a < fz35 → W_X6_clash G E go ga b n d c gf wn sp ia ka tq wh nm ra rf wa fo le e0 o0 l0 a0 cf what 35 [(0, .ref wn), (1, .int (zI what)), (2, .int (zI ((csO (clP b) n a).1))), (3, .int (zI ((csO (clP b) n a).2))), (4, .int (zI ((a : Nat) : Int)))] [] ([(wn, .inr (5, [.ref go, .ref sp, .ref ia, .ref ka, .ref tq, .ref wh, .ref nm, .ref ra])), (ra, aI G 3 rf), (wh, whE wa fo le), (wa 1, .inr (1, [.int (zI ez_1), .int (zI oz_1), .int (zI lz_1), .int (zB az_1)])), (wa 3, aI G 7 cfz), (go, goE ga ((n : Nat) : Int) ((d : Nat) : Int) ((c : Nat) : Int)), (ga 0, aI G 36 (gf 0)), (ga 1, aI G 7 (gf 1)), (ga 2, aI G 7 (gf 2)), (ga 3, aI G 7 (gf 3)), (ga 4, aI G 7 (gf 4)), (ga 5, aI G 6 (gf 5)), (ga 6, aI G 6 (gf 6)), (ga 7, aI G 8 (gf 7))]) := by
      intro fz35
      induction fz35 with
      | zero => intro a ha hf35; exact absurd hf35 (Nat.not_lt_zero _)
      | succ fz35 ih35 =>
        intro a ha hf35
        refine x_iload 37 rfl dX6_clash_35 4 rfl ?_
        refine x_aload_n 38 rfl dX6_clash_37 0 rfl ?_
        refine x_get 41 rfl (v := .ref go) 0 0 rfl rfl (by decide) inX6_clash_X6 flX6_clash_10 rfl dX6_clash_38 ?_
        refine x_get 44 rfl (v := .int (zI ((n : Nat) : Int))) 5 0 rfl rfl (by decide) inX6_clash_X0 flX6_clash_132 rfl dX6_clash_41 ?_
        refine x_icmp_ge 47 rfl (tgt := 116) dX6_clash_44 (by decide) (by omega) (by omega) (fun h44 => ?_) (fun h44 => ?_)
        · skip
          have e : a = n := by omega
          have e1 : csO (clP b) n a = csN b n := by rw [e] <;> rfl
          have hz := (csO_z (f := clP b) (n := n) a).2
          have hr := csO_r (f := clP b) hn7 a (by omega)
          refine x_iload_n 117 rfl dX6_clash_116 1 rfl ?_
          refine x_if_ne 120 rfl (tgt := 122) dX6_clash_117 (by decide) (by omega) (fun h117 => ?_) (fun h117 => ?_)
          · skip
            refine x_iload_n 123 rfl dX6_clash_122 2 rfl ?_
            refine x_if_ne 126 rfl (tgt := 137) dX6_clash_123 (by decide) (by omega) (fun h123 => ?_) (fun h123 => ?_)
            · skip
              refine x_iload_n 138 rfl dX6_clash_137 3 rfl ?_
              refine x_iret rfl ?_ dX6_clash_138
              have hk : kQ (csN b n) what = 0 := by unfold kQ; rw [if_pos (by omega), if_neg (by omega), if_neg (by rw [← e1]; omega)]
              exact ⟨_, _, _, _, _, by rw [hk, if_neg (by omega), ← e1] <;> rfl, by rw [hk] <;> rfl⟩
            · skip
              refine x_aload_n 127 rfl dX6_clash_126 0 rfl ?_
              refine x_bipush 129 rfl dX6_clash_127 (z := (-3)) (by decide) ?_
              refine x_bipush 131 rfl dX6_clash_129 (z := (-3)) (by decide) ?_
              refine x_callV 134 rfl (c_X6_refuse G wn go sp ia ka tq wh nm ra rf 2 (-3) (-3) (by decide) (by decide) (by decide)) [0, 1] rfl (by decide) 0 rfl rfl gX6_clash_X6_refuse rfl rfl rfl hd_X6_refuse ⟨Nat.le_of_ble_eq_true rfl, Nat.le_of_ble_eq_true rfl⟩ (As := [.int (zI (-3)), .int (zI (-3))]) (rest := []) rfl rfl (Nat.le_of_ble_eq_true rfl) dX6_clash_131 ⟨Nat.zero_le _, Nat.zero_le _⟩ (fun v w hq => ?_)
              obtain ⟨rfl, rfl⟩ := hq
              refine ⟨rfl, ?_⟩
              refine x_ws (ws' := [(wn, .inr (5, [.ref go, .ref sp, .ref ia, .ref ka, .ref tq, .ref wh, .ref nm, .ref ra])), (ra, aI G 3 (rfC false rf 2)), (wh, whE wa fo le), (wa 1, .inr (1, [.int (zI ez_1), .int (zI oz_1), .int (zI lz_1), .int (zB az_1)])), (wa 3, aI G 7 cfz), (go, goE ga ((n : Nat) : Int) ((d : Nat) : Int) ((c : Nat) : Int)), (ga 0, aI G 36 (gf 0)), (ga 1, aI G 7 (gf 1)), (ga 2, aI G 7 (gf 2)), (ga 3, aI G 7 (gf 3)), (ga 4, aI G 7 (gf 4)), (ga 5, aI G 6 (gf 5)), (ga 6, aI G 6 (gf 6)), (ga 7, aI G 8 (gf 7))]) (rfl) ?_
              refine x_goto dX6_clash_134 (tgt := 138) (by decide) ?_
              refine x_iret rfl ?_ dX6_clash_138
              have hk : kQ (csN b n) what = 2 := by unfold kQ; rw [if_pos (by omega), if_neg (by omega), if_pos (by rw [← e1]; omega)]
              exact ⟨_, _, _, _, _, by rw [hk] <;> rfl, by rw [hk] <;> rfl⟩
          · skip
            refine x_iload_n 121 rfl dX6_clash_120 2 rfl ?_
            refine x_iret rfl ?_ dX6_clash_121
            have hk : kQ (csN b n) what = 0 := by unfold kQ; rw [if_pos (by omega), if_pos (by omega)]
            exact ⟨_, _, _, _, _, by rw [hk, if_pos (by omega), ← e1] <;> rfl, by rw [hk] <;> rfl⟩
        · skip
          refine x_iload 49 rfl dX6_clash_47 4 rfl ?_
          refine x_iconst 50 rfl dX6_clash_49 (z := 1) (by decide) ?_
          refine x_iadd 51 rfl dX6_clash_50 (z := ((a + 1 : Nat) : Int)) (by omega) ?_
          refine x_istore 53 rfl (lv' := [(5, .int (zI ((a + 1 : Nat) : Int))), (0, .ref wn), (1, .int (zI what)), (2, .int (zI ((csO (clP b) n a).1))), (3, .int (zI ((csO (clP b) n a).2))), (4, .int (zI ((a : Nat) : Int)))]) dX6_clash_51 (by decide) rfl ?_
          have L53 : ∀ (fz53 : Nat) (k : Nat) (hk : a + 1 + k ≤ n), n - k < fz53 → W_X6_clash G E go ga b n d c gf wn sp ia ka tq wh nm ra rf wa fo le e0 o0 l0 a0 cf what 53 [(0, .ref wn), (1, .int (zI what)), (2, .int (zI ((csI (clP b) a (csO (clP b) n a) k).1))), (3, .int (zI ((csI (clP b) a (csO (clP b) n a) k).2))), (4, .int (zI ((a : Nat) : Int))), (5, .int (zI ((a + 1 + k : Nat) : Int)))] [] ([(wn, .inr (5, [.ref go, .ref sp, .ref ia, .ref ka, .ref tq, .ref wh, .ref nm, .ref ra])), (ra, aI G 3 rf), (wh, whE wa fo le), (wa 1, .inr (1, [.int (zI ez_1), .int (zI oz_1), .int (zI lz_1), .int (zB az_1)])), (wa 3, aI G 7 cfz), (go, goE ga ((n : Nat) : Int) ((d : Nat) : Int) ((c : Nat) : Int)), (ga 0, aI G 36 (gf 0)), (ga 1, aI G 7 (gf 1)), (ga 2, aI G 7 (gf 2)), (ga 3, aI G 7 (gf 3)), (ga 4, aI G 7 (gf 4)), (ga 5, aI G 6 (gf 5)), (ga 6, aI G 6 (gf 6)), (ga 7, aI G 8 (gf 7))]) := by
            intro fz53
            induction fz53 with
            | zero => intro k hk hf53; exact absurd hf53 (Nat.not_lt_zero _)
            | succ fz53 ih53 =>
              intro k hk hf53
              refine x_iload 55 rfl dX6_clash_53 5 rfl ?_
              refine x_aload_n 56 rfl dX6_clash_55 0 rfl ?_
              refine x_get 59 rfl (v := .ref go) 0 0 rfl rfl (by decide) inX6_clash_X6 flX6_clash_10 rfl dX6_clash_56 ?_
              refine x_get 62 rfl (v := .int (zI ((n : Nat) : Int))) 5 0 rfl rfl (by decide) inX6_clash_X0 flX6_clash_132 rfl dX6_clash_59 ?_
              refine x_icmp_ge 65 rfl (tgt := 110) dX6_clash_62 (by decide) (by omega) (by omega) (fun h62 => ?_) (fun h62 => ?_)
              · skip
                refine x_iinc 113 rfl (lv' := [(4, .int (zI ((a + 1 : Nat) : Int))), (0, .ref wn), (1, .int (zI what)), (2, .int (zI ((csI (clP b) a (csO (clP b) n a) k).1))), (3, .int (zI ((csI (clP b) a (csO (clP b) n a) k).2))), (5, .int (zI ((a + 1 + k : Nat) : Int)))]) dX6_clash_110 4 rfl (b := ((a + 1 : Nat) : Int)) (by omega) (by decide) rfl ?_
                refine x_goto dX6_clash_113 (tgt := 35) (by decide) ?_
                refine x_lve (congrArg (fun zz : Int => ([(4, .int (zI ((a + 1 : Nat) : Int))), (0, .ref wn), (1, .int (zI what)), (2, .int (zI zz)), (3, .int (zI ((csI (clP b) a (csO (clP b) n a) k).2))), (5, .int (zI ((a + 1 + k : Nat) : Int)))] : List (Nat × Value))) (by show _ = (csI (clP b) a (csO (clP b) n a) (n - (a + 1))).1; rw [show k = n - (a + 1) by omega] : (csI (clP b) a (csO (clP b) n a) k).1 = (csO (clP b) n (a + 1)).1)) ?_
                refine x_lve (congrArg (fun zz : Int => ([(4, .int (zI ((a + 1 : Nat) : Int))), (0, .ref wn), (1, .int (zI what)), (2, .int (zI ((csO (clP b) n (a + 1)).1))), (3, .int (zI zz)), (5, .int (zI ((a + 1 + k : Nat) : Int)))] : List (Nat × Value))) (by show _ = (csI (clP b) a (csO (clP b) n a) (n - (a + 1))).2; rw [show k = n - (a + 1) by omega] : (csI (clP b) a (csO (clP b) n a) k).2 = (csO (clP b) n (a + 1)).2)) ?_
                refine x_lv [1, 2, 3, 4, 0] rfl ?_
                exact ih35 (a + 1) (by omega) (by omega)
              · skip
                have hbl := bitF_lt (clG b a) n
                have hpn : 2 ^ n ≤ 2 ^ 7 := Nat.pow_le_pow_right (by decide) hn7
                obtain ⟨v1, hv1⟩ : ∃ v, v = bitF (clG b a) n / 2 ^ (a + 1 + k) := ⟨_, rfl⟩
                have hv2 : v1 ≤ bitF (clG b a) n := by rw [hv1]; exact Nat.div_le_self _ _
                have hcs := csI_r (f := clP b) (a := a) (m := 7 * a) (by omega) (csO_r (f := clP b) hn7 a (by omega)) k (by omega)
                refine x_aload_n 66 rfl dX6_clash_65 0 rfl ?_
                refine x_get 69 rfl (v := .ref wh) 0 5 rfl rfl (by decide) inX6_clash_X6 flX6_clash_37 rfl dX6_clash_66 ?_
                refine x_get 72 rfl (v := .ref (wa 3)) 2 3 rfl rfl (by decide) inX6_clash_X5 flX6_clash_135 rfl dX6_clash_69 ?_
                refine x_iload 74 rfl dX6_clash_72 4 rfl ?_
                refine x_iald 75 rfl 4 a rfl (⟨by omega, by omega⟩) (by decide) (v := ((bitF (clG b a) n : Nat) : Int)) (hcf a (by omega)) dX6_clash_74 ?_
                refine x_iload 77 rfl dX6_clash_75 5 rfl ?_
                refine x_ishr 78 rfl dX6_clash_77 (z := (((bitF (clG b a) n) / 2 ^ (a + 1 + k) : Nat) : Int)) (zI_shr (t := (bitF (clG b a) n)) (i := (a + 1 + k)) (by omega) (by omega)) ?_
                refine x_iconst 79 rfl dX6_clash_78 (z := 1) (by decide) ?_
                refine x_iand 80 rfl dX6_clash_79 (z := ((bitF (clG b a) n / 2 ^ (a + 1 + k) % 2 : Nat) : Int)) (zI_and1 (t := bitF (clG b a) n / 2 ^ (a + 1 + k)) (by omega)) ?_
                refine x_if_eq 83 rfl (tgt := 104) dX6_clash_80 (by decide) (by omega) (fun h80 => ?_) (fun h80 => ?_)
                · skip
                  have hcl : clP b a (a + 1 + k) = false := by rw [← clG_of (by omega)]; cases hq : clG b a (a + 1 + k) with | false => rfl | true => (have := (cb_bit (n := n) (by omega)).mpr hq; omega)
                  refine x_iinc 107 rfl (lv' := [(5, .int (zI ((a + 1 + k + 1 : Nat) : Int))), (0, .ref wn), (1, .int (zI what)), (2, .int (zI ((csI (clP b) a (csO (clP b) n a) k).1))), (3, .int (zI ((csI (clP b) a (csO (clP b) n a) k).2))), (4, .int (zI ((a : Nat) : Int)))]) dX6_clash_104 5 rfl (b := ((a + 1 + k + 1 : Nat) : Int)) (by omega) (by decide) rfl ?_
                  refine x_goto dX6_clash_107 (tgt := 53) (by decide) ?_
                  refine x_lve (congrArg (fun zz : Int => ([(5, .int (zI ((a + 1 + k + 1 : Nat) : Int))), (0, .ref wn), (1, .int (zI what)), (2, .int (zI zz)), (3, .int (zI ((csI (clP b) a (csO (clP b) n a) k).2))), (4, .int (zI ((a : Nat) : Int)))] : List (Nat × Value))) (by show _ = (csS (clP b) a (a + 1 + k) (csI (clP b) a (csO (clP b) n a) k)).1; unfold csS; first | rw [if_pos hcl] | rw [if_neg (by rw [hcl]; decide)] : (csI (clP b) a (csO (clP b) n a) k).1 = (csI (clP b) a (csO (clP b) n a) (k + 1)).1)) ?_
                  refine x_lve (congrArg (fun zz : Int => ([(5, .int (zI ((a + 1 + k + 1 : Nat) : Int))), (0, .ref wn), (1, .int (zI what)), (2, .int (zI ((csI (clP b) a (csO (clP b) n a) (k + 1)).1))), (3, .int (zI zz)), (4, .int (zI ((a : Nat) : Int)))] : List (Nat × Value))) (by show _ = (csS (clP b) a (a + 1 + k) (csI (clP b) a (csO (clP b) n a) k)).2; unfold csS; first | (rw [if_pos hcl]; first | exact (if_pos h85).symm | exact (if_neg h85).symm) | rw [if_neg (by rw [hcl]; decide)] : (csI (clP b) a (csO (clP b) n a) k).2 = (csI (clP b) a (csO (clP b) n a) (k + 1)).2)) ?_
                  refine x_lv [1, 2, 3, 4, 5, 0] rfl ?_
                  exact ih53 (k + 1) (by omega) (by omega)
                · skip
                  have hcl : clP b a (a + 1 + k) = true := by rw [← clG_of (by omega)]; exact (cb_bit (n := n) (by omega)).mp (by omega)
                  refine x_iload_n 84 rfl dX6_clash_83 3 rfl ?_
                  refine x_iconst 85 rfl dX6_clash_84 (z := (-1)) (by decide) ?_
                  refine x_icmp_ne 88 rfl (tgt := 99) dX6_clash_85 (by decide) (by omega) (by decide) (fun h85 => ?_) (fun h85 => ?_)
                  · skip
                    refine x_iload_n 100 rfl dX6_clash_99 3 rfl ?_
                    refine x_istore_n 101 rfl (lv' := [(3, .int (zI ((csI (clP b) a (csO (clP b) n a) k).2))), (0, .ref wn), (1, .int (zI what)), (2, .int (zI ((csI (clP b) a (csO (clP b) n a) k).1))), (4, .int (zI ((a : Nat) : Int))), (5, .int (zI ((a + 1 + k : Nat) : Int)))]) dX6_clash_100 (by decide) rfl ?_
                    refine x_iinc 104 rfl (lv' := [(2, .int (zI ((csI (clP b) a (csO (clP b) n a) k).1 + 1))), (3, .int (zI ((csI (clP b) a (csO (clP b) n a) k).2))), (0, .ref wn), (1, .int (zI what)), (4, .int (zI ((a : Nat) : Int))), (5, .int (zI ((a + 1 + k : Nat) : Int)))]) dX6_clash_101 3 rfl (b := (csI (clP b) a (csO (clP b) n a) k).1 + 1) (by omega) (by decide) rfl ?_
                    refine x_iinc 107 rfl (lv' := [(5, .int (zI ((a + 1 + k + 1 : Nat) : Int))), (2, .int (zI ((csI (clP b) a (csO (clP b) n a) k).1 + 1))), (3, .int (zI ((csI (clP b) a (csO (clP b) n a) k).2))), (0, .ref wn), (1, .int (zI what)), (4, .int (zI ((a : Nat) : Int)))]) dX6_clash_104 5 rfl (b := ((a + 1 + k + 1 : Nat) : Int)) (by omega) (by decide) rfl ?_
                    refine x_goto dX6_clash_107 (tgt := 53) (by decide) ?_
                    refine x_lve (congrArg (fun zz : Int => ([(5, .int (zI ((a + 1 + k + 1 : Nat) : Int))), (2, .int (zI zz)), (3, .int (zI ((csI (clP b) a (csO (clP b) n a) k).2))), (0, .ref wn), (1, .int (zI what)), (4, .int (zI ((a : Nat) : Int)))] : List (Nat × Value))) (by show _ = (csS (clP b) a (a + 1 + k) (csI (clP b) a (csO (clP b) n a) k)).1; unfold csS; first | rw [if_pos hcl] | rw [if_neg (by rw [hcl]; decide)] : (csI (clP b) a (csO (clP b) n a) k).1 + 1 = (csI (clP b) a (csO (clP b) n a) (k + 1)).1)) ?_
                    refine x_lve (congrArg (fun zz : Int => ([(5, .int (zI ((a + 1 + k + 1 : Nat) : Int))), (2, .int (zI ((csI (clP b) a (csO (clP b) n a) (k + 1)).1))), (3, .int (zI zz)), (0, .ref wn), (1, .int (zI what)), (4, .int (zI ((a : Nat) : Int)))] : List (Nat × Value))) (by show _ = (csS (clP b) a (a + 1 + k) (csI (clP b) a (csO (clP b) n a) k)).2; unfold csS; first | (rw [if_pos hcl]; first | exact (if_pos h85).symm | exact (if_neg h85).symm) | rw [if_neg (by rw [hcl]; decide)] : (csI (clP b) a (csO (clP b) n a) k).2 = (csI (clP b) a (csO (clP b) n a) (k + 1)).2)) ?_
                    refine x_lv [3, 4, 1, 2, 5, 0] rfl ?_
                    exact ih53 (k + 1) (by omega) (by omega)
                  · skip
                    refine x_bipush 90 rfl dX6_clash_88 (z := 10) (by decide) ?_
                    refine x_iload 92 rfl dX6_clash_90 4 rfl ?_
                    refine x_imul 93 rfl dX6_clash_92 (z := ((10 * a : Nat) : Int)) (by omega) ?_
                    refine x_iload 95 rfl dX6_clash_93 5 rfl ?_
                    refine x_iadd 96 rfl dX6_clash_95 (z := ((10 * a + (a + 1 + k) : Nat) : Int)) (by omega) ?_
                    refine x_goto dX6_clash_96 (tgt := 100) (by decide) ?_
                    refine x_istore_n 101 rfl (lv' := [(3, .int (zI ((10 * a + (a + 1 + k) : Nat) : Int))), (0, .ref wn), (1, .int (zI what)), (2, .int (zI ((csI (clP b) a (csO (clP b) n a) k).1))), (4, .int (zI ((a : Nat) : Int))), (5, .int (zI ((a + 1 + k : Nat) : Int)))]) dX6_clash_100 (by decide) rfl ?_
                    refine x_iinc 104 rfl (lv' := [(2, .int (zI ((csI (clP b) a (csO (clP b) n a) k).1 + 1))), (3, .int (zI ((10 * a + (a + 1 + k) : Nat) : Int))), (0, .ref wn), (1, .int (zI what)), (4, .int (zI ((a : Nat) : Int))), (5, .int (zI ((a + 1 + k : Nat) : Int)))]) dX6_clash_101 3 rfl (b := (csI (clP b) a (csO (clP b) n a) k).1 + 1) (by omega) (by decide) rfl ?_
                    refine x_iinc 107 rfl (lv' := [(5, .int (zI ((a + 1 + k + 1 : Nat) : Int))), (2, .int (zI ((csI (clP b) a (csO (clP b) n a) k).1 + 1))), (3, .int (zI ((10 * a + (a + 1 + k) : Nat) : Int))), (0, .ref wn), (1, .int (zI what)), (4, .int (zI ((a : Nat) : Int)))]) dX6_clash_104 5 rfl (b := ((a + 1 + k + 1 : Nat) : Int)) (by omega) (by decide) rfl ?_
                    refine x_goto dX6_clash_107 (tgt := 53) (by decide) ?_
                    refine x_lve (congrArg (fun zz : Int => ([(5, .int (zI ((a + 1 + k + 1 : Nat) : Int))), (2, .int (zI zz)), (3, .int (zI ((10 * a + (a + 1 + k) : Nat) : Int))), (0, .ref wn), (1, .int (zI what)), (4, .int (zI ((a : Nat) : Int)))] : List (Nat × Value))) (by show _ = (csS (clP b) a (a + 1 + k) (csI (clP b) a (csO (clP b) n a) k)).1; unfold csS; first | rw [if_pos hcl] | rw [if_neg (by rw [hcl]; decide)] : (csI (clP b) a (csO (clP b) n a) k).1 + 1 = (csI (clP b) a (csO (clP b) n a) (k + 1)).1)) ?_
                    refine x_lve (congrArg (fun zz : Int => ([(5, .int (zI ((a + 1 + k + 1 : Nat) : Int))), (2, .int (zI ((csI (clP b) a (csO (clP b) n a) (k + 1)).1))), (3, .int (zI zz)), (0, .ref wn), (1, .int (zI what)), (4, .int (zI ((a : Nat) : Int)))] : List (Nat × Value))) (by show _ = (csS (clP b) a (a + 1 + k) (csI (clP b) a (csO (clP b) n a) k)).2; unfold csS; first | (rw [if_pos hcl]; first | exact (if_pos h85).symm | exact (if_neg h85).symm) | rw [if_neg (by rw [hcl]; decide)] : ((10 * a + (a + 1 + k) : Nat) : Int) = (csI (clP b) a (csO (clP b) n a) (k + 1)).2)) ?_
                    refine x_lv [3, 4, 1, 2, 5, 0] rfl ?_
                    exact ih53 (k + 1) (by omega) (by omega)
          refine x_lv [1, 2, 3, 4, 5, 0] rfl ?_
          exact L53 _ 0 (by omega) (Nat.lt_succ_self _)
    refine x_lve (congrArg (fun zz : Int => ([(4, .int (zI 0)), (3, .int (zI (-1))), (2, .int (zI zz)), (0, .ref wn), (1, .int (zI what))] : List (Nat × Value))) (rfl : 0 = (csO (clP b) n 0).1)) ?_
    refine x_lve (congrArg (fun zz : Int => ([(4, .int (zI 0)), (3, .int (zI zz)), (2, .int (zI ((csO (clP b) n 0).1))), (0, .ref wn), (1, .int (zI what))] : List (Nat × Value))) (rfl : (-1) = (csO (clP b) n 0).2)) ?_
    refine x_lv [3, 4, 2, 1, 0] rfl ?_
    exact L35 _ 0 (by omega) (Nat.lt_succ_self _)
  · have h5 := of_decide_eq_false h5
    refine x_aload_n 9 rfl dX6_clash_8 0 rfl ?_
    refine x_bipush 11 rfl dX6_clash_9 (z := (-2)) (by decide) ?_
    refine x_bipush 13 rfl dX6_clash_11 (z := (-2)) (by decide) ?_
    refine x_callV 16 rfl (c_X6_refuse G wn go sp ia ka tq wh nm ra rf 1 (-2) (-2) (by decide) (by decide) (by decide)) [0, 1] rfl (by decide) 0 rfl rfl gX6_clash_X6_refuse rfl rfl rfl hd_X6_refuse ⟨Nat.le_of_ble_eq_true rfl, Nat.le_of_ble_eq_true rfl⟩ (As := [.int (zI (-2)), .int (zI (-2))]) (rest := []) rfl rfl (Nat.le_of_ble_eq_true rfl) dX6_clash_13 ⟨Nat.zero_le _, Nat.zero_le _⟩ (fun v w hq => ?_)
    obtain ⟨rfl, rfl⟩ := hq
    refine ⟨rfl, ?_⟩
    refine x_ws (ws' := [(wn, .inr (5, [.ref go, .ref sp, .ref ia, .ref ka, .ref tq, .ref wh, .ref nm, .ref ra])), (ra, aI G 3 (rfC false rf 1)), (wh, whE wa fo le), (wa 1, .inr (1, [.int (zI e0), .int (zI o0), .int (zI l0), .int (zB a0)])), (wa 3, aI G 7 cf), (go, goE ga ((n : Nat) : Int) ((d : Nat) : Int) ((c : Nat) : Int)), (ga 0, aI G 36 (gf 0)), (ga 1, aI G 7 (gf 1)), (ga 2, aI G 7 (gf 2)), (ga 3, aI G 7 (gf 3)), (ga 4, aI G 7 (gf 4)), (ga 5, aI G 6 (gf 5)), (ga 6, aI G 6 (gf 6)), (ga 7, aI G 8 (gf 7))]) (rfl) ?_
    refine x_iret rfl ?_ dX6_clash_16
    have hk : kQ (csN b n) what = 1 := by unfold kQ; exact if_neg (fun hh => by first | omega | (simp [*] at hh; done) | (obtain ⟨ha, hb, hc, hd⟩ := hh; first | omega | simp_all) | (obtain ⟨ha, hb, hc⟩ := hh; first | omega | simp_all) | (obtain ⟨ha, hb⟩ := hh; first | omega | simp_all))
    exact ⟨_, _, _, _, _, by rw [hk] <;> rfl, by rw [hk] <;> rfl⟩

abbrev P_X6_alter (G : XG) (go : Nat) (ga : Nat → Nat) (b : Nat → Int) (n : Nat) (d : Nat) (c : Nat) (gf : Nat → Nat → Int) (wn : Nat) (sp : Nat) (ia : Nat) (ka : Nat) (tq : Nat) (wh : Nat) (nm : Nat) (ra : Nat) (wa : Nat → Nat) (fo : Int) (le : Int) (e0 : Int) (o0 : Int) (l0 : Int) (a0 : Bool) (cf : Nat → Int) : Option Value → va_W → Prop := fun r ws => ∃ e1 o1 l1 : Int, ∃ a1 : Bool, ∃ cf' : Nat → Int, r = some (.int (zI (alN b n))) ∧ ws = [(wn, .inr (5, [.ref go, .ref sp, .ref ia, .ref ka, .ref tq, .ref wh, .ref nm, .ref ra])), (wh, whE wa fo le), (wa 1, .inr (1, [.int (zI e1), .int (zI o1), .int (zI l1), .int (zB a1)])), (wa 3, aI G 7 cf'), (go, goE ga ((n : Nat) : Int) ((d : Nat) : Int) ((c : Nat) : Int)), (ga 0, aI G 36 (gf 0)), (ga 1, aI G 7 (gf 1)), (ga 2, aI G 7 (gf 2)), (ga 3, aI G 7 (gf 3)), (ga 4, aI G 7 (gf 4)), (ga 5, aI G 6 (gf 5)), (ga 6, aI G 6 (gf 6)), (ga 7, aI G 8 (gf 7))]
abbrev W_X6_alter (G : XG) (E : XE) (go : Nat) (ga : Nat → Nat) (b : Nat → Int) (n : Nat) (d : Nat) (c : Nat) (gf : Nat → Nat → Int) (wn : Nat) (sp : Nat) (ia : Nat) (ka : Nat) (tq : Nat) (wh : Nat) (nm : Nat) (ra : Nat) (wa : Nat → Nat) (fo : Int) (le : Int) (e0 : Int) (o0 : Int) (l0 : Int) (a0 : Bool) (cf : Nat → Int) (pc : Nat) (lv : List (Nat × Value)) (st : List Value) (ws : va_W) : Prop := Wx G E (rmL 6) cX6_alter 1 RX6 wsX6_alter (some .int) "alter" 0 0 (P_X6_alter G go ga b n d c gf wn sp ia ka tq wh nm ra wa fo le e0 o0 l0 a0 cf) 0 0 pc lv st ws
theorem flX6_alter_10 : Cond.fieldLink RX6 10 (TX6 0).1 (TX6 0).2.1 (TX6 0).2.2.1 ∈ wsX6_alter := by decide +kernel
theorem flX6_alter_37 : Cond.fieldLink RX6 37 (TX6 5).1 (TX6 5).2.1 (TX6 5).2.2.1 ∈ wsX6_alter := by decide +kernel
theorem flX6_alter_132 : Cond.fieldLink RX6 132 (TX0 0).1 (TX0 0).2.1 (TX0 0).2.2.1 ∈ wsX6_alter := by decide +kernel
theorem inX6_alter_X0 : ∀ w ∈ u_ws RX0 TX0 11, w ∈ wsX6_alter := fun _ h => List.mem_cons_of_mem _ (List.mem_append_left _ (List.mem_append_left _ (List.mem_append_right _ h)))
theorem inX6_alter_X6 : ∀ w ∈ u_ws RX6 TX6 8, w ∈ wsX6_alter := fun _ h => List.mem_cons_of_mem _ (List.mem_append_left _ (List.mem_append_left _ (List.mem_append_left _ (List.mem_append_right _ h))))
set_option maxHeartbeats 4000000 in
set_option maxRecDepth 100000 in
/-- alter -/
theorem c_X6_alter (G : XG) (go : Nat) (ga : Nat → Nat) (b : Nat → Int) (n d c : Nat) (gf : Nat → Nat → Int) (I : Inv b n d c) (R : GR b n d c gf) (wn sp ia ka tq wh nm ra : Nat) (wa : Nat → Nat) (fo le : Int) (e0 o0 l0 : Int) (a0 : Bool) (cf : Nat → Int)  : Con G yX6_alter wsX6_alter (rmL 6) 0 0 [.ref wn] ([(wn, .inr (5, [.ref go, .ref sp, .ref ia, .ref ka, .ref tq, .ref wh, .ref nm, .ref ra])), (wh, whE wa fo le), (wa 1, .inr (1, [.int (zI e0), .int (zI o0), .int (zI l0), .int (zB a0)])), (wa 3, aI G 7 cf), (go, goE ga ((n : Nat) : Int) ((d : Nat) : Int) ((c : Nat) : Int)), (ga 0, aI G 36 (gf 0)), (ga 1, aI G 7 (gf 1)), (ga 2, aI G 7 (gf 2)), (ga 3, aI G 7 (gf 3)), (ga 4, aI G 7 (gf 4)), (ga 5, aI G 6 (gf 5)), (ga 6, aI G 6 (gf 6)), (ga 7, aI G 8 (gf 7))]) (P_X6_alter G go ga b n d c gf wn sp ia ka tq wh nm ra wa fo le e0 o0 l0 a0 cf) := by
  refine x_start (cc := cX6_alter) (nL := 1) (ret := (some .int)) (by decide) rfl (Nat.le_of_ble_eq_true rfl) (fun E => ?_)
  show W_X6_alter G E go ga b n d c gf wn sp ia ka tq wh nm ra wa fo le e0 o0 l0 a0 cf 0 [(0, .ref wn)] [] ([(wn, .inr (5, [.ref go, .ref sp, .ref ia, .ref ka, .ref tq, .ref wh, .ref nm, .ref ra])), (wh, whE wa fo le), (wa 1, .inr (1, [.int (zI e0), .int (zI o0), .int (zI l0), .int (zB a0)])), (wa 3, aI G 7 cf), (go, goE ga ((n : Nat) : Int) ((d : Nat) : Int) ((c : Nat) : Int)), (ga 0, aI G 36 (gf 0)), (ga 1, aI G 7 (gf 1)), (ga 2, aI G 7 (gf 2)), (ga 3, aI G 7 (gf 3)), (ga 4, aI G 7 (gf 4)), (ga 5, aI G 6 (gf 5)), (ga 6, aI G 6 (gf 6)), (ga 7, aI G 8 (gf 7))])
  have hn7 := I.n7
  have hd6 := I.d6
  have hc8 := I.c8
  refine x_aload_n 1 rfl dX6_alter_0 0 rfl ?_
  refine x_get 4 rfl (v := .ref wh) 0 5 rfl rfl (by decide) inX6_alter_X6 flX6_alter_37 rfl dX6_alter_1 ?_
  refine x_aload_n 5 rfl dX6_alter_4 0 rfl ?_
  refine x_get 8 rfl (v := .ref go) 0 0 rfl rfl (by decide) inX6_alter_X6 flX6_alter_10 rfl dX6_alter_5 ?_
  refine x_callV 11 rfl (c_X5_findClashes G go ga b n d c gf I R wh wa fo le e0 o0 l0 a0 cf) [1, 2, 3, 4, 5, 6, 7, 8, 9, 10, 11, 12] rfl (by decide) 1 rfl rfl gX6_alter_X5_findClashes rfl rfl rfl hd_X5_findClashes ⟨Nat.le_of_ble_eq_true rfl, Nat.le_of_ble_eq_true rfl⟩ (As := [.ref go]) (rest := []) rfl rfl (Nat.le_of_ble_eq_true rfl) dX6_alter_8 ⟨Nat.zero_le _, Nat.zero_le _⟩ (fun v w hq => ?_)
  obtain ⟨ez_1, oz_1, lz_1, az_1, cfz, rfl, rfl, hcf⟩ := hq
  refine ⟨rfl, ?_⟩
  refine x_ws (ws' := [(wn, .inr (5, [.ref go, .ref sp, .ref ia, .ref ka, .ref tq, .ref wh, .ref nm, .ref ra])), (wh, whE wa fo le), (wa 1, .inr (1, [.int (zI ez_1), .int (zI oz_1), .int (zI lz_1), .int (zB az_1)])), (wa 3, aI G 7 cfz), (go, goE ga ((n : Nat) : Int) ((d : Nat) : Int) ((c : Nat) : Int)), (ga 0, aI G 36 (gf 0)), (ga 1, aI G 7 (gf 1)), (ga 2, aI G 7 (gf 2)), (ga 3, aI G 7 (gf 3)), (ga 4, aI G 7 (gf 4)), (ga 5, aI G 6 (gf 5)), (ga 6, aI G 6 (gf 6)), (ga 7, aI G 8 (gf 7))]) (rfl) ?_
  refine x_aload_n 12 rfl dX6_alter_11 0 rfl ?_
  refine x_get 15 rfl (v := .ref wh) 0 5 rfl rfl (by decide) inX6_alter_X6 flX6_alter_37 rfl dX6_alter_12 ?_
  refine x_aload_n 16 rfl dX6_alter_15 0 rfl ?_
  refine x_get 19 rfl (v := .ref go) 0 0 rfl rfl (by decide) inX6_alter_X6 flX6_alter_10 rfl dX6_alter_16 ?_
  refine x_get 22 rfl (v := .int (zI ((n : Nat) : Int))) 4 0 rfl rfl (by decide) inX6_alter_X0 flX6_alter_132 rfl dX6_alter_19 ?_
  refine x_callV 25 rfl (c_X5_fewestInEachPair G b n d c I wh wa fo le cfz (hcf)) [1, 3] rfl (by decide) 1 rfl rfl gX6_alter_X5_fewestInEachPair rfl rfl rfl hd_X5_fewestInEachPair ⟨Nat.le_of_ble_eq_true rfl, Nat.le_of_ble_eq_true rfl⟩ (As := [.int (zI ((n : Nat) : Int))]) (rest := []) rfl rfl (Nat.le_of_ble_eq_true rfl) dX6_alter_22 ⟨Nat.zero_le _, Nat.zero_le _⟩ (fun v w hq => ?_)
  obtain ⟨rfl, rfl⟩ := hq
  refine ⟨rfl, ?_⟩
  refine x_ws (ws' := [(wn, .inr (5, [.ref go, .ref sp, .ref ia, .ref ka, .ref tq, .ref wh, .ref nm, .ref ra])), (wh, whE wa fo le), (wa 1, .inr (1, [.int (zI ez_1), .int (zI oz_1), .int (zI lz_1), .int (zB az_1)])), (wa 3, aI G 7 cfz), (go, goE ga ((n : Nat) : Int) ((d : Nat) : Int) ((c : Nat) : Int)), (ga 0, aI G 36 (gf 0)), (ga 1, aI G 7 (gf 1)), (ga 2, aI G 7 (gf 2)), (ga 3, aI G 7 (gf 3)), (ga 4, aI G 7 (gf 4)), (ga 5, aI G 6 (gf 5)), (ga 6, aI G 6 (gf 6)), (ga 7, aI G 8 (gf 7))]) (rfl) ?_
  refine x_iret rfl ?_ dX6_alter_25
  exact ⟨_, _, _, _, _, rfl, rfl⟩

abbrev P_X6_names (G : XG) (go : Nat) (ga : Nat → Nat) (b : Nat → Int) (n : Nat) (d : Nat) (c : Nat) (gf : Nat → Nat → Int) (wn : Nat) (sp : Nat) (ia : Nat) (ka : Nat) (tq : Nat) (wh : Nat) (nm : Nat) (ra : Nat) (rf : Nat → Int) (na : Nat → Nat) (rd : Bool) (fe : Int) (f1 : Nat → Int) (f2 : Nat → Int) (cm : Nat → Int) (sw : Nat → Int) (op : Nat → Int) (ch : Nat → Int) (be : Nat → Int) (e0 : Int) (o0 : Int) (l0 : Int) (a0 : Bool) (p : Int) : Option Value → va_W → Prop := fun r ws => ∃ rd' : Bool, ∃ fe' : Int, ∃ g1 g2 cm' sw' op' ch' be' : Nat → Int, ∃ e1 o1 l1 : Int, ∃ a1 : Bool, r = some (.int (zI (rZ b n p))) ∧ ws = [(wn, .inr (5, [.ref go, .ref sp, .ref ia, .ref ka, .ref tq, .ref wh, .ref nm, .ref ra])), (ra, aI G 3 (rfC false rf (kZ n p))), (nm, nmE na rd' fe'), (na 0, aI G 480 g1), (na 1, aI G 480 g2), (na 2, aI G 20 cm'), (na 3, .inr (1, [.int (zI e1), .int (zI o1), .int (zI l1), .int (zB a1)])), (na 4, aI G 25 sw'), (na 5, aI G 30 op'), (na 6, aI G 5 ch'), (na 7, aI G 5 be'), (go, goE ga ((n : Nat) : Int) ((d : Nat) : Int) ((c : Nat) : Int)), (ga 0, aI G 36 (gf 0)), (ga 1, aI G 7 (gf 1)), (ga 2, aI G 7 (gf 2)), (ga 3, aI G 7 (gf 3)), (ga 4, aI G 7 (gf 4)), (ga 5, aI G 6 (gf 5)), (ga 6, aI G 6 (gf 6)), (ga 7, aI G 8 (gf 7))] ∧ ((rd' = true → TB g1 g2) ∧ (rd' = false → ∀ j, g1 j = 0 ∧ g2 j = 0))
abbrev W_X6_names (G : XG) (E : XE) (go : Nat) (ga : Nat → Nat) (b : Nat → Int) (n : Nat) (d : Nat) (c : Nat) (gf : Nat → Nat → Int) (wn : Nat) (sp : Nat) (ia : Nat) (ka : Nat) (tq : Nat) (wh : Nat) (nm : Nat) (ra : Nat) (rf : Nat → Int) (na : Nat → Nat) (rd : Bool) (fe : Int) (f1 : Nat → Int) (f2 : Nat → Int) (cm : Nat → Int) (sw : Nat → Int) (op : Nat → Int) (ch : Nat → Int) (be : Nat → Int) (e0 : Int) (o0 : Int) (l0 : Int) (a0 : Bool) (p : Int) (pc : Nat) (lv : List (Nat × Value)) (st : List Value) (ws : va_W) : Prop := Wx G E (rmL 10) cX6_names 2 RX6 wsX6_names (some .int) "names" 0 0 (P_X6_names G go ga b n d c gf wn sp ia ka tq wh nm ra rf na rd fe f1 f2 cm sw op ch be e0 o0 l0 a0 p) 0 0 pc lv st ws
theorem flX6_names_10 : Cond.fieldLink RX6 10 (TX6 0).1 (TX6 0).2.1 (TX6 0).2.2.1 ∈ wsX6_names := by decide +kernel
theorem flX6_names_44 : Cond.fieldLink RX6 44 (TX6 6).1 (TX6 6).2.1 (TX6 6).2.2.1 ∈ wsX6_names := by decide +kernel
theorem flX6_names_132 : Cond.fieldLink RX6 132 (TX0 0).1 (TX0 0).2.1 (TX0 0).2.2.1 ∈ wsX6_names := by decide +kernel
theorem flX6_names_145 : Cond.fieldLink RX6 145 (TX2 9).1 (TX2 9).2.1 (TX2 9).2.2.1 ∈ wsX6_names := by decide +kernel
theorem flX6_names_148 : Cond.fieldLink RX6 148 (TX2 8).1 (TX2 8).2.1 (TX2 8).2.2.1 ∈ wsX6_names := by decide +kernel
theorem inX6_names_X0 : ∀ w ∈ u_ws RX0 TX0 11, w ∈ wsX6_names := fun _ h => List.mem_cons_of_mem _ (List.mem_append_left _ (List.mem_append_left _ (List.mem_append_right _ h)))
theorem inX6_names_X2 : ∀ w ∈ u_ws RX2 TX2 10, w ∈ wsX6_names := fun _ h => List.mem_cons_of_mem _ (List.mem_append_left _ (List.mem_append_right _ h))
theorem inX6_names_X6 : ∀ w ∈ u_ws RX6 TX6 8, w ∈ wsX6_names := fun _ h => List.mem_cons_of_mem _ (List.mem_append_left _ (List.mem_append_left _ (List.mem_append_left _ (List.mem_append_right _ h))))
set_option maxHeartbeats 4000000 in
set_option maxRecDepth 100000 in
/-- names -/
theorem c_X6_names (G : XG) (go : Nat) (ga : Nat → Nat) (b : Nat → Int) (n d c : Nat) (gf : Nat → Nat → Int) (I : Inv b n d c) (R : GR b n d c gf) (wn sp ia ka tq wh nm ra : Nat) (rf : Nat → Int) (na : Nat → Nat) (rd : Bool) (fe : Int) (f1 f2 cm sw op ch be : Nat → Int) (e0 o0 l0 : Int) (a0 : Bool) (hrd : (rd = true → TB f1 f2) ∧ (rd = false → ∀ j, f1 j = 0 ∧ f2 j = 0)) (p : Int) (h1 : Z32 p) : Con G yX6_names wsX6_names (rmL 10) 0 0 [.ref wn, .int (zI p)] ([(wn, .inr (5, [.ref go, .ref sp, .ref ia, .ref ka, .ref tq, .ref wh, .ref nm, .ref ra])), (ra, aI G 3 rf), (nm, nmE na rd fe), (na 0, aI G 480 f1), (na 1, aI G 480 f2), (na 2, aI G 20 cm), (na 3, .inr (1, [.int (zI e0), .int (zI o0), .int (zI l0), .int (zB a0)])), (na 4, aI G 25 sw), (na 5, aI G 30 op), (na 6, aI G 5 ch), (na 7, aI G 5 be), (go, goE ga ((n : Nat) : Int) ((d : Nat) : Int) ((c : Nat) : Int)), (ga 0, aI G 36 (gf 0)), (ga 1, aI G 7 (gf 1)), (ga 2, aI G 7 (gf 2)), (ga 3, aI G 7 (gf 3)), (ga 4, aI G 7 (gf 4)), (ga 5, aI G 6 (gf 5)), (ga 6, aI G 6 (gf 6)), (ga 7, aI G 8 (gf 7))]) (P_X6_names G go ga b n d c gf wn sp ia ka tq wh nm ra rf na rd fe f1 f2 cm sw op ch be e0 o0 l0 a0 p) := by
  refine x_start (cc := cX6_names) (nL := 2) (ret := (some .int)) (by decide) rfl (Nat.le_of_ble_eq_true rfl) (fun E => ?_)
  show W_X6_names G E go ga b n d c gf wn sp ia ka tq wh nm ra rf na rd fe f1 f2 cm sw op ch be e0 o0 l0 a0 p 0 [(0, .ref wn), (1, .int (zI p))] [] ([(wn, .inr (5, [.ref go, .ref sp, .ref ia, .ref ka, .ref tq, .ref wh, .ref nm, .ref ra])), (ra, aI G 3 rf), (nm, nmE na rd fe), (na 0, aI G 480 f1), (na 1, aI G 480 f2), (na 2, aI G 20 cm), (na 3, .inr (1, [.int (zI e0), .int (zI o0), .int (zI l0), .int (zB a0)])), (na 4, aI G 25 sw), (na 5, aI G 30 op), (na 6, aI G 5 ch), (na 7, aI G 5 be), (go, goE ga ((n : Nat) : Int) ((d : Nat) : Int) ((c : Nat) : Int)), (ga 0, aI G 36 (gf 0)), (ga 1, aI G 7 (gf 1)), (ga 2, aI G 7 (gf 2)), (ga 3, aI G 7 (gf 3)), (ga 4, aI G 7 (gf 4)), (ga 5, aI G 6 (gf 5)), (ga 6, aI G 6 (gf 6)), (ga 7, aI G 8 (gf 7))])
  have hn7 := I.n7
  have hd6 := I.d6
  have hc8 := I.c8
  refine x_iload_n 1 rfl dX6_names_0 1 rfl ?_
  refine x_iconst 2 rfl dX6_names_1 (z := (-1)) (by decide) ?_
  refine x_icmp_eq 5 rfl (tgt := 25) dX6_names_2 (by decide) (by omega) (by decide) (fun h2 => ?_) (fun h2 => ?_)
  · skip
    refine x_aload_n 26 rfl dX6_names_25 0 rfl ?_
    refine x_get 29 rfl (v := .ref go) 0 0 rfl rfl (by decide) inX6_names_X6 flX6_names_10 rfl dX6_names_26 ?_
    refine x_get 32 rfl (v := .int (zI ((n : Nat) : Int))) 11 0 rfl rfl (by decide) inX6_names_X0 flX6_names_132 rfl dX6_names_29 ?_
    refine x_iconst 33 rfl dX6_names_32 (z := 5) (by decide) ?_
    refine x_icmp_le 36 rfl (tgt := 45) dX6_names_33 (by decide) (by omega) (by decide) (fun h33 => ?_) (fun h33 => ?_)
    · skip
      refine x_aload_n 46 rfl dX6_names_45 0 rfl ?_
      refine x_get 49 rfl (v := .ref nm) 0 6 rfl rfl (by decide) inX6_names_X6 flX6_names_44 rfl dX6_names_46 ?_
      refine x_aload_n 50 rfl dX6_names_49 0 rfl ?_
      refine x_get 53 rfl (v := .ref go) 0 0 rfl rfl (by decide) inX6_names_X6 flX6_names_10 rfl dX6_names_50 ?_
      refine x_callV 56 rfl (c_X2_find G go ga b n d c gf I R nm na rd fe f1 f2 cm sw op ch be e0 o0 l0 a0 (by omega) hrd) [2, 3, 4, 5, 6, 7, 8, 9, 10, 11, 12, 13, 14, 15, 16, 17, 18, 19] rfl (by decide) 2 rfl rfl gX6_names_X2_find rfl rfl rfl hd_X2_find ⟨Nat.le_of_ble_eq_true rfl, Nat.le_of_ble_eq_true rfl⟩ (As := [.ref go]) (rest := []) rfl rfl (Nat.le_of_ble_eq_true rfl) dX6_names_53 ⟨Nat.zero_le _, Nat.zero_le _⟩ (fun v w hq => ?_)
      obtain ⟨e7, o7, l7, a7, g1, g2, cm7, sw7, op7, ch7, be7, fe7, rfl, rfl, hT7, hB7⟩ := hq
      refine ⟨rfl, ?_⟩
      refine x_ws (ws' := [(wn, .inr (5, [.ref go, .ref sp, .ref ia, .ref ka, .ref tq, .ref wh, .ref nm, .ref ra])), (ra, aI G 3 rf), (nm, nmE na true fe7), (na 0, aI G 480 g1), (na 1, aI G 480 g2), (na 2, aI G 20 cm7), (na 3, .inr (1, [.int (zI e7), .int (zI o7), .int (zI l7), .int (zB a7)])), (na 4, aI G 25 sw7), (na 5, aI G 30 op7), (na 6, aI G 5 ch7), (na 7, aI G 5 be7), (go, goE ga ((n : Nat) : Int) ((d : Nat) : Int) ((c : Nat) : Int)), (ga 0, aI G 36 (gf 0)), (ga 1, aI G 7 (gf 1)), (ga 2, aI G 7 (gf 2)), (ga 3, aI G 7 (gf 3)), (ga 4, aI G 7 (gf 4)), (ga 5, aI G 6 (gf 5)), (ga 6, aI G 6 (gf 6)), (ga 7, aI G 8 (gf 7))]) (rfl) ?_
      have hk : kZ n p = 0 := by unfold kZ; rw [if_neg (by omega), if_neg (by omega)]
      have hBe := hB7.end (by omega)
      refine x_bif_ne 59 rfl (tgt := 61) dX6_names_56 (by decide) (fun h56 => ?_) (fun h56 => ?_)
      · have h56 := of_decide_eq_true h56
        have hnb : nmB b n ≠ -1 := h56
        refine x_iload_n 62 rfl dX6_names_61 1 rfl ?_
        refine x_iconst 63 rfl dX6_names_62 (z := (-1)) (by decide) ?_
        refine x_icmp_ne 66 rfl (tgt := 76) dX6_names_63 (by decide) (by omega) (by decide) (fun h63 => ?_) (fun h63 => ?_)
        · skip
          refine x_aload_n 77 rfl dX6_names_76 0 rfl ?_
          obtain ⟨q, hq⟩ : ∃ q : Nat, p = (q : Int) := ⟨p.toNat, by omega⟩
          obtain ⟨e', he'⟩ : ∃ e' : Nat, nmB b n = (e' : Int) := ⟨(nmB b n).toNat, by have := (hB7.end (by omega)).1; have := nmB_r b n; omega⟩
          have hbe := hBe.2.2 e' he' q (by omega)
          have hdg := dgt_lt n e' q
          have e : rZ b n p = ((tuneOfN (dgt n e' q) : Nat) : Int) := by unfold rZ; rw [if_neg (by omega), if_neg (by omega)]; unfold nmR; rw [if_neg hnb, if_neg (by omega), he', hq] <;> rfl
          refine x_get 80 rfl (v := .ref nm) 0 6 rfl rfl (by decide) inX6_names_X6 flX6_names_44 rfl dX6_names_77 ?_
          refine x_get 83 rfl (v := .ref (na 7)) 2 8 rfl rfl (by decide) inX6_names_X2 flX6_names_148 rfl dX6_names_80 ?_
          refine x_iload_n 84 rfl dX6_names_83 1 rfl ?_
          refine x_iald 85 rfl 10 q rfl (⟨by omega, by omega⟩) (by decide) (v := ((dgt n e' q : Nat) : Int)) (hbe) dX6_names_84 ?_
          refine x_callS0 88 rfl (c_X2_shortTune G (dgt n e' q) (by omega)) (fun _ _ h => h.2) gX6_names_X2_shortTune rfl rfl rfl hd_X2_shortTune ⟨Nat.le_of_ble_eq_true rfl, Nat.le_of_ble_eq_true rfl⟩ (As := [.int (zI ((dgt n e' q : Nat) : Int))]) (rest := []) rfl rfl (Nat.le_of_ble_eq_true rfl) dX6_names_85 ⟨Nat.zero_le _, Nat.zero_le _⟩ (fun v hq => ?_)
          obtain ⟨rfl, -⟩ := hq
          refine x_iret rfl ?_ dX6_names_88
          exact ⟨_, _, _, _, _, _, _, _, _, _, _, _, _, by rw [e], by rw [hk] <;> rfl, ⟨fun _ => hT7, fun h => by cases h⟩⟩
        · skip
          refine x_aload_n 67 rfl dX6_names_66 0 rfl ?_
          have hp1 : p = -1 := by omega
          refine x_get 70 rfl (v := .ref nm) 0 6 rfl rfl (by decide) inX6_names_X6 flX6_names_44 rfl dX6_names_67 ?_
          refine x_get 73 rfl (v := .int (zI fe7)) 2 9 rfl rfl (by decide) inX6_names_X2 flX6_names_145 rfl dX6_names_70 ?_
          refine x_goto dX6_names_73 (tgt := 88) (by decide) ?_
          refine x_iret rfl ?_ dX6_names_88
          have e : rZ b n p = nmV b n := by unfold rZ; rw [if_neg (by omega), if_neg (by omega)]; unfold nmR nmV; rw [if_neg hnb, if_neg hnb, if_pos hp1]
          exact ⟨_, _, _, _, _, _, _, _, _, _, _, _, _, by rw [e, hBe.2.1 hnb], by rw [hk] <;> rfl, ⟨fun _ => hT7, fun h => by cases h⟩⟩
      · have h56 := of_decide_eq_false h56
        have hnb : nmB b n = -1 := by omega
        refine x_iconst 60 rfl dX6_names_59 (z := (-1)) (by decide) ?_
        refine x_iret rfl ?_ dX6_names_60
        have e : rZ b n p = -1 := by unfold rZ; rw [if_neg (by omega), if_neg (by omega)]; unfold nmR; rw [if_pos hnb]
        exact ⟨_, _, _, _, _, _, _, _, _, _, _, _, _, by rw [e], by rw [hk] <;> rfl, ⟨fun _ => hT7, fun h => by cases h⟩⟩
    · skip
      refine x_aload_n 37 rfl dX6_names_36 0 rfl ?_
      refine x_bipush 39 rfl dX6_names_37 (z := (-3)) (by decide) ?_
      refine x_bipush 41 rfl dX6_names_39 (z := (-20)) (by decide) ?_
      refine x_callV 44 rfl (c_X6_refuse G wn go sp ia ka tq wh nm ra rf 2 (-3) (-20) (by decide) (by decide) (by decide)) [0, 1] rfl (by decide) 0 rfl rfl gX6_names_X6_refuse rfl rfl rfl hd_X6_refuse ⟨Nat.le_of_ble_eq_true rfl, Nat.le_of_ble_eq_true rfl⟩ (As := [.int (zI (-3)), .int (zI (-20))]) (rest := []) rfl rfl (Nat.le_of_ble_eq_true rfl) dX6_names_41 ⟨Nat.zero_le _, Nat.zero_le _⟩ (fun v w hq => ?_)
      obtain ⟨rfl, rfl⟩ := hq
      refine ⟨rfl, ?_⟩
      refine x_ws (ws' := [(wn, .inr (5, [.ref go, .ref sp, .ref ia, .ref ka, .ref tq, .ref wh, .ref nm, .ref ra])), (ra, aI G 3 (rfC false rf 2)), (nm, nmE na rd fe), (na 0, aI G 480 f1), (na 1, aI G 480 f2), (na 2, aI G 20 cm), (na 3, .inr (1, [.int (zI e0), .int (zI o0), .int (zI l0), .int (zB a0)])), (na 4, aI G 25 sw), (na 5, aI G 30 op), (na 6, aI G 5 ch), (na 7, aI G 5 be), (go, goE ga ((n : Nat) : Int) ((d : Nat) : Int) ((c : Nat) : Int)), (ga 0, aI G 36 (gf 0)), (ga 1, aI G 7 (gf 1)), (ga 2, aI G 7 (gf 2)), (ga 3, aI G 7 (gf 3)), (ga 4, aI G 7 (gf 4)), (ga 5, aI G 6 (gf 5)), (ga 6, aI G 6 (gf 6)), (ga 7, aI G 8 (gf 7))]) (rfl) ?_
      refine x_iret rfl ?_ dX6_names_44
      have hk : kZ n p = 2 := by unfold kZ; rw [if_neg (by omega), if_pos (by omega)]
      exact ⟨_, _, _, _, _, _, _, _, _, _, _, _, _, by unfold rZ; rw [if_neg (by omega), if_pos hk], by rw [hk], hrd⟩
  · skip
    refine x_aload_n 6 rfl dX6_names_5 0 rfl ?_
    refine x_get 9 rfl (v := .ref go) 0 0 rfl rfl (by decide) inX6_names_X6 flX6_names_10 rfl dX6_names_6 ?_
    refine x_iload_n 10 rfl dX6_names_9 1 rfl ?_
    refine x_callV 13 rfl (c_X0_isPerson G go ga b n d c gf I R p (by omega)) [11, 12, 13, 14, 15, 16, 17, 18, 19] rfl (by decide) 11 rfl rfl gX6_names_X0_isPerson rfl rfl rfl hd_X0_isPerson ⟨Nat.le_of_ble_eq_true rfl, Nat.le_of_ble_eq_true rfl⟩ (As := [.int (zI p)]) (rest := []) rfl rfl (Nat.le_of_ble_eq_true rfl) dX6_names_10 ⟨Nat.zero_le _, Nat.zero_le _⟩ (fun v w hq => ?_)
    obtain ⟨rfl, rfl⟩ := hq
    refine ⟨rfl, ?_⟩
    refine x_ws (ws' := [(wn, .inr (5, [.ref go, .ref sp, .ref ia, .ref ka, .ref tq, .ref wh, .ref nm, .ref ra])), (ra, aI G 3 rf), (nm, nmE na rd fe), (na 0, aI G 480 f1), (na 1, aI G 480 f2), (na 2, aI G 20 cm), (na 3, .inr (1, [.int (zI e0), .int (zI o0), .int (zI l0), .int (zB a0)])), (na 4, aI G 25 sw), (na 5, aI G 30 op), (na 6, aI G 5 ch), (na 7, aI G 5 be), (go, goE ga ((n : Nat) : Int) ((d : Nat) : Int) ((c : Nat) : Int)), (ga 0, aI G 36 (gf 0)), (ga 1, aI G 7 (gf 1)), (ga 2, aI G 7 (gf 2)), (ga 3, aI G 7 (gf 3)), (ga 4, aI G 7 (gf 4)), (ga 5, aI G 6 (gf 5)), (ga 6, aI G 6 (gf 6)), (ga 7, aI G 8 (gf 7))]) (rfl) ?_
    refine x_bif_ne 16 rfl (tgt := 25) dX6_names_13 (by decide) (fun h13 => ?_) (fun h13 => ?_)
    · have h13 := of_decide_eq_true h13
      refine x_aload_n 26 rfl dX6_names_25 0 rfl ?_
      refine x_get 29 rfl (v := .ref go) 0 0 rfl rfl (by decide) inX6_names_X6 flX6_names_10 rfl dX6_names_26 ?_
      refine x_get 32 rfl (v := .int (zI ((n : Nat) : Int))) 11 0 rfl rfl (by decide) inX6_names_X0 flX6_names_132 rfl dX6_names_29 ?_
      refine x_iconst 33 rfl dX6_names_32 (z := 5) (by decide) ?_
      refine x_icmp_le 36 rfl (tgt := 45) dX6_names_33 (by decide) (by omega) (by decide) (fun h33 => ?_) (fun h33 => ?_)
      · skip
        refine x_aload_n 46 rfl dX6_names_45 0 rfl ?_
        refine x_get 49 rfl (v := .ref nm) 0 6 rfl rfl (by decide) inX6_names_X6 flX6_names_44 rfl dX6_names_46 ?_
        refine x_aload_n 50 rfl dX6_names_49 0 rfl ?_
        refine x_get 53 rfl (v := .ref go) 0 0 rfl rfl (by decide) inX6_names_X6 flX6_names_10 rfl dX6_names_50 ?_
        refine x_callV 56 rfl (c_X2_find G go ga b n d c gf I R nm na rd fe f1 f2 cm sw op ch be e0 o0 l0 a0 (by omega) hrd) [2, 3, 4, 5, 6, 7, 8, 9, 10, 11, 12, 13, 14, 15, 16, 17, 18, 19] rfl (by decide) 2 rfl rfl gX6_names_X2_find rfl rfl rfl hd_X2_find ⟨Nat.le_of_ble_eq_true rfl, Nat.le_of_ble_eq_true rfl⟩ (As := [.ref go]) (rest := []) rfl rfl (Nat.le_of_ble_eq_true rfl) dX6_names_53 ⟨Nat.zero_le _, Nat.zero_le _⟩ (fun v w hq => ?_)
        obtain ⟨e7, o7, l7, a7, g1, g2, cm7, sw7, op7, ch7, be7, fe7, rfl, rfl, hT7, hB7⟩ := hq
        refine ⟨rfl, ?_⟩
        refine x_ws (ws' := [(wn, .inr (5, [.ref go, .ref sp, .ref ia, .ref ka, .ref tq, .ref wh, .ref nm, .ref ra])), (ra, aI G 3 rf), (nm, nmE na true fe7), (na 0, aI G 480 g1), (na 1, aI G 480 g2), (na 2, aI G 20 cm7), (na 3, .inr (1, [.int (zI e7), .int (zI o7), .int (zI l7), .int (zB a7)])), (na 4, aI G 25 sw7), (na 5, aI G 30 op7), (na 6, aI G 5 ch7), (na 7, aI G 5 be7), (go, goE ga ((n : Nat) : Int) ((d : Nat) : Int) ((c : Nat) : Int)), (ga 0, aI G 36 (gf 0)), (ga 1, aI G 7 (gf 1)), (ga 2, aI G 7 (gf 2)), (ga 3, aI G 7 (gf 3)), (ga 4, aI G 7 (gf 4)), (ga 5, aI G 6 (gf 5)), (ga 6, aI G 6 (gf 6)), (ga 7, aI G 8 (gf 7))]) (rfl) ?_
        have hk : kZ n p = 0 := by unfold kZ; rw [if_neg (by omega), if_neg (by omega)]
        have hBe := hB7.end (by omega)
        refine x_bif_ne 59 rfl (tgt := 61) dX6_names_56 (by decide) (fun h56 => ?_) (fun h56 => ?_)
        · have h56 := of_decide_eq_true h56
          have hnb : nmB b n ≠ -1 := h56
          refine x_iload_n 62 rfl dX6_names_61 1 rfl ?_
          refine x_iconst 63 rfl dX6_names_62 (z := (-1)) (by decide) ?_
          refine x_icmp_ne 66 rfl (tgt := 76) dX6_names_63 (by decide) (by omega) (by decide) (fun h63 => ?_) (fun h63 => ?_)
          · skip
            refine x_aload_n 77 rfl dX6_names_76 0 rfl ?_
            obtain ⟨q, hq⟩ : ∃ q : Nat, p = (q : Int) := ⟨p.toNat, by omega⟩
            obtain ⟨e', he'⟩ : ∃ e' : Nat, nmB b n = (e' : Int) := ⟨(nmB b n).toNat, by have := (hB7.end (by omega)).1; have := nmB_r b n; omega⟩
            have hbe := hBe.2.2 e' he' q (by omega)
            have hdg := dgt_lt n e' q
            have e : rZ b n p = ((tuneOfN (dgt n e' q) : Nat) : Int) := by unfold rZ; rw [if_neg (by omega), if_neg (by omega)]; unfold nmR; rw [if_neg hnb, if_neg (by omega), he', hq] <;> rfl
            refine x_get 80 rfl (v := .ref nm) 0 6 rfl rfl (by decide) inX6_names_X6 flX6_names_44 rfl dX6_names_77 ?_
            refine x_get 83 rfl (v := .ref (na 7)) 2 8 rfl rfl (by decide) inX6_names_X2 flX6_names_148 rfl dX6_names_80 ?_
            refine x_iload_n 84 rfl dX6_names_83 1 rfl ?_
            refine x_iald 85 rfl 10 q rfl (⟨by omega, by omega⟩) (by decide) (v := ((dgt n e' q : Nat) : Int)) (hbe) dX6_names_84 ?_
            refine x_callS0 88 rfl (c_X2_shortTune G (dgt n e' q) (by omega)) (fun _ _ h => h.2) gX6_names_X2_shortTune rfl rfl rfl hd_X2_shortTune ⟨Nat.le_of_ble_eq_true rfl, Nat.le_of_ble_eq_true rfl⟩ (As := [.int (zI ((dgt n e' q : Nat) : Int))]) (rest := []) rfl rfl (Nat.le_of_ble_eq_true rfl) dX6_names_85 ⟨Nat.zero_le _, Nat.zero_le _⟩ (fun v hq => ?_)
            obtain ⟨rfl, -⟩ := hq
            refine x_iret rfl ?_ dX6_names_88
            exact ⟨_, _, _, _, _, _, _, _, _, _, _, _, _, by rw [e], by rw [hk] <;> rfl, ⟨fun _ => hT7, fun h => by cases h⟩⟩
          · skip
            refine x_aload_n 67 rfl dX6_names_66 0 rfl ?_
            have hp1 : p = -1 := by omega
            refine x_get 70 rfl (v := .ref nm) 0 6 rfl rfl (by decide) inX6_names_X6 flX6_names_44 rfl dX6_names_67 ?_
            refine x_get 73 rfl (v := .int (zI fe7)) 2 9 rfl rfl (by decide) inX6_names_X2 flX6_names_145 rfl dX6_names_70 ?_
            refine x_goto dX6_names_73 (tgt := 88) (by decide) ?_
            refine x_iret rfl ?_ dX6_names_88
            have e : rZ b n p = nmV b n := by unfold rZ; rw [if_neg (by omega), if_neg (by omega)]; unfold nmR nmV; rw [if_neg hnb, if_neg hnb, if_pos hp1]
            exact ⟨_, _, _, _, _, _, _, _, _, _, _, _, _, by rw [e, hBe.2.1 hnb], by rw [hk] <;> rfl, ⟨fun _ => hT7, fun h => by cases h⟩⟩
        · have h56 := of_decide_eq_false h56
          have hnb : nmB b n = -1 := by omega
          refine x_iconst 60 rfl dX6_names_59 (z := (-1)) (by decide) ?_
          refine x_iret rfl ?_ dX6_names_60
          have e : rZ b n p = -1 := by unfold rZ; rw [if_neg (by omega), if_neg (by omega)]; unfold nmR; rw [if_pos hnb]
          exact ⟨_, _, _, _, _, _, _, _, _, _, _, _, _, by rw [e], by rw [hk] <;> rfl, ⟨fun _ => hT7, fun h => by cases h⟩⟩
      · skip
        refine x_aload_n 37 rfl dX6_names_36 0 rfl ?_
        refine x_bipush 39 rfl dX6_names_37 (z := (-3)) (by decide) ?_
        refine x_bipush 41 rfl dX6_names_39 (z := (-20)) (by decide) ?_
        refine x_callV 44 rfl (c_X6_refuse G wn go sp ia ka tq wh nm ra rf 2 (-3) (-20) (by decide) (by decide) (by decide)) [0, 1] rfl (by decide) 0 rfl rfl gX6_names_X6_refuse rfl rfl rfl hd_X6_refuse ⟨Nat.le_of_ble_eq_true rfl, Nat.le_of_ble_eq_true rfl⟩ (As := [.int (zI (-3)), .int (zI (-20))]) (rest := []) rfl rfl (Nat.le_of_ble_eq_true rfl) dX6_names_41 ⟨Nat.zero_le _, Nat.zero_le _⟩ (fun v w hq => ?_)
        obtain ⟨rfl, rfl⟩ := hq
        refine ⟨rfl, ?_⟩
        refine x_ws (ws' := [(wn, .inr (5, [.ref go, .ref sp, .ref ia, .ref ka, .ref tq, .ref wh, .ref nm, .ref ra])), (ra, aI G 3 (rfC false rf 2)), (nm, nmE na rd fe), (na 0, aI G 480 f1), (na 1, aI G 480 f2), (na 2, aI G 20 cm), (na 3, .inr (1, [.int (zI e0), .int (zI o0), .int (zI l0), .int (zB a0)])), (na 4, aI G 25 sw), (na 5, aI G 30 op), (na 6, aI G 5 ch), (na 7, aI G 5 be), (go, goE ga ((n : Nat) : Int) ((d : Nat) : Int) ((c : Nat) : Int)), (ga 0, aI G 36 (gf 0)), (ga 1, aI G 7 (gf 1)), (ga 2, aI G 7 (gf 2)), (ga 3, aI G 7 (gf 3)), (ga 4, aI G 7 (gf 4)), (ga 5, aI G 6 (gf 5)), (ga 6, aI G 6 (gf 6)), (ga 7, aI G 8 (gf 7))]) (rfl) ?_
        refine x_iret rfl ?_ dX6_names_44
        have hk : kZ n p = 2 := by unfold kZ; rw [if_neg (by omega), if_pos (by omega)]
        exact ⟨_, _, _, _, _, _, _, _, _, _, _, _, _, by unfold rZ; rw [if_neg (by omega), if_pos hk], by rw [hk], hrd⟩
    · have h13 := of_decide_eq_false h13
      refine x_aload_n 17 rfl dX6_names_16 0 rfl ?_
      refine x_bipush 19 rfl dX6_names_17 (z := (-2)) (by decide) ?_
      refine x_bipush 21 rfl dX6_names_19 (z := (-10)) (by decide) ?_
      refine x_callV 24 rfl (c_X6_refuse G wn go sp ia ka tq wh nm ra rf 1 (-2) (-10) (by decide) (by decide) (by decide)) [0, 1] rfl (by decide) 0 rfl rfl gX6_names_X6_refuse rfl rfl rfl hd_X6_refuse ⟨Nat.le_of_ble_eq_true rfl, Nat.le_of_ble_eq_true rfl⟩ (As := [.int (zI (-2)), .int (zI (-10))]) (rest := []) rfl rfl (Nat.le_of_ble_eq_true rfl) dX6_names_21 ⟨Nat.zero_le _, Nat.zero_le _⟩ (fun v w hq => ?_)
      obtain ⟨rfl, rfl⟩ := hq
      refine ⟨rfl, ?_⟩
      refine x_ws (ws' := [(wn, .inr (5, [.ref go, .ref sp, .ref ia, .ref ka, .ref tq, .ref wh, .ref nm, .ref ra])), (ra, aI G 3 (rfC false rf 1)), (nm, nmE na rd fe), (na 0, aI G 480 f1), (na 1, aI G 480 f2), (na 2, aI G 20 cm), (na 3, .inr (1, [.int (zI e0), .int (zI o0), .int (zI l0), .int (zB a0)])), (na 4, aI G 25 sw), (na 5, aI G 30 op), (na 6, aI G 5 ch), (na 7, aI G 5 be), (go, goE ga ((n : Nat) : Int) ((d : Nat) : Int) ((c : Nat) : Int)), (ga 0, aI G 36 (gf 0)), (ga 1, aI G 7 (gf 1)), (ga 2, aI G 7 (gf 2)), (ga 3, aI G 7 (gf 3)), (ga 4, aI G 7 (gf 4)), (ga 5, aI G 6 (gf 5)), (ga 6, aI G 6 (gf 6)), (ga 7, aI G 8 (gf 7))]) (rfl) ?_
      refine x_iret rfl ?_ dX6_names_24
      have hk : kZ n p = 1 := by unfold kZ; exact if_pos (by omega)
      exact ⟨_, _, _, _, _, _, _, _, _, _, _, _, _, by unfold rZ; rw [if_pos hk], by rw [hk], hrd⟩

abbrev P_X6_bride (G : XG) (go : Nat) (ga : Nat → Nat) (b : Nat → Int) (n : Nat) (d : Nat) (c : Nat) (gf : Nat → Nat → Int) (wn : Nat) (sp : Nat) (ia : Nat) (ka : Nat) (tq : Nat) (wh : Nat) (nm : Nat) (ra : Nat) (rf : Nat → Int) (wa : Nat → Nat) (fo : Int) (le : Int) (e0 : Int) (o0 : Int) (l0 : Int) (a0 : Bool) (p : Int) : Option Value → va_W → Prop := fun r ws => ∃ e1 o1 l1 : Int, ∃ a1 : Bool, r = some (.int (zI (rC (kI n p) (brN b n p.toNat)))) ∧ ws = [(wn, .inr (5, [.ref go, .ref sp, .ref ia, .ref ka, .ref tq, .ref wh, .ref nm, .ref ra])), (ra, aI G 3 (rfC false rf (kI n p))), (wh, whE wa fo le), (wa 1, .inr (1, [.int (zI e1), .int (zI o1), .int (zI l1), .int (zB a1)])), (go, goE ga ((n : Nat) : Int) ((d : Nat) : Int) ((c : Nat) : Int)), (ga 0, aI G 36 (gf 0)), (ga 1, aI G 7 (gf 1)), (ga 2, aI G 7 (gf 2)), (ga 3, aI G 7 (gf 3)), (ga 4, aI G 7 (gf 4)), (ga 5, aI G 6 (gf 5)), (ga 6, aI G 6 (gf 6)), (ga 7, aI G 8 (gf 7))]
abbrev W_X6_bride (G : XG) (E : XE) (go : Nat) (ga : Nat → Nat) (b : Nat → Int) (n : Nat) (d : Nat) (c : Nat) (gf : Nat → Nat → Int) (wn : Nat) (sp : Nat) (ia : Nat) (ka : Nat) (tq : Nat) (wh : Nat) (nm : Nat) (ra : Nat) (rf : Nat → Int) (wa : Nat → Nat) (fo : Int) (le : Int) (e0 : Int) (o0 : Int) (l0 : Int) (a0 : Bool) (p : Int) (pc : Nat) (lv : List (Nat × Value)) (st : List Value) (ws : va_W) : Prop := Wx G E (rmL 6) cX6_bride 2 RX6 wsX6_bride (some .int) "bride" 0 0 (P_X6_bride G go ga b n d c gf wn sp ia ka tq wh nm ra rf wa fo le e0 o0 l0 a0 p) 0 0 pc lv st ws
theorem flX6_bride_10 : Cond.fieldLink RX6 10 (TX6 0).1 (TX6 0).2.1 (TX6 0).2.2.1 ∈ wsX6_bride := by decide +kernel
theorem flX6_bride_37 : Cond.fieldLink RX6 37 (TX6 5).1 (TX6 5).2.1 (TX6 5).2.2.1 ∈ wsX6_bride := by decide +kernel
theorem inX6_bride_X6 : ∀ w ∈ u_ws RX6 TX6 8, w ∈ wsX6_bride := fun _ h => List.mem_cons_of_mem _ (List.mem_append_left _ (List.mem_append_left _ (List.mem_append_left _ (List.mem_append_right _ h))))
set_option maxHeartbeats 4000000 in
set_option maxRecDepth 100000 in
/-- bride -/
theorem c_X6_bride (G : XG) (go : Nat) (ga : Nat → Nat) (b : Nat → Int) (n d c : Nat) (gf : Nat → Nat → Int) (I : Inv b n d c) (R : GR b n d c gf) (wn sp ia ka tq wh nm ra : Nat) (rf : Nat → Int) (wa : Nat → Nat) (fo le : Int) (e0 o0 l0 : Int) (a0 : Bool) (p : Int) (h1 : Z32 p) : Con G yX6_bride wsX6_bride (rmL 6) 0 0 [.ref wn, .int (zI p)] ([(wn, .inr (5, [.ref go, .ref sp, .ref ia, .ref ka, .ref tq, .ref wh, .ref nm, .ref ra])), (ra, aI G 3 rf), (wh, whE wa fo le), (wa 1, .inr (1, [.int (zI e0), .int (zI o0), .int (zI l0), .int (zB a0)])), (go, goE ga ((n : Nat) : Int) ((d : Nat) : Int) ((c : Nat) : Int)), (ga 0, aI G 36 (gf 0)), (ga 1, aI G 7 (gf 1)), (ga 2, aI G 7 (gf 2)), (ga 3, aI G 7 (gf 3)), (ga 4, aI G 7 (gf 4)), (ga 5, aI G 6 (gf 5)), (ga 6, aI G 6 (gf 6)), (ga 7, aI G 8 (gf 7))]) (P_X6_bride G go ga b n d c gf wn sp ia ka tq wh nm ra rf wa fo le e0 o0 l0 a0 p) := by
  refine x_start (cc := cX6_bride) (nL := 2) (ret := (some .int)) (by decide) rfl (Nat.le_of_ble_eq_true rfl) (fun E => ?_)
  show W_X6_bride G E go ga b n d c gf wn sp ia ka tq wh nm ra rf wa fo le e0 o0 l0 a0 p 0 [(0, .ref wn), (1, .int (zI p))] [] ([(wn, .inr (5, [.ref go, .ref sp, .ref ia, .ref ka, .ref tq, .ref wh, .ref nm, .ref ra])), (ra, aI G 3 rf), (wh, whE wa fo le), (wa 1, .inr (1, [.int (zI e0), .int (zI o0), .int (zI l0), .int (zB a0)])), (go, goE ga ((n : Nat) : Int) ((d : Nat) : Int) ((c : Nat) : Int)), (ga 0, aI G 36 (gf 0)), (ga 1, aI G 7 (gf 1)), (ga 2, aI G 7 (gf 2)), (ga 3, aI G 7 (gf 3)), (ga 4, aI G 7 (gf 4)), (ga 5, aI G 6 (gf 5)), (ga 6, aI G 6 (gf 6)), (ga 7, aI G 8 (gf 7))])
  have hn7 := I.n7
  have hd6 := I.d6
  have hc8 := I.c8
  refine x_aload_n 1 rfl dX6_bride_0 0 rfl ?_
  refine x_get 4 rfl (v := .ref go) 0 0 rfl rfl (by decide) inX6_bride_X6 flX6_bride_10 rfl dX6_bride_1 ?_
  refine x_iload_n 5 rfl dX6_bride_4 1 rfl ?_
  refine x_callV 8 rfl (c_X0_isPerson G go ga b n d c gf I R p (by omega)) [4, 5, 6, 7, 8, 9, 10, 11, 12] rfl (by decide) 4 rfl rfl gX6_bride_X0_isPerson rfl rfl rfl hd_X0_isPerson ⟨Nat.le_of_ble_eq_true rfl, Nat.le_of_ble_eq_true rfl⟩ (As := [.int (zI p)]) (rest := []) rfl rfl (Nat.le_of_ble_eq_true rfl) dX6_bride_5 ⟨Nat.zero_le _, Nat.zero_le _⟩ (fun v w hq => ?_)
  obtain ⟨rfl, rfl⟩ := hq
  refine ⟨rfl, ?_⟩
  refine x_ws (ws' := [(wn, .inr (5, [.ref go, .ref sp, .ref ia, .ref ka, .ref tq, .ref wh, .ref nm, .ref ra])), (ra, aI G 3 rf), (wh, whE wa fo le), (wa 1, .inr (1, [.int (zI e0), .int (zI o0), .int (zI l0), .int (zB a0)])), (go, goE ga ((n : Nat) : Int) ((d : Nat) : Int) ((c : Nat) : Int)), (ga 0, aI G 36 (gf 0)), (ga 1, aI G 7 (gf 1)), (ga 2, aI G 7 (gf 2)), (ga 3, aI G 7 (gf 3)), (ga 4, aI G 7 (gf 4)), (ga 5, aI G 6 (gf 5)), (ga 6, aI G 6 (gf 6)), (ga 7, aI G 8 (gf 7))]) (rfl) ?_
  refine x_bif_ne 11 rfl (tgt := 20) dX6_bride_8 (by decide) (fun h8 => ?_) (fun h8 => ?_)
  · have h8 := of_decide_eq_true h8
    obtain ⟨p, rfl⟩ : ∃ zk : Nat, p = (zk : Int) := ⟨Int.toNat p, by omega⟩
    refine x_aload_n 21 rfl dX6_bride_20 0 rfl ?_
    refine x_get 24 rfl (v := .ref wh) 0 5 rfl rfl (by decide) inX6_bride_X6 flX6_bride_37 rfl dX6_bride_21 ?_
    refine x_aload_n 25 rfl dX6_bride_24 0 rfl ?_
    refine x_get 28 rfl (v := .ref go) 0 0 rfl rfl (by decide) inX6_bride_X6 flX6_bride_10 rfl dX6_bride_25 ?_
    refine x_iload_n 29 rfl dX6_bride_28 1 rfl ?_
    refine x_callV 32 rfl (c_X5_leastNewEnd G go ga b n d c gf I R wh wa fo le e0 o0 l0 a0 p (by omega)) [2, 3, 4, 5, 6, 7, 8, 9, 10, 11, 12] rfl (by decide) 2 rfl rfl gX6_bride_X5_leastNewEnd rfl rfl rfl hd_X5_leastNewEnd ⟨Nat.le_of_ble_eq_true rfl, Nat.le_of_ble_eq_true rfl⟩ (As := [.ref go, .int (zI ((p : Nat) : Int))]) (rest := []) rfl rfl (Nat.le_of_ble_eq_true rfl) dX6_bride_29 ⟨Nat.zero_le _, Nat.zero_le _⟩ (fun v w hq => ?_)
    obtain ⟨ez_1, oz_1, lz_1, az_1, rfl, rfl⟩ := hq
    refine ⟨rfl, ?_⟩
    refine x_ws (ws' := [(wn, .inr (5, [.ref go, .ref sp, .ref ia, .ref ka, .ref tq, .ref wh, .ref nm, .ref ra])), (ra, aI G 3 rf), (wh, whE wa fo le), (wa 1, .inr (1, [.int (zI ez_1), .int (zI oz_1), .int (zI lz_1), .int (zB az_1)])), (go, goE ga ((n : Nat) : Int) ((d : Nat) : Int) ((c : Nat) : Int)), (ga 0, aI G 36 (gf 0)), (ga 1, aI G 7 (gf 1)), (ga 2, aI G 7 (gf 2)), (ga 3, aI G 7 (gf 3)), (ga 4, aI G 7 (gf 4)), (ga 5, aI G 6 (gf 5)), (ga 6, aI G 6 (gf 6)), (ga 7, aI G 8 (gf 7))]) (rfl) ?_
    refine x_iret rfl ?_ dX6_bride_32
    have hk : kI n ((p : Nat) : Int) = 0 := by unfold kI; exact if_pos (by omega)
    exact ⟨_, _, _, _, by rw [hk] <;> rfl, by rw [hk] <;> rfl⟩
  · have h8 := of_decide_eq_false h8
    refine x_aload_n 12 rfl dX6_bride_11 0 rfl ?_
    refine x_bipush 14 rfl dX6_bride_12 (z := (-2)) (by decide) ?_
    refine x_bipush 16 rfl dX6_bride_14 (z := (-2)) (by decide) ?_
    refine x_callV 19 rfl (c_X6_refuse G wn go sp ia ka tq wh nm ra rf 1 (-2) (-2) (by decide) (by decide) (by decide)) [0, 1] rfl (by decide) 0 rfl rfl gX6_bride_X6_refuse rfl rfl rfl hd_X6_refuse ⟨Nat.le_of_ble_eq_true rfl, Nat.le_of_ble_eq_true rfl⟩ (As := [.int (zI (-2)), .int (zI (-2))]) (rest := []) rfl rfl (Nat.le_of_ble_eq_true rfl) dX6_bride_16 ⟨Nat.zero_le _, Nat.zero_le _⟩ (fun v w hq => ?_)
    obtain ⟨rfl, rfl⟩ := hq
    refine ⟨rfl, ?_⟩
    refine x_ws (ws' := [(wn, .inr (5, [.ref go, .ref sp, .ref ia, .ref ka, .ref tq, .ref wh, .ref nm, .ref ra])), (ra, aI G 3 (rfC false rf 1)), (wh, whE wa fo le), (wa 1, .inr (1, [.int (zI e0), .int (zI o0), .int (zI l0), .int (zB a0)])), (go, goE ga ((n : Nat) : Int) ((d : Nat) : Int) ((c : Nat) : Int)), (ga 0, aI G 36 (gf 0)), (ga 1, aI G 7 (gf 1)), (ga 2, aI G 7 (gf 2)), (ga 3, aI G 7 (gf 3)), (ga 4, aI G 7 (gf 4)), (ga 5, aI G 6 (gf 5)), (ga 6, aI G 6 (gf 6)), (ga 7, aI G 8 (gf 7))]) (rfl) ?_
    refine x_iret rfl ?_ dX6_bride_19
    have hk : kI n p = 1 := by unfold kI; exact if_neg (fun hh => by first | omega | (simp [*] at hh; done) | (obtain ⟨ha, hb, hc, hd⟩ := hh; first | omega | simp_all) | (obtain ⟨ha, hb, hc⟩ := hh; first | omega | simp_all) | (obtain ⟨ha, hb⟩ := hh; first | omega | simp_all))
    exact ⟨_, _, _, _, by rw [hk] <;> rfl, by rw [hk] <;> rfl⟩

