/-! images -/
theorem Inv.congr {b b' : Nat → Int} {n d c : Nat} (I : Inv b n d c) (h : ∀ j, j < 66 → b' j = b j) : Inv b' n d c := by
  have hn7 := I.n7; have hd6 := I.d6; have hc8 := I.c8
  obtain ⟨i1, i2, i3, i4, i5, i6, i7, i8, i9, i10⟩ := I
  refine ⟨by rw [h _ (by omega)]; exact i1, i2, by rw [h _ (by omega)]; exact i3, i4, by rw [h _ (by omega)]; exact i5, i6, fun k hk => ?_, fun q hq => ?_, fun k hk => ?_, fun k hk => ?_⟩
  · rw [h _ (by omega)]; exact i7 k hk
  · rw [h _ (by omega), h _ (by omega), h _ (by omega), h _ (by omega)]; exact i8 q hq
  · rw [h _ (by omega), h _ (by omega)]; exact i9 k hk
  · rw [h _ (by omega)]; exact i10 k hk
theorem GR.congr {b b' : Nat → Int} {n d c : Nat} {gf : Nat → Nat → Int} (R : GR b n d c gf) (I : Inv b n d c) (h : ∀ j, j < 66 → b' j = b j) : GR b' n d c gf := by
  have hn7 := I.n7; have hd6 := I.d6; have hc8 := I.c8
  refine ⟨fun i j hi hj => ?_, fun i hi => ?_, fun i hi => ?_, fun i hi => ?_⟩
  · rw [R.1 i j hi hj]; exact (upN_far (fun k hk => h k (by omega)) hi hj).symm
  · rw [h _ (by omega), h _ (by omega), h _ (by omega), h _ (by omega)]; exact R.2.1 i hi
  · rw [h _ (by omega), h _ (by omega)]; exact R.2.2.1 i hi
  · rw [h _ (by omega)]; exact R.2.2.2 i hi
theorem bFr_imU {im b : Nat → Int} (i : Nat) {j : Nat} (h : j < 66) : bFr (imU im b i) i j = b j := by
  unfold bFr imU; rw [if_pos (by omega), show 66 * i + j - 66 * i = j by omega]
theorem bFr_other {im b : Nat → Int} {i k j : Nat} (hik : i ≠ k) (h : j < 66) : bFr (imU im b i) k j = bFr im k j := by
  unfold bFr imU; rw [if_neg (by omega)]
theorem im_I {im b : Nat → Int} {n d c : Nat} (i : Nat) (I : Inv b n d c) : Inv (bFr (imU im b i) i) n d c := I.congr (fun j hj => bFr_imU i hj)
theorem im_R {im b : Nat → Int} {n d c : Nat} {gf : Nat → Nat → Int} (i : Nat) (I : Inv b n d c) (R : GR b n d c gf) : GR (bFr (imU im b i) i) n d c gf := R.congr I (fun j hj => bFr_imU i hj)
theorem im_oI {im b : Nat → Int} {n d c i k : Nat} (I : Inv (bFr im k) n d c) (hik : i ≠ k := by decide) : Inv (bFr (imU im b i) k) n d c := I.congr (fun j hj => bFr_other hik hj)
theorem im_oR {im b : Nat → Int} {n d c i k : Nat} {gf : Nat → Nat → Int} (I : Inv (bFr im k) n d c) (R : GR (bFr im k) n d c gf) (hik : i ≠ k := by decide) : GR (bFr (imU im b i) k) n d c gf := R.congr I (fun j hj => bFr_other hik hj)
abbrev P_X6_image (G : XG) (go : Nat) (ga : Nat → Nat) (b : Nat → Int) (n : Nat) (d : Nat) (c : Nat) (gf : Nat → Nat → Int) (wn : Nat) (sp : Nat) (ia : Nat) (ka : Nat) (tq : Nat) (wh : Nat) (nm : Nat) (ra : Nat) (rf : Nat → Int) (h0 : Nat) (h1 : Nat) (ha0 : Nat → Nat) (ha1 : Nat → Nat) (n0 : Nat) (d0 : Nat) (c0 : Nat) (n1 : Nat) (d1 : Nat) (c1 : Nat) (hf0 : Nat → Nat → Int) (hf1 : Nat → Nat → Int) (kp : Nat → Bool) (im : Nat → Int) (i : Int) : Option Value → va_W → Prop := fun r ws => ∃ n0' d0' c0' n1' d1' c1' : Nat, ∃ hf0' hf1' : Nat → Nat → Int, r = some (.int (zI (rC (kG i) 1))) ∧ ws = [(wn, .inr (5, [.ref go, .ref sp, .ref ia, .ref ka, .ref tq, .ref wh, .ref nm, .ref ra])), (ra, aI G 3 (rfC false rf (kG i))), (ka, aZ G 2 (if kG i = 0 then zup kp i.toNat true else kp)), (ia, aO G 2 (imF h0 h1)), (h0, goE ha0 ((n0' : Nat) : Int) ((d0' : Nat) : Int) ((c0' : Nat) : Int)), (ha0 0, aI G 36 (hf0' 0)), (ha0 1, aI G 7 (hf0' 1)), (ha0 2, aI G 7 (hf0' 2)), (ha0 3, aI G 7 (hf0' 3)), (ha0 4, aI G 7 (hf0' 4)), (ha0 5, aI G 6 (hf0' 5)), (ha0 6, aI G 6 (hf0' 6)), (ha0 7, aI G 8 (hf0' 7)), (h1, goE ha1 ((n1' : Nat) : Int) ((d1' : Nat) : Int) ((c1' : Nat) : Int)), (ha1 0, aI G 36 (hf1' 0)), (ha1 1, aI G 7 (hf1' 1)), (ha1 2, aI G 7 (hf1' 2)), (ha1 3, aI G 7 (hf1' 3)), (ha1 4, aI G 7 (hf1' 4)), (ha1 5, aI G 6 (hf1' 5)), (ha1 6, aI G 6 (hf1' 6)), (ha1 7, aI G 8 (hf1' 7)), (go, goE ga ((n : Nat) : Int) ((d : Nat) : Int) ((c : Nat) : Int)), (ga 0, aI G 36 (gf 0)), (ga 1, aI G 7 (gf 1)), (ga 2, aI G 7 (gf 2)), (ga 3, aI G 7 (gf 3)), (ga 4, aI G 7 (gf 4)), (ga 5, aI G 6 (gf 5)), (ga 6, aI G 6 (gf 6)), (ga 7, aI G 8 (gf 7))] ∧ ((if kG i = 0 then zup kp i.toNat true else kp) 0 = true → Inv (bFr (if kG i = 0 then imU im b i.toNat else im) 0) n0' d0' c0' ∧ GR (bFr (if kG i = 0 then imU im b i.toNat else im) 0) n0' d0' c0' hf0') ∧ ((if kG i = 0 then zup kp i.toNat true else kp) 1 = true → Inv (bFr (if kG i = 0 then imU im b i.toNat else im) 1) n1' d1' c1' ∧ GR (bFr (if kG i = 0 then imU im b i.toNat else im) 1) n1' d1' c1' hf1')
abbrev W_X6_image (G : XG) (E : XE) (go : Nat) (ga : Nat → Nat) (b : Nat → Int) (n : Nat) (d : Nat) (c : Nat) (gf : Nat → Nat → Int) (wn : Nat) (sp : Nat) (ia : Nat) (ka : Nat) (tq : Nat) (wh : Nat) (nm : Nat) (ra : Nat) (rf : Nat → Int) (h0 : Nat) (h1 : Nat) (ha0 : Nat → Nat) (ha1 : Nat → Nat) (n0 : Nat) (d0 : Nat) (c0 : Nat) (n1 : Nat) (d1 : Nat) (c1 : Nat) (hf0 : Nat → Nat → Int) (hf1 : Nat → Nat → Int) (kp : Nat → Bool) (im : Nat → Int) (i : Int) (pc : Nat) (lv : List (Nat × Value)) (st : List Value) (ws : va_W) : Prop := Wx G E (rmL 2) cX6_image 2 RX6 wsX6_image (some .int) "image" 0 0 (P_X6_image G go ga b n d c gf wn sp ia ka tq wh nm ra rf h0 h1 ha0 ha1 n0 d0 c0 n1 d1 c1 hf0 hf1 kp im i) 0 0 pc lv st ws
theorem flX6_image_10 : Cond.fieldLink RX6 10 (TX6 0).1 (TX6 0).2.1 (TX6 0).2.2.1 ∈ wsX6_image := by decide +kernel
theorem flX6_image_19 : Cond.fieldLink RX6 19 (TX6 2).1 (TX6 2).2.1 (TX6 2).2.2.1 ∈ wsX6_image := by decide +kernel
theorem flX6_image_23 : Cond.fieldLink RX6 23 (TX6 3).1 (TX6 3).2.1 (TX6 3).2.2.1 ∈ wsX6_image := by decide +kernel
theorem inX6_image_X6 : ∀ w ∈ u_ws RX6 TX6 8, w ∈ wsX6_image := fun _ h => List.mem_cons_of_mem _ (List.mem_append_left _ (List.mem_append_right _ h))
set_option maxHeartbeats 4000000 in
set_option maxRecDepth 100000 in
/-- image -/
theorem c_X6_image (G : XG) (go : Nat) (ga : Nat → Nat) (b : Nat → Int) (n d c : Nat) (gf : Nat → Nat → Int) (I : Inv b n d c) (R : GR b n d c gf) (wn sp ia ka tq wh nm ra : Nat) (rf : Nat → Int) (h0 h1 : Nat) (ha0 ha1 : Nat → Nat) (n0 d0 c0 n1 d1 c1 : Nat) (hf0 hf1 : Nat → Nat → Int) (kp : Nat → Bool) (im : Nat → Int) (hi0 : kp 0 = true → Inv (bFr im 0) n0 d0 c0 ∧ GR (bFr im 0) n0 d0 c0 hf0) (hi1 : kp 1 = true → Inv (bFr im 1) n1 d1 c1 ∧ GR (bFr im 1) n1 d1 c1 hf1) (i : Int) (h1' : Z32 i) : Con G yX6_image wsX6_image (rmL 2) 0 0 [.ref wn, .int (zI i)] ([(wn, .inr (5, [.ref go, .ref sp, .ref ia, .ref ka, .ref tq, .ref wh, .ref nm, .ref ra])), (ra, aI G 3 rf), (ka, aZ G 2 kp), (ia, aO G 2 (imF h0 h1)), (h0, goE ha0 ((n0 : Nat) : Int) ((d0 : Nat) : Int) ((c0 : Nat) : Int)), (ha0 0, aI G 36 (hf0 0)), (ha0 1, aI G 7 (hf0 1)), (ha0 2, aI G 7 (hf0 2)), (ha0 3, aI G 7 (hf0 3)), (ha0 4, aI G 7 (hf0 4)), (ha0 5, aI G 6 (hf0 5)), (ha0 6, aI G 6 (hf0 6)), (ha0 7, aI G 8 (hf0 7)), (h1, goE ha1 ((n1 : Nat) : Int) ((d1 : Nat) : Int) ((c1 : Nat) : Int)), (ha1 0, aI G 36 (hf1 0)), (ha1 1, aI G 7 (hf1 1)), (ha1 2, aI G 7 (hf1 2)), (ha1 3, aI G 7 (hf1 3)), (ha1 4, aI G 7 (hf1 4)), (ha1 5, aI G 6 (hf1 5)), (ha1 6, aI G 6 (hf1 6)), (ha1 7, aI G 8 (hf1 7)), (go, goE ga ((n : Nat) : Int) ((d : Nat) : Int) ((c : Nat) : Int)), (ga 0, aI G 36 (gf 0)), (ga 1, aI G 7 (gf 1)), (ga 2, aI G 7 (gf 2)), (ga 3, aI G 7 (gf 3)), (ga 4, aI G 7 (gf 4)), (ga 5, aI G 6 (gf 5)), (ga 6, aI G 6 (gf 6)), (ga 7, aI G 8 (gf 7))]) (P_X6_image G go ga b n d c gf wn sp ia ka tq wh nm ra rf h0 h1 ha0 ha1 n0 d0 c0 n1 d1 c1 hf0 hf1 kp im i) := by
  refine x_start (cc := cX6_image) (nL := 2) (ret := (some .int)) (by decide) rfl (Nat.le_of_ble_eq_true rfl) (fun E => ?_)
  show W_X6_image G E go ga b n d c gf wn sp ia ka tq wh nm ra rf h0 h1 ha0 ha1 n0 d0 c0 n1 d1 c1 hf0 hf1 kp im i 0 [(0, .ref wn), (1, .int (zI i))] [] ([(wn, .inr (5, [.ref go, .ref sp, .ref ia, .ref ka, .ref tq, .ref wh, .ref nm, .ref ra])), (ra, aI G 3 rf), (ka, aZ G 2 kp), (ia, aO G 2 (imF h0 h1)), (h0, goE ha0 ((n0 : Nat) : Int) ((d0 : Nat) : Int) ((c0 : Nat) : Int)), (ha0 0, aI G 36 (hf0 0)), (ha0 1, aI G 7 (hf0 1)), (ha0 2, aI G 7 (hf0 2)), (ha0 3, aI G 7 (hf0 3)), (ha0 4, aI G 7 (hf0 4)), (ha0 5, aI G 6 (hf0 5)), (ha0 6, aI G 6 (hf0 6)), (ha0 7, aI G 8 (hf0 7)), (h1, goE ha1 ((n1 : Nat) : Int) ((d1 : Nat) : Int) ((c1 : Nat) : Int)), (ha1 0, aI G 36 (hf1 0)), (ha1 1, aI G 7 (hf1 1)), (ha1 2, aI G 7 (hf1 2)), (ha1 3, aI G 7 (hf1 3)), (ha1 4, aI G 7 (hf1 4)), (ha1 5, aI G 6 (hf1 5)), (ha1 6, aI G 6 (hf1 6)), (ha1 7, aI G 8 (hf1 7)), (go, goE ga ((n : Nat) : Int) ((d : Nat) : Int) ((c : Nat) : Int)), (ga 0, aI G 36 (gf 0)), (ga 1, aI G 7 (gf 1)), (ga 2, aI G 7 (gf 2)), (ga 3, aI G 7 (gf 3)), (ga 4, aI G 7 (gf 4)), (ga 5, aI G 6 (gf 5)), (ga 6, aI G 6 (gf 6)), (ga 7, aI G 8 (gf 7))])
  have hn7 := I.n7
  have hd6 := I.d6
  have hc8 := I.c8
  refine x_iload_n 1 rfl dX6_image_0 1 rfl ?_
  refine x_iconst 2 rfl dX6_image_1 (z := 2) (by decide) ?_
  refine x_callS0 5 rfl (c_X6_isBelow G i 2 (by omega) (by omega)) (fun _ _ h => h.2) gX6_image_X6_isBelow rfl rfl rfl hd_X6_isBelow ⟨Nat.le_of_ble_eq_true rfl, Nat.le_of_ble_eq_true rfl⟩ (As := [.int (zI i), .int (zI 2)]) (rest := []) rfl rfl (Nat.le_of_ble_eq_true rfl) dX6_image_2 ⟨Nat.zero_le _, Nat.zero_le _⟩ (fun v hq => ?_)
  obtain ⟨rfl, -⟩ := hq
  refine x_bif_ne 8 rfl (tgt := 17) dX6_image_5 (by decide) (fun h5 => ?_) (fun h5 => ?_)
  · have h5 := of_decide_eq_true h5
    rcases (by omega : i = 0 ∨ i = 1) with rfl | rfl
    · skip
      refine x_aload_n 18 rfl dX6_image_17 0 rfl ?_
      refine x_get 21 rfl (v := .ref ia) 0 2 rfl rfl (by decide) inX6_image_X6 flX6_image_19 rfl dX6_image_18 ?_
      refine x_iload_n 22 rfl dX6_image_21 1 rfl ?_
      refine x_aaldO 23 rfl 3 0 rfl (⟨by omega, by omega⟩) (by decide) (rfl) dX6_image_22 ?_
      refine x_aload_n 24 rfl dX6_image_23 0 rfl ?_
      refine x_get 27 rfl (v := .ref go) 0 0 rfl rfl (by decide) inX6_image_X6 flX6_image_10 rfl dX6_image_24 ?_
      refine x_callV 30 rfl (c_X0_become G h0 go ha0 ga b n d c n0 d0 c0 hf0 gf I R) [4, 5, 6, 7, 8, 9, 10, 11, 12, 22, 23, 24, 25, 26, 27, 28, 29, 30] rfl (by decide) 4 rfl rfl gX6_image_X0_become rfl rfl rfl hd_X0_become ⟨Nat.le_of_ble_eq_true rfl, Nat.le_of_ble_eq_true rfl⟩ (As := [.ref go]) (rest := []) rfl rfl (Nat.le_of_ble_eq_true rfl) dX6_image_27 ⟨Nat.zero_le _, Nat.zero_le _⟩ (fun v w hq => ?_)
      obtain ⟨gz, rfl, rfl, Rz⟩ := hq
      refine ⟨rfl, ?_⟩
      refine x_wp (ws' := [(wn, .inr (5, [.ref go, .ref sp, .ref ia, .ref ka, .ref tq, .ref wh, .ref nm, .ref ra])), (ra, aI G 3 rf), (ka, aZ G 2 kp), (ia, aO G 2 (imF h0 h1)), (h0, goE ha0 ((n : Nat) : Int) ((d : Nat) : Int) ((c : Nat) : Int)), (ha0 0, aI G 36 (gz 0)), (ha0 1, aI G 7 (gz 1)), (ha0 2, aI G 7 (gz 2)), (ha0 3, aI G 7 (gz 3)), (ha0 4, aI G 7 (gz 4)), (ha0 5, aI G 6 (gz 5)), (ha0 6, aI G 6 (gz 6)), (ha0 7, aI G 8 (gz 7)), (h1, goE ha1 ((n1 : Nat) : Int) ((d1 : Nat) : Int) ((c1 : Nat) : Int)), (ha1 0, aI G 36 (hf1 0)), (ha1 1, aI G 7 (hf1 1)), (ha1 2, aI G 7 (hf1 2)), (ha1 3, aI G 7 (hf1 3)), (ha1 4, aI G 7 (hf1 4)), (ha1 5, aI G 6 (hf1 5)), (ha1 6, aI G 6 (hf1 6)), (ha1 7, aI G 8 (hf1 7)), (go, goE ga ((n : Nat) : Int) ((d : Nat) : Int) ((c : Nat) : Int)), (ga 0, aI G 36 (gf 0)), (ga 1, aI G 7 (gf 1)), (ga 2, aI G 7 (gf 2)), (ga 3, aI G 7 (gf 3)), (ga 4, aI G 7 (gf 4)), (ga 5, aI G 6 (gf 5)), (ga 6, aI G 6 (gf 6)), (ga 7, aI G 8 (gf 7))]) rfl ?_
      refine x_aload_n 31 rfl dX6_image_30 0 rfl ?_
      refine x_get 34 rfl (v := .ref ka) 0 3 rfl rfl (by decide) inX6_image_X6 flX6_image_23 rfl dX6_image_31 ?_
      refine x_iload_n 35 rfl dX6_image_34 1 rfl ?_
      refine x_iconst 36 rfl dX6_image_35 (z := 1) (by decide) ?_
      refine x_int (y := (zB true)) (rfl) ?_
      refine x_zast 37 rfl 2 0 rfl (⟨by omega, by omega⟩) (by decide) (ws' := [(wn, .inr (5, [.ref go, .ref sp, .ref ia, .ref ka, .ref tq, .ref wh, .ref nm, .ref ra])), (ra, aI G 3 rf), (ka, aZ G 2 (zup kp 0 true)), (ia, aO G 2 (imF h0 h1)), (h0, goE ha0 ((n : Nat) : Int) ((d : Nat) : Int) ((c : Nat) : Int)), (ha0 0, aI G 36 (gz 0)), (ha0 1, aI G 7 (gz 1)), (ha0 2, aI G 7 (gz 2)), (ha0 3, aI G 7 (gz 3)), (ha0 4, aI G 7 (gz 4)), (ha0 5, aI G 6 (gz 5)), (ha0 6, aI G 6 (gz 6)), (ha0 7, aI G 8 (gz 7)), (h1, goE ha1 ((n1 : Nat) : Int) ((d1 : Nat) : Int) ((c1 : Nat) : Int)), (ha1 0, aI G 36 (hf1 0)), (ha1 1, aI G 7 (hf1 1)), (ha1 2, aI G 7 (hf1 2)), (ha1 3, aI G 7 (hf1 3)), (ha1 4, aI G 7 (hf1 4)), (ha1 5, aI G 6 (hf1 5)), (ha1 6, aI G 6 (hf1 6)), (ha1 7, aI G 8 (hf1 7)), (go, goE ga ((n : Nat) : Int) ((d : Nat) : Int) ((c : Nat) : Int)), (ga 0, aI G 36 (gf 0)), (ga 1, aI G 7 (gf 1)), (ga 2, aI G 7 (gf 2)), (ga 3, aI G 7 (gf 3)), (ga 4, aI G 7 (gf 4)), (ga 5, aI G 6 (gf 5)), (ga 6, aI G 6 (gf 6)), (ga 7, aI G 8 (gf 7))]) (rfl) dX6_image_36 ?_
      refine x_iconst 38 rfl dX6_image_37 (z := 1) (by decide) ?_
      refine x_iret rfl ?_ dX6_image_38
      exact ⟨n, d, c, n1, d1, c1, gz, hf1, rfl, rfl, (fun _ => ⟨im_I 0 I, im_R 0 I Rz⟩), (fun h => by have hq := hi1 h; exact ⟨im_oI hq.1, im_oR hq.1 hq.2⟩)⟩
    · skip
      refine x_aload_n 18 rfl dX6_image_17 0 rfl ?_
      refine x_get 21 rfl (v := .ref ia) 0 2 rfl rfl (by decide) inX6_image_X6 flX6_image_19 rfl dX6_image_18 ?_
      refine x_iload_n 22 rfl dX6_image_21 1 rfl ?_
      refine x_aaldO 23 rfl 3 1 rfl (⟨by omega, by omega⟩) (by decide) (rfl) dX6_image_22 ?_
      refine x_aload_n 24 rfl dX6_image_23 0 rfl ?_
      refine x_get 27 rfl (v := .ref go) 0 0 rfl rfl (by decide) inX6_image_X6 flX6_image_10 rfl dX6_image_24 ?_
      refine x_callV 30 rfl (c_X0_become G h1 go ha1 ga b n d c n1 d1 c1 hf1 gf I R) [13, 14, 15, 16, 17, 18, 19, 20, 21, 22, 23, 24, 25, 26, 27, 28, 29, 30] rfl (by decide) 13 rfl rfl gX6_image_X0_become rfl rfl rfl hd_X0_become ⟨Nat.le_of_ble_eq_true rfl, Nat.le_of_ble_eq_true rfl⟩ (As := [.ref go]) (rest := []) rfl rfl (Nat.le_of_ble_eq_true rfl) dX6_image_27 ⟨Nat.zero_le _, Nat.zero_le _⟩ (fun v w hq => ?_)
      obtain ⟨gz, rfl, rfl, Rz⟩ := hq
      refine ⟨rfl, ?_⟩
      refine x_wp (ws' := [(wn, .inr (5, [.ref go, .ref sp, .ref ia, .ref ka, .ref tq, .ref wh, .ref nm, .ref ra])), (ra, aI G 3 rf), (ka, aZ G 2 kp), (ia, aO G 2 (imF h0 h1)), (h0, goE ha0 ((n0 : Nat) : Int) ((d0 : Nat) : Int) ((c0 : Nat) : Int)), (ha0 0, aI G 36 (hf0 0)), (ha0 1, aI G 7 (hf0 1)), (ha0 2, aI G 7 (hf0 2)), (ha0 3, aI G 7 (hf0 3)), (ha0 4, aI G 7 (hf0 4)), (ha0 5, aI G 6 (hf0 5)), (ha0 6, aI G 6 (hf0 6)), (ha0 7, aI G 8 (hf0 7)), (h1, goE ha1 ((n : Nat) : Int) ((d : Nat) : Int) ((c : Nat) : Int)), (ha1 0, aI G 36 (gz 0)), (ha1 1, aI G 7 (gz 1)), (ha1 2, aI G 7 (gz 2)), (ha1 3, aI G 7 (gz 3)), (ha1 4, aI G 7 (gz 4)), (ha1 5, aI G 6 (gz 5)), (ha1 6, aI G 6 (gz 6)), (ha1 7, aI G 8 (gz 7)), (go, goE ga ((n : Nat) : Int) ((d : Nat) : Int) ((c : Nat) : Int)), (ga 0, aI G 36 (gf 0)), (ga 1, aI G 7 (gf 1)), (ga 2, aI G 7 (gf 2)), (ga 3, aI G 7 (gf 3)), (ga 4, aI G 7 (gf 4)), (ga 5, aI G 6 (gf 5)), (ga 6, aI G 6 (gf 6)), (ga 7, aI G 8 (gf 7))]) rfl ?_
      refine x_aload_n 31 rfl dX6_image_30 0 rfl ?_
      refine x_get 34 rfl (v := .ref ka) 0 3 rfl rfl (by decide) inX6_image_X6 flX6_image_23 rfl dX6_image_31 ?_
      refine x_iload_n 35 rfl dX6_image_34 1 rfl ?_
      refine x_iconst 36 rfl dX6_image_35 (z := 1) (by decide) ?_
      refine x_int (y := (zB true)) (rfl) ?_
      refine x_zast 37 rfl 2 1 rfl (⟨by omega, by omega⟩) (by decide) (ws' := [(wn, .inr (5, [.ref go, .ref sp, .ref ia, .ref ka, .ref tq, .ref wh, .ref nm, .ref ra])), (ra, aI G 3 rf), (ka, aZ G 2 (zup kp 1 true)), (ia, aO G 2 (imF h0 h1)), (h0, goE ha0 ((n0 : Nat) : Int) ((d0 : Nat) : Int) ((c0 : Nat) : Int)), (ha0 0, aI G 36 (hf0 0)), (ha0 1, aI G 7 (hf0 1)), (ha0 2, aI G 7 (hf0 2)), (ha0 3, aI G 7 (hf0 3)), (ha0 4, aI G 7 (hf0 4)), (ha0 5, aI G 6 (hf0 5)), (ha0 6, aI G 6 (hf0 6)), (ha0 7, aI G 8 (hf0 7)), (h1, goE ha1 ((n : Nat) : Int) ((d : Nat) : Int) ((c : Nat) : Int)), (ha1 0, aI G 36 (gz 0)), (ha1 1, aI G 7 (gz 1)), (ha1 2, aI G 7 (gz 2)), (ha1 3, aI G 7 (gz 3)), (ha1 4, aI G 7 (gz 4)), (ha1 5, aI G 6 (gz 5)), (ha1 6, aI G 6 (gz 6)), (ha1 7, aI G 8 (gz 7)), (go, goE ga ((n : Nat) : Int) ((d : Nat) : Int) ((c : Nat) : Int)), (ga 0, aI G 36 (gf 0)), (ga 1, aI G 7 (gf 1)), (ga 2, aI G 7 (gf 2)), (ga 3, aI G 7 (gf 3)), (ga 4, aI G 7 (gf 4)), (ga 5, aI G 6 (gf 5)), (ga 6, aI G 6 (gf 6)), (ga 7, aI G 8 (gf 7))]) (rfl) dX6_image_36 ?_
      refine x_iconst 38 rfl dX6_image_37 (z := 1) (by decide) ?_
      refine x_iret rfl ?_ dX6_image_38
      exact ⟨n0, d0, c0, n, d, c, hf0, gz, rfl, rfl, (fun h => by have hq := hi0 h; exact ⟨im_oI hq.1, im_oR hq.1 hq.2⟩), (fun _ => ⟨im_I 1 I, im_R 1 I Rz⟩)⟩
  · have h5 := of_decide_eq_false h5
    refine x_aload_n 9 rfl dX6_image_8 0 rfl ?_
    refine x_bipush 11 rfl dX6_image_9 (z := (-2)) (by decide) ?_
    refine x_bipush 13 rfl dX6_image_11 (z := (-2)) (by decide) ?_
    refine x_callV 16 rfl (c_X6_refuse G wn go sp ia ka tq wh nm ra rf 1 (-2) (-2) (by decide) (by decide) (by decide)) [0, 1] rfl (by decide) 0 rfl rfl gX6_image_X6_refuse rfl rfl rfl hd_X6_refuse ⟨Nat.le_of_ble_eq_true rfl, Nat.le_of_ble_eq_true rfl⟩ (As := [.int (zI (-2)), .int (zI (-2))]) (rest := []) rfl rfl (Nat.le_of_ble_eq_true rfl) dX6_image_13 ⟨Nat.zero_le _, Nat.zero_le _⟩ (fun v w hq => ?_)
    obtain ⟨rfl, rfl⟩ := hq
    refine ⟨rfl, ?_⟩
    refine x_wp (ws' := [(wn, .inr (5, [.ref go, .ref sp, .ref ia, .ref ka, .ref tq, .ref wh, .ref nm, .ref ra])), (ra, aI G 3 (rfC false rf 1)), (ka, aZ G 2 kp), (ia, aO G 2 (imF h0 h1)), (h0, goE ha0 ((n0 : Nat) : Int) ((d0 : Nat) : Int) ((c0 : Nat) : Int)), (ha0 0, aI G 36 (hf0 0)), (ha0 1, aI G 7 (hf0 1)), (ha0 2, aI G 7 (hf0 2)), (ha0 3, aI G 7 (hf0 3)), (ha0 4, aI G 7 (hf0 4)), (ha0 5, aI G 6 (hf0 5)), (ha0 6, aI G 6 (hf0 6)), (ha0 7, aI G 8 (hf0 7)), (h1, goE ha1 ((n1 : Nat) : Int) ((d1 : Nat) : Int) ((c1 : Nat) : Int)), (ha1 0, aI G 36 (hf1 0)), (ha1 1, aI G 7 (hf1 1)), (ha1 2, aI G 7 (hf1 2)), (ha1 3, aI G 7 (hf1 3)), (ha1 4, aI G 7 (hf1 4)), (ha1 5, aI G 6 (hf1 5)), (ha1 6, aI G 6 (hf1 6)), (ha1 7, aI G 8 (hf1 7)), (go, goE ga ((n : Nat) : Int) ((d : Nat) : Int) ((c : Nat) : Int)), (ga 0, aI G 36 (gf 0)), (ga 1, aI G 7 (gf 1)), (ga 2, aI G 7 (gf 2)), (ga 3, aI G 7 (gf 3)), (ga 4, aI G 7 (gf 4)), (ga 5, aI G 6 (gf 5)), (ga 6, aI G 6 (gf 6)), (ga 7, aI G 8 (gf 7))]) rfl ?_
    refine x_iret rfl ?_ dX6_image_16
    have hk : kG i = 1 := by unfold kG; exact if_neg (by omega)
    exact ⟨n0, d0, c0, n1, d1, c1, hf0, hf1, by rw [hk] <;> rfl, by rw [hk] <;> rfl, by rw [hk]; exact ⟨hi0, hi1⟩⟩

abbrev P_X6_from (G : XG) (go : Nat) (ga : Nat → Nat) (b : Nat → Int) (n : Nat) (d : Nat) (c : Nat) (gf : Nat → Nat → Int) (wn : Nat) (sp : Nat) (ia : Nat) (ka : Nat) (tq : Nat) (wh : Nat) (nm : Nat) (ra : Nat) (rf : Nat → Int) (h0 : Nat) (h1 : Nat) (ha0 : Nat → Nat) (ha1 : Nat → Nat) (n0 : Nat) (d0 : Nat) (c0 : Nat) (n1 : Nat) (d1 : Nat) (c1 : Nat) (hf0 : Nat → Nat → Int) (hf1 : Nat → Nat → Int) (kp : Nat → Bool) (im : Nat → Int) (i : Int) : Option Value → va_W → Prop := fun r ws => ∃ n' d' c' : Nat, ∃ gf' : Nat → Nat → Int, r = some (.int (zI (rC (kFr kp i) 1))) ∧ ws = [(wn, .inr (5, [.ref go, .ref sp, .ref ia, .ref ka, .ref tq, .ref wh, .ref nm, .ref ra])), (ra, aI G 3 (rfC false rf (kFr kp i))), (ka, aZ G 2 kp), (ia, aO G 2 (imF h0 h1)), (h0, goE ha0 ((n0 : Nat) : Int) ((d0 : Nat) : Int) ((c0 : Nat) : Int)), (ha0 0, aI G 36 (hf0 0)), (ha0 1, aI G 7 (hf0 1)), (ha0 2, aI G 7 (hf0 2)), (ha0 3, aI G 7 (hf0 3)), (ha0 4, aI G 7 (hf0 4)), (ha0 5, aI G 6 (hf0 5)), (ha0 6, aI G 6 (hf0 6)), (ha0 7, aI G 8 (hf0 7)), (h1, goE ha1 ((n1 : Nat) : Int) ((d1 : Nat) : Int) ((c1 : Nat) : Int)), (ha1 0, aI G 36 (hf1 0)), (ha1 1, aI G 7 (hf1 1)), (ha1 2, aI G 7 (hf1 2)), (ha1 3, aI G 7 (hf1 3)), (ha1 4, aI G 7 (hf1 4)), (ha1 5, aI G 6 (hf1 5)), (ha1 6, aI G 6 (hf1 6)), (ha1 7, aI G 8 (hf1 7)), (go, goE ga ((n' : Nat) : Int) ((d' : Nat) : Int) ((c' : Nat) : Int)), (ga 0, aI G 36 (gf' 0)), (ga 1, aI G 7 (gf' 1)), (ga 2, aI G 7 (gf' 2)), (ga 3, aI G 7 (gf' 3)), (ga 4, aI G 7 (gf' 4)), (ga 5, aI G 6 (gf' 5)), (ga 6, aI G 6 (gf' 6)), (ga 7, aI G 8 (gf' 7))] ∧ Inv (if kFr kp i = 0 then bFr im i.toNat else b) n' d' c' ∧ GR (if kFr kp i = 0 then bFr im i.toNat else b) n' d' c' gf'
abbrev W_X6_from (G : XG) (E : XE) (go : Nat) (ga : Nat → Nat) (b : Nat → Int) (n : Nat) (d : Nat) (c : Nat) (gf : Nat → Nat → Int) (wn : Nat) (sp : Nat) (ia : Nat) (ka : Nat) (tq : Nat) (wh : Nat) (nm : Nat) (ra : Nat) (rf : Nat → Int) (h0 : Nat) (h1 : Nat) (ha0 : Nat → Nat) (ha1 : Nat → Nat) (n0 : Nat) (d0 : Nat) (c0 : Nat) (n1 : Nat) (d1 : Nat) (c1 : Nat) (hf0 : Nat → Nat → Int) (hf1 : Nat → Nat → Int) (kp : Nat → Bool) (im : Nat → Int) (i : Int) (pc : Nat) (lv : List (Nat × Value)) (st : List Value) (ws : va_W) : Prop := Wx G E (rmL 2) cX6_from 2 RX6 wsX6_from (some .int) "from" 0 0 (P_X6_from G go ga b n d c gf wn sp ia ka tq wh nm ra rf h0 h1 ha0 ha1 n0 d0 c0 n1 d1 c1 hf0 hf1 kp im i) 0 0 pc lv st ws
theorem flX6_from_10 : Cond.fieldLink RX6 10 (TX6 0).1 (TX6 0).2.1 (TX6 0).2.2.1 ∈ wsX6_from := by decide +kernel
theorem flX6_from_19 : Cond.fieldLink RX6 19 (TX6 2).1 (TX6 2).2.1 (TX6 2).2.2.1 ∈ wsX6_from := by decide +kernel
theorem flX6_from_23 : Cond.fieldLink RX6 23 (TX6 3).1 (TX6 3).2.1 (TX6 3).2.2.1 ∈ wsX6_from := by decide +kernel
theorem inX6_from_X6 : ∀ w ∈ u_ws RX6 TX6 8, w ∈ wsX6_from := fun _ h => List.mem_cons_of_mem _ (List.mem_append_left _ (List.mem_append_right _ h))
set_option maxHeartbeats 4000000 in
set_option maxRecDepth 100000 in
/-- from -/
theorem c_X6_from (G : XG) (go : Nat) (ga : Nat → Nat) (b : Nat → Int) (n d c : Nat) (gf : Nat → Nat → Int) (I : Inv b n d c) (R : GR b n d c gf) (wn sp ia ka tq wh nm ra : Nat) (rf : Nat → Int) (h0 h1 : Nat) (ha0 ha1 : Nat → Nat) (n0 d0 c0 n1 d1 c1 : Nat) (hf0 hf1 : Nat → Nat → Int) (kp : Nat → Bool) (im : Nat → Int) (hi0 : kp 0 = true → Inv (bFr im 0) n0 d0 c0 ∧ GR (bFr im 0) n0 d0 c0 hf0) (hi1 : kp 1 = true → Inv (bFr im 1) n1 d1 c1 ∧ GR (bFr im 1) n1 d1 c1 hf1) (i : Int) (h1' : Z32 i) : Con G yX6_from wsX6_from (rmL 2) 0 0 [.ref wn, .int (zI i)] ([(wn, .inr (5, [.ref go, .ref sp, .ref ia, .ref ka, .ref tq, .ref wh, .ref nm, .ref ra])), (ra, aI G 3 rf), (ka, aZ G 2 kp), (ia, aO G 2 (imF h0 h1)), (h0, goE ha0 ((n0 : Nat) : Int) ((d0 : Nat) : Int) ((c0 : Nat) : Int)), (ha0 0, aI G 36 (hf0 0)), (ha0 1, aI G 7 (hf0 1)), (ha0 2, aI G 7 (hf0 2)), (ha0 3, aI G 7 (hf0 3)), (ha0 4, aI G 7 (hf0 4)), (ha0 5, aI G 6 (hf0 5)), (ha0 6, aI G 6 (hf0 6)), (ha0 7, aI G 8 (hf0 7)), (h1, goE ha1 ((n1 : Nat) : Int) ((d1 : Nat) : Int) ((c1 : Nat) : Int)), (ha1 0, aI G 36 (hf1 0)), (ha1 1, aI G 7 (hf1 1)), (ha1 2, aI G 7 (hf1 2)), (ha1 3, aI G 7 (hf1 3)), (ha1 4, aI G 7 (hf1 4)), (ha1 5, aI G 6 (hf1 5)), (ha1 6, aI G 6 (hf1 6)), (ha1 7, aI G 8 (hf1 7)), (go, goE ga ((n : Nat) : Int) ((d : Nat) : Int) ((c : Nat) : Int)), (ga 0, aI G 36 (gf 0)), (ga 1, aI G 7 (gf 1)), (ga 2, aI G 7 (gf 2)), (ga 3, aI G 7 (gf 3)), (ga 4, aI G 7 (gf 4)), (ga 5, aI G 6 (gf 5)), (ga 6, aI G 6 (gf 6)), (ga 7, aI G 8 (gf 7))]) (P_X6_from G go ga b n d c gf wn sp ia ka tq wh nm ra rf h0 h1 ha0 ha1 n0 d0 c0 n1 d1 c1 hf0 hf1 kp im i) := by
  refine x_start (cc := cX6_from) (nL := 2) (ret := (some .int)) (by decide) rfl (Nat.le_of_ble_eq_true rfl) (fun E => ?_)
  show W_X6_from G E go ga b n d c gf wn sp ia ka tq wh nm ra rf h0 h1 ha0 ha1 n0 d0 c0 n1 d1 c1 hf0 hf1 kp im i 0 [(0, .ref wn), (1, .int (zI i))] [] ([(wn, .inr (5, [.ref go, .ref sp, .ref ia, .ref ka, .ref tq, .ref wh, .ref nm, .ref ra])), (ra, aI G 3 rf), (ka, aZ G 2 kp), (ia, aO G 2 (imF h0 h1)), (h0, goE ha0 ((n0 : Nat) : Int) ((d0 : Nat) : Int) ((c0 : Nat) : Int)), (ha0 0, aI G 36 (hf0 0)), (ha0 1, aI G 7 (hf0 1)), (ha0 2, aI G 7 (hf0 2)), (ha0 3, aI G 7 (hf0 3)), (ha0 4, aI G 7 (hf0 4)), (ha0 5, aI G 6 (hf0 5)), (ha0 6, aI G 6 (hf0 6)), (ha0 7, aI G 8 (hf0 7)), (h1, goE ha1 ((n1 : Nat) : Int) ((d1 : Nat) : Int) ((c1 : Nat) : Int)), (ha1 0, aI G 36 (hf1 0)), (ha1 1, aI G 7 (hf1 1)), (ha1 2, aI G 7 (hf1 2)), (ha1 3, aI G 7 (hf1 3)), (ha1 4, aI G 7 (hf1 4)), (ha1 5, aI G 6 (hf1 5)), (ha1 6, aI G 6 (hf1 6)), (ha1 7, aI G 8 (hf1 7)), (go, goE ga ((n : Nat) : Int) ((d : Nat) : Int) ((c : Nat) : Int)), (ga 0, aI G 36 (gf 0)), (ga 1, aI G 7 (gf 1)), (ga 2, aI G 7 (gf 2)), (ga 3, aI G 7 (gf 3)), (ga 4, aI G 7 (gf 4)), (ga 5, aI G 6 (gf 5)), (ga 6, aI G 6 (gf 6)), (ga 7, aI G 8 (gf 7))])
  have hn7 := I.n7
  have hd6 := I.d6
  have hc8 := I.c8
  refine x_iload_n 1 rfl dX6_from_0 1 rfl ?_
  refine x_iconst 2 rfl dX6_from_1 (z := 2) (by decide) ?_
  refine x_callS0 5 rfl (c_X6_isBelow G i 2 (by omega) (by omega)) (fun _ _ h => h.2) gX6_from_X6_isBelow rfl rfl rfl hd_X6_isBelow ⟨Nat.le_of_ble_eq_true rfl, Nat.le_of_ble_eq_true rfl⟩ (As := [.int (zI i), .int (zI 2)]) (rest := []) rfl rfl (Nat.le_of_ble_eq_true rfl) dX6_from_2 ⟨Nat.zero_le _, Nat.zero_le _⟩ (fun v hq => ?_)
  obtain ⟨rfl, -⟩ := hq
  refine x_bif_ne 8 rfl (tgt := 17) dX6_from_5 (by decide) (fun h5 => ?_) (fun h5 => ?_)
  · have h5 := of_decide_eq_true h5
    rcases (by omega : i = 0 ∨ i = 1) with rfl | rfl
    · skip
      refine x_aload_n 18 rfl dX6_from_17 0 rfl ?_
      refine x_get 21 rfl (v := .ref ka) 0 3 rfl rfl (by decide) inX6_from_X6 flX6_from_23 rfl dX6_from_18 ?_
      refine x_iload_n 22 rfl dX6_from_21 1 rfl ?_
      refine x_zald 23 rfl 2 0 rfl (⟨by omega, by omega⟩) (by decide) (v := kp 0) (rfl) dX6_from_22 ?_
      refine x_bif_ne 26 rfl (tgt := 35) dX6_from_23 (by decide) (fun h23 => ?_) (fun h23 => ?_)
      · skip
        have hkp : kp 0 = true := h23
        refine x_aload_n 36 rfl dX6_from_35 0 rfl ?_
        refine x_get 39 rfl (v := .ref go) 0 0 rfl rfl (by decide) inX6_from_X6 flX6_from_10 rfl dX6_from_36 ?_
        refine x_aload_n 40 rfl dX6_from_39 0 rfl ?_
        refine x_get 43 rfl (v := .ref ia) 0 2 rfl rfl (by decide) inX6_from_X6 flX6_from_19 rfl dX6_from_40 ?_
        refine x_iload_n 44 rfl dX6_from_43 1 rfl ?_
        refine x_aaldO 45 rfl 3 0 rfl (⟨by omega, by omega⟩) (by decide) (rfl) dX6_from_44 ?_
        refine x_callV 48 rfl (c_X0_become G go h0 ga ha0 (bFr im 0) n0 d0 c0 n d c gf hf0 (hi0 hkp).1 (hi0 hkp).2) [22, 23, 24, 25, 26, 27, 28, 29, 30, 4, 5, 6, 7, 8, 9, 10, 11, 12] rfl (by decide) 22 rfl rfl gX6_from_X0_become rfl rfl rfl hd_X0_become ⟨Nat.le_of_ble_eq_true rfl, Nat.le_of_ble_eq_true rfl⟩ (As := [.ref h0]) (rest := []) rfl rfl (Nat.le_of_ble_eq_true rfl) dX6_from_45 ⟨Nat.zero_le _, Nat.zero_le _⟩ (fun v w hq => ?_)
        obtain ⟨gz, rfl, rfl, Rz⟩ := hq
        refine ⟨rfl, ?_⟩
        refine x_wp (ws' := [(wn, .inr (5, [.ref go, .ref sp, .ref ia, .ref ka, .ref tq, .ref wh, .ref nm, .ref ra])), (ra, aI G 3 rf), (ka, aZ G 2 kp), (ia, aO G 2 (imF h0 h1)), (h0, goE ha0 ((n0 : Nat) : Int) ((d0 : Nat) : Int) ((c0 : Nat) : Int)), (ha0 0, aI G 36 (hf0 0)), (ha0 1, aI G 7 (hf0 1)), (ha0 2, aI G 7 (hf0 2)), (ha0 3, aI G 7 (hf0 3)), (ha0 4, aI G 7 (hf0 4)), (ha0 5, aI G 6 (hf0 5)), (ha0 6, aI G 6 (hf0 6)), (ha0 7, aI G 8 (hf0 7)), (h1, goE ha1 ((n1 : Nat) : Int) ((d1 : Nat) : Int) ((c1 : Nat) : Int)), (ha1 0, aI G 36 (hf1 0)), (ha1 1, aI G 7 (hf1 1)), (ha1 2, aI G 7 (hf1 2)), (ha1 3, aI G 7 (hf1 3)), (ha1 4, aI G 7 (hf1 4)), (ha1 5, aI G 6 (hf1 5)), (ha1 6, aI G 6 (hf1 6)), (ha1 7, aI G 8 (hf1 7)), (go, goE ga ((n0 : Nat) : Int) ((d0 : Nat) : Int) ((c0 : Nat) : Int)), (ga 0, aI G 36 (gz 0)), (ga 1, aI G 7 (gz 1)), (ga 2, aI G 7 (gz 2)), (ga 3, aI G 7 (gz 3)), (ga 4, aI G 7 (gz 4)), (ga 5, aI G 6 (gz 5)), (ga 6, aI G 6 (gz 6)), (ga 7, aI G 8 (gz 7))]) rfl ?_
        refine x_iconst 49 rfl dX6_from_48 (z := 1) (by decide) ?_
        refine x_iret rfl ?_ dX6_from_49
        have hk : kFr kp 0 = 0 := by unfold kFr; rw [if_pos (by omega)]; exact if_pos hkp
        exact ⟨n0, d0, c0, gz, by rw [hk] <;> rfl, by rw [hk] <;> rfl, by rw [hk]; exact (hi0 hkp).1, by rw [hk]; exact Rz⟩
      · skip
        have hkp : kp 0 = false := h23
        refine x_aload_n 27 rfl dX6_from_26 0 rfl ?_
        refine x_bipush 29 rfl dX6_from_27 (z := (-3)) (by decide) ?_
        refine x_bipush 31 rfl dX6_from_29 (z := (-3)) (by decide) ?_
        refine x_callV 34 rfl (c_X6_refuse G wn go sp ia ka tq wh nm ra rf 2 (-3) (-3) (by decide) (by decide) (by decide)) [0, 1] rfl (by decide) 0 rfl rfl gX6_from_X6_refuse rfl rfl rfl hd_X6_refuse ⟨Nat.le_of_ble_eq_true rfl, Nat.le_of_ble_eq_true rfl⟩ (As := [.int (zI (-3)), .int (zI (-3))]) (rest := []) rfl rfl (Nat.le_of_ble_eq_true rfl) dX6_from_31 ⟨Nat.zero_le _, Nat.zero_le _⟩ (fun v w hq => ?_)
        obtain ⟨rfl, rfl⟩ := hq
        refine ⟨rfl, ?_⟩
        refine x_wp (ws' := [(wn, .inr (5, [.ref go, .ref sp, .ref ia, .ref ka, .ref tq, .ref wh, .ref nm, .ref ra])), (ra, aI G 3 (rfC false rf 2)), (ka, aZ G 2 kp), (ia, aO G 2 (imF h0 h1)), (h0, goE ha0 ((n0 : Nat) : Int) ((d0 : Nat) : Int) ((c0 : Nat) : Int)), (ha0 0, aI G 36 (hf0 0)), (ha0 1, aI G 7 (hf0 1)), (ha0 2, aI G 7 (hf0 2)), (ha0 3, aI G 7 (hf0 3)), (ha0 4, aI G 7 (hf0 4)), (ha0 5, aI G 6 (hf0 5)), (ha0 6, aI G 6 (hf0 6)), (ha0 7, aI G 8 (hf0 7)), (h1, goE ha1 ((n1 : Nat) : Int) ((d1 : Nat) : Int) ((c1 : Nat) : Int)), (ha1 0, aI G 36 (hf1 0)), (ha1 1, aI G 7 (hf1 1)), (ha1 2, aI G 7 (hf1 2)), (ha1 3, aI G 7 (hf1 3)), (ha1 4, aI G 7 (hf1 4)), (ha1 5, aI G 6 (hf1 5)), (ha1 6, aI G 6 (hf1 6)), (ha1 7, aI G 8 (hf1 7)), (go, goE ga ((n : Nat) : Int) ((d : Nat) : Int) ((c : Nat) : Int)), (ga 0, aI G 36 (gf 0)), (ga 1, aI G 7 (gf 1)), (ga 2, aI G 7 (gf 2)), (ga 3, aI G 7 (gf 3)), (ga 4, aI G 7 (gf 4)), (ga 5, aI G 6 (gf 5)), (ga 6, aI G 6 (gf 6)), (ga 7, aI G 8 (gf 7))]) rfl ?_
        refine x_iret rfl ?_ dX6_from_34
        have hk : kFr kp 0 = 2 := by unfold kFr; rw [if_pos (by omega)]; exact if_neg (fun hh => by rw [show kp (Int.toNat 0) = kp 0 from rfl, hkp] at hh; cases hh)
        exact ⟨n, d, c, gf, by rw [hk] <;> rfl, by rw [hk] <;> rfl, by rw [hk]; exact I, by rw [hk]; exact R⟩
    · skip
      refine x_aload_n 18 rfl dX6_from_17 0 rfl ?_
      refine x_get 21 rfl (v := .ref ka) 0 3 rfl rfl (by decide) inX6_from_X6 flX6_from_23 rfl dX6_from_18 ?_
      refine x_iload_n 22 rfl dX6_from_21 1 rfl ?_
      refine x_zald 23 rfl 2 1 rfl (⟨by omega, by omega⟩) (by decide) (v := kp 1) (rfl) dX6_from_22 ?_
      refine x_bif_ne 26 rfl (tgt := 35) dX6_from_23 (by decide) (fun h23 => ?_) (fun h23 => ?_)
      · skip
        have hkp : kp 1 = true := h23
        refine x_aload_n 36 rfl dX6_from_35 0 rfl ?_
        refine x_get 39 rfl (v := .ref go) 0 0 rfl rfl (by decide) inX6_from_X6 flX6_from_10 rfl dX6_from_36 ?_
        refine x_aload_n 40 rfl dX6_from_39 0 rfl ?_
        refine x_get 43 rfl (v := .ref ia) 0 2 rfl rfl (by decide) inX6_from_X6 flX6_from_19 rfl dX6_from_40 ?_
        refine x_iload_n 44 rfl dX6_from_43 1 rfl ?_
        refine x_aaldO 45 rfl 3 1 rfl (⟨by omega, by omega⟩) (by decide) (rfl) dX6_from_44 ?_
        refine x_callV 48 rfl (c_X0_become G go h1 ga ha1 (bFr im 1) n1 d1 c1 n d c gf hf1 (hi1 hkp).1 (hi1 hkp).2) [22, 23, 24, 25, 26, 27, 28, 29, 30, 13, 14, 15, 16, 17, 18, 19, 20, 21] rfl (by decide) 22 rfl rfl gX6_from_X0_become rfl rfl rfl hd_X0_become ⟨Nat.le_of_ble_eq_true rfl, Nat.le_of_ble_eq_true rfl⟩ (As := [.ref h1]) (rest := []) rfl rfl (Nat.le_of_ble_eq_true rfl) dX6_from_45 ⟨Nat.zero_le _, Nat.zero_le _⟩ (fun v w hq => ?_)
        obtain ⟨gz, rfl, rfl, Rz⟩ := hq
        refine ⟨rfl, ?_⟩
        refine x_wp (ws' := [(wn, .inr (5, [.ref go, .ref sp, .ref ia, .ref ka, .ref tq, .ref wh, .ref nm, .ref ra])), (ra, aI G 3 rf), (ka, aZ G 2 kp), (ia, aO G 2 (imF h0 h1)), (h0, goE ha0 ((n0 : Nat) : Int) ((d0 : Nat) : Int) ((c0 : Nat) : Int)), (ha0 0, aI G 36 (hf0 0)), (ha0 1, aI G 7 (hf0 1)), (ha0 2, aI G 7 (hf0 2)), (ha0 3, aI G 7 (hf0 3)), (ha0 4, aI G 7 (hf0 4)), (ha0 5, aI G 6 (hf0 5)), (ha0 6, aI G 6 (hf0 6)), (ha0 7, aI G 8 (hf0 7)), (h1, goE ha1 ((n1 : Nat) : Int) ((d1 : Nat) : Int) ((c1 : Nat) : Int)), (ha1 0, aI G 36 (hf1 0)), (ha1 1, aI G 7 (hf1 1)), (ha1 2, aI G 7 (hf1 2)), (ha1 3, aI G 7 (hf1 3)), (ha1 4, aI G 7 (hf1 4)), (ha1 5, aI G 6 (hf1 5)), (ha1 6, aI G 6 (hf1 6)), (ha1 7, aI G 8 (hf1 7)), (go, goE ga ((n1 : Nat) : Int) ((d1 : Nat) : Int) ((c1 : Nat) : Int)), (ga 0, aI G 36 (gz 0)), (ga 1, aI G 7 (gz 1)), (ga 2, aI G 7 (gz 2)), (ga 3, aI G 7 (gz 3)), (ga 4, aI G 7 (gz 4)), (ga 5, aI G 6 (gz 5)), (ga 6, aI G 6 (gz 6)), (ga 7, aI G 8 (gz 7))]) rfl ?_
        refine x_iconst 49 rfl dX6_from_48 (z := 1) (by decide) ?_
        refine x_iret rfl ?_ dX6_from_49
        have hk : kFr kp 1 = 0 := by unfold kFr; rw [if_pos (by omega)]; exact if_pos hkp
        exact ⟨n1, d1, c1, gz, by rw [hk] <;> rfl, by rw [hk] <;> rfl, by rw [hk]; exact (hi1 hkp).1, by rw [hk]; exact Rz⟩
      · skip
        have hkp : kp 1 = false := h23
        refine x_aload_n 27 rfl dX6_from_26 0 rfl ?_
        refine x_bipush 29 rfl dX6_from_27 (z := (-3)) (by decide) ?_
        refine x_bipush 31 rfl dX6_from_29 (z := (-3)) (by decide) ?_
        refine x_callV 34 rfl (c_X6_refuse G wn go sp ia ka tq wh nm ra rf 2 (-3) (-3) (by decide) (by decide) (by decide)) [0, 1] rfl (by decide) 0 rfl rfl gX6_from_X6_refuse rfl rfl rfl hd_X6_refuse ⟨Nat.le_of_ble_eq_true rfl, Nat.le_of_ble_eq_true rfl⟩ (As := [.int (zI (-3)), .int (zI (-3))]) (rest := []) rfl rfl (Nat.le_of_ble_eq_true rfl) dX6_from_31 ⟨Nat.zero_le _, Nat.zero_le _⟩ (fun v w hq => ?_)
        obtain ⟨rfl, rfl⟩ := hq
        refine ⟨rfl, ?_⟩
        refine x_wp (ws' := [(wn, .inr (5, [.ref go, .ref sp, .ref ia, .ref ka, .ref tq, .ref wh, .ref nm, .ref ra])), (ra, aI G 3 (rfC false rf 2)), (ka, aZ G 2 kp), (ia, aO G 2 (imF h0 h1)), (h0, goE ha0 ((n0 : Nat) : Int) ((d0 : Nat) : Int) ((c0 : Nat) : Int)), (ha0 0, aI G 36 (hf0 0)), (ha0 1, aI G 7 (hf0 1)), (ha0 2, aI G 7 (hf0 2)), (ha0 3, aI G 7 (hf0 3)), (ha0 4, aI G 7 (hf0 4)), (ha0 5, aI G 6 (hf0 5)), (ha0 6, aI G 6 (hf0 6)), (ha0 7, aI G 8 (hf0 7)), (h1, goE ha1 ((n1 : Nat) : Int) ((d1 : Nat) : Int) ((c1 : Nat) : Int)), (ha1 0, aI G 36 (hf1 0)), (ha1 1, aI G 7 (hf1 1)), (ha1 2, aI G 7 (hf1 2)), (ha1 3, aI G 7 (hf1 3)), (ha1 4, aI G 7 (hf1 4)), (ha1 5, aI G 6 (hf1 5)), (ha1 6, aI G 6 (hf1 6)), (ha1 7, aI G 8 (hf1 7)), (go, goE ga ((n : Nat) : Int) ((d : Nat) : Int) ((c : Nat) : Int)), (ga 0, aI G 36 (gf 0)), (ga 1, aI G 7 (gf 1)), (ga 2, aI G 7 (gf 2)), (ga 3, aI G 7 (gf 3)), (ga 4, aI G 7 (gf 4)), (ga 5, aI G 6 (gf 5)), (ga 6, aI G 6 (gf 6)), (ga 7, aI G 8 (gf 7))]) rfl ?_
        refine x_iret rfl ?_ dX6_from_34
        have hk : kFr kp 1 = 2 := by unfold kFr; rw [if_pos (by omega)]; exact if_neg (fun hh => by rw [show kp (Int.toNat 1) = kp 1 from rfl, hkp] at hh; cases hh)
        exact ⟨n, d, c, gf, by rw [hk] <;> rfl, by rw [hk] <;> rfl, by rw [hk]; exact I, by rw [hk]; exact R⟩
  · have h5 := of_decide_eq_false h5
    refine x_aload_n 9 rfl dX6_from_8 0 rfl ?_
    refine x_bipush 11 rfl dX6_from_9 (z := (-2)) (by decide) ?_
    refine x_bipush 13 rfl dX6_from_11 (z := (-2)) (by decide) ?_
    refine x_callV 16 rfl (c_X6_refuse G wn go sp ia ka tq wh nm ra rf 1 (-2) (-2) (by decide) (by decide) (by decide)) [0, 1] rfl (by decide) 0 rfl rfl gX6_from_X6_refuse rfl rfl rfl hd_X6_refuse ⟨Nat.le_of_ble_eq_true rfl, Nat.le_of_ble_eq_true rfl⟩ (As := [.int (zI (-2)), .int (zI (-2))]) (rest := []) rfl rfl (Nat.le_of_ble_eq_true rfl) dX6_from_13 ⟨Nat.zero_le _, Nat.zero_le _⟩ (fun v w hq => ?_)
    obtain ⟨rfl, rfl⟩ := hq
    refine ⟨rfl, ?_⟩
    refine x_wp (ws' := [(wn, .inr (5, [.ref go, .ref sp, .ref ia, .ref ka, .ref tq, .ref wh, .ref nm, .ref ra])), (ra, aI G 3 (rfC false rf 1)), (ka, aZ G 2 kp), (ia, aO G 2 (imF h0 h1)), (h0, goE ha0 ((n0 : Nat) : Int) ((d0 : Nat) : Int) ((c0 : Nat) : Int)), (ha0 0, aI G 36 (hf0 0)), (ha0 1, aI G 7 (hf0 1)), (ha0 2, aI G 7 (hf0 2)), (ha0 3, aI G 7 (hf0 3)), (ha0 4, aI G 7 (hf0 4)), (ha0 5, aI G 6 (hf0 5)), (ha0 6, aI G 6 (hf0 6)), (ha0 7, aI G 8 (hf0 7)), (h1, goE ha1 ((n1 : Nat) : Int) ((d1 : Nat) : Int) ((c1 : Nat) : Int)), (ha1 0, aI G 36 (hf1 0)), (ha1 1, aI G 7 (hf1 1)), (ha1 2, aI G 7 (hf1 2)), (ha1 3, aI G 7 (hf1 3)), (ha1 4, aI G 7 (hf1 4)), (ha1 5, aI G 6 (hf1 5)), (ha1 6, aI G 6 (hf1 6)), (ha1 7, aI G 8 (hf1 7)), (go, goE ga ((n : Nat) : Int) ((d : Nat) : Int) ((c : Nat) : Int)), (ga 0, aI G 36 (gf 0)), (ga 1, aI G 7 (gf 1)), (ga 2, aI G 7 (gf 2)), (ga 3, aI G 7 (gf 3)), (ga 4, aI G 7 (gf 4)), (ga 5, aI G 6 (gf 5)), (ga 6, aI G 6 (gf 6)), (ga 7, aI G 8 (gf 7))]) rfl ?_
    refine x_iret rfl ?_ dX6_from_16
    have hk : kFr kp i = 1 := by unfold kFr; exact if_neg (by omega)
    exact ⟨n, d, c, gf, by rw [hk] <;> rfl, by rw [hk] <;> rfl, by rw [hk]; exact I, by rw [hk]; exact R⟩

