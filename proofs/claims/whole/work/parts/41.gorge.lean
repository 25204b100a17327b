theorem hd_X0_isPerson : yX0_isPerson.cls = RX0 ∧ yX0_isPerson.cls ≠ "java/lang/invoke/MethodHandle" ∧ yX0_isPerson.cls ≠ "java/lang/invoke/VarHandle" ∧ (parseMethodDescriptor yX0_isPerson.desc).map (fun d => d.parameters.length) = some 1 := by decide +kernel
theorem hd_X0_tellWind : yX0_tellWind.cls = RX0 ∧ yX0_tellWind.cls ≠ "java/lang/invoke/MethodHandle" ∧ yX0_tellWind.cls ≠ "java/lang/invoke/VarHandle" ∧ (parseMethodDescriptor yX0_tellWind.desc).map (fun d => d.parameters.length) = some 3 := by decide +kernel
theorem hd_X0_tellPerson : yX0_tellPerson.cls = RX0 ∧ yX0_tellPerson.cls ≠ "java/lang/invoke/MethodHandle" ∧ yX0_tellPerson.cls ≠ "java/lang/invoke/VarHandle" ∧ (parseMethodDescriptor yX0_tellPerson.desc).map (fun d => d.parameters.length) = some 4 := by decide +kernel
theorem hd_X0_tellDead : yX0_tellDead.cls = RX0 ∧ yX0_tellDead.cls ≠ "java/lang/invoke/MethodHandle" ∧ yX0_tellDead.cls ≠ "java/lang/invoke/VarHandle" ∧ (parseMethodDescriptor yX0_tellDead.desc).map (fun d => d.parameters.length) = some 2 := by decide +kernel
theorem hd_X0_greatestSharedWind : yX0_greatestSharedWind.cls = RX0 ∧ yX0_greatestSharedWind.cls ≠ "java/lang/invoke/MethodHandle" ∧ yX0_greatestSharedWind.cls ≠ "java/lang/invoke/VarHandle" ∧ (parseMethodDescriptor yX0_greatestSharedWind.desc).map (fun d => d.parameters.length) = some 2 := by decide +kernel
theorem hd_X0_digestOn : yX0_digestOn.cls = RX0 ∧ yX0_digestOn.cls ≠ "java/lang/invoke/MethodHandle" ∧ yX0_digestOn.cls ≠ "java/lang/invoke/VarHandle" ∧ (parseMethodDescriptor yX0_digestOn.desc).map (fun d => d.parameters.length) = some 1 := by decide +kernel
theorem hd_X0_empty : yX0_empty.cls = RX0 ∧ yX0_empty.cls ≠ "java/lang/invoke/MethodHandle" ∧ yX0_empty.cls ≠ "java/lang/invoke/VarHandle" ∧ (parseMethodDescriptor yX0_empty.desc).map (fun d => d.parameters.length) = some 0 := by decide +kernel
theorem hd_X0_become : yX0_become.cls = RX0 ∧ yX0_become.cls ≠ "java/lang/invoke/MethodHandle" ∧ yX0_become.cls ≠ "java/lang/invoke/VarHandle" ∧ (parseMethodDescriptor yX0_become.desc).map (fun d => d.parameters.length) = some 1 := by decide +kernel
abbrev P_X0_isPerson (G : XG) (go : Nat) (ga : Nat → Nat) (b : Nat → Int) (n : Nat) (d : Nat) (c : Nat) (gf : Nat → Nat → Int) (p : Int) : Option Value → va_W → Prop := fun r w => r = some (.int (zB (decide (0 ≤ p ∧ p < (n : Int))))) ∧ w = [(go, goE ga ((n : Nat) : Int) ((d : Nat) : Int) ((c : Nat) : Int)), (ga 0, aI G 36 (gf 0)), (ga 1, aI G 7 (gf 1)), (ga 2, aI G 7 (gf 2)), (ga 3, aI G 7 (gf 3)), (ga 4, aI G 7 (gf 4)), (ga 5, aI G 6 (gf 5)), (ga 6, aI G 6 (gf 6)), (ga 7, aI G 8 (gf 7))]
abbrev W_X0_isPerson (G : XG) (E : XE) (go : Nat) (ga : Nat → Nat) (b : Nat → Int) (n : Nat) (d : Nat) (c : Nat) (gf : Nat → Nat → Int) (p : Int) (pc : Nat) (lv : List (Nat × Value)) (st : List Value) (ws : va_W) : Prop := Wx G E (rmL 1) cX0_isPerson 2 RX0 wsX0_isPerson (some .boolean) "isPerson" 0 0 (P_X0_isPerson G go ga b n d c gf p) 0 0 pc lv st ws
theorem flX0_isPerson_39 : Cond.fieldLink RX0 39 (TX0 0).1 (TX0 0).2.1 (TX0 0).2.2.1 ∈ wsX0_isPerson := by decide +kernel
theorem inX0_isPerson_X0 : ∀ w ∈ u_ws RX0 TX0 11, w ∈ wsX0_isPerson := fun _ h => List.mem_cons_of_mem _ (List.mem_append_right _ h)
theorem wX0_isPerson_inRX6 : Cond.initialized (yX6_isBelow).cls ∈ wsX0_isPerson := by decide +kernel
theorem wX0_isPerson_stX6_isBelow : Cond.static yX6_isBelow ∈ wsX0_isPerson := by decide +kernel
set_option maxHeartbeats 4000000 in
set_option maxRecDepth 100000 in
/-- isPerson -/
theorem c_X0_isPerson (G : XG) (go : Nat) (ga : Nat → Nat) (b : Nat → Int) (n d c : Nat) (gf : Nat → Nat → Int) (I : Inv b n d c) (R : GR b n d c gf) (p : Int) (hp : Z32 p) : Con G yX0_isPerson wsX0_isPerson (rmL 1) 0 0 [.ref go, .int (zI p)] ([(go, goE ga ((n : Nat) : Int) ((d : Nat) : Int) ((c : Nat) : Int)), (ga 0, aI G 36 (gf 0)), (ga 1, aI G 7 (gf 1)), (ga 2, aI G 7 (gf 2)), (ga 3, aI G 7 (gf 3)), (ga 4, aI G 7 (gf 4)), (ga 5, aI G 6 (gf 5)), (ga 6, aI G 6 (gf 6)), (ga 7, aI G 8 (gf 7))]) (P_X0_isPerson G go ga b n d c gf p) := by
  refine x_start (cc := cX0_isPerson) (nL := 2) (ret := (some .boolean)) (by decide) rfl (Nat.le_of_ble_eq_true rfl) (fun E => ?_)
  show W_X0_isPerson G E go ga b n d c gf p 0 [(0, .ref go), (1, .int (zI p))] [] ([(go, goE ga ((n : Nat) : Int) ((d : Nat) : Int) ((c : Nat) : Int)), (ga 0, aI G 36 (gf 0)), (ga 1, aI G 7 (gf 1)), (ga 2, aI G 7 (gf 2)), (ga 3, aI G 7 (gf 3)), (ga 4, aI G 7 (gf 4)), (ga 5, aI G 6 (gf 5)), (ga 6, aI G 6 (gf 6)), (ga 7, aI G 8 (gf 7))])
  have hn7 := I.n7
  have hd6 := I.d6
  have hc8 := I.c8
  refine x_iload_n 1 rfl dX0_isPerson_0 1 rfl ?_
  refine x_aload_n 2 rfl dX0_isPerson_1 0 rfl ?_
  refine x_get 5 rfl (v := .int (zI ((n : Nat) : Int))) 0 0 rfl rfl (by decide) inX0_isPerson_X0 flX0_isPerson_39 rfl dX0_isPerson_2 ?_
  refine x_callSN0 8 rfl (c_X6_isBelow G p ((n : Nat) : Int) (by omega) (by omega)) (fun _ _ h => h.2) gX0_isPerson_X6_isBelow_n55 rfl rfl rfl xn_RX0_55 wX0_isPerson_inRX6 wX0_isPerson_stX6_isBelow hd_X6_isBelow ⟨Nat.le_of_ble_eq_true rfl, Nat.le_of_ble_eq_true rfl⟩ (As := [.int (zI p), .int (zI ((n : Nat) : Int))]) (rest := []) rfl rfl (Nat.le_of_ble_eq_true rfl) dX0_isPerson_5 ⟨Nat.zero_le _, Nat.zero_le _⟩ (fun v hq => ?_)
  obtain ⟨rfl, -⟩ := hq
  refine x_zret rfl ?_ dX0_isPerson_8
  exact ⟨rfl, rfl⟩

abbrev P_X0_greatestSharedWind (G : XG) (go : Nat) (ga : Nat → Nat) (b : Nat → Int) (n : Nat) (d : Nat) (c : Nat) (gf : Nat → Nat → Int) (x : Nat) (y : Nat) : Option Value → va_W → Prop := fun r w => r = some (.int (zI (wdN b x y))) ∧ w = [(go, goE ga ((n : Nat) : Int) ((d : Nat) : Int) ((c : Nat) : Int)), (ga 0, aI G 36 (gf 0)), (ga 1, aI G 7 (gf 1)), (ga 2, aI G 7 (gf 2)), (ga 3, aI G 7 (gf 3)), (ga 4, aI G 7 (gf 4)), (ga 5, aI G 6 (gf 5)), (ga 6, aI G 6 (gf 6)), (ga 7, aI G 8 (gf 7))]
abbrev W_X0_greatestSharedWind (G : XG) (E : XE) (go : Nat) (ga : Nat → Nat) (b : Nat → Int) (n : Nat) (d : Nat) (c : Nat) (gf : Nat → Nat → Int) (x : Nat) (y : Nat) (pc : Nat) (lv : List (Nat × Value)) (st : List Value) (ws : va_W) : Prop := Wx G E (rmL 1) cX0_greatestSharedWind 7 RX0 wsX0_greatestSharedWind (some .int) "greatestSharedWind" 0 0 (P_X0_greatestSharedWind G go ga b n d c gf x y) 0 0 pc lv st ws
theorem flX0_greatestSharedWind_9 : Cond.fieldLink RX0 9 (TX0 3).1 (TX0 3).2.1 (TX0 3).2.2.1 ∈ wsX0_greatestSharedWind := by decide +kernel
theorem flX0_greatestSharedWind_21 : Cond.fieldLink RX0 21 (TX0 6).1 (TX0 6).2.1 (TX0 6).2.2.1 ∈ wsX0_greatestSharedWind := by decide +kernel
theorem inX0_greatestSharedWind_X0 : ∀ w ∈ u_ws RX0 TX0 11, w ∈ wsX0_greatestSharedWind := fun _ h => List.mem_cons_of_mem _ (List.mem_append_right _ h)
theorem wX0_greatestSharedWind_mcmax : Cond.code Lib.Math.max.name Lib.Math.max.code 2 (some .int) ∈ wsX0_greatestSharedWind := by decide +kernel
theorem wX0_greatestSharedWind_mcmin : Cond.code Lib.Math.min.name Lib.Math.min.code 2 (some .int) ∈ wsX0_greatestSharedWind := by decide +kernel
theorem wX0_greatestSharedWind_mi : Cond.initialized "java/lang/Math" ∈ wsX0_greatestSharedWind := by decide +kernel
theorem wX0_greatestSharedWind_ml65 : Cond.methodLink RX0 65 Lib.Math.min.name ∈ wsX0_greatestSharedWind := by decide +kernel
theorem wX0_greatestSharedWind_ml71 : Cond.methodLink RX0 71 Lib.Math.max.name ∈ wsX0_greatestSharedWind := by decide +kernel
theorem wX0_greatestSharedWind_msmax : Cond.static Lib.Math.max.name ∈ wsX0_greatestSharedWind := by decide +kernel
theorem wX0_greatestSharedWind_msmin : Cond.static Lib.Math.min.name ∈ wsX0_greatestSharedWind := by decide +kernel
set_option maxHeartbeats 4000000 in
set_option maxRecDepth 100000 in
/-- greatestSharedWind -/
theorem c_X0_greatestSharedWind (G : XG) (go : Nat) (ga : Nat → Nat) (b : Nat → Int) (n d c : Nat) (gf : Nat → Nat → Int) (I : Inv b n d c) (R : GR b n d c gf) (x y : Nat) (hx : x < n) (hy : y < n) : Con G yX0_greatestSharedWind wsX0_greatestSharedWind (rmL 1) 0 0 [.ref go, .int (zI ((x : Nat) : Int)), .int (zI ((y : Nat) : Int))] ([(go, goE ga ((n : Nat) : Int) ((d : Nat) : Int) ((c : Nat) : Int)), (ga 0, aI G 36 (gf 0)), (ga 1, aI G 7 (gf 1)), (ga 2, aI G 7 (gf 2)), (ga 3, aI G 7 (gf 3)), (ga 4, aI G 7 (gf 4)), (ga 5, aI G 6 (gf 5)), (ga 6, aI G 6 (gf 6)), (ga 7, aI G 8 (gf 7))]) (P_X0_greatestSharedWind G go ga b n d c gf x y) := by
  refine x_start (cc := cX0_greatestSharedWind) (nL := 7) (ret := (some .int)) (by decide) rfl (Nat.le_of_ble_eq_true rfl) (fun E => ?_)
  show W_X0_greatestSharedWind G E go ga b n d c gf x y 0 [(0, .ref go), (1, .int (zI ((x : Nat) : Int))), (2, .int (zI ((y : Nat) : Int)))] [] ([(go, goE ga ((n : Nat) : Int) ((d : Nat) : Int) ((c : Nat) : Int)), (ga 0, aI G 36 (gf 0)), (ga 1, aI G 7 (gf 1)), (ga 2, aI G 7 (gf 2)), (ga 3, aI G 7 (gf 3)), (ga 4, aI G 7 (gf 4)), (ga 5, aI G 6 (gf 5)), (ga 6, aI G 6 (gf 6)), (ga 7, aI G 8 (gf 7))])
  have hn7 := I.n7
  have hd6 := I.d6
  have hc8 := I.c8
  have hpx := I.p hx
  have hpy := I.p hy
  refine x_iconst 1 rfl dX0_greatestSharedWind_0 (z := (-1)) (by decide) ?_
  refine x_istore_n 2 rfl (lv' := [(3, .int (zI (-1))), (0, .ref go), (1, .int (zI ((x : Nat) : Int))), (2, .int (zI ((y : Nat) : Int)))]) dX0_greatestSharedWind_1 (by decide) rfl ?_
  refine x_iconst 3 rfl dX0_greatestSharedWind_2 (z := 0) (by decide) ?_
  refine x_istore 5 rfl (lv' := [(4, .int (zI 0)), (3, .int (zI (-1))), (0, .ref go), (1, .int (zI ((x : Nat) : Int))), (2, .int (zI ((y : Nat) : Int)))]) dX0_greatestSharedWind_3 (by decide) rfl ?_
  have L5 : ∀ (f5 : Nat) (k : Nat) (hk : k ≤ 6), 6 - k < f5 → W_X0_greatestSharedWind G E go ga b n d c gf x y 5 [(0, .ref go), (1, .int (zI ((x : Nat) : Int))), (2, .int (zI ((y : Nat) : Int))), (3, .int (zI (wdF b x y k))), (4, .int (zI ((k : Nat) : Int)))] [] ([(go, goE ga ((n : Nat) : Int) ((d : Nat) : Int) ((c : Nat) : Int)), (ga 0, aI G 36 (gf 0)), (ga 1, aI G 7 (gf 1)), (ga 2, aI G 7 (gf 2)), (ga 3, aI G 7 (gf 3)), (ga 4, aI G 7 (gf 4)), (ga 5, aI G 6 (gf 5)), (ga 6, aI G 6 (gf 6)), (ga 7, aI G 8 (gf 7))]) := by
    intro f5
    induction f5 with
    | zero => intro k hk hf5; exact absurd hf5 (Nat.not_lt_zero _)
    | succ f5 ih5 =>
      intro k hk hf5
      refine x_iload 7 rfl dX0_greatestSharedWind_5 4 rfl ?_
      refine x_bipush 9 rfl dX0_greatestSharedWind_7 (z := 6) (by decide) ?_
      refine x_icmp_ge 12 rfl (tgt := 68) dX0_greatestSharedWind_9 (by decide) (by omega) (by decide) (fun h9 => ?_) (fun h9 => ?_)
      · skip
        refine x_iload_n 69 rfl dX0_greatestSharedWind_68 3 rfl ?_
        refine x_iret rfl ?_ dX0_greatestSharedWind_69
        have e : k = 6 := by omega
        exact ⟨by rw [e]; rfl, rfl⟩
      · skip
        have h1 := upN_r I (p := k) (q := plN b x) (by omega) hpx.2
        have h2 := upN_r I (p := k) (q := plN b y) (by omega) hpy.2
        have h3 := wdF_r I hx hy k (by omega)
        refine x_aload_n 13 rfl dX0_greatestSharedWind_12 0 rfl ?_
        refine x_get 16 rfl (v := .ref (ga 0)) 0 3 rfl rfl (by decide) inX0_greatestSharedWind_X0 flX0_greatestSharedWind_9 rfl dX0_greatestSharedWind_13 ?_
        refine x_iload 18 rfl dX0_greatestSharedWind_16 4 rfl ?_
        refine x_bipush 20 rfl dX0_greatestSharedWind_18 (z := 6) (by decide) ?_
        refine x_imul 21 rfl dX0_greatestSharedWind_20 (z := ((k * 6 : Nat) : Int)) (by omega) ?_
        refine x_aload_n 22 rfl dX0_greatestSharedWind_21 0 rfl ?_
        refine x_get 25 rfl (v := .ref (ga 3)) 0 6 rfl rfl (by decide) inX0_greatestSharedWind_X0 flX0_greatestSharedWind_21 rfl dX0_greatestSharedWind_22 ?_
        refine x_iload_n 26 rfl dX0_greatestSharedWind_25 1 rfl ?_
        refine x_iald 27 rfl 4 x rfl (⟨by omega, by omega⟩) (by decide) (v := ((plN b x : Nat) : Int)) (R.p I hx) dX0_greatestSharedWind_26 ?_
        refine x_iadd 28 rfl dX0_greatestSharedWind_27 (z := ((k * 6 + (plN b x) : Nat) : Int)) (by omega) ?_
        refine x_iald 29 rfl 1 (k * 6 + (plN b x)) rfl (⟨by omega, by omega⟩) (by decide) (v := upN b k (plN b x)) (R.w (by omega) hpx.2) dX0_greatestSharedWind_28 ?_
        refine x_istore 31 rfl (lv' := [(5, .int (zI (upN b k (plN b x)))), (0, .ref go), (1, .int (zI ((x : Nat) : Int))), (2, .int (zI ((y : Nat) : Int))), (3, .int (zI (wdF b x y k))), (4, .int (zI ((k : Nat) : Int)))]) dX0_greatestSharedWind_29 (by decide) rfl ?_
        refine x_aload_n 32 rfl dX0_greatestSharedWind_31 1 rfl ?_
        refine x_get 35 rfl (v := .ref (ga 0)) 0 3 rfl rfl (by decide) inX0_greatestSharedWind_X0 flX0_greatestSharedWind_9 rfl dX0_greatestSharedWind_32 ?_
        refine x_iload 37 rfl dX0_greatestSharedWind_35 5 rfl ?_
        refine x_bipush 39 rfl dX0_greatestSharedWind_37 (z := 6) (by decide) ?_
        refine x_imul 40 rfl dX0_greatestSharedWind_39 (z := ((k * 6 : Nat) : Int)) (by omega) ?_
        refine x_aload_n 41 rfl dX0_greatestSharedWind_40 1 rfl ?_
        refine x_get 44 rfl (v := .ref (ga 3)) 0 6 rfl rfl (by decide) inX0_greatestSharedWind_X0 flX0_greatestSharedWind_21 rfl dX0_greatestSharedWind_41 ?_
        refine x_iload_n 45 rfl dX0_greatestSharedWind_44 3 rfl ?_
        refine x_iald 46 rfl 4 y rfl (⟨by omega, by omega⟩) (by decide) (v := ((plN b y : Nat) : Int)) (R.p I hy) dX0_greatestSharedWind_45 ?_
        refine x_iadd 47 rfl dX0_greatestSharedWind_46 (z := ((k * 6 + (plN b y) : Nat) : Int)) (by omega) ?_
        refine x_iald 48 rfl 1 (k * 6 + (plN b y)) rfl (⟨by omega, by omega⟩) (by decide) (v := upN b k (plN b y)) (R.w (by omega) hpy.2) dX0_greatestSharedWind_47 ?_
        refine x_istore 50 rfl (lv' := [(6, .int (zI (upN b k (plN b y)))), (5, .int (zI (upN b k (plN b x)))), (0, .ref go), (1, .int (zI ((x : Nat) : Int))), (2, .int (zI ((y : Nat) : Int))), (3, .int (zI (wdF b x y k))), (4, .int (zI ((k : Nat) : Int)))]) dX0_greatestSharedWind_48 (by decide) rfl ?_
        refine x_iload_n 51 rfl dX0_greatestSharedWind_50 5 rfl ?_
        refine x_iload 53 rfl dX0_greatestSharedWind_51 1 rfl ?_
        refine x_iload 55 rfl dX0_greatestSharedWind_53 0 rfl ?_
        refine x_mmin 58 rfl (by omega) (by omega) wX0_greatestSharedWind_ml65 wX0_greatestSharedWind_msmin wX0_greatestSharedWind_mi wX0_greatestSharedWind_mcmin (by decide) (Nat.le_of_ble_eq_true rfl) (by decide) (by decide) dX0_greatestSharedWind_55 ?_
        refine x_mmax 61 rfl (by omega) (by omega) wX0_greatestSharedWind_ml71 wX0_greatestSharedWind_msmax wX0_greatestSharedWind_mi wX0_greatestSharedWind_mcmax (by decide) (Nat.le_of_ble_eq_true rfl) (by decide) (by decide) dX0_greatestSharedWind_58 ?_
        refine x_istore_n 62 rfl (lv' := [(3, .int (zI (max (wdF b x y k) (min (upN b k (plN b x)) (upN b k (plN b y)))))), (6, .int (zI (upN b k (plN b y)))), (5, .int (zI (upN b k (plN b x)))), (0, .ref go), (1, .int (zI ((x : Nat) : Int))), (2, .int (zI ((y : Nat) : Int))), (4, .int (zI ((k : Nat) : Int)))]) dX0_greatestSharedWind_61 (by decide) rfl ?_
        refine x_iinc 65 rfl (lv' := [(4, .int (zI ((k + 1 : Nat) : Int))), (3, .int (zI (max (wdF b x y k) (min (upN b k (plN b x)) (upN b k (plN b y)))))), (6, .int (zI (upN b k (plN b y)))), (5, .int (zI (upN b k (plN b x)))), (0, .ref go), (1, .int (zI ((x : Nat) : Int))), (2, .int (zI ((y : Nat) : Int)))]) dX0_greatestSharedWind_62 6 rfl (b := ((k + 1 : Nat) : Int)) (by omega) (by decide) rfl ?_
        refine x_goto dX0_greatestSharedWind_65 (tgt := 5) (by decide) ?_
        refine x_lve (congrArg (fun zz : Int => ([(4, .int (zI ((k + 1 : Nat) : Int))), (3, .int (zI zz)), (6, .int (zI (upN b k (plN b y)))), (5, .int (zI (upN b k (plN b x)))), (0, .ref go), (1, .int (zI ((x : Nat) : Int))), (2, .int (zI ((y : Nat) : Int)))] : List (Nat × Value))) (rfl : max (wdF b x y k) (min (upN b k (plN b x)) (upN b k (plN b y))) = wdF b x y (k + 1))) ?_
        refine x_lv [4, 5, 6, 1, 0] rfl ?_
        exact ih5 (k + 1) (by omega) (by omega)
  refine x_lve (congrArg (fun zz : Int => ([(4, .int (zI 0)), (3, .int (zI zz)), (0, .ref go), (1, .int (zI ((x : Nat) : Int))), (2, .int (zI ((y : Nat) : Int)))] : List (Nat × Value))) (rfl : (-1) = wdF b x y 0)) ?_
  refine x_lv [2, 3, 4, 1, 0] rfl ?_
  exact L5 _ 0 (by omega) (Nat.lt_succ_self _)

theorem GR_bH {b : Nat → Int} {n d c : Nat} {gf : Nat → Nat → Int} (R : GR b n d c gf) {p q : Nat} (w : Int) (hp : p < 6) (hq : q < 6) (h : p ≠ q) : GR (zup b (hIx p q) w) n d c (zup gf 0 (zup (zup (gf 0) (p * 6 + q) w) (q * 6 + p) w)) := by
  have hx := hIx_lt hp hq h
  refine ⟨fun i j hi hj => ?_, fun i hi => ?_, fun i hi => ?_, fun i hi => ?_⟩
  · rw [zup_s, upN_set w hp hq h hi hj]
    by_cases e : (i = p ∧ j = q) ∨ (i = q ∧ j = p)
    · rw [if_pos e]
      rcases e with ⟨rfl, rfl⟩ | ⟨rfl, rfl⟩
      · rw [zup_n _ _ (by omega), zup_s]
      · rw [zup_s]
    · rw [if_neg e, zup_n _ _ (by omega), zup_n _ _ (by omega)]; exact R.1 i j hi hj
  · rw [zup_n gf _ (by decide), zup_n gf _ (by decide), zup_n gf _ (by decide), zup_n gf _ (by decide), zup_n _ _ (by omega), zup_n _ _ (by omega), zup_n _ _ (by omega), zup_n _ _ (by omega)]; exact R.2.1 i hi
  · rw [zup_n gf _ (by decide), zup_n gf _ (by decide), zup_n _ _ (by omega), zup_n _ _ (by omega)]; exact R.2.2.1 i hi
  · rw [zup_n gf _ (by decide), zup_n _ _ (by omega)]; exact R.2.2.2 i hi
abbrev P_X0_tellWind (G : XG) (go : Nat) (ga : Nat → Nat) (b : Nat → Int) (n : Nat) (d : Nat) (c : Nat) (gf : Nat → Nat → Int) (p : Int) (q : Int) (w : Int) : Option Value → va_W → Prop := fun r ws => ∃ gf' : Nat → Nat → Int, r = some (.int (zI (rW b p q w))) ∧ ws = [(go, goE ga ((n : Nat) : Int) ((d : Nat) : Int) ((c : Nat) : Int)), (ga 0, aI G 36 (gf' 0)), (ga 1, aI G 7 (gf' 1)), (ga 2, aI G 7 (gf' 2)), (ga 3, aI G 7 (gf' 3)), (ga 4, aI G 7 (gf' 4)), (ga 5, aI G 6 (gf' 5)), (ga 6, aI G 6 (gf' 6)), (ga 7, aI G 8 (gf' 7))] ∧ GR (bH b p q w) (n) (d) c gf'
abbrev W_X0_tellWind (G : XG) (E : XE) (go : Nat) (ga : Nat → Nat) (b : Nat → Int) (n : Nat) (d : Nat) (c : Nat) (gf : Nat → Nat → Int) (p : Int) (q : Int) (w : Int) (pc : Nat) (lv : List (Nat × Value)) (st : List Value) (ws : va_W) : Prop := Wx G E (rmL 1) cX0_tellWind 5 RX0 wsX0_tellWind (some .int) "tellWind" 0 0 (P_X0_tellWind G go ga b n d c gf p q w) 0 0 pc lv st ws
theorem flX0_tellWind_9 : Cond.fieldLink RX0 9 (TX0 3).1 (TX0 3).2.1 (TX0 3).2.2.1 ∈ wsX0_tellWind := by decide +kernel
theorem inX0_tellWind_X0 : ∀ w ∈ u_ws RX0 TX0 11, w ∈ wsX0_tellWind := fun _ h => List.mem_cons_of_mem _ (List.mem_append_right _ h)
theorem wX0_tellWind_inRX6 : Cond.initialized (yX6_isBelow).cls ∈ wsX0_tellWind := by decide +kernel
theorem wX0_tellWind_stX6_isBelow : Cond.static yX6_isBelow ∈ wsX0_tellWind := by decide +kernel
set_option maxHeartbeats 4000000 in
set_option maxRecDepth 100000 in
/-- tellWind -/
theorem c_X0_tellWind (G : XG) (go : Nat) (ga : Nat → Nat) (b : Nat → Int) (n d c : Nat) (gf : Nat → Nat → Int) (I : Inv b n d c) (R : GR b n d c gf) (p q w : Int) (hp : Z32 p) (hq : Z32 q) (hw : Z32 w) : Con G yX0_tellWind wsX0_tellWind (rmL 1) 0 0 [.ref go, .int (zI p), .int (zI q), .int (zI w)] ([(go, goE ga ((n : Nat) : Int) ((d : Nat) : Int) ((c : Nat) : Int)), (ga 0, aI G 36 (gf 0)), (ga 1, aI G 7 (gf 1)), (ga 2, aI G 7 (gf 2)), (ga 3, aI G 7 (gf 3)), (ga 4, aI G 7 (gf 4)), (ga 5, aI G 6 (gf 5)), (ga 6, aI G 6 (gf 6)), (ga 7, aI G 8 (gf 7))]) (P_X0_tellWind G go ga b n d c gf p q w) := by
  refine x_start (cc := cX0_tellWind) (nL := 5) (ret := (some .int)) (by decide) rfl (Nat.le_of_ble_eq_true rfl) (fun E => ?_)
  show W_X0_tellWind G E go ga b n d c gf p q w 0 [(0, .ref go), (1, .int (zI p)), (2, .int (zI q)), (3, .int (zI w))] [] ([(go, goE ga ((n : Nat) : Int) ((d : Nat) : Int) ((c : Nat) : Int)), (ga 0, aI G 36 (gf 0)), (ga 1, aI G 7 (gf 1)), (ga 2, aI G 7 (gf 2)), (ga 3, aI G 7 (gf 3)), (ga 4, aI G 7 (gf 4)), (ga 5, aI G 6 (gf 5)), (ga 6, aI G 6 (gf 6)), (ga 7, aI G 8 (gf 7))])
  have hn7 := I.n7
  have hd6 := I.d6
  have hc8 := I.c8
  refine x_iload_n 1 rfl dX0_tellWind_0 1 rfl ?_
  refine x_bipush 3 rfl dX0_tellWind_1 (z := 6) (by decide) ?_
  refine x_callSN0 6 rfl (c_X6_isBelow G p 6 (by omega) (by omega)) (fun _ _ h => h.2) gX0_tellWind_X6_isBelow_n55 rfl rfl rfl xn_RX0_55 wX0_tellWind_inRX6 wX0_tellWind_stX6_isBelow hd_X6_isBelow ⟨Nat.le_of_ble_eq_true rfl, Nat.le_of_ble_eq_true rfl⟩ (As := [.int (zI p), .int (zI 6)]) (rest := []) rfl rfl (Nat.le_of_ble_eq_true rfl) dX0_tellWind_3 ⟨Nat.zero_le _, Nat.zero_le _⟩ (fun v hq => ?_)
  obtain ⟨rfl, -⟩ := hq
  refine x_bif_eq 9 rfl (tgt := 23) dX0_tellWind_6 (by decide) (fun h6 => ?_) (fun h6 => ?_)
  · have h6 := of_decide_eq_false h6
    refine x_bipush 25 rfl dX0_tellWind_23 (z := (-2)) (by decide) ?_
    refine x_iret rfl ?_ dX0_tellWind_25
    have hk : kH p q w = 1 := by unfold kH; exact if_neg (by omega)
    exact ⟨gf, by unfold rW; rw [hk]; rfl, rfl, by unfold bH; rw [hk]; exact R⟩
  · have h6 := of_decide_eq_true h6
    refine x_iload_n 10 rfl dX0_tellWind_9 2 rfl ?_
    refine x_bipush 12 rfl dX0_tellWind_10 (z := 6) (by decide) ?_
    refine x_callSN0 15 rfl (c_X6_isBelow G q 6 (by omega) (by omega)) (fun _ _ h => h.2) gX0_tellWind_X6_isBelow_n55 rfl rfl rfl xn_RX0_55 wX0_tellWind_inRX6 wX0_tellWind_stX6_isBelow hd_X6_isBelow ⟨Nat.le_of_ble_eq_true rfl, Nat.le_of_ble_eq_true rfl⟩ (As := [.int (zI q), .int (zI 6)]) (rest := []) rfl rfl (Nat.le_of_ble_eq_true rfl) dX0_tellWind_12 ⟨Nat.zero_le _, Nat.zero_le _⟩ (fun v hq => ?_)
    obtain ⟨rfl, -⟩ := hq
    refine x_bif_eq 18 rfl (tgt := 23) dX0_tellWind_15 (by decide) (fun h15 => ?_) (fun h15 => ?_)
    · have h15 := of_decide_eq_false h15
      refine x_bipush 25 rfl dX0_tellWind_23 (z := (-2)) (by decide) ?_
      refine x_iret rfl ?_ dX0_tellWind_25
      have hk : kH p q w = 1 := by unfold kH; exact if_neg (by omega)
      exact ⟨gf, by unfold rW; rw [hk]; rfl, rfl, by unfold bH; rw [hk]; exact R⟩
    · have h15 := of_decide_eq_true h15
      refine x_iload_n 19 rfl dX0_tellWind_18 1 rfl ?_
      refine x_iload_n 20 rfl dX0_tellWind_19 2 rfl ?_
      refine x_icmp_ne 23 rfl (tgt := 26) dX0_tellWind_20 (by decide) (by omega) (by omega) (fun h20 => ?_) (fun h20 => ?_)
      · skip
        refine x_iload_n 27 rfl dX0_tellWind_26 3 rfl ?_
        refine x_iconst 28 rfl dX0_tellWind_27 (z := (-1)) (by decide) ?_
        refine x_icmp_eq 31 rfl (tgt := 42) dX0_tellWind_28 (by decide) (by omega) (by decide) (fun h28 => ?_) (fun h28 => ?_)
        · skip
          obtain ⟨p, rfl⟩ : ∃ zk : Nat, p = (zk : Int) := ⟨Int.toNat p, by omega⟩
          obtain ⟨q, rfl⟩ : ∃ zk : Nat, q = (zk : Int) := ⟨Int.toNat q, by omega⟩
          refine x_aload_n 43 rfl dX0_tellWind_42 0 rfl ?_
          refine x_get 46 rfl (v := .ref (ga 0)) 0 3 rfl rfl (by decide) inX0_tellWind_X0 flX0_tellWind_9 rfl dX0_tellWind_43 ?_
          refine x_iload_n 47 rfl dX0_tellWind_46 1 rfl ?_
          refine x_bipush 49 rfl dX0_tellWind_47 (z := 6) (by decide) ?_
          refine x_imul 50 rfl dX0_tellWind_49 (z := ((p * 6 : Nat) : Int)) (by omega) ?_
          refine x_iload_n 51 rfl dX0_tellWind_50 2 rfl ?_
          refine x_iadd 52 rfl dX0_tellWind_51 (z := ((p * 6 + q : Nat) : Int)) (by omega) ?_
          refine x_iald 53 rfl 1 (p * 6 + q) rfl (⟨by omega, by omega⟩) (by decide) (v := upN b p q) (R.w (by omega) (by omega)) dX0_tellWind_52 ?_
          refine x_istore 55 rfl (lv' := [(4, .int (zI (upN b p q))), (0, .ref go), (1, .int (zI ((p : Nat) : Int))), (2, .int (zI ((q : Nat) : Int))), (3, .int (zI w))]) dX0_tellWind_53 (by decide) rfl ?_
          refine x_aload_n 56 rfl dX0_tellWind_55 1 rfl ?_
          refine x_get 59 rfl (v := .ref (ga 0)) 0 3 rfl rfl (by decide) inX0_tellWind_X0 flX0_tellWind_9 rfl dX0_tellWind_56 ?_
          refine x_iload_n 60 rfl dX0_tellWind_59 2 rfl ?_
          refine x_bipush 62 rfl dX0_tellWind_60 (z := 6) (by decide) ?_
          refine x_imul 63 rfl dX0_tellWind_62 (z := ((p * 6 : Nat) : Int)) (by omega) ?_
          refine x_iload_n 64 rfl dX0_tellWind_63 3 rfl ?_
          refine x_iadd 65 rfl dX0_tellWind_64 (z := ((p * 6 + q : Nat) : Int)) (by omega) ?_
          refine x_iload_n 66 rfl dX0_tellWind_65 4 rfl ?_
          refine x_iast 67 rfl 1 (p * 6 + q) rfl (⟨by omega, by omega⟩) (by decide) (ws' := [(go, goE ga ((n : Nat) : Int) ((d : Nat) : Int) ((c : Nat) : Int)), (ga 0, aI G 36 (zup (gf 0) (p * 6 + q) w)), (ga 1, aI G 7 (gf 1)), (ga 2, aI G 7 (gf 2)), (ga 3, aI G 7 (gf 3)), (ga 4, aI G 7 (gf 4)), (ga 5, aI G 6 (gf 5)), (ga 6, aI G 6 (gf 6)), (ga 7, aI G 8 (gf 7))]) (rfl) dX0_tellWind_66 ?_
          refine x_aload_n 68 rfl dX0_tellWind_67 1 rfl ?_
          refine x_get 71 rfl (v := .ref (ga 0)) 0 3 rfl rfl (by decide) inX0_tellWind_X0 flX0_tellWind_9 rfl dX0_tellWind_68 ?_
          refine x_iload_n 72 rfl dX0_tellWind_71 3 rfl ?_
          refine x_bipush 74 rfl dX0_tellWind_72 (z := 6) (by decide) ?_
          refine x_imul 75 rfl dX0_tellWind_74 (z := ((q * 6 : Nat) : Int)) (by omega) ?_
          refine x_iload_n 76 rfl dX0_tellWind_75 2 rfl ?_
          refine x_iadd 77 rfl dX0_tellWind_76 (z := ((q * 6 + p : Nat) : Int)) (by omega) ?_
          refine x_iload_n 78 rfl dX0_tellWind_77 4 rfl ?_
          refine x_iast 79 rfl 1 (q * 6 + p) rfl (⟨by omega, by omega⟩) (by decide) (ws' := [(go, goE ga ((n : Nat) : Int) ((d : Nat) : Int) ((c : Nat) : Int)), (ga 0, aI G 36 (zup (zup (gf 0) (p * 6 + q) w) (q * 6 + p) w)), (ga 1, aI G 7 (gf 1)), (ga 2, aI G 7 (gf 2)), (ga 3, aI G 7 (gf 3)), (ga 4, aI G 7 (gf 4)), (ga 5, aI G 6 (gf 5)), (ga 6, aI G 6 (gf 6)), (ga 7, aI G 8 (gf 7))]) (rfl) dX0_tellWind_78 ?_
          refine x_iload 81 rfl dX0_tellWind_79 0 rfl ?_
          refine x_iret rfl ?_ dX0_tellWind_81
          have hk : kH p q w = 0 := by unfold kH; exact if_pos (by omega)
          exact ⟨zup gf 0 (zup (zup (gf 0) (p * 6 + q) w) (q * 6 + p) w), by unfold rW; rw [hk]; rfl, rfl, by unfold bH; rw [hk]; exact GR_bH R w (by omega) (by omega) (by omega)⟩
        · skip
          refine x_iload_n 32 rfl dX0_tellWind_31 3 rfl ?_
          refine x_iconst 33 rfl dX0_tellWind_32 (z := 4) (by decide) ?_
          refine x_callSN0 36 rfl (c_X6_isBelow G w 4 (by omega) (by omega)) (fun _ _ h => h.2) gX0_tellWind_X6_isBelow_n55 rfl rfl rfl xn_RX0_55 wX0_tellWind_inRX6 wX0_tellWind_stX6_isBelow hd_X6_isBelow ⟨Nat.le_of_ble_eq_true rfl, Nat.le_of_ble_eq_true rfl⟩ (As := [.int (zI w), .int (zI 4)]) (rest := []) rfl rfl (Nat.le_of_ble_eq_true rfl) dX0_tellWind_33 ⟨Nat.zero_le _, Nat.zero_le _⟩ (fun v hq => ?_)
          obtain ⟨rfl, -⟩ := hq
          refine x_bif_ne 39 rfl (tgt := 42) dX0_tellWind_36 (by decide) (fun h36 => ?_) (fun h36 => ?_)
          · have h36 := of_decide_eq_true h36
            obtain ⟨p, rfl⟩ : ∃ zk : Nat, p = (zk : Int) := ⟨Int.toNat p, by omega⟩
            obtain ⟨q, rfl⟩ : ∃ zk : Nat, q = (zk : Int) := ⟨Int.toNat q, by omega⟩
            refine x_aload_n 43 rfl dX0_tellWind_42 0 rfl ?_
            refine x_get 46 rfl (v := .ref (ga 0)) 0 3 rfl rfl (by decide) inX0_tellWind_X0 flX0_tellWind_9 rfl dX0_tellWind_43 ?_
            refine x_iload_n 47 rfl dX0_tellWind_46 1 rfl ?_
            refine x_bipush 49 rfl dX0_tellWind_47 (z := 6) (by decide) ?_
            refine x_imul 50 rfl dX0_tellWind_49 (z := ((p * 6 : Nat) : Int)) (by omega) ?_
            refine x_iload_n 51 rfl dX0_tellWind_50 2 rfl ?_
            refine x_iadd 52 rfl dX0_tellWind_51 (z := ((p * 6 + q : Nat) : Int)) (by omega) ?_
            refine x_iald 53 rfl 1 (p * 6 + q) rfl (⟨by omega, by omega⟩) (by decide) (v := upN b p q) (R.w (by omega) (by omega)) dX0_tellWind_52 ?_
            refine x_istore 55 rfl (lv' := [(4, .int (zI (upN b p q))), (0, .ref go), (1, .int (zI ((p : Nat) : Int))), (2, .int (zI ((q : Nat) : Int))), (3, .int (zI w))]) dX0_tellWind_53 (by decide) rfl ?_
            refine x_aload_n 56 rfl dX0_tellWind_55 1 rfl ?_
            refine x_get 59 rfl (v := .ref (ga 0)) 0 3 rfl rfl (by decide) inX0_tellWind_X0 flX0_tellWind_9 rfl dX0_tellWind_56 ?_
            refine x_iload_n 60 rfl dX0_tellWind_59 2 rfl ?_
            refine x_bipush 62 rfl dX0_tellWind_60 (z := 6) (by decide) ?_
            refine x_imul 63 rfl dX0_tellWind_62 (z := ((p * 6 : Nat) : Int)) (by omega) ?_
            refine x_iload_n 64 rfl dX0_tellWind_63 3 rfl ?_
            refine x_iadd 65 rfl dX0_tellWind_64 (z := ((p * 6 + q : Nat) : Int)) (by omega) ?_
            refine x_iload_n 66 rfl dX0_tellWind_65 4 rfl ?_
            refine x_iast 67 rfl 1 (p * 6 + q) rfl (⟨by omega, by omega⟩) (by decide) (ws' := [(go, goE ga ((n : Nat) : Int) ((d : Nat) : Int) ((c : Nat) : Int)), (ga 0, aI G 36 (zup (gf 0) (p * 6 + q) w)), (ga 1, aI G 7 (gf 1)), (ga 2, aI G 7 (gf 2)), (ga 3, aI G 7 (gf 3)), (ga 4, aI G 7 (gf 4)), (ga 5, aI G 6 (gf 5)), (ga 6, aI G 6 (gf 6)), (ga 7, aI G 8 (gf 7))]) (rfl) dX0_tellWind_66 ?_
            refine x_aload_n 68 rfl dX0_tellWind_67 1 rfl ?_
            refine x_get 71 rfl (v := .ref (ga 0)) 0 3 rfl rfl (by decide) inX0_tellWind_X0 flX0_tellWind_9 rfl dX0_tellWind_68 ?_
            refine x_iload_n 72 rfl dX0_tellWind_71 3 rfl ?_
            refine x_bipush 74 rfl dX0_tellWind_72 (z := 6) (by decide) ?_
            refine x_imul 75 rfl dX0_tellWind_74 (z := ((q * 6 : Nat) : Int)) (by omega) ?_
            refine x_iload_n 76 rfl dX0_tellWind_75 2 rfl ?_
            refine x_iadd 77 rfl dX0_tellWind_76 (z := ((q * 6 + p : Nat) : Int)) (by omega) ?_
            refine x_iload_n 78 rfl dX0_tellWind_77 4 rfl ?_
            refine x_iast 79 rfl 1 (q * 6 + p) rfl (⟨by omega, by omega⟩) (by decide) (ws' := [(go, goE ga ((n : Nat) : Int) ((d : Nat) : Int) ((c : Nat) : Int)), (ga 0, aI G 36 (zup (zup (gf 0) (p * 6 + q) w) (q * 6 + p) w)), (ga 1, aI G 7 (gf 1)), (ga 2, aI G 7 (gf 2)), (ga 3, aI G 7 (gf 3)), (ga 4, aI G 7 (gf 4)), (ga 5, aI G 6 (gf 5)), (ga 6, aI G 6 (gf 6)), (ga 7, aI G 8 (gf 7))]) (rfl) dX0_tellWind_78 ?_
            refine x_iload 81 rfl dX0_tellWind_79 0 rfl ?_
            refine x_iret rfl ?_ dX0_tellWind_81
            have hk : kH p q w = 0 := by unfold kH; exact if_pos (by omega)
            exact ⟨zup gf 0 (zup (zup (gf 0) (p * 6 + q) w) (q * 6 + p) w), by unfold rW; rw [hk]; rfl, rfl, by unfold bH; rw [hk]; exact GR_bH R w (by omega) (by omega) (by omega)⟩
          · have h36 := of_decide_eq_false h36
            refine x_bipush 41 rfl dX0_tellWind_39 (z := (-2)) (by decide) ?_
            refine x_iret rfl ?_ dX0_tellWind_41
            have hk : kH p q w = 1 := by unfold kH; exact if_neg (by omega)
            exact ⟨gf, by unfold rW; rw [hk]; rfl, rfl, by unfold bH; rw [hk]; exact R⟩
      · skip
        refine x_bipush 25 rfl dX0_tellWind_23 (z := (-2)) (by decide) ?_
        refine x_iret rfl ?_ dX0_tellWind_25
        have hk : kH p q w = 1 := by unfold kH; exact if_neg (by omega)
        exact ⟨gf, by unfold rW; rw [hk]; rfl, rfl, by unfold bH; rw [hk]; exact R⟩

theorem GR_bO {b : Nat → Int} {n d c : Nat} {gf : Nat → Nat → Int} (R : GR b n d c gf) (I : Inv b n d c) (h7 : n < 7) (e t p k : Int) : GR (oneB b n e t p k) (n + 1) d c (zup (zup (zup (zup gf 1 (zup (gf 1) n e)) 2 (zup (gf 2) n t)) 3 (zup (gf 3) n p)) 4 (zup (gf 4) n k)) := by
  have hd6 := I.d6; have hc8 := I.c8
  refine ⟨fun i j hi hj => ?_, fun i hi => ?_, fun i hi => ?_, fun i hi => ?_⟩
  · rw [zup_n _ _ (by decide), zup_n _ _ (by decide), zup_n _ _ (by decide), zup_n _ _ (by decide), R.1 i j hi hj]
    refine (upN_far (fun q hq => ?_) hi hj).symm
    unfold oneB; rw [zup_n _ _ (by omega), zup_n _ _ (by omega), zup_n _ _ (by omega), zup_n _ _ (by omega), zup_n _ _ (by omega)]
  · show zup (gf 1) n e i = _ ∧ zup (gf 2) n t i = _ ∧ zup (gf 3) n p i = _ ∧ zup (gf 4) n k i = _
    by_cases h : i = n
    · subst h
      rw [zup_s, zup_s, zup_s, zup_s]
      unfold oneB
      refine ⟨?_, ?_, ?_, ?_⟩
      · rw [zup_n _ _ (by omega), zup_n _ _ (by omega), zup_n _ _ (by omega), zup_n _ _ (by omega)]; exact (zup_s _ _ _).symm
      · rw [zup_n _ _ (by omega), zup_n _ _ (by omega), zup_n _ _ (by omega)]; exact (zup_s _ _ _).symm
      · rw [zup_n _ _ (by omega), zup_n _ _ (by omega)]; exact (zup_s _ _ _).symm
      · rw [zup_n _ _ (by omega)]; exact (zup_s _ _ _).symm
    · have hi2 : i < n := by omega
      have hr := R.2.1 i hi2
      have far : ∀ q, q < 4 → oneB b n e t p k (18 + 4 * i + q) = b (18 + 4 * i + q) := fun q hq => by
        unfold oneB; rw [zup_n _ _ (by omega), zup_n _ _ (by omega), zup_n _ _ (by omega), zup_n _ _ (by omega), zup_n _ _ (by omega)]
      rw [zup_n _ _ h, zup_n _ _ h, zup_n _ _ h, zup_n _ _ h, far 0 (by decide), far 1 (by decide), far 2 (by decide), far 3 (by decide)]
      exact hr
  · have far : ∀ q, 46 ≤ q → oneB b n e t p k q = b q := fun q hq => by
      unfold oneB; rw [zup_n _ _ (by omega), zup_n _ _ (by omega), zup_n _ _ (by omega), zup_n _ _ (by omega), zup_n _ _ (by omega)]
    rw [zup_n _ _ (by decide), zup_n _ _ (by decide), zup_n _ _ (by decide), zup_n _ _ (by decide), zup_n _ _ (by decide), zup_n _ _ (by decide), zup_n _ _ (by decide), zup_n _ _ (by decide), far _ (by omega), far _ (by omega)]
    exact R.2.2.1 i hi
  · have far : ∀ q, 46 ≤ q → oneB b n e t p k q = b q := fun q hq => by
      unfold oneB; rw [zup_n _ _ (by omega), zup_n _ _ (by omega), zup_n _ _ (by omega), zup_n _ _ (by omega), zup_n _ _ (by omega)]
    rw [zup_n _ _ (by decide), zup_n _ _ (by decide), zup_n _ _ (by decide), zup_n _ _ (by decide), far _ (by omega)]
    exact R.2.2.2 i hi
theorem GR_bD {b : Nat → Int} {n d c : Nat} {gf : Nat → Nat → Int} (R : GR b n d c gf) (I : Inv b n d c) (h6 : d < 6) (t y : Int) : GR (deadB b d t y) n (d + 1) c (zup (zup gf 5 (zup (gf 5) d t)) 6 (zup (gf 6) d y)) := by
  have hn7 := I.n7; have hc8 := I.c8
  have far : ∀ q, q < 46 → q ≠ 16 → deadB b d t y q = b q := fun q hq h16 => by
    unfold deadB; rw [zup_n _ _ (by omega), zup_n _ _ (by omega), zup_n _ _ (by omega)]
  refine ⟨fun i j hi hj => ?_, fun i hi => ?_, fun i hi => ?_, fun i hi => ?_⟩
  · rw [zup_n _ _ (by decide), zup_n _ _ (by decide), R.1 i j hi hj]
    exact (upN_far (fun q hq => far q (by omega) (by omega)) hi hj).symm
  · rw [zup_n _ _ (by decide), zup_n _ _ (by decide), zup_n _ _ (by decide), zup_n _ _ (by decide), zup_n _ _ (by decide), zup_n _ _ (by decide), zup_n _ _ (by decide), zup_n _ _ (by decide), far _ (by omega) (by omega), far _ (by omega) (by omega), far _ (by omega) (by omega), far _ (by omega) (by omega)]
    exact R.2.1 i hi
  · show zup (gf 5) d t i = _ ∧ zup (gf 6) d y i = _
    by_cases h : i = d
    · subst h
      rw [zup_s, zup_s]
      unfold deadB
      refine ⟨?_, ?_⟩
      · rw [zup_n _ _ (by omega), zup_n _ _ (by omega)]; exact (zup_s _ _ _).symm
      · rw [zup_n _ _ (by omega)]; exact (zup_s _ _ _).symm
    · have hr := R.2.2.1 i (by omega)
      unfold deadB
      rw [zup_n _ _ h, zup_n _ _ h, zup_n _ _ (by omega), zup_n _ _ (by omega), zup_n _ _ (by omega), zup_n _ _ (by omega), zup_n _ _ (by omega), zup_n _ _ (by omega)]
      exact hr
  · rw [zup_n _ _ (by decide), zup_n _ _ (by decide)]
    unfold deadB
    rw [zup_n _ _ (by omega), zup_n _ _ (by omega), zup_n _ _ (by omega)]
    exact R.2.2.2 i hi
abbrev P_X0_tellPerson (G : XG) (go : Nat) (ga : Nat → Nat) (b : Nat → Int) (n : Nat) (d : Nat) (c : Nat) (gf : Nat → Nat → Int) (ear : Int) (tune : Int) (place : Int) (kin : Int) : Option Value → va_W → Prop := fun r ws => ∃ gf' : Nat → Nat → Int, r = some (.int (zI (rC (kO n ear tune place kin) ((n : Nat) : Int)))) ∧ ws = [(go, goE ga ((if kO n ear tune place kin = 0 then n + 1 else n : Nat) : Int) ((d : Nat) : Int) ((c : Nat) : Int)), (ga 0, aI G 36 (gf' 0)), (ga 1, aI G 7 (gf' 1)), (ga 2, aI G 7 (gf' 2)), (ga 3, aI G 7 (gf' 3)), (ga 4, aI G 7 (gf' 4)), (ga 5, aI G 6 (gf' 5)), (ga 6, aI G 6 (gf' 6)), (ga 7, aI G 8 (gf' 7))] ∧ GR (bO b n ear tune place kin) (if kO n ear tune place kin = 0 then n + 1 else n) (d) c gf'
abbrev W_X0_tellPerson (G : XG) (E : XE) (go : Nat) (ga : Nat → Nat) (b : Nat → Int) (n : Nat) (d : Nat) (c : Nat) (gf : Nat → Nat → Int) (ear : Int) (tune : Int) (place : Int) (kin : Int) (pc : Nat) (lv : List (Nat × Value)) (st : List Value) (ws : va_W) : Prop := Wx G E (rmL 2) cX0_tellPerson 5 RX0 wsX0_tellPerson (some .int) "tellPerson" 0 0 (P_X0_tellPerson G go ga b n d c gf ear tune place kin) 0 0 pc lv st ws
theorem flX0_tellPerson_15 : Cond.fieldLink RX0 15 (TX0 4).1 (TX0 4).2.1 (TX0 4).2.2.1 ∈ wsX0_tellPerson := by decide +kernel
theorem flX0_tellPerson_18 : Cond.fieldLink RX0 18 (TX0 5).1 (TX0 5).2.1 (TX0 5).2.2.1 ∈ wsX0_tellPerson := by decide +kernel
theorem flX0_tellPerson_21 : Cond.fieldLink RX0 21 (TX0 6).1 (TX0 6).2.1 (TX0 6).2.2.1 ∈ wsX0_tellPerson := by decide +kernel
theorem flX0_tellPerson_24 : Cond.fieldLink RX0 24 (TX0 7).1 (TX0 7).2.1 (TX0 7).2.2.1 ∈ wsX0_tellPerson := by decide +kernel
theorem flX0_tellPerson_39 : Cond.fieldLink RX0 39 (TX0 0).1 (TX0 0).2.1 (TX0 0).2.2.1 ∈ wsX0_tellPerson := by decide +kernel
theorem inX0_tellPerson_X0 : ∀ w ∈ u_ws RX0 TX0 11, w ∈ wsX0_tellPerson := fun _ h => List.mem_cons_of_mem _ (List.mem_append_right _ h)
theorem wX0_tellPerson_inRX6 : Cond.initialized (yX6_isBelow).cls ∈ wsX0_tellPerson := by decide +kernel
theorem wX0_tellPerson_stX6_isBelow : Cond.static yX6_isBelow ∈ wsX0_tellPerson := by decide +kernel
set_option maxHeartbeats 4000000 in
set_option maxRecDepth 100000 in
/-- tellPerson -/
theorem c_X0_tellPerson (G : XG) (go : Nat) (ga : Nat → Nat) (b : Nat → Int) (n d c : Nat) (gf : Nat → Nat → Int) (I : Inv b n d c) (R : GR b n d c gf) (ear tune place kin : Int) (h1 : Z32 ear) (h2 : Z32 tune) (h3 : Z32 place) (h4 : Z32 kin) : Con G yX0_tellPerson wsX0_tellPerson (rmL 2) 0 0 [.ref go, .int (zI ear), .int (zI tune), .int (zI place), .int (zI kin)] ([(go, goE ga ((n : Nat) : Int) ((d : Nat) : Int) ((c : Nat) : Int)), (ga 0, aI G 36 (gf 0)), (ga 1, aI G 7 (gf 1)), (ga 2, aI G 7 (gf 2)), (ga 3, aI G 7 (gf 3)), (ga 4, aI G 7 (gf 4)), (ga 5, aI G 6 (gf 5)), (ga 6, aI G 6 (gf 6)), (ga 7, aI G 8 (gf 7))]) (P_X0_tellPerson G go ga b n d c gf ear tune place kin) := by
  refine x_start (cc := cX0_tellPerson) (nL := 5) (ret := (some .int)) (by decide) rfl (Nat.le_of_ble_eq_true rfl) (fun E => ?_)
  show W_X0_tellPerson G E go ga b n d c gf ear tune place kin 0 [(0, .ref go), (1, .int (zI ear)), (2, .int (zI tune)), (3, .int (zI place)), (4, .int (zI kin))] [] ([(go, goE ga ((n : Nat) : Int) ((d : Nat) : Int) ((c : Nat) : Int)), (ga 0, aI G 36 (gf 0)), (ga 1, aI G 7 (gf 1)), (ga 2, aI G 7 (gf 2)), (ga 3, aI G 7 (gf 3)), (ga 4, aI G 7 (gf 4)), (ga 5, aI G 6 (gf 5)), (ga 6, aI G 6 (gf 6)), (ga 7, aI G 8 (gf 7))])
  have hn7 := I.n7
  have hd6 := I.d6
  have hc8 := I.c8
  refine x_iload_n 1 rfl dX0_tellPerson_0 1 rfl ?_
  refine x_bipush 3 rfl dX0_tellPerson_1 (z := 6) (by decide) ?_
  refine x_callSN0 6 rfl (c_X6_isBelow G ear 6 (by omega) (by omega)) (fun _ _ h => h.2) gX0_tellPerson_X6_isBelow_n55 rfl rfl rfl xn_RX0_55 wX0_tellPerson_inRX6 wX0_tellPerson_stX6_isBelow hd_X6_isBelow ⟨Nat.le_of_ble_eq_true rfl, Nat.le_of_ble_eq_true rfl⟩ (As := [.int (zI ear), .int (zI 6)]) (rest := []) rfl rfl (Nat.le_of_ble_eq_true rfl) dX0_tellPerson_3 ⟨Nat.zero_le _, Nat.zero_le _⟩ (fun v hq => ?_)
  obtain ⟨rfl, -⟩ := hq
  refine x_bif_eq 9 rfl (tgt := 16) dX0_tellPerson_6 (by decide) (fun h6 => ?_) (fun h6 => ?_)
  · have h6 := of_decide_eq_false h6
    refine x_bipush 18 rfl dX0_tellPerson_16 (z := (-2)) (by decide) ?_
    refine x_iret rfl ?_ dX0_tellPerson_18
    have hk : kO n ear tune place kin = 1 := by unfold kO; exact if_neg (fun hh => by first | omega | (simp [*] at hh; done) | (obtain ⟨ha, hb, hc, hd⟩ := hh; first | omega | simp_all) | (obtain ⟨ha, hb, hc⟩ := hh; first | omega | simp_all) | (obtain ⟨ha, hb⟩ := hh; first | omega | simp_all))
    exact ⟨gf, by rw [hk]; rfl, by rw [hk]; rfl, by unfold bO; rw [hk]; exact R⟩
  · have h6 := of_decide_eq_true h6
    refine x_iload_n 10 rfl dX0_tellPerson_9 2 rfl ?_
    refine x_callS0 13 rfl (c_X4_isTune G tune (by omega)) (fun _ _ h => h.2) gX0_tellPerson_X4_isTune rfl rfl rfl hd_X4_isTune ⟨Nat.le_of_ble_eq_true rfl, Nat.le_of_ble_eq_true rfl⟩ (As := [.int (zI tune)]) (rest := []) rfl rfl (Nat.le_of_ble_eq_true rfl) dX0_tellPerson_10 ⟨Nat.zero_le _, Nat.zero_le _⟩ (fun v hq => ?_)
    obtain ⟨rfl, -⟩ := hq
    refine x_bif_ne 16 rfl (tgt := 19) dX0_tellPerson_13 (by decide) (fun h13 => ?_) (fun h13 => ?_)
    · skip
      refine x_iload_n 20 rfl dX0_tellPerson_19 3 rfl ?_
      refine x_bipush 22 rfl dX0_tellPerson_20 (z := 6) (by decide) ?_
      refine x_callSN0 25 rfl (c_X6_isBelow G place 6 (by omega) (by omega)) (fun _ _ h => h.2) gX0_tellPerson_X6_isBelow_n55 rfl rfl rfl xn_RX0_55 wX0_tellPerson_inRX6 wX0_tellPerson_stX6_isBelow hd_X6_isBelow ⟨Nat.le_of_ble_eq_true rfl, Nat.le_of_ble_eq_true rfl⟩ (As := [.int (zI place), .int (zI 6)]) (rest := []) rfl rfl (Nat.le_of_ble_eq_true rfl) dX0_tellPerson_22 ⟨Nat.zero_le _, Nat.zero_le _⟩ (fun v hq => ?_)
      obtain ⟨rfl, -⟩ := hq
      refine x_bif_eq 28 rfl (tgt := 37) dX0_tellPerson_25 (by decide) (fun h25 => ?_) (fun h25 => ?_)
      · have h25 := of_decide_eq_false h25
        refine x_bipush 39 rfl dX0_tellPerson_37 (z := (-2)) (by decide) ?_
        refine x_iret rfl ?_ dX0_tellPerson_39
        have hk : kO n ear tune place kin = 1 := by unfold kO; exact if_neg (fun hh => by first | omega | (simp [*] at hh; done) | (obtain ⟨ha, hb, hc, hd⟩ := hh; first | omega | simp_all) | (obtain ⟨ha, hb, hc⟩ := hh; first | omega | simp_all) | (obtain ⟨ha, hb⟩ := hh; first | omega | simp_all))
        exact ⟨gf, by rw [hk]; rfl, by rw [hk]; rfl, by unfold bO; rw [hk]; exact R⟩
      · have h25 := of_decide_eq_true h25
        refine x_iload 30 rfl dX0_tellPerson_28 4 rfl ?_
        refine x_iconst 31 rfl dX0_tellPerson_30 (z := 4) (by decide) ?_
        refine x_callSN0 34 rfl (c_X6_isBelow G kin 4 (by omega) (by omega)) (fun _ _ h => h.2) gX0_tellPerson_X6_isBelow_n55 rfl rfl rfl xn_RX0_55 wX0_tellPerson_inRX6 wX0_tellPerson_stX6_isBelow hd_X6_isBelow ⟨Nat.le_of_ble_eq_true rfl, Nat.le_of_ble_eq_true rfl⟩ (As := [.int (zI kin), .int (zI 4)]) (rest := []) rfl rfl (Nat.le_of_ble_eq_true rfl) dX0_tellPerson_31 ⟨Nat.zero_le _, Nat.zero_le _⟩ (fun v hq => ?_)
        obtain ⟨rfl, -⟩ := hq
        refine x_bif_ne 37 rfl (tgt := 40) dX0_tellPerson_34 (by decide) (fun h34 => ?_) (fun h34 => ?_)
        · have h34 := of_decide_eq_true h34
          refine x_aload_n 41 rfl dX0_tellPerson_40 0 rfl ?_
          refine x_get 44 rfl (v := .int (zI ((n : Nat) : Int))) 0 0 rfl rfl (by decide) inX0_tellPerson_X0 flX0_tellPerson_39 rfl dX0_tellPerson_41 ?_
          refine x_bipush 46 rfl dX0_tellPerson_44 (z := 7) (by decide) ?_
          refine x_icmp_lt 49 rfl (tgt := 52) dX0_tellPerson_46 (by decide) (by omega) (by decide) (fun h46 => ?_) (fun h46 => ?_)
          · skip
            refine x_aload_n 53 rfl dX0_tellPerson_52 0 rfl ?_
            refine x_get 56 rfl (v := .ref (ga 1)) 0 4 rfl rfl (by decide) inX0_tellPerson_X0 flX0_tellPerson_15 rfl dX0_tellPerson_53 ?_
            refine x_aload_n 57 rfl dX0_tellPerson_56 0 rfl ?_
            refine x_get 60 rfl (v := .int (zI ((n : Nat) : Int))) 0 0 rfl rfl (by decide) inX0_tellPerson_X0 flX0_tellPerson_39 rfl dX0_tellPerson_57 ?_
            refine x_iload_n 61 rfl dX0_tellPerson_60 1 rfl ?_
            refine x_iast 62 rfl 2 n rfl (⟨by omega, by omega⟩) (by decide) (ws' := [(go, goE ga ((n : Nat) : Int) ((d : Nat) : Int) ((c : Nat) : Int)), (ga 0, aI G 36 (gf 0)), (ga 1, aI G 7 (zup (gf 1) n ear)), (ga 2, aI G 7 (gf 2)), (ga 3, aI G 7 (gf 3)), (ga 4, aI G 7 (gf 4)), (ga 5, aI G 6 (gf 5)), (ga 6, aI G 6 (gf 6)), (ga 7, aI G 8 (gf 7))]) (rfl) dX0_tellPerson_61 ?_
            refine x_aload_n 63 rfl dX0_tellPerson_62 0 rfl ?_
            refine x_get 66 rfl (v := .ref (ga 2)) 0 5 rfl rfl (by decide) inX0_tellPerson_X0 flX0_tellPerson_18 rfl dX0_tellPerson_63 ?_
            refine x_aload_n 67 rfl dX0_tellPerson_66 0 rfl ?_
            refine x_get 70 rfl (v := .int (zI ((n : Nat) : Int))) 0 0 rfl rfl (by decide) inX0_tellPerson_X0 flX0_tellPerson_39 rfl dX0_tellPerson_67 ?_
            refine x_iload_n 71 rfl dX0_tellPerson_70 2 rfl ?_
            refine x_iast 72 rfl 3 n rfl (⟨by omega, by omega⟩) (by decide) (ws' := [(go, goE ga ((n : Nat) : Int) ((d : Nat) : Int) ((c : Nat) : Int)), (ga 0, aI G 36 (gf 0)), (ga 1, aI G 7 (zup (gf 1) n ear)), (ga 2, aI G 7 (zup (gf 2) n tune)), (ga 3, aI G 7 (gf 3)), (ga 4, aI G 7 (gf 4)), (ga 5, aI G 6 (gf 5)), (ga 6, aI G 6 (gf 6)), (ga 7, aI G 8 (gf 7))]) (rfl) dX0_tellPerson_71 ?_
            refine x_aload_n 73 rfl dX0_tellPerson_72 0 rfl ?_
            refine x_get 76 rfl (v := .ref (ga 3)) 0 6 rfl rfl (by decide) inX0_tellPerson_X0 flX0_tellPerson_21 rfl dX0_tellPerson_73 ?_
            refine x_aload_n 77 rfl dX0_tellPerson_76 0 rfl ?_
            refine x_get 80 rfl (v := .int (zI ((n : Nat) : Int))) 0 0 rfl rfl (by decide) inX0_tellPerson_X0 flX0_tellPerson_39 rfl dX0_tellPerson_77 ?_
            refine x_iload_n 81 rfl dX0_tellPerson_80 3 rfl ?_
            refine x_iast 82 rfl 4 n rfl (⟨by omega, by omega⟩) (by decide) (ws' := [(go, goE ga ((n : Nat) : Int) ((d : Nat) : Int) ((c : Nat) : Int)), (ga 0, aI G 36 (gf 0)), (ga 1, aI G 7 (zup (gf 1) n ear)), (ga 2, aI G 7 (zup (gf 2) n tune)), (ga 3, aI G 7 (zup (gf 3) n place)), (ga 4, aI G 7 (gf 4)), (ga 5, aI G 6 (gf 5)), (ga 6, aI G 6 (gf 6)), (ga 7, aI G 8 (gf 7))]) (rfl) dX0_tellPerson_81 ?_
            refine x_aload_n 83 rfl dX0_tellPerson_82 0 rfl ?_
            refine x_get 86 rfl (v := .ref (ga 4)) 0 7 rfl rfl (by decide) inX0_tellPerson_X0 flX0_tellPerson_24 rfl dX0_tellPerson_83 ?_
            refine x_aload_n 87 rfl dX0_tellPerson_86 0 rfl ?_
            refine x_get 90 rfl (v := .int (zI ((n : Nat) : Int))) 0 0 rfl rfl (by decide) inX0_tellPerson_X0 flX0_tellPerson_39 rfl dX0_tellPerson_87 ?_
            refine x_iload 92 rfl dX0_tellPerson_90 4 rfl ?_
            refine x_iast 93 rfl 5 n rfl (⟨by omega, by omega⟩) (by decide) (ws' := [(go, goE ga ((n : Nat) : Int) ((d : Nat) : Int) ((c : Nat) : Int)), (ga 0, aI G 36 (gf 0)), (ga 1, aI G 7 (zup (gf 1) n ear)), (ga 2, aI G 7 (zup (gf 2) n tune)), (ga 3, aI G 7 (zup (gf 3) n place)), (ga 4, aI G 7 (zup (gf 4) n kin)), (ga 5, aI G 6 (gf 5)), (ga 6, aI G 6 (gf 6)), (ga 7, aI G 8 (gf 7))]) (rfl) dX0_tellPerson_92 ?_
            refine x_aload_n 94 rfl dX0_tellPerson_93 0 rfl ?_
            refine x_dup 95 rfl dX0_tellPerson_94 rfl ?_
            refine x_get 98 rfl (v := .int (zI ((n : Nat) : Int))) 0 0 rfl rfl (by decide) inX0_tellPerson_X0 flX0_tellPerson_39 rfl dX0_tellPerson_95 ?_
            refine x_iconst 99 rfl dX0_tellPerson_98 (z := 1) (by decide) ?_
            refine x_iadd 100 rfl dX0_tellPerson_99 (z := ((n + 1 : Nat) : Int)) (by omega) ?_
            refine x_put 103 rfl 0 0 rfl rfl (by decide) inX0_tellPerson_X0 flX0_tellPerson_39 tyX0_ok nmX0 rfl rfl rfl rfl (Nat.le_of_ble_eq_true rfl) (ws' := [(go, goE ga ((n + 1 : Nat) : Int) ((d : Nat) : Int) ((c : Nat) : Int)), (ga 0, aI G 36 (gf 0)), (ga 1, aI G 7 (zup (gf 1) n ear)), (ga 2, aI G 7 (zup (gf 2) n tune)), (ga 3, aI G 7 (zup (gf 3) n place)), (ga 4, aI G 7 (zup (gf 4) n kin)), (ga 5, aI G 6 (gf 5)), (ga 6, aI G 6 (gf 6)), (ga 7, aI G 8 (gf 7))]) rfl dX0_tellPerson_100 ?_
            refine x_aload_n 104 rfl dX0_tellPerson_103 0 rfl ?_
            refine x_get 107 rfl (v := .int (zI ((n + 1 : Nat) : Int))) 0 0 rfl rfl (by decide) inX0_tellPerson_X0 flX0_tellPerson_39 rfl dX0_tellPerson_104 ?_
            refine x_iconst 108 rfl dX0_tellPerson_107 (z := 1) (by decide) ?_
            refine x_isub 109 rfl dX0_tellPerson_108 (z := ((n + 1 : Nat) : Int) - 1) (rfl) ?_
            refine x_iret rfl ?_ dX0_tellPerson_109
            have hk : kO n ear tune place kin = 0 := by unfold kO; rw [if_pos ⟨by omega, by assumption, by omega, by omega⟩, if_neg (by omega)]
            exact ⟨zup (zup (zup (zup gf 1 (zup (gf 1) n ear)) 2 (zup (gf 2) n tune)) 3 (zup (gf 3) n place)) 4 (zup (gf 4) n kin), by rw [hk]; exact congrArg (fun z => some (Value.int (zI z))) (by omega : ((n + 1 : Nat) : Int) - 1 = (n : Int)), by rw [hk]; rfl, by unfold bO; rw [hk]; exact GR_bO R I (by omega) ear tune place kin⟩
          · skip
            refine x_bipush 51 rfl dX0_tellPerson_49 (z := (-4)) (by decide) ?_
            refine x_iret rfl ?_ dX0_tellPerson_51
            have hk : kO n ear tune place kin = 3 := by unfold kO; rw [if_pos ⟨by omega, by assumption, by omega, by omega⟩, if_pos (by omega)]
            exact ⟨gf, by rw [hk]; rfl, by rw [hk]; rfl, by unfold bO; rw [hk]; exact R⟩
        · have h34 := of_decide_eq_false h34
          refine x_bipush 39 rfl dX0_tellPerson_37 (z := (-2)) (by decide) ?_
          refine x_iret rfl ?_ dX0_tellPerson_39
          have hk : kO n ear tune place kin = 1 := by unfold kO; exact if_neg (fun hh => by first | omega | (simp [*] at hh; done) | (obtain ⟨ha, hb, hc, hd⟩ := hh; first | omega | simp_all) | (obtain ⟨ha, hb, hc⟩ := hh; first | omega | simp_all) | (obtain ⟨ha, hb⟩ := hh; first | omega | simp_all))
          exact ⟨gf, by rw [hk]; rfl, by rw [hk]; rfl, by unfold bO; rw [hk]; exact R⟩
    · skip
      refine x_bipush 18 rfl dX0_tellPerson_16 (z := (-2)) (by decide) ?_
      refine x_iret rfl ?_ dX0_tellPerson_18
      have hk : kO n ear tune place kin = 1 := by unfold kO; exact if_neg (fun hh => by first | omega | (simp [*] at hh; done) | (obtain ⟨ha, hb, hc, hd⟩ := hh; first | omega | simp_all) | (obtain ⟨ha, hb, hc⟩ := hh; first | omega | simp_all) | (obtain ⟨ha, hb⟩ := hh; first | omega | simp_all))
      exact ⟨gf, by rw [hk]; rfl, by rw [hk]; rfl, by unfold bO; rw [hk]; exact R⟩

abbrev P_X0_tellDead (G : XG) (go : Nat) (ga : Nat → Nat) (b : Nat → Int) (n : Nat) (d : Nat) (c : Nat) (gf : Nat → Nat → Int) (tune : Int) (year : Int) : Option Value → va_W → Prop := fun r ws => ∃ gf' : Nat → Nat → Int, r = some (.int (zI (rC (kD d tune year) ((d : Nat) : Int)))) ∧ ws = [(go, goE ga ((n : Nat) : Int) ((if kD d tune year = 0 then d + 1 else d : Nat) : Int) ((c : Nat) : Int)), (ga 0, aI G 36 (gf' 0)), (ga 1, aI G 7 (gf' 1)), (ga 2, aI G 7 (gf' 2)), (ga 3, aI G 7 (gf' 3)), (ga 4, aI G 7 (gf' 4)), (ga 5, aI G 6 (gf' 5)), (ga 6, aI G 6 (gf' 6)), (ga 7, aI G 8 (gf' 7))] ∧ GR (bD b d tune year) (n) (if kD d tune year = 0 then d + 1 else d) c gf'
abbrev W_X0_tellDead (G : XG) (E : XE) (go : Nat) (ga : Nat → Nat) (b : Nat → Int) (n : Nat) (d : Nat) (c : Nat) (gf : Nat → Nat → Int) (tune : Int) (year : Int) (pc : Nat) (lv : List (Nat × Value)) (st : List Value) (ws : va_W) : Prop := Wx G E (rmL 2) cX0_tellDead 3 RX0 wsX0_tellDead (some .int) "tellDead" 0 0 (P_X0_tellDead G go ga b n d c gf tune year) 0 0 pc lv st ws
theorem flX0_tellDead_27 : Cond.fieldLink RX0 27 (TX0 8).1 (TX0 8).2.1 (TX0 8).2.2.1 ∈ wsX0_tellDead := by decide +kernel
theorem flX0_tellDead_30 : Cond.fieldLink RX0 30 (TX0 9).1 (TX0 9).2.1 (TX0 9).2.2.1 ∈ wsX0_tellDead := by decide +kernel
theorem flX0_tellDead_43 : Cond.fieldLink RX0 43 (TX0 1).1 (TX0 1).2.1 (TX0 1).2.2.1 ∈ wsX0_tellDead := by decide +kernel
theorem inX0_tellDead_X0 : ∀ w ∈ u_ws RX0 TX0 11, w ∈ wsX0_tellDead := fun _ h => List.mem_cons_of_mem _ (List.mem_append_right _ h)
theorem wX0_tellDead_inRX6 : Cond.initialized (yX6_isBelow).cls ∈ wsX0_tellDead := by decide +kernel
theorem wX0_tellDead_stX6_isBelow : Cond.static yX6_isBelow ∈ wsX0_tellDead := by decide +kernel
set_option maxHeartbeats 4000000 in
set_option maxRecDepth 100000 in
/-- tellDead -/
theorem c_X0_tellDead (G : XG) (go : Nat) (ga : Nat → Nat) (b : Nat → Int) (n d c : Nat) (gf : Nat → Nat → Int) (I : Inv b n d c) (R : GR b n d c gf) (tune year : Int) (h1 : Z32 tune) (h2 : Z32 year) : Con G yX0_tellDead wsX0_tellDead (rmL 2) 0 0 [.ref go, .int (zI tune), .int (zI year)] ([(go, goE ga ((n : Nat) : Int) ((d : Nat) : Int) ((c : Nat) : Int)), (ga 0, aI G 36 (gf 0)), (ga 1, aI G 7 (gf 1)), (ga 2, aI G 7 (gf 2)), (ga 3, aI G 7 (gf 3)), (ga 4, aI G 7 (gf 4)), (ga 5, aI G 6 (gf 5)), (ga 6, aI G 6 (gf 6)), (ga 7, aI G 8 (gf 7))]) (P_X0_tellDead G go ga b n d c gf tune year) := by
  refine x_start (cc := cX0_tellDead) (nL := 3) (ret := (some .int)) (by decide) rfl (Nat.le_of_ble_eq_true rfl) (fun E => ?_)
  show W_X0_tellDead G E go ga b n d c gf tune year 0 [(0, .ref go), (1, .int (zI tune)), (2, .int (zI year))] [] ([(go, goE ga ((n : Nat) : Int) ((d : Nat) : Int) ((c : Nat) : Int)), (ga 0, aI G 36 (gf 0)), (ga 1, aI G 7 (gf 1)), (ga 2, aI G 7 (gf 2)), (ga 3, aI G 7 (gf 3)), (ga 4, aI G 7 (gf 4)), (ga 5, aI G 6 (gf 5)), (ga 6, aI G 6 (gf 6)), (ga 7, aI G 8 (gf 7))])
  have hn7 := I.n7
  have hd6 := I.d6
  have hc8 := I.c8
  refine x_iload_n 1 rfl dX0_tellDead_0 1 rfl ?_
  refine x_callS0 4 rfl (c_X4_isTune G tune (by omega)) (fun _ _ h => h.2) gX0_tellDead_X4_isTune rfl rfl rfl hd_X4_isTune ⟨Nat.le_of_ble_eq_true rfl, Nat.le_of_ble_eq_true rfl⟩ (As := [.int (zI tune)]) (rest := []) rfl rfl (Nat.le_of_ble_eq_true rfl) dX0_tellDead_1 ⟨Nat.zero_le _, Nat.zero_le _⟩ (fun v hq => ?_)
  obtain ⟨rfl, -⟩ := hq
  refine x_bif_eq 7 rfl (tgt := 16) dX0_tellDead_4 (by decide) (fun h4 => ?_) (fun h4 => ?_)
  · skip
    refine x_bipush 18 rfl dX0_tellDead_16 (z := (-2)) (by decide) ?_
    refine x_iret rfl ?_ dX0_tellDead_18
    have hk : kD d tune year = 1 := by unfold kD; exact if_neg (fun hh => by first | omega | (simp [*] at hh; done) | (obtain ⟨ha, hb, hc, hd⟩ := hh; first | omega | simp_all) | (obtain ⟨ha, hb, hc⟩ := hh; first | omega | simp_all) | (obtain ⟨ha, hb⟩ := hh; first | omega | simp_all))
    exact ⟨gf, by rw [hk]; rfl, by rw [hk]; rfl, by unfold bD; rw [hk]; exact R⟩
  · skip
    refine x_iload_n 8 rfl dX0_tellDead_7 2 rfl ?_
    refine x_bipush 10 rfl dX0_tellDead_8 (z := 100) (by decide) ?_
    refine x_callSN0 13 rfl (c_X6_isBelow G year 100 (by omega) (by omega)) (fun _ _ h => h.2) gX0_tellDead_X6_isBelow_n55 rfl rfl rfl xn_RX0_55 wX0_tellDead_inRX6 wX0_tellDead_stX6_isBelow hd_X6_isBelow ⟨Nat.le_of_ble_eq_true rfl, Nat.le_of_ble_eq_true rfl⟩ (As := [.int (zI year), .int (zI 100)]) (rest := []) rfl rfl (Nat.le_of_ble_eq_true rfl) dX0_tellDead_10 ⟨Nat.zero_le _, Nat.zero_le _⟩ (fun v hq => ?_)
    obtain ⟨rfl, -⟩ := hq
    refine x_bif_ne 16 rfl (tgt := 19) dX0_tellDead_13 (by decide) (fun h13 => ?_) (fun h13 => ?_)
    · have h13 := of_decide_eq_true h13
      refine x_aload_n 20 rfl dX0_tellDead_19 0 rfl ?_
      refine x_get 23 rfl (v := .int (zI ((d : Nat) : Int))) 0 1 rfl rfl (by decide) inX0_tellDead_X0 flX0_tellDead_43 rfl dX0_tellDead_20 ?_
      refine x_bipush 25 rfl dX0_tellDead_23 (z := 6) (by decide) ?_
      refine x_icmp_lt 28 rfl (tgt := 31) dX0_tellDead_25 (by decide) (by omega) (by decide) (fun h25 => ?_) (fun h25 => ?_)
      · skip
        refine x_aload_n 32 rfl dX0_tellDead_31 0 rfl ?_
        refine x_get 35 rfl (v := .ref (ga 5)) 0 8 rfl rfl (by decide) inX0_tellDead_X0 flX0_tellDead_27 rfl dX0_tellDead_32 ?_
        refine x_aload_n 36 rfl dX0_tellDead_35 0 rfl ?_
        refine x_get 39 rfl (v := .int (zI ((d : Nat) : Int))) 0 1 rfl rfl (by decide) inX0_tellDead_X0 flX0_tellDead_43 rfl dX0_tellDead_36 ?_
        refine x_iload_n 40 rfl dX0_tellDead_39 1 rfl ?_
        refine x_iast 41 rfl 6 d rfl (⟨by omega, by omega⟩) (by decide) (ws' := [(go, goE ga ((n : Nat) : Int) ((d : Nat) : Int) ((c : Nat) : Int)), (ga 0, aI G 36 (gf 0)), (ga 1, aI G 7 (gf 1)), (ga 2, aI G 7 (gf 2)), (ga 3, aI G 7 (gf 3)), (ga 4, aI G 7 (gf 4)), (ga 5, aI G 6 (zup (gf 5) d tune)), (ga 6, aI G 6 (gf 6)), (ga 7, aI G 8 (gf 7))]) (rfl) dX0_tellDead_40 ?_
        refine x_aload_n 42 rfl dX0_tellDead_41 0 rfl ?_
        refine x_get 45 rfl (v := .ref (ga 6)) 0 9 rfl rfl (by decide) inX0_tellDead_X0 flX0_tellDead_30 rfl dX0_tellDead_42 ?_
        refine x_aload_n 46 rfl dX0_tellDead_45 0 rfl ?_
        refine x_get 49 rfl (v := .int (zI ((d : Nat) : Int))) 0 1 rfl rfl (by decide) inX0_tellDead_X0 flX0_tellDead_43 rfl dX0_tellDead_46 ?_
        refine x_iload_n 50 rfl dX0_tellDead_49 2 rfl ?_
        refine x_iast 51 rfl 7 d rfl (⟨by omega, by omega⟩) (by decide) (ws' := [(go, goE ga ((n : Nat) : Int) ((d : Nat) : Int) ((c : Nat) : Int)), (ga 0, aI G 36 (gf 0)), (ga 1, aI G 7 (gf 1)), (ga 2, aI G 7 (gf 2)), (ga 3, aI G 7 (gf 3)), (ga 4, aI G 7 (gf 4)), (ga 5, aI G 6 (zup (gf 5) d tune)), (ga 6, aI G 6 (zup (gf 6) d year)), (ga 7, aI G 8 (gf 7))]) (rfl) dX0_tellDead_50 ?_
        refine x_aload_n 52 rfl dX0_tellDead_51 0 rfl ?_
        refine x_dup 53 rfl dX0_tellDead_52 rfl ?_
        refine x_get 56 rfl (v := .int (zI ((d : Nat) : Int))) 0 1 rfl rfl (by decide) inX0_tellDead_X0 flX0_tellDead_43 rfl dX0_tellDead_53 ?_
        refine x_iconst 57 rfl dX0_tellDead_56 (z := 1) (by decide) ?_
        refine x_iadd 58 rfl dX0_tellDead_57 (z := ((d + 1 : Nat) : Int)) (by omega) ?_
        refine x_put 61 rfl 0 1 rfl rfl (by decide) inX0_tellDead_X0 flX0_tellDead_43 tyX0_ok nmX0 rfl rfl rfl rfl (Nat.le_of_ble_eq_true rfl) (ws' := [(go, goE ga ((n : Nat) : Int) ((d + 1 : Nat) : Int) ((c : Nat) : Int)), (ga 0, aI G 36 (gf 0)), (ga 1, aI G 7 (gf 1)), (ga 2, aI G 7 (gf 2)), (ga 3, aI G 7 (gf 3)), (ga 4, aI G 7 (gf 4)), (ga 5, aI G 6 (zup (gf 5) d tune)), (ga 6, aI G 6 (zup (gf 6) d year)), (ga 7, aI G 8 (gf 7))]) rfl dX0_tellDead_58 ?_
        refine x_aload_n 62 rfl dX0_tellDead_61 0 rfl ?_
        refine x_get 65 rfl (v := .int (zI ((d + 1 : Nat) : Int))) 0 1 rfl rfl (by decide) inX0_tellDead_X0 flX0_tellDead_43 rfl dX0_tellDead_62 ?_
        refine x_iconst 66 rfl dX0_tellDead_65 (z := 1) (by decide) ?_
        refine x_isub 67 rfl dX0_tellDead_66 (z := ((d + 1 : Nat) : Int) - 1) (rfl) ?_
        refine x_iret rfl ?_ dX0_tellDead_67
        have hk : kD d tune year = 0 := by unfold kD; rw [if_pos ⟨by assumption, by omega⟩, if_neg (by omega)]
        exact ⟨zup (zup gf 5 (zup (gf 5) d tune)) 6 (zup (gf 6) d year), by rw [hk]; exact congrArg (fun z => some (Value.int (zI z))) (by omega : ((d + 1 : Nat) : Int) - 1 = (d : Int)), by rw [hk]; rfl, by unfold bD; rw [hk]; exact GR_bD R I (by omega) tune year⟩
      · skip
        refine x_bipush 30 rfl dX0_tellDead_28 (z := (-4)) (by decide) ?_
        refine x_iret rfl ?_ dX0_tellDead_30
        have hk : kD d tune year = 3 := by unfold kD; rw [if_pos ⟨by assumption, by omega⟩, if_pos (by omega)]
        exact ⟨gf, by rw [hk]; rfl, by rw [hk]; rfl, by unfold bD; rw [hk]; exact R⟩
    · have h13 := of_decide_eq_false h13
      refine x_bipush 18 rfl dX0_tellDead_16 (z := (-2)) (by decide) ?_
      refine x_iret rfl ?_ dX0_tellDead_18
      have hk : kD d tune year = 1 := by unfold kD; exact if_neg (fun hh => by first | omega | (simp [*] at hh; done) | (obtain ⟨ha, hb, hc, hd⟩ := hh; first | omega | simp_all) | (obtain ⟨ha, hb, hc⟩ := hh; first | omega | simp_all) | (obtain ⟨ha, hb⟩ := hh; first | omega | simp_all))
      exact ⟨gf, by rw [hk]; rfl, by rw [hk]; rfl, by unfold bD; rw [hk]; exact R⟩

theorem tri6 {p : Nat} (h : p < 6) : p * (p - 1) / 2 + p = (p + 1) * (p + 1 - 1) / 2 := by
  have : p = 0 ∨ p = 1 ∨ p = 2 ∨ p = 3 ∨ p = 4 ∨ p = 5 := by omega
  rcases this with rfl | rfl | rfl | rfl | rfl | rfl <;> rfl
theorem tri_lt6 {p q : Nat} (h : p < 6) (hq : q < p) : p * (p - 1) / 2 + q < 15 := by
  have : p = 0 ∨ p = 1 ∨ p = 2 ∨ p = 3 ∨ p = 4 ∨ p = 5 := by omega
  rcases this with rfl | rfl | rfl | rfl | rfl | rfl <;> omega
theorem GR_tri {b : Nat → Int} {n d c : Nat} {gf : Nat → Nat → Int} (R : GR b n d c gf) {p q : Nat} (h : p < 6) (hq : q < p) : gf 0 (p * 6 + q) = b (0 + (p * (p - 1) / 2 + q)) := by
  rw [R.w h (by omega), Nat.zero_add]; unfold upN; rw [if_neg (by omega), if_pos hq]
abbrev P_X0_digestOn (G : XG) (go : Nat) (ga : Nat → Nat) (b : Nat → Int) (n : Nat) (d : Nat) (c : Nat) (gf : Nat → Nat → Int) (h : Int) : Option Value → va_W → Prop := fun r ws => r = some (.long (zL (mxF b (mxF b (mxF b (mxF b h 0 15) 18 (4 * n)) 46 (2 * d)) 58 c))) ∧ ws = [(go, goE ga ((n : Nat) : Int) ((d : Nat) : Int) ((c : Nat) : Int)), (ga 0, aI G 36 (gf 0)), (ga 1, aI G 7 (gf 1)), (ga 2, aI G 7 (gf 2)), (ga 3, aI G 7 (gf 3)), (ga 4, aI G 7 (gf 4)), (ga 5, aI G 6 (gf 5)), (ga 6, aI G 6 (gf 6)), (ga 7, aI G 8 (gf 7))]
abbrev W_X0_digestOn (G : XG) (E : XE) (go : Nat) (ga : Nat → Nat) (b : Nat → Int) (n : Nat) (d : Nat) (c : Nat) (gf : Nat → Nat → Int) (h : Int) (pc : Nat) (lv : List (Nat × Value)) (st : List Value) (ws : va_W) : Prop := Wx G E (rmL 0) cX0_digestOn 5 RX0 wsX0_digestOn (some .long) "digestOn" 0 0 (P_X0_digestOn G go ga b n d c gf h) 0 0 pc lv st ws
theorem flX0_digestOn_9 : Cond.fieldLink RX0 9 (TX0 3).1 (TX0 3).2.1 (TX0 3).2.2.1 ∈ wsX0_digestOn := by decide +kernel
theorem flX0_digestOn_15 : Cond.fieldLink RX0 15 (TX0 4).1 (TX0 4).2.1 (TX0 4).2.2.1 ∈ wsX0_digestOn := by decide +kernel
theorem flX0_digestOn_18 : Cond.fieldLink RX0 18 (TX0 5).1 (TX0 5).2.1 (TX0 5).2.2.1 ∈ wsX0_digestOn := by decide +kernel
theorem flX0_digestOn_21 : Cond.fieldLink RX0 21 (TX0 6).1 (TX0 6).2.1 (TX0 6).2.2.1 ∈ wsX0_digestOn := by decide +kernel
theorem flX0_digestOn_24 : Cond.fieldLink RX0 24 (TX0 7).1 (TX0 7).2.1 (TX0 7).2.2.1 ∈ wsX0_digestOn := by decide +kernel
theorem flX0_digestOn_27 : Cond.fieldLink RX0 27 (TX0 8).1 (TX0 8).2.1 (TX0 8).2.2.1 ∈ wsX0_digestOn := by decide +kernel
theorem flX0_digestOn_30 : Cond.fieldLink RX0 30 (TX0 9).1 (TX0 9).2.1 (TX0 9).2.2.1 ∈ wsX0_digestOn := by decide +kernel
theorem flX0_digestOn_33 : Cond.fieldLink RX0 33 (TX0 10).1 (TX0 10).2.1 (TX0 10).2.2.1 ∈ wsX0_digestOn := by decide +kernel
theorem flX0_digestOn_39 : Cond.fieldLink RX0 39 (TX0 0).1 (TX0 0).2.1 (TX0 0).2.2.1 ∈ wsX0_digestOn := by decide +kernel
theorem flX0_digestOn_43 : Cond.fieldLink RX0 43 (TX0 1).1 (TX0 1).2.1 (TX0 1).2.2.1 ∈ wsX0_digestOn := by decide +kernel
theorem flX0_digestOn_46 : Cond.fieldLink RX0 46 (TX0 2).1 (TX0 2).2.1 (TX0 2).2.2.1 ∈ wsX0_digestOn := by decide +kernel
theorem inX0_digestOn_X0 : ∀ w ∈ u_ws RX0 TX0 11, w ∈ wsX0_digestOn := fun _ h => List.mem_cons_of_mem _ (List.mem_append_right _ h)
theorem wX0_digestOn_cl74 : Cond.constantLong RX0 74 (zL 31) ∈ wsX0_digestOn := by decide +kernel
set_option maxHeartbeats 4000000 in
set_option maxRecDepth 100000 in
/-- digestOn -/
theorem c_X0_digestOn (G : XG) (go : Nat) (ga : Nat → Nat) (b : Nat → Int) (n d c : Nat) (gf : Nat → Nat → Int) (I : Inv b n d c) (R : GR b n d c gf) (h : Int) : Con G yX0_digestOn wsX0_digestOn (rmL 0) 0 0 [.ref go, .long (zL h)] ([(go, goE ga ((n : Nat) : Int) ((d : Nat) : Int) ((c : Nat) : Int)), (ga 0, aI G 36 (gf 0)), (ga 1, aI G 7 (gf 1)), (ga 2, aI G 7 (gf 2)), (ga 3, aI G 7 (gf 3)), (ga 4, aI G 7 (gf 4)), (ga 5, aI G 6 (gf 5)), (ga 6, aI G 6 (gf 6)), (ga 7, aI G 8 (gf 7))]) (P_X0_digestOn G go ga b n d c gf h) := by
  refine x_start (cc := cX0_digestOn) (nL := 5) (ret := (some .long)) (by decide) rfl (Nat.le_of_ble_eq_true rfl) (fun E => ?_)
  show W_X0_digestOn G E go ga b n d c gf h 0 [(0, .ref go), (1, .long (zL h))] [] ([(go, goE ga ((n : Nat) : Int) ((d : Nat) : Int) ((c : Nat) : Int)), (ga 0, aI G 36 (gf 0)), (ga 1, aI G 7 (gf 1)), (ga 2, aI G 7 (gf 2)), (ga 3, aI G 7 (gf 3)), (ga 4, aI G 7 (gf 4)), (ga 5, aI G 6 (gf 5)), (ga 6, aI G 6 (gf 6)), (ga 7, aI G 8 (gf 7))])
  have hn7 := I.n7
  have hd6 := I.d6
  have hc8 := I.c8
  refine x_iconst 1 rfl dX0_digestOn_0 (z := 1) (by decide) ?_
  refine x_istore_n 2 rfl (lv' := [(3, .int (zI 1)), (0, .ref go), (1, .long (zL h))]) dX0_digestOn_1 (by decide) rfl ?_
  have L2 : ∀ (f2 : Nat) (p : Nat) (hp1 : 1 ≤ p) (hp6 : p ≤ 6), 6 - p < f2 → W_X0_digestOn G E go ga b n d c gf h 2 [(0, .ref go), (1, .long (zL (mxF b h 0 (p * (p - 1) / 2)))), (3, .int (zI ((p : Nat) : Int)))] [] ([(go, goE ga ((n : Nat) : Int) ((d : Nat) : Int) ((c : Nat) : Int)), (ga 0, aI G 36 (gf 0)), (ga 1, aI G 7 (gf 1)), (ga 2, aI G 7 (gf 2)), (ga 3, aI G 7 (gf 3)), (ga 4, aI G 7 (gf 4)), (ga 5, aI G 6 (gf 5)), (ga 6, aI G 6 (gf 6)), (ga 7, aI G 8 (gf 7))]) := by
    intro f2
    induction f2 with
    | zero => intro p hp1 hp6 hf2; exact absurd hf2 (Nat.not_lt_zero _)
    | succ f2 ih2 =>
      intro p hp1 hp6 hf2
      refine x_iload_n 3 rfl dX0_digestOn_2 2 rfl ?_
      refine x_bipush 5 rfl dX0_digestOn_3 (z := 6) (by decide) ?_
      refine x_icmp_ge 8 rfl (tgt := 49) dX0_digestOn_5 (by decide) (by omega) (by decide) (fun h5 => ?_) (fun h5 => ?_)
      · skip
        refine x_iconst 50 rfl dX0_digestOn_49 (z := 0) (by decide) ?_
        refine x_istore_n 51 rfl (lv' := [(3, .int (zI 0)), (0, .ref go), (1, .long (zL (mxF b h 0 (p * (p - 1) / 2))))]) dX0_digestOn_50 (by decide) rfl ?_
        have L51 : ∀ (f51 : Nat) (i : Nat) (hi : i ≤ n), n - i < f51 → W_X0_digestOn G E go ga b n d c gf h 51 [(0, .ref go), (1, .long (zL (mxF b (mxF b h 0 15) 18 (4 * i)))), (3, .int (zI ((i : Nat) : Int)))] [] ([(go, goE ga ((n : Nat) : Int) ((d : Nat) : Int) ((c : Nat) : Int)), (ga 0, aI G 36 (gf 0)), (ga 1, aI G 7 (gf 1)), (ga 2, aI G 7 (gf 2)), (ga 3, aI G 7 (gf 3)), (ga 4, aI G 7 (gf 4)), (ga 5, aI G 6 (gf 5)), (ga 6, aI G 6 (gf 6)), (ga 7, aI G 8 (gf 7))]) := by
          intro f51
          induction f51 with
          | zero => intro i hi hf51; exact absurd hf51 (Nat.not_lt_zero _)
          | succ f51 ih51 =>
            intro i hi hf51
            refine x_iload_n 52 rfl dX0_digestOn_51 2 rfl ?_
            refine x_aload_n 53 rfl dX0_digestOn_52 0 rfl ?_
            refine x_get 56 rfl (v := .int (zI ((n : Nat) : Int))) 0 0 rfl rfl (by decide) inX0_digestOn_X0 flX0_digestOn_39 rfl dX0_digestOn_53 ?_
            refine x_icmp_ge 59 rfl (tgt := 121) dX0_digestOn_56 (by decide) (by omega) (by omega) (fun h56 => ?_) (fun h56 => ?_)
            · skip
              refine x_iconst 122 rfl dX0_digestOn_121 (z := 0) (by decide) ?_
              refine x_istore_n 123 rfl (lv' := [(3, .int (zI 0)), (0, .ref go), (1, .long (zL (mxF b (mxF b h 0 15) 18 (4 * i))))]) dX0_digestOn_122 (by decide) rfl ?_
              have L123 : ∀ (f123 : Nat) (j : Nat) (hj : j ≤ d), d - j < f123 → W_X0_digestOn G E go ga b n d c gf h 123 [(0, .ref go), (1, .long (zL (mxF b (mxF b (mxF b h 0 15) 18 (4 * n)) 46 (2 * j)))), (3, .int (zI ((j : Nat) : Int)))] [] ([(go, goE ga ((n : Nat) : Int) ((d : Nat) : Int) ((c : Nat) : Int)), (ga 0, aI G 36 (gf 0)), (ga 1, aI G 7 (gf 1)), (ga 2, aI G 7 (gf 2)), (ga 3, aI G 7 (gf 3)), (ga 4, aI G 7 (gf 4)), (ga 5, aI G 6 (gf 5)), (ga 6, aI G 6 (gf 6)), (ga 7, aI G 8 (gf 7))]) := by
                intro f123
                induction f123 with
                | zero => intro j hj hf123; exact absurd hf123 (Nat.not_lt_zero _)
                | succ f123 ih123 =>
                  intro j hj hf123
                  refine x_iload_n 124 rfl dX0_digestOn_123 2 rfl ?_
                  refine x_aload_n 125 rfl dX0_digestOn_124 0 rfl ?_
                  refine x_get 128 rfl (v := .int (zI ((d : Nat) : Int))) 0 1 rfl rfl (by decide) inX0_digestOn_X0 flX0_digestOn_43 rfl dX0_digestOn_125 ?_
                  refine x_icmp_ge 131 rfl (tgt := 165) dX0_digestOn_128 (by decide) (by omega) (by omega) (fun h128 => ?_) (fun h128 => ?_)
                  · skip
                    refine x_iconst 166 rfl dX0_digestOn_165 (z := 0) (by decide) ?_
                    refine x_istore_n 167 rfl (lv' := [(3, .int (zI 0)), (0, .ref go), (1, .long (zL (mxF b (mxF b (mxF b h 0 15) 18 (4 * n)) 46 (2 * j))))]) dX0_digestOn_166 (by decide) rfl ?_
                    have L167 : ∀ (f167 : Nat) (k : Nat) (hk : k ≤ c), c - k < f167 → W_X0_digestOn G E go ga b n d c gf h 167 [(0, .ref go), (1, .long (zL (mxF b (mxF b (mxF b (mxF b h 0 15) 18 (4 * n)) 46 (2 * d)) 58 k))), (3, .int (zI ((k : Nat) : Int)))] [] ([(go, goE ga ((n : Nat) : Int) ((d : Nat) : Int) ((c : Nat) : Int)), (ga 0, aI G 36 (gf 0)), (ga 1, aI G 7 (gf 1)), (ga 2, aI G 7 (gf 2)), (ga 3, aI G 7 (gf 3)), (ga 4, aI G 7 (gf 4)), (ga 5, aI G 6 (gf 5)), (ga 6, aI G 6 (gf 6)), (ga 7, aI G 8 (gf 7))]) := by
                      intro f167
                      induction f167 with
                      | zero => intro k hk hf167; exact absurd hf167 (Nat.not_lt_zero _)
                      | succ f167 ih167 =>
                        intro k hk hf167
                        refine x_iload_n 168 rfl dX0_digestOn_167 2 rfl ?_
                        refine x_aload_n 169 rfl dX0_digestOn_168 0 rfl ?_
                        refine x_get 172 rfl (v := .int (zI ((c : Nat) : Int))) 0 2 rfl rfl (by decide) inX0_digestOn_X0 flX0_digestOn_46 rfl dX0_digestOn_169 ?_
                        refine x_icmp_ge 175 rfl (tgt := 195) dX0_digestOn_172 (by decide) (by omega) (by omega) (fun h172 => ?_) (fun h172 => ?_)
                        · skip
                          refine x_lload_n 196 rfl dX0_digestOn_195 1 rfl ?_
                          refine x_lret rfl ?_ dX0_digestOn_196
                          have e : k = c := by omega
                          exact ⟨by rw [e], rfl⟩
                        · skip
                          have x0 := I.cc (k := k) (by omega)
                          refine x_ldc2 178 rfl (v := zL 31) wX0_digestOn_cl74 dX0_digestOn_175 ?_
                          refine x_lload_n 179 rfl dX0_digestOn_178 1 rfl ?_
                          refine x_lmul 180 rfl dX0_digestOn_179 (z := 31 * (mxF b (mxF b (mxF b (mxF b h 0 15) 18 (4 * n)) 46 (2 * d)) 58 k)) (rfl) ?_
                          refine x_aload_n 181 rfl dX0_digestOn_180 0 rfl ?_
                          refine x_get 184 rfl (v := .ref (ga 7)) 0 10 rfl rfl (by decide) inX0_digestOn_X0 flX0_digestOn_33 rfl dX0_digestOn_181 ?_
                          refine x_iload_n 185 rfl dX0_digestOn_184 2 rfl ?_
                          refine x_iald 186 rfl 8 k rfl (⟨by omega, by omega⟩) (by decide) (v := b (58 + k)) (R.2.2.2 k (by omega)) dX0_digestOn_185 ?_
                          refine x_i2l 187 rfl dX0_digestOn_186 (z := (zL (b (58 + k)))) (zI_i2l (by omega)) ?_
                          refine x_ladd 188 rfl dX0_digestOn_187 (z := (31 * (mxF b (mxF b (mxF b (mxF b h 0 15) 18 (4 * n)) 46 (2 * d)) 58 k)) + (b (58 + k))) (rfl) ?_
                          refine x_lstore_n 189 rfl (lv' := [(1, .long (zL ((31 * (mxF b (mxF b (mxF b (mxF b h 0 15) 18 (4 * n)) 46 (2 * d)) 58 k)) + (b (58 + k))))), (0, .ref go), (3, .int (zI ((k : Nat) : Int)))]) dX0_digestOn_188 (by decide) rfl ?_
                          refine x_iinc 192 rfl (lv' := [(3, .int (zI ((k + 1 : Nat) : Int))), (1, .long (zL ((31 * (mxF b (mxF b (mxF b (mxF b h 0 15) 18 (4 * n)) 46 (2 * d)) 58 k)) + (b (58 + k))))), (0, .ref go)]) dX0_digestOn_189 2 rfl (b := ((k + 1 : Nat) : Int)) (by omega) (by decide) rfl ?_
                          refine x_goto dX0_digestOn_192 (tgt := 167) (by decide) ?_
                          refine x_lve (congrArg (fun zz : Int => ([(3, .int (zI ((k + 1 : Nat) : Int))), (1, .long (zL zz)), (0, .ref go)] : List (Nat × Value))) (rfl : (31 * (mxF b (mxF b (mxF b (mxF b h 0 15) 18 (4 * n)) 46 (2 * d)) 58 k)) + (b (58 + k)) = mxF b (mxF b (mxF b (mxF b h 0 15) 18 (4 * n)) 46 (2 * d)) 58 (k + 1))) ?_
                          refine x_lv [2, 1, 0] rfl ?_
                          exact ih167 (k + 1) (by omega) (by omega)
                    refine x_lve (congrArg (fun zz : Int => ([(3, .int (zI 0)), (0, .ref go), (1, .long (zL zz))] : List (Nat × Value))) (by rw [show j = d by omega]; rfl : mxF b (mxF b (mxF b h 0 15) 18 (4 * n)) 46 (2 * j) = mxF b (mxF b (mxF b (mxF b h 0 15) 18 (4 * n)) 46 (2 * d)) 58 0)) ?_
                    refine x_lv [1, 2, 0] rfl ?_
                    exact L167 _ 0 (by omega) (Nat.lt_succ_self _)
                  · skip
                    have y0 := I32d I (j := 2 * j + 0) (by omega)
                    have y1 := I32d I (j := 2 * j + 1) (by omega)
                    refine x_ldc2 134 rfl (v := zL 31) wX0_digestOn_cl74 dX0_digestOn_131 ?_
                    refine x_lload_n 135 rfl dX0_digestOn_134 1 rfl ?_
                    refine x_lmul 136 rfl dX0_digestOn_135 (z := 31 * (mxF b (mxF b (mxF b h 0 15) 18 (4 * n)) 46 (2 * j))) (rfl) ?_
                    refine x_aload_n 137 rfl dX0_digestOn_136 0 rfl ?_
                    refine x_get 140 rfl (v := .ref (ga 5)) 0 8 rfl rfl (by decide) inX0_digestOn_X0 flX0_digestOn_27 rfl dX0_digestOn_137 ?_
                    refine x_iload_n 141 rfl dX0_digestOn_140 2 rfl ?_
                    refine x_iald 142 rfl 6 j rfl (⟨by omega, by omega⟩) (by decide) (v := b (46 + (2 * j + 0))) ((R.2.2.1 j (by omega)).1) dX0_digestOn_141 ?_
                    refine x_i2l 143 rfl dX0_digestOn_142 (z := (zL (b (46 + (2 * j + 0))))) (zI_i2l (by omega)) ?_
                    refine x_ladd 144 rfl dX0_digestOn_143 (z := (31 * (mxF b (mxF b (mxF b h 0 15) 18 (4 * n)) 46 (2 * j))) + (b (46 + (2 * j + 0)))) (rfl) ?_
                    refine x_lstore_n 145 rfl (lv' := [(1, .long (zL ((31 * (mxF b (mxF b (mxF b h 0 15) 18 (4 * n)) 46 (2 * j))) + (b (46 + (2 * j + 0)))))), (0, .ref go), (3, .int (zI ((j : Nat) : Int)))]) dX0_digestOn_144 (by decide) rfl ?_
                    refine x_ldc2 148 rfl (v := zL 31) wX0_digestOn_cl74 dX0_digestOn_145 ?_
                    refine x_lload_n 149 rfl dX0_digestOn_148 0 rfl ?_
                    refine x_lmul 150 rfl dX0_digestOn_149 (z := 31 * ((31 * (mxF b (mxF b (mxF b h 0 15) 18 (4 * n)) 46 (2 * j))) + (b (46 + (2 * j + 0))))) (rfl) ?_
                    refine x_aload_n 151 rfl dX0_digestOn_150 1 rfl ?_
                    refine x_get 154 rfl (v := .ref (ga 6)) 0 9 rfl rfl (by decide) inX0_digestOn_X0 flX0_digestOn_30 rfl dX0_digestOn_151 ?_
                    refine x_iload_n 155 rfl dX0_digestOn_154 2 rfl ?_
                    refine x_iald 156 rfl 7 j rfl (⟨by omega, by omega⟩) (by decide) (v := b (46 + (2 * j + 1))) ((R.2.2.1 j (by omega)).2) dX0_digestOn_155 ?_
                    refine x_i2l 157 rfl dX0_digestOn_156 (z := (zL (b (46 + (2 * j + 1))))) (zI_i2l (by omega)) ?_
                    refine x_ladd 158 rfl dX0_digestOn_157 (z := (31 * ((31 * (mxF b (mxF b (mxF b h 0 15) 18 (4 * n)) 46 (2 * j))) + (b (46 + (2 * j + 0))))) + (b (46 + (2 * j + 1)))) (rfl) ?_
                    refine x_lstore_n 159 rfl (lv' := [(1, .long (zL ((31 * ((31 * (mxF b (mxF b (mxF b h 0 15) 18 (4 * n)) 46 (2 * j))) + (b (46 + (2 * j + 0))))) + (b (46 + (2 * j + 1)))))), (0, .ref go), (3, .int (zI ((j : Nat) : Int)))]) dX0_digestOn_158 (by decide) rfl ?_
                    refine x_iinc 162 rfl (lv' := [(3, .int (zI ((j + 1 : Nat) : Int))), (1, .long (zL ((31 * ((31 * (mxF b (mxF b (mxF b h 0 15) 18 (4 * n)) 46 (2 * j))) + (b (46 + (2 * j + 0))))) + (b (46 + (2 * j + 1)))))), (0, .ref go)]) dX0_digestOn_159 2 rfl (b := ((j + 1 : Nat) : Int)) (by omega) (by decide) rfl ?_
                    refine x_goto dX0_digestOn_162 (tgt := 123) (by decide) ?_
                    refine x_lve (congrArg (fun zz : Int => ([(3, .int (zI ((j + 1 : Nat) : Int))), (1, .long (zL zz)), (0, .ref go)] : List (Nat × Value))) (by rw [Nat.mul_succ]; rfl : (31 * ((31 * (mxF b (mxF b (mxF b h 0 15) 18 (4 * n)) 46 (2 * j))) + (b (46 + (2 * j + 0))))) + (b (46 + (2 * j + 1))) = mxF b (mxF b (mxF b h 0 15) 18 (4 * n)) 46 (2 * (j + 1)))) ?_
                    refine x_lv [2, 1, 0] rfl ?_
                    exact ih123 (j + 1) (by omega) (by omega)
              refine x_lve (congrArg (fun zz : Int => ([(3, .int (zI 0)), (0, .ref go), (1, .long (zL zz))] : List (Nat × Value))) (by rw [show i = n by omega]; rfl : mxF b (mxF b h 0 15) 18 (4 * i) = mxF b (mxF b (mxF b h 0 15) 18 (4 * n)) 46 (2 * 0))) ?_
              refine x_lv [1, 2, 0] rfl ?_
              exact L123 _ 0 (by omega) (Nat.lt_succ_self _)
            · skip
              have z0 := I32p I (j := 4 * i + 0) (by omega)
              have z1 := I32p I (j := 4 * i + 1) (by omega)
              have z2 := I32p I (j := 4 * i + 2) (by omega)
              have z3 := I32p I (j := 4 * i + 3) (by omega)
              refine x_ldc2 62 rfl (v := zL 31) wX0_digestOn_cl74 dX0_digestOn_59 ?_
              refine x_lload_n 63 rfl dX0_digestOn_62 1 rfl ?_
              refine x_lmul 64 rfl dX0_digestOn_63 (z := 31 * (mxF b (mxF b h 0 15) 18 (4 * i))) (rfl) ?_
              refine x_aload_n 65 rfl dX0_digestOn_64 0 rfl ?_
              refine x_get 68 rfl (v := .ref (ga 1)) 0 4 rfl rfl (by decide) inX0_digestOn_X0 flX0_digestOn_15 rfl dX0_digestOn_65 ?_
              refine x_iload_n 69 rfl dX0_digestOn_68 2 rfl ?_
              refine x_iald 70 rfl 2 i rfl (⟨by omega, by omega⟩) (by decide) (v := b (18 + (4 * i + 0))) ((R.2.1 i (by omega)).1) dX0_digestOn_69 ?_
              refine x_i2l 71 rfl dX0_digestOn_70 (z := (zL (b (18 + (4 * i + 0))))) (zI_i2l (by omega)) ?_
              refine x_ladd 72 rfl dX0_digestOn_71 (z := (31 * (mxF b (mxF b h 0 15) 18 (4 * i))) + (b (18 + (4 * i + 0)))) (rfl) ?_
              refine x_lstore_n 73 rfl (lv' := [(1, .long (zL ((31 * (mxF b (mxF b h 0 15) 18 (4 * i))) + (b (18 + (4 * i + 0)))))), (0, .ref go), (3, .int (zI ((i : Nat) : Int)))]) dX0_digestOn_72 (by decide) rfl ?_
              refine x_ldc2 76 rfl (v := zL 31) wX0_digestOn_cl74 dX0_digestOn_73 ?_
              refine x_lload_n 77 rfl dX0_digestOn_76 0 rfl ?_
              refine x_lmul 78 rfl dX0_digestOn_77 (z := 31 * ((31 * (mxF b (mxF b h 0 15) 18 (4 * i))) + (b (18 + (4 * i + 0))))) (rfl) ?_
              refine x_aload_n 79 rfl dX0_digestOn_78 1 rfl ?_
              refine x_get 82 rfl (v := .ref (ga 2)) 0 5 rfl rfl (by decide) inX0_digestOn_X0 flX0_digestOn_18 rfl dX0_digestOn_79 ?_
              refine x_iload_n 83 rfl dX0_digestOn_82 2 rfl ?_
              refine x_iald 84 rfl 3 i rfl (⟨by omega, by omega⟩) (by decide) (v := b (18 + (4 * i + 1))) ((R.2.1 i (by omega)).2.1) dX0_digestOn_83 ?_
              refine x_i2l 85 rfl dX0_digestOn_84 (z := (zL (b (18 + (4 * i + 1))))) (zI_i2l (by omega)) ?_
              refine x_ladd 86 rfl dX0_digestOn_85 (z := (31 * ((31 * (mxF b (mxF b h 0 15) 18 (4 * i))) + (b (18 + (4 * i + 0))))) + (b (18 + (4 * i + 1)))) (rfl) ?_
              refine x_lstore_n 87 rfl (lv' := [(1, .long (zL ((31 * ((31 * (mxF b (mxF b h 0 15) 18 (4 * i))) + (b (18 + (4 * i + 0))))) + (b (18 + (4 * i + 1)))))), (0, .ref go), (3, .int (zI ((i : Nat) : Int)))]) dX0_digestOn_86 (by decide) rfl ?_
              refine x_ldc2 90 rfl (v := zL 31) wX0_digestOn_cl74 dX0_digestOn_87 ?_
              refine x_lload_n 91 rfl dX0_digestOn_90 0 rfl ?_
              refine x_lmul 92 rfl dX0_digestOn_91 (z := 31 * ((31 * ((31 * (mxF b (mxF b h 0 15) 18 (4 * i))) + (b (18 + (4 * i + 0))))) + (b (18 + (4 * i + 1))))) (rfl) ?_
              refine x_aload_n 93 rfl dX0_digestOn_92 1 rfl ?_
              refine x_get 96 rfl (v := .ref (ga 3)) 0 6 rfl rfl (by decide) inX0_digestOn_X0 flX0_digestOn_21 rfl dX0_digestOn_93 ?_
              refine x_iload_n 97 rfl dX0_digestOn_96 2 rfl ?_
              refine x_iald 98 rfl 4 i rfl (⟨by omega, by omega⟩) (by decide) (v := b (18 + (4 * i + 2))) ((R.2.1 i (by omega)).2.2.1) dX0_digestOn_97 ?_
              refine x_i2l 99 rfl dX0_digestOn_98 (z := (zL (b (18 + (4 * i + 2))))) (zI_i2l (by omega)) ?_
              refine x_ladd 100 rfl dX0_digestOn_99 (z := (31 * ((31 * ((31 * (mxF b (mxF b h 0 15) 18 (4 * i))) + (b (18 + (4 * i + 0))))) + (b (18 + (4 * i + 1))))) + (b (18 + (4 * i + 2)))) (rfl) ?_
              refine x_lstore_n 101 rfl (lv' := [(1, .long (zL ((31 * ((31 * ((31 * (mxF b (mxF b h 0 15) 18 (4 * i))) + (b (18 + (4 * i + 0))))) + (b (18 + (4 * i + 1))))) + (b (18 + (4 * i + 2)))))), (0, .ref go), (3, .int (zI ((i : Nat) : Int)))]) dX0_digestOn_100 (by decide) rfl ?_
              refine x_ldc2 104 rfl (v := zL 31) wX0_digestOn_cl74 dX0_digestOn_101 ?_
              refine x_lload_n 105 rfl dX0_digestOn_104 0 rfl ?_
              refine x_lmul 106 rfl dX0_digestOn_105 (z := 31 * ((31 * ((31 * ((31 * (mxF b (mxF b h 0 15) 18 (4 * i))) + (b (18 + (4 * i + 0))))) + (b (18 + (4 * i + 1))))) + (b (18 + (4 * i + 2))))) (rfl) ?_
              refine x_aload_n 107 rfl dX0_digestOn_106 1 rfl ?_
              refine x_get 110 rfl (v := .ref (ga 4)) 0 7 rfl rfl (by decide) inX0_digestOn_X0 flX0_digestOn_24 rfl dX0_digestOn_107 ?_
              refine x_iload_n 111 rfl dX0_digestOn_110 2 rfl ?_
              refine x_iald 112 rfl 5 i rfl (⟨by omega, by omega⟩) (by decide) (v := b (18 + (4 * i + 3))) ((R.2.1 i (by omega)).2.2.2) dX0_digestOn_111 ?_
              refine x_i2l 113 rfl dX0_digestOn_112 (z := (zL (b (18 + (4 * i + 3))))) (zI_i2l (by omega)) ?_
              refine x_ladd 114 rfl dX0_digestOn_113 (z := (31 * ((31 * ((31 * ((31 * (mxF b (mxF b h 0 15) 18 (4 * i))) + (b (18 + (4 * i + 0))))) + (b (18 + (4 * i + 1))))) + (b (18 + (4 * i + 2))))) + (b (18 + (4 * i + 3)))) (rfl) ?_
              refine x_lstore_n 115 rfl (lv' := [(1, .long (zL ((31 * ((31 * ((31 * ((31 * (mxF b (mxF b h 0 15) 18 (4 * i))) + (b (18 + (4 * i + 0))))) + (b (18 + (4 * i + 1))))) + (b (18 + (4 * i + 2))))) + (b (18 + (4 * i + 3)))))), (0, .ref go), (3, .int (zI ((i : Nat) : Int)))]) dX0_digestOn_114 (by decide) rfl ?_
              refine x_iinc 118 rfl (lv' := [(3, .int (zI ((i + 1 : Nat) : Int))), (1, .long (zL ((31 * ((31 * ((31 * ((31 * (mxF b (mxF b h 0 15) 18 (4 * i))) + (b (18 + (4 * i + 0))))) + (b (18 + (4 * i + 1))))) + (b (18 + (4 * i + 2))))) + (b (18 + (4 * i + 3)))))), (0, .ref go)]) dX0_digestOn_115 2 rfl (b := ((i + 1 : Nat) : Int)) (by omega) (by decide) rfl ?_
              refine x_goto dX0_digestOn_118 (tgt := 51) (by decide) ?_
              refine x_lve (congrArg (fun zz : Int => ([(3, .int (zI ((i + 1 : Nat) : Int))), (1, .long (zL zz)), (0, .ref go)] : List (Nat × Value))) (by rw [Nat.mul_succ]; rfl : (31 * ((31 * ((31 * ((31 * (mxF b (mxF b h 0 15) 18 (4 * i))) + (b (18 + (4 * i + 0))))) + (b (18 + (4 * i + 1))))) + (b (18 + (4 * i + 2))))) + (b (18 + (4 * i + 3))) = mxF b (mxF b h 0 15) 18 (4 * (i + 1)))) ?_
              refine x_lv [2, 1, 0] rfl ?_
              exact ih51 (i + 1) (by omega) (by omega)
        refine x_lve (congrArg (fun zz : Int => ([(3, .int (zI 0)), (0, .ref go), (1, .long (zL zz))] : List (Nat × Value))) (by rw [show p = 6 by omega]; rfl : mxF b h 0 (p * (p - 1) / 2) = mxF b (mxF b h 0 15) 18 (4 * 0))) ?_
        refine x_lv [1, 2, 0] rfl ?_
        exact L51 _ 0 (by omega) (Nat.lt_succ_self _)
      · skip
        refine x_iconst 9 rfl dX0_digestOn_8 (z := 0) (by decide) ?_
        refine x_istore 11 rfl (lv' := [(4, .int (zI 0)), (0, .ref go), (1, .long (zL (mxF b h 0 (p * (p - 1) / 2)))), (3, .int (zI ((p : Nat) : Int)))]) dX0_digestOn_9 (by decide) rfl ?_
        have L11 : ∀ (f11 : Nat) (q : Nat) (hq : q ≤ p), p - q < f11 → W_X0_digestOn G E go ga b n d c gf h 11 [(0, .ref go), (1, .long (zL (mxF b h 0 (p * (p - 1) / 2 + q)))), (3, .int (zI ((p : Nat) : Int))), (4, .int (zI ((q : Nat) : Int)))] [] ([(go, goE ga ((n : Nat) : Int) ((d : Nat) : Int) ((c : Nat) : Int)), (ga 0, aI G 36 (gf 0)), (ga 1, aI G 7 (gf 1)), (ga 2, aI G 7 (gf 2)), (ga 3, aI G 7 (gf 3)), (ga 4, aI G 7 (gf 4)), (ga 5, aI G 6 (gf 5)), (ga 6, aI G 6 (gf 6)), (ga 7, aI G 8 (gf 7))]) := by
          intro f11
          induction f11 with
          | zero => intro q hq hf11; exact absurd hf11 (Nat.not_lt_zero _)
          | succ f11 ih11 =>
            intro q hq hf11
            refine x_iload 13 rfl dX0_digestOn_11 3 rfl ?_
            refine x_iload_n 14 rfl dX0_digestOn_13 2 rfl ?_
            refine x_icmp_ge 17 rfl (tgt := 43) dX0_digestOn_14 (by decide) (by omega) (by omega) (fun h14 => ?_) (fun h14 => ?_)
            · skip
              refine x_iinc 46 rfl (lv' := [(3, .int (zI ((p + 1 : Nat) : Int))), (0, .ref go), (1, .long (zL (mxF b h 0 (p * (p - 1) / 2 + q)))), (4, .int (zI ((q : Nat) : Int)))]) dX0_digestOn_43 2 rfl (b := ((p + 1 : Nat) : Int)) (by omega) (by decide) rfl ?_
              refine x_goto dX0_digestOn_46 (tgt := 2) (by decide) ?_
              refine x_lve (congrArg (fun zz : Int => ([(3, .int (zI ((p + 1 : Nat) : Int))), (0, .ref go), (1, .long (zL zz)), (4, .int (zI ((q : Nat) : Int)))] : List (Nat × Value))) (by rw [show q = p by omega, tri6 (by omega)] : mxF b h 0 (p * (p - 1) / 2 + q) = mxF b h 0 ((p + 1) * (p + 1 - 1) / 2))) ?_
              refine x_lv [1, 2, 0] rfl ?_
              exact ih2 (p + 1) (by omega) (by omega) (by omega)
            · skip
              have ht := tri_lt6 (p := p) (q := q) (by omega) (by omega)
              have hw := I.w (k := 0 + (p * (p - 1) / 2 + q)) (by omega)
              refine x_ldc2 20 rfl (v := zL 31) wX0_digestOn_cl74 dX0_digestOn_17 ?_
              refine x_lload_n 21 rfl dX0_digestOn_20 1 rfl ?_
              refine x_lmul 22 rfl dX0_digestOn_21 (z := 31 * (mxF b h 0 (p * (p - 1) / 2 + q))) (rfl) ?_
              refine x_aload_n 23 rfl dX0_digestOn_22 0 rfl ?_
              refine x_get 26 rfl (v := .ref (ga 0)) 0 3 rfl rfl (by decide) inX0_digestOn_X0 flX0_digestOn_9 rfl dX0_digestOn_23 ?_
              refine x_iload_n 27 rfl dX0_digestOn_26 2 rfl ?_
              refine x_bipush 29 rfl dX0_digestOn_27 (z := 6) (by decide) ?_
              refine x_imul 30 rfl dX0_digestOn_29 (z := ((p * 6 : Nat) : Int)) (by omega) ?_
              refine x_iload 32 rfl dX0_digestOn_30 3 rfl ?_
              refine x_iadd 33 rfl dX0_digestOn_32 (z := ((p * 6 + q : Nat) : Int)) (by omega) ?_
              refine x_iald 34 rfl 1 (p * 6 + q) rfl (⟨by omega, by omega⟩) (by decide) (v := b (0 + (p * (p - 1) / 2 + q))) (GR_tri R (by omega) (by omega)) dX0_digestOn_33 ?_
              refine x_i2l 35 rfl dX0_digestOn_34 (z := (zL (b (0 + (p * (p - 1) / 2 + q))))) (zI_i2l (by omega)) ?_
              refine x_ladd 36 rfl dX0_digestOn_35 (z := (31 * (mxF b h 0 (p * (p - 1) / 2 + q))) + (b (0 + (p * (p - 1) / 2 + q)))) (rfl) ?_
              refine x_lstore_n 37 rfl (lv' := [(1, .long (zL ((31 * (mxF b h 0 (p * (p - 1) / 2 + q))) + (b (0 + (p * (p - 1) / 2 + q)))))), (0, .ref go), (3, .int (zI ((p : Nat) : Int))), (4, .int (zI ((q : Nat) : Int)))]) dX0_digestOn_36 (by decide) rfl ?_
              refine x_iinc 40 rfl (lv' := [(4, .int (zI ((q + 1 : Nat) : Int))), (1, .long (zL ((31 * (mxF b h 0 (p * (p - 1) / 2 + q))) + (b (0 + (p * (p - 1) / 2 + q)))))), (0, .ref go), (3, .int (zI ((p : Nat) : Int)))]) dX0_digestOn_37 3 rfl (b := ((q + 1 : Nat) : Int)) (by omega) (by decide) rfl ?_
              refine x_goto dX0_digestOn_40 (tgt := 11) (by decide) ?_
              refine x_lve (congrArg (fun zz : Int => ([(4, .int (zI ((q + 1 : Nat) : Int))), (1, .long (zL zz)), (0, .ref go), (3, .int (zI ((p : Nat) : Int)))] : List (Nat × Value))) (rfl : (31 * (mxF b h 0 (p * (p - 1) / 2 + q))) + (b (0 + (p * (p - 1) / 2 + q))) = mxF b h 0 (p * (p - 1) / 2 + (q + 1)))) ?_
              refine x_lv [2, 1, 3, 0] rfl ?_
              exact ih11 (q + 1) (by omega) (by omega)
        refine x_lve (congrArg (fun zz : Int => ([(4, .int (zI 0)), (0, .ref go), (1, .long (zL zz)), (3, .int (zI ((p : Nat) : Int)))] : List (Nat × Value))) (rfl : mxF b h 0 (p * (p - 1) / 2) = mxF b h 0 (p * (p - 1) / 2 + 0))) ?_
        refine x_lv [1, 2, 3, 0] rfl ?_
        exact L11 _ 0 (by omega) (Nat.lt_succ_self _)
  refine x_lve (congrArg (fun zz : Int => ([(3, .int (zI 1)), (0, .ref go), (1, .long (zL zz))] : List (Nat × Value))) (rfl : h = mxF b h 0 (1 * (1 - 1) / 2))) ?_
  refine x_lv [1, 2, 0] rfl ?_
  exact L2 _ 1 (by omega) (by omega) (Nat.lt_succ_self _)

theorem emp_up {i j : Nat} (hi : i < 6) (hj : j < 6) : upN empB i j = if i = j then 3 else -1 := by
  by_cases e : i = j
  · subst e; unfold upN; rw [if_pos rfl, if_pos rfl]
  · rw [upN_ix e, if_neg e]; exact if_pos (hIx_lt hi hj e)
abbrev P_X0_empty (G : XG) (go : Nat) (ga : Nat → Nat) (b : Nat → Int) (n : Nat) (d : Nat) (c : Nat) (gf : Nat → Nat → Int) : Option Value → va_W → Prop := fun r ws => ∃ gf' : Nat → Nat → Int, r = none ∧ ws = [(go, goE ga 0 0 0), (ga 0, aI G 36 (gf' 0)), (ga 1, aI G 7 (gf' 1)), (ga 2, aI G 7 (gf' 2)), (ga 3, aI G 7 (gf' 3)), (ga 4, aI G 7 (gf' 4)), (ga 5, aI G 6 (gf' 5)), (ga 6, aI G 6 (gf' 6)), (ga 7, aI G 8 (gf' 7))] ∧ GR empB 0 0 0 gf'
abbrev W_X0_empty (G : XG) (E : XE) (go : Nat) (ga : Nat → Nat) (b : Nat → Int) (n : Nat) (d : Nat) (c : Nat) (gf : Nat → Nat → Int) (pc : Nat) (lv : List (Nat × Value)) (st : List Value) (ws : va_W) : Prop := Wx G E (rmL 0) cX0_empty 3 RX0 wsX0_empty none "empty" 0 0 (P_X0_empty G go ga b n d c gf) 0 0 pc lv st ws
theorem flX0_empty_9 : Cond.fieldLink RX0 9 (TX0 3).1 (TX0 3).2.1 (TX0 3).2.2.1 ∈ wsX0_empty := by decide +kernel
theorem flX0_empty_39 : Cond.fieldLink RX0 39 (TX0 0).1 (TX0 0).2.1 (TX0 0).2.2.1 ∈ wsX0_empty := by decide +kernel
theorem flX0_empty_43 : Cond.fieldLink RX0 43 (TX0 1).1 (TX0 1).2.1 (TX0 1).2.2.1 ∈ wsX0_empty := by decide +kernel
theorem flX0_empty_46 : Cond.fieldLink RX0 46 (TX0 2).1 (TX0 2).2.1 (TX0 2).2.2.1 ∈ wsX0_empty := by decide +kernel
theorem inX0_empty_X0 : ∀ w ∈ u_ws RX0 TX0 11, w ∈ wsX0_empty := fun _ h => List.mem_cons_of_mem _ (List.mem_append_right _ h)
set_option maxHeartbeats 4000000 in
set_option maxRecDepth 100000 in
/-- empty -/
theorem c_X0_empty (G : XG) (go : Nat) (ga : Nat → Nat) (b : Nat → Int) (n d c : Nat) (gf : Nat → Nat → Int)  : Con G yX0_empty wsX0_empty (rmL 0) 0 0 [.ref go] ([(go, goE ga ((n : Nat) : Int) ((d : Nat) : Int) ((c : Nat) : Int)), (ga 0, aI G 36 (gf 0)), (ga 1, aI G 7 (gf 1)), (ga 2, aI G 7 (gf 2)), (ga 3, aI G 7 (gf 3)), (ga 4, aI G 7 (gf 4)), (ga 5, aI G 6 (gf 5)), (ga 6, aI G 6 (gf 6)), (ga 7, aI G 8 (gf 7))]) (P_X0_empty G go ga b n d c gf) := by
  refine x_start (cc := cX0_empty) (nL := 3) (ret := none) (by decide) rfl (Nat.le_of_ble_eq_true rfl) (fun E => ?_)
  show W_X0_empty G E go ga b n d c gf 0 [(0, .ref go)] [] ([(go, goE ga ((n : Nat) : Int) ((d : Nat) : Int) ((c : Nat) : Int)), (ga 0, aI G 36 (gf 0)), (ga 1, aI G 7 (gf 1)), (ga 2, aI G 7 (gf 2)), (ga 3, aI G 7 (gf 3)), (ga 4, aI G 7 (gf 4)), (ga 5, aI G 6 (gf 5)), (ga 6, aI G 6 (gf 6)), (ga 7, aI G 8 (gf 7))])
  refine x_aload_n 1 rfl dX0_empty_0 0 rfl ?_
  refine x_iconst 2 rfl dX0_empty_1 (z := 0) (by decide) ?_
  refine x_put 5 rfl 0 0 rfl rfl (by decide) inX0_empty_X0 flX0_empty_39 tyX0_ok nmX0 rfl rfl rfl rfl (Nat.le_of_ble_eq_true rfl) (ws' := [(go, goE ga 0 ((d : Nat) : Int) ((c : Nat) : Int)), (ga 0, aI G 36 (gf 0)), (ga 1, aI G 7 (gf 1)), (ga 2, aI G 7 (gf 2)), (ga 3, aI G 7 (gf 3)), (ga 4, aI G 7 (gf 4)), (ga 5, aI G 6 (gf 5)), (ga 6, aI G 6 (gf 6)), (ga 7, aI G 8 (gf 7))]) rfl dX0_empty_2 ?_
  refine x_aload_n 6 rfl dX0_empty_5 0 rfl ?_
  refine x_iconst 7 rfl dX0_empty_6 (z := 0) (by decide) ?_
  refine x_put 10 rfl 0 1 rfl rfl (by decide) inX0_empty_X0 flX0_empty_43 tyX0_ok nmX0 rfl rfl rfl rfl (Nat.le_of_ble_eq_true rfl) (ws' := [(go, goE ga 0 0 ((c : Nat) : Int)), (ga 0, aI G 36 (gf 0)), (ga 1, aI G 7 (gf 1)), (ga 2, aI G 7 (gf 2)), (ga 3, aI G 7 (gf 3)), (ga 4, aI G 7 (gf 4)), (ga 5, aI G 6 (gf 5)), (ga 6, aI G 6 (gf 6)), (ga 7, aI G 8 (gf 7))]) rfl dX0_empty_7 ?_
  refine x_aload_n 11 rfl dX0_empty_10 0 rfl ?_
  refine x_iconst 12 rfl dX0_empty_11 (z := 0) (by decide) ?_
  refine x_put 15 rfl 0 2 rfl rfl (by decide) inX0_empty_X0 flX0_empty_46 tyX0_ok nmX0 rfl rfl rfl rfl (Nat.le_of_ble_eq_true rfl) (ws' := [(go, goE ga 0 0 0), (ga 0, aI G 36 (gf 0)), (ga 1, aI G 7 (gf 1)), (ga 2, aI G 7 (gf 2)), (ga 3, aI G 7 (gf 3)), (ga 4, aI G 7 (gf 4)), (ga 5, aI G 6 (gf 5)), (ga 6, aI G 6 (gf 6)), (ga 7, aI G 8 (gf 7))]) rfl dX0_empty_12 ?_
  refine x_iconst 16 rfl dX0_empty_15 (z := 0) (by decide) ?_
  refine x_istore_n 17 rfl (lv' := [(1, .int (zI 0)), (0, .ref go)]) dX0_empty_16 (by decide) rfl ?_
  have L17 : ∀ (f17 : Nat) (p : Nat) (f : Nat → Int) (hp : p ≤ 6) (hf : ∀ i j, i < p → j < 6 → f (i * 6 + j) = if i = j then 3 else -1), 6 - p < f17 → W_X0_empty G E go ga b n d c gf 17 [(0, .ref go), (1, .int (zI ((p : Nat) : Int)))] [] ([(go, goE ga 0 0 0), (ga 0, aI G 36 f), (ga 1, aI G 7 (gf 1)), (ga 2, aI G 7 (gf 2)), (ga 3, aI G 7 (gf 3)), (ga 4, aI G 7 (gf 4)), (ga 5, aI G 6 (gf 5)), (ga 6, aI G 6 (gf 6)), (ga 7, aI G 8 (gf 7))]) := by
    intro f17
    induction f17 with
    | zero => intro p f hp hf hf17; exact absurd hf17 (Nat.not_lt_zero _)
    | succ f17 ih17 =>
      intro p f hp hf hf17
      refine x_iload_n 18 rfl dX0_empty_17 1 rfl ?_
      refine x_bipush 20 rfl dX0_empty_18 (z := 6) (by decide) ?_
      refine x_icmp_ge 23 rfl (tgt := 64) dX0_empty_20 (by decide) (by omega) (by decide) (fun h20 => ?_) (fun h20 => ?_)
      · skip
        refine x_vret rfl ?_ dX0_empty_64
        exact ⟨zup gf 0 f, rfl, rfl, ⟨fun i j hi hj => (hf i j (by omega) hj).trans (emp_up hi hj).symm, fun i hi => absurd hi (Nat.not_lt_zero _), fun i hi => absurd hi (Nat.not_lt_zero _), fun i hi => absurd hi (Nat.not_lt_zero _)⟩⟩
      · skip
        refine x_iconst 24 rfl dX0_empty_23 (z := 0) (by decide) ?_
        refine x_istore_n 25 rfl (lv' := [(2, .int (zI 0)), (0, .ref go), (1, .int (zI ((p : Nat) : Int)))]) dX0_empty_24 (by decide) rfl ?_
        have L25 : ∀ (f25 : Nat) (q : Nat) (f : Nat → Int) (hq : q ≤ 6) (hf : ∀ i j, (i < p ∧ j < 6) ∨ (i = p ∧ j < q) → f (i * 6 + j) = if i = j then 3 else -1), 6 - q < f25 → W_X0_empty G E go ga b n d c gf 25 [(0, .ref go), (1, .int (zI ((p : Nat) : Int))), (2, .int (zI ((q : Nat) : Int)))] [] ([(go, goE ga 0 0 0), (ga 0, aI G 36 f), (ga 1, aI G 7 (gf 1)), (ga 2, aI G 7 (gf 2)), (ga 3, aI G 7 (gf 3)), (ga 4, aI G 7 (gf 4)), (ga 5, aI G 6 (gf 5)), (ga 6, aI G 6 (gf 6)), (ga 7, aI G 8 (gf 7))]) := by
          intro f25
          induction f25 with
          | zero => intro q f hq hf hf25; exact absurd hf25 (Nat.not_lt_zero _)
          | succ f25 ih25 =>
            intro q f hq hf hf25
            refine x_iload_n 26 rfl dX0_empty_25 2 rfl ?_
            refine x_bipush 28 rfl dX0_empty_26 (z := 6) (by decide) ?_
            refine x_icmp_ge 31 rfl (tgt := 58) dX0_empty_28 (by decide) (by omega) (by decide) (fun h28 => ?_) (fun h28 => ?_)
            · skip
              refine x_iinc 61 rfl (lv' := [(1, .int (zI ((p + 1 : Nat) : Int))), (0, .ref go), (2, .int (zI ((q : Nat) : Int)))]) dX0_empty_58 1 rfl (b := ((p + 1 : Nat) : Int)) (by omega) (by decide) rfl ?_
              refine x_goto dX0_empty_61 (tgt := 17) (by decide) ?_
              refine x_lv [1, 0] rfl ?_
              exact ih17 (p + 1) f (by omega) (fun i j hi hj => hf i j (by omega)) (by omega)
            · skip
              refine x_aload_n 32 rfl dX0_empty_31 0 rfl ?_
              refine x_get 35 rfl (v := .ref (ga 0)) 0 3 rfl rfl (by decide) inX0_empty_X0 flX0_empty_9 rfl dX0_empty_32 ?_
              refine x_iload_n 36 rfl dX0_empty_35 1 rfl ?_
              refine x_bipush 38 rfl dX0_empty_36 (z := 6) (by decide) ?_
              refine x_imul 39 rfl dX0_empty_38 (z := ((p * 6 : Nat) : Int)) (by omega) ?_
              refine x_iload_n 40 rfl dX0_empty_39 2 rfl ?_
              refine x_iadd 41 rfl dX0_empty_40 (z := ((p * 6 + q : Nat) : Int)) (by omega) ?_
              refine x_iload_n 42 rfl dX0_empty_41 1 rfl ?_
              refine x_iload_n 43 rfl dX0_empty_42 2 rfl ?_
              refine x_icmp_ne 46 rfl (tgt := 50) dX0_empty_43 (by decide) (by omega) (by omega) (fun h43 => ?_) (fun h43 => ?_)
              · skip
                refine x_iconst 51 rfl dX0_empty_50 (z := (-1)) (by decide) ?_
                refine x_iast 52 rfl 1 (p * 6 + q) rfl (⟨by omega, by omega⟩) (by decide) (ws' := [(go, goE ga 0 0 0), (ga 0, aI G 36 (zup f (p * 6 + q) (-1))), (ga 1, aI G 7 (gf 1)), (ga 2, aI G 7 (gf 2)), (ga 3, aI G 7 (gf 3)), (ga 4, aI G 7 (gf 4)), (ga 5, aI G 6 (gf 5)), (ga 6, aI G 6 (gf 6)), (ga 7, aI G 8 (gf 7))]) (rfl) dX0_empty_51 ?_
                refine x_iinc 55 rfl (lv' := [(2, .int (zI ((q + 1 : Nat) : Int))), (0, .ref go), (1, .int (zI ((p : Nat) : Int)))]) dX0_empty_52 2 rfl (b := ((q + 1 : Nat) : Int)) (by omega) (by decide) rfl ?_
                refine x_goto dX0_empty_55 (tgt := 25) (by decide) ?_
                refine x_lv [1, 2, 0] rfl ?_
                exact ih25 (q + 1) (zup f (p * 6 + q) (-1)) (by omega) (fun i j h => by
                    by_cases e : i = p ∧ j = q
                    · obtain ⟨rfl, rfl⟩ := e; rw [zup_s]; first | rw [if_pos (by omega)] | rw [if_neg (by omega)]
                    · rw [zup_n _ _ (by omega)]; exact hf i j (by omega)) (by omega)
              · skip
                refine x_iconst 47 rfl dX0_empty_46 (z := 3) (by decide) ?_
                refine x_goto dX0_empty_47 (tgt := 51) (by decide) ?_
                refine x_iast 52 rfl 1 (p * 6 + q) rfl (⟨by omega, by omega⟩) (by decide) (ws' := [(go, goE ga 0 0 0), (ga 0, aI G 36 (zup f (p * 6 + q) 3)), (ga 1, aI G 7 (gf 1)), (ga 2, aI G 7 (gf 2)), (ga 3, aI G 7 (gf 3)), (ga 4, aI G 7 (gf 4)), (ga 5, aI G 6 (gf 5)), (ga 6, aI G 6 (gf 6)), (ga 7, aI G 8 (gf 7))]) (rfl) dX0_empty_51 ?_
                refine x_iinc 55 rfl (lv' := [(2, .int (zI ((q + 1 : Nat) : Int))), (0, .ref go), (1, .int (zI ((p : Nat) : Int)))]) dX0_empty_52 2 rfl (b := ((q + 1 : Nat) : Int)) (by omega) (by decide) rfl ?_
                refine x_goto dX0_empty_55 (tgt := 25) (by decide) ?_
                refine x_lv [1, 2, 0] rfl ?_
                exact ih25 (q + 1) (zup f (p * 6 + q) 3) (by omega) (fun i j h => by
                    by_cases e : i = p ∧ j = q
                    · obtain ⟨rfl, rfl⟩ := e; rw [zup_s]; first | rw [if_pos (by omega)] | rw [if_neg (by omega)]
                    · rw [zup_n _ _ (by omega)]; exact hf i j (by omega)) (by omega)
        refine x_lv [1, 2, 0] rfl ?_
        exact L25 _ 0 f (by omega) (fun i j h => hf i j (by omega) (by omega)) (Nat.lt_succ_self _)
  refine x_lv [1, 0] rfl ?_
  exact L17 _ 0 (gf 0) (by omega) (fun i j hi _ => absurd hi (Nat.not_lt_zero _)) (Nat.lt_succ_self _)

def glN (i : Nat) : Nat := if i = 0 then 36 else if i < 5 then 7 else if i < 7 then 6 else 8
theorem zcp0 {f g : Nat → Int} {n k : Nat} (h : k < n) : zcp f g 0 0 n k = f k := by
  unfold zcp; rw [if_pos (by omega), Nat.zero_add, Nat.sub_zero]
theorem GR_cp {b : Nat → Int} {n d c : Nat} {gf hf : Nat → Nat → Int} (R : GR b n d c hf) (I : Inv b n d c) : GR b n d c (fun i => zcp (hf i) (gf i) 0 0 (glN i)) := by
  have hn7 := I.n7; have hd6 := I.d6; have hc8 := I.c8
  refine ⟨fun i j hi hj => (zcp0 (n := 36) (by omega)).trans (R.1 i j hi hj), fun i hi => ?_, fun i hi => ?_, fun i hi => (zcp0 (n := 8) (by omega)).trans (R.2.2.2 i hi)⟩
  · have h := R.2.1 i hi
    exact ⟨(zcp0 (n := 7) (by omega)).trans h.1, (zcp0 (n := 7) (by omega)).trans h.2.1, (zcp0 (n := 7) (by omega)).trans h.2.2.1, (zcp0 (n := 7) (by omega)).trans h.2.2.2⟩
  · have h := R.2.2.1 i hi
    exact ⟨(zcp0 (n := 6) (by omega)).trans h.1, (zcp0 (n := 6) (by omega)).trans h.2⟩
abbrev P_X0_become (G : XG) (go : Nat) (ho : Nat) (ga : Nat → Nat) (ha : Nat → Nat) (b : Nat → Int) (n : Nat) (d : Nat) (c : Nat) (n' : Nat) (d' : Nat) (c' : Nat) (gf : Nat → Nat → Int) (hf : Nat → Nat → Int) : Option Value → va_W → Prop := fun r ws => ∃ gf' : Nat → Nat → Int, r = none ∧ ws = [(go, goE ga ((n : Nat) : Int) ((d : Nat) : Int) ((c : Nat) : Int)), (ga 0, aI G 36 (gf' 0)), (ga 1, aI G 7 (gf' 1)), (ga 2, aI G 7 (gf' 2)), (ga 3, aI G 7 (gf' 3)), (ga 4, aI G 7 (gf' 4)), (ga 5, aI G 6 (gf' 5)), (ga 6, aI G 6 (gf' 6)), (ga 7, aI G 8 (gf' 7)), (ho, goE ha ((n : Nat) : Int) ((d : Nat) : Int) ((c : Nat) : Int)), (ha 0, aI G 36 (hf 0)), (ha 1, aI G 7 (hf 1)), (ha 2, aI G 7 (hf 2)), (ha 3, aI G 7 (hf 3)), (ha 4, aI G 7 (hf 4)), (ha 5, aI G 6 (hf 5)), (ha 6, aI G 6 (hf 6)), (ha 7, aI G 8 (hf 7))] ∧ GR b n d c gf'
abbrev W_X0_become (G : XG) (E : XE) (go : Nat) (ho : Nat) (ga : Nat → Nat) (ha : Nat → Nat) (b : Nat → Int) (n : Nat) (d : Nat) (c : Nat) (n' : Nat) (d' : Nat) (c' : Nat) (gf : Nat → Nat → Int) (hf : Nat → Nat → Int) (pc : Nat) (lv : List (Nat × Value)) (st : List Value) (ws : va_W) : Prop := Wx G E (rmL 1) cX0_become 2 RX0 wsX0_become none "become" 0 0 (P_X0_become G go ho ga ha b n d c n' d' c' gf hf) 0 0 pc lv st ws
theorem flX0_become_9 : Cond.fieldLink RX0 9 (TX0 3).1 (TX0 3).2.1 (TX0 3).2.2.1 ∈ wsX0_become := by decide +kernel
theorem flX0_become_15 : Cond.fieldLink RX0 15 (TX0 4).1 (TX0 4).2.1 (TX0 4).2.2.1 ∈ wsX0_become := by decide +kernel
theorem flX0_become_18 : Cond.fieldLink RX0 18 (TX0 5).1 (TX0 5).2.1 (TX0 5).2.2.1 ∈ wsX0_become := by decide +kernel
theorem flX0_become_21 : Cond.fieldLink RX0 21 (TX0 6).1 (TX0 6).2.1 (TX0 6).2.2.1 ∈ wsX0_become := by decide +kernel
theorem flX0_become_24 : Cond.fieldLink RX0 24 (TX0 7).1 (TX0 7).2.1 (TX0 7).2.2.1 ∈ wsX0_become := by decide +kernel
theorem flX0_become_27 : Cond.fieldLink RX0 27 (TX0 8).1 (TX0 8).2.1 (TX0 8).2.2.1 ∈ wsX0_become := by decide +kernel
theorem flX0_become_30 : Cond.fieldLink RX0 30 (TX0 9).1 (TX0 9).2.1 (TX0 9).2.2.1 ∈ wsX0_become := by decide +kernel
theorem flX0_become_33 : Cond.fieldLink RX0 33 (TX0 10).1 (TX0 10).2.1 (TX0 10).2.2.1 ∈ wsX0_become := by decide +kernel
theorem flX0_become_39 : Cond.fieldLink RX0 39 (TX0 0).1 (TX0 0).2.1 (TX0 0).2.2.1 ∈ wsX0_become := by decide +kernel
theorem flX0_become_43 : Cond.fieldLink RX0 43 (TX0 1).1 (TX0 1).2.1 (TX0 1).2.2.1 ∈ wsX0_become := by decide +kernel
theorem flX0_become_46 : Cond.fieldLink RX0 46 (TX0 2).1 (TX0 2).2.1 (TX0 2).2.2.1 ∈ wsX0_become := by decide +kernel
theorem inX0_become_X0 : ∀ w ∈ u_ws RX0 TX0 11, w ∈ wsX0_become := fun _ h => List.mem_cons_of_mem _ (List.mem_append_right _ h)
theorem wX0_become_ai : Cond.initialized "java/lang/System" ∈ wsX0_become := by decide +kernel
theorem wX0_become_al49 : Cond.methodLink RX0 49 arraycopyName ∈ wsX0_become := by decide +kernel
theorem wX0_become_an : Cond.native arraycopyName ∈ wsX0_become := by decide +kernel
theorem wX0_become_as : Cond.static arraycopyName ∈ wsX0_become := by decide +kernel
set_option maxHeartbeats 4000000 in
set_option maxRecDepth 100000 in
/-- become -/
theorem c_X0_become (G : XG) (go ho : Nat) (ga ha : Nat → Nat) (b : Nat → Int) (n d c n' d' c' : Nat) (gf hf : Nat → Nat → Int) (I : Inv b n d c) (R : GR b n d c hf)  : Con G yX0_become wsX0_become (rmL 1) 0 0 [.ref go, .ref ho] ([(go, goE ga ((n' : Nat) : Int) ((d' : Nat) : Int) ((c' : Nat) : Int)), (ga 0, aI G 36 (gf 0)), (ga 1, aI G 7 (gf 1)), (ga 2, aI G 7 (gf 2)), (ga 3, aI G 7 (gf 3)), (ga 4, aI G 7 (gf 4)), (ga 5, aI G 6 (gf 5)), (ga 6, aI G 6 (gf 6)), (ga 7, aI G 8 (gf 7)), (ho, goE ha ((n : Nat) : Int) ((d : Nat) : Int) ((c : Nat) : Int)), (ha 0, aI G 36 (hf 0)), (ha 1, aI G 7 (hf 1)), (ha 2, aI G 7 (hf 2)), (ha 3, aI G 7 (hf 3)), (ha 4, aI G 7 (hf 4)), (ha 5, aI G 6 (hf 5)), (ha 6, aI G 6 (hf 6)), (ha 7, aI G 8 (hf 7))]) (P_X0_become G go ho ga ha b n d c n' d' c' gf hf) := by
  refine x_start (cc := cX0_become) (nL := 2) (ret := none) (by decide) rfl (Nat.le_of_ble_eq_true rfl) (fun E => ?_)
  show W_X0_become G E go ho ga ha b n d c n' d' c' gf hf 0 [(0, .ref go), (1, .ref ho)] [] ([(go, goE ga ((n' : Nat) : Int) ((d' : Nat) : Int) ((c' : Nat) : Int)), (ga 0, aI G 36 (gf 0)), (ga 1, aI G 7 (gf 1)), (ga 2, aI G 7 (gf 2)), (ga 3, aI G 7 (gf 3)), (ga 4, aI G 7 (gf 4)), (ga 5, aI G 6 (gf 5)), (ga 6, aI G 6 (gf 6)), (ga 7, aI G 8 (gf 7)), (ho, goE ha ((n : Nat) : Int) ((d : Nat) : Int) ((c : Nat) : Int)), (ha 0, aI G 36 (hf 0)), (ha 1, aI G 7 (hf 1)), (ha 2, aI G 7 (hf 2)), (ha 3, aI G 7 (hf 3)), (ha 4, aI G 7 (hf 4)), (ha 5, aI G 6 (hf 5)), (ha 6, aI G 6 (hf 6)), (ha 7, aI G 8 (hf 7))])
  have hn7 := I.n7
  have hd6 := I.d6
  have hc8 := I.c8
  refine x_aload_n 1 rfl dX0_become_0 0 rfl ?_
  refine x_aload_n 2 rfl dX0_become_1 1 rfl ?_
  refine x_get 5 rfl (v := .int (zI ((n : Nat) : Int))) 9 0 rfl rfl (by decide) inX0_become_X0 flX0_become_39 rfl dX0_become_2 ?_
  refine x_put 8 rfl 0 0 rfl rfl (by decide) inX0_become_X0 flX0_become_39 tyX0_ok nmX0 rfl rfl rfl rfl (Nat.le_of_ble_eq_true rfl) (ws' := [(go, goE ga ((n : Nat) : Int) ((d' : Nat) : Int) ((c' : Nat) : Int)), (ga 0, aI G 36 (gf 0)), (ga 1, aI G 7 (gf 1)), (ga 2, aI G 7 (gf 2)), (ga 3, aI G 7 (gf 3)), (ga 4, aI G 7 (gf 4)), (ga 5, aI G 6 (gf 5)), (ga 6, aI G 6 (gf 6)), (ga 7, aI G 8 (gf 7)), (ho, goE ha ((n : Nat) : Int) ((d : Nat) : Int) ((c : Nat) : Int)), (ha 0, aI G 36 (hf 0)), (ha 1, aI G 7 (hf 1)), (ha 2, aI G 7 (hf 2)), (ha 3, aI G 7 (hf 3)), (ha 4, aI G 7 (hf 4)), (ha 5, aI G 6 (hf 5)), (ha 6, aI G 6 (hf 6)), (ha 7, aI G 8 (hf 7))]) rfl dX0_become_5 ?_
  refine x_aload_n 9 rfl dX0_become_8 0 rfl ?_
  refine x_aload_n 10 rfl dX0_become_9 1 rfl ?_
  refine x_get 13 rfl (v := .int (zI ((d : Nat) : Int))) 9 1 rfl rfl (by decide) inX0_become_X0 flX0_become_43 rfl dX0_become_10 ?_
  refine x_put 16 rfl 0 1 rfl rfl (by decide) inX0_become_X0 flX0_become_43 tyX0_ok nmX0 rfl rfl rfl rfl (Nat.le_of_ble_eq_true rfl) (ws' := [(go, goE ga ((n : Nat) : Int) ((d : Nat) : Int) ((c' : Nat) : Int)), (ga 0, aI G 36 (gf 0)), (ga 1, aI G 7 (gf 1)), (ga 2, aI G 7 (gf 2)), (ga 3, aI G 7 (gf 3)), (ga 4, aI G 7 (gf 4)), (ga 5, aI G 6 (gf 5)), (ga 6, aI G 6 (gf 6)), (ga 7, aI G 8 (gf 7)), (ho, goE ha ((n : Nat) : Int) ((d : Nat) : Int) ((c : Nat) : Int)), (ha 0, aI G 36 (hf 0)), (ha 1, aI G 7 (hf 1)), (ha 2, aI G 7 (hf 2)), (ha 3, aI G 7 (hf 3)), (ha 4, aI G 7 (hf 4)), (ha 5, aI G 6 (hf 5)), (ha 6, aI G 6 (hf 6)), (ha 7, aI G 8 (hf 7))]) rfl dX0_become_13 ?_
  refine x_aload_n 17 rfl dX0_become_16 0 rfl ?_
  refine x_aload_n 18 rfl dX0_become_17 1 rfl ?_
  refine x_get 21 rfl (v := .int (zI ((c : Nat) : Int))) 9 2 rfl rfl (by decide) inX0_become_X0 flX0_become_46 rfl dX0_become_18 ?_
  refine x_put 24 rfl 0 2 rfl rfl (by decide) inX0_become_X0 flX0_become_46 tyX0_ok nmX0 rfl rfl rfl rfl (Nat.le_of_ble_eq_true rfl) (ws' := [(go, goE ga ((n : Nat) : Int) ((d : Nat) : Int) ((c : Nat) : Int)), (ga 0, aI G 36 (gf 0)), (ga 1, aI G 7 (gf 1)), (ga 2, aI G 7 (gf 2)), (ga 3, aI G 7 (gf 3)), (ga 4, aI G 7 (gf 4)), (ga 5, aI G 6 (gf 5)), (ga 6, aI G 6 (gf 6)), (ga 7, aI G 8 (gf 7)), (ho, goE ha ((n : Nat) : Int) ((d : Nat) : Int) ((c : Nat) : Int)), (ha 0, aI G 36 (hf 0)), (ha 1, aI G 7 (hf 1)), (ha 2, aI G 7 (hf 2)), (ha 3, aI G 7 (hf 3)), (ha 4, aI G 7 (hf 4)), (ha 5, aI G 6 (hf 5)), (ha 6, aI G 6 (hf 6)), (ha 7, aI G 8 (hf 7))]) rfl dX0_become_21 ?_
  refine x_aload_n 25 rfl dX0_become_24 1 rfl ?_
  refine x_get 28 rfl (v := .ref (ha 0)) 9 3 rfl rfl (by decide) inX0_become_X0 flX0_become_9 rfl dX0_become_25 ?_
  refine x_iconst 29 rfl dX0_become_28 (z := 0) (by decide) ?_
  refine x_aload_n 30 rfl dX0_become_29 0 rfl ?_
  refine x_get 33 rfl (v := .ref (ga 0)) 0 3 rfl rfl (by decide) inX0_become_X0 flX0_become_9 rfl dX0_become_30 ?_
  refine x_iconst 34 rfl dX0_become_33 (z := 0) (by decide) ?_
  refine x_aload_n 35 rfl dX0_become_34 0 rfl ?_
  refine x_get 38 rfl (v := .ref (ga 0)) 0 3 rfl rfl (by decide) inX0_become_X0 flX0_become_9 rfl dX0_become_35 ?_
  refine x_alenI 39 rfl 1 rfl dX0_become_38 ?_
  refine x_copyi 42 rfl 10 1 0 0 36 rfl rfl ⟨by omega, by omega, by omega⟩ (by omega) (by omega) (by decide) (by decide) wX0_become_al49 wX0_become_an wX0_become_as wX0_become_ai (by decide) (by decide) (ws' := [(go, goE ga ((n : Nat) : Int) ((d : Nat) : Int) ((c : Nat) : Int)), (ga 0, aI G 36 (zcp (hf 0) (gf 0) 0 0 36)), (ga 1, aI G 7 (gf 1)), (ga 2, aI G 7 (gf 2)), (ga 3, aI G 7 (gf 3)), (ga 4, aI G 7 (gf 4)), (ga 5, aI G 6 (gf 5)), (ga 6, aI G 6 (gf 6)), (ga 7, aI G 8 (gf 7)), (ho, goE ha ((n : Nat) : Int) ((d : Nat) : Int) ((c : Nat) : Int)), (ha 0, aI G 36 (hf 0)), (ha 1, aI G 7 (hf 1)), (ha 2, aI G 7 (hf 2)), (ha 3, aI G 7 (hf 3)), (ha 4, aI G 7 (hf 4)), (ha 5, aI G 6 (hf 5)), (ha 6, aI G 6 (hf 6)), (ha 7, aI G 8 (hf 7))]) rfl dX0_become_39 ?_
  refine x_aload_n 43 rfl dX0_become_42 1 rfl ?_
  refine x_get 46 rfl (v := .ref (ha 1)) 9 4 rfl rfl (by decide) inX0_become_X0 flX0_become_15 rfl dX0_become_43 ?_
  refine x_iconst 47 rfl dX0_become_46 (z := 0) (by decide) ?_
  refine x_aload_n 48 rfl dX0_become_47 0 rfl ?_
  refine x_get 51 rfl (v := .ref (ga 1)) 0 4 rfl rfl (by decide) inX0_become_X0 flX0_become_15 rfl dX0_become_48 ?_
  refine x_iconst 52 rfl dX0_become_51 (z := 0) (by decide) ?_
  refine x_bipush 54 rfl dX0_become_52 (z := 7) (by decide) ?_
  refine x_copyi 57 rfl 11 2 0 0 7 rfl rfl ⟨by omega, by omega, by omega⟩ (by omega) (by omega) (by decide) (by decide) wX0_become_al49 wX0_become_an wX0_become_as wX0_become_ai (by decide) (by decide) (ws' := [(go, goE ga ((n : Nat) : Int) ((d : Nat) : Int) ((c : Nat) : Int)), (ga 0, aI G 36 (zcp (hf 0) (gf 0) 0 0 36)), (ga 1, aI G 7 (zcp (hf 1) (gf 1) 0 0 7)), (ga 2, aI G 7 (gf 2)), (ga 3, aI G 7 (gf 3)), (ga 4, aI G 7 (gf 4)), (ga 5, aI G 6 (gf 5)), (ga 6, aI G 6 (gf 6)), (ga 7, aI G 8 (gf 7)), (ho, goE ha ((n : Nat) : Int) ((d : Nat) : Int) ((c : Nat) : Int)), (ha 0, aI G 36 (hf 0)), (ha 1, aI G 7 (hf 1)), (ha 2, aI G 7 (hf 2)), (ha 3, aI G 7 (hf 3)), (ha 4, aI G 7 (hf 4)), (ha 5, aI G 6 (hf 5)), (ha 6, aI G 6 (hf 6)), (ha 7, aI G 8 (hf 7))]) rfl dX0_become_54 ?_
  refine x_aload_n 58 rfl dX0_become_57 1 rfl ?_
  refine x_get 61 rfl (v := .ref (ha 2)) 9 5 rfl rfl (by decide) inX0_become_X0 flX0_become_18 rfl dX0_become_58 ?_
  refine x_iconst 62 rfl dX0_become_61 (z := 0) (by decide) ?_
  refine x_aload_n 63 rfl dX0_become_62 0 rfl ?_
  refine x_get 66 rfl (v := .ref (ga 2)) 0 5 rfl rfl (by decide) inX0_become_X0 flX0_become_18 rfl dX0_become_63 ?_
  refine x_iconst 67 rfl dX0_become_66 (z := 0) (by decide) ?_
  refine x_bipush 69 rfl dX0_become_67 (z := 7) (by decide) ?_
  refine x_copyi 72 rfl 12 3 0 0 7 rfl rfl ⟨by omega, by omega, by omega⟩ (by omega) (by omega) (by decide) (by decide) wX0_become_al49 wX0_become_an wX0_become_as wX0_become_ai (by decide) (by decide) (ws' := [(go, goE ga ((n : Nat) : Int) ((d : Nat) : Int) ((c : Nat) : Int)), (ga 0, aI G 36 (zcp (hf 0) (gf 0) 0 0 36)), (ga 1, aI G 7 (zcp (hf 1) (gf 1) 0 0 7)), (ga 2, aI G 7 (zcp (hf 2) (gf 2) 0 0 7)), (ga 3, aI G 7 (gf 3)), (ga 4, aI G 7 (gf 4)), (ga 5, aI G 6 (gf 5)), (ga 6, aI G 6 (gf 6)), (ga 7, aI G 8 (gf 7)), (ho, goE ha ((n : Nat) : Int) ((d : Nat) : Int) ((c : Nat) : Int)), (ha 0, aI G 36 (hf 0)), (ha 1, aI G 7 (hf 1)), (ha 2, aI G 7 (hf 2)), (ha 3, aI G 7 (hf 3)), (ha 4, aI G 7 (hf 4)), (ha 5, aI G 6 (hf 5)), (ha 6, aI G 6 (hf 6)), (ha 7, aI G 8 (hf 7))]) rfl dX0_become_69 ?_
  refine x_aload_n 73 rfl dX0_become_72 1 rfl ?_
  refine x_get 76 rfl (v := .ref (ha 3)) 9 6 rfl rfl (by decide) inX0_become_X0 flX0_become_21 rfl dX0_become_73 ?_
  refine x_iconst 77 rfl dX0_become_76 (z := 0) (by decide) ?_
  refine x_aload_n 78 rfl dX0_become_77 0 rfl ?_
  refine x_get 81 rfl (v := .ref (ga 3)) 0 6 rfl rfl (by decide) inX0_become_X0 flX0_become_21 rfl dX0_become_78 ?_
  refine x_iconst 82 rfl dX0_become_81 (z := 0) (by decide) ?_
  refine x_bipush 84 rfl dX0_become_82 (z := 7) (by decide) ?_
  refine x_copyi 87 rfl 13 4 0 0 7 rfl rfl ⟨by omega, by omega, by omega⟩ (by omega) (by omega) (by decide) (by decide) wX0_become_al49 wX0_become_an wX0_become_as wX0_become_ai (by decide) (by decide) (ws' := [(go, goE ga ((n : Nat) : Int) ((d : Nat) : Int) ((c : Nat) : Int)), (ga 0, aI G 36 (zcp (hf 0) (gf 0) 0 0 36)), (ga 1, aI G 7 (zcp (hf 1) (gf 1) 0 0 7)), (ga 2, aI G 7 (zcp (hf 2) (gf 2) 0 0 7)), (ga 3, aI G 7 (zcp (hf 3) (gf 3) 0 0 7)), (ga 4, aI G 7 (gf 4)), (ga 5, aI G 6 (gf 5)), (ga 6, aI G 6 (gf 6)), (ga 7, aI G 8 (gf 7)), (ho, goE ha ((n : Nat) : Int) ((d : Nat) : Int) ((c : Nat) : Int)), (ha 0, aI G 36 (hf 0)), (ha 1, aI G 7 (hf 1)), (ha 2, aI G 7 (hf 2)), (ha 3, aI G 7 (hf 3)), (ha 4, aI G 7 (hf 4)), (ha 5, aI G 6 (hf 5)), (ha 6, aI G 6 (hf 6)), (ha 7, aI G 8 (hf 7))]) rfl dX0_become_84 ?_
  refine x_aload_n 88 rfl dX0_become_87 1 rfl ?_
  refine x_get 91 rfl (v := .ref (ha 4)) 9 7 rfl rfl (by decide) inX0_become_X0 flX0_become_24 rfl dX0_become_88 ?_
  refine x_iconst 92 rfl dX0_become_91 (z := 0) (by decide) ?_
  refine x_aload_n 93 rfl dX0_become_92 0 rfl ?_
  refine x_get 96 rfl (v := .ref (ga 4)) 0 7 rfl rfl (by decide) inX0_become_X0 flX0_become_24 rfl dX0_become_93 ?_
  refine x_iconst 97 rfl dX0_become_96 (z := 0) (by decide) ?_
  refine x_bipush 99 rfl dX0_become_97 (z := 7) (by decide) ?_
  refine x_copyi 102 rfl 14 5 0 0 7 rfl rfl ⟨by omega, by omega, by omega⟩ (by omega) (by omega) (by decide) (by decide) wX0_become_al49 wX0_become_an wX0_become_as wX0_become_ai (by decide) (by decide) (ws' := [(go, goE ga ((n : Nat) : Int) ((d : Nat) : Int) ((c : Nat) : Int)), (ga 0, aI G 36 (zcp (hf 0) (gf 0) 0 0 36)), (ga 1, aI G 7 (zcp (hf 1) (gf 1) 0 0 7)), (ga 2, aI G 7 (zcp (hf 2) (gf 2) 0 0 7)), (ga 3, aI G 7 (zcp (hf 3) (gf 3) 0 0 7)), (ga 4, aI G 7 (zcp (hf 4) (gf 4) 0 0 7)), (ga 5, aI G 6 (gf 5)), (ga 6, aI G 6 (gf 6)), (ga 7, aI G 8 (gf 7)), (ho, goE ha ((n : Nat) : Int) ((d : Nat) : Int) ((c : Nat) : Int)), (ha 0, aI G 36 (hf 0)), (ha 1, aI G 7 (hf 1)), (ha 2, aI G 7 (hf 2)), (ha 3, aI G 7 (hf 3)), (ha 4, aI G 7 (hf 4)), (ha 5, aI G 6 (hf 5)), (ha 6, aI G 6 (hf 6)), (ha 7, aI G 8 (hf 7))]) rfl dX0_become_99 ?_
  refine x_aload_n 103 rfl dX0_become_102 1 rfl ?_
  refine x_get 106 rfl (v := .ref (ha 5)) 9 8 rfl rfl (by decide) inX0_become_X0 flX0_become_27 rfl dX0_become_103 ?_
  refine x_iconst 107 rfl dX0_become_106 (z := 0) (by decide) ?_
  refine x_aload_n 108 rfl dX0_become_107 0 rfl ?_
  refine x_get 111 rfl (v := .ref (ga 5)) 0 8 rfl rfl (by decide) inX0_become_X0 flX0_become_27 rfl dX0_become_108 ?_
  refine x_iconst 112 rfl dX0_become_111 (z := 0) (by decide) ?_
  refine x_bipush 114 rfl dX0_become_112 (z := 6) (by decide) ?_
  refine x_copyi 117 rfl 15 6 0 0 6 rfl rfl ⟨by omega, by omega, by omega⟩ (by omega) (by omega) (by decide) (by decide) wX0_become_al49 wX0_become_an wX0_become_as wX0_become_ai (by decide) (by decide) (ws' := [(go, goE ga ((n : Nat) : Int) ((d : Nat) : Int) ((c : Nat) : Int)), (ga 0, aI G 36 (zcp (hf 0) (gf 0) 0 0 36)), (ga 1, aI G 7 (zcp (hf 1) (gf 1) 0 0 7)), (ga 2, aI G 7 (zcp (hf 2) (gf 2) 0 0 7)), (ga 3, aI G 7 (zcp (hf 3) (gf 3) 0 0 7)), (ga 4, aI G 7 (zcp (hf 4) (gf 4) 0 0 7)), (ga 5, aI G 6 (zcp (hf 5) (gf 5) 0 0 6)), (ga 6, aI G 6 (gf 6)), (ga 7, aI G 8 (gf 7)), (ho, goE ha ((n : Nat) : Int) ((d : Nat) : Int) ((c : Nat) : Int)), (ha 0, aI G 36 (hf 0)), (ha 1, aI G 7 (hf 1)), (ha 2, aI G 7 (hf 2)), (ha 3, aI G 7 (hf 3)), (ha 4, aI G 7 (hf 4)), (ha 5, aI G 6 (hf 5)), (ha 6, aI G 6 (hf 6)), (ha 7, aI G 8 (hf 7))]) rfl dX0_become_114 ?_
  refine x_aload_n 118 rfl dX0_become_117 1 rfl ?_
  refine x_get 121 rfl (v := .ref (ha 6)) 9 9 rfl rfl (by decide) inX0_become_X0 flX0_become_30 rfl dX0_become_118 ?_
  refine x_iconst 122 rfl dX0_become_121 (z := 0) (by decide) ?_
  refine x_aload_n 123 rfl dX0_become_122 0 rfl ?_
  refine x_get 126 rfl (v := .ref (ga 6)) 0 9 rfl rfl (by decide) inX0_become_X0 flX0_become_30 rfl dX0_become_123 ?_
  refine x_iconst 127 rfl dX0_become_126 (z := 0) (by decide) ?_
  refine x_bipush 129 rfl dX0_become_127 (z := 6) (by decide) ?_
  refine x_copyi 132 rfl 16 7 0 0 6 rfl rfl ⟨by omega, by omega, by omega⟩ (by omega) (by omega) (by decide) (by decide) wX0_become_al49 wX0_become_an wX0_become_as wX0_become_ai (by decide) (by decide) (ws' := [(go, goE ga ((n : Nat) : Int) ((d : Nat) : Int) ((c : Nat) : Int)), (ga 0, aI G 36 (zcp (hf 0) (gf 0) 0 0 36)), (ga 1, aI G 7 (zcp (hf 1) (gf 1) 0 0 7)), (ga 2, aI G 7 (zcp (hf 2) (gf 2) 0 0 7)), (ga 3, aI G 7 (zcp (hf 3) (gf 3) 0 0 7)), (ga 4, aI G 7 (zcp (hf 4) (gf 4) 0 0 7)), (ga 5, aI G 6 (zcp (hf 5) (gf 5) 0 0 6)), (ga 6, aI G 6 (zcp (hf 6) (gf 6) 0 0 6)), (ga 7, aI G 8 (gf 7)), (ho, goE ha ((n : Nat) : Int) ((d : Nat) : Int) ((c : Nat) : Int)), (ha 0, aI G 36 (hf 0)), (ha 1, aI G 7 (hf 1)), (ha 2, aI G 7 (hf 2)), (ha 3, aI G 7 (hf 3)), (ha 4, aI G 7 (hf 4)), (ha 5, aI G 6 (hf 5)), (ha 6, aI G 6 (hf 6)), (ha 7, aI G 8 (hf 7))]) rfl dX0_become_129 ?_
  refine x_aload_n 133 rfl dX0_become_132 1 rfl ?_
  refine x_get 136 rfl (v := .ref (ha 7)) 9 10 rfl rfl (by decide) inX0_become_X0 flX0_become_33 rfl dX0_become_133 ?_
  refine x_iconst 137 rfl dX0_become_136 (z := 0) (by decide) ?_
  refine x_aload_n 138 rfl dX0_become_137 0 rfl ?_
  refine x_get 141 rfl (v := .ref (ga 7)) 0 10 rfl rfl (by decide) inX0_become_X0 flX0_become_33 rfl dX0_become_138 ?_
  refine x_iconst 142 rfl dX0_become_141 (z := 0) (by decide) ?_
  refine x_bipush 144 rfl dX0_become_142 (z := 8) (by decide) ?_
  refine x_copyi 147 rfl 17 8 0 0 8 rfl rfl ⟨by omega, by omega, by omega⟩ (by omega) (by omega) (by decide) (by decide) wX0_become_al49 wX0_become_an wX0_become_as wX0_become_ai (by decide) (by decide) (ws' := [(go, goE ga ((n : Nat) : Int) ((d : Nat) : Int) ((c : Nat) : Int)), (ga 0, aI G 36 (zcp (hf 0) (gf 0) 0 0 36)), (ga 1, aI G 7 (zcp (hf 1) (gf 1) 0 0 7)), (ga 2, aI G 7 (zcp (hf 2) (gf 2) 0 0 7)), (ga 3, aI G 7 (zcp (hf 3) (gf 3) 0 0 7)), (ga 4, aI G 7 (zcp (hf 4) (gf 4) 0 0 7)), (ga 5, aI G 6 (zcp (hf 5) (gf 5) 0 0 6)), (ga 6, aI G 6 (zcp (hf 6) (gf 6) 0 0 6)), (ga 7, aI G 8 (zcp (hf 7) (gf 7) 0 0 8)), (ho, goE ha ((n : Nat) : Int) ((d : Nat) : Int) ((c : Nat) : Int)), (ha 0, aI G 36 (hf 0)), (ha 1, aI G 7 (hf 1)), (ha 2, aI G 7 (hf 2)), (ha 3, aI G 7 (hf 3)), (ha 4, aI G 7 (hf 4)), (ha 5, aI G 6 (hf 5)), (ha 6, aI G 6 (hf 6)), (ha 7, aI G 8 (hf 7))]) rfl dX0_become_144 ?_
  refine x_vret rfl ?_ dX0_become_147
  exact ⟨fun i => zcp (hf i) (gf i) 0 0 (glN i), rfl, rfl, GR_cp R I⟩

