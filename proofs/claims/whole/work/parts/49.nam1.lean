theorem hd_X2_shortTune : yX2_shortTune.cls ≠ "java/lang/invoke/MethodHandle" ∧ yX2_shortTune.cls ≠ "java/lang/invoke/VarHandle" ∧ (parseMethodDescriptor yX2_shortTune.desc).map (fun d => d.parameters.length) = some 1 := by decide +kernel
theorem hd_X2_firstNote : yX2_firstNote.cls ≠ "java/lang/invoke/MethodHandle" ∧ yX2_firstNote.cls ≠ "java/lang/invoke/VarHandle" ∧ (parseMethodDescriptor yX2_firstNote.desc).map (fun d => d.parameters.length) = some 1 := by decide +kernel
theorem hd_X2_rowsFirst : yX2_rowsFirst.cls ≠ "java/lang/invoke/MethodHandle" ∧ yX2_rowsFirst.cls ≠ "java/lang/invoke/VarHandle" ∧ (parseMethodDescriptor yX2_rowsFirst.desc).map (fun d => d.parameters.length) = some 1 := by decide +kernel
theorem hd_X2_find : yX2_find.cls = RX2 ∧ yX2_find.cls ≠ "java/lang/invoke/MethodHandle" ∧ yX2_find.cls ≠ "java/lang/invoke/VarHandle" ∧ (parseMethodDescriptor yX2_find.desc).map (fun d => d.parameters.length) = some 1 := by decide +kernel
theorem hd_X2_rowsWithOthers : yX2_rowsWithOthers.cls = RX2 ∧ yX2_rowsWithOthers.cls ≠ "java/lang/invoke/MethodHandle" ∧ yX2_rowsWithOthers.cls ≠ "java/lang/invoke/VarHandle" ∧ (parseMethodDescriptor yX2_rowsWithOthers.desc).map (fun d => d.parameters.length) = some 2 := by decide +kernel
theorem hd_X2_rowsGoingWith : yX2_rowsGoingWith.cls = RX2 ∧ yX2_rowsGoingWith.cls ≠ "java/lang/invoke/MethodHandle" ∧ yX2_rowsGoingWith.cls ≠ "java/lang/invoke/VarHandle" ∧ (parseMethodDescriptor yX2_rowsGoingWith.desc).map (fun d => d.parameters.length) = some 4 := by decide +kernel
theorem hd_X2_fillRows : yX2_fillRows.cls = RX2 ∧ yX2_fillRows.cls ≠ "java/lang/invoke/MethodHandle" ∧ yX2_fillRows.cls ≠ "java/lang/invoke/VarHandle" ∧ (parseMethodDescriptor yX2_fillRows.desc).map (fun d => d.parameters.length) = some 0 := by decide +kernel
theorem hd_X2_takeOverLesserWind : yX2_takeOverLesserWind.cls = RX2 ∧ yX2_takeOverLesserWind.cls ≠ "java/lang/invoke/MethodHandle" ∧ yX2_takeOverLesserWind.cls ≠ "java/lang/invoke/VarHandle" ∧ (parseMethodDescriptor yX2_takeOverLesserWind.desc).map (fun d => d.parameters.length) = some 2 := by decide +kernel
theorem hd_X2_fillOwn : yX2_fillOwn.cls = RX2 ∧ yX2_fillOwn.cls ≠ "java/lang/invoke/MethodHandle" ∧ yX2_fillOwn.cls ≠ "java/lang/invoke/VarHandle" ∧ (parseMethodDescriptor yX2_fillOwn.desc).map (fun d => d.parameters.length) = some 3 := by decide +kernel
theorem hd_X2_choose : yX2_choose.cls ≠ "java/lang/invoke/MethodHandle" ∧ yX2_choose.cls ≠ "java/lang/invoke/VarHandle" ∧ (parseMethodDescriptor yX2_choose.desc).map (fun d => d.parameters.length) = some 4 := by decide +kernel
theorem hd_X2_keepBest : yX2_keepBest.cls = RX2 ∧ yX2_keepBest.cls ≠ "java/lang/invoke/MethodHandle" ∧ yX2_keepBest.cls ≠ "java/lang/invoke/VarHandle" ∧ (parseMethodDescriptor yX2_keepBest.desc).map (fun d => d.parameters.length) = some 1 := by decide +kernel
theorem hd_X2_leastNotesFrom : yX2_leastNotesFrom.cls = RX2 ∧ yX2_leastNotesFrom.cls ≠ "java/lang/invoke/MethodHandle" ∧ yX2_leastNotesFrom.cls ≠ "java/lang/invoke/VarHandle" ∧ (parseMethodDescriptor yX2_leastNotesFrom.desc).map (fun d => d.parameters.length) = some 2 := by decide +kernel
theorem hd_X2_narrow : yX2_narrow.cls = RX2 ∧ yX2_narrow.cls ≠ "java/lang/invoke/MethodHandle" ∧ yX2_narrow.cls ≠ "java/lang/invoke/VarHandle" ∧ (parseMethodDescriptor yX2_narrow.desc).map (fun d => d.parameters.length) = some 3 := by decide +kernel
/-! THE NAMER: masks of rows -/
theorem neg1_bv (m : Nat) : (zI (-1 - ((m : Nat) : Int))).toBitVec = ~~~ (BitVec.ofNat 32 m) := by
  show BitVec.ofInt 32 (-1 - ((m : Nat) : Int)) = _
  rw [show (-1 - ((m : Nat) : Int)) = Int.negSucc m by omega, BitVec.ofInt_negSucc_eq_not_ofNat]
theorem notM (m : Nat) : zI ((m : Nat) : Int) ^^^ zI (-1) = zI (-1 - ((m : Nat) : Int)) := by
  apply Int32.toBitVec_inj.mp
  rw [Int32.toBitVec_xor, neg1_bv, zI_nat, nI_bv]
  exact BitVec.xor_allOnes
theorem clrM {x m : Nat} (hx : x < 1048576) (hm : m < 1048576) : zI ((x : Nat) : Int) &&& zI (-1 - ((m : Nat) : Int)) = zI ((x &&& (1048575 - m) : Nat) : Int) := by
  apply Int32.toBitVec_inj.mp
  rw [Int32.toBitVec_and, neg1_bv, zI_nat, nI_bv, zI_nat, nI_bv]
  apply BitVec.eq_of_getLsbD_eq
  intro i hi
  rw [BitVec.getLsbD_and, BitVec.getLsbD_not, BitVec.getLsbD_ofNat, BitVec.getLsbD_ofNat, BitVec.getLsbD_ofNat, Nat.testBit_and]
  have h2 := Nat.testBit_two_pow_sub_succ (x := m) (n := 20) hm i
  rw [show 2 ^ 20 - (m + 1) = 1048575 - m by omega] at h2
  rw [h2, decide_eq_true hi]
  by_cases h : i < 20
  · rw [decide_eq_true h]; simp only [Bool.true_and]
  · rw [Nat.testBit_lt_two_pow (x := x) (i := i) (Nat.lt_of_lt_of_le hx (Nat.pow_le_pow_right (n := 2) (i := 20) (by decide) (by omega)))]
    simp only [Bool.false_and, Bool.and_false]
theorem bit20 {x m i : Nat} (hm : m < 1048576) : (x &&& (1048575 - m)).testBit i = (x.testBit i && (decide (i < 20) && !m.testBit i)) := by
  have h2 := Nat.testBit_two_pow_sub_succ (x := m) (n := 20) hm i
  rw [show 2 ^ 20 - (m + 1) = 1048575 - m by omega] at h2
  rw [Nat.testBit_and, h2]
theorem bitF_20 (f : Nat → Bool) : bitF f 20 < 1048576 := bitF_lt f 20
theorem bitF_eq {v k : Nat} {f : Nat → Bool} (h : ∀ i, v.testBit i = (decide (i < k) && f i)) : v = bitF f k := by
  apply Nat.eq_of_testBit_eq
  intro i
  rw [h i, bitF_test]
theorem bitF_or {f g : Nat → Bool} {k r : Nat} (hr : r < k) (h : ∀ i, i < k → g i = (f i || decide (i = r))) : bitF f k ||| 2 ^ r = bitF g k := by
  refine bitF_eq (fun i => ?_)
  rw [Nat.testBit_or, bitF_test, Nat.testBit_two_pow]
  by_cases hi : i < k
  · rw [decide_eq_true hi, h i hi, Bool.true_and, Bool.true_and]
    by_cases e : i = r
    · subst e; simp
    · rw [decide_eq_false e, decide_eq_false (fun h => e h.symm)]
  · rw [decide_eq_false hi, decide_eq_false (fun h : r = i => hi (by omega))]; rfl
theorem bitF_and {f g h : Nat → Bool} {k : Nat} (e : ∀ i, i < k → h i = (f i && g i)) : bitF f k &&& bitF g k = bitF h k := by
  refine bitF_eq (fun i => ?_)
  rw [Nat.testBit_and, bitF_test, bitF_test]
  by_cases hi : i < k
  · rw [decide_eq_true hi, e i hi]; rfl
  · rw [decide_eq_false hi]; rfl
theorem bitF_0 {f : Nat → Bool} {k : Nat} : bitF f k = 0 ↔ ∀ i, i < k → f i = false := by
  constructor
  · intro h i hi
    have h2 := bitF_test f k i
    rw [h, Nat.zero_testBit, decide_eq_true hi, Bool.true_and] at h2
    exact h2.symm
  · intro h
    apply Nat.eq_of_testBit_eq
    intro i
    rw [bitF_test, Nat.zero_testBit]
    by_cases hi : i < k
    · rw [h i hi, Bool.and_false]
    · rw [decide_eq_false hi]; rfl
def tR (m ear own k : Nat) : Bool := tkW m ear (tuneOfN own) (tuneOfN k)
def TB (f1 f2 : Nat → Int) : Prop := ∀ ear w r, ear < 6 → w < 4 → r < 20 → f1 ((ear * 4 + w) * 20 + r) = ((bitF (fun k => tR (w + 1) ear r k) 20 : Nat) : Int) ∧ f2 ((ear * 4 + w) * 20 + r) = ((bitF (fun k => tR (w + 1) ear k r) 20 : Nat) : Int)
/-- the rows of y's that go with one of x's -/
def goN (b : Nat → Int) (x r y : Nat) : Nat := bitF (fun j => cpN b x y r j) 20
def rfN (note : Nat) : Nat := 2 ^ note ||| 15 * 2 ^ (4 + 4 * note)
theorem rf_b : (List.range 4).all (fun t => Nat.blt (rfN t) 1048576 && (List.range 20).all (fun j => decide ((rfN t).testBit j = decide (t = noteN (tuneOfN j) 0)))) = true := by decide +kernel
theorem rf_lt {t : Nat} (h : t < 4) : rfN t < 1048576 := by
  have h1 := all_r rf_b h
  rw [Bool.and_eq_true, Nat.blt_eq] at h1; exact h1.1
theorem rf_bit {t j : Nat} (h : t < 4) (hj : j < 20) : (rfN t).testBit j = decide (t = noteN (tuneOfN j) 0) := by
  have h1 := all_r rf_b h
  rw [Bool.and_eq_true] at h1
  exact of_decide_eq_true (all_r h1.2 hj)
theorem fn_b : (List.range 20).all (fun r => Nat.blt (noteN (tuneOfN r) 0) 4 && decide (noteN (tuneOfN r) 0 = if r < 4 then r else (r - 4) / 4) && decide (tuneOfN r = if r < 4 then 4 + r else 12 + r)) = true := by decide +kernel
theorem fn_r {r : Nat} (h : r < 20) : noteN (tuneOfN r) 0 < 4 ∧ noteN (tuneOfN r) 0 = (if r < 4 then r else (r - 4) / 4) ∧ tuneOfN r = if r < 4 then 4 + r else 12 + r := by
  have h1 := all_r fn_b h
  rw [Bool.and_eq_true, Bool.and_eq_true, Nat.blt_eq, decide_eq_true_iff, decide_eq_true_iff] at h1
  exact ⟨h1.1.1, h1.1.2, h1.2⟩
theorem cpN_e (b : Nat → Int) (x y r j : Nat) : cpN b x y r j = ((decide (kN b x ≠ kN b y) || decide (noteN (tuneOfN r) 0 = noteN (tuneOfN j) 0)) && !(tR (wdM b x y) (eN b y) j r || tR (wdM b x y) (eN b x) r j)) := by
  show ((decide (kN b x ≠ kN b y) || decide (noteN (tuneOfN r) 0 = noteN (tuneOfN j) 0)) && !(tkW (wdM b x y) (eN b y) (tuneOfN j) (tuneOfN r) || tkW (wdM b y x) (eN b x) (tuneOfN r) (tuneOfN j))) = _
  rw [wdM_sym b y x]; rfl
theorem cpN_sym (b : Nat → Int) (x y r j : Nat) : cpN b x y r j = cpN b y x j r := by
  rw [cpN_e, cpN_e, wdM_sym b y x, Bool.or_comm (tR (wdM b x y) (eN b y) j r)]
  congr 2
  · exact decide_eq_decide.mpr ⟨fun h => fun e => h e.symm, fun h => fun e => h e.symm⟩
  · exact decide_eq_decide.mpr ⟨fun h => h.symm, fun h => h.symm⟩
/-- what is left of all rows by winds, then by kin -/
theorem go_1 {b : Nat → Int} {x y r : Nat} (h : wdN b x y = -1) (hk : kN b x ≠ kN b y) : 1048575 = goN b x r y := by
  refine bitF_eq (fun i => ?_)
  have e : wdM b x y = 0 := by unfold wdM; rw [h]; rfl
  rw [cpN_e, e, decide_eq_true hk, show (1048575 : Nat) = 2 ^ 20 - 1 from rfl, Nat.testBit_two_pow_sub_one]
  show _ = (decide (i < 20) && ((true || _) && !(false || false)))
  simp
theorem go_2 {b : Nat → Int} {x y r : Nat} (h : wdN b x y = -1) (hr : r < 20) (hk : kN b x = kN b y) : 1048575 &&& rfN (noteN (tuneOfN r) 0) = goN b x r y := by
  refine bitF_eq (fun i => ?_)
  have e : wdM b x y = 0 := by unfold wdM; rw [h]; rfl
  rw [cpN_e, e, decide_eq_false (fun hh : kN b x ≠ kN b y => hh hk), Nat.testBit_and, show (1048575 : Nat) = 2 ^ 20 - 1 from rfl, Nat.testBit_two_pow_sub_one]
  by_cases hi : i < 20
  · rw [rf_bit (fn_r hr).1 hi]
    show _ = (decide (i < 20) && ((false || _) && !(false || false)))
    simp
  · rw [decide_eq_false hi]; rfl
theorem go_3 {b : Nat → Int} {x y r w : Nat} (h : wdN b x y = ((w : Nat) : Int)) (hk : kN b x ≠ kN b y) : (1048575 &&& (1048575 - bitF (fun k => tR (w + 1) (eN b x) r k) 20)) &&& (1048575 - bitF (fun k => tR (w + 1) (eN b y) k r) 20) = goN b x r y := by
  refine bitF_eq (fun i => ?_)
  have e : wdM b x y = w + 1 := by unfold wdM; omega
  rw [cpN_e, e, decide_eq_true hk, bit20 (bitF_20 _), bit20 (bitF_20 _), bitF_test, bitF_test, show (1048575 : Nat) = 2 ^ 20 - 1 from rfl, Nat.testBit_two_pow_sub_one]
  by_cases hi : i < 20
  · rw [decide_eq_true hi]; cases tR (w + 1) (eN b x) r i <;> cases tR (w + 1) (eN b y) i r <;> rfl
  · rw [decide_eq_false hi]; rfl
theorem go_4 {b : Nat → Int} {x y r w : Nat} (h : wdN b x y = ((w : Nat) : Int)) (hr : r < 20) (hk : kN b x = kN b y) : ((1048575 &&& (1048575 - bitF (fun k => tR (w + 1) (eN b x) r k) 20)) &&& (1048575 - bitF (fun k => tR (w + 1) (eN b y) k r) 20)) &&& rfN (noteN (tuneOfN r) 0) = goN b x r y := by
  refine bitF_eq (fun i => ?_)
  have e : wdM b x y = w + 1 := by unfold wdM; omega
  rw [cpN_e, e, decide_eq_false (fun hh : kN b x ≠ kN b y => hh hk), Nat.testBit_and, bit20 (bitF_20 _), bit20 (bitF_20 _), bitF_test, bitF_test, show (1048575 : Nat) = 2 ^ 20 - 1 from rfl, Nat.testBit_two_pow_sub_one]
  by_cases hi : i < 20
  · rw [rf_bit (fn_r hr).1 hi, decide_eq_true hi]; cases tR (w + 1) (eN b x) r i <;> cases tR (w + 1) (eN b y) i r <;> cases decide (noteN (tuneOfN r) 0 = noteN (tuneOfN i) 0) <;> rfl
  · rw [decide_eq_false hi]; rfl
abbrev P_X2_shortTune (G : XG) (k : Nat) : Option Value → va_W → Prop := fun r ws => r = some (.int (zI ((tuneOfN k : Nat) : Int))) ∧ ws = []
abbrev W_X2_shortTune (G : XG) (E : XE) (k : Nat) (pc : Nat) (lv : List (Nat × Value)) (st : List Value) (ws : va_W) : Prop := Wx G E (rmL 0) cX2_shortTune 1 RX2 wsX2_shortTune (some .int) "shortTune" 0 0 (P_X2_shortTune G k) 0 0 pc lv st ws
set_option maxHeartbeats 4000000 in
set_option maxRecDepth 100000 in
/-- shortTune -/
theorem c_X2_shortTune (G : XG) (k : Nat) (hk : k < 20) : Con G yX2_shortTune wsX2_shortTune (rmL 0) 0 0 [.int (zI ((k : Nat) : Int))] ([]) (P_X2_shortTune G k) := by
  refine x_start (cc := cX2_shortTune) (nL := 1) (ret := (some .int)) (by decide) rfl (Nat.le_of_ble_eq_true rfl) (fun E => ?_)
  show W_X2_shortTune G E k 0 [(0, .int (zI ((k : Nat) : Int)))] [] ([])
  have hf := (fn_r hk).2.2
  refine x_iload_n 1 rfl dX2_shortTune_0 0 rfl ?_
  refine x_iconst 2 rfl dX2_shortTune_1 (z := 4) (by decide) ?_
  refine x_icmp_ge 5 rfl (tgt := 11) dX2_shortTune_2 (by decide) (by omega) (by decide) (fun h2 => ?_) (fun h2 => ?_)
  · skip
    refine x_bipush 13 rfl dX2_shortTune_11 (z := 12) (by decide) ?_
    refine x_iload_n 14 rfl dX2_shortTune_13 0 rfl ?_
    refine x_iadd 15 rfl dX2_shortTune_14 (z := ((12 + k : Nat) : Int)) (by omega) ?_
    refine x_iret rfl ?_ dX2_shortTune_15
    exact ⟨by rw [hf, if_neg (by omega)], rfl⟩
  · skip
    refine x_iconst 6 rfl dX2_shortTune_5 (z := 4) (by decide) ?_
    refine x_iload_n 7 rfl dX2_shortTune_6 0 rfl ?_
    refine x_iadd 8 rfl dX2_shortTune_7 (z := ((4 + k : Nat) : Int)) (by omega) ?_
    refine x_goto dX2_shortTune_8 (tgt := 15) (by decide) ?_
    refine x_iret rfl ?_ dX2_shortTune_15
    exact ⟨by rw [hf, if_pos (by omega)], rfl⟩

abbrev P_X2_firstNote (G : XG) (k : Nat) : Option Value → va_W → Prop := fun r ws => r = some (.int (zI ((noteN (tuneOfN k) 0 : Nat) : Int))) ∧ ws = []
abbrev W_X2_firstNote (G : XG) (E : XE) (k : Nat) (pc : Nat) (lv : List (Nat × Value)) (st : List Value) (ws : va_W) : Prop := Wx G E (rmL 0) cX2_firstNote 1 RX2 wsX2_firstNote (some .int) "firstNote" 0 0 (P_X2_firstNote G k) 0 0 pc lv st ws
set_option maxHeartbeats 4000000 in
set_option maxRecDepth 100000 in
/-- firstNote -/
theorem c_X2_firstNote (G : XG) (k : Nat) (hk : k < 20) : Con G yX2_firstNote wsX2_firstNote (rmL 0) 0 0 [.int (zI ((k : Nat) : Int))] ([]) (P_X2_firstNote G k) := by
  refine x_start (cc := cX2_firstNote) (nL := 1) (ret := (some .int)) (by decide) rfl (Nat.le_of_ble_eq_true rfl) (fun E => ?_)
  show W_X2_firstNote G E k 0 [(0, .int (zI ((k : Nat) : Int)))] [] ([])
  have hf := (fn_r hk).2.1
  refine x_iload_n 1 rfl dX2_firstNote_0 0 rfl ?_
  refine x_iconst 2 rfl dX2_firstNote_1 (z := 4) (by decide) ?_
  refine x_icmp_ge 5 rfl (tgt := 9) dX2_firstNote_2 (by decide) (by omega) (by decide) (fun h2 => ?_) (fun h2 => ?_)
  · skip
    refine x_iload_n 10 rfl dX2_firstNote_9 0 rfl ?_
    refine x_iconst 11 rfl dX2_firstNote_10 (z := 4) (by decide) ?_
    refine x_isub 12 rfl dX2_firstNote_11 (z := ((k - 4 : Nat) : Int)) (by omega) ?_
    refine x_iconst 13 rfl dX2_firstNote_12 (z := 4) (by decide) ?_
    refine x_idiv 14 rfl dX2_firstNote_13 (z := (((k - 4) / 4 : Nat) : Int)) (by decide) (zI_div (a := (k - 4)) (d := 4) (by omega) (by omega) (by omega)) ?_
    refine x_iret rfl ?_ dX2_firstNote_14
    exact ⟨by rw [hf, if_neg (by omega)], rfl⟩
  · skip
    refine x_iload_n 6 rfl dX2_firstNote_5 0 rfl ?_
    refine x_goto dX2_firstNote_6 (tgt := 14) (by decide) ?_
    refine x_iret rfl ?_ dX2_firstNote_14
    exact ⟨by rw [hf, if_pos (by omega)], rfl⟩

abbrev P_X2_rowsFirst (G : XG) (t : Nat) : Option Value → va_W → Prop := fun r ws => r = some (.int (zI ((rfN t : Nat) : Int))) ∧ ws = []
abbrev W_X2_rowsFirst (G : XG) (E : XE) (t : Nat) (pc : Nat) (lv : List (Nat × Value)) (st : List Value) (ws : va_W) : Prop := Wx G E (rmL 0) cX2_rowsFirst 1 RX2 wsX2_rowsFirst (some .int) "rowsFirst" 0 0 (P_X2_rowsFirst G t) 0 0 pc lv st ws
set_option maxHeartbeats 4000000 in
set_option maxRecDepth 100000 in
/-- rowsFirst -/
theorem c_X2_rowsFirst (G : XG) (t : Nat) (ht : t < 4) : Con G yX2_rowsFirst wsX2_rowsFirst (rmL 0) 0 0 [.int (zI ((t : Nat) : Int))] ([]) (P_X2_rowsFirst G t) := by
  refine x_start (cc := cX2_rowsFirst) (nL := 1) (ret := (some .int)) (by decide) rfl (Nat.le_of_ble_eq_true rfl) (fun E => ?_)
  show W_X2_rowsFirst G E t 0 [(0, .int (zI ((t : Nat) : Int)))] [] ([])
  have h1 : 2 ^ t ≤ 2 ^ 3 := Nat.pow_le_pow_right (by decide) (by omega)
  have h2 : 2 ^ (4 + 4 * t) ≤ 2 ^ 16 := Nat.pow_le_pow_right (by decide) (by omega)
  have h3 := rf_lt ht
  refine x_iconst 1 rfl dX2_rowsFirst_0 (z := 1) (by decide) ?_
  refine x_iload_n 2 rfl dX2_rowsFirst_1 0 rfl ?_
  refine x_ishl 3 rfl dX2_rowsFirst_2 (z := ((2 ^ t : Nat) : Int)) (zI_shl1 (i := t) (by omega)) ?_
  refine x_bipush 5 rfl dX2_rowsFirst_3 (z := 15) (by decide) ?_
  refine x_iconst 6 rfl dX2_rowsFirst_5 (z := 4) (by decide) ?_
  refine x_iconst 7 rfl dX2_rowsFirst_6 (z := 4) (by decide) ?_
  refine x_iload_n 8 rfl dX2_rowsFirst_7 0 rfl ?_
  refine x_imul 9 rfl dX2_rowsFirst_8 (z := ((4 * t : Nat) : Int)) (by omega) ?_
  refine x_iadd 10 rfl dX2_rowsFirst_9 (z := ((4 + 4 * t : Nat) : Int)) (by omega) ?_
  refine x_ishl 11 rfl dX2_rowsFirst_10 (z := ((15 * 2 ^ (4 + 4 * t) : Nat) : Int)) (zI_shl (a := 15) (i := 4 + 4 * t) (by omega) (by omega)) ?_
  refine x_ior 12 rfl dX2_rowsFirst_11 (z := (((2 ^ t) ||| (15 * 2 ^ (4 + 4 * t)) : Nat) : Int)) (zI_or (a := (2 ^ t)) (b := (15 * 2 ^ (4 + 4 * t))) (by omega) (by omega)) ?_
  refine x_iret rfl ?_ dX2_rowsFirst_12
  exact ⟨rfl, rfl⟩

abbrev P_X2_rowsGoingWith (G : XG) (go : Nat) (ga : Nat → Nat) (b : Nat → Int) (n : Nat) (d : Nat) (c : Nat) (gf : Nat → Nat → Int) (nm : Nat) (na : Nat → Nat) (rd : Bool) (fe : Int) (f1 : Nat → Int) (f2 : Nat → Int) (sw : Nat → Int) (x : Nat) (r : Nat) (y : Nat) : Option Value → va_W → Prop := fun q ws => q = some (.int (zI ((goN b x r y : Nat) : Int))) ∧ ws = [(nm, nmE na rd fe), (na 0, aI G 480 f1), (na 1, aI G 480 f2), (na 4, aI G 25 sw), (go, goE ga ((n : Nat) : Int) ((d : Nat) : Int) ((c : Nat) : Int)), (ga 0, aI G 36 (gf 0)), (ga 1, aI G 7 (gf 1)), (ga 2, aI G 7 (gf 2)), (ga 3, aI G 7 (gf 3)), (ga 4, aI G 7 (gf 4)), (ga 5, aI G 6 (gf 5)), (ga 6, aI G 6 (gf 6)), (ga 7, aI G 8 (gf 7))]
abbrev W_X2_rowsGoingWith (G : XG) (E : XE) (go : Nat) (ga : Nat → Nat) (b : Nat → Int) (n : Nat) (d : Nat) (c : Nat) (gf : Nat → Nat → Int) (nm : Nat) (na : Nat → Nat) (rd : Bool) (fe : Int) (f1 : Nat → Int) (f2 : Nat → Int) (sw : Nat → Int) (x : Nat) (r : Nat) (y : Nat) (pc : Nat) (lv : List (Nat × Value)) (st : List Value) (ws : va_W) : Prop := Wx G E (rmL 1) cX2_rowsGoingWith 7 RX2 wsX2_rowsGoingWith (some .int) "rowsGoingWith" 0 0 (P_X2_rowsGoingWith G go ga b n d c gf nm na rd fe f1 f2 sw x r y) 0 0 pc lv st ws
theorem flX2_rowsGoingWith_11 : Cond.fieldLink RX2 11 (TX2 1).1 (TX2 1).2.1 (TX2 1).2.2.1 ∈ wsX2_rowsGoingWith := by decide +kernel
theorem flX2_rowsGoingWith_15 : Cond.fieldLink RX2 15 (TX2 2).1 (TX2 2).2.1 (TX2 2).2.2.1 ∈ wsX2_rowsGoingWith := by decide +kernel
theorem flX2_rowsGoingWith_28 : Cond.fieldLink RX2 28 (TX2 5).1 (TX2 5).2.1 (TX2 5).2.2.1 ∈ wsX2_rowsGoingWith := by decide +kernel
theorem flX2_rowsGoingWith_73 : Cond.fieldLink RX2 73 (TX0 4).1 (TX0 4).2.1 (TX0 4).2.2.1 ∈ wsX2_rowsGoingWith := by decide +kernel
theorem flX2_rowsGoingWith_76 : Cond.fieldLink RX2 76 (TX0 7).1 (TX0 7).2.1 (TX0 7).2.2.1 ∈ wsX2_rowsGoingWith := by decide +kernel
theorem inX2_rowsGoingWith_X0 : ∀ w ∈ u_ws RX0 TX0 11, w ∈ wsX2_rowsGoingWith := fun _ h => List.mem_cons_of_mem _ (List.mem_append_right _ h)
theorem inX2_rowsGoingWith_X2 : ∀ w ∈ u_ws RX2 TX2 10, w ∈ wsX2_rowsGoingWith := fun _ h => List.mem_cons_of_mem _ (List.mem_append_left _ (List.mem_append_right _ h))
theorem wX2_rowsGoingWith_ci72 : Cond.constant RX2 72 (zI 1048575) ∈ wsX2_rowsGoingWith := by decide +kernel
set_option maxHeartbeats 4000000 in
set_option maxRecDepth 100000 in
/-- rowsGoingWith -/
theorem c_X2_rowsGoingWith (G : XG) (go : Nat) (ga : Nat → Nat) (b : Nat → Int) (n d c : Nat) (gf : Nat → Nat → Int) (I : Inv b n d c) (R : GR b n d c gf) (nm : Nat) (na : Nat → Nat) (rd : Bool) (fe : Int) (f1 f2 sw : Nat → Int) (x r y : Nat) (h5 : n ≤ 5) (hx : x < n) (hy : y < n) (hr : r < 20) (hsw : ∀ i j, i < n → j < n → sw (i * 5 + j) = wdN b i j) (hT : TB f1 f2) : Con G yX2_rowsGoingWith wsX2_rowsGoingWith (rmL 1) 0 0 [.ref nm, .ref go, .int (zI ((x : Nat) : Int)), .int (zI ((r : Nat) : Int)), .int (zI ((y : Nat) : Int))] ([(nm, nmE na rd fe), (na 0, aI G 480 f1), (na 1, aI G 480 f2), (na 4, aI G 25 sw), (go, goE ga ((n : Nat) : Int) ((d : Nat) : Int) ((c : Nat) : Int)), (ga 0, aI G 36 (gf 0)), (ga 1, aI G 7 (gf 1)), (ga 2, aI G 7 (gf 2)), (ga 3, aI G 7 (gf 3)), (ga 4, aI G 7 (gf 4)), (ga 5, aI G 6 (gf 5)), (ga 6, aI G 6 (gf 6)), (ga 7, aI G 8 (gf 7))]) (P_X2_rowsGoingWith G go ga b n d c gf nm na rd fe f1 f2 sw x r y) := by
  refine x_start (cc := cX2_rowsGoingWith) (nL := 7) (ret := (some .int)) (by decide) rfl (Nat.le_of_ble_eq_true rfl) (fun E => ?_)
  show W_X2_rowsGoingWith G E go ga b n d c gf nm na rd fe f1 f2 sw x r y 0 [(0, .ref nm), (1, .ref go), (2, .int (zI ((x : Nat) : Int))), (3, .int (zI ((r : Nat) : Int))), (4, .int (zI ((y : Nat) : Int)))] [] ([(nm, nmE na rd fe), (na 0, aI G 480 f1), (na 1, aI G 480 f2), (na 4, aI G 25 sw), (go, goE ga ((n : Nat) : Int) ((d : Nat) : Int) ((c : Nat) : Int)), (ga 0, aI G 36 (gf 0)), (ga 1, aI G 7 (gf 1)), (ga 2, aI G 7 (gf 2)), (ga 3, aI G 7 (gf 3)), (ga 4, aI G 7 (gf 4)), (ga 5, aI G 6 (gf 5)), (ga 6, aI G 6 (gf 6)), (ga 7, aI G 8 (gf 7))])
  have hn7 := I.n7
  have hd6 := I.d6
  have hc8 := I.c8
  have hex := I.e hx
  have hey := I.e hy
  have hkx := I.k hx
  have hky := I.k hy
  have hwr := wdN_r I hx hy
  have hfn := (fn_r hr).1
  have hrf := rf_lt hfn
  refine x_ldc 2 rfl (v := zI 1048575) wX2_rowsGoingWith_ci72 dX2_rowsGoingWith_0 ?_
  refine x_istore 4 rfl (lv' := [(5, .int (zI 1048575)), (0, .ref nm), (1, .ref go), (2, .int (zI ((x : Nat) : Int))), (3, .int (zI ((r : Nat) : Int))), (4, .int (zI ((y : Nat) : Int)))]) dX2_rowsGoingWith_2 (by decide) rfl ?_
  refine x_aload_n 5 rfl dX2_rowsGoingWith_4 1 rfl ?_
  refine x_get 8 rfl (v := .ref (na 4)) 0 5 rfl rfl (by decide) inX2_rowsGoingWith_X2 flX2_rowsGoingWith_28 rfl dX2_rowsGoingWith_5 ?_
  refine x_iload_n 9 rfl dX2_rowsGoingWith_8 3 rfl ?_
  refine x_iconst 10 rfl dX2_rowsGoingWith_9 (z := 5) (by decide) ?_
  refine x_imul 11 rfl dX2_rowsGoingWith_10 (z := ((x * 5 : Nat) : Int)) (by omega) ?_
  refine x_iload 13 rfl dX2_rowsGoingWith_11 5 rfl ?_
  refine x_iadd 14 rfl dX2_rowsGoingWith_13 (z := ((x * 5 + y : Nat) : Int)) (by omega) ?_
  refine x_iald 15 rfl 3 (x * 5 + y) rfl (⟨by omega, by omega⟩) (by decide) (v := wdN b x y) (hsw x y hx hy) dX2_rowsGoingWith_14 ?_
  refine x_istore 17 rfl (lv' := [(6, .int (zI (wdN b x y))), (5, .int (zI 1048575)), (0, .ref nm), (1, .ref go), (2, .int (zI ((x : Nat) : Int))), (3, .int (zI ((r : Nat) : Int))), (4, .int (zI ((y : Nat) : Int)))]) dX2_rowsGoingWith_15 (by decide) rfl ?_
  refine x_iload 19 rfl dX2_rowsGoingWith_17 0 rfl ?_
  refine x_iconst 20 rfl dX2_rowsGoingWith_19 (z := (-1)) (by decide) ?_
  refine x_icmp_eq 23 rfl (tgt := 80) dX2_rowsGoingWith_20 (by decide) (by omega) (by decide) (fun h20 => ?_) (fun h20 => ?_)
  · skip
    have h20 : wdN b x y = -1 := h20
    refine x_aload_n 81 rfl dX2_rowsGoingWith_80 3 rfl ?_
    refine x_get 84 rfl (v := .ref (ga 4)) 4 7 rfl rfl (by decide) inX2_rowsGoingWith_X0 flX2_rowsGoingWith_76 rfl dX2_rowsGoingWith_81 ?_
    refine x_iload 86 rfl dX2_rowsGoingWith_84 6 rfl ?_
    refine x_iald 87 rfl 9 y rfl (⟨by omega, by omega⟩) (by decide) (v := ((kN b y : Nat) : Int)) (R.k I hy) dX2_rowsGoingWith_86 ?_
    refine x_aload_n 88 rfl dX2_rowsGoingWith_87 3 rfl ?_
    refine x_get 91 rfl (v := .ref (ga 4)) 4 7 rfl rfl (by decide) inX2_rowsGoingWith_X0 flX2_rowsGoingWith_76 rfl dX2_rowsGoingWith_88 ?_
    refine x_iload_n 92 rfl dX2_rowsGoingWith_91 4 rfl ?_
    refine x_iald 93 rfl 9 x rfl (⟨by omega, by omega⟩) (by decide) (v := ((kN b x : Nat) : Int)) (R.k I hx) dX2_rowsGoingWith_92 ?_
    refine x_icmp_ne 96 rfl (tgt := 108) dX2_rowsGoingWith_93 (by decide) (by omega) (by omega) (fun h93 => ?_) (fun h93 => ?_)
    · skip
      refine x_iload 110 rfl dX2_rowsGoingWith_108 1 rfl ?_
      refine x_iret rfl ?_ dX2_rowsGoingWith_110
      exact ⟨congrArg (fun z : Nat => some (Value.int (zI (z : Int)))) (go_1 h20 (by omega)), rfl⟩
    · skip
      refine x_iload 98 rfl dX2_rowsGoingWith_96 1 rfl ?_
      refine x_iload_n 99 rfl dX2_rowsGoingWith_98 5 rfl ?_
      refine x_callS0 102 rfl (c_X2_firstNote G r (by omega)) (fun _ _ h => h.2) gX2_rowsGoingWith_X2_firstNote rfl rfl rfl hd_X2_firstNote ⟨Nat.le_of_ble_eq_true rfl, Nat.le_of_ble_eq_true rfl⟩ (As := [.int (zI ((r : Nat) : Int))]) (rest := [.int (zI 1048575)]) rfl rfl (Nat.le_of_ble_eq_true rfl) dX2_rowsGoingWith_99 ⟨Nat.zero_le _, Nat.zero_le _⟩ (fun v hq => ?_)
      obtain ⟨rfl, -⟩ := hq
      refine x_callS0 105 rfl (c_X2_rowsFirst G (noteN (tuneOfN r) 0) (hfn)) (fun _ _ h => h.2) gX2_rowsGoingWith_X2_rowsFirst rfl rfl rfl hd_X2_rowsFirst ⟨Nat.le_of_ble_eq_true rfl, Nat.le_of_ble_eq_true rfl⟩ (As := [.int (zI ((noteN (tuneOfN r) 0 : Nat) : Int))]) (rest := [.int (zI 1048575)]) rfl rfl (Nat.le_of_ble_eq_true rfl) dX2_rowsGoingWith_102 ⟨Nat.zero_le _, Nat.zero_le _⟩ (fun v hq => ?_)
      obtain ⟨rfl, -⟩ := hq
      refine x_iand 106 rfl dX2_rowsGoingWith_105 (z := (((1048575) &&& rfN (noteN (tuneOfN r) 0) : Nat) : Int)) (zI_and (Nat.lt_of_le_of_lt (Nat.le_refl _) (by decide : 1048575 < 4294967296)) (by omega)) ?_
      refine x_istore 108 rfl (lv' := [(5, .int (zI (((1048575) &&& rfN (noteN (tuneOfN r) 0) : Nat) : Int))), (6, .int (zI (wdN b x y))), (0, .ref nm), (1, .ref go), (2, .int (zI ((x : Nat) : Int))), (3, .int (zI ((r : Nat) : Int))), (4, .int (zI ((y : Nat) : Int)))]) dX2_rowsGoingWith_106 (by decide) rfl ?_
      refine x_iload 110 rfl dX2_rowsGoingWith_108 0 rfl ?_
      refine x_iret rfl ?_ dX2_rowsGoingWith_110
      exact ⟨congrArg (fun z : Nat => some (Value.int (zI (z : Int)))) (go_2 h20 hr (by omega)), rfl⟩
  · skip
    obtain ⟨w, hw⟩ : ∃ w : Nat, wdN b x y = (w : Int) := ⟨(wdN b x y).toNat, by omega⟩
    have hw4 : w < 4 := by omega
    have hA := bitF_20 (fun k => tR (w + 1) (eN b x) r k)
    have hB := bitF_20 (fun k => tR (w + 1) (eN b y) k r)
    have hAB : ∀ z : Nat, 1048575 &&& z ≤ 1048575 := fun z => Nat.and_le_left
    refine x_lve (congrArg (fun zz : Int => ([(6, .int (zI zz)), (5, .int (zI 1048575)), (0, .ref nm), (1, .ref go), (2, .int (zI ((x : Nat) : Int))), (3, .int (zI ((r : Nat) : Int))), (4, .int (zI ((y : Nat) : Int)))] : List (Nat × Value))) (hw : wdN b x y = ((w : Nat) : Int))) ?_
    refine x_iload 25 rfl dX2_rowsGoingWith_23 1 rfl ?_
    refine x_aload_n 26 rfl dX2_rowsGoingWith_25 2 rfl ?_
    refine x_get 29 rfl (v := .ref (na 0)) 0 1 rfl rfl (by decide) inX2_rowsGoingWith_X2 flX2_rowsGoingWith_11 rfl dX2_rowsGoingWith_26 ?_
    refine x_aload_n 30 rfl dX2_rowsGoingWith_29 3 rfl ?_
    refine x_get 33 rfl (v := .ref (ga 1)) 4 4 rfl rfl (by decide) inX2_rowsGoingWith_X0 flX2_rowsGoingWith_73 rfl dX2_rowsGoingWith_30 ?_
    refine x_iload_n 34 rfl dX2_rowsGoingWith_33 4 rfl ?_
    refine x_iald 35 rfl 6 x rfl (⟨by omega, by omega⟩) (by decide) (v := ((eN b x : Nat) : Int)) (R.e I hx) dX2_rowsGoingWith_34 ?_
    refine x_iconst 36 rfl dX2_rowsGoingWith_35 (z := 4) (by decide) ?_
    refine x_imul 37 rfl dX2_rowsGoingWith_36 (z := (((eN b x) * 4 : Nat) : Int)) (by omega) ?_
    refine x_iload 39 rfl dX2_rowsGoingWith_37 0 rfl ?_
    refine x_iadd 40 rfl dX2_rowsGoingWith_39 (z := (((eN b x) * 4 + w : Nat) : Int)) (by omega) ?_
    refine x_bipush 42 rfl dX2_rowsGoingWith_40 (z := 20) (by decide) ?_
    refine x_imul 43 rfl dX2_rowsGoingWith_42 (z := ((((eN b x) * 4 + w) * 20 : Nat) : Int)) (by omega) ?_
    refine x_iload_n 44 rfl dX2_rowsGoingWith_43 5 rfl ?_
    refine x_iadd 45 rfl dX2_rowsGoingWith_44 (z := ((((eN b x) * 4 + w) * 20 + r : Nat) : Int)) (by omega) ?_
    refine x_iald 46 rfl 1 (((eN b x) * 4 + w) * 20 + r) rfl (⟨by omega, by omega⟩) (by decide) (v := ((bitF (fun k => tR (w + 1) (eN b x) r k) 20 : Nat) : Int)) ((hT _ _ _ hex.2 hw4 hr).1) dX2_rowsGoingWith_45 ?_
    refine x_iconst 47 rfl dX2_rowsGoingWith_46 (z := (-1)) (by decide) ?_
    refine x_ixor 48 rfl dX2_rowsGoingWith_47 (z := -1 - ((bitF (fun k => tR (w + 1) (eN b x) r k) 20 : Nat) : Int)) (notM _) ?_
    refine x_iand 49 rfl dX2_rowsGoingWith_48 (z := ((1048575 &&& (1048575 - bitF (fun k => tR (w + 1) (eN b x) r k) 20) : Nat) : Int)) (clrM (by decide) (by omega)) ?_
    refine x_istore 51 rfl (lv' := [(5, .int (zI ((1048575 &&& (1048575 - bitF (fun k => tR (w + 1) (eN b x) r k) 20) : Nat) : Int))), (6, .int (zI ((w : Nat) : Int))), (0, .ref nm), (1, .ref go), (2, .int (zI ((x : Nat) : Int))), (3, .int (zI ((r : Nat) : Int))), (4, .int (zI ((y : Nat) : Int)))]) dX2_rowsGoingWith_49 (by decide) rfl ?_
    refine x_iload 53 rfl dX2_rowsGoingWith_51 0 rfl ?_
    refine x_aload_n 54 rfl dX2_rowsGoingWith_53 2 rfl ?_
    refine x_get 57 rfl (v := .ref (na 1)) 0 2 rfl rfl (by decide) inX2_rowsGoingWith_X2 flX2_rowsGoingWith_15 rfl dX2_rowsGoingWith_54 ?_
    refine x_aload_n 58 rfl dX2_rowsGoingWith_57 3 rfl ?_
    refine x_get 61 rfl (v := .ref (ga 1)) 4 4 rfl rfl (by decide) inX2_rowsGoingWith_X0 flX2_rowsGoingWith_73 rfl dX2_rowsGoingWith_58 ?_
    refine x_iload 63 rfl dX2_rowsGoingWith_61 6 rfl ?_
    refine x_iald 64 rfl 6 y rfl (⟨by omega, by omega⟩) (by decide) (v := ((eN b y : Nat) : Int)) (R.e I hy) dX2_rowsGoingWith_63 ?_
    refine x_iconst 65 rfl dX2_rowsGoingWith_64 (z := 4) (by decide) ?_
    refine x_imul 66 rfl dX2_rowsGoingWith_65 (z := (((eN b y) * 4 : Nat) : Int)) (by omega) ?_
    refine x_iload 68 rfl dX2_rowsGoingWith_66 1 rfl ?_
    refine x_iadd 69 rfl dX2_rowsGoingWith_68 (z := (((eN b y) * 4 + w : Nat) : Int)) (by omega) ?_
    refine x_bipush 71 rfl dX2_rowsGoingWith_69 (z := 20) (by decide) ?_
    refine x_imul 72 rfl dX2_rowsGoingWith_71 (z := ((((eN b y) * 4 + w) * 20 : Nat) : Int)) (by omega) ?_
    refine x_iload_n 73 rfl dX2_rowsGoingWith_72 5 rfl ?_
    refine x_iadd 74 rfl dX2_rowsGoingWith_73 (z := ((((eN b y) * 4 + w) * 20 + r : Nat) : Int)) (by omega) ?_
    refine x_iald 75 rfl 2 (((eN b y) * 4 + w) * 20 + r) rfl (⟨by omega, by omega⟩) (by decide) (v := ((bitF (fun k => tR (w + 1) (eN b y) k r) 20 : Nat) : Int)) ((hT _ _ _ hey.2 hw4 hr).2) dX2_rowsGoingWith_74 ?_
    refine x_iconst 76 rfl dX2_rowsGoingWith_75 (z := (-1)) (by decide) ?_
    refine x_ixor 77 rfl dX2_rowsGoingWith_76 (z := -1 - ((bitF (fun k => tR (w + 1) (eN b y) k r) 20 : Nat) : Int)) (notM _) ?_
    refine x_iand 78 rfl dX2_rowsGoingWith_77 (z := (((1048575 &&& (1048575 - bitF (fun k => tR (w + 1) (eN b x) r k) 20)) &&& (1048575 - bitF (fun k => tR (w + 1) (eN b y) k r) 20) : Nat) : Int)) (clrM (by have := hAB (1048575 - bitF (fun k => tR (w + 1) (eN b x) r k) 20); omega) (by omega)) ?_
    refine x_istore 80 rfl (lv' := [(5, .int (zI (((1048575 &&& (1048575 - bitF (fun k => tR (w + 1) (eN b x) r k) 20)) &&& (1048575 - bitF (fun k => tR (w + 1) (eN b y) k r) 20) : Nat) : Int))), (6, .int (zI ((w : Nat) : Int))), (0, .ref nm), (1, .ref go), (2, .int (zI ((x : Nat) : Int))), (3, .int (zI ((r : Nat) : Int))), (4, .int (zI ((y : Nat) : Int)))]) dX2_rowsGoingWith_78 (by decide) rfl ?_
    refine x_aload_n 81 rfl dX2_rowsGoingWith_80 3 rfl ?_
    refine x_get 84 rfl (v := .ref (ga 4)) 4 7 rfl rfl (by decide) inX2_rowsGoingWith_X0 flX2_rowsGoingWith_76 rfl dX2_rowsGoingWith_81 ?_
    refine x_iload 86 rfl dX2_rowsGoingWith_84 6 rfl ?_
    refine x_iald 87 rfl 9 y rfl (⟨by omega, by omega⟩) (by decide) (v := ((kN b y : Nat) : Int)) (R.k I hy) dX2_rowsGoingWith_86 ?_
    refine x_aload_n 88 rfl dX2_rowsGoingWith_87 3 rfl ?_
    refine x_get 91 rfl (v := .ref (ga 4)) 4 7 rfl rfl (by decide) inX2_rowsGoingWith_X0 flX2_rowsGoingWith_76 rfl dX2_rowsGoingWith_88 ?_
    refine x_iload_n 92 rfl dX2_rowsGoingWith_91 4 rfl ?_
    refine x_iald 93 rfl 9 x rfl (⟨by omega, by omega⟩) (by decide) (v := ((kN b x : Nat) : Int)) (R.k I hx) dX2_rowsGoingWith_92 ?_
    refine x_icmp_ne 96 rfl (tgt := 108) dX2_rowsGoingWith_93 (by decide) (by omega) (by omega) (fun h93 => ?_) (fun h93 => ?_)
    · skip
      refine x_iload 110 rfl dX2_rowsGoingWith_108 0 rfl ?_
      refine x_iret rfl ?_ dX2_rowsGoingWith_110
      exact ⟨congrArg (fun z : Nat => some (Value.int (zI (z : Int)))) (go_3 hw (by omega)), rfl⟩
    · skip
      refine x_iload 98 rfl dX2_rowsGoingWith_96 0 rfl ?_
      refine x_iload_n 99 rfl dX2_rowsGoingWith_98 5 rfl ?_
      refine x_callS0 102 rfl (c_X2_firstNote G r (by omega)) (fun _ _ h => h.2) gX2_rowsGoingWith_X2_firstNote rfl rfl rfl hd_X2_firstNote ⟨Nat.le_of_ble_eq_true rfl, Nat.le_of_ble_eq_true rfl⟩ (As := [.int (zI ((r : Nat) : Int))]) (rest := [.int (zI (((1048575 &&& (1048575 - bitF (fun k => tR (w + 1) (eN b x) r k) 20)) &&& (1048575 - bitF (fun k => tR (w + 1) (eN b y) k r) 20) : Nat) : Int))]) rfl rfl (Nat.le_of_ble_eq_true rfl) dX2_rowsGoingWith_99 ⟨Nat.zero_le _, Nat.zero_le _⟩ (fun v hq => ?_)
      obtain ⟨rfl, -⟩ := hq
      refine x_callS0 105 rfl (c_X2_rowsFirst G (noteN (tuneOfN r) 0) (hfn)) (fun _ _ h => h.2) gX2_rowsGoingWith_X2_rowsFirst rfl rfl rfl hd_X2_rowsFirst ⟨Nat.le_of_ble_eq_true rfl, Nat.le_of_ble_eq_true rfl⟩ (As := [.int (zI ((noteN (tuneOfN r) 0 : Nat) : Int))]) (rest := [.int (zI (((1048575 &&& (1048575 - bitF (fun k => tR (w + 1) (eN b x) r k) 20)) &&& (1048575 - bitF (fun k => tR (w + 1) (eN b y) k r) 20) : Nat) : Int))]) rfl rfl (Nat.le_of_ble_eq_true rfl) dX2_rowsGoingWith_102 ⟨Nat.zero_le _, Nat.zero_le _⟩ (fun v hq => ?_)
      obtain ⟨rfl, -⟩ := hq
      refine x_iand 106 rfl dX2_rowsGoingWith_105 (z := ((((1048575 &&& (1048575 - bitF (fun k => tR (w + 1) (eN b x) r k) 20)) &&& (1048575 - bitF (fun k => tR (w + 1) (eN b y) k r) 20)) &&& rfN (noteN (tuneOfN r) 0) : Nat) : Int)) (zI_and (Nat.lt_of_le_of_lt (Nat.le_trans Nat.and_le_left Nat.and_le_left) (by decide : 1048575 < 4294967296)) (by omega)) ?_
      refine x_istore 108 rfl (lv' := [(5, .int (zI ((((1048575 &&& (1048575 - bitF (fun k => tR (w + 1) (eN b x) r k) 20)) &&& (1048575 - bitF (fun k => tR (w + 1) (eN b y) k r) 20)) &&& rfN (noteN (tuneOfN r) 0) : Nat) : Int))), (6, .int (zI ((w : Nat) : Int))), (0, .ref nm), (1, .ref go), (2, .int (zI ((x : Nat) : Int))), (3, .int (zI ((r : Nat) : Int))), (4, .int (zI ((y : Nat) : Int)))]) dX2_rowsGoingWith_106 (by decide) rfl ?_
      refine x_iload 110 rfl dX2_rowsGoingWith_108 0 rfl ?_
      refine x_iret rfl ?_ dX2_rowsGoingWith_110
      exact ⟨congrArg (fun z : Nat => some (Value.int (zI (z : Int)))) (go_4 hw hr (by omega)), rfl⟩

def lvl (w o rr own row : Nat) : Nat := if own < o ∨ (own = o ∧ row < rr) then w + 1 else w
def pgx (w e o rr ear v own row : Nat) : Nat := if v < w ∨ (v = w ∧ ear < e) then v + 1 else if v = w ∧ ear = e then lvl w o rr own row else 0
def pgz (w e ear v : Nat) : Nat := if v < w ∨ (v = w ∧ ear < e) then v + 1 else 0
/-- how far the tables are: at wind w, ear e (its own rows o, rr) -/
def FRI (w e o rr : Nat) (f1 f2 : Nat → Int) : Prop := ∀ ear v r, ear < 6 → v < 4 → r < 20 → f1 ((ear * 4 + v) * 20 + r) = ((bitF (fun k => tR (pgx w e o rr ear v r k) ear r k) 20 : Nat) : Int) ∧ f2 ((ear * 4 + v) * 20 + r) = ((bitF (fun k => tR (pgx w e o rr ear v k r) ear k r) 20 : Nat) : Int)
def FRZ (w e : Nat) (f1 f2 : Nat → Int) : Prop := ∀ ear v r, ear < 6 → v < 4 → r < 20 → f1 ((ear * 4 + v) * 20 + r) = ((bitF (fun k => tR (pgz w e ear v) ear r k) 20 : Nat) : Int) ∧ f2 ((ear * 4 + v) * 20 + r) = ((bitF (fun k => tR (pgz w e ear v) ear k r) 20 : Nat) : Int)
theorem tR_0 (ear own k : Nat) : tR 0 ear own k = false := rfl
theorem tR_s (w ear own k : Nat) : tR (w + 1) ear own k = (tR w ear own k || turnsN ear (tuneOfN own) (tuneOfN k) w) := rfl
theorem FRZ_0 {f1 f2 : Nat → Int} (h : ∀ j, f1 j = 0 ∧ f2 j = 0) : FRZ 0 0 f1 f2 := by
  intro ear v r _ _ _
  have e : pgz 0 0 ear v = 0 := by unfold pgz; rw [if_neg (by omega)]
  rw [e, (h _).1, (h _).2]
  have z : ∀ g : Nat → Bool, (∀ i, g i = false) → bitF g 20 = 0 := fun g hg => bitF_0.mpr (fun i _ => hg i)
  rw [z _ (fun i => tR_0 _ _ _), z _ (fun i => tR_0 _ _ _)]; exact ⟨rfl, rfl⟩
theorem FRZ_4 {f1 f2 : Nat → Int} (h : FRZ 4 0 f1 f2) : TB f1 f2 := by
  intro ear v r h1 h2 h3
  have := h ear v r h1 h2 h3
  rw [show pgz 4 0 ear v = v + 1 by unfold pgz; rw [if_pos (by omega)]] at this
  exact this
theorem FRZ_w {w : Nat} {f1 f2 : Nat → Int} (h : FRZ w 6 f1 f2) : FRZ (w + 1) 0 f1 f2 := by
  intro ear v r h1 h2 h3
  have := h ear v r h1 h2 h3
  have e : pgz w 6 ear v = pgz (w + 1) 0 ear v := by
    unfold pgz
    by_cases q : v < w ∨ (v = w ∧ ear < 6)
    · rw [if_pos q, if_pos (by omega)]
    · rw [if_neg q, if_neg (by omega)]
  rw [e] at this; exact this
theorem FRI_e {w e : Nat} {f1 f2 : Nat → Int} (h : FRI w e 20 0 f1 f2) : FRZ w (e + 1) f1 f2 := by
  intro ear v r h1 h2 h3
  have := h ear v r h1 h2 h3
  have e1 : ∀ own row, own < 20 → pgx w e 20 0 ear v own row = pgz w (e + 1) ear v := by
    intro own row ho
    unfold pgx pgz lvl
    by_cases q : v < w ∨ (v = w ∧ ear < e)
    · rw [if_pos q, if_pos (by omega)]
    · rw [if_neg q]
      by_cases q2 : v = w ∧ ear = e
      · rw [if_pos q2, if_pos (by omega), if_pos (by omega)]; omega
      · rw [if_neg q2, if_neg (by omega)]
  rw [this.1, this.2]
  refine ⟨congrArg (fun z : Nat => (z : Int)) (bitF_congr 20 (fun i hi => by rw [e1 r i h3])), congrArg (fun z : Nat => (z : Int)) (bitF_congr 20 (fun i hi => by rw [e1 i r hi]))⟩
theorem FRI_o {w e o : Nat} {f1 f2 : Nat → Int} (h : FRI w e o 20 f1 f2) : FRI w e (o + 1) 0 f1 f2 := by
  intro ear v r h1 h2 h3
  have := h ear v r h1 h2 h3
  have e1 : ∀ own row, row < 20 → pgx w e o 20 ear v own row = pgx w e (o + 1) 0 ear v own row := by
    intro own row ho
    unfold pgx lvl
    by_cases q : own < o ∨ (own = o ∧ row < 20)
    · rw [if_pos q, if_pos (show own < o + 1 ∨ (own = o + 1 ∧ row < 0) by omega)]
    · rw [if_neg q, if_neg (show ¬ (own < o + 1 ∨ (own = o + 1 ∧ row < 0)) by omega)]
  rw [this.1, this.2]
  refine ⟨congrArg (fun z : Nat => (z : Int)) (bitF_congr 20 (fun i hi => by rw [e1 r i hi])), congrArg (fun z : Nat => (z : Int)) (bitF_congr 20 (fun i hi => by rw [e1 i r h3]))⟩
theorem FRZ_I0 {e : Nat} {f1 f2 : Nat → Int} (h : FRZ 0 e f1 f2) : FRI 0 e 0 0 f1 f2 := by
  intro ear v r h1 h2 h3
  have := h ear v r h1 h2 h3
  have e1 : ∀ own row, pgx 0 e 0 0 ear v own row = pgz 0 e ear v := by
    intro own row
    unfold pgx pgz lvl
    rw [if_neg (show ¬ (own < 0 ∨ (own = 0 ∧ row < 0)) by omega)]
    by_cases q : v < 0 ∨ (v = 0 ∧ ear < e)
    · rw [if_pos q, if_pos q]
    · rw [if_neg q, if_neg q]; split <;> rfl
  rw [this.1, this.2]
  refine ⟨congrArg (fun z : Nat => (z : Int)) (bitF_congr 20 (fun i hi => by rw [e1 r i])), congrArg (fun z : Nat => (z : Int)) (bitF_congr 20 (fun i hi => by rw [e1 i r]))⟩
theorem FRZ_I {w e : Nat} {f1 f2 : Nat → Int} (hw : w + 1 < 4) (he : e < 6) (h : FRZ (w + 1) e f1 f2) : FRI (w + 1) e 0 0 (zcp f1 f1 ((e * 4 + (w + 1)) * 20 - 20) ((e * 4 + (w + 1)) * 20) 20) (zcp f2 f2 ((e * 4 + (w + 1)) * 20 - 20) ((e * 4 + (w + 1)) * 20) 20) := by
  intro ear v r h1 h2 h3
  have e1 : ∀ own row, pgx (w + 1) e 0 0 ear v own row = if v = w + 1 ∧ ear = e then w + 1 else pgz (w + 1) e ear v := by
    intro own row
    unfold pgx pgz lvl
    rw [if_neg (show ¬ (own < 0 ∨ (own = 0 ∧ row < 0)) by omega)]
    by_cases q : v < w + 1 ∨ (v = w + 1 ∧ ear < e)
    · rw [if_pos q, if_neg (by omega), if_pos q]
    · rw [if_neg q]
      by_cases q2 : v = w + 1 ∧ ear = e
      · rw [if_pos q2, if_pos q2]
      · rw [if_neg q2, if_neg q2, if_neg q]
  simp only [e1]
  unfold zcp
  by_cases q : v = w + 1 ∧ ear = e
  · have c1 : (e * 4 + (w + 1)) * 20 ≤ (ear * 4 + v) * 20 + r ∧ (ear * 4 + v) * 20 + r < (e * 4 + (w + 1)) * 20 + 20 := by omega
    simp only [if_pos c1, if_pos q]
    have h4 := h ear w r h1 (by omega) h3
    rw [show pgz (w + 1) e ear w = w + 1 by unfold pgz; rw [if_pos (by omega)]] at h4
    rw [show (e * 4 + (w + 1)) * 20 - 20 + ((ear * 4 + v) * 20 + r - (e * 4 + (w + 1)) * 20) = (ear * 4 + w) * 20 + r by omega]
    exact h4
  · have c1 : ¬ ((e * 4 + (w + 1)) * 20 ≤ (ear * 4 + v) * 20 + r ∧ (ear * 4 + v) * 20 + r < (e * 4 + (w + 1)) * 20 + 20) := by omega
    simp only [if_neg c1, if_neg q]
    exact h ear v r h1 h2 h3
theorem lvl_o {w o rr own row : Nat} (h : ¬ (own = o ∧ row = rr)) : lvl w o (rr + 1) own row = lvl w o rr own row := by
  unfold lvl
  by_cases q : own < o ∨ (own = o ∧ row < rr)
  · rw [if_pos q, if_pos (by omega)]
  · rw [if_neg q, if_neg (by omega)]
theorem pgx_o {w e o rr ear v own row : Nat} (h : ¬ (v = w ∧ ear = e ∧ own = o ∧ row = rr)) : pgx w e o (rr + 1) ear v own row = pgx w e o rr ear v own row := by
  unfold pgx
  by_cases q2 : v = w ∧ ear = e
  · rw [lvl_o (by omega)]
  · rw [if_neg q2, if_neg q2]
theorem pgx_at {w e o rr : Nat} : pgx w e o rr e w o rr = w ∧ pgx w e o (rr + 1) e w o rr = w + 1 := by
  unfold pgx lvl
  refine ⟨?_, ?_⟩
  · rw [if_neg (by omega), if_pos ⟨rfl, rfl⟩, if_neg (by omega)]
  · rw [if_neg (by omega), if_pos ⟨rfl, rfl⟩, if_pos (by omega)]
theorem FRI_no {w e o rr : Nat} {f1 f2 : Nat → Int} (h : FRI w e o rr f1 f2) (ht : turnsN e (tuneOfN o) (tuneOfN rr) w = false) : FRI w e o (rr + 1) f1 f2 := by
  intro ear v r h1 h2 h3
  have h4 := h ear v r h1 h2 h3
  have key : ∀ own row, tR (pgx w e o (rr + 1) ear v own row) ear own row = tR (pgx w e o rr ear v own row) ear own row := by
    intro own row
    by_cases q : v = w ∧ ear = e ∧ own = o ∧ row = rr
    · obtain ⟨rfl, rfl, rfl, rfl⟩ := q
      rw [pgx_at.1, pgx_at.2, tR_s, ht, Bool.or_false]
    · rw [pgx_o q]
  simp only [key]
  exact h4
theorem FRI_yes {w e o rr : Nat} {f1 f2 : Nat → Int} (he : e < 6) (hw : w < 4) (ho : o < 20) (hr : rr < 20) (h : FRI w e o rr f1 f2) (ht : turnsN e (tuneOfN o) (tuneOfN rr) w = true) : FRI w e o (rr + 1) (zup f1 ((e * 4 + w) * 20 + o) ((bitF (fun k => tR (pgx w e o rr e w o k) e o k) 20 ||| 2 ^ rr : Nat) : Int)) (zup f2 ((e * 4 + w) * 20 + rr) ((bitF (fun k => tR (pgx w e o rr e w k rr) e k rr) 20 ||| 2 ^ o : Nat) : Int)) := by
  intro ear v r h1 h2 h3
  have h4 := h ear v r h1 h2 h3
  refine ⟨?_, ?_⟩
  · by_cases q : ear = e ∧ v = w ∧ r = o
    · obtain ⟨rfl, rfl, rfl⟩ := q
      rw [zup_s]
      refine congrArg (fun z : Nat => (z : Int)) (bitF_or hr (fun i hi => ?_))
      by_cases q2 : i = rr
      · subst q2; rw [pgx_at.1, pgx_at.2, tR_s, ht, decide_eq_true rfl, Bool.or_true]
      · rw [pgx_o (by omega), decide_eq_false q2, Bool.or_false]
    · rw [zup_n _ _ (by omega), h4.1]
      refine congrArg (fun z : Nat => (z : Int)) (bitF_congr 20 (fun i hi => ?_))
      rw [pgx_o (by omega)]
  · by_cases q : ear = e ∧ v = w ∧ r = rr
    · obtain ⟨rfl, rfl, rfl⟩ := q
      rw [zup_s]
      refine congrArg (fun z : Nat => (z : Int)) (bitF_or ho (fun i hi => ?_))
      by_cases q2 : i = o
      · subst q2; rw [pgx_at.1, pgx_at.2, tR_s, ht, decide_eq_true rfl, Bool.or_true]
      · rw [pgx_o (by omega), decide_eq_false q2, Bool.or_false]
    · rw [zup_n _ _ (by omega), h4.2]
      refine congrArg (fun z : Nat => (z : Int)) (bitF_congr 20 (fun i hi => ?_))
      rw [pgx_o (by omega)]
abbrev P_X2_takeOverLesserWind (G : XG) (nm : Nat) (na : Nat → Nat) (rd : Bool) (fe : Int) (f1 : Nat → Int) (f2 : Nat → Int) (e : Nat) (w : Nat) : Option Value → va_W → Prop := fun r ws => ∃ g1 g2 : Nat → Int, r = none ∧ ws = [(nm, nmE na rd fe), (na 0, aI G 480 g1), (na 1, aI G 480 g2)] ∧ FRI w e 0 0 g1 g2
abbrev W_X2_takeOverLesserWind (G : XG) (E : XE) (nm : Nat) (na : Nat → Nat) (rd : Bool) (fe : Int) (f1 : Nat → Int) (f2 : Nat → Int) (e : Nat) (w : Nat) (pc : Nat) (lv : List (Nat × Value)) (st : List Value) (ws : va_W) : Prop := Wx G E (rmL 1) cX2_takeOverLesserWind 4 RX2 wsX2_takeOverLesserWind none "takeOverLesserWind" 0 0 (P_X2_takeOverLesserWind G nm na rd fe f1 f2 e w) 0 0 pc lv st ws
theorem flX2_takeOverLesserWind_11 : Cond.fieldLink RX2 11 (TX2 1).1 (TX2 1).2.1 (TX2 1).2.2.1 ∈ wsX2_takeOverLesserWind := by decide +kernel
theorem flX2_takeOverLesserWind_15 : Cond.fieldLink RX2 15 (TX2 2).1 (TX2 2).2.1 (TX2 2).2.2.1 ∈ wsX2_takeOverLesserWind := by decide +kernel
theorem inX2_takeOverLesserWind_X2 : ∀ w ∈ u_ws RX2 TX2 10, w ∈ wsX2_takeOverLesserWind := fun _ h => List.mem_cons_of_mem _ (List.mem_append_right _ h)
theorem wX2_takeOverLesserWind_ai : Cond.initialized "java/lang/System" ∈ wsX2_takeOverLesserWind := by decide +kernel
theorem wX2_takeOverLesserWind_al102 : Cond.methodLink RX2 102 arraycopyName ∈ wsX2_takeOverLesserWind := by decide +kernel
theorem wX2_takeOverLesserWind_an : Cond.native arraycopyName ∈ wsX2_takeOverLesserWind := by decide +kernel
theorem wX2_takeOverLesserWind_as : Cond.static arraycopyName ∈ wsX2_takeOverLesserWind := by decide +kernel
set_option maxHeartbeats 4000000 in
set_option maxRecDepth 100000 in
/-- takeOverLesserWind -/
theorem c_X2_takeOverLesserWind (G : XG) (nm : Nat) (na : Nat → Nat) (rd : Bool) (fe : Int) (f1 f2 : Nat → Int) (e w : Nat) (he : e < 6) (hw : w < 4) (hf : FRZ w e f1 f2) : Con G yX2_takeOverLesserWind wsX2_takeOverLesserWind (rmL 1) 0 0 [.ref nm, .int (zI ((e : Nat) : Int)), .int (zI ((w : Nat) : Int))] ([(nm, nmE na rd fe), (na 0, aI G 480 f1), (na 1, aI G 480 f2)]) (P_X2_takeOverLesserWind G nm na rd fe f1 f2 e w) := by
  refine x_start (cc := cX2_takeOverLesserWind) (nL := 4) (ret := none) (by decide) rfl (Nat.le_of_ble_eq_true rfl) (fun E => ?_)
  show W_X2_takeOverLesserWind G E nm na rd fe f1 f2 e w 0 [(0, .ref nm), (1, .int (zI ((e : Nat) : Int))), (2, .int (zI ((w : Nat) : Int)))] [] ([(nm, nmE na rd fe), (na 0, aI G 480 f1), (na 1, aI G 480 f2)])
  refine x_iload_n 1 rfl dX2_takeOverLesserWind_0 2 rfl ?_
  refine x_iconst 2 rfl dX2_takeOverLesserWind_1 (z := 1) (by decide) ?_
  refine x_icmp_ge 5 rfl (tgt := 6) dX2_takeOverLesserWind_2 (by decide) (by omega) (by decide) (fun h2 => ?_) (fun h2 => ?_)
  · skip
    refine x_iload_n 7 rfl dX2_takeOverLesserWind_6 1 rfl ?_
    refine x_iconst 8 rfl dX2_takeOverLesserWind_7 (z := 4) (by decide) ?_
    refine x_imul 9 rfl dX2_takeOverLesserWind_8 (z := ((e * 4 : Nat) : Int)) (by omega) ?_
    refine x_iload_n 10 rfl dX2_takeOverLesserWind_9 2 rfl ?_
    refine x_iadd 11 rfl dX2_takeOverLesserWind_10 (z := ((e * 4 + w : Nat) : Int)) (by omega) ?_
    refine x_bipush 13 rfl dX2_takeOverLesserWind_11 (z := 20) (by decide) ?_
    refine x_imul 14 rfl dX2_takeOverLesserWind_13 (z := (((e * 4 + w) * 20 : Nat) : Int)) (by omega) ?_
    refine x_istore_n 15 rfl (lv' := [(3, .int (zI (((e * 4 + w) * 20 : Nat) : Int))), (0, .ref nm), (1, .int (zI ((e : Nat) : Int))), (2, .int (zI ((w : Nat) : Int)))]) dX2_takeOverLesserWind_14 (by decide) rfl ?_
    refine x_aload_n 16 rfl dX2_takeOverLesserWind_15 1 rfl ?_
    refine x_get 19 rfl (v := .ref (na 0)) 0 1 rfl rfl (by decide) inX2_takeOverLesserWind_X2 flX2_takeOverLesserWind_11 rfl dX2_takeOverLesserWind_16 ?_
    refine x_iload_n 20 rfl dX2_takeOverLesserWind_19 0 rfl ?_
    refine x_bipush 22 rfl dX2_takeOverLesserWind_20 (z := 20) (by decide) ?_
    refine x_isub 23 rfl dX2_takeOverLesserWind_22 (z := (((e * 4 + w) * 20 - 20 : Nat) : Int)) (by omega) ?_
    refine x_aload_n 24 rfl dX2_takeOverLesserWind_23 1 rfl ?_
    refine x_get 27 rfl (v := .ref (na 0)) 0 1 rfl rfl (by decide) inX2_takeOverLesserWind_X2 flX2_takeOverLesserWind_11 rfl dX2_takeOverLesserWind_24 ?_
    refine x_iload_n 28 rfl dX2_takeOverLesserWind_27 0 rfl ?_
    refine x_bipush 30 rfl dX2_takeOverLesserWind_28 (z := 20) (by decide) ?_
    refine x_copyi 33 rfl 1 1 ((e * 4 + w) * 20 - 20) ((e * 4 + w) * 20) 20 rfl rfl ⟨by omega, by omega, by omega⟩ (by omega) (by omega) (by decide) (by decide) wX2_takeOverLesserWind_al102 wX2_takeOverLesserWind_an wX2_takeOverLesserWind_as wX2_takeOverLesserWind_ai (by decide) (by decide) (ws' := [(nm, nmE na rd fe), (na 0, aI G 480 (zcp f1 f1 ((e * 4 + w) * 20 - 20) ((e * 4 + w) * 20) 20)), (na 1, aI G 480 f2)]) rfl dX2_takeOverLesserWind_30 ?_
    refine x_aload_n 34 rfl dX2_takeOverLesserWind_33 1 rfl ?_
    refine x_get 37 rfl (v := .ref (na 1)) 0 2 rfl rfl (by decide) inX2_takeOverLesserWind_X2 flX2_takeOverLesserWind_15 rfl dX2_takeOverLesserWind_34 ?_
    refine x_iload_n 38 rfl dX2_takeOverLesserWind_37 0 rfl ?_
    refine x_bipush 40 rfl dX2_takeOverLesserWind_38 (z := 20) (by decide) ?_
    refine x_isub 41 rfl dX2_takeOverLesserWind_40 (z := (((e * 4 + w) * 20 - 20 : Nat) : Int)) (by omega) ?_
    refine x_aload_n 42 rfl dX2_takeOverLesserWind_41 1 rfl ?_
    refine x_get 45 rfl (v := .ref (na 1)) 0 2 rfl rfl (by decide) inX2_takeOverLesserWind_X2 flX2_takeOverLesserWind_15 rfl dX2_takeOverLesserWind_42 ?_
    refine x_iload_n 46 rfl dX2_takeOverLesserWind_45 0 rfl ?_
    refine x_bipush 48 rfl dX2_takeOverLesserWind_46 (z := 20) (by decide) ?_
    refine x_copyi 51 rfl 2 2 ((e * 4 + w) * 20 - 20) ((e * 4 + w) * 20) 20 rfl rfl ⟨by omega, by omega, by omega⟩ (by omega) (by omega) (by decide) (by decide) wX2_takeOverLesserWind_al102 wX2_takeOverLesserWind_an wX2_takeOverLesserWind_as wX2_takeOverLesserWind_ai (by decide) (by decide) (ws' := [(nm, nmE na rd fe), (na 0, aI G 480 (zcp f1 f1 ((e * 4 + w) * 20 - 20) ((e * 4 + w) * 20) 20)), (na 1, aI G 480 (zcp f2 f2 ((e * 4 + w) * 20 - 20) ((e * 4 + w) * 20) 20))]) rfl dX2_takeOverLesserWind_48 ?_
    refine x_vret rfl ?_ dX2_takeOverLesserWind_51
    obtain ⟨w, rfl⟩ : ∃ v, w = v + 1 := ⟨w - 1, by omega⟩
    exact ⟨_, _, rfl, rfl, FRZ_I (by omega) he hf⟩
  · skip
    refine x_vret rfl ?_ dX2_takeOverLesserWind_5
    obtain rfl : w = 0 := by omega
    exact ⟨f1, f2, rfl, rfl, FRZ_I0 hf⟩

abbrev P_X2_fillOwn (G : XG) (nm : Nat) (na : Nat → Nat) (rd : Bool) (fe : Int) (f1 : Nat → Int) (f2 : Nat → Int) (cm : Nat → Int) (e0 : Int) (o0 : Int) (l0 : Int) (a0 : Bool) (e : Nat) (w : Nat) (o : Nat) : Option Value → va_W → Prop := fun r ws => ∃ e1 o1 l1 : Int, ∃ a1 : Bool, ∃ g1 g2 : Nat → Int, r = none ∧ ws = [(nm, nmE na rd fe), (na 0, aI G 480 g1), (na 1, aI G 480 g2), (na 2, aI G 20 cm), (na 3, .inr (1, [.int (zI e1), .int (zI o1), .int (zI l1), .int (zB a1)]))] ∧ FRI w e (o + 1) 0 g1 g2
abbrev W_X2_fillOwn (G : XG) (E : XE) (nm : Nat) (na : Nat → Nat) (rd : Bool) (fe : Int) (f1 : Nat → Int) (f2 : Nat → Int) (cm : Nat → Int) (e0 : Int) (o0 : Int) (l0 : Int) (a0 : Bool) (e : Nat) (w : Nat) (o : Nat) (pc : Nat) (lv : List (Nat × Value)) (st : List Value) (ws : va_W) : Prop := Wx G E (rmL 3) cX2_fillOwn 6 RX2 wsX2_fillOwn none "fillOwn" 0 0 (P_X2_fillOwn G nm na rd fe f1 f2 cm e0 o0 l0 a0 e w o) 0 0 pc lv st ws
theorem flX2_fillOwn_11 : Cond.fieldLink RX2 11 (TX2 1).1 (TX2 1).2.1 (TX2 1).2.2.1 ∈ wsX2_fillOwn := by decide +kernel
theorem flX2_fillOwn_15 : Cond.fieldLink RX2 15 (TX2 2).1 (TX2 2).2.1 (TX2 2).2.2.1 ∈ wsX2_fillOwn := by decide +kernel
theorem flX2_fillOwn_18 : Cond.fieldLink RX2 18 (TX2 3).1 (TX2 3).2.1 (TX2 3).2.2.1 ∈ wsX2_fillOwn := by decide +kernel
theorem flX2_fillOwn_24 : Cond.fieldLink RX2 24 (TX2 4).1 (TX2 4).2.1 (TX2 4).2.2.1 ∈ wsX2_fillOwn := by decide +kernel
theorem inX2_fillOwn_X2 : ∀ w ∈ u_ws RX2 TX2 10, w ∈ wsX2_fillOwn := fun _ h => List.mem_cons_of_mem _ (List.mem_append_left _ (List.mem_append_right _ h))
set_option maxHeartbeats 4000000 in
set_option maxRecDepth 100000 in
/-- fillOwn -/
theorem c_X2_fillOwn (G : XG) (nm : Nat) (na : Nat → Nat) (rd : Bool) (fe : Int) (f1 f2 cm : Nat → Int) (e0 o0 l0 : Int) (a0 : Bool) (e w o : Nat) (he : e < 6) (hw : w < 4) (ho : o < 20) (hc : ∀ r, r < 20 → cm r = ((leftN (tuneOfN r) w : Nat) : Int)) (hf : FRI w e o 0 f1 f2) : Con G yX2_fillOwn wsX2_fillOwn (rmL 3) 0 0 [.ref nm, .int (zI ((e : Nat) : Int)), .int (zI ((w : Nat) : Int)), .int (zI ((o : Nat) : Int))] ([(nm, nmE na rd fe), (na 0, aI G 480 f1), (na 1, aI G 480 f2), (na 2, aI G 20 cm), (na 3, .inr (1, [.int (zI e0), .int (zI o0), .int (zI l0), .int (zB a0)]))]) (P_X2_fillOwn G nm na rd fe f1 f2 cm e0 o0 l0 a0 e w o) := by
  refine x_start (cc := cX2_fillOwn) (nL := 6) (ret := none) (by decide) rfl (Nat.le_of_ble_eq_true rfl) (fun E => ?_)
  show W_X2_fillOwn G E nm na rd fe f1 f2 cm e0 o0 l0 a0 e w o 0 [(0, .ref nm), (1, .int (zI ((e : Nat) : Int))), (2, .int (zI ((w : Nat) : Int))), (3, .int (zI ((o : Nat) : Int)))] [] ([(nm, nmE na rd fe), (na 0, aI G 480 f1), (na 1, aI G 480 f2), (na 2, aI G 20 cm), (na 3, .inr (1, [.int (zI e0), .int (zI o0), .int (zI l0), .int (zB a0)]))])
  have htv := tuneOf_vt ho
  have htv8 := vt_lt htv
  refine x_iload_n 1 rfl dX2_fillOwn_0 1 rfl ?_
  refine x_iconst 2 rfl dX2_fillOwn_1 (z := 4) (by decide) ?_
  refine x_imul 3 rfl dX2_fillOwn_2 (z := ((e * 4 : Nat) : Int)) (by omega) ?_
  refine x_iload_n 4 rfl dX2_fillOwn_3 2 rfl ?_
  refine x_iadd 5 rfl dX2_fillOwn_4 (z := ((e * 4 + w : Nat) : Int)) (by omega) ?_
  refine x_bipush 7 rfl dX2_fillOwn_5 (z := 20) (by decide) ?_
  refine x_imul 8 rfl dX2_fillOwn_7 (z := (((e * 4 + w) * 20 : Nat) : Int)) (by omega) ?_
  refine x_istore 10 rfl (lv' := [(4, .int (zI (((e * 4 + w) * 20 : Nat) : Int))), (0, .ref nm), (1, .int (zI ((e : Nat) : Int))), (2, .int (zI ((w : Nat) : Int))), (3, .int (zI ((o : Nat) : Int)))]) dX2_fillOwn_8 (by decide) rfl ?_
  refine x_aload_n 11 rfl dX2_fillOwn_10 1 rfl ?_
  refine x_get 14 rfl (v := .ref (na 3)) 0 4 rfl rfl (by decide) inX2_fillOwn_X2 flX2_fillOwn_24 rfl dX2_fillOwn_11 ?_
  refine x_iload_n 15 rfl dX2_fillOwn_14 2 rfl ?_
  refine x_iload_n 16 rfl dX2_fillOwn_15 4 rfl ?_
  refine x_callS0 19 rfl (c_X2_shortTune G o (by omega)) (fun _ _ h => h.2) gX2_fillOwn_X2_shortTune rfl rfl rfl hd_X2_shortTune ⟨Nat.le_of_ble_eq_true rfl, Nat.le_of_ble_eq_true rfl⟩ (As := [.int (zI ((o : Nat) : Int))]) (rest := [.int (zI ((e : Nat) : Int)), .ref (na 3)]) rfl rfl (Nat.le_of_ble_eq_true rfl) dX2_fillOwn_16 ⟨Nat.zero_le _, Nat.zero_le _⟩ (fun v hq => ?_)
  obtain ⟨rfl, -⟩ := hq
  refine x_iload_n 20 rfl dX2_fillOwn_19 3 rfl ?_
  refine x_callV 23 rfl (c_X1_makeReady G (na 3) e0 o0 l0 a0 e (tuneOfN o) w he htv hw) [4] rfl (by decide) 4 rfl rfl gX2_fillOwn_X1_makeReady rfl rfl rfl hd_X1_makeReady ⟨Nat.le_of_ble_eq_true rfl, Nat.le_of_ble_eq_true rfl⟩ (As := [.int (zI ((e : Nat) : Int)), .int (zI ((tuneOfN o : Nat) : Int)), .int (zI ((w : Nat) : Int))]) (rest := []) rfl rfl (Nat.le_of_ble_eq_true rfl) dX2_fillOwn_20 ⟨Nat.zero_le _, Nat.zero_le _⟩ (fun v w hq => ?_)
  obtain ⟨rfl, rfl⟩ := hq
  refine ⟨rfl, ?_⟩
  refine x_ws (ws' := [(nm, nmE na rd fe), (na 0, aI G 480 f1), (na 1, aI G 480 f2), (na 2, aI G 20 cm), (na 3, .inr (1, [.int (zI ((e : Nat) : Int)), .int (zI ((tuneOfN o : Nat) : Int)), .int (zI ((leftN (if e = 2 ∨ e = 5 then halfN (tuneOfN o) else tuneOfN o) w : Nat) : Int)), .int (zB (decide (e = 5 ∧ 1 < w)))]))]) (rfl) ?_
  refine x_iconst 24 rfl dX2_fillOwn_23 (z := 0) (by decide) ?_
  refine x_istore 26 rfl (lv' := [(5, .int (zI 0)), (4, .int (zI (((e * 4 + w) * 20 : Nat) : Int))), (0, .ref nm), (1, .int (zI ((e : Nat) : Int))), (2, .int (zI ((w : Nat) : Int))), (3, .int (zI ((o : Nat) : Int)))]) dX2_fillOwn_24 (by decide) rfl ?_
  have L26 : ∀ (fz26 : Nat) (rr : Nat) (g1 : Nat → Int) (g2 : Nat → Int) (hrr : rr ≤ 20) (hg : FRI w e o rr g1 g2), 20 - rr < fz26 → W_X2_fillOwn G E nm na rd fe f1 f2 cm e0 o0 l0 a0 e w o 26 [(0, .ref nm), (1, .int (zI ((e : Nat) : Int))), (2, .int (zI ((w : Nat) : Int))), (3, .int (zI ((o : Nat) : Int))), (4, .int (zI (((e * 4 + w) * 20 : Nat) : Int))), (5, .int (zI ((rr : Nat) : Int)))] [] ([(nm, nmE na rd fe), (na 0, aI G 480 g1), (na 1, aI G 480 g2), (na 2, aI G 20 cm), (na 3, .inr (1, [.int (zI ((e : Nat) : Int)), .int (zI ((tuneOfN o : Nat) : Int)), .int (zI ((leftN (if e = 2 ∨ e = 5 then halfN (tuneOfN o) else tuneOfN o) w : Nat) : Int)), .int (zB (decide (e = 5 ∧ 1 < w)))]))]) := by
    intro fz26
    induction fz26 with
    | zero => intro rr g1 g2 hrr hg hf26; exact absurd hf26 (Nat.not_lt_zero _)
    | succ fz26 ih26 =>
      intro rr g1 g2 hrr hg hf26
      refine x_iload 28 rfl dX2_fillOwn_26 5 rfl ?_
      refine x_bipush 30 rfl dX2_fillOwn_28 (z := 20) (by decide) ?_
      refine x_icmp_ge 33 rfl (tgt := 93) dX2_fillOwn_30 (by decide) (by omega) (by decide) (fun h30 => ?_) (fun h30 => ?_)
      · skip
        refine x_vret rfl ?_ dX2_fillOwn_93
        obtain rfl : rr = 20 := by omega
        exact ⟨_, _, _, _, g1, g2, rfl, rfl, FRI_o hg⟩
      · skip
        have hrr2 : rr < 20 := by omega
        have hrv := tuneOf_vt hrr2
        have hrv8 := vt_lt hrv
        have hA := bitF_20 (fun k => tR (pgx w e o rr e w o k) e o k)
        have hB := bitF_20 (fun k => tR (pgx w e o rr e w k rr) e k rr)
        have p1 : 2 ^ rr ≤ 2 ^ 19 := Nat.pow_le_pow_right (by decide) (by omega)
        have p2 : 2 ^ o ≤ 2 ^ 19 := Nat.pow_le_pow_right (by decide) (by omega)
        refine x_aload_n 34 rfl dX2_fillOwn_33 0 rfl ?_
        refine x_get 37 rfl (v := .ref (na 3)) 0 4 rfl rfl (by decide) inX2_fillOwn_X2 flX2_fillOwn_24 rfl dX2_fillOwn_34 ?_
        refine x_iload 39 rfl dX2_fillOwn_37 5 rfl ?_
        refine x_callS0 42 rfl (c_X2_shortTune G rr (by omega)) (fun _ _ h => h.2) gX2_fillOwn_X2_shortTune rfl rfl rfl hd_X2_shortTune ⟨Nat.le_of_ble_eq_true rfl, Nat.le_of_ble_eq_true rfl⟩ (As := [.int (zI ((rr : Nat) : Int))]) (rest := [.ref (na 3)]) rfl rfl (Nat.le_of_ble_eq_true rfl) dX2_fillOwn_39 ⟨Nat.zero_le _, Nat.zero_le _⟩ (fun v hq => ?_)
        obtain ⟨rfl, -⟩ := hq
        refine x_aload_n 43 rfl dX2_fillOwn_42 0 rfl ?_
        refine x_get 46 rfl (v := .ref (na 2)) 0 3 rfl rfl (by decide) inX2_fillOwn_X2 flX2_fillOwn_18 rfl dX2_fillOwn_43 ?_
        refine x_iload 48 rfl dX2_fillOwn_46 5 rfl ?_
        refine x_iald 49 rfl 3 rr rfl (⟨by omega, by omega⟩) (by decide) (v := ((leftN (tuneOfN rr) w : Nat) : Int)) (hc rr hrr2) dX2_fillOwn_48 ?_
        refine x_callV 52 rfl (c_X1_turnsAt G (na 3) e (tuneOfN o) (leftN (if e = 2 ∨ e = 5 then halfN (tuneOfN o) else tuneOfN o) w) (decide (e = 5 ∧ 1 < w)) (tuneOfN rr) (leftN (tuneOfN rr) w) he (by omega) (by omega) (left_vt _ hrv8 hrv w hw) (his_vt htv hw)) [4] rfl (by decide) 4 rfl rfl gX2_fillOwn_X1_turnsAt rfl rfl rfl hd_X1_turnsAt ⟨Nat.le_of_ble_eq_true rfl, Nat.le_of_ble_eq_true rfl⟩ (As := [.int (zI ((tuneOfN rr : Nat) : Int)), .int (zI ((leftN (tuneOfN rr) w : Nat) : Int))]) (rest := []) rfl rfl (Nat.le_of_ble_eq_true rfl) dX2_fillOwn_49 ⟨Nat.zero_le _, Nat.zero_le _⟩ (fun v w hq => ?_)
        obtain ⟨rfl, rfl⟩ := hq
        refine ⟨rfl, ?_⟩
        refine x_ws (ws' := [(nm, nmE na rd fe), (na 0, aI G 480 g1), (na 1, aI G 480 g2), (na 2, aI G 20 cm), (na 3, .inr (1, [.int (zI ((e : Nat) : Int)), .int (zI ((tuneOfN o : Nat) : Int)), .int (zI ((leftN (if e = 2 ∨ e = 5 then halfN (tuneOfN o) else tuneOfN o) w : Nat) : Int)), .int (zB (decide (e = 5 ∧ 1 < w)))]))]) (rfl) ?_
        refine x_int (y := (zB (turnsN e (tuneOfN o) (tuneOfN rr) w))) (congrArg zB (tAt_turns he htv hrv hw)) ?_
        refine x_bif_eq 55 rfl (tgt := 87) dX2_fillOwn_52 (by decide) (fun h52 => ?_) (fun h52 => ?_)
        · skip
          refine x_iinc 90 rfl (lv' := [(5, .int (zI ((rr + 1 : Nat) : Int))), (0, .ref nm), (1, .int (zI ((e : Nat) : Int))), (2, .int (zI ((w : Nat) : Int))), (3, .int (zI ((o : Nat) : Int))), (4, .int (zI (((e * 4 + w) * 20 : Nat) : Int)))]) dX2_fillOwn_87 5 rfl (b := ((rr + 1 : Nat) : Int)) (by omega) (by decide) rfl ?_
          refine x_goto dX2_fillOwn_90 (tgt := 26) (by decide) ?_
          refine x_lv [1, 2, 3, 4, 5, 0] rfl ?_
          exact ih26 (rr + 1) g1 g2 (by omega) (FRI_no hg h52) (by omega)
        · skip
          refine x_aload_n 56 rfl dX2_fillOwn_55 0 rfl ?_
          refine x_get 59 rfl (v := .ref (na 0)) 0 1 rfl rfl (by decide) inX2_fillOwn_X2 flX2_fillOwn_11 rfl dX2_fillOwn_56 ?_
          refine x_iload 61 rfl dX2_fillOwn_59 4 rfl ?_
          refine x_iload_n 62 rfl dX2_fillOwn_61 3 rfl ?_
          refine x_iadd 63 rfl dX2_fillOwn_62 (z := (((e * 4 + w) * 20 + o : Nat) : Int)) (by omega) ?_
          refine x_dup2 64 rfl dX2_fillOwn_63 rfl rfl ?_
          refine x_iald 65 rfl 1 ((e * 4 + w) * 20 + o) rfl (⟨by omega, by omega⟩) (by decide) (v := ((bitF (fun k => tR (pgx w e o rr e w o k) e o k) 20 : Nat) : Int)) ((hg e w o he hw ho).1) dX2_fillOwn_64 ?_
          refine x_iconst 66 rfl dX2_fillOwn_65 (z := 1) (by decide) ?_
          refine x_iload 68 rfl dX2_fillOwn_66 5 rfl ?_
          refine x_ishl 69 rfl dX2_fillOwn_68 (z := ((2 ^ rr : Nat) : Int)) (zI_shl1 (i := rr) (by omega)) ?_
          refine x_ior 70 rfl dX2_fillOwn_69 (z := (((bitF (fun k => tR (pgx w e o rr e w o k) e o k) 20) ||| (2 ^ rr) : Nat) : Int)) (zI_or (a := (bitF (fun k => tR (pgx w e o rr e w o k) e o k) 20)) (b := (2 ^ rr)) (by omega) (by omega)) ?_
          refine x_iast 71 rfl 1 ((e * 4 + w) * 20 + o) rfl (⟨by omega, by omega⟩) (by decide) (ws' := [(nm, nmE na rd fe), (na 0, aI G 480 (zup g1 ((e * 4 + w) * 20 + o) (((bitF (fun k => tR (pgx w e o rr e w o k) e o k) 20) ||| (2 ^ rr) : Nat) : Int))), (na 1, aI G 480 g2), (na 2, aI G 20 cm), (na 3, .inr (1, [.int (zI ((e : Nat) : Int)), .int (zI ((tuneOfN o : Nat) : Int)), .int (zI ((leftN (if e = 2 ∨ e = 5 then halfN (tuneOfN o) else tuneOfN o) w : Nat) : Int)), .int (zB (decide (e = 5 ∧ 1 < w)))]))]) (rfl) dX2_fillOwn_70 ?_
          refine x_aload_n 72 rfl dX2_fillOwn_71 0 rfl ?_
          refine x_get 75 rfl (v := .ref (na 1)) 0 2 rfl rfl (by decide) inX2_fillOwn_X2 flX2_fillOwn_15 rfl dX2_fillOwn_72 ?_
          refine x_iload 77 rfl dX2_fillOwn_75 4 rfl ?_
          refine x_iload 79 rfl dX2_fillOwn_77 5 rfl ?_
          refine x_iadd 80 rfl dX2_fillOwn_79 (z := (((e * 4 + w) * 20 + rr : Nat) : Int)) (by omega) ?_
          refine x_dup2 81 rfl dX2_fillOwn_80 rfl rfl ?_
          refine x_iald 82 rfl 2 ((e * 4 + w) * 20 + rr) rfl (⟨by omega, by omega⟩) (by decide) (v := ((bitF (fun k => tR (pgx w e o rr e w k rr) e k rr) 20 : Nat) : Int)) ((hg e w rr he hw hrr2).2) dX2_fillOwn_81 ?_
          refine x_iconst 83 rfl dX2_fillOwn_82 (z := 1) (by decide) ?_
          refine x_iload_n 84 rfl dX2_fillOwn_83 3 rfl ?_
          refine x_ishl 85 rfl dX2_fillOwn_84 (z := ((2 ^ o : Nat) : Int)) (zI_shl1 (i := o) (by omega)) ?_
          refine x_ior 86 rfl dX2_fillOwn_85 (z := (((bitF (fun k => tR (pgx w e o rr e w k rr) e k rr) 20) ||| (2 ^ o) : Nat) : Int)) (zI_or (a := (bitF (fun k => tR (pgx w e o rr e w k rr) e k rr) 20)) (b := (2 ^ o)) (by omega) (by omega)) ?_
          refine x_iast 87 rfl 2 ((e * 4 + w) * 20 + rr) rfl (⟨by omega, by omega⟩) (by decide) (ws' := [(nm, nmE na rd fe), (na 0, aI G 480 (zup g1 ((e * 4 + w) * 20 + o) (((bitF (fun k => tR (pgx w e o rr e w o k) e o k) 20) ||| (2 ^ rr) : Nat) : Int))), (na 1, aI G 480 (zup g2 ((e * 4 + w) * 20 + rr) (((bitF (fun k => tR (pgx w e o rr e w k rr) e k rr) 20) ||| (2 ^ o) : Nat) : Int))), (na 2, aI G 20 cm), (na 3, .inr (1, [.int (zI ((e : Nat) : Int)), .int (zI ((tuneOfN o : Nat) : Int)), .int (zI ((leftN (if e = 2 ∨ e = 5 then halfN (tuneOfN o) else tuneOfN o) w : Nat) : Int)), .int (zB (decide (e = 5 ∧ 1 < w)))]))]) (rfl) dX2_fillOwn_86 ?_
          refine x_iinc 90 rfl (lv' := [(5, .int (zI ((rr + 1 : Nat) : Int))), (0, .ref nm), (1, .int (zI ((e : Nat) : Int))), (2, .int (zI ((w : Nat) : Int))), (3, .int (zI ((o : Nat) : Int))), (4, .int (zI (((e * 4 + w) * 20 : Nat) : Int)))]) dX2_fillOwn_87 5 rfl (b := ((rr + 1 : Nat) : Int)) (by omega) (by decide) rfl ?_
          refine x_goto dX2_fillOwn_90 (tgt := 26) (by decide) ?_
          refine x_lv [1, 2, 3, 4, 5, 0] rfl ?_
          exact ih26 (rr + 1) (zup g1 ((e * 4 + w) * 20 + o) (((bitF (fun k => tR (pgx w e o rr e w o k) e o k) 20) ||| (2 ^ rr) : Nat) : Int)) (zup g2 ((e * 4 + w) * 20 + rr) (((bitF (fun k => tR (pgx w e o rr e w k rr) e k rr) 20) ||| (2 ^ o) : Nat) : Int)) (by omega) (FRI_yes he hw ho (by omega) hg h52) (by omega)
  refine x_lv [2, 3, 4, 5, 1, 0] rfl ?_
  exact L26 _ 0 f1 f2 (by omega) (hf) (Nat.lt_succ_self _)

abbrev P_X2_fillRows (G : XG) (nm : Nat) (na : Nat → Nat) (rd : Bool) (fe : Int) (f1 : Nat → Int) (f2 : Nat → Int) (cm : Nat → Int) (e0 : Int) (o0 : Int) (l0 : Int) (a0 : Bool) : Option Value → va_W → Prop := fun r ws => ∃ e1 o1 l1 : Int, ∃ a1 : Bool, ∃ g1 g2 cm' : Nat → Int, r = none ∧ ws = [(nm, nmE na rd fe), (na 0, aI G 480 g1), (na 1, aI G 480 g2), (na 2, aI G 20 cm'), (na 3, .inr (1, [.int (zI e1), .int (zI o1), .int (zI l1), .int (zB a1)]))] ∧ TB g1 g2
abbrev W_X2_fillRows (G : XG) (E : XE) (nm : Nat) (na : Nat → Nat) (rd : Bool) (fe : Int) (f1 : Nat → Int) (f2 : Nat → Int) (cm : Nat → Int) (e0 : Int) (o0 : Int) (l0 : Int) (a0 : Bool) (pc : Nat) (lv : List (Nat × Value)) (st : List Value) (ws : va_W) : Prop := Wx G E (rmL 4) cX2_fillRows 4 RX2 wsX2_fillRows none "fillRows" 0 0 (P_X2_fillRows G nm na rd fe f1 f2 cm e0 o0 l0 a0) 0 0 pc lv st ws
theorem flX2_fillRows_18 : Cond.fieldLink RX2 18 (TX2 3).1 (TX2 3).2.1 (TX2 3).2.2.1 ∈ wsX2_fillRows := by decide +kernel
theorem inX2_fillRows_X2 : ∀ w ∈ u_ws RX2 TX2 10, w ∈ wsX2_fillRows := fun _ h => List.mem_cons_of_mem _ (List.mem_append_left _ (List.mem_append_right _ h))
set_option maxHeartbeats 4000000 in
set_option maxRecDepth 100000 in
/-- fillRows -/
theorem c_X2_fillRows (G : XG) (nm : Nat) (na : Nat → Nat) (rd : Bool) (fe : Int) (f1 f2 cm : Nat → Int) (e0 o0 l0 : Int) (a0 : Bool) (hf : FRZ 0 0 f1 f2) : Con G yX2_fillRows wsX2_fillRows (rmL 4) 0 0 [.ref nm] ([(nm, nmE na rd fe), (na 0, aI G 480 f1), (na 1, aI G 480 f2), (na 2, aI G 20 cm), (na 3, .inr (1, [.int (zI e0), .int (zI o0), .int (zI l0), .int (zB a0)]))]) (P_X2_fillRows G nm na rd fe f1 f2 cm e0 o0 l0 a0) := by
  refine x_start (cc := cX2_fillRows) (nL := 4) (ret := none) (by decide) rfl (Nat.le_of_ble_eq_true rfl) (fun E => ?_)
  show W_X2_fillRows G E nm na rd fe f1 f2 cm e0 o0 l0 a0 0 [(0, .ref nm)] [] ([(nm, nmE na rd fe), (na 0, aI G 480 f1), (na 1, aI G 480 f2), (na 2, aI G 20 cm), (na 3, .inr (1, [.int (zI e0), .int (zI o0), .int (zI l0), .int (zB a0)]))])
  refine x_iconst 1 rfl dX2_fillRows_0 (z := 0) (by decide) ?_
  refine x_istore_n 2 rfl (lv' := [(1, .int (zI 0)), (0, .ref nm)]) dX2_fillRows_1 (by decide) rfl ?_
  have L2 : ∀ (fz2 : Nat) (w : Nat) (cc : Nat → Int) (e1 : Int) (o1 : Int) (l1 : Int) (a1 : Bool) (g1 : Nat → Int) (g2 : Nat → Int) (hw : w ≤ 4) (hg : FRZ w 0 g1 g2), 4 - w < fz2 → W_X2_fillRows G E nm na rd fe f1 f2 cm e0 o0 l0 a0 2 [(0, .ref nm), (1, .int (zI ((w : Nat) : Int)))] [] ([(nm, nmE na rd fe), (na 0, aI G 480 g1), (na 1, aI G 480 g2), (na 2, aI G 20 cc), (na 3, .inr (1, [.int (zI e1), .int (zI o1), .int (zI l1), .int (zB a1)]))]) := by
    intro fz2
    induction fz2 with
    | zero => intro w cc e1 o1 l1 a1 g1 g2 hw hg hf2; exact absurd hf2 (Nat.not_lt_zero _)
    | succ fz2 ih2 =>
      intro w cc e1 o1 l1 a1 g1 g2 hw hg hf2
      refine x_iload_n 3 rfl dX2_fillRows_2 1 rfl ?_
      refine x_iconst 4 rfl dX2_fillRows_3 (z := 4) (by decide) ?_
      refine x_icmp_ge 7 rfl (tgt := 82) dX2_fillRows_4 (by decide) (by omega) (by decide) (fun h4 => ?_) (fun h4 => ?_)
      · skip
        refine x_vret rfl ?_ dX2_fillRows_82
        obtain rfl : w = 4 := by omega
        exact ⟨_, _, _, _, g1, g2, cc, rfl, rfl, FRZ_4 hg⟩
      · skip
        refine x_iconst 8 rfl dX2_fillRows_7 (z := 0) (by decide) ?_
        refine x_istore_n 9 rfl (lv' := [(2, .int (zI 0)), (0, .ref nm), (1, .int (zI ((w : Nat) : Int)))]) dX2_fillRows_8 (by decide) rfl ?_
        have L9 : ∀ (fz9 : Nat) (r : Nat) (cc : Nat → Int) (hr : r ≤ 20) (hcc : ∀ i, i < r → cc i = ((leftN (tuneOfN i) w : Nat) : Int)), 20 - r < fz9 → W_X2_fillRows G E nm na rd fe f1 f2 cm e0 o0 l0 a0 9 [(0, .ref nm), (1, .int (zI ((w : Nat) : Int))), (2, .int (zI ((r : Nat) : Int)))] [] ([(nm, nmE na rd fe), (na 0, aI G 480 g1), (na 1, aI G 480 g2), (na 2, aI G 20 cc), (na 3, .inr (1, [.int (zI e1), .int (zI o1), .int (zI l1), .int (zB a1)]))]) := by
          intro fz9
          induction fz9 with
          | zero => intro r cc hr hcc hf9; exact absurd hf9 (Nat.not_lt_zero _)
          | succ fz9 ih9 =>
            intro r cc hr hcc hf9
            refine x_iload_n 10 rfl dX2_fillRows_9 2 rfl ?_
            refine x_bipush 12 rfl dX2_fillRows_10 (z := 20) (by decide) ?_
            refine x_icmp_ge 15 rfl (tgt := 35) dX2_fillRows_12 (by decide) (by omega) (by decide) (fun h12 => ?_) (fun h12 => ?_)
            · skip
              have hcc2 : ∀ i, i < 20 → cc i = ((leftN (tuneOfN i) w : Nat) : Int) := fun i hi => hcc i (by omega)
              refine x_iconst 36 rfl dX2_fillRows_35 (z := 0) (by decide) ?_
              refine x_istore_n 37 rfl (lv' := [(2, .int (zI 0)), (0, .ref nm), (1, .int (zI ((w : Nat) : Int)))]) dX2_fillRows_36 (by decide) rfl ?_
              have L37 : ∀ (fz37 : Nat) (e : Nat) (e1 : Int) (o1 : Int) (l1 : Int) (a1 : Bool) (g1 : Nat → Int) (g2 : Nat → Int) (he : e ≤ 6) (hg : FRZ w e g1 g2), 6 - e < fz37 → W_X2_fillRows G E nm na rd fe f1 f2 cm e0 o0 l0 a0 37 [(0, .ref nm), (1, .int (zI ((w : Nat) : Int))), (2, .int (zI ((e : Nat) : Int)))] [] ([(nm, nmE na rd fe), (na 0, aI G 480 g1), (na 1, aI G 480 g2), (na 2, aI G 20 cc), (na 3, .inr (1, [.int (zI e1), .int (zI o1), .int (zI l1), .int (zB a1)]))]) := by
                intro fz37
                induction fz37 with
                | zero => intro e e1 o1 l1 a1 g1 g2 he hg hf37; exact absurd hf37 (Nat.not_lt_zero _)
                | succ fz37 ih37 =>
                  intro e e1 o1 l1 a1 g1 g2 he hg hf37
                  refine x_iload_n 38 rfl dX2_fillRows_37 2 rfl ?_
                  refine x_bipush 40 rfl dX2_fillRows_38 (z := 6) (by decide) ?_
                  refine x_icmp_ge 43 rfl (tgt := 76) dX2_fillRows_40 (by decide) (by omega) (by decide) (fun h40 => ?_) (fun h40 => ?_)
                  · skip
                    refine x_iinc 79 rfl (lv' := [(1, .int (zI ((w + 1 : Nat) : Int))), (0, .ref nm), (2, .int (zI ((e : Nat) : Int)))]) dX2_fillRows_76 1 rfl (b := ((w + 1 : Nat) : Int)) (by omega) (by decide) rfl ?_
                    refine x_goto dX2_fillRows_79 (tgt := 2) (by decide) ?_
                    refine x_lv [1, 0] rfl ?_
                    exact ih2 (w + 1) cc e1 o1 l1 a1 g1 g2 (by omega) (FRZ_w (by rw [show 6 = e by omega]; exact hg)) (by omega)
                  · skip
                    refine x_aload_n 44 rfl dX2_fillRows_43 0 rfl ?_
                    refine x_iload_n 45 rfl dX2_fillRows_44 2 rfl ?_
                    refine x_iload_n 46 rfl dX2_fillRows_45 1 rfl ?_
                    refine x_callV 49 rfl (c_X2_takeOverLesserWind G nm na rd fe g1 g2 e w (by omega) (by omega) hg) [0, 1, 2] rfl (by decide) 0 rfl rfl gX2_fillRows_X2_takeOverLesserWind rfl rfl rfl hd_X2_takeOverLesserWind ⟨Nat.le_of_ble_eq_true rfl, Nat.le_of_ble_eq_true rfl⟩ (As := [.int (zI ((e : Nat) : Int)), .int (zI ((w : Nat) : Int))]) (rest := []) rfl rfl (Nat.le_of_ble_eq_true rfl) dX2_fillRows_46 ⟨Nat.zero_le _, Nat.zero_le _⟩ (fun v w hq => ?_)
                    obtain ⟨g1, g2, rfl, rfl, hg⟩ := hq
                    refine ⟨rfl, ?_⟩
                    refine x_ws (ws' := [(nm, nmE na rd fe), (na 0, aI G 480 g1), (na 1, aI G 480 g2), (na 2, aI G 20 cc), (na 3, .inr (1, [.int (zI e1), .int (zI o1), .int (zI l1), .int (zB a1)]))]) (rfl) ?_
                    refine x_iconst 50 rfl dX2_fillRows_49 (z := 0) (by decide) ?_
                    refine x_istore_n 51 rfl (lv' := [(3, .int (zI 0)), (0, .ref nm), (1, .int (zI ((w : Nat) : Int))), (2, .int (zI ((e : Nat) : Int)))]) dX2_fillRows_50 (by decide) rfl ?_
                    have L51 : ∀ (fz51 : Nat) (o : Nat) (e1 : Int) (o1 : Int) (l1 : Int) (a1 : Bool) (g1 : Nat → Int) (g2 : Nat → Int) (ho : o ≤ 20) (hg : FRI w e o 0 g1 g2), 20 - o < fz51 → W_X2_fillRows G E nm na rd fe f1 f2 cm e0 o0 l0 a0 51 [(0, .ref nm), (1, .int (zI ((w : Nat) : Int))), (2, .int (zI ((e : Nat) : Int))), (3, .int (zI ((o : Nat) : Int)))] [] ([(nm, nmE na rd fe), (na 0, aI G 480 g1), (na 1, aI G 480 g2), (na 2, aI G 20 cc), (na 3, .inr (1, [.int (zI e1), .int (zI o1), .int (zI l1), .int (zB a1)]))]) := by
                      intro fz51
                      induction fz51 with
                      | zero => intro o e1 o1 l1 a1 g1 g2 ho hg hf51; exact absurd hf51 (Nat.not_lt_zero _)
                      | succ fz51 ih51 =>
                        intro o e1 o1 l1 a1 g1 g2 ho hg hf51
                        refine x_iload_n 52 rfl dX2_fillRows_51 3 rfl ?_
                        refine x_bipush 54 rfl dX2_fillRows_52 (z := 20) (by decide) ?_
                        refine x_icmp_ge 57 rfl (tgt := 70) dX2_fillRows_54 (by decide) (by omega) (by decide) (fun h54 => ?_) (fun h54 => ?_)
                        · skip
                          refine x_iinc 73 rfl (lv' := [(2, .int (zI ((e + 1 : Nat) : Int))), (0, .ref nm), (1, .int (zI ((w : Nat) : Int))), (3, .int (zI ((o : Nat) : Int)))]) dX2_fillRows_70 2 rfl (b := ((e + 1 : Nat) : Int)) (by omega) (by decide) rfl ?_
                          refine x_goto dX2_fillRows_73 (tgt := 37) (by decide) ?_
                          refine x_lv [1, 2, 0] rfl ?_
                          exact ih37 (e + 1) e1 o1 l1 a1 g1 g2 (by omega) (FRI_e (by rw [show 20 = o by omega]; exact hg)) (by omega)
                        · skip
                          refine x_aload_n 58 rfl dX2_fillRows_57 0 rfl ?_
                          refine x_iload_n 59 rfl dX2_fillRows_58 2 rfl ?_
                          refine x_iload_n 60 rfl dX2_fillRows_59 1 rfl ?_
                          refine x_iload_n 61 rfl dX2_fillRows_60 3 rfl ?_
                          refine x_callV 64 rfl (c_X2_fillOwn G nm na rd fe g1 g2 cc e1 o1 l1 a1 e w o (by omega) (by omega) (by omega) hcc2 hg) [0, 1, 2, 3, 4] rfl (by decide) 0 rfl rfl gX2_fillRows_X2_fillOwn rfl rfl rfl hd_X2_fillOwn ⟨Nat.le_of_ble_eq_true rfl, Nat.le_of_ble_eq_true rfl⟩ (As := [.int (zI ((e : Nat) : Int)), .int (zI ((w : Nat) : Int)), .int (zI ((o : Nat) : Int))]) (rest := []) rfl rfl (Nat.le_of_ble_eq_true rfl) dX2_fillRows_61 ⟨Nat.zero_le _, Nat.zero_le _⟩ (fun v w hq => ?_)
                          obtain ⟨e2, o2, l2, a2, g1, g2, rfl, rfl, hg⟩ := hq
                          refine ⟨rfl, ?_⟩
                          refine x_ws (ws' := [(nm, nmE na rd fe), (na 0, aI G 480 g1), (na 1, aI G 480 g2), (na 2, aI G 20 cc), (na 3, .inr (1, [.int (zI e2), .int (zI o2), .int (zI l2), .int (zB a2)]))]) (rfl) ?_
                          refine x_iinc 67 rfl (lv' := [(3, .int (zI ((o + 1 : Nat) : Int))), (0, .ref nm), (1, .int (zI ((w : Nat) : Int))), (2, .int (zI ((e : Nat) : Int)))]) dX2_fillRows_64 3 rfl (b := ((o + 1 : Nat) : Int)) (by omega) (by decide) rfl ?_
                          refine x_goto dX2_fillRows_67 (tgt := 51) (by decide) ?_
                          refine x_lv [1, 2, 3, 0] rfl ?_
                          exact ih51 (o + 1) e2 o2 l2 a2 g1 g2 (by omega) (hg) (by omega)
                    refine x_lv [1, 2, 3, 0] rfl ?_
                    exact L51 _ 0 e1 o1 l1 a1 g1 g2 (by omega) (hg) (Nat.lt_succ_self _)
              refine x_lv [1, 2, 0] rfl ?_
              exact L37 _ 0 e1 o1 l1 a1 g1 g2 (by omega) (hg) (Nat.lt_succ_self _)
            · skip
              refine x_aload_n 16 rfl dX2_fillRows_15 0 rfl ?_
              refine x_get 19 rfl (v := .ref (na 2)) 0 3 rfl rfl (by decide) inX2_fillRows_X2 flX2_fillRows_18 rfl dX2_fillRows_16 ?_
              refine x_iload_n 20 rfl dX2_fillRows_19 2 rfl ?_
              refine x_iload_n 21 rfl dX2_fillRows_20 2 rfl ?_
              refine x_callS0 24 rfl (c_X2_shortTune G r (by omega)) (fun _ _ h => h.2) gX2_fillRows_X2_shortTune rfl rfl rfl hd_X2_shortTune ⟨Nat.le_of_ble_eq_true rfl, Nat.le_of_ble_eq_true rfl⟩ (As := [.int (zI ((r : Nat) : Int))]) (rest := [.int (zI ((r : Nat) : Int)), .ref (na 2)]) rfl rfl (Nat.le_of_ble_eq_true rfl) dX2_fillRows_21 ⟨Nat.zero_le _, Nat.zero_le _⟩ (fun v hq => ?_)
              obtain ⟨rfl, -⟩ := hq
              refine x_iload_n 25 rfl dX2_fillRows_24 1 rfl ?_
              refine x_callS0 28 rfl (c_X4_lessLost G (tuneOfN r) w (tuneOf_vt (by omega)) (by omega)) (fun _ _ h => h.2) gX2_fillRows_X4_lessLost rfl rfl rfl hd_X4_lessLost ⟨Nat.le_of_ble_eq_true rfl, Nat.le_of_ble_eq_true rfl⟩ (As := [.int (zI ((tuneOfN r : Nat) : Int)), .int (zI ((w : Nat) : Int))]) (rest := [.int (zI ((r : Nat) : Int)), .ref (na 2)]) rfl rfl (Nat.le_of_ble_eq_true rfl) dX2_fillRows_25 ⟨Nat.zero_le _, Nat.zero_le _⟩ (fun v hq => ?_)
              obtain ⟨rfl, -⟩ := hq
              refine x_iast 29 rfl 3 r rfl (⟨by omega, by omega⟩) (by decide) (ws' := [(nm, nmE na rd fe), (na 0, aI G 480 g1), (na 1, aI G 480 g2), (na 2, aI G 20 (zup cc r ((leftN (tuneOfN r) w : Nat) : Int))), (na 3, .inr (1, [.int (zI e1), .int (zI o1), .int (zI l1), .int (zB a1)]))]) (rfl) dX2_fillRows_28 ?_
              refine x_iinc 32 rfl (lv' := [(2, .int (zI ((r + 1 : Nat) : Int))), (0, .ref nm), (1, .int (zI ((w : Nat) : Int)))]) dX2_fillRows_29 2 rfl (b := ((r + 1 : Nat) : Int)) (by omega) (by decide) rfl ?_
              refine x_goto dX2_fillRows_32 (tgt := 9) (by decide) ?_
              refine x_lv [1, 2, 0] rfl ?_
              exact ih9 (r + 1) (zup cc r ((leftN (tuneOfN r) w : Nat) : Int)) (by omega) (fun i hi => by
                                by_cases q : i = r
                                · subst q; rw [zup_s]
                                · rw [zup_n _ _ q]; exact hcc i (by omega)) (by omega)
        refine x_lv [1, 2, 0] rfl ?_
        exact L9 _ 0 cc (by omega) (fun i hi => absurd hi (Nat.not_lt_zero _)) (Nat.lt_succ_self _)
  refine x_lv [1, 0] rfl ?_
  exact L2 _ 0 cm e0 o0 l0 a0 f1 f2 (by omega) (hf) (Nat.lt_succ_self _)

