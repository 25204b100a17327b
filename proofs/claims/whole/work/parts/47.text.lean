section XL
variable {G : XG} {E : XE} {R : Room} {cc : ByteArray} {nL : Nat} {own : String} {Ts : List Cond} {ret : Option FieldType} {nm : String} {mc ms : Nat} {Post : Option Value → va_W → Prop} {cells slots pc : Nat} {lv lv' : List (Nat × Value)} {st : List Value} {ws ws' : va_W}
theorem x_lsw {dflt : Int} {ps : Array (Int × Int)} {len : Nat} {z off : Int} {tgt : Nat} (k : Int) (hz : z = k) (h32 : Z32 k) (hp : (ps.toList.zip (ps.toList.drop 1)).all (fun (a, next) => a.1 < next.1) = true) (ho : Op.lookupswitch.offset ps.toList dflt k = off) (ht : (pc : Int) + off = (tgt : Int)) (hdg : decode cc pc = .ok (.lookupswitch dflt ps, len)) (kk : Wx G E R cc nL own Ts ret nm mc ms Post cells slots tgt lv (st) (ws)) : Wx G E R cc nL own Ts ret nm mc ms Post cells slots pc lv (.int (zI z) :: st) (ws) := by
  subst hz
  exact fun C H locs ls hP hD hS hl => lv_lookup C.1 C.2.1 hdg hp (by rw [zI_toInt h32]; exact ho) ht (kk C H locs ls hP hD hS hl)
end XL
theorem hd_X3_add : yX3_add.cls = RX3 ∧ yX3_add.cls ≠ "java/lang/invoke/MethodHandle" ∧ yX3_add.cls ≠ "java/lang/invoke/VarHandle" ∧ (parseMethodDescriptor yX3_add.desc).map (fun d => d.parameters.length) = some 2 := by decide +kernel
theorem hd_X3_tellInto : yX3_tellInto.cls = RX3 ∧ yX3_tellInto.cls ≠ "java/lang/invoke/MethodHandle" ∧ yX3_tellInto.cls ≠ "java/lang/invoke/VarHandle" ∧ (parseMethodDescriptor yX3_tellInto.desc).map (fun d => d.parameters.length) = some 1 := by decide +kernel
theorem hd_X3_isRestOfItem : yX3_isRestOfItem.cls = RX3 ∧ yX3_isRestOfItem.cls ≠ "java/lang/invoke/MethodHandle" ∧ yX3_isRestOfItem.cls ≠ "java/lang/invoke/VarHandle" ∧ (parseMethodDescriptor yX3_isRestOfItem.desc).map (fun d => d.parameters.length) = some 1 := by decide +kernel
theorem hd_X3_numbersOf : yX3_numbersOf.cls ≠ "java/lang/invoke/MethodHandle" ∧ yX3_numbersOf.cls ≠ "java/lang/invoke/VarHandle" ∧ (parseMethodDescriptor yX3_numbersOf.desc).map (fun d => d.parameters.length) = some 1 := by decide +kernel
theorem hd_X3_tellItem : yX3_tellItem.cls = RX3 ∧ yX3_tellItem.cls ≠ "java/lang/invoke/MethodHandle" ∧ yX3_tellItem.cls ≠ "java/lang/invoke/VarHandle" ∧ (parseMethodDescriptor yX3_tellItem.desc).map (fun d => d.parameters.length) = some 2 := by decide +kernel
theorem hd_X3_nextToken : yX3_nextToken.cls = RX3 ∧ yX3_nextToken.cls ≠ "java/lang/invoke/MethodHandle" ∧ yX3_nextToken.cls ≠ "java/lang/invoke/VarHandle" ∧ (parseMethodDescriptor yX3_nextToken.desc).map (fun d => d.parameters.length) = some 0 := by decide +kernel
theorem hd_X3_skipBlanks : yX3_skipBlanks.cls = RX3 ∧ yX3_skipBlanks.cls ≠ "java/lang/invoke/MethodHandle" ∧ yX3_skipBlanks.cls ≠ "java/lang/invoke/VarHandle" ∧ (parseMethodDescriptor yX3_skipBlanks.desc).map (fun d => d.parameters.length) = some 0 := by decide +kernel
theorem hd_X3_isLetter : yX3_isLetter.cls ≠ "java/lang/invoke/MethodHandle" ∧ yX3_isLetter.cls ≠ "java/lang/invoke/VarHandle" ∧ (parseMethodDescriptor yX3_isLetter.desc).map (fun d => d.parameters.length) = some 1 := by decide +kernel
theorem hd_X3_isFigure : yX3_isFigure.cls ≠ "java/lang/invoke/MethodHandle" ∧ yX3_isFigure.cls ≠ "java/lang/invoke/VarHandle" ∧ (parseMethodDescriptor yX3_isFigure.desc).map (fun d => d.parameters.length) = some 1 := by decide +kernel
theorem hd_X3_takeWord : yX3_takeWord.cls = RX3 ∧ yX3_takeWord.cls ≠ "java/lang/invoke/MethodHandle" ∧ yX3_takeWord.cls ≠ "java/lang/invoke/VarHandle" ∧ (parseMethodDescriptor yX3_takeWord.desc).map (fun d => d.parameters.length) = some 0 := by decide +kernel
theorem hd_X3_isWord : yX3_isWord.cls = RX3 ∧ yX3_isWord.cls ≠ "java/lang/invoke/MethodHandle" ∧ yX3_isWord.cls ≠ "java/lang/invoke/VarHandle" ∧ (parseMethodDescriptor yX3_isWord.desc).map (fun d => d.parameters.length) = some 1 := by decide +kernel
theorem hd_X3_takeNumber : yX3_takeNumber.cls = RX3 ∧ yX3_takeNumber.cls ≠ "java/lang/invoke/MethodHandle" ∧ yX3_takeNumber.cls ≠ "java/lang/invoke/VarHandle" ∧ (parseMethodDescriptor yX3_takeNumber.desc).map (fun d => d.parameters.length) = some 0 := by decide +kernel
def ctN (k : Nat) : Nat := if k = 1 then 4 else if 4 ≤ k then 1 else k
def isW (tx : Nat → Int) (s e i : Nat) : Bool := decide (e = s + slen i) && allF (fun k => decide (tx (s + k) = chI i k)) (slen i)
theorem isW_0 {tx : Nat → Int} {s e : Nat} : isW tx s e 0 = true ↔ (e = s + 5 ∧ tx s = 104 ∧ tx (s + 1) = 101 ∧ tx (s + 2) = 97 ∧ tx (s + 3) = 114 ∧ tx (s + 4) = 115) := by
  show (decide (e = s + 5) && allF (fun k => decide (tx (s + k) = chI 0 k)) 5) = true ↔ _
  rw [Bool.and_eq_true, decide_eq_true_iff, allF_iff]
  constructor
  · rintro ⟨h, g⟩
    exact ⟨h, of_decide_eq_true (g 0 (by decide)), of_decide_eq_true (g 1 (by decide)), of_decide_eq_true (g 2 (by decide)), of_decide_eq_true (g 3 (by decide)), of_decide_eq_true (g 4 (by decide))⟩
  · rintro ⟨h, g0, g1, g2, g3, g4⟩
    refine ⟨h, fun k hk => ?_⟩
    match k, hk with
    | 0, _ => exact decide_eq_true g0
    | 1, _ => exact decide_eq_true g1
    | 2, _ => exact decide_eq_true g2
    | 3, _ => exact decide_eq_true g3
    | 4, _ => exact decide_eq_true g4
theorem isW_1 {tx : Nat → Int} {s e : Nat} : isW tx s e 1 = true ↔ (e = s + 3 ∧ tx s = 111 ∧ tx (s + 1) = 110 ∧ tx (s + 2) = 101) := by
  show (decide (e = s + 3) && allF (fun k => decide (tx (s + k) = chI 1 k)) 3) = true ↔ _
  rw [Bool.and_eq_true, decide_eq_true_iff, allF_iff]
  constructor
  · rintro ⟨h, g⟩
    exact ⟨h, of_decide_eq_true (g 0 (by decide)), of_decide_eq_true (g 1 (by decide)), of_decide_eq_true (g 2 (by decide))⟩
  · rintro ⟨h, g0, g1, g2⟩
    refine ⟨h, fun k hk => ?_⟩
    match k, hk with
    | 0, _ => exact decide_eq_true g0
    | 1, _ => exact decide_eq_true g1
    | 2, _ => exact decide_eq_true g2
theorem isW_2 {tx : Nat → Int} {s e : Nat} : isW tx s e 2 = true ↔ (e = s + 4 ∧ tx s = 100 ∧ tx (s + 1) = 101 ∧ tx (s + 2) = 97 ∧ tx (s + 3) = 100) := by
  show (decide (e = s + 4) && allF (fun k => decide (tx (s + k) = chI 2 k)) 4) = true ↔ _
  rw [Bool.and_eq_true, decide_eq_true_iff, allF_iff]
  constructor
  · rintro ⟨h, g⟩
    exact ⟨h, of_decide_eq_true (g 0 (by decide)), of_decide_eq_true (g 1 (by decide)), of_decide_eq_true (g 2 (by decide)), of_decide_eq_true (g 3 (by decide))⟩
  · rintro ⟨h, g0, g1, g2, g3⟩
    refine ⟨h, fun k hk => ?_⟩
    match k, hk with
    | 0, _ => exact decide_eq_true g0
    | 1, _ => exact decide_eq_true g1
    | 2, _ => exact decide_eq_true g2
    | 3, _ => exact decide_eq_true g3
theorem wdK_0 {tx : Nat → Int} {s e : Nat} (h : isW tx s e 0 = true) : wdK tx s e = 4 := if_pos (isW_0.mp h)
theorem nf_of {b : Bool} {P : Prop} (h : b = true ↔ P) (hf : b = false) : ¬ P := fun hp => by rw [h.mpr hp] at hf; cases hf
theorem wdK_1 {tx : Nat → Int} {s e : Nat} (h0 : isW tx s e 0 = false) (h : isW tx s e 1 = true) : wdK tx s e = 5 := by
  unfold wdK; rw [if_neg (nf_of isW_0 h0), if_pos (isW_1.mp h)]
theorem wdK_2 {tx : Nat → Int} {s e : Nat} (h0 : isW tx s e 0 = false) (h1 : isW tx s e 1 = false) (h : isW tx s e 2 = true) : wdK tx s e = 6 := by
  unfold wdK; rw [if_neg (nf_of isW_0 h0), if_neg (nf_of isW_1 h1), if_pos (isW_2.mp h)]
theorem wdK_3 {tx : Nat → Int} {s e : Nat} (h0 : isW tx s e 0 = false) (h1 : isW tx s e 1 = false) (h : isW tx s e 2 = false) : wdK tx s e = 1 := by
  unfold wdK; rw [if_neg (nf_of isW_0 h0), if_neg (nf_of isW_1 h1), if_neg (nf_of isW_2 h)]
theorem isW_no1 {tx : Nat → Int} {s e i : Nat} (h : e ≠ s + slen i) : isW tx s e i = false := by unfold isW; rw [decide_eq_false h]; rfl
theorem isW_no2 {tx : Nat → Int} {s e i k : Nat} (hk : k < slen i) (h : tx (s + k) ≠ chI i k) : isW tx s e i = false := by
  unfold isW
  cases q : allF (fun k => decide (tx (s + k) = chI i k)) (slen i) with
  | false => exact Bool.and_false _
  | true => exact absurd (of_decide_eq_true ((allF_iff _ _).mp q k hk)) h
theorem isW_yes {tx : Nat → Int} {s e i : Nat} (h : e = s + slen i) (g : allF (fun k => decide (tx (s + k) = chI i k)) (slen i) = true) : isW tx s e i = true := by unfold isW; rw [decide_eq_true h, g]; rfl
def itX (w : Int) (nf : Nat → Int) : Nat → Int := fun j => if j = 0 then w else nf (j - 1)
abbrev P_X3_isLetter (G : XG) (z : Int) : Option Value → va_W → Prop := fun v w => v = some (.int (zB (ltr z))) ∧ w = []
abbrev W_X3_isLetter (G : XG) (E : XE) (z : Int) (pc : Nat) (lv : List (Nat × Value)) (st : List Value) (ws : va_W) : Prop := Wx G E (rmL 0) cX3_isLetter 1 RX3 wsX3_isLetter (some .boolean) "isLetter" 0 0 (P_X3_isLetter G z) 0 0 pc lv st ws
set_option maxHeartbeats 4000000 in
set_option maxRecDepth 100000 in
/-- isLetter -/
theorem c_X3_isLetter (G : XG) (z : Int) (hz : Z32 z) : Con G yX3_isLetter wsX3_isLetter (rmL 0) 0 0 [.int (zI z)] ([]) (P_X3_isLetter G z) := by
  refine x_start (cc := cX3_isLetter) (nL := 1) (ret := (some .boolean)) (by decide) rfl (Nat.le_of_ble_eq_true rfl) (fun E => ?_)
  show W_X3_isLetter G E z 0 [(0, .int (zI z))] [] ([])
  refine x_iload_n 1 rfl dX3_isLetter_0 0 rfl ?_
  refine x_bipush 3 rfl dX3_isLetter_1 (z := 97) (by decide) ?_
  refine x_icmp_lt 6 rfl (tgt := 16) dX3_isLetter_3 (by decide) (by omega) (by decide) (fun h3 => ?_) (fun h3 => ?_)
  · skip
    refine x_iconst 17 rfl dX3_isLetter_16 (z := 0) (by decide) ?_
    refine x_int (y := zB (ltr z)) (zB_f (decide_eq_false (by omega))) ?_
    refine x_zret rfl ?_ dX3_isLetter_17
    exact ⟨rfl, rfl⟩
  · skip
    refine x_iload_n 7 rfl dX3_isLetter_6 0 rfl ?_
    refine x_bipush 9 rfl dX3_isLetter_7 (z := 122) (by decide) ?_
    refine x_icmp_gt 12 rfl (tgt := 16) dX3_isLetter_9 (by decide) (by omega) (by decide) (fun h9 => ?_) (fun h9 => ?_)
    · skip
      refine x_iconst 17 rfl dX3_isLetter_16 (z := 0) (by decide) ?_
      refine x_int (y := zB (ltr z)) (zB_f (decide_eq_false (by omega))) ?_
      refine x_zret rfl ?_ dX3_isLetter_17
      exact ⟨rfl, rfl⟩
    · skip
      refine x_iconst 13 rfl dX3_isLetter_12 (z := 1) (by decide) ?_
      refine x_goto dX3_isLetter_13 (tgt := 17) (by decide) ?_
      refine x_int (y := zB (ltr z)) (zB_t (decide_eq_true (by omega))) ?_
      refine x_zret rfl ?_ dX3_isLetter_17
      exact ⟨rfl, rfl⟩

abbrev P_X3_isFigure (G : XG) (z : Int) : Option Value → va_W → Prop := fun v w => v = some (.int (zB (fig z))) ∧ w = []
abbrev W_X3_isFigure (G : XG) (E : XE) (z : Int) (pc : Nat) (lv : List (Nat × Value)) (st : List Value) (ws : va_W) : Prop := Wx G E (rmL 0) cX3_isFigure 1 RX3 wsX3_isFigure (some .boolean) "isFigure" 0 0 (P_X3_isFigure G z) 0 0 pc lv st ws
set_option maxHeartbeats 4000000 in
set_option maxRecDepth 100000 in
/-- isFigure -/
theorem c_X3_isFigure (G : XG) (z : Int) (hz : Z32 z) : Con G yX3_isFigure wsX3_isFigure (rmL 0) 0 0 [.int (zI z)] ([]) (P_X3_isFigure G z) := by
  refine x_start (cc := cX3_isFigure) (nL := 1) (ret := (some .boolean)) (by decide) rfl (Nat.le_of_ble_eq_true rfl) (fun E => ?_)
  show W_X3_isFigure G E z 0 [(0, .int (zI z))] [] ([])
  refine x_iload_n 1 rfl dX3_isFigure_0 0 rfl ?_
  refine x_bipush 3 rfl dX3_isFigure_1 (z := 48) (by decide) ?_
  refine x_icmp_lt 6 rfl (tgt := 16) dX3_isFigure_3 (by decide) (by omega) (by decide) (fun h3 => ?_) (fun h3 => ?_)
  · skip
    refine x_iconst 17 rfl dX3_isFigure_16 (z := 0) (by decide) ?_
    refine x_int (y := zB (fig z)) (zB_f (decide_eq_false (by omega))) ?_
    refine x_zret rfl ?_ dX3_isFigure_17
    exact ⟨rfl, rfl⟩
  · skip
    refine x_iload_n 7 rfl dX3_isFigure_6 0 rfl ?_
    refine x_bipush 9 rfl dX3_isFigure_7 (z := 57) (by decide) ?_
    refine x_icmp_gt 12 rfl (tgt := 16) dX3_isFigure_9 (by decide) (by omega) (by decide) (fun h9 => ?_) (fun h9 => ?_)
    · skip
      refine x_iconst 17 rfl dX3_isFigure_16 (z := 0) (by decide) ?_
      refine x_int (y := zB (fig z)) (zB_f (decide_eq_false (by omega))) ?_
      refine x_zret rfl ?_ dX3_isFigure_17
      exact ⟨rfl, rfl⟩
    · skip
      refine x_iconst 13 rfl dX3_isFigure_12 (z := 1) (by decide) ?_
      refine x_goto dX3_isFigure_13 (tgt := 17) (by decide) ?_
      refine x_int (y := zB (fig z)) (zB_t (decide_eq_true (by omega))) ?_
      refine x_zret rfl ?_ dX3_isFigure_17
      exact ⟨rfl, rfl⟩

abbrev P_X3_numbersOf (G : XG) (w : Nat) : Option Value → va_W → Prop := fun v ws => v = some (.int (zI ((nKw (w + 4) : Nat) : Int))) ∧ ws = []
abbrev W_X3_numbersOf (G : XG) (E : XE) (w : Nat) (pc : Nat) (lv : List (Nat × Value)) (st : List Value) (ws : va_W) : Prop := Wx G E (rmL 0) cX3_numbersOf 1 RX3 wsX3_numbersOf (some .int) "numbersOf" 0 0 (P_X3_numbersOf G w) 0 0 pc lv st ws
set_option maxHeartbeats 4000000 in
set_option maxRecDepth 100000 in
/-- numbersOf -/
theorem c_X3_numbersOf (G : XG) (w : Nat) (hw : w ≤ 2) : Con G yX3_numbersOf wsX3_numbersOf (rmL 0) 0 0 [.int (zI ((w : Nat) : Int))] ([]) (P_X3_numbersOf G w) := by
  refine x_start (cc := cX3_numbersOf) (nL := 1) (ret := (some .int)) (by decide) rfl (Nat.le_of_ble_eq_true rfl) (fun E => ?_)
  show W_X3_numbersOf G E w 0 [(0, .int (zI ((w : Nat) : Int)))] [] ([])
  refine x_iload_n 1 rfl dX3_numbersOf_0 0 rfl ?_
  rcases (by omega : ((w : Nat) : Int) = 0 ∨ ((w : Nat) : Int) = 1 ∨ ((w : Nat) : Int) = 2) with hs1 | hs1 | hs1
  · refine x_lsw 0 (tgt := 28) hs1 (by decide) (by decide) rfl (by decide) dX3_numbersOf_1 ?_
    refine x_iconst 29 rfl dX3_numbersOf_28 (z := 3) (by decide) ?_
    refine x_iret rfl ?_ dX3_numbersOf_29
    exact ⟨by rw [show w = 0 by omega]; rfl, rfl⟩
  · refine x_lsw 1 (tgt := 30) hs1 (by decide) (by decide) rfl (by decide) dX3_numbersOf_1 ?_
    refine x_iconst 31 rfl dX3_numbersOf_30 (z := 4) (by decide) ?_
    refine x_iret rfl ?_ dX3_numbersOf_31
    exact ⟨by rw [show w = 1 by omega]; rfl, rfl⟩
  · refine x_lsw 2 (tgt := 32) hs1 (by decide) (by decide) rfl (by decide) dX3_numbersOf_1 ?_
    refine x_iconst 33 rfl dX3_numbersOf_32 (z := 2) (by decide) ?_
    refine x_iret rfl ?_ dX3_numbersOf_33
    exact ⟨by rw [show w = 2 by omega]; rfl, rfl⟩

abbrev P_X3_skipBlanks (G : XG) (tq : Nat) (ta : Nat → Nat) (sc : Nat → Int) (tx : Nat → Int) (L : Nat) (a : Nat) : Option Value → va_W → Prop := fun r w => r = none ∧ w = [(tq, txE ta (zup (zup sc 0 ((L : Nat) : Int)) 3 ((tokS tx L a : Nat) : Int))), (ta 0, aI G 200 tx)]
abbrev W_X3_skipBlanks (G : XG) (E : XE) (tq : Nat) (ta : Nat → Nat) (sc : Nat → Int) (tx : Nat → Int) (L : Nat) (a : Nat) (pc : Nat) (lv : List (Nat × Value)) (st : List Value) (ws : va_W) : Prop := Wx G E (rmL 0) cX3_skipBlanks 1 RX3 wsX3_skipBlanks none "skipBlanks" 0 0 (P_X3_skipBlanks G tq ta sc tx L a) 0 0 pc lv st ws
theorem flX3_skipBlanks_9 : Cond.fieldLink RX3 9 (TX3 3).1 (TX3 3).2.1 (TX3 3).2.2.1 ∈ wsX3_skipBlanks := by decide +kernel
theorem flX3_skipBlanks_18 : Cond.fieldLink RX3 18 (TX3 0).1 (TX3 0).2.1 (TX3 0).2.2.1 ∈ wsX3_skipBlanks := by decide +kernel
theorem flX3_skipBlanks_27 : Cond.fieldLink RX3 27 (TX3 5).1 (TX3 5).2.1 (TX3 5).2.2.1 ∈ wsX3_skipBlanks := by decide +kernel
theorem inX3_skipBlanks_X3 : ∀ w ∈ u_ws RX3 TX3 9, w ∈ wsX3_skipBlanks := fun _ h => List.mem_cons_of_mem _ (List.mem_append_right _ h)
set_option maxHeartbeats 4000000 in
set_option maxRecDepth 100000 in
/-- skipBlanks -/
theorem c_X3_skipBlanks (G : XG) (tq : Nat) (ta : Nat → Nat) (sc : Nat → Int) (tx : Nat → Int) (L a : Nat) (hL : L ≤ 200) (ha : a ≤ L) (ht : ∀ j, j < L → 0 ≤ tx j ∧ tx j ≤ 255)  : Con G yX3_skipBlanks wsX3_skipBlanks (rmL 0) 0 0 [.ref tq] ([(tq, txE ta (zup (zup sc 0 ((L : Nat) : Int)) 3 ((a : Nat) : Int))), (ta 0, aI G 200 tx)]) (P_X3_skipBlanks G tq ta sc tx L a) := by
  refine x_start (cc := cX3_skipBlanks) (nL := 1) (ret := none) (by decide) rfl (Nat.le_of_ble_eq_true rfl) (fun E => ?_)
  show W_X3_skipBlanks G E tq ta sc tx L a 0 [(0, .ref tq)] [] ([(tq, txE ta (zup (zup sc 0 ((L : Nat) : Int)) 3 ((a : Nat) : Int))), (ta 0, aI G 200 tx)])
  have L0 : ∀ (f0 : Nat) (p : Nat) (hp : p ≤ L) (hS : runE blk tx L a = runE blk tx L p), L - p < f0 → W_X3_skipBlanks G E tq ta sc tx L a 0 [(0, .ref tq)] [] ([(tq, txE ta (zup (zup sc 0 ((L : Nat) : Int)) 3 ((p : Nat) : Int))), (ta 0, aI G 200 tx)]) := by
    intro f0
    induction f0 with
    | zero => intro p hp hS hf0; exact absurd hf0 (Nat.not_lt_zero _)
    | succ f0 ih0 =>
      intro p hp hS hf0
      refine x_aload_n 1 rfl dX3_skipBlanks_0 0 rfl ?_
      refine x_get 4 rfl (v := .int (zI ((p : Nat) : Int))) 0 5 rfl rfl (by decide) inX3_skipBlanks_X3 flX3_skipBlanks_27 rfl dX3_skipBlanks_1 ?_
      refine x_aload_n 5 rfl dX3_skipBlanks_4 0 rfl ?_
      refine x_get 8 rfl (v := .int (zI ((L : Nat) : Int))) 0 0 rfl rfl (by decide) inX3_skipBlanks_X3 flX3_skipBlanks_18 rfl dX3_skipBlanks_5 ?_
      refine x_icmp_ge 11 rfl (tgt := 38) dX3_skipBlanks_8 (by decide) (by omega) (by omega) (fun h8 => ?_) (fun h8 => ?_)
      · skip
        refine x_vret rfl ?_ dX3_skipBlanks_38
        have e : tokS tx L a = p := by unfold tokS; rw [hS]; exact runE_f (fun hh => by have hq := of_decide_eq_true hh.2; omega)
        exact ⟨rfl, by rw [e]⟩
      · skip
        have htx := ht p (by omega)
        refine x_aload_n 12 rfl dX3_skipBlanks_11 0 rfl ?_
        refine x_get 15 rfl (v := .ref (ta 0)) 0 3 rfl rfl (by decide) inX3_skipBlanks_X3 flX3_skipBlanks_9 rfl dX3_skipBlanks_12 ?_
        refine x_aload_n 16 rfl dX3_skipBlanks_15 0 rfl ?_
        refine x_get 19 rfl (v := .int (zI ((p : Nat) : Int))) 0 5 rfl rfl (by decide) inX3_skipBlanks_X3 flX3_skipBlanks_27 rfl dX3_skipBlanks_16 ?_
        refine x_iald 20 rfl 1 p rfl (⟨by omega, by omega⟩) (by decide) (v := tx p) (rfl) dX3_skipBlanks_19 ?_
        refine x_bipush 22 rfl dX3_skipBlanks_20 (z := 32) (by decide) ?_
        refine x_icmp_ne 25 rfl (tgt := 38) dX3_skipBlanks_22 (by decide) (by omega) (by decide) (fun h22 => ?_) (fun h22 => ?_)
        · skip
          refine x_vret rfl ?_ dX3_skipBlanks_38
          have e : tokS tx L a = p := by unfold tokS; rw [hS]; exact runE_f (fun hh => by have hq := of_decide_eq_true hh.2; omega)
          exact ⟨rfl, by rw [e]⟩
        · skip
          refine x_aload_n 26 rfl dX3_skipBlanks_25 0 rfl ?_
          refine x_dup 27 rfl dX3_skipBlanks_26 rfl ?_
          refine x_get 30 rfl (v := .int (zI ((p : Nat) : Int))) 0 5 rfl rfl (by decide) inX3_skipBlanks_X3 flX3_skipBlanks_27 rfl dX3_skipBlanks_27 ?_
          refine x_iconst 31 rfl dX3_skipBlanks_30 (z := 1) (by decide) ?_
          refine x_iadd 32 rfl dX3_skipBlanks_31 (z := ((p + 1 : Nat) : Int)) (by omega) ?_
          refine x_put 35 rfl 0 5 rfl rfl (by decide) inX3_skipBlanks_X3 flX3_skipBlanks_27 tyX3_ok nmX3 rfl rfl rfl rfl (Nat.le_of_ble_eq_true rfl) (ws' := [(tq, txE ta (zup (zup sc 0 ((L : Nat) : Int)) 3 ((p + 1 : Nat) : Int))), (ta 0, aI G 200 tx)]) rfl dX3_skipBlanks_32 ?_
          refine x_goto dX3_skipBlanks_35 (tgt := 0) (by decide) ?_
          exact ih0 (p + 1) (by omega) (by rw [hS]; exact runE_t (by omega) (decide_eq_true (by omega))) (by omega)
  exact L0 _ a (by omega) (rfl) (Nat.lt_succ_self _)

abbrev P_X3_isWord (G : XG) (tq : Nat) (ta : Nat → Nat) (sc : Nat → Int) (tx : Nat → Int) (L : Nat) (s : Nat) (e : Nat) (i : Nat) : Option Value → va_W → Prop := fun r w => r = some (.int (zB (isW tx s e i))) ∧ w = [(tq, txE ta (zup (zup (zup sc 0 ((L : Nat) : Int)) 3 ((e : Nat) : Int)) 4 ((s : Nat) : Int))), (ta 0, aI G 200 tx)]
abbrev W_X3_isWord (G : XG) (E : XE) (tq : Nat) (ta : Nat → Nat) (sc : Nat → Int) (tx : Nat → Int) (L : Nat) (s : Nat) (e : Nat) (i : Nat) (pc : Nat) (lv : List (Nat × Value)) (st : List Value) (ws : va_W) : Prop := Wx G E (rmL 4) cX3_isWord 3 RX3 wsX3_isWord (some .boolean) "isWord" 0 0 (P_X3_isWord G tq ta sc tx L s e i) 0 0 pc lv st ws
theorem flX3_isWord_9 : Cond.fieldLink RX3 9 (TX3 3).1 (TX3 3).2.1 (TX3 3).2.2.1 ∈ wsX3_isWord := by decide +kernel
theorem flX3_isWord_27 : Cond.fieldLink RX3 27 (TX3 5).1 (TX3 5).2.1 (TX3 5).2.2.1 ∈ wsX3_isWord := by decide +kernel
theorem flX3_isWord_42 : Cond.fieldLink RX3 42 (TX3 6).1 (TX3 6).2.1 (TX3 6).2.2.1 ∈ wsX3_isWord := by decide +kernel
theorem inX3_isWord_X3 : ∀ w ∈ u_ws RX3 TX3 9, w ∈ wsX3_isWord := fun _ h => List.mem_cons_of_mem _ (List.mem_append_right _ h)
set_option maxHeartbeats 4000000 in
set_option maxRecDepth 100000 in
/-- isWord -/
theorem c_X3_isWord (G : XG) (S : SG) (tq : Nat) (ta : Nat → Nat) (sc : Nat → Int) (tx : Nat → Int) (L s e i : Nat) (hL : L ≤ 200) (hse : s ≤ e) (heL : e ≤ L) (ht : ∀ j, j < L → 0 ≤ tx j ∧ tx j ≤ 255) (hi : i < 3) : ConS G S yX3_isWord wsX3_isWord (rmL 4) 0 0 [.ref tq, .ref (S.1 i)] ([(tq, txE ta (zup (zup (zup sc 0 ((L : Nat) : Int)) 3 ((e : Nat) : Int)) 4 ((s : Nat) : Int))), (ta 0, aI G 200 tx)]) (P_X3_isWord G tq ta sc tx L s e i) := by
  refine x_startS (cc := cX3_isWord) (nL := 3) (ret := (some .boolean)) (by decide) rfl (Nat.le_of_ble_eq_true rfl) (fun E hs => ?_)
  show W_X3_isWord G E tq ta sc tx L s e i 0 [(0, .ref tq), (1, .ref (S.1 i))] [] ([(tq, txE ta (zup (zup (zup sc 0 ((L : Nat) : Int)) 3 ((e : Nat) : Int)) 4 ((s : Nat) : Int))), (ta 0, aI G 200 tx)])
  have h5 := slen_lt hi
  refine x_aload_n 1 rfl dX3_isWord_0 0 rfl ?_
  refine x_get 4 rfl (v := .int (zI ((e : Nat) : Int))) 0 5 rfl rfl (by decide) inX3_isWord_X3 flX3_isWord_27 rfl dX3_isWord_1 ?_
  refine x_aload_n 5 rfl dX3_isWord_4 0 rfl ?_
  refine x_get 8 rfl (v := .int (zI ((s : Nat) : Int))) 0 6 rfl rfl (by decide) inX3_isWord_X3 flX3_isWord_42 rfl dX3_isWord_5 ?_
  refine x_isub 9 rfl dX3_isWord_8 (z := ((e : Nat) : Int) - ((s : Nat) : Int)) (rfl) ?_
  refine x_aload_n 10 rfl dX3_isWord_9 1 rfl ?_
  refine x_callKS 13 rfl hs (c_J0_length_8abf5 G S i hi) (fun _ _ h => h.2) hi gX3_isWord_J0_length_8abf5 rfl rfl rfl hd_J0_length_8abf5 ⟨Nat.le_of_ble_eq_true rfl, Nat.le_of_ble_eq_true rfl⟩ (As := []) (rest := [.int (zI (((e : Nat) : Int) - ((s : Nat) : Int)))]) rfl rfl (Nat.le_of_ble_eq_true rfl) dX3_isWord_10 ⟨Nat.zero_le _, Nat.zero_le _⟩ (fun v hq => ?_)
  obtain ⟨rfl, -⟩ := hq
  refine x_icmp_eq 16 rfl (tgt := 18) dX3_isWord_13 (by decide) (by omega) (by omega) (fun h13 => ?_) (fun h13 => ?_)
  · skip
    refine x_iconst 19 rfl dX3_isWord_18 (z := 0) (by decide) ?_
    refine x_istore_n 20 rfl (lv' := [(2, .int (zI 0)), (0, .ref tq), (1, .ref (S.1 i))]) dX3_isWord_19 (by decide) rfl ?_
    have L20 : ∀ (f20 : Nat) (k : Nat) (hk : k ≤ slen i) (ha : allF (fun k => decide (tx (s + k) = chI i k)) k = true), slen i - k < f20 → W_X3_isWord G E tq ta sc tx L s e i 20 [(0, .ref tq), (1, .ref (S.1 i)), (2, .int (zI ((k : Nat) : Int)))] [] ([(tq, txE ta (zup (zup (zup sc 0 ((L : Nat) : Int)) 3 ((e : Nat) : Int)) 4 ((s : Nat) : Int))), (ta 0, aI G 200 tx)]) := by
      intro f20
      induction f20 with
      | zero => intro k hk ha hf20; exact absurd hf20 (Nat.not_lt_zero _)
      | succ f20 ih20 =>
        intro k hk ha hf20
        refine x_iload_n 21 rfl dX3_isWord_20 2 rfl ?_
        refine x_aload_n 22 rfl dX3_isWord_21 1 rfl ?_
        refine x_callKS 25 rfl hs (c_J0_length_8abf5 G S i hi) (fun _ _ h => h.2) hi gX3_isWord_J0_length_8abf5 rfl rfl rfl hd_J0_length_8abf5 ⟨Nat.le_of_ble_eq_true rfl, Nat.le_of_ble_eq_true rfl⟩ (As := []) (rest := [.int (zI ((k : Nat) : Int))]) rfl rfl (Nat.le_of_ble_eq_true rfl) dX3_isWord_22 ⟨Nat.zero_le _, Nat.zero_le _⟩ (fun v hq => ?_)
        obtain ⟨rfl, -⟩ := hq
        refine x_icmp_ge 28 rfl (tgt := 55) dX3_isWord_25 (by decide) (by omega) (by omega) (fun h25 => ?_) (fun h25 => ?_)
        · skip
          refine x_iconst 56 rfl dX3_isWord_55 (z := 1) (by decide) ?_
          refine x_int (y := zB (isW tx s e i)) (zB_t (isW_yes (by omega) (by rw [show slen i = k by omega]; exact ha))) ?_
          refine x_zret rfl ?_ dX3_isWord_56
          exact ⟨rfl, rfl⟩
        · skip
          have hkl : k < slen i := by omega
          have htx := ht (s + k) (by omega)
          have hch := (chI_r hi (k := k) (by omega)).1
          refine x_aload_n 29 rfl dX3_isWord_28 0 rfl ?_
          refine x_get 32 rfl (v := .ref (ta 0)) 0 3 rfl rfl (by decide) inX3_isWord_X3 flX3_isWord_9 rfl dX3_isWord_29 ?_
          refine x_aload_n 33 rfl dX3_isWord_32 0 rfl ?_
          refine x_get 36 rfl (v := .int (zI ((s : Nat) : Int))) 0 6 rfl rfl (by decide) inX3_isWord_X3 flX3_isWord_42 rfl dX3_isWord_33 ?_
          refine x_iload_n 37 rfl dX3_isWord_36 2 rfl ?_
          refine x_iadd 38 rfl dX3_isWord_37 (z := ((s + k : Nat) : Int)) (by omega) ?_
          refine x_iald 39 rfl 1 (s + k) rfl (⟨by omega, by omega⟩) (by decide) (v := tx (s + k)) (rfl) dX3_isWord_38 ?_
          refine x_aload_n 40 rfl dX3_isWord_39 1 rfl ?_
          refine x_iload_n 41 rfl dX3_isWord_40 2 rfl ?_
          refine x_callKS 44 rfl hs (c_J0_charAt_5068e G S i k hi hkl) (fun _ _ h => h.2) hi gX3_isWord_J0_charAt_5068e rfl rfl rfl hd_J0_charAt_5068e ⟨Nat.le_of_ble_eq_true rfl, Nat.le_of_ble_eq_true rfl⟩ (As := [.int (zI ((k : Nat) : Int))]) (rest := [.int (zI (tx (s + k)))]) rfl rfl (Nat.le_of_ble_eq_true rfl) dX3_isWord_41 ⟨Nat.zero_le _, Nat.zero_le _⟩ (fun v hq => ?_)
          obtain ⟨rfl, -⟩ := hq
          refine x_icmp_eq 47 rfl (tgt := 49) dX3_isWord_44 (by decide) (by omega) (by omega) (fun h44 => ?_) (fun h44 => ?_)
          · skip
            have h44 : tx (s + k) = chI i k := h44
            refine x_iinc 52 rfl (lv' := [(2, .int (zI ((k + 1 : Nat) : Int))), (0, .ref tq), (1, .ref (S.1 i))]) dX3_isWord_49 2 rfl (b := ((k + 1 : Nat) : Int)) (by omega) (by decide) rfl ?_
            refine x_goto dX3_isWord_52 (tgt := 20) (by decide) ?_
            refine x_lv [1, 2, 0] rfl ?_
            exact ih20 (k + 1) (by omega) (allF_t ha (decide_eq_true h44)) (by omega)
          · skip
            have h44 : tx (s + k) ≠ chI i k := h44
            refine x_iconst 48 rfl dX3_isWord_47 (z := 0) (by decide) ?_
            refine x_int (y := zB (isW tx s e i)) (zB_f (by first | exact isW_no1 (by omega) | exact isW_no2 hkl h44)) ?_
            refine x_zret rfl ?_ dX3_isWord_48
            exact ⟨rfl, rfl⟩
    refine x_lv [1, 2, 0] rfl ?_
    exact L20 _ 0 (by omega) (rfl) (Nat.lt_succ_self _)
  · skip
    refine x_iconst 17 rfl dX3_isWord_16 (z := 0) (by decide) ?_
    refine x_int (y := zB (isW tx s e i)) (zB_f (by first | exact isW_no1 (by omega) | exact isW_no2 hkl h44)) ?_
    refine x_zret rfl ?_ dX3_isWord_17
    exact ⟨rfl, rfl⟩

abbrev P_X3_takeWord (G : XG) (tq : Nat) (ta : Nat → Nat) (sc : Nat → Int) (tx : Nat → Int) (L : Nat) (s : Nat) : Option Value → va_W → Prop := fun r w => ∃ v' : Int, r = none ∧ w = [(tq, txE ta (zup (zup (zup (zup (zup sc 0 ((L : Nat) : Int)) 3 ((runE ltr tx L s : Nat) : Int)) 4 ((s : Nat) : Int)) 5 ((ctN (wdK tx s (runE ltr tx L s)) : Nat) : Int)) 6 v')), (ta 0, aI G 200 tx)] ∧ (4 ≤ wdK tx s (runE ltr tx L s) → v' = ((wdK tx s (runE ltr tx L s) - 4 : Nat) : Int))
abbrev W_X3_takeWord (G : XG) (E : XE) (tq : Nat) (ta : Nat → Nat) (sc : Nat → Int) (tx : Nat → Int) (L : Nat) (s : Nat) (pc : Nat) (lv : List (Nat × Value)) (st : List Value) (ws : va_W) : Prop := Wx G E (rmL 5) cX3_takeWord 1 RX3 wsX3_takeWord none "takeWord" 0 0 (P_X3_takeWord G tq ta sc tx L s) 0 0 pc lv st ws
theorem flX3_takeWord_9 : Cond.fieldLink RX3 9 (TX3 3).1 (TX3 3).2.1 (TX3 3).2.2.1 ∈ wsX3_takeWord := by decide +kernel
theorem flX3_takeWord_18 : Cond.fieldLink RX3 18 (TX3 0).1 (TX3 0).2.1 (TX3 0).2.2.1 ∈ wsX3_takeWord := by decide +kernel
theorem flX3_takeWord_27 : Cond.fieldLink RX3 27 (TX3 5).1 (TX3 5).2.1 (TX3 5).2.2.1 ∈ wsX3_takeWord := by decide +kernel
theorem flX3_takeWord_39 : Cond.fieldLink RX3 39 (TX3 7).1 (TX3 7).2.1 (TX3 7).2.2.1 ∈ wsX3_takeWord := by decide +kernel
theorem flX3_takeWord_45 : Cond.fieldLink RX3 45 (TX3 8).1 (TX3 8).2.1 (TX3 8).2.2.1 ∈ wsX3_takeWord := by decide +kernel
theorem inX3_takeWord_X3 : ∀ w ∈ u_ws RX3 TX3 9, w ∈ wsX3_takeWord := fun _ h => List.mem_cons_of_mem _ (List.mem_append_right _ h)
set_option maxHeartbeats 4000000 in
set_option maxRecDepth 100000 in
/-- takeWord -/
theorem c_X3_takeWord (G : XG) (S : SG) (tq : Nat) (ta : Nat → Nat) (sc : Nat → Int) (tx : Nat → Int) (L s : Nat) (hL : L ≤ 200) (ha : s < L) (ht : ∀ j, j < L → 0 ≤ tx j ∧ tx j ≤ 255) (hlt : ltr (tx s) = true) : ConS G S yX3_takeWord wsX3_takeWord (rmL 5) 0 0 [.ref tq] ([(tq, txE ta (zup (zup (zup sc 0 ((L : Nat) : Int)) 3 ((s : Nat) : Int)) 4 ((s : Nat) : Int))), (ta 0, aI G 200 tx)]) (P_X3_takeWord G tq ta sc tx L s) := by
  refine x_startS (cc := cX3_takeWord) (nL := 1) (ret := none) (by decide) rfl (Nat.le_of_ble_eq_true rfl) (fun E hs => ?_)
  show W_X3_takeWord G E tq ta sc tx L s 0 [(0, .ref tq)] [] ([(tq, txE ta (zup (zup (zup sc 0 ((L : Nat) : Int)) 3 ((s : Nat) : Int)) 4 ((s : Nat) : Int))), (ta 0, aI G 200 tx)])
  have L0 : ∀ (f0 : Nat) (e : Nat) (he1 : s ≤ e) (he : e ≤ L) (hR : runE ltr tx L s = runE ltr tx L e), L - e < f0 → W_X3_takeWord G E tq ta sc tx L s 0 [(0, .ref tq)] [] ([(tq, txE ta (zup (zup (zup sc 0 ((L : Nat) : Int)) 3 ((e : Nat) : Int)) 4 ((s : Nat) : Int))), (ta 0, aI G 200 tx)]) := by
    intro f0
    induction f0 with
    | zero => intro e he1 he hR hf0; exact absurd hf0 (Nat.not_lt_zero _)
    | succ f0 ih0 =>
      intro e he1 he hR hf0
      refine x_aload_n 1 rfl dX3_takeWord_0 0 rfl ?_
      refine x_get 4 rfl (v := .int (zI ((e : Nat) : Int))) 0 5 rfl rfl (by decide) inX3_takeWord_X3 flX3_takeWord_27 rfl dX3_takeWord_1 ?_
      refine x_aload_n 5 rfl dX3_takeWord_4 0 rfl ?_
      refine x_get 8 rfl (v := .int (zI ((L : Nat) : Int))) 0 0 rfl rfl (by decide) inX3_takeWord_X3 flX3_takeWord_18 rfl dX3_takeWord_5 ?_
      refine x_icmp_ge 11 rfl (tgt := 39) dX3_takeWord_8 (by decide) (by omega) (by omega) (fun h8 => ?_) (fun h8 => ?_)
      · skip
        have hEe : runE ltr tx L s = e := by rw [hR]; exact runE_f (fun hh => by first | omega | (rw [hh.2] at h23; cases h23))
        refine x_aload_n 40 rfl dX3_takeWord_39 0 rfl ?_
        refine x_iconst 41 rfl dX3_takeWord_40 (z := 1) (by decide) ?_
        refine x_put 44 rfl 0 7 rfl rfl (by decide) inX3_takeWord_X3 flX3_takeWord_39 tyX3_ok nmX3 rfl rfl rfl rfl (Nat.le_of_ble_eq_true rfl) (ws' := [(tq, txE ta (zup (zup (zup (zup sc 0 ((L : Nat) : Int)) 3 ((e : Nat) : Int)) 4 ((s : Nat) : Int)) 5 1)), (ta 0, aI G 200 tx)]) rfl dX3_takeWord_41 ?_
        refine x_aload_n 45 rfl dX3_takeWord_44 0 rfl ?_
        refine x_ldcS 47 rfl (tx := "hears") hs.2.2.2.1 dX3_takeWord_45 ?_
        refine x_callVS 50 rfl hs (c_X3_isWord G S tq ta (zup (zup (zup (zup sc 0 ((L : Nat) : Int)) 3 ((e : Nat) : Int)) 4 ((s : Nat) : Int)) 5 1) tx L s e 0 hL (by omega) (by omega) ht (by decide)) [0, 1] rfl (by decide) 0 rfl rfl gX3_takeWord_X3_isWord rfl rfl rfl hd_X3_isWord ⟨Nat.le_of_ble_eq_true rfl, Nat.le_of_ble_eq_true rfl⟩ (As := [.ref (S.1 0)]) (rest := []) rfl rfl (Nat.le_of_ble_eq_true rfl) dX3_takeWord_47 ⟨Nat.zero_le _, Nat.zero_le _⟩ (fun v w hq => ?_)
        obtain ⟨rfl, rfl⟩ := hq
        refine ⟨rfl, ?_⟩
        refine x_ws (ws' := [(tq, txE ta (zup (zup (zup (zup sc 0 ((L : Nat) : Int)) 3 ((e : Nat) : Int)) 4 ((s : Nat) : Int)) 5 1)), (ta 0, aI G 200 tx)]) (rfl) ?_
        refine x_bif_eq 53 rfl (tgt := 61) dX3_takeWord_50 (by decide) (fun h50 => ?_) (fun h50 => ?_)
        · skip
          refine x_aload_n 62 rfl dX3_takeWord_61 0 rfl ?_
          refine x_ldcS 64 rfl (tx := "one") hs.2.2.2.2.1 dX3_takeWord_62 ?_
          refine x_callVS 67 rfl hs (c_X3_isWord G S tq ta (zup (zup (zup (zup sc 0 ((L : Nat) : Int)) 3 ((e : Nat) : Int)) 4 ((s : Nat) : Int)) 5 1) tx L s e 1 hL (by omega) (by omega) ht (by decide)) [0, 1] rfl (by decide) 0 rfl rfl gX3_takeWord_X3_isWord rfl rfl rfl hd_X3_isWord ⟨Nat.le_of_ble_eq_true rfl, Nat.le_of_ble_eq_true rfl⟩ (As := [.ref (S.1 1)]) (rest := []) rfl rfl (Nat.le_of_ble_eq_true rfl) dX3_takeWord_64 ⟨Nat.zero_le _, Nat.zero_le _⟩ (fun v w hq => ?_)
          obtain ⟨rfl, rfl⟩ := hq
          refine ⟨rfl, ?_⟩
          refine x_ws (ws' := [(tq, txE ta (zup (zup (zup (zup sc 0 ((L : Nat) : Int)) 3 ((e : Nat) : Int)) 4 ((s : Nat) : Int)) 5 1)), (ta 0, aI G 200 tx)]) (rfl) ?_
          refine x_bif_eq 70 rfl (tgt := 78) dX3_takeWord_67 (by decide) (fun h67 => ?_) (fun h67 => ?_)
          · skip
            refine x_aload_n 79 rfl dX3_takeWord_78 0 rfl ?_
            refine x_ldcS 81 rfl (tx := "dead") hs.2.2.2.2.2 dX3_takeWord_79 ?_
            refine x_callVS 84 rfl hs (c_X3_isWord G S tq ta (zup (zup (zup (zup sc 0 ((L : Nat) : Int)) 3 ((e : Nat) : Int)) 4 ((s : Nat) : Int)) 5 1) tx L s e 2 hL (by omega) (by omega) ht (by decide)) [0, 1] rfl (by decide) 0 rfl rfl gX3_takeWord_X3_isWord rfl rfl rfl hd_X3_isWord ⟨Nat.le_of_ble_eq_true rfl, Nat.le_of_ble_eq_true rfl⟩ (As := [.ref (S.1 2)]) (rest := []) rfl rfl (Nat.le_of_ble_eq_true rfl) dX3_takeWord_81 ⟨Nat.zero_le _, Nat.zero_le _⟩ (fun v w hq => ?_)
            obtain ⟨rfl, rfl⟩ := hq
            refine ⟨rfl, ?_⟩
            refine x_ws (ws' := [(tq, txE ta (zup (zup (zup (zup sc 0 ((L : Nat) : Int)) 3 ((e : Nat) : Int)) 4 ((s : Nat) : Int)) 5 1)), (ta 0, aI G 200 tx)]) (rfl) ?_
            refine x_bif_eq 87 rfl (tgt := 95) dX3_takeWord_84 (by decide) (fun h84 => ?_) (fun h84 => ?_)
            · skip
              refine x_aload_n 96 rfl dX3_takeWord_95 0 rfl ?_
              refine x_iconst 97 rfl dX3_takeWord_96 (z := 4) (by decide) ?_
              refine x_put 100 rfl 0 7 rfl rfl (by decide) inX3_takeWord_X3 flX3_takeWord_39 tyX3_ok nmX3 rfl rfl rfl rfl (Nat.le_of_ble_eq_true rfl) (ws' := [(tq, txE ta (zup (zup (zup (zup sc 0 ((L : Nat) : Int)) 3 ((e : Nat) : Int)) 4 ((s : Nat) : Int)) 5 4)), (ta 0, aI G 200 tx)]) rfl dX3_takeWord_97 ?_
              refine x_vret rfl ?_ dX3_takeWord_100
              have eK : wdK tx s (runE ltr tx L s) = 1 := by rw [hEe]; exact wdK_3 h50 h67 h84
              exact ⟨sc 6, rfl, by rw [eK, hEe]; rfl, fun h => absurd h (by rw [eK]; decide)⟩
            · skip
              refine x_aload_n 88 rfl dX3_takeWord_87 0 rfl ?_
              refine x_iconst 89 rfl dX3_takeWord_88 (z := 2) (by decide) ?_
              refine x_put 92 rfl 0 8 rfl rfl (by decide) inX3_takeWord_X3 flX3_takeWord_45 tyX3_ok nmX3 rfl rfl rfl rfl (Nat.le_of_ble_eq_true rfl) (ws' := [(tq, txE ta (zup (zup (zup (zup (zup sc 0 ((L : Nat) : Int)) 3 ((e : Nat) : Int)) 4 ((s : Nat) : Int)) 5 1) 6 2)), (ta 0, aI G 200 tx)]) rfl dX3_takeWord_89 ?_
              refine x_goto dX3_takeWord_92 (tgt := 100) (by decide) ?_
              refine x_vret rfl ?_ dX3_takeWord_100
              have eK : wdK tx s (runE ltr tx L s) = 6 := by rw [hEe]; exact wdK_2 h50 h67 h84
              exact ⟨2, rfl, by rw [eK, hEe]; rfl, fun h => by rw [eK]; rfl⟩
          · skip
            refine x_aload_n 71 rfl dX3_takeWord_70 0 rfl ?_
            refine x_iconst 72 rfl dX3_takeWord_71 (z := 1) (by decide) ?_
            refine x_put 75 rfl 0 8 rfl rfl (by decide) inX3_takeWord_X3 flX3_takeWord_45 tyX3_ok nmX3 rfl rfl rfl rfl (Nat.le_of_ble_eq_true rfl) (ws' := [(tq, txE ta (zup (zup (zup (zup (zup sc 0 ((L : Nat) : Int)) 3 ((e : Nat) : Int)) 4 ((s : Nat) : Int)) 5 1) 6 1)), (ta 0, aI G 200 tx)]) rfl dX3_takeWord_72 ?_
            refine x_goto dX3_takeWord_75 (tgt := 100) (by decide) ?_
            refine x_vret rfl ?_ dX3_takeWord_100
            have eK : wdK tx s (runE ltr tx L s) = 5 := by rw [hEe]; exact wdK_1 h50 h67
            exact ⟨1, rfl, by rw [eK, hEe]; rfl, fun h => by rw [eK]; rfl⟩
        · skip
          refine x_aload_n 54 rfl dX3_takeWord_53 0 rfl ?_
          refine x_iconst 55 rfl dX3_takeWord_54 (z := 0) (by decide) ?_
          refine x_put 58 rfl 0 8 rfl rfl (by decide) inX3_takeWord_X3 flX3_takeWord_45 tyX3_ok nmX3 rfl rfl rfl rfl (Nat.le_of_ble_eq_true rfl) (ws' := [(tq, txE ta (zup (zup (zup (zup (zup sc 0 ((L : Nat) : Int)) 3 ((e : Nat) : Int)) 4 ((s : Nat) : Int)) 5 1) 6 0)), (ta 0, aI G 200 tx)]) rfl dX3_takeWord_55 ?_
          refine x_goto dX3_takeWord_58 (tgt := 100) (by decide) ?_
          refine x_vret rfl ?_ dX3_takeWord_100
          have eK : wdK tx s (runE ltr tx L s) = 4 := by rw [hEe]; exact wdK_0 h50
          exact ⟨0, rfl, by rw [eK, hEe]; rfl, fun h => by rw [eK]; rfl⟩
      · skip
        have htx := ht e (by omega)
        refine x_aload_n 12 rfl dX3_takeWord_11 0 rfl ?_
        refine x_get 15 rfl (v := .ref (ta 0)) 0 3 rfl rfl (by decide) inX3_takeWord_X3 flX3_takeWord_9 rfl dX3_takeWord_12 ?_
        refine x_aload_n 16 rfl dX3_takeWord_15 0 rfl ?_
        refine x_get 19 rfl (v := .int (zI ((e : Nat) : Int))) 0 5 rfl rfl (by decide) inX3_takeWord_X3 flX3_takeWord_27 rfl dX3_takeWord_16 ?_
        refine x_iald 20 rfl 1 e rfl (⟨by omega, by omega⟩) (by decide) (v := tx e) (rfl) dX3_takeWord_19 ?_
        refine x_callS0 23 rfl (c_X3_isLetter G (tx e) (by omega)) (fun _ _ h => h.2) gX3_takeWord_X3_isLetter rfl rfl rfl hd_X3_isLetter ⟨Nat.le_of_ble_eq_true rfl, Nat.le_of_ble_eq_true rfl⟩ (As := [.int (zI (tx e))]) (rest := []) rfl rfl (Nat.le_of_ble_eq_true rfl) dX3_takeWord_20 ⟨Nat.zero_le _, Nat.zero_le _⟩ (fun v hq => ?_)
        obtain ⟨rfl, -⟩ := hq
        refine x_bif_eq 26 rfl (tgt := 39) dX3_takeWord_23 (by decide) (fun h23 => ?_) (fun h23 => ?_)
        · skip
          have hEe : runE ltr tx L s = e := by rw [hR]; exact runE_f (fun hh => by first | omega | (rw [hh.2] at h23; cases h23))
          refine x_aload_n 40 rfl dX3_takeWord_39 0 rfl ?_
          refine x_iconst 41 rfl dX3_takeWord_40 (z := 1) (by decide) ?_
          refine x_put 44 rfl 0 7 rfl rfl (by decide) inX3_takeWord_X3 flX3_takeWord_39 tyX3_ok nmX3 rfl rfl rfl rfl (Nat.le_of_ble_eq_true rfl) (ws' := [(tq, txE ta (zup (zup (zup (zup sc 0 ((L : Nat) : Int)) 3 ((e : Nat) : Int)) 4 ((s : Nat) : Int)) 5 1)), (ta 0, aI G 200 tx)]) rfl dX3_takeWord_41 ?_
          refine x_aload_n 45 rfl dX3_takeWord_44 0 rfl ?_
          refine x_ldcS 47 rfl (tx := "hears") hs.2.2.2.1 dX3_takeWord_45 ?_
          refine x_callVS 50 rfl hs (c_X3_isWord G S tq ta (zup (zup (zup (zup sc 0 ((L : Nat) : Int)) 3 ((e : Nat) : Int)) 4 ((s : Nat) : Int)) 5 1) tx L s e 0 hL (by omega) (by omega) ht (by decide)) [0, 1] rfl (by decide) 0 rfl rfl gX3_takeWord_X3_isWord rfl rfl rfl hd_X3_isWord ⟨Nat.le_of_ble_eq_true rfl, Nat.le_of_ble_eq_true rfl⟩ (As := [.ref (S.1 0)]) (rest := []) rfl rfl (Nat.le_of_ble_eq_true rfl) dX3_takeWord_47 ⟨Nat.zero_le _, Nat.zero_le _⟩ (fun v w hq => ?_)
          obtain ⟨rfl, rfl⟩ := hq
          refine ⟨rfl, ?_⟩
          refine x_ws (ws' := [(tq, txE ta (zup (zup (zup (zup sc 0 ((L : Nat) : Int)) 3 ((e : Nat) : Int)) 4 ((s : Nat) : Int)) 5 1)), (ta 0, aI G 200 tx)]) (rfl) ?_
          refine x_bif_eq 53 rfl (tgt := 61) dX3_takeWord_50 (by decide) (fun h50 => ?_) (fun h50 => ?_)
          · skip
            refine x_aload_n 62 rfl dX3_takeWord_61 0 rfl ?_
            refine x_ldcS 64 rfl (tx := "one") hs.2.2.2.2.1 dX3_takeWord_62 ?_
            refine x_callVS 67 rfl hs (c_X3_isWord G S tq ta (zup (zup (zup (zup sc 0 ((L : Nat) : Int)) 3 ((e : Nat) : Int)) 4 ((s : Nat) : Int)) 5 1) tx L s e 1 hL (by omega) (by omega) ht (by decide)) [0, 1] rfl (by decide) 0 rfl rfl gX3_takeWord_X3_isWord rfl rfl rfl hd_X3_isWord ⟨Nat.le_of_ble_eq_true rfl, Nat.le_of_ble_eq_true rfl⟩ (As := [.ref (S.1 1)]) (rest := []) rfl rfl (Nat.le_of_ble_eq_true rfl) dX3_takeWord_64 ⟨Nat.zero_le _, Nat.zero_le _⟩ (fun v w hq => ?_)
            obtain ⟨rfl, rfl⟩ := hq
            refine ⟨rfl, ?_⟩
            refine x_ws (ws' := [(tq, txE ta (zup (zup (zup (zup sc 0 ((L : Nat) : Int)) 3 ((e : Nat) : Int)) 4 ((s : Nat) : Int)) 5 1)), (ta 0, aI G 200 tx)]) (rfl) ?_
            refine x_bif_eq 70 rfl (tgt := 78) dX3_takeWord_67 (by decide) (fun h67 => ?_) (fun h67 => ?_)
            · skip
              refine x_aload_n 79 rfl dX3_takeWord_78 0 rfl ?_
              refine x_ldcS 81 rfl (tx := "dead") hs.2.2.2.2.2 dX3_takeWord_79 ?_
              refine x_callVS 84 rfl hs (c_X3_isWord G S tq ta (zup (zup (zup (zup sc 0 ((L : Nat) : Int)) 3 ((e : Nat) : Int)) 4 ((s : Nat) : Int)) 5 1) tx L s e 2 hL (by omega) (by omega) ht (by decide)) [0, 1] rfl (by decide) 0 rfl rfl gX3_takeWord_X3_isWord rfl rfl rfl hd_X3_isWord ⟨Nat.le_of_ble_eq_true rfl, Nat.le_of_ble_eq_true rfl⟩ (As := [.ref (S.1 2)]) (rest := []) rfl rfl (Nat.le_of_ble_eq_true rfl) dX3_takeWord_81 ⟨Nat.zero_le _, Nat.zero_le _⟩ (fun v w hq => ?_)
              obtain ⟨rfl, rfl⟩ := hq
              refine ⟨rfl, ?_⟩
              refine x_ws (ws' := [(tq, txE ta (zup (zup (zup (zup sc 0 ((L : Nat) : Int)) 3 ((e : Nat) : Int)) 4 ((s : Nat) : Int)) 5 1)), (ta 0, aI G 200 tx)]) (rfl) ?_
              refine x_bif_eq 87 rfl (tgt := 95) dX3_takeWord_84 (by decide) (fun h84 => ?_) (fun h84 => ?_)
              · skip
                refine x_aload_n 96 rfl dX3_takeWord_95 0 rfl ?_
                refine x_iconst 97 rfl dX3_takeWord_96 (z := 4) (by decide) ?_
                refine x_put 100 rfl 0 7 rfl rfl (by decide) inX3_takeWord_X3 flX3_takeWord_39 tyX3_ok nmX3 rfl rfl rfl rfl (Nat.le_of_ble_eq_true rfl) (ws' := [(tq, txE ta (zup (zup (zup (zup sc 0 ((L : Nat) : Int)) 3 ((e : Nat) : Int)) 4 ((s : Nat) : Int)) 5 4)), (ta 0, aI G 200 tx)]) rfl dX3_takeWord_97 ?_
                refine x_vret rfl ?_ dX3_takeWord_100
                have eK : wdK tx s (runE ltr tx L s) = 1 := by rw [hEe]; exact wdK_3 h50 h67 h84
                exact ⟨sc 6, rfl, by rw [eK, hEe]; rfl, fun h => absurd h (by rw [eK]; decide)⟩
              · skip
                refine x_aload_n 88 rfl dX3_takeWord_87 0 rfl ?_
                refine x_iconst 89 rfl dX3_takeWord_88 (z := 2) (by decide) ?_
                refine x_put 92 rfl 0 8 rfl rfl (by decide) inX3_takeWord_X3 flX3_takeWord_45 tyX3_ok nmX3 rfl rfl rfl rfl (Nat.le_of_ble_eq_true rfl) (ws' := [(tq, txE ta (zup (zup (zup (zup (zup sc 0 ((L : Nat) : Int)) 3 ((e : Nat) : Int)) 4 ((s : Nat) : Int)) 5 1) 6 2)), (ta 0, aI G 200 tx)]) rfl dX3_takeWord_89 ?_
                refine x_goto dX3_takeWord_92 (tgt := 100) (by decide) ?_
                refine x_vret rfl ?_ dX3_takeWord_100
                have eK : wdK tx s (runE ltr tx L s) = 6 := by rw [hEe]; exact wdK_2 h50 h67 h84
                exact ⟨2, rfl, by rw [eK, hEe]; rfl, fun h => by rw [eK]; rfl⟩
            · skip
              refine x_aload_n 71 rfl dX3_takeWord_70 0 rfl ?_
              refine x_iconst 72 rfl dX3_takeWord_71 (z := 1) (by decide) ?_
              refine x_put 75 rfl 0 8 rfl rfl (by decide) inX3_takeWord_X3 flX3_takeWord_45 tyX3_ok nmX3 rfl rfl rfl rfl (Nat.le_of_ble_eq_true rfl) (ws' := [(tq, txE ta (zup (zup (zup (zup (zup sc 0 ((L : Nat) : Int)) 3 ((e : Nat) : Int)) 4 ((s : Nat) : Int)) 5 1) 6 1)), (ta 0, aI G 200 tx)]) rfl dX3_takeWord_72 ?_
              refine x_goto dX3_takeWord_75 (tgt := 100) (by decide) ?_
              refine x_vret rfl ?_ dX3_takeWord_100
              have eK : wdK tx s (runE ltr tx L s) = 5 := by rw [hEe]; exact wdK_1 h50 h67
              exact ⟨1, rfl, by rw [eK, hEe]; rfl, fun h => by rw [eK]; rfl⟩
          · skip
            refine x_aload_n 54 rfl dX3_takeWord_53 0 rfl ?_
            refine x_iconst 55 rfl dX3_takeWord_54 (z := 0) (by decide) ?_
            refine x_put 58 rfl 0 8 rfl rfl (by decide) inX3_takeWord_X3 flX3_takeWord_45 tyX3_ok nmX3 rfl rfl rfl rfl (Nat.le_of_ble_eq_true rfl) (ws' := [(tq, txE ta (zup (zup (zup (zup (zup sc 0 ((L : Nat) : Int)) 3 ((e : Nat) : Int)) 4 ((s : Nat) : Int)) 5 1) 6 0)), (ta 0, aI G 200 tx)]) rfl dX3_takeWord_55 ?_
            refine x_goto dX3_takeWord_58 (tgt := 100) (by decide) ?_
            refine x_vret rfl ?_ dX3_takeWord_100
            have eK : wdK tx s (runE ltr tx L s) = 4 := by rw [hEe]; exact wdK_0 h50
            exact ⟨0, rfl, by rw [eK, hEe]; rfl, fun h => by rw [eK]; rfl⟩
        · skip
          refine x_aload_n 27 rfl dX3_takeWord_26 0 rfl ?_
          refine x_dup 28 rfl dX3_takeWord_27 rfl ?_
          refine x_get 31 rfl (v := .int (zI ((e : Nat) : Int))) 0 5 rfl rfl (by decide) inX3_takeWord_X3 flX3_takeWord_27 rfl dX3_takeWord_28 ?_
          refine x_iconst 32 rfl dX3_takeWord_31 (z := 1) (by decide) ?_
          refine x_iadd 33 rfl dX3_takeWord_32 (z := ((e + 1 : Nat) : Int)) (by omega) ?_
          refine x_put 36 rfl 0 5 rfl rfl (by decide) inX3_takeWord_X3 flX3_takeWord_27 tyX3_ok nmX3 rfl rfl rfl rfl (Nat.le_of_ble_eq_true rfl) (ws' := [(tq, txE ta (zup (zup (zup sc 0 ((L : Nat) : Int)) 3 ((e + 1 : Nat) : Int)) 4 ((s : Nat) : Int))), (ta 0, aI G 200 tx)]) rfl dX3_takeWord_33 ?_
          refine x_goto dX3_takeWord_36 (tgt := 0) (by decide) ?_
          exact ih0 (e + 1) (by omega) (by omega) (by rw [hR]; exact runE_t (by omega) h23) (by omega)
  exact L0 _ s (by omega) (by omega) (rfl) (Nat.lt_succ_self _)

abbrev P_X3_takeNumber (G : XG) (tq : Nat) (ta : Nat → Nat) (sc : Nat → Int) (tx : Nat → Int) (L : Nat) (s : Nat) : Option Value → va_W → Prop := fun r w => ∃ v' : Int, r = none ∧ w = [(tq, txE ta (zup (zup (zup (zup (zup sc 0 ((L : Nat) : Int)) 3 ((runE fig tx L s : Nat) : Int)) 4 ((s : Nat) : Int)) 5 ((ctN (if runE fig tx L s - s ≤ 4 then 2 else 1) : Nat) : Int)) 6 v')), (ta 0, aI G 200 tx)] ∧ ((runE fig tx L s) - s ≤ 4 → v' = ((nvN tx s ((runE fig tx L s) - s) : Nat) : Int))
abbrev W_X3_takeNumber (G : XG) (E : XE) (tq : Nat) (ta : Nat → Nat) (sc : Nat → Int) (tx : Nat → Int) (L : Nat) (s : Nat) (pc : Nat) (lv : List (Nat × Value)) (st : List Value) (ws : va_W) : Prop := Wx G E (rmL 1) cX3_takeNumber 1 RX3 wsX3_takeNumber none "takeNumber" 0 0 (P_X3_takeNumber G tq ta sc tx L s) 0 0 pc lv st ws
theorem flX3_takeNumber_9 : Cond.fieldLink RX3 9 (TX3 3).1 (TX3 3).2.1 (TX3 3).2.2.1 ∈ wsX3_takeNumber := by decide +kernel
theorem flX3_takeNumber_18 : Cond.fieldLink RX3 18 (TX3 0).1 (TX3 0).2.1 (TX3 0).2.2.1 ∈ wsX3_takeNumber := by decide +kernel
theorem flX3_takeNumber_27 : Cond.fieldLink RX3 27 (TX3 5).1 (TX3 5).2.1 (TX3 5).2.2.1 ∈ wsX3_takeNumber := by decide +kernel
theorem flX3_takeNumber_39 : Cond.fieldLink RX3 39 (TX3 7).1 (TX3 7).2.1 (TX3 7).2.2.1 ∈ wsX3_takeNumber := by decide +kernel
theorem flX3_takeNumber_42 : Cond.fieldLink RX3 42 (TX3 6).1 (TX3 6).2.1 (TX3 6).2.2.1 ∈ wsX3_takeNumber := by decide +kernel
theorem flX3_takeNumber_45 : Cond.fieldLink RX3 45 (TX3 8).1 (TX3 8).2.1 (TX3 8).2.2.1 ∈ wsX3_takeNumber := by decide +kernel
theorem inX3_takeNumber_X3 : ∀ w ∈ u_ws RX3 TX3 9, w ∈ wsX3_takeNumber := fun _ h => List.mem_cons_of_mem _ (List.mem_append_right _ h)
set_option maxHeartbeats 4000000 in
set_option maxRecDepth 100000 in
/-- takeNumber -/
theorem c_X3_takeNumber (G : XG) (tq : Nat) (ta : Nat → Nat) (sc : Nat → Int) (tx : Nat → Int) (L s : Nat) (hL : L ≤ 200) (ha : s < L) (ht : ∀ j, j < L → 0 ≤ tx j ∧ tx j ≤ 255) (hlt : fig (tx s) = true) : Con G yX3_takeNumber wsX3_takeNumber (rmL 1) 0 0 [.ref tq] ([(tq, txE ta (zup (zup (zup sc 0 ((L : Nat) : Int)) 3 ((s : Nat) : Int)) 4 ((s : Nat) : Int))), (ta 0, aI G 200 tx)]) (P_X3_takeNumber G tq ta sc tx L s) := by
  refine x_start (cc := cX3_takeNumber) (nL := 1) (ret := none) (by decide) rfl (Nat.le_of_ble_eq_true rfl) (fun E => ?_)
  show W_X3_takeNumber G E tq ta sc tx L s 0 [(0, .ref tq)] [] ([(tq, txE ta (zup (zup (zup sc 0 ((L : Nat) : Int)) 3 ((s : Nat) : Int)) 4 ((s : Nat) : Int))), (ta 0, aI G 200 tx)])
  refine x_aload_n 1 rfl dX3_takeNumber_0 0 rfl ?_
  refine x_iconst 2 rfl dX3_takeNumber_1 (z := 0) (by decide) ?_
  refine x_put 5 rfl 0 8 rfl rfl (by decide) inX3_takeNumber_X3 flX3_takeNumber_45 tyX3_ok nmX3 rfl rfl rfl rfl (Nat.le_of_ble_eq_true rfl) (ws' := [(tq, txE ta (zup (zup (zup (zup sc 0 ((L : Nat) : Int)) 3 ((s : Nat) : Int)) 4 ((s : Nat) : Int)) 6 0)), (ta 0, aI G 200 tx)]) rfl dX3_takeNumber_2 ?_
  have L5 : ∀ (f5 : Nat) (e : Nat) (w : Int) (he1 : s ≤ e) (he : e ≤ L) (hR : runE fig tx L s = runE fig tx L e) (hw : e - s ≤ 4 → w = ((nvN tx s (e - s) : Nat) : Int)), L - e < f5 → W_X3_takeNumber G E tq ta sc tx L s 5 [(0, .ref tq)] [] ([(tq, txE ta (zup (zup (zup (zup sc 0 ((L : Nat) : Int)) 3 ((e : Nat) : Int)) 4 ((s : Nat) : Int)) 6 w)), (ta 0, aI G 200 tx)]) := by
    intro f5
    induction f5 with
    | zero => intro e w he1 he hR hw hf5; exact absurd hf5 (Nat.not_lt_zero _)
    | succ f5 ih5 =>
      intro e w he1 he hR hw hf5
      refine x_aload_n 6 rfl dX3_takeNumber_5 0 rfl ?_
      refine x_get 9 rfl (v := .int (zI ((e : Nat) : Int))) 0 5 rfl rfl (by decide) inX3_takeNumber_X3 flX3_takeNumber_27 rfl dX3_takeNumber_6 ?_
      refine x_aload_n 10 rfl dX3_takeNumber_9 0 rfl ?_
      refine x_get 13 rfl (v := .int (zI ((L : Nat) : Int))) 0 0 rfl rfl (by decide) inX3_takeNumber_X3 flX3_takeNumber_18 rfl dX3_takeNumber_10 ?_
      refine x_icmp_ge 16 rfl (tgt := 81) dX3_takeNumber_13 (by decide) (by omega) (by omega) (fun h13 => ?_) (fun h13 => ?_)
      · skip
        have hEe : runE fig tx L s = e := by rw [hR]; exact runE_f (fun hh => by first | omega | (rw [hh.2] at h28; cases h28))
        refine x_aload_n 82 rfl dX3_takeNumber_81 0 rfl ?_
        refine x_aload_n 83 rfl dX3_takeNumber_82 0 rfl ?_
        refine x_get 86 rfl (v := .int (zI ((e : Nat) : Int))) 0 5 rfl rfl (by decide) inX3_takeNumber_X3 flX3_takeNumber_27 rfl dX3_takeNumber_83 ?_
        refine x_aload_n 87 rfl dX3_takeNumber_86 0 rfl ?_
        refine x_get 90 rfl (v := .int (zI ((s : Nat) : Int))) 0 6 rfl rfl (by decide) inX3_takeNumber_X3 flX3_takeNumber_42 rfl dX3_takeNumber_87 ?_
        refine x_isub 91 rfl dX3_takeNumber_90 (z := ((e : Nat) : Int) - ((s : Nat) : Int)) (rfl) ?_
        refine x_iconst 92 rfl dX3_takeNumber_91 (z := 4) (by decide) ?_
        refine x_icmp_gt 95 rfl (tgt := 99) dX3_takeNumber_92 (by decide) (by omega) (by decide) (fun h92 => ?_) (fun h92 => ?_)
        · skip
          refine x_iconst 100 rfl dX3_takeNumber_99 (z := 4) (by decide) ?_
          refine x_put 103 rfl 0 7 rfl rfl (by decide) inX3_takeNumber_X3 flX3_takeNumber_39 tyX3_ok nmX3 rfl rfl rfl rfl (Nat.le_of_ble_eq_true rfl) (ws' := [(tq, txE ta (zup (zup (zup (zup (zup sc 0 ((L : Nat) : Int)) 3 ((e : Nat) : Int)) 4 ((s : Nat) : Int)) 5 4) 6 w)), (ta 0, aI G 200 tx)]) rfl dX3_takeNumber_100 ?_
          refine x_vret rfl ?_ dX3_takeNumber_103
          exact ⟨w, rfl, by rw [hEe, if_neg (by omega)]; rfl, fun h => by rw [hEe] at h ⊢; exact hw h⟩
        · skip
          refine x_iconst 96 rfl dX3_takeNumber_95 (z := 2) (by decide) ?_
          refine x_goto dX3_takeNumber_96 (tgt := 100) (by decide) ?_
          refine x_put 103 rfl 0 7 rfl rfl (by decide) inX3_takeNumber_X3 flX3_takeNumber_39 tyX3_ok nmX3 rfl rfl rfl rfl (Nat.le_of_ble_eq_true rfl) (ws' := [(tq, txE ta (zup (zup (zup (zup (zup sc 0 ((L : Nat) : Int)) 3 ((e : Nat) : Int)) 4 ((s : Nat) : Int)) 5 2) 6 w)), (ta 0, aI G 200 tx)]) rfl dX3_takeNumber_100 ?_
          refine x_vret rfl ?_ dX3_takeNumber_103
          exact ⟨w, rfl, by rw [hEe, if_pos (by omega)]; rfl, fun h => by rw [hEe] at h ⊢; exact hw h⟩
      · skip
        have htx := ht e (by omega)
        refine x_aload_n 17 rfl dX3_takeNumber_16 0 rfl ?_
        refine x_get 20 rfl (v := .ref (ta 0)) 0 3 rfl rfl (by decide) inX3_takeNumber_X3 flX3_takeNumber_9 rfl dX3_takeNumber_17 ?_
        refine x_aload_n 21 rfl dX3_takeNumber_20 0 rfl ?_
        refine x_get 24 rfl (v := .int (zI ((e : Nat) : Int))) 0 5 rfl rfl (by decide) inX3_takeNumber_X3 flX3_takeNumber_27 rfl dX3_takeNumber_21 ?_
        refine x_iald 25 rfl 1 e rfl (⟨by omega, by omega⟩) (by decide) (v := tx e) (rfl) dX3_takeNumber_24 ?_
        refine x_callS0 28 rfl (c_X3_isFigure G (tx e) (by omega)) (fun _ _ h => h.2) gX3_takeNumber_X3_isFigure rfl rfl rfl hd_X3_isFigure ⟨Nat.le_of_ble_eq_true rfl, Nat.le_of_ble_eq_true rfl⟩ (As := [.int (zI (tx e))]) (rest := []) rfl rfl (Nat.le_of_ble_eq_true rfl) dX3_takeNumber_25 ⟨Nat.zero_le _, Nat.zero_le _⟩ (fun v hq => ?_)
        obtain ⟨rfl, -⟩ := hq
        refine x_bif_eq 31 rfl (tgt := 81) dX3_takeNumber_28 (by decide) (fun h28 => ?_) (fun h28 => ?_)
        · skip
          have hEe : runE fig tx L s = e := by rw [hR]; exact runE_f (fun hh => by first | omega | (rw [hh.2] at h28; cases h28))
          refine x_aload_n 82 rfl dX3_takeNumber_81 0 rfl ?_
          refine x_aload_n 83 rfl dX3_takeNumber_82 0 rfl ?_
          refine x_get 86 rfl (v := .int (zI ((e : Nat) : Int))) 0 5 rfl rfl (by decide) inX3_takeNumber_X3 flX3_takeNumber_27 rfl dX3_takeNumber_83 ?_
          refine x_aload_n 87 rfl dX3_takeNumber_86 0 rfl ?_
          refine x_get 90 rfl (v := .int (zI ((s : Nat) : Int))) 0 6 rfl rfl (by decide) inX3_takeNumber_X3 flX3_takeNumber_42 rfl dX3_takeNumber_87 ?_
          refine x_isub 91 rfl dX3_takeNumber_90 (z := ((e : Nat) : Int) - ((s : Nat) : Int)) (rfl) ?_
          refine x_iconst 92 rfl dX3_takeNumber_91 (z := 4) (by decide) ?_
          refine x_icmp_gt 95 rfl (tgt := 99) dX3_takeNumber_92 (by decide) (by omega) (by decide) (fun h92 => ?_) (fun h92 => ?_)
          · skip
            refine x_iconst 100 rfl dX3_takeNumber_99 (z := 4) (by decide) ?_
            refine x_put 103 rfl 0 7 rfl rfl (by decide) inX3_takeNumber_X3 flX3_takeNumber_39 tyX3_ok nmX3 rfl rfl rfl rfl (Nat.le_of_ble_eq_true rfl) (ws' := [(tq, txE ta (zup (zup (zup (zup (zup sc 0 ((L : Nat) : Int)) 3 ((e : Nat) : Int)) 4 ((s : Nat) : Int)) 5 4) 6 w)), (ta 0, aI G 200 tx)]) rfl dX3_takeNumber_100 ?_
            refine x_vret rfl ?_ dX3_takeNumber_103
            exact ⟨w, rfl, by rw [hEe, if_neg (by omega)]; rfl, fun h => by rw [hEe] at h ⊢; exact hw h⟩
          · skip
            refine x_iconst 96 rfl dX3_takeNumber_95 (z := 2) (by decide) ?_
            refine x_goto dX3_takeNumber_96 (tgt := 100) (by decide) ?_
            refine x_put 103 rfl 0 7 rfl rfl (by decide) inX3_takeNumber_X3 flX3_takeNumber_39 tyX3_ok nmX3 rfl rfl rfl rfl (Nat.le_of_ble_eq_true rfl) (ws' := [(tq, txE ta (zup (zup (zup (zup (zup sc 0 ((L : Nat) : Int)) 3 ((e : Nat) : Int)) 4 ((s : Nat) : Int)) 5 2) 6 w)), (ta 0, aI G 200 tx)]) rfl dX3_takeNumber_100 ?_
            refine x_vret rfl ?_ dX3_takeNumber_103
            exact ⟨w, rfl, by rw [hEe, if_pos (by omega)]; rfl, fun h => by rw [hEe] at h ⊢; exact hw h⟩
        · skip
          have hfg : 48 ≤ tx e ∧ tx e ≤ 57 := of_decide_eq_true h28
          refine x_aload_n 32 rfl dX3_takeNumber_31 0 rfl ?_
          refine x_get 35 rfl (v := .int (zI ((e : Nat) : Int))) 0 5 rfl rfl (by decide) inX3_takeNumber_X3 flX3_takeNumber_27 rfl dX3_takeNumber_32 ?_
          refine x_aload_n 36 rfl dX3_takeNumber_35 0 rfl ?_
          refine x_get 39 rfl (v := .int (zI ((s : Nat) : Int))) 0 6 rfl rfl (by decide) inX3_takeNumber_X3 flX3_takeNumber_42 rfl dX3_takeNumber_36 ?_
          refine x_isub 40 rfl dX3_takeNumber_39 (z := ((e : Nat) : Int) - ((s : Nat) : Int)) (rfl) ?_
          refine x_iconst 41 rfl dX3_takeNumber_40 (z := 4) (by decide) ?_
          refine x_icmp_ge 44 rfl (tgt := 68) dX3_takeNumber_41 (by decide) (by omega) (by decide) (fun h41 => ?_) (fun h41 => ?_)
          · skip
            refine x_aload_n 69 rfl dX3_takeNumber_68 0 rfl ?_
            refine x_dup 70 rfl dX3_takeNumber_69 rfl ?_
            refine x_get 73 rfl (v := .int (zI ((e : Nat) : Int))) 0 5 rfl rfl (by decide) inX3_takeNumber_X3 flX3_takeNumber_27 rfl dX3_takeNumber_70 ?_
            refine x_iconst 74 rfl dX3_takeNumber_73 (z := 1) (by decide) ?_
            refine x_iadd 75 rfl dX3_takeNumber_74 (z := ((e + 1 : Nat) : Int)) (by omega) ?_
            refine x_put 78 rfl 0 5 rfl rfl (by decide) inX3_takeNumber_X3 flX3_takeNumber_27 tyX3_ok nmX3 rfl rfl rfl rfl (Nat.le_of_ble_eq_true rfl) (ws' := [(tq, txE ta (zup (zup (zup (zup sc 0 ((L : Nat) : Int)) 3 ((e + 1 : Nat) : Int)) 4 ((s : Nat) : Int)) 6 w)), (ta 0, aI G 200 tx)]) rfl dX3_takeNumber_75 ?_
            refine x_goto dX3_takeNumber_78 (tgt := 5) (by decide) ?_
            exact ih5 (e + 1) w (by omega) (by omega) (by rw [hR]; exact runE_t (by omega) h28) (fun hq => absurd hq (by omega)) (by omega)
          · skip
            refine x_aload_n 45 rfl dX3_takeNumber_44 0 rfl ?_
            refine x_bipush 47 rfl dX3_takeNumber_45 (z := 10) (by decide) ?_
            refine x_aload_n 48 rfl dX3_takeNumber_47 0 rfl ?_
            refine x_get 51 rfl (v := .int (zI w)) 0 8 rfl rfl (by decide) inX3_takeNumber_X3 flX3_takeNumber_45 rfl dX3_takeNumber_48 ?_
            refine x_imul 52 rfl dX3_takeNumber_51 (z := 10 * w) (rfl) ?_
            refine x_aload_n 53 rfl dX3_takeNumber_52 0 rfl ?_
            refine x_get 56 rfl (v := .ref (ta 0)) 0 3 rfl rfl (by decide) inX3_takeNumber_X3 flX3_takeNumber_9 rfl dX3_takeNumber_53 ?_
            refine x_aload_n 57 rfl dX3_takeNumber_56 0 rfl ?_
            refine x_get 60 rfl (v := .int (zI ((e : Nat) : Int))) 0 5 rfl rfl (by decide) inX3_takeNumber_X3 flX3_takeNumber_27 rfl dX3_takeNumber_57 ?_
            refine x_iald 61 rfl 1 e rfl (⟨by omega, by omega⟩) (by decide) (v := tx e) (rfl) dX3_takeNumber_60 ?_
            refine x_iadd 62 rfl dX3_takeNumber_61 (z := 10 * w + tx e) (rfl) ?_
            refine x_bipush 64 rfl dX3_takeNumber_62 (z := 48) (by decide) ?_
            refine x_isub 65 rfl dX3_takeNumber_64 (z := 10 * w + tx e - 48) (rfl) ?_
            refine x_put 68 rfl 0 8 rfl rfl (by decide) inX3_takeNumber_X3 flX3_takeNumber_45 tyX3_ok nmX3 rfl rfl rfl rfl (Nat.le_of_ble_eq_true rfl) (ws' := [(tq, txE ta (zup (zup (zup (zup sc 0 ((L : Nat) : Int)) 3 ((e : Nat) : Int)) 4 ((s : Nat) : Int)) 6 (10 * w + tx e - 48))), (ta 0, aI G 200 tx)]) rfl dX3_takeNumber_65 ?_
            refine x_aload_n 69 rfl dX3_takeNumber_68 0 rfl ?_
            refine x_dup 70 rfl dX3_takeNumber_69 rfl ?_
            refine x_get 73 rfl (v := .int (zI ((e : Nat) : Int))) 0 5 rfl rfl (by decide) inX3_takeNumber_X3 flX3_takeNumber_27 rfl dX3_takeNumber_70 ?_
            refine x_iconst 74 rfl dX3_takeNumber_73 (z := 1) (by decide) ?_
            refine x_iadd 75 rfl dX3_takeNumber_74 (z := ((e + 1 : Nat) : Int)) (by omega) ?_
            refine x_put 78 rfl 0 5 rfl rfl (by decide) inX3_takeNumber_X3 flX3_takeNumber_27 tyX3_ok nmX3 rfl rfl rfl rfl (Nat.le_of_ble_eq_true rfl) (ws' := [(tq, txE ta (zup (zup (zup (zup sc 0 ((L : Nat) : Int)) 3 ((e + 1 : Nat) : Int)) 4 ((s : Nat) : Int)) 6 (10 * w + tx e - 48))), (ta 0, aI G 200 tx)]) rfl dX3_takeNumber_75 ?_
            refine x_goto dX3_takeNumber_78 (tgt := 5) (by decide) ?_
            exact ih5 (e + 1) (10 * w + tx e - 48) (by omega) (by omega) (by rw [hR]; exact runE_t (by omega) h28) (fun hq => by rw [show e + 1 - s = (e - s) + 1 by omega, hw (by omega)]; show _ = ((10 * nvN tx s (e - s) + (tx (s + (e - s)) - 48).toNat : Nat) : Int); rw [show s + (e - s) = e by omega]; omega) (by omega)
  exact L5 _ s 0 (by omega) (by omega) (rfl) (fun _ => by rw [Nat.sub_self]; rfl) (Nat.lt_succ_self _)

abbrev P_X3_nextToken (G : XG) (tq : Nat) (ta : Nat → Nat) (sc : Nat → Int) (tx : Nat → Int) (L : Nat) (a : Nat) : Option Value → va_W → Prop := fun r w => ∃ v' : Int, r = none ∧ w = [(tq, txE ta (zup (zup (zup (zup (zup sc 0 ((L : Nat) : Int)) 3 ((tokE tx L a : Nat) : Int)) 4 ((tokS tx L a : Nat) : Int)) 5 ((ctN (tokK tx L a) : Nat) : Int)) 6 v')), (ta 0, aI G 200 tx)] ∧ (tokK tx L a = 2 → v' = ((tokV tx L a : Nat) : Int)) ∧ (4 ≤ tokK tx L a → v' = ((tokK tx L a - 4 : Nat) : Int))
abbrev W_X3_nextToken (G : XG) (E : XE) (tq : Nat) (ta : Nat → Nat) (sc : Nat → Int) (tx : Nat → Int) (L : Nat) (a : Nat) (pc : Nat) (lv : List (Nat × Value)) (st : List Value) (ws : va_W) : Prop := Wx G E (rmL 6) cX3_nextToken 1 RX3 wsX3_nextToken none "nextToken" 0 0 (P_X3_nextToken G tq ta sc tx L a) 0 0 pc lv st ws
theorem flX3_nextToken_9 : Cond.fieldLink RX3 9 (TX3 3).1 (TX3 3).2.1 (TX3 3).2.2.1 ∈ wsX3_nextToken := by decide +kernel
theorem flX3_nextToken_18 : Cond.fieldLink RX3 18 (TX3 0).1 (TX3 0).2.1 (TX3 0).2.2.1 ∈ wsX3_nextToken := by decide +kernel
theorem flX3_nextToken_27 : Cond.fieldLink RX3 27 (TX3 5).1 (TX3 5).2.1 (TX3 5).2.2.1 ∈ wsX3_nextToken := by decide +kernel
theorem flX3_nextToken_39 : Cond.fieldLink RX3 39 (TX3 7).1 (TX3 7).2.1 (TX3 7).2.2.1 ∈ wsX3_nextToken := by decide +kernel
theorem flX3_nextToken_42 : Cond.fieldLink RX3 42 (TX3 6).1 (TX3 6).2.1 (TX3 6).2.2.1 ∈ wsX3_nextToken := by decide +kernel
theorem inX3_nextToken_X3 : ∀ w ∈ u_ws RX3 TX3 9, w ∈ wsX3_nextToken := fun _ h => List.mem_cons_of_mem _ (List.mem_append_right _ h)
set_option maxHeartbeats 4000000 in
set_option maxRecDepth 100000 in
/-- nextToken -/
theorem c_X3_nextToken (G : XG) (S : SG) (tq : Nat) (ta : Nat → Nat) (sc : Nat → Int) (tx : Nat → Int) (L a : Nat) (hL : L ≤ 200) (ha : a ≤ L) (ht : ∀ j, j < L → 0 ≤ tx j ∧ tx j ≤ 255)  : ConS G S yX3_nextToken wsX3_nextToken (rmL 6) 0 0 [.ref tq] ([(tq, txE ta (zup (zup sc 0 ((L : Nat) : Int)) 3 ((a : Nat) : Int))), (ta 0, aI G 200 tx)]) (P_X3_nextToken G tq ta sc tx L a) := by
  refine x_startS (cc := cX3_nextToken) (nL := 1) (ret := none) (by decide) rfl (Nat.le_of_ble_eq_true rfl) (fun E hs => ?_)
  show W_X3_nextToken G E tq ta sc tx L a 0 [(0, .ref tq)] [] ([(tq, txE ta (zup (zup sc 0 ((L : Nat) : Int)) 3 ((a : Nat) : Int))), (ta 0, aI G 200 tx)])
  refine x_aload_n 1 rfl dX3_nextToken_0 0 rfl ?_
  refine x_callV 4 rfl (c_X3_skipBlanks G tq ta (zup (zup sc 0 ((L : Nat) : Int)) 3 ((a : Nat) : Int)) tx L a hL (by omega) ht) [0, 1] rfl (by decide) 0 rfl rfl gX3_nextToken_X3_skipBlanks rfl rfl rfl hd_X3_skipBlanks ⟨Nat.le_of_ble_eq_true rfl, Nat.le_of_ble_eq_true rfl⟩ (As := []) (rest := []) rfl rfl (Nat.le_of_ble_eq_true rfl) dX3_nextToken_1 ⟨Nat.zero_le _, Nat.zero_le _⟩ (fun v w hq => ?_)
  obtain ⟨rfl, rfl⟩ := hq
  refine ⟨rfl, ?_⟩
  refine x_ws (ws' := [(tq, txE ta (zup (zup sc 0 ((L : Nat) : Int)) 3 ((tokS tx L a : Nat) : Int))), (ta 0, aI G 200 tx)]) (rfl) ?_
  have hsl := tokS_le tx ha
  refine x_aload_n 5 rfl dX3_nextToken_4 0 rfl ?_
  refine x_aload_n 6 rfl dX3_nextToken_5 0 rfl ?_
  refine x_get 9 rfl (v := .int (zI ((tokS tx L a : Nat) : Int))) 0 5 rfl rfl (by decide) inX3_nextToken_X3 flX3_nextToken_27 rfl dX3_nextToken_6 ?_
  refine x_put 12 rfl 0 6 rfl rfl (by decide) inX3_nextToken_X3 flX3_nextToken_42 tyX3_ok nmX3 rfl rfl rfl rfl (Nat.le_of_ble_eq_true rfl) (ws' := [(tq, txE ta (zup (zup (zup sc 0 ((L : Nat) : Int)) 3 ((tokS tx L a : Nat) : Int)) 4 ((tokS tx L a : Nat) : Int))), (ta 0, aI G 200 tx)]) rfl dX3_nextToken_9 ?_
  refine x_aload_n 13 rfl dX3_nextToken_12 0 rfl ?_
  refine x_get 16 rfl (v := .int (zI ((tokS tx L a : Nat) : Int))) 0 5 rfl rfl (by decide) inX3_nextToken_X3 flX3_nextToken_27 rfl dX3_nextToken_13 ?_
  refine x_aload_n 17 rfl dX3_nextToken_16 0 rfl ?_
  refine x_get 20 rfl (v := .int (zI ((L : Nat) : Int))) 0 0 rfl rfl (by decide) inX3_nextToken_X3 flX3_nextToken_18 rfl dX3_nextToken_17 ?_
  refine x_icmp_lt 23 rfl (tgt := 31) dX3_nextToken_20 (by decide) (by omega) (by omega) (fun h20 => ?_) (fun h20 => ?_)
  · skip
    have htx := ht (tokS tx L a) (by omega)
    refine x_aload_n 32 rfl dX3_nextToken_31 0 rfl ?_
    refine x_get 35 rfl (v := .ref (ta 0)) 0 3 rfl rfl (by decide) inX3_nextToken_X3 flX3_nextToken_9 rfl dX3_nextToken_32 ?_
    refine x_aload_n 36 rfl dX3_nextToken_35 0 rfl ?_
    refine x_get 39 rfl (v := .int (zI ((tokS tx L a : Nat) : Int))) 0 5 rfl rfl (by decide) inX3_nextToken_X3 flX3_nextToken_27 rfl dX3_nextToken_36 ?_
    refine x_iald 40 rfl 1 (tokS tx L a) rfl (⟨by omega, by omega⟩) (by decide) (v := tx (tokS tx L a)) (rfl) dX3_nextToken_39 ?_
    refine x_callS0 43 rfl (c_X3_isLetter G (tx (tokS tx L a)) (by omega)) (fun _ _ h => h.2) gX3_nextToken_X3_isLetter rfl rfl rfl hd_X3_isLetter ⟨Nat.le_of_ble_eq_true rfl, Nat.le_of_ble_eq_true rfl⟩ (As := [.int (zI (tx (tokS tx L a)))]) (rest := []) rfl rfl (Nat.le_of_ble_eq_true rfl) dX3_nextToken_40 ⟨Nat.zero_le _, Nat.zero_le _⟩ (fun v hq => ?_)
    obtain ⟨rfl, -⟩ := hq
    refine x_bif_eq 46 rfl (tgt := 53) dX3_nextToken_43 (by decide) (fun h43 => ?_) (fun h43 => ?_)
    · skip
      refine x_aload_n 54 rfl dX3_nextToken_53 0 rfl ?_
      refine x_get 57 rfl (v := .ref (ta 0)) 0 3 rfl rfl (by decide) inX3_nextToken_X3 flX3_nextToken_9 rfl dX3_nextToken_54 ?_
      refine x_aload_n 58 rfl dX3_nextToken_57 0 rfl ?_
      refine x_get 61 rfl (v := .int (zI ((tokS tx L a : Nat) : Int))) 0 5 rfl rfl (by decide) inX3_nextToken_X3 flX3_nextToken_27 rfl dX3_nextToken_58 ?_
      refine x_iald 62 rfl 1 (tokS tx L a) rfl (⟨by omega, by omega⟩) (by decide) (v := tx (tokS tx L a)) (rfl) dX3_nextToken_61 ?_
      refine x_callS0 65 rfl (c_X3_isFigure G (tx (tokS tx L a)) (by omega)) (fun _ _ h => h.2) gX3_nextToken_X3_isFigure rfl rfl rfl hd_X3_isFigure ⟨Nat.le_of_ble_eq_true rfl, Nat.le_of_ble_eq_true rfl⟩ (As := [.int (zI (tx (tokS tx L a)))]) (rest := []) rfl rfl (Nat.le_of_ble_eq_true rfl) dX3_nextToken_62 ⟨Nat.zero_le _, Nat.zero_le _⟩ (fun v hq => ?_)
      obtain ⟨rfl, -⟩ := hq
      refine x_bif_eq 68 rfl (tgt := 75) dX3_nextToken_65 (by decide) (fun h65 => ?_) (fun h65 => ?_)
      · skip
        refine x_aload_n 76 rfl dX3_nextToken_75 0 rfl ?_
        refine x_aload_n 77 rfl dX3_nextToken_76 0 rfl ?_
        refine x_get 80 rfl (v := .ref (ta 0)) 0 3 rfl rfl (by decide) inX3_nextToken_X3 flX3_nextToken_9 rfl dX3_nextToken_77 ?_
        refine x_aload_n 81 rfl dX3_nextToken_80 0 rfl ?_
        refine x_get 84 rfl (v := .int (zI ((tokS tx L a : Nat) : Int))) 0 5 rfl rfl (by decide) inX3_nextToken_X3 flX3_nextToken_27 rfl dX3_nextToken_81 ?_
        refine x_iald 85 rfl 1 (tokS tx L a) rfl (⟨by omega, by omega⟩) (by decide) (v := tx (tokS tx L a)) (rfl) dX3_nextToken_84 ?_
        refine x_bipush 87 rfl dX3_nextToken_85 (z := 59) (by decide) ?_
        refine x_icmp_ne 90 rfl (tgt := 94) dX3_nextToken_87 (by decide) (by omega) (by decide) (fun h87 => ?_) (fun h87 => ?_)
        · skip
          refine x_iconst 95 rfl dX3_nextToken_94 (z := 4) (by decide) ?_
          refine x_put 98 rfl 0 7 rfl rfl (by decide) inX3_nextToken_X3 flX3_nextToken_39 tyX3_ok nmX3 rfl rfl rfl rfl (Nat.le_of_ble_eq_true rfl) (ws' := [(tq, txE ta (zup (zup (zup (zup sc 0 ((L : Nat) : Int)) 3 ((tokS tx L a : Nat) : Int)) 4 ((tokS tx L a : Nat) : Int)) 5 4)), (ta 0, aI G 200 tx)]) rfl dX3_nextToken_95 ?_
          refine x_aload_n 99 rfl dX3_nextToken_98 0 rfl ?_
          refine x_dup 100 rfl dX3_nextToken_99 rfl ?_
          refine x_get 103 rfl (v := .int (zI ((tokS tx L a : Nat) : Int))) 0 5 rfl rfl (by decide) inX3_nextToken_X3 flX3_nextToken_27 rfl dX3_nextToken_100 ?_
          refine x_iconst 104 rfl dX3_nextToken_103 (z := 1) (by decide) ?_
          refine x_iadd 105 rfl dX3_nextToken_104 (z := ((tokS tx L a + 1 : Nat) : Int)) (by omega) ?_
          refine x_put 108 rfl 0 5 rfl rfl (by decide) inX3_nextToken_X3 flX3_nextToken_27 tyX3_ok nmX3 rfl rfl rfl rfl (Nat.le_of_ble_eq_true rfl) (ws' := [(tq, txE ta (zup (zup (zup (zup sc 0 ((L : Nat) : Int)) 3 ((tokS tx L a + 1 : Nat) : Int)) 4 ((tokS tx L a : Nat) : Int)) 5 4)), (ta 0, aI G 200 tx)]) rfl dX3_nextToken_105 ?_
          refine x_vret rfl ?_ dX3_nextToken_108
          have eE : tokE tx L a = tokS tx L a + 1 := by unfold tokE tkE; rw [if_neg (by omega : ¬ tokS tx L a = L), if_neg (by rw [h43]; decide), if_neg (by rw [h65]; decide)]
          have eK : tokK tx L a = 1 := by unfold tokK tkK; rw [if_neg (by omega : ¬ tokS tx L a = L), if_neg (by rw [h43]; decide), if_neg (by rw [h65]; decide), if_neg (by omega)]
          exact ⟨sc 6, rfl, by rw [eE, eK]; try rfl, (fun h => by rw [eK] at h; cases h), (fun h => by rw [eK] at h; exact absurd h (by decide))⟩
        · skip
          refine x_iconst 91 rfl dX3_nextToken_90 (z := 3) (by decide) ?_
          refine x_goto dX3_nextToken_91 (tgt := 95) (by decide) ?_
          refine x_put 98 rfl 0 7 rfl rfl (by decide) inX3_nextToken_X3 flX3_nextToken_39 tyX3_ok nmX3 rfl rfl rfl rfl (Nat.le_of_ble_eq_true rfl) (ws' := [(tq, txE ta (zup (zup (zup (zup sc 0 ((L : Nat) : Int)) 3 ((tokS tx L a : Nat) : Int)) 4 ((tokS tx L a : Nat) : Int)) 5 3)), (ta 0, aI G 200 tx)]) rfl dX3_nextToken_95 ?_
          refine x_aload_n 99 rfl dX3_nextToken_98 0 rfl ?_
          refine x_dup 100 rfl dX3_nextToken_99 rfl ?_
          refine x_get 103 rfl (v := .int (zI ((tokS tx L a : Nat) : Int))) 0 5 rfl rfl (by decide) inX3_nextToken_X3 flX3_nextToken_27 rfl dX3_nextToken_100 ?_
          refine x_iconst 104 rfl dX3_nextToken_103 (z := 1) (by decide) ?_
          refine x_iadd 105 rfl dX3_nextToken_104 (z := ((tokS tx L a + 1 : Nat) : Int)) (by omega) ?_
          refine x_put 108 rfl 0 5 rfl rfl (by decide) inX3_nextToken_X3 flX3_nextToken_27 tyX3_ok nmX3 rfl rfl rfl rfl (Nat.le_of_ble_eq_true rfl) (ws' := [(tq, txE ta (zup (zup (zup (zup sc 0 ((L : Nat) : Int)) 3 ((tokS tx L a + 1 : Nat) : Int)) 4 ((tokS tx L a : Nat) : Int)) 5 3)), (ta 0, aI G 200 tx)]) rfl dX3_nextToken_105 ?_
          refine x_vret rfl ?_ dX3_nextToken_108
          have eE : tokE tx L a = tokS tx L a + 1 := by unfold tokE tkE; rw [if_neg (by omega : ¬ tokS tx L a = L), if_neg (by rw [h43]; decide), if_neg (by rw [h65]; decide)]
          have eK : tokK tx L a = 3 := by unfold tokK tkK; rw [if_neg (by omega : ¬ tokS tx L a = L), if_neg (by rw [h43]; decide), if_neg (by rw [h65]; decide), if_pos (by omega)]
          exact ⟨sc 6, rfl, by rw [eE, eK]; try rfl, (fun h => by rw [eK] at h; cases h), (fun h => by rw [eK] at h; exact absurd h (by decide))⟩
      · skip
        refine x_aload_n 69 rfl dX3_nextToken_68 0 rfl ?_
        refine x_callV 72 rfl (c_X3_takeNumber G tq ta (zup (zup (zup sc 0 ((L : Nat) : Int)) 3 ((tokS tx L a : Nat) : Int)) 4 ((tokS tx L a : Nat) : Int)) tx L (tokS tx L a) hL (by omega) ht h65) [0, 1] rfl (by decide) 0 rfl rfl gX3_nextToken_X3_takeNumber rfl rfl rfl hd_X3_takeNumber ⟨Nat.le_of_ble_eq_true rfl, Nat.le_of_ble_eq_true rfl⟩ (As := []) (rest := []) rfl rfl (Nat.le_of_ble_eq_true rfl) dX3_nextToken_69 ⟨Nat.zero_le _, Nat.zero_le _⟩ (fun v w hq => ?_)
        obtain ⟨vw, rfl, rfl, hvw⟩ := hq
        refine ⟨rfl, ?_⟩
        refine x_ws (ws' := [(tq, txE ta (zup (zup (zup (zup (zup sc 0 ((L : Nat) : Int)) 3 ((runE fig tx L (tokS tx L a) : Nat) : Int)) 4 ((tokS tx L a : Nat) : Int)) 5 ((ctN (if runE fig tx L (tokS tx L a) - (tokS tx L a) ≤ 4 then 2 else 1) : Nat) : Int)) 6 vw)), (ta 0, aI G 200 tx)]) (rfl) ?_
        refine x_goto dX3_nextToken_72 (tgt := 108) (by decide) ?_
        refine x_vret rfl ?_ dX3_nextToken_108
        have eE : tokE tx L a = runE fig tx L (tokS tx L a) := by unfold tokE tkE; rw [if_neg (by omega : ¬ tokS tx L a = L), if_neg (by rw [h43]; decide), if_pos h65]
        have eK : tokK tx L a = (if runE fig tx L (tokS tx L a) - tokS tx L a ≤ 4 then 2 else 1) := by unfold tokK tkK; rw [if_neg (by omega : ¬ tokS tx L a = L), if_neg (by rw [h43]; decide), if_pos h65]
        exact ⟨vw, rfl, by rw [eE, eK]; try rfl, (fun h => by rw [eK] at h; unfold tokV; rw [eE]; exact hvw (by by_cases q : runE fig tx L (tokS tx L a) - tokS tx L a ≤ 4; exact q; rw [if_neg q] at h; cases h)), (fun h => by rw [eK] at h; split at h <;> omega)⟩
    · skip
      refine x_aload_n 47 rfl dX3_nextToken_46 0 rfl ?_
      refine x_callVS 50 rfl hs (c_X3_takeWord G S tq ta (zup (zup (zup sc 0 ((L : Nat) : Int)) 3 ((tokS tx L a : Nat) : Int)) 4 ((tokS tx L a : Nat) : Int)) tx L (tokS tx L a) hL (by omega) ht h43) [0, 1] rfl (by decide) 0 rfl rfl gX3_nextToken_X3_takeWord rfl rfl rfl hd_X3_takeWord ⟨Nat.le_of_ble_eq_true rfl, Nat.le_of_ble_eq_true rfl⟩ (As := []) (rest := []) rfl rfl (Nat.le_of_ble_eq_true rfl) dX3_nextToken_47 ⟨Nat.zero_le _, Nat.zero_le _⟩ (fun v w hq => ?_)
      obtain ⟨vw, rfl, rfl, hvw⟩ := hq
      refine ⟨rfl, ?_⟩
      refine x_ws (ws' := [(tq, txE ta (zup (zup (zup (zup (zup sc 0 ((L : Nat) : Int)) 3 ((runE ltr tx L (tokS tx L a) : Nat) : Int)) 4 ((tokS tx L a : Nat) : Int)) 5 ((ctN (wdK tx (tokS tx L a) (runE ltr tx L (tokS tx L a))) : Nat) : Int)) 6 vw)), (ta 0, aI G 200 tx)]) (rfl) ?_
      refine x_goto dX3_nextToken_50 (tgt := 108) (by decide) ?_
      refine x_vret rfl ?_ dX3_nextToken_108
      have eE : tokE tx L a = runE ltr tx L (tokS tx L a) := by unfold tokE tkE; rw [if_neg (by omega : ¬ tokS tx L a = L), if_pos h43]
      have eK : tokK tx L a = wdK tx (tokS tx L a) (runE ltr tx L (tokS tx L a)) := by unfold tokK tkK; rw [if_neg (by omega : ¬ tokS tx L a = L), if_pos h43]
      exact ⟨vw, rfl, by rw [eE, eK]; try rfl, (fun h => by rw [eK] at h; have := wdK_r tx (tokS tx L a) (runE ltr tx L (tokS tx L a)); omega), (fun h => by rw [eK] at h ⊢; exact hvw h)⟩
  · skip
    refine x_aload_n 24 rfl dX3_nextToken_23 0 rfl ?_
    refine x_iconst 25 rfl dX3_nextToken_24 (z := 0) (by decide) ?_
    refine x_put 28 rfl 0 7 rfl rfl (by decide) inX3_nextToken_X3 flX3_nextToken_39 tyX3_ok nmX3 rfl rfl rfl rfl (Nat.le_of_ble_eq_true rfl) (ws' := [(tq, txE ta (zup (zup (zup (zup sc 0 ((L : Nat) : Int)) 3 ((tokS tx L a : Nat) : Int)) 4 ((tokS tx L a : Nat) : Int)) 5 0)), (ta 0, aI G 200 tx)]) rfl dX3_nextToken_25 ?_
    refine x_goto dX3_nextToken_28 (tgt := 108) (by decide) ?_
    refine x_vret rfl ?_ dX3_nextToken_108
    have eE : tokE tx L a = tokS tx L a := by unfold tokE tkE; rw [if_pos (by omega : tokS tx L a = L)]
    have eK : tokK tx L a = 0 := by unfold tokK tkK; rw [if_pos (by omega : tokS tx L a = L)]
    exact ⟨sc 6, rfl, by rw [eE, eK]; try rfl, (fun h => by rw [eK] at h; cases h), (fun h => by rw [eK] at h; exact absurd h (by decide))⟩

abbrev P_X3_isRestOfItem (G : XG) (tq : Nat) (ta : Nat → Nat) (sc : Nat → Int) (tx : Nat → Int) (nf : Nat → Int) (L : Nat) (a : Nat) (w : Nat) : Option Value → va_W → Prop := fun r ws => ∃ at1 st1 tk1 vl1 : Int, ∃ nf' : Nat → Int, r = some (.int (zB (gdI tx L a))) ∧ ws = [(tq, txE ta (zup (zup (zup (zup (zup sc 0 ((L : Nat) : Int)) 3 at1) 4 st1) 5 tk1) 6 vl1)), (ta 0, aI G 200 tx), (ta 1, aI G 4 nf')] ∧ (gdI tx L a = true → at1 = ((posF tx L a (nKw (tokK tx L a) + 2) : Nat) : Int) ∧ ∀ j, j < nKw (tokK tx L a) → nf' j = ((tokV tx L (posF tx L a (j + 1)) : Nat) : Int)) ∧ (gdI tx L a = false → st1 = ((ftI tx L a : Nat) : Int))
abbrev W_X3_isRestOfItem (G : XG) (E : XE) (tq : Nat) (ta : Nat → Nat) (sc : Nat → Int) (tx : Nat → Int) (nf : Nat → Int) (L : Nat) (a : Nat) (w : Nat) (pc : Nat) (lv : List (Nat × Value)) (st : List Value) (ws : va_W) : Prop := Wx G E (rmL 7) cX3_isRestOfItem 4 RX3 wsX3_isRestOfItem (some .boolean) "isRestOfItem" 0 0 (P_X3_isRestOfItem G tq ta sc tx nf L a w) 0 0 pc lv st ws
theorem flX3_isRestOfItem_15 : Cond.fieldLink RX3 15 (TX3 4).1 (TX3 4).2.1 (TX3 4).2.2.1 ∈ wsX3_isRestOfItem := by decide +kernel
theorem flX3_isRestOfItem_39 : Cond.fieldLink RX3 39 (TX3 7).1 (TX3 7).2.1 (TX3 7).2.2.1 ∈ wsX3_isRestOfItem := by decide +kernel
theorem flX3_isRestOfItem_45 : Cond.fieldLink RX3 45 (TX3 8).1 (TX3 8).2.1 (TX3 8).2.2.1 ∈ wsX3_isRestOfItem := by decide +kernel
theorem inX3_isRestOfItem_X3 : ∀ w ∈ u_ws RX3 TX3 9, w ∈ wsX3_isRestOfItem := fun _ h => List.mem_cons_of_mem _ (List.mem_append_right _ h)
set_option maxHeartbeats 4000000 in
set_option maxRecDepth 100000 in
/-- isRestOfItem -/
theorem c_X3_isRestOfItem (G : XG) (S : SG) (tq : Nat) (ta : Nat → Nat) (sc : Nat → Int) (tx nf : Nat → Int) (L a w : Nat) (hL : L ≤ 200) (ha : a ≤ L) (ht : ∀ j, j < L → 0 ≤ tx j ∧ tx j ≤ 255) (hw : tokK tx L a = w + 4)  : ConS G S yX3_isRestOfItem wsX3_isRestOfItem (rmL 7) 0 0 [.ref tq, .int (zI ((w : Nat) : Int))] ([(tq, txE ta (zup (zup sc 0 ((L : Nat) : Int)) 3 ((tokE tx L a : Nat) : Int))), (ta 0, aI G 200 tx), (ta 1, aI G 4 nf)]) (P_X3_isRestOfItem G tq ta sc tx nf L a w) := by
  refine x_startS (cc := cX3_isRestOfItem) (nL := 4) (ret := (some .boolean)) (by decide) rfl (Nat.le_of_ble_eq_true rfl) (fun E hs => ?_)
  show W_X3_isRestOfItem G E tq ta sc tx nf L a w 0 [(0, .ref tq), (1, .int (zI ((w : Nat) : Int)))] [] ([(tq, txE ta (zup (zup sc 0 ((L : Nat) : Int)) 3 ((tokE tx L a : Nat) : Int))), (ta 0, aI G 200 tx), (ta 1, aI G 4 nf)])
  have hnw : nKw (tokK tx L a) = nKw (w + 4) := by rw [hw]
  have hnr := nKw_r (w + 4)
  have hkr := tokK_r tx L a
  refine x_iload_n 1 rfl dX3_isRestOfItem_0 1 rfl ?_
  refine x_callS0 4 rfl (c_X3_numbersOf G w (by omega)) (fun _ _ h => h.2) gX3_isRestOfItem_X3_numbersOf rfl rfl rfl hd_X3_numbersOf ⟨Nat.le_of_ble_eq_true rfl, Nat.le_of_ble_eq_true rfl⟩ (As := [.int (zI ((w : Nat) : Int))]) (rest := []) rfl rfl (Nat.le_of_ble_eq_true rfl) dX3_isRestOfItem_1 ⟨Nat.zero_le _, Nat.zero_le _⟩ (fun v hq => ?_)
  obtain ⟨rfl, -⟩ := hq
  refine x_istore_n 5 rfl (lv' := [(2, .int (zI ((nKw (w + 4) : Nat) : Int))), (0, .ref tq), (1, .int (zI ((w : Nat) : Int)))]) dX3_isRestOfItem_4 (by decide) rfl ?_
  refine x_iconst 6 rfl dX3_isRestOfItem_5 (z := 0) (by decide) ?_
  refine x_istore_n 7 rfl (lv' := [(3, .int (zI 0)), (2, .int (zI ((nKw (w + 4) : Nat) : Int))), (0, .ref tq), (1, .int (zI ((w : Nat) : Int)))]) dX3_isRestOfItem_6 (by decide) rfl ?_
  have L7 : ∀ (f7 : Nat) (k : Nat) (f : Nat → Int) (s1 : Int) (t1 : Int) (v1 : Int) (hk : k ≤ nKw (w + 4)) (hn1 : ∀ j, j < k → isNum tx L a j = true) (hf : ∀ j, j < k → f j = ((tokV tx L (posF tx L a (j + 1)) : Nat) : Int)), nKw (w + 4) - k < f7 → W_X3_isRestOfItem G E tq ta sc tx nf L a w 7 [(0, .ref tq), (1, .int (zI ((w : Nat) : Int))), (2, .int (zI ((nKw (w + 4) : Nat) : Int))), (3, .int (zI ((k : Nat) : Int)))] [] ([(tq, txE ta (zup (zup (zup (zup (zup sc 0 ((L : Nat) : Int)) 3 ((posF tx L a (k + 1) : Nat) : Int)) 4 s1) 5 t1) 6 v1)), (ta 0, aI G 200 tx), (ta 1, aI G 4 f)]) := by
    intro f7
    induction f7 with
    | zero => intro k f s1 t1 v1 hk hn1 hf hf7; exact absurd hf7 (Nat.not_lt_zero _)
    | succ f7 ih7 =>
      intro k f s1 t1 v1 hk hn1 hf hf7
      refine x_iload_n 8 rfl dX3_isRestOfItem_7 3 rfl ?_
      refine x_iload_n 9 rfl dX3_isRestOfItem_8 2 rfl ?_
      refine x_icmp_ge 12 rfl (tgt := 42) dX3_isRestOfItem_9 (by decide) (by omega) (by omega) (fun h9 => ?_) (fun h9 => ?_)
      · skip
        refine x_aload_n 43 rfl dX3_isRestOfItem_42 0 rfl ?_
        refine x_callVS 46 rfl hs (c_X3_nextToken G S tq ta (zup (zup (zup (zup (zup sc 0 ((L : Nat) : Int)) 3 ((posF tx L a (k + 1) : Nat) : Int)) 4 s1) 5 t1) 6 v1) tx L (posF tx L a (k + 1)) hL (posF_le tx ha (k + 1)) ht) [0, 1] rfl (by decide) 0 rfl rfl gX3_isRestOfItem_X3_nextToken rfl rfl rfl hd_X3_nextToken ⟨Nat.le_of_ble_eq_true rfl, Nat.le_of_ble_eq_true rfl⟩ (As := []) (rest := []) rfl rfl (Nat.le_of_ble_eq_true rfl) dX3_isRestOfItem_43 ⟨Nat.zero_le _, Nat.zero_le _⟩ (fun v w hq => ?_)
        obtain ⟨v3, rfl, rfl, hv3, hv3'⟩ := hq
        refine ⟨rfl, ?_⟩
        refine x_ws (ws' := [(tq, txE ta (zup (zup (zup (zup (zup sc 0 ((L : Nat) : Int)) 3 ((tokE tx L (posF tx L a (k + 1)) : Nat) : Int)) 4 ((tokS tx L (posF tx L a (k + 1)) : Nat) : Int)) 5 ((ctN (tokK tx L (posF tx L a (k + 1))) : Nat) : Int)) 6 v3)), (ta 0, aI G 200 tx), (ta 1, aI G 4 f)]) (rfl) ?_
        have hkq := tokK_r tx L (posF tx L a (k + 1))
        have hkn : k = nKw (w + 4) := by omega
        refine x_aload_n 47 rfl dX3_isRestOfItem_46 0 rfl ?_
        refine x_get 50 rfl (v := .int (zI ((ctN (tokK tx L (posF tx L a (k + 1))) : Nat) : Int))) 0 7 rfl rfl (by decide) inX3_isRestOfItem_X3 flX3_isRestOfItem_39 rfl dX3_isRestOfItem_47 ?_
        refine x_iconst 51 rfl dX3_isRestOfItem_50 (z := 3) (by decide) ?_
        refine x_icmp_ne 54 rfl (tgt := 58) dX3_isRestOfItem_51 (by decide) (by unfold ctN; (repeat' split) <;> omega) (by decide) (fun h51 => ?_) (fun h51 => ?_)
        · skip
          have h3k : tokK tx L (posF tx L a (k + 1)) ≠ 3 := fun hh => by rw [hh] at h51; exact h51 rfl
          refine x_iconst 59 rfl dX3_isRestOfItem_58 (z := 0) (by decide) ?_
          have hgd : gdI tx L a = false := by unfold gdI; rw [hnw, ← hkn, decide_eq_false (p := tokK tx L (posF tx L a (k + 1)) = 3) h3k, Bool.and_false, Bool.and_false]
          have hls : lsN (isNum tx L a) (nKw (tokK tx L a)) 0 = k := lsN_eq _ _ (Nat.zero_le _) (by rw [hnw]; omega) (fun j _ hj => hn1 j hj) (fun h => absurd h (by rw [hnw]; omega))
          have hft : tokS tx L (posF tx L a (k + 1)) = ftI tx L a := by unfold ftI; rw [if_neg (by omega), hls]
          refine x_int (y := zB (gdI tx L a)) (zB_f hgd) ?_
          refine x_zret rfl ?_ dX3_isRestOfItem_59
          exact ⟨_, _, _, _, f, rfl, rfl, (fun hh => by rw [hgd] at hh; cases hh), (fun _ => congrArg (fun z : Nat => (z : Int)) hft)⟩
        · skip
          have h3k : tokK tx L (posF tx L a (k + 1)) = 3 := by unfold ctN at h51; (repeat' split at h51) <;> omega
          refine x_iconst 55 rfl dX3_isRestOfItem_54 (z := 1) (by decide) ?_
          refine x_goto dX3_isRestOfItem_55 (tgt := 59) (by decide) ?_
          have hgd : gdI tx L a = true := by unfold gdI; rw [decide_eq_true (show 4 ≤ tokK tx L a by omega), hnw, ← hkn, (allF_iff _ _).mpr hn1, decide_eq_true h3k]; rfl
          refine x_int (y := zB (gdI tx L a)) (zB_t hgd) ?_
          refine x_zret rfl ?_ dX3_isRestOfItem_59
          exact ⟨_, _, _, _, f, rfl, rfl, (fun _ => ⟨by rw [hnw, ← hkn]; rfl, fun j hj => hf j (by rw [hnw] at hj; omega)⟩), (fun hh => by rw [hgd] at hh; cases hh)⟩
      · skip
        refine x_aload_n 13 rfl dX3_isRestOfItem_12 0 rfl ?_
        refine x_callVS 16 rfl hs (c_X3_nextToken G S tq ta (zup (zup (zup (zup (zup sc 0 ((L : Nat) : Int)) 3 ((posF tx L a (k + 1) : Nat) : Int)) 4 s1) 5 t1) 6 v1) tx L (posF tx L a (k + 1)) hL (posF_le tx ha (k + 1)) ht) [0, 1] rfl (by decide) 0 rfl rfl gX3_isRestOfItem_X3_nextToken rfl rfl rfl hd_X3_nextToken ⟨Nat.le_of_ble_eq_true rfl, Nat.le_of_ble_eq_true rfl⟩ (As := []) (rest := []) rfl rfl (Nat.le_of_ble_eq_true rfl) dX3_isRestOfItem_13 ⟨Nat.zero_le _, Nat.zero_le _⟩ (fun v w hq => ?_)
        obtain ⟨v3, rfl, rfl, hv3, hv3'⟩ := hq
        refine ⟨rfl, ?_⟩
        refine x_ws (ws' := [(tq, txE ta (zup (zup (zup (zup (zup sc 0 ((L : Nat) : Int)) 3 ((tokE tx L (posF tx L a (k + 1)) : Nat) : Int)) 4 ((tokS tx L (posF tx L a (k + 1)) : Nat) : Int)) 5 ((ctN (tokK tx L (posF tx L a (k + 1))) : Nat) : Int)) 6 v3)), (ta 0, aI G 200 tx), (ta 1, aI G 4 f)]) (rfl) ?_
        have hkq := tokK_r tx L (posF tx L a (k + 1))
        refine x_aload_n 17 rfl dX3_isRestOfItem_16 0 rfl ?_
        refine x_get 20 rfl (v := .int (zI ((ctN (tokK tx L (posF tx L a (k + 1))) : Nat) : Int))) 0 7 rfl rfl (by decide) inX3_isRestOfItem_X3 flX3_isRestOfItem_39 rfl dX3_isRestOfItem_17 ?_
        refine x_iconst 21 rfl dX3_isRestOfItem_20 (z := 2) (by decide) ?_
        refine x_icmp_eq 24 rfl (tgt := 26) dX3_isRestOfItem_21 (by decide) (by unfold ctN; (repeat' split) <;> omega) (by decide) (fun h21 => ?_) (fun h21 => ?_)
        · skip
          have h2k : tokK tx L (posF tx L a (k + 1)) = 2 := by unfold ctN at h21; (repeat' split at h21) <;> omega
          have hbk : isNum tx L a k = true := decide_eq_true h2k
          refine x_aload_n 27 rfl dX3_isRestOfItem_26 0 rfl ?_
          refine x_get 30 rfl (v := .ref (ta 1)) 0 4 rfl rfl (by decide) inX3_isRestOfItem_X3 flX3_isRestOfItem_15 rfl dX3_isRestOfItem_27 ?_
          refine x_iload_n 31 rfl dX3_isRestOfItem_30 3 rfl ?_
          refine x_aload_n 32 rfl dX3_isRestOfItem_31 0 rfl ?_
          refine x_get 35 rfl (v := .int (zI v3)) 0 8 rfl rfl (by decide) inX3_isRestOfItem_X3 flX3_isRestOfItem_45 rfl dX3_isRestOfItem_32 ?_
          refine x_iast 36 rfl 2 k rfl (⟨by omega, by omega⟩) (by decide) (ws' := [(tq, txE ta (zup (zup (zup (zup (zup sc 0 ((L : Nat) : Int)) 3 ((tokE tx L (posF tx L a (k + 1)) : Nat) : Int)) 4 ((tokS tx L (posF tx L a (k + 1)) : Nat) : Int)) 5 ((ctN (tokK tx L (posF tx L a (k + 1))) : Nat) : Int)) 6 v3)), (ta 0, aI G 200 tx), (ta 1, aI G 4 (zup f k v3))]) (rfl) dX3_isRestOfItem_35 ?_
          refine x_iinc 39 rfl (lv' := [(3, .int (zI ((k + 1 : Nat) : Int))), (0, .ref tq), (1, .int (zI ((w : Nat) : Int))), (2, .int (zI ((nKw (w + 4) : Nat) : Int)))]) dX3_isRestOfItem_36 3 rfl (b := ((k + 1 : Nat) : Int)) (by omega) (by decide) rfl ?_
          refine x_goto dX3_isRestOfItem_39 (tgt := 7) (by decide) ?_
          refine x_lv [1, 2, 3, 0] rfl ?_
          exact ih7 (k + 1) (zup f k v3) ((tokS tx L (posF tx L a (k + 1)) : Nat) : Int) ((ctN (tokK tx L (posF tx L a (k + 1))) : Nat) : Int) v3 (by omega) (fun j hj => by by_cases e : j = k; (subst e; exact hbk); exact hn1 j (by omega)) (fun j hj => by
              by_cases e : j = k
              · subst e; rw [zup_s]; exact hv3 h2k
              · rw [zup_n _ _ e]; exact hf j (by omega)) (by omega)
        · skip
          have h2k : tokK tx L (posF tx L a (k + 1)) ≠ 2 := fun hh => by rw [hh] at h21; exact h21 rfl
          have hbk : isNum tx L a k = false := decide_eq_false h2k
          refine x_iconst 25 rfl dX3_isRestOfItem_24 (z := 0) (by decide) ?_
          have hgd : gdI tx L a = false := by
            have hall : allF (isNum tx L a) (nKw (tokK tx L a)) = false := by
              cases hq : allF (isNum tx L a) (nKw (tokK tx L a)) with
              | false => rfl
              | true => rw [allF_iff] at hq; rw [hq k (by rw [hnw]; omega)] at hbk; cases hbk
            unfold gdI; rw [hall, Bool.false_and, Bool.and_false]
          have hls : lsN (isNum tx L a) (nKw (tokK tx L a)) 0 = k := lsN_eq _ _ (Nat.zero_le _) (by rw [hnw]; omega) (fun j _ hj => hn1 j hj) (fun _ => hbk)
          have hft : tokS tx L (posF tx L a (k + 1)) = ftI tx L a := by unfold ftI; rw [if_neg (by omega), hls]
          refine x_int (y := zB (gdI tx L a)) (zB_f hgd) ?_
          refine x_zret rfl ?_ dX3_isRestOfItem_25
          exact ⟨((tokE tx L (posF tx L a (k + 1)) : Nat) : Int), ((tokS tx L (posF tx L a (k + 1)) : Nat) : Int), ((ctN (tokK tx L (posF tx L a (k + 1))) : Nat) : Int), v3, f, rfl, rfl, (fun hh => by rw [hgd] at hh; cases hh), (fun _ => congrArg (fun z : Nat => (z : Int)) hft)⟩
  refine x_lv [2, 3, 1, 0] rfl ?_
  exact L7 _ 0 nf (sc 4) (sc 5) (sc 6) (Nat.zero_le _) (fun j hj => absurd hj (Nat.not_lt_zero _)) (fun j hj => absurd hj (Nat.not_lt_zero _)) (Nat.lt_succ_self _)

theorem rW_r {b : Nat → Int} {n d c : Nat} (I : Inv b n d c) {p q w : Int} (hp : Z32 p) (hq : Z32 q) (hw : Z32 w) : -2 ≤ rW b p q w ∧ rW b p q w ≤ 3 ∧ (kH p q w = 0 ↔ -1 ≤ rW b p q w) := by
  have h := rH_r I hp hq hw
  unfold rH at h
  unfold rW
  by_cases e : kH p q w = 0
  · rw [if_pos e] at h ⊢; omega
  · rw [if_neg e] at h ⊢; exact ⟨by omega, by omega, fun h2 => absurd h2 e, fun h2 => by omega⟩
abbrev P_X3_tellItem (G : XG) (go : Nat) (ga : Nat → Nat) (b : Nat → Int) (n : Nat) (d : Nat) (c : Nat) (gf : Nat → Nat → Int) (tq : Nat) (ta : Nat → Nat) (sc : Nat → Int) (nf : Nat → Int) (w : Nat) : Option Value → va_W → Prop := fun r ws => ∃ v : Int, ∃ n' d' : Nat, ∃ gf' : Nat → Nat → Int, r = some (.int (zI v)) ∧ ws = [(tq, txE ta sc), (ta 1, aI G 4 nf), (go, goE ga ((n' : Nat) : Int) ((d' : Nat) : Int) ((c : Nat) : Int)), (ga 0, aI G 36 (gf' 0)), (ga 1, aI G 7 (gf' 1)), (ga 2, aI G 7 (gf' 2)), (ga 3, aI G 7 (gf' 3)), (ga 4, aI G 7 (gf' 4)), (ga 5, aI G 6 (gf' 5)), (ga 6, aI G 6 (gf' 6)), (ga 7, aI G 8 (gf' 7))] ∧ (v ≤ -2 ↔ teK b (itX ((w : Nat) : Int) nf) ≠ 0) ∧ (-10 ≤ v ∧ v ≤ 7) ∧ Inv (teB b (itX ((w : Nat) : Int) nf)) n' d' c ∧ GR (teB b (itX ((w : Nat) : Int) nf)) n' d' c gf'
abbrev W_X3_tellItem (G : XG) (E : XE) (go : Nat) (ga : Nat → Nat) (b : Nat → Int) (n : Nat) (d : Nat) (c : Nat) (gf : Nat → Nat → Int) (tq : Nat) (ta : Nat → Nat) (sc : Nat → Int) (nf : Nat → Int) (w : Nat) (pc : Nat) (lv : List (Nat × Value)) (st : List Value) (ws : va_W) : Prop := Wx G E (rmL 3) cX3_tellItem 3 RX3 wsX3_tellItem (some .int) "tellItem" 0 0 (P_X3_tellItem G go ga b n d c gf tq ta sc nf w) 0 0 pc lv st ws
theorem flX3_tellItem_15 : Cond.fieldLink RX3 15 (TX3 4).1 (TX3 4).2.1 (TX3 4).2.2.1 ∈ wsX3_tellItem := by decide +kernel
theorem inX3_tellItem_X3 : ∀ w ∈ u_ws RX3 TX3 9, w ∈ wsX3_tellItem := fun _ h => List.mem_cons_of_mem _ (List.mem_append_left _ (List.mem_append_right _ h))
set_option maxHeartbeats 4000000 in
set_option maxRecDepth 100000 in
/-- tellItem -/
theorem c_X3_tellItem (G : XG) (go : Nat) (ga : Nat → Nat) (b : Nat → Int) (n d c : Nat) (gf : Nat → Nat → Int) (I : Inv b n d c) (R : GR b n d c gf) (tq : Nat) (ta : Nat → Nat) (sc nf : Nat → Int) (w : Nat) (hw : w ≤ 2) (hz : ∀ j, j < (if w = 0 then 3 else if w = 1 then 4 else 2) → Z32 (nf j))  : Con G yX3_tellItem wsX3_tellItem (rmL 3) 0 0 [.ref tq, .ref go, .int (zI ((w : Nat) : Int))] ([(tq, txE ta sc), (ta 1, aI G 4 nf), (go, goE ga ((n : Nat) : Int) ((d : Nat) : Int) ((c : Nat) : Int)), (ga 0, aI G 36 (gf 0)), (ga 1, aI G 7 (gf 1)), (ga 2, aI G 7 (gf 2)), (ga 3, aI G 7 (gf 3)), (ga 4, aI G 7 (gf 4)), (ga 5, aI G 6 (gf 5)), (ga 6, aI G 6 (gf 6)), (ga 7, aI G 8 (gf 7))]) (P_X3_tellItem G go ga b n d c gf tq ta sc nf w) := by
  refine x_start (cc := cX3_tellItem) (nL := 3) (ret := (some .int)) (by decide) rfl (Nat.le_of_ble_eq_true rfl) (fun E => ?_)
  show W_X3_tellItem G E go ga b n d c gf tq ta sc nf w 0 [(0, .ref tq), (1, .ref go), (2, .int (zI ((w : Nat) : Int)))] [] ([(tq, txE ta sc), (ta 1, aI G 4 nf), (go, goE ga ((n : Nat) : Int) ((d : Nat) : Int) ((c : Nat) : Int)), (ga 0, aI G 36 (gf 0)), (ga 1, aI G 7 (gf 1)), (ga 2, aI G 7 (gf 2)), (ga 3, aI G 7 (gf 3)), (ga 4, aI G 7 (gf 4)), (ga 5, aI G 6 (gf 5)), (ga 6, aI G 6 (gf 6)), (ga 7, aI G 8 (gf 7))])
  have hn7 := I.n7
  have hd6 := I.d6
  have hc8 := I.c8
  have hb := I.nat b
  refine x_iload_n 1 rfl dX3_tellItem_0 2 rfl ?_
  rcases (by omega : ((w : Nat) : Int) = 0 ∨ ((w : Nat) : Int) = 1 ∨ ((w : Nat) : Int) = 2) with hs1 | hs1 | hs1
  · refine x_lsw 0 (tgt := 28) hs1 (by decide) (by decide) rfl (by decide) dX3_tellItem_1 ?_
    have e0 : w = 0 := by omega
    have z0 := hz 0 (by rw [if_pos e0]; omega)
    have z1 := hz 1 (by rw [if_pos e0]; omega)
    have z2 := hz 2 (by rw [if_pos e0]; omega)
    refine x_aload_n 29 rfl dX3_tellItem_28 1 rfl ?_
    refine x_aload_n 30 rfl dX3_tellItem_29 0 rfl ?_
    refine x_get 33 rfl (v := .ref (ta 1)) 0 4 rfl rfl (by decide) inX3_tellItem_X3 flX3_tellItem_15 rfl dX3_tellItem_30 ?_
    refine x_iconst 34 rfl dX3_tellItem_33 (z := 0) (by decide) ?_
    refine x_iald 35 rfl 1 0 rfl (⟨by omega, by omega⟩) (by decide) (v := nf 0) (rfl) dX3_tellItem_34 ?_
    refine x_aload_n 36 rfl dX3_tellItem_35 0 rfl ?_
    refine x_get 39 rfl (v := .ref (ta 1)) 0 4 rfl rfl (by decide) inX3_tellItem_X3 flX3_tellItem_15 rfl dX3_tellItem_36 ?_
    refine x_iconst 40 rfl dX3_tellItem_39 (z := 1) (by decide) ?_
    refine x_iald 41 rfl 1 1 rfl (⟨by omega, by omega⟩) (by decide) (v := nf 1) (rfl) dX3_tellItem_40 ?_
    refine x_aload_n 42 rfl dX3_tellItem_41 0 rfl ?_
    refine x_get 45 rfl (v := .ref (ta 1)) 0 4 rfl rfl (by decide) inX3_tellItem_X3 flX3_tellItem_15 rfl dX3_tellItem_42 ?_
    refine x_iconst 46 rfl dX3_tellItem_45 (z := 2) (by decide) ?_
    refine x_iald 47 rfl 1 2 rfl (⟨by omega, by omega⟩) (by decide) (v := nf 2) (rfl) dX3_tellItem_46 ?_
    refine x_callV 50 rfl (c_X0_tellWind G go ga b n d c gf I R (nf 0) (nf 1) (nf 2) (by omega) (by omega) (by omega)) [2, 3, 4, 5, 6, 7, 8, 9, 10] rfl (by decide) 2 rfl rfl gX3_tellItem_X0_tellWind rfl rfl rfl hd_X0_tellWind ⟨Nat.le_of_ble_eq_true rfl, Nat.le_of_ble_eq_true rfl⟩ (As := [.int (zI (nf 0)), .int (zI (nf 1)), .int (zI (nf 2))]) (rest := []) rfl rfl (Nat.le_of_ble_eq_true rfl) dX3_tellItem_47 ⟨Nat.zero_le _, Nat.zero_le _⟩ (fun v w hq => ?_)
    obtain ⟨gf', rfl, rfl, R'⟩ := hq
    refine ⟨rfl, ?_⟩
    refine x_ws (ws' := [(tq, txE ta sc), (ta 1, aI G 4 nf), (go, goE ga ((n : Nat) : Int) ((d : Nat) : Int) ((c : Nat) : Int)), (ga 0, aI G 36 (gf' 0)), (ga 1, aI G 7 (gf' 1)), (ga 2, aI G 7 (gf' 2)), (ga 3, aI G 7 (gf' 3)), (ga 4, aI G 7 (gf' 4)), (ga 5, aI G 6 (gf' 5)), (ga 6, aI G 6 (gf' 6)), (ga 7, aI G 8 (gf' 7))]) (rfl) ?_
    have eK : teK b (itX ((w : Nat) : Int) nf) = kH (nf 0) (nf 1) (nf 2) := by unfold teK; exact if_pos (by show ((w : Nat) : Int) = 0; omega)
    have eB : teB b (itX ((w : Nat) : Int) nf) = bH b (nf 0) (nf 1) (nf 2) := by unfold teB; exact if_pos (by show ((w : Nat) : Int) = 0; omega)
    have hr := rW_r I z0 z1 z2
    refine x_iret rfl ?_ dX3_tellItem_50
    exact ⟨_, n, d, gf', rfl, rfl, by rw [eK]; omega, by omega, by rw [eB]; exact Inv_bH I _ _ _, by rw [eB]; exact R'⟩
  · refine x_lsw 1 (tgt := 51) hs1 (by decide) (by decide) rfl (by decide) dX3_tellItem_1 ?_
    have e0 : w = 1 := by omega
    have z0 := hz 0 (by rw [if_neg (by omega), if_pos e0]; omega)
    have z1 := hz 1 (by rw [if_neg (by omega), if_pos e0]; omega)
    have z2 := hz 2 (by rw [if_neg (by omega), if_pos e0]; omega)
    have z3 := hz 3 (by rw [if_neg (by omega), if_pos e0]; omega)
    refine x_aload_n 52 rfl dX3_tellItem_51 1 rfl ?_
    refine x_aload_n 53 rfl dX3_tellItem_52 0 rfl ?_
    refine x_get 56 rfl (v := .ref (ta 1)) 0 4 rfl rfl (by decide) inX3_tellItem_X3 flX3_tellItem_15 rfl dX3_tellItem_53 ?_
    refine x_iconst 57 rfl dX3_tellItem_56 (z := 0) (by decide) ?_
    refine x_iald 58 rfl 1 0 rfl (⟨by omega, by omega⟩) (by decide) (v := nf 0) (rfl) dX3_tellItem_57 ?_
    refine x_aload_n 59 rfl dX3_tellItem_58 0 rfl ?_
    refine x_get 62 rfl (v := .ref (ta 1)) 0 4 rfl rfl (by decide) inX3_tellItem_X3 flX3_tellItem_15 rfl dX3_tellItem_59 ?_
    refine x_iconst 63 rfl dX3_tellItem_62 (z := 1) (by decide) ?_
    refine x_iald 64 rfl 1 1 rfl (⟨by omega, by omega⟩) (by decide) (v := nf 1) (rfl) dX3_tellItem_63 ?_
    refine x_aload_n 65 rfl dX3_tellItem_64 0 rfl ?_
    refine x_get 68 rfl (v := .ref (ta 1)) 0 4 rfl rfl (by decide) inX3_tellItem_X3 flX3_tellItem_15 rfl dX3_tellItem_65 ?_
    refine x_iconst 69 rfl dX3_tellItem_68 (z := 2) (by decide) ?_
    refine x_iald 70 rfl 1 2 rfl (⟨by omega, by omega⟩) (by decide) (v := nf 2) (rfl) dX3_tellItem_69 ?_
    refine x_aload_n 71 rfl dX3_tellItem_70 0 rfl ?_
    refine x_get 74 rfl (v := .ref (ta 1)) 0 4 rfl rfl (by decide) inX3_tellItem_X3 flX3_tellItem_15 rfl dX3_tellItem_71 ?_
    refine x_iconst 75 rfl dX3_tellItem_74 (z := 3) (by decide) ?_
    refine x_iald 76 rfl 1 3 rfl (⟨by omega, by omega⟩) (by decide) (v := nf 3) (rfl) dX3_tellItem_75 ?_
    refine x_callV 79 rfl (c_X0_tellPerson G go ga b n d c gf I R (nf 0) (nf 1) (nf 2) (nf 3) (by omega) (by omega) (by omega) (by omega)) [2, 3, 4, 5, 6, 7, 8, 9, 10] rfl (by decide) 2 rfl rfl gX3_tellItem_X0_tellPerson rfl rfl rfl hd_X0_tellPerson ⟨Nat.le_of_ble_eq_true rfl, Nat.le_of_ble_eq_true rfl⟩ (As := [.int (zI (nf 0)), .int (zI (nf 1)), .int (zI (nf 2)), .int (zI (nf 3))]) (rest := []) rfl rfl (Nat.le_of_ble_eq_true rfl) dX3_tellItem_76 ⟨Nat.zero_le _, Nat.zero_le _⟩ (fun v w hq => ?_)
    obtain ⟨gf', rfl, rfl, R'⟩ := hq
    refine ⟨rfl, ?_⟩
    refine x_ws (ws' := [(tq, txE ta sc), (ta 1, aI G 4 nf), (go, goE ga ((if kO n (nf 0) (nf 1) (nf 2) (nf 3) = 0 then n + 1 else n : Nat) : Int) ((d : Nat) : Int) ((c : Nat) : Int)), (ga 0, aI G 36 (gf' 0)), (ga 1, aI G 7 (gf' 1)), (ga 2, aI G 7 (gf' 2)), (ga 3, aI G 7 (gf' 3)), (ga 4, aI G 7 (gf' 4)), (ga 5, aI G 6 (gf' 5)), (ga 6, aI G 6 (gf' 6)), (ga 7, aI G 8 (gf' 7))]) (rfl) ?_
    have eK : teK b (itX ((w : Nat) : Int) nf) = kO n (nf 0) (nf 1) (nf 2) (nf 3) := by unfold teK; rw [hb.1]; rw [if_neg (by show ¬ ((w : Nat) : Int) = 0; omega), if_pos (by show ((w : Nat) : Int) = 1; omega)]; rfl
    have eB : teB b (itX ((w : Nat) : Int) nf) = bO b n (nf 0) (nf 1) (nf 2) (nf 3) := by unfold teB; rw [hb.1]; rw [if_neg (by show ¬ ((w : Nat) : Int) = 0; omega), if_pos (by show ((w : Nat) : Int) = 1; omega)]; rfl
    have hr := rC_r (k := kO n (nf 0) (nf 1) (nf 2) (nf 3)) (r := ((n : Nat) : Int)) (kO_r _ _ _ _ _) (by omega)
    have hr2 : rC (kO n (nf 0) (nf 1) (nf 2) (nf 3)) ((n : Nat) : Int) ≠ -1 := by unfold rC; (repeat' split) <;> omega
    refine x_iret rfl ?_ dX3_tellItem_79
    exact ⟨_, (if kO n (nf 0) (nf 1) (nf 2) (nf 3) = 0 then n + 1 else n), d, gf', rfl, rfl, by rw [eK]; omega, by omega, by rw [eB]; exact Inv_bO I _ _ _ _, by rw [eB]; exact R'⟩
  · refine x_lsw 2 (tgt := 80) hs1 (by decide) (by decide) rfl (by decide) dX3_tellItem_1 ?_
    have e0 : w = 2 := by omega
    have z0 := hz 0 (by rw [if_neg (by omega), if_neg (by omega)]; omega)
    have z1 := hz 1 (by rw [if_neg (by omega), if_neg (by omega)]; omega)
    refine x_aload_n 81 rfl dX3_tellItem_80 1 rfl ?_
    refine x_aload_n 82 rfl dX3_tellItem_81 0 rfl ?_
    refine x_get 85 rfl (v := .ref (ta 1)) 0 4 rfl rfl (by decide) inX3_tellItem_X3 flX3_tellItem_15 rfl dX3_tellItem_82 ?_
    refine x_iconst 86 rfl dX3_tellItem_85 (z := 0) (by decide) ?_
    refine x_iald 87 rfl 1 0 rfl (⟨by omega, by omega⟩) (by decide) (v := nf 0) (rfl) dX3_tellItem_86 ?_
    refine x_aload_n 88 rfl dX3_tellItem_87 0 rfl ?_
    refine x_get 91 rfl (v := .ref (ta 1)) 0 4 rfl rfl (by decide) inX3_tellItem_X3 flX3_tellItem_15 rfl dX3_tellItem_88 ?_
    refine x_iconst 92 rfl dX3_tellItem_91 (z := 1) (by decide) ?_
    refine x_iald 93 rfl 1 1 rfl (⟨by omega, by omega⟩) (by decide) (v := nf 1) (rfl) dX3_tellItem_92 ?_
    refine x_callV 96 rfl (c_X0_tellDead G go ga b n d c gf I R (nf 0) (nf 1) (by omega) (by omega)) [2, 3, 4, 5, 6, 7, 8, 9, 10] rfl (by decide) 2 rfl rfl gX3_tellItem_X0_tellDead rfl rfl rfl hd_X0_tellDead ⟨Nat.le_of_ble_eq_true rfl, Nat.le_of_ble_eq_true rfl⟩ (As := [.int (zI (nf 0)), .int (zI (nf 1))]) (rest := []) rfl rfl (Nat.le_of_ble_eq_true rfl) dX3_tellItem_93 ⟨Nat.zero_le _, Nat.zero_le _⟩ (fun v w hq => ?_)
    obtain ⟨gf', rfl, rfl, R'⟩ := hq
    refine ⟨rfl, ?_⟩
    refine x_ws (ws' := [(tq, txE ta sc), (ta 1, aI G 4 nf), (go, goE ga ((n : Nat) : Int) ((if kD d (nf 0) (nf 1) = 0 then d + 1 else d : Nat) : Int) ((c : Nat) : Int)), (ga 0, aI G 36 (gf' 0)), (ga 1, aI G 7 (gf' 1)), (ga 2, aI G 7 (gf' 2)), (ga 3, aI G 7 (gf' 3)), (ga 4, aI G 7 (gf' 4)), (ga 5, aI G 6 (gf' 5)), (ga 6, aI G 6 (gf' 6)), (ga 7, aI G 8 (gf' 7))]) (rfl) ?_
    have eK : teK b (itX ((w : Nat) : Int) nf) = kD d (nf 0) (nf 1) := by unfold teK; rw [hb.2]; rw [if_neg (by show ¬ ((w : Nat) : Int) = 0; omega), if_neg (by show ¬ ((w : Nat) : Int) = 1; omega)]; rfl
    have eB : teB b (itX ((w : Nat) : Int) nf) = bD b d (nf 0) (nf 1) := by unfold teB; rw [hb.2]; rw [if_neg (by show ¬ ((w : Nat) : Int) = 0; omega), if_neg (by show ¬ ((w : Nat) : Int) = 1; omega)]; rfl
    have hr := rC_r (k := kD d (nf 0) (nf 1)) (r := ((d : Nat) : Int)) (kD_r _ _ _) (by omega)
    have hr2 : rC (kD d (nf 0) (nf 1)) ((d : Nat) : Int) ≠ -1 := by unfold rC; (repeat' split) <;> omega
    refine x_iret rfl ?_ dX3_tellItem_96
    exact ⟨_, n, (if kD d (nf 0) (nf 1) = 0 then d + 1 else d), gf', rfl, rfl, by rw [eK]; omega, by omega, by rw [eB]; exact Inv_bD I _ _, by rw [eB]; exact R'⟩

