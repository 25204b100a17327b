/-! THE THREE WORDS: strings that stand in the heap, never written -/
abbrev SG : Type := (Nat → Nat) × (Nat → Nat)
abbrev lnS : List Nat := [5, 3, 4]
abbrev byS : List (List Int32) := [[104, 101, 97, 114, 115], [111, 110, 101], [100, 101, 97, 100]]
def slen (i : Nat) : Nat := lnS.getD i 0
def chI (i k : Nat) : Int := ((byS.getD i []).getD k 0).toInt
theorem chI_z (i k : Nat) : (byS.getD i []).getD k 0 = zI (chI i k) := (Int32.ofInt_toInt _).symm
theorem slen_lt {i : Nat} (h : i < 3) : slen i ≤ 5 := by
  have : i = 0 ∨ i = 1 ∨ i = 2 := by omega
  rcases this with rfl | rfl | rfl <;> decide
theorem chI_b : (List.range 3).all (fun i => (List.range 5).all (fun k => decide (0 ≤ chI i k ∧ chI i k ≤ 255) && decide (zI (chI i k) &&& zI 255 = zI (chI i k)) && decide (((zI (chI i k)).toUInt32 % 65536).toInt32 = zI (chI i k)))) = true := by decide +kernel
theorem chI_r {i k : Nat} (hi : i < 3) (hk : k < 5) : (0 ≤ chI i k ∧ chI i k ≤ 255) ∧ zI (chI i k) &&& zI 255 = zI (chI i k) ∧ ((zI (chI i k)).toUInt32 % 65536).toInt32 = zI (chI i k) := by
  have h := all_r (all_r chI_b hi) hk
  rw [Bool.and_eq_true, Bool.and_eq_true, decide_eq_true_iff, decide_eq_true_iff, decide_eq_true_iff] at h
  exact ⟨h.1.1, h.1.2, h.2⟩
theorem chI_nar {i k : Nat} (hi : i < 3) (hk : k < 5) : narrow .char (.int (zI (chI i k))) = .int (zI (chI i k)) := by
  show Value.int ((zI (chI i k)).toUInt32 % 65536).toInt32 = _
  rw [(chI_r hi hk).2.2]
def sK (S : SG) (A : Nat → Prop) (U : State) (H : Heap) : Prop :=
  vk_S 3 lnS byS S.1 S.2 A U H ∧ va_Z "java/lang/String" "COMPACT_STRINGS" "Z" (.int 1) A U H ∧ va_Zq "jdk/internal/util/Preconditions" "SIOOBE_FORMATTER" "Ljava/util/function/BiFunction;" A U H ∧ vk_R RX3 87 "hears" (S.1 0) U ∧ vk_R RX3 93 "one" (S.1 1) U ∧ vk_R RX3 95 "dead" (S.1 2) U
theorem sK.to {S : SG} {A B : Nat → Prop} {s U : State} {H : Heap} (h : sK S A s s.heap) (hW : s.WarmedH U.vm) (hk : ∀ a : Nat, a < s.heap.size → ¬ A a → H[a]? = s.heap[a]?) (hAB : ∀ q, B q → A q) : sK S B U H :=
  ⟨vk_S.moved hW.alike ((h.1.kept hk).narrow hAB), va_Z.moved hW.alike ((h.2.1.kept hk).narrow hAB), va_Zq.moved hW.alike ((h.2.2.1.kept hk).narrow hAB), vk_R.warm hW h.2.2.2.1, vk_R.warm hW h.2.2.2.2.1, vk_R.warm hW h.2.2.2.2.2⟩
theorem sK.blind {S : SG} {A : Nat → Prop} {U : State} {H : Heap} {g : JFrame} {mk : MethodId} {a : Array Value} (h : sK S A U H) : sK S A (U.calling g mk a) H :=
  ⟨vk_S.moved (Vm.Alike.refl U.vm) h.1, va_Z.moved (Vm.Alike.refl U.vm) h.2.1, va_Zq.moved (Vm.Alike.refl U.vm) h.2.2.1, vk_R.same rfl h.2.2.2.1, vk_R.same rfl h.2.2.2.2.1, vk_R.same rfl h.2.2.2.2.2⟩
abbrev sH (S : SG) (E : XE) : Prop := sK S (eA E) (es E) (es E).heap
def ConS (G : XG) (S : SG) (y : MethodName) (wq : List Cond) (rm : Room) (mc ms : Nat) (args : List Value) (wc : va_W) (Post : Option Value → va_W → Prop) : Prop :=
  ∀ sz : Nat, Met (gl G) y wq rm (va_Pc args (fun U => (U.heap.size = sz ∧ va_P (gD G) vwCl wc U.heap ∧ xK G U ∧ va_D (fun _ => True) wc) ∧ sK S (va_A wc sz) U U.heap)) (xQ Post G (va_A wc sz)) mc ms (va_A wc sz)
theorem x_startS {G : XG} {S : SG} {y : MethodName} {wq wq' : List Cond} {rm : Room} {mc ms : Nat} {args : List Value} {wc : va_W} {Post : Option Value → va_W → Prop} {cc : ByteArray} {nL : Nat} {ret : Option FieldType} (hy : plainName y.cls = true) (hw : wq = .code y cc nL ret :: wq') (hlen : (lg_sl args).length ≤ nL) (body : ∀ E : XE, sH S E → Wx G E rm cc nL y.cls wq ret y.name mc ms Post 0 0 0 (lv_args 0 args) [] wc) : ConS G S y wq rm mc ms args wc Post := by
  intro sz
  refine Met.ofW (cc := cc) (maxL := nL) (ret := ret) hy hw ?_
  intro p e s m args0 below meth c s₁ B hml hv
  obtain ⟨rfl, ⟨hsz, hP, hK, hD0⟩, hsk⟩ := hv
  subst hsz
  have hl := lv_entry args (n := nL) hlen
  have hfr : entryFrame m args.toArray nL = F0 m 0 ((lg_sl args ++ List.replicate (nL - (lg_sl args).length) Slot.unset).toArray) [] := by
    rw [lg_entry_eq]
  have hts := atoms_spec (ws := wq) B.pre
  have C : Cx G (p, e, s, m, args.toArray, below, meth, c, va_A wc s.heap.size) cc nL y.cls wq ret y.name := ⟨B.exec, B.bytes, hml, findClass_of_methodNamed B.named, hts, B.notSynchronized, hK, fun q h => Or.inr h, B.returns, (name_of_methodNamed B.named B.method).1⟩
  have K := body (p, e, s, m, args.toArray, below, meth, c, va_A wc s.heap.size) hsk C s.heap [] _ hP (hD0.self (sz := s.heap.size)) va_S.rf hl
  rw [hfr]
  exact K
section XS
variable {G : XG} {E : XE} {R : Room} {cc : ByteArray} {nL : Nat} {own : String} {Ts : List Cond} {ret : Option FieldType} {nm : String} {mc ms : Nat} {Post : Option Value → va_W → Prop} {cells slots pc : Nat} {lv lv' : List (Nat × Value)} {st : List Value} {ws ws' : va_W} {S : SG}
theorem x_preS {wc : va_W} {H : Heap} {locs : List Loc} {av : List Value} (C : Cx G E cc nL own Ts ret nm) (hP : va_P (gD G) vwCl ws H) (hD : va_D (eA E) ws) (hS : va_S (eA E) (es E).heap H locs) (hs : sH S E) {isC : List Nat} (hC : isC.map (fun i => ws[i]?) = wc.map some) (hCn : va_nd isC = true) : FrameBlind (va_Pc av (fun U => (U.heap.size = H.size ∧ va_P (gD G) vwCl wc U.heap ∧ xK G U ∧ va_D (fun _ => True) wc) ∧ sK S (va_A wc H.size) U U.heap)) ∧ ∀ U : State, U.heap = H → (es E).WarmedH U.vm → va_Pc av (fun U => (U.heap.size = H.size ∧ va_P (gD G) vwCl wc U.heap ∧ xK G U ∧ va_D (fun _ => True) wc) ∧ sK S (va_A wc H.size) U U.heap) av.toArray U := by
  obtain ⟨h1, h2⟩ := x_pre (av := av) C hP hD hC hCn
  refine ⟨fun a U g mk q => ?_, fun U hU hW => ⟨rfl, (h2 U hU hW).2, ?_⟩⟩
  · obtain ⟨q0, q1, q2⟩ := q
    exact ⟨q0, (h1 a U g mk ⟨q0, q1⟩).2, q2.blind⟩
  · rw [hU]
    exact sK.to hs hW hS.2.1 (va_free hD hS C.2.2.2.2.2.2.2.1 isC hC)
theorem x_ldcS (pc' : Nat) (hp : pc + 2 = pc') {index q : Nat} {tx : String} (hZ : vk_R own index tx q (es E)) (hdg : decode cc pc = .ok (.ldc index, 2)) (kk : Wx G E R cc nL own Ts ret nm mc ms Post cells slots pc' lv (.ref q :: st) (ws)) : Wx G E R cc nL own Ts ret nm mc ms Post cells slots pc lv (st) (ws) := by
  subst hp
  exact fun C H locs ls hP hD hS hl => va_ldcS C.1 C.2.1 C.2.2.2.1 hZ hdg (kk C H locs ls hP hD hS hl)
theorem x_sgetc (pc' : Nat) (hp : pc + 3 = pc') {index i : Nat} (hs : sH S E) (hi : i < 3) (hlink : Cond.fieldLink own index "java/lang/String" "coder" "B" ∈ Ts) (hdg : decode cc pc = .ok (.getfield index, 3)) (kk : Wx G E R cc nL own Ts ret nm mc ms Post cells slots pc' lv (.int (zI 0) :: st) (ws)) : Wx G E R cc nL own Ts ret nm mc ms Post cells slots pc lv (.ref (S.1 i) :: st) (ws) := by
  subst hp
  exact fun C H locs ls hP hD hS hl => vk_getf C.1 C.2.1 (hs.1.1 i hi).2.1 hS C.2.2.2.1 (C.2.2.2.2.1 _ hlink) (fun _ h => h) hdg (kk C H locs ls hP hD hS hl)
theorem x_sgetv (pc' : Nat) (hp : pc + 3 = pc') {index i : Nat} (hs : sH S E) (hi : i < 3) (hlink : Cond.fieldLink own index "java/lang/String" "value" "[B" ∈ Ts) (hdg : decode cc pc = .ok (.getfield index, 3)) (kk : Wx G E R cc nL own Ts ret nm mc ms Post cells slots pc' lv (.ref (S.2 i) :: st) (ws)) : Wx G E R cc nL own Ts ret nm mc ms Post cells slots pc lv (.ref (S.1 i) :: st) (ws) := by
  subst hp
  exact fun C H locs ls hP hD hS hl => vk_getf C.1 C.2.1 (hs.1.1 i hi).2.2.1 hS C.2.2.2.1 (C.2.2.2.2.1 _ hlink) (fun _ h => h) hdg (kk C H locs ls hP hD hS hl)
theorem x_sgets (pc' : Nat) (hp : pc + 3 = pc') {index : Nat} (hs : sH S E) (hlink : Cond.fieldLink own index "java/lang/String" "COMPACT_STRINGS" "Z" ∈ Ts) (hdg : decode cc pc = .ok (.getstatic index, 3)) (kk : Wx G E R cc nL own Ts ret nm mc ms Post cells slots pc' lv (.int (zI 1) :: st) (ws)) : Wx G E R cc nL own Ts ret nm mc ms Post cells slots pc lv (st) (ws) := by
  subst hp
  exact fun C H locs ls hP hD hS hl => va_gets C.1 C.2.1 hs.2.1 hS C.2.2.2.1 (C.2.2.2.2.1 _ hlink) (fun _ h => h) hdg (kk C H locs ls hP hD hS hl)
theorem x_sgetq (pc' : Nat) (hp : pc + 3 = pc') {index : Nat} (hs : sH S E) (hlink : Cond.fieldLink own index "jdk/internal/util/Preconditions" "SIOOBE_FORMATTER" "Ljava/util/function/BiFunction;" ∈ Ts) (hdg : decode cc pc = .ok (.getstatic index, 3)) (k1 : Wx G E R cc nL own Ts ret nm mc ms Post cells slots pc' lv (.null :: st) (ws)) (k2 : ∀ t : Nat, Wx G E R cc nL own Ts ret nm mc ms Post cells slots pc' lv (.ref t :: st) (ws)) : Wx G E R cc nL own Ts ret nm mc ms Post cells slots pc lv (st) (ws) := by
  subst hp
  rcases hs.2.2.1 with h | ⟨t, h⟩
  · exact fun C H locs ls hP hD hS hl => va_gets C.1 C.2.1 h hS C.2.2.2.1 (C.2.2.2.2.1 _ hlink) (fun _ h => h) hdg (k1 C H locs ls hP hD hS hl)
  · exact fun C H locs ls hP hD hS hl => va_gets C.1 C.2.1 h hS C.2.2.2.1 (C.2.2.2.2.1 _ hlink) (fun _ h => h) hdg (k2 t C H locs ls hP hD hS hl)
theorem x_slen (pc' : Nat) (hp : pc + 1 = pc') {i : Nat} (hs : sH S E) (hi : i < 3) (hdg : decode cc pc = .ok (.arraylength, 1)) (kk : Wx G E R cc nL own Ts ret nm mc ms Post cells slots pc' lv (.int (zI ((slen i : Nat) : Int)) :: st) (ws)) : Wx G E R cc nL own Ts ret nm mc ms Post cells slots pc lv (.ref (S.2 i) :: st) (ws) := by
  subst hp
  exact fun C H locs ls hP hD hS hl => va_tlen C.1 C.2.1 (hs.1.1 i hi).2.2.2 hS (show Int32.ofNat (slen i) = zI ((slen i : Nat) : Int) from (zI_nat _).symm) hdg (kk C H locs ls hP hD hS hl)
theorem x_sbld (pc' : Nat) (hp : pc + 1 = pc') {i k : Nat} (hs : sH S E) (hi : i < 3) (hk : k < slen i) (hdg : decode cc pc = .ok (.baload, 1)) (kk : Wx G E R cc nL own Ts ret nm mc ms Post cells slots pc' lv (.int (zI (chI i k)) :: st) (ws)) : Wx G E R cc nL own Ts ret nm mc ms Post cells slots pc lv (.int (zI ((k : Nat) : Int)) :: .ref (S.2 i) :: st) (ws) := by
  subst hp
  have h5 := slen_lt hi
  exact fun C H locs ls hP hD hS hl => va_tb C.1 C.2.1 (hs.1.1 i hi).2.2.2 hS (zI_in (N := slen i) hk (by omega)) (v := .int (zI (chI i k))) (by rw [zI_clamp (by omega), chI_z]) hdg (kk C H locs ls hP hD hS hl)
theorem x_i2c (pc' : Nat) (hp : pc + 1 = pc') {x v : Int32} (hv : (x.toUInt32 % 65536).toInt32 = v) (hdg : decode cc pc = .ok (.i2c, 1)) (kk : Wx G E R cc nL own Ts ret nm mc ms Post cells slots pc' lv (.int v :: st) (ws)) : Wx G E R cc nL own Ts ret nm mc ms Post cells slots pc lv (.int x :: st) (ws) := by
  subst hp
  exact fun C H locs ls hP hD hS hl => lv_i2c C.1 C.2.1 hdg hv (kk C H locs ls hP hD hS hl)
theorem x_cret {x : Int32} {ty : FieldType} (hr : ret = some ty) (hn : narrow ty (.int x) = .int x) (hq : Post (some (.int x)) ws) (hdg : decode cc pc = .ok (.ireturn, 1)) : Wx G E R cc nL own Ts ret nm mc ms Post mc ms pc lv ([.int x]) (ws) :=
  fun C H locs ls hP hD hS hl => W.zret C.1 C.2.1 (C.2.2.2.2.2.2.2.2.1.trans hr) hn (fun t ht _ => ⟨⟨_, ws, rfl, hq, by rw [ht]; exact hP, hD⟩, hS.F ht⟩) hS.2.2 hdg C.2.2.2.2.2.1
variable {y : MethodName} {wq wq' : List Cond} {bytes : ByteArray} {maxL index n : Nat} {ret' : Option FieldType} {rm : Room} {wc : va_W} {Post' : Option Value → va_W → Prop} {b : Nat} {As : List Value} {C0 : String} {rest : List Value}
theorem x_callVS (pc' : Nat) (hp : pc + 3 = pc') (hs : sH S E) {ci : Nat} {fs : List Value} {T : u_T} {N : Nat} (hC0 : ConS G S y wq rm 0 0 (.ref b :: As) wc Post') (isC : List Nat) (hC : isC.map (fun i => ws[i]?) = wc.map some) (hCn : va_nd isC = true) (q0 : Nat) (he : ws[q0]? = some (b, .inr (ci, fs))) (hc : vwCl[ci]? = some (C0, T, N)) (hT : GoodIn Ts (wsV own index C0 y wq)) (hw : wq = .code y bytes maxL ret' :: wq') (hrc : rm.cells = 0) (hrs : rm.slots = 0) (hd : y.cls = C0 ∧ y.cls ≠ "java/lang/invoke/MethodHandle" ∧ y.cls ≠ "java/lang/invoke/VarHandle" ∧ (parseMethodDescriptor y.desc).map (fun d => d.parameters.length) = some n) (hR : rm.frames + 1 ≤ R.frames ∧ 8 + (maxL + 11) + rm.locals ≤ R.locals) (hn : As.length = n) (hst : st = As.reverse ++ .ref b :: rest) (hroom : (rest.map fun v => v.category).sum ≤ 8) (hdg : decode cc pc = .ok (.invokevirtual index, 3)) (hf : cells ≤ R.cells ∧ slots ≤ R.slots) (kk : ∀ (v : Option Value) (w : va_W), Post' v w → w.map (·.1) = wc.map (·.1) ∧ Wx G E R cc nL own Ts ret nm mc ms Post cells slots pc' lv (v.toList ++ rest) (plc ws isC w)) : Wx G E R cc nL own Ts ret nm mc ms Post cells slots pc lv (st) (ws) := by
  subst hp
  exact fun C H locs ls hP hD hS hl => by
    obtain ⟨hb1, hb2⟩ := x_preS (av := .ref b :: As) C hP hD hS hs hC hCn
    exact x_back C hP hD hS hl hC (va_runV (As := As) (rest := rest) ⟨C.1, C.2.1, C.2.2.1, C.2.2.2.1, C.2.2.2.2.1⟩ (hC0 H.size) (cwV n C.2.2.2.2.1 hT hw hrc hrs hd hR) ⟨hb1, va_recv C.2.2.2.2.2.2.1.1 hP hc he, hb2⟩ rfl hn hl.1 hst (lv_room hroom) hdg hf) kk
theorem x_callKS (pc' : Nat) (hp : pc + 3 = pc') (hs : sH S E) {i : Nat} (hC0 : ConS G S y wq rm 0 0 (.ref (S.1 i) :: As) [] Post') (hnil : ∀ v w, Post' v w → w = []) (hi : i < 3) (hT : GoodIn Ts (wsV own index "java/lang/String" y wq)) (hw : wq = .code y bytes maxL ret' :: wq') (hrc : rm.cells = 0) (hrs : rm.slots = 0) (hd : y.cls = "java/lang/String" ∧ y.cls ≠ "java/lang/invoke/MethodHandle" ∧ y.cls ≠ "java/lang/invoke/VarHandle" ∧ (parseMethodDescriptor y.desc).map (fun d => d.parameters.length) = some n) (hR : rm.frames + 1 ≤ R.frames ∧ 8 + (maxL + 11) + rm.locals ≤ R.locals) (hn : As.length = n) (hst : st = As.reverse ++ .ref (S.1 i) :: rest) (hroom : (rest.map fun v => v.category).sum ≤ 8) (hdg : decode cc pc = .ok (.invokevirtual index, 3)) (hf : cells ≤ R.cells ∧ slots ≤ R.slots) (kk : ∀ (v : Option Value), Post' v [] → Wx G E R cc nL own Ts ret nm mc ms Post cells slots pc' lv (v.toList ++ rest) (ws)) : Wx G E R cc nL own Ts ret nm mc ms Post cells slots pc lv (st) (ws) := by
  subst hp
  exact fun C H locs ls hP hD hS hl => by
    obtain ⟨hb1, hb2⟩ := x_preS (av := .ref (S.1 i) :: As) (isC := []) (wc := []) C hP hD hS hs rfl rfl
    exact x_back (isC := []) (wc := []) C hP hD hS hl rfl (va_runV (As := As) (rest := rest) ⟨C.1, C.2.1, C.2.2.1, C.2.2.2.1, C.2.2.2.2.1⟩ (hC0 H.size) (cwV n C.2.2.2.2.1 hT hw hrc hrs hd hR) ⟨hb1, vk_recv hs.1 hi hS, hb2⟩ rfl hn hl.1 hst (lv_room hroom) hdg hf) (fun v w hq => by
      obtain rfl := hnil v w hq
      exact ⟨rfl, kk v hq⟩)
theorem x_callSS (pc' : Nat) (hp : pc + 3 = pc') (hs : sH S E) (hC0 : ConS G S y wq rm 0 0 As [] Post') (hnil : ∀ v w, Post' v w → w = []) (hT : GoodIn Ts (va_wsS own index y wq)) (hw : wq = .code y bytes maxL ret' :: wq') (hrc : rm.cells = 0) (hrs : rm.slots = 0) (hd : y.cls ≠ "java/lang/invoke/MethodHandle" ∧ y.cls ≠ "java/lang/invoke/VarHandle" ∧ (parseMethodDescriptor y.desc).map (fun d => d.parameters.length) = some n) (hR : rm.frames + 1 ≤ R.frames ∧ 8 + (maxL + 11) + rm.locals ≤ R.locals) (hn : As.length = n) (hst : st = As.reverse ++ rest) (hroom : (rest.map fun v => v.category).sum ≤ 8) (hdg : decode cc pc = .ok (.invokestatic index, 3)) (hf : cells ≤ R.cells ∧ slots ≤ R.slots) (kk : ∀ (v : Option Value), Post' v [] → Wx G E R cc nL own Ts ret nm mc ms Post cells slots pc' lv (v.toList ++ rest) (ws)) : Wx G E R cc nL own Ts ret nm mc ms Post cells slots pc lv (st) (ws) := by
  subst hp
  exact fun C H locs ls hP hD hS hl => by
    obtain ⟨hb1, hb2⟩ := x_preS (av := As) (isC := []) (wc := []) C hP hD hS hs rfl rfl
    exact x_back (isC := []) (wc := []) C hP hD hS hl rfl (va_runS (As := As) (rest := rest) ⟨C.1, C.2.1, C.2.2.1, C.2.2.2.1, C.2.2.2.2.1⟩ (hC0 H.size) (va_cwS n C.2.2.2.2.1 hT hw hrc hrs hd hR) ⟨hb1, hb2⟩ rfl hn hl.1 hst (lv_room hroom) hdg hf) (fun v w hq => by
      obtain rfl := hnil v w hq
      exact ⟨rfl, kk v hq⟩)
end XS
theorem hd_J0_length_8abf5 : yJ0_length_8abf5.cls = RJ0 ∧ yJ0_length_8abf5.cls ≠ "java/lang/invoke/MethodHandle" ∧ yJ0_length_8abf5.cls ≠ "java/lang/invoke/VarHandle" ∧ (parseMethodDescriptor yJ0_length_8abf5.desc).map (fun d => d.parameters.length) = some 0 := by decide +kernel
theorem hd_J0_charAt_5068e : yJ0_charAt_5068e.cls = RJ0 ∧ yJ0_charAt_5068e.cls ≠ "java/lang/invoke/MethodHandle" ∧ yJ0_charAt_5068e.cls ≠ "java/lang/invoke/VarHandle" ∧ (parseMethodDescriptor yJ0_charAt_5068e.desc).map (fun d => d.parameters.length) = some 1 := by decide +kernel
theorem hd_J0_coder_7d493 : yJ0_coder_7d493.cls = RJ0 ∧ yJ0_coder_7d493.cls ≠ "java/lang/invoke/MethodHandle" ∧ yJ0_coder_7d493.cls ≠ "java/lang/invoke/VarHandle" ∧ (parseMethodDescriptor yJ0_coder_7d493.desc).map (fun d => d.parameters.length) = some 0 := by decide +kernel
theorem hd_J0_isLatin1_aae02 : yJ0_isLatin1_aae02.cls = RJ0 ∧ yJ0_isLatin1_aae02.cls ≠ "java/lang/invoke/MethodHandle" ∧ yJ0_isLatin1_aae02.cls ≠ "java/lang/invoke/VarHandle" ∧ (parseMethodDescriptor yJ0_isLatin1_aae02.desc).map (fun d => d.parameters.length) = some 0 := by decide +kernel
theorem hd_J0_checkIndex_df160 : yJ0_checkIndex_df160.cls ≠ "java/lang/invoke/MethodHandle" ∧ yJ0_checkIndex_df160.cls ≠ "java/lang/invoke/VarHandle" ∧ (parseMethodDescriptor yJ0_checkIndex_df160.desc).map (fun d => d.parameters.length) = some 2 := by decide +kernel
theorem hd_J1_charAt_3b067 : yJ1_charAt_3b067.cls ≠ "java/lang/invoke/MethodHandle" ∧ yJ1_charAt_3b067.cls ≠ "java/lang/invoke/VarHandle" ∧ (parseMethodDescriptor yJ1_charAt_3b067.desc).map (fun d => d.parameters.length) = some 2 := by decide +kernel
theorem hd_J3_checkIndex_8e157 : yJ3_checkIndex_8e157.cls ≠ "java/lang/invoke/MethodHandle" ∧ yJ3_checkIndex_8e157.cls ≠ "java/lang/invoke/VarHandle" ∧ (parseMethodDescriptor yJ3_checkIndex_8e157.desc).map (fun d => d.parameters.length) = some 3 := by decide +kernel
abbrev P_J0_coder_7d493 (G : XG) : Option Value → va_W → Prop := fun r ws => r = some (.int (zI 0)) ∧ ws = []
abbrev W_J0_coder_7d493 (G : XG) (E : XE) (pc : Nat) (lv : List (Nat × Value)) (st : List Value) (ws : va_W) : Prop := Wx G E (rmL 0) cJ0_coder_7d493 1 RJ0 wsJ0_coder_7d493 (some .byte) "coder" 0 0 (P_J0_coder_7d493 G ) 0 0 pc lv st ws
theorem wJ0_coder_7d493_sf15 : Cond.fieldLink RJ0 15 "java/lang/String" "coder" "B" ∈ wsJ0_coder_7d493 := by decide +kernel
theorem wJ0_coder_7d493_sf38 : Cond.fieldLink RJ0 38 "java/lang/String" "COMPACT_STRINGS" "Z" ∈ wsJ0_coder_7d493 := by decide +kernel
set_option maxHeartbeats 4000000 in
set_option maxRecDepth 100000 in
theorem c_J0_coder_7d493 (G : XG) (S : SG) (i : Nat) (hi : i < 3)  : ConS G S yJ0_coder_7d493 wsJ0_coder_7d493 (rmL 0) 0 0 [.ref (S.1 i)] ([]) (P_J0_coder_7d493 G ) := by
  refine x_startS (cc := cJ0_coder_7d493) (nL := 1) (ret := (some .byte)) (by decide) rfl (Nat.le_of_ble_eq_true rfl) (fun E hs => ?_)
  show W_J0_coder_7d493 G E  0 [(0, .ref (S.1 i))] [] ([])
  refine x_sgets 3 rfl hs wJ0_coder_7d493_sf38 dJ0_coder_7d493_0 ?_
  refine x_if_eq 6 rfl (tgt := 13) dJ0_coder_7d493_3 (by decide) (by omega) (fun h3 => ?_) (fun h3 => ?_)
  · skip
    exact absurd h3 (by decide)
  · skip
    refine x_aload_n 7 rfl dJ0_coder_7d493_6 0 rfl ?_
    refine x_sgetc 10 rfl hs hi wJ0_coder_7d493_sf15 dJ0_coder_7d493_7 ?_
    refine x_goto dJ0_coder_7d493_10 (tgt := 14) (by decide) ?_
    refine x_cret rfl (rfl) ?_ dJ0_coder_7d493_14
    exact ⟨rfl, rfl⟩

abbrev P_J0_isLatin1_aae02 (G : XG) : Option Value → va_W → Prop := fun r ws => r = some (.int (zB true)) ∧ ws = []
abbrev W_J0_isLatin1_aae02 (G : XG) (E : XE) (pc : Nat) (lv : List (Nat × Value)) (st : List Value) (ws : va_W) : Prop := Wx G E (rmL 0) cJ0_isLatin1_aae02 1 RJ0 wsJ0_isLatin1_aae02 (some .boolean) "isLatin1" 0 0 (P_J0_isLatin1_aae02 G ) 0 0 pc lv st ws
theorem wJ0_isLatin1_aae02_sf15 : Cond.fieldLink RJ0 15 "java/lang/String" "coder" "B" ∈ wsJ0_isLatin1_aae02 := by decide +kernel
theorem wJ0_isLatin1_aae02_sf38 : Cond.fieldLink RJ0 38 "java/lang/String" "COMPACT_STRINGS" "Z" ∈ wsJ0_isLatin1_aae02 := by decide +kernel
set_option maxHeartbeats 4000000 in
set_option maxRecDepth 100000 in
theorem c_J0_isLatin1_aae02 (G : XG) (S : SG) (i : Nat) (hi : i < 3)  : ConS G S yJ0_isLatin1_aae02 wsJ0_isLatin1_aae02 (rmL 0) 0 0 [.ref (S.1 i)] ([]) (P_J0_isLatin1_aae02 G ) := by
  refine x_startS (cc := cJ0_isLatin1_aae02) (nL := 1) (ret := (some .boolean)) (by decide) rfl (Nat.le_of_ble_eq_true rfl) (fun E hs => ?_)
  show W_J0_isLatin1_aae02 G E  0 [(0, .ref (S.1 i))] [] ([])
  refine x_sgets 3 rfl hs wJ0_isLatin1_aae02_sf38 dJ0_isLatin1_aae02_0 ?_
  refine x_if_eq 6 rfl (tgt := 17) dJ0_isLatin1_aae02_3 (by decide) (by omega) (fun h3 => ?_) (fun h3 => ?_)
  · skip
    exact absurd h3 (by decide)
  · skip
    refine x_aload_n 7 rfl dJ0_isLatin1_aae02_6 0 rfl ?_
    refine x_sgetc 10 rfl hs hi wJ0_isLatin1_aae02_sf15 dJ0_isLatin1_aae02_7 ?_
    refine x_if_ne 13 rfl (tgt := 17) dJ0_isLatin1_aae02_10 (by decide) (by omega) (fun h10 => ?_) (fun h10 => ?_)
    · skip
      exact absurd h10 (by decide)
    · skip
      refine x_iconst 14 rfl dJ0_isLatin1_aae02_13 (z := 1) (by decide) ?_
      refine x_goto dJ0_isLatin1_aae02_14 (tgt := 18) (by decide) ?_
      refine x_int (y := zB true) (rfl) ?_
      refine x_zret rfl ?_ dJ0_isLatin1_aae02_18
      exact ⟨rfl, rfl⟩

abbrev P_J0_length_8abf5 (G : XG) (i : Nat) : Option Value → va_W → Prop := fun r ws => r = some (.int (zI ((slen i : Nat) : Int))) ∧ ws = []
abbrev W_J0_length_8abf5 (G : XG) (E : XE) (i : Nat) (pc : Nat) (lv : List (Nat × Value)) (st : List Value) (ws : va_W) : Prop := Wx G E (rmL 1) cJ0_length_8abf5 1 RJ0 wsJ0_length_8abf5 (some .int) "length" 0 0 (P_J0_length_8abf5 G i) 0 0 pc lv st ws
theorem wJ0_length_8abf5_sf9 : Cond.fieldLink RJ0 9 "java/lang/String" "value" "[B" ∈ wsJ0_length_8abf5 := by decide +kernel
set_option maxHeartbeats 4000000 in
set_option maxRecDepth 100000 in
theorem c_J0_length_8abf5 (G : XG) (S : SG) (i : Nat) (hi : i < 3)  : ConS G S yJ0_length_8abf5 wsJ0_length_8abf5 (rmL 1) 0 0 [.ref (S.1 i)] ([]) (P_J0_length_8abf5 G i) := by
  refine x_startS (cc := cJ0_length_8abf5) (nL := 1) (ret := (some .int)) (by decide) rfl (Nat.le_of_ble_eq_true rfl) (fun E hs => ?_)
  show W_J0_length_8abf5 G E i 0 [(0, .ref (S.1 i))] [] ([])
  refine x_aload_n 1 rfl dJ0_length_8abf5_0 0 rfl ?_
  refine x_sgetv 4 rfl hs hi wJ0_length_8abf5_sf9 dJ0_length_8abf5_1 ?_
  refine x_slen 5 rfl hs hi dJ0_length_8abf5_4 ?_
  refine x_aload_n 6 rfl dJ0_length_8abf5_5 0 rfl ?_
  refine x_callKS 9 rfl hs (c_J0_coder_7d493 G S i hi) (fun _ _ h => h.2) hi gJ0_length_8abf5_J0_coder_7d493 rfl rfl rfl hd_J0_coder_7d493 ⟨Nat.le_of_ble_eq_true rfl, Nat.le_of_ble_eq_true rfl⟩ (As := []) (rest := [.int (zI ((slen i : Nat) : Int))]) rfl rfl (Nat.le_of_ble_eq_true rfl) dJ0_length_8abf5_6 ⟨Nat.zero_le _, Nat.zero_le _⟩ (fun v hq => ?_)
  obtain ⟨rfl, -⟩ := hq
  refine x_ishr 10 rfl dJ0_length_8abf5_9 (z := ((slen i : Nat) : Int)) (by have h5 := slen_lt hi; have h := zI_shr (t := slen i) (i := 0) (by omega) (by omega); rw [Nat.pow_zero, Nat.div_one] at h; exact h) ?_
  refine x_iret rfl ?_ dJ0_length_8abf5_10
  exact ⟨rfl, rfl⟩

abbrev P_J3_null (G : XG) (k : Nat) : Option Value → va_W → Prop := fun r ws => r = some (.int (zI ((k : Nat) : Int))) ∧ ws = []
abbrev W_J3_null (G : XG) (E : XE) (k : Nat) (pc : Nat) (lv : List (Nat × Value)) (st : List Value) (ws : va_W) : Prop := Wx G E (rmL 0) cJ3_checkIndex_8e157 3 RJ3 wsJ3_checkIndex_8e157 (some .int) "checkIndex" 0 0 (P_J3_null G k) 0 0 pc lv st ws
set_option maxHeartbeats 4000000 in
set_option maxRecDepth 100000 in
theorem c_J3_null (G : XG) (k n : Nat) (hk : k < n) (hn : n < 2147483648) : Con G yJ3_checkIndex_8e157 wsJ3_checkIndex_8e157 (rmL 0) 0 0 [.int (zI ((k : Nat) : Int)), .int (zI ((n : Nat) : Int)), .null] ([]) (P_J3_null G k) := by
  refine x_start (cc := cJ3_checkIndex_8e157) (nL := 3) (ret := (some .int)) (by decide) rfl (Nat.le_of_ble_eq_true rfl) (fun E => ?_)
  show W_J3_null G E k 0 [(0, .int (zI ((k : Nat) : Int))), (1, .int (zI ((n : Nat) : Int))), (2, .null)] [] ([])
  refine x_iload_n 1 rfl dJ3_checkIndex_8e157_0 0 rfl ?_
  refine x_if_lt 4 rfl (tgt := 9) dJ3_checkIndex_8e157_1 (by decide) (by omega) (fun h1 => ?_) (fun h1 => ?_)
  · skip
    omega
  · skip
    refine x_iload_n 5 rfl dJ3_checkIndex_8e157_4 0 rfl ?_
    refine x_iload_n 6 rfl dJ3_checkIndex_8e157_5 1 rfl ?_
    refine x_icmp_lt 9 rfl (tgt := 16) dJ3_checkIndex_8e157_6 (by decide) (by omega) (by omega) (fun h6 => ?_) (fun h6 => ?_)
    · skip
      refine x_iload_n 17 rfl dJ3_checkIndex_8e157_16 0 rfl ?_
      refine x_iret rfl ?_ dJ3_checkIndex_8e157_17
      exact ⟨rfl, rfl⟩
    · skip
      omega

abbrev P_J3_ref (G : XG) (k : Nat) : Option Value → va_W → Prop := fun r ws => r = some (.int (zI ((k : Nat) : Int))) ∧ ws = []
abbrev W_J3_ref (G : XG) (E : XE) (k : Nat) (pc : Nat) (lv : List (Nat × Value)) (st : List Value) (ws : va_W) : Prop := Wx G E (rmL 0) cJ3_checkIndex_8e157 3 RJ3 wsJ3_checkIndex_8e157 (some .int) "checkIndex" 0 0 (P_J3_ref G k) 0 0 pc lv st ws
set_option maxHeartbeats 4000000 in
set_option maxRecDepth 100000 in
theorem c_J3_ref (G : XG) (t : Nat) (k n : Nat) (hk : k < n) (hn : n < 2147483648) : Con G yJ3_checkIndex_8e157 wsJ3_checkIndex_8e157 (rmL 0) 0 0 [.int (zI ((k : Nat) : Int)), .int (zI ((n : Nat) : Int)), .ref t] ([]) (P_J3_ref G k) := by
  refine x_start (cc := cJ3_checkIndex_8e157) (nL := 3) (ret := (some .int)) (by decide) rfl (Nat.le_of_ble_eq_true rfl) (fun E => ?_)
  show W_J3_ref G E k 0 [(0, .int (zI ((k : Nat) : Int))), (1, .int (zI ((n : Nat) : Int))), (2, .ref t)] [] ([])
  refine x_iload_n 1 rfl dJ3_checkIndex_8e157_0 0 rfl ?_
  refine x_if_lt 4 rfl (tgt := 9) dJ3_checkIndex_8e157_1 (by decide) (by omega) (fun h1 => ?_) (fun h1 => ?_)
  · skip
    omega
  · skip
    refine x_iload_n 5 rfl dJ3_checkIndex_8e157_4 0 rfl ?_
    refine x_iload_n 6 rfl dJ3_checkIndex_8e157_5 1 rfl ?_
    refine x_icmp_lt 9 rfl (tgt := 16) dJ3_checkIndex_8e157_6 (by decide) (by omega) (by omega) (fun h6 => ?_) (fun h6 => ?_)
    · skip
      refine x_iload_n 17 rfl dJ3_checkIndex_8e157_16 0 rfl ?_
      refine x_iret rfl ?_ dJ3_checkIndex_8e157_17
      exact ⟨rfl, rfl⟩
    · skip
      omega

abbrev P_J0_checkIndex_df160 (G : XG) : Option Value → va_W → Prop := fun r ws => r = none ∧ ws = []
abbrev W_J0_checkIndex_df160 (G : XG) (E : XE) (pc : Nat) (lv : List (Nat × Value)) (st : List Value) (ws : va_W) : Prop := Wx G E (rmL 1) cJ0_checkIndex_df160 2 RJ0 wsJ0_checkIndex_df160 none "checkIndex" 0 0 (P_J0_checkIndex_df160 G ) 0 0 pc lv st ws
theorem wJ0_checkIndex_df160_sf1053 : Cond.fieldLink RJ0 1053 "jdk/internal/util/Preconditions" "SIOOBE_FORMATTER" "Ljava/util/function/BiFunction;" ∈ wsJ0_checkIndex_df160 := by decide +kernel
set_option maxHeartbeats 4000000 in
set_option maxRecDepth 100000 in
theorem c_J0_checkIndex_df160 (G : XG) (S : SG) (k n : Nat) (hk : k < n) (hn : n < 2147483648) : ConS G S yJ0_checkIndex_df160 wsJ0_checkIndex_df160 (rmL 1) 0 0 [.int (zI ((k : Nat) : Int)), .int (zI ((n : Nat) : Int))] ([]) (P_J0_checkIndex_df160 G ) := by
  refine x_startS (cc := cJ0_checkIndex_df160) (nL := 2) (ret := none) (by decide) rfl (Nat.le_of_ble_eq_true rfl) (fun E hs => ?_)
  show W_J0_checkIndex_df160 G E  0 [(0, .int (zI ((k : Nat) : Int))), (1, .int (zI ((n : Nat) : Int)))] [] ([])
  refine x_iload_n 1 rfl dJ0_checkIndex_df160_0 0 rfl ?_
  refine x_iload_n 2 rfl dJ0_checkIndex_df160_1 1 rfl ?_
  refine x_sgetq 5 rfl hs wJ0_checkIndex_df160_sf1053 dJ0_checkIndex_df160_2 ?_ (fun t => ?_)
  · skip
    refine x_callS0 8 rfl (c_J3_null G k n hk hn) (fun _ _ h => h.2) gJ0_checkIndex_df160_J3_checkIndex_8e157 rfl rfl rfl hd_J3_checkIndex_8e157 ⟨Nat.le_of_ble_eq_true rfl, Nat.le_of_ble_eq_true rfl⟩ (As := [.int (zI ((k : Nat) : Int)), .int (zI ((n : Nat) : Int)), .null]) (rest := []) rfl rfl (Nat.le_of_ble_eq_true rfl) dJ0_checkIndex_df160_5 ⟨Nat.zero_le _, Nat.zero_le _⟩ (fun v hq => ?_)
    obtain ⟨rfl, -⟩ := hq
    refine x_pop 9 rfl dJ0_checkIndex_df160_8 rfl ?_
    refine x_vret rfl ?_ dJ0_checkIndex_df160_9
    exact ⟨rfl, rfl⟩
  · skip
    refine x_callS0 8 rfl (c_J3_ref G t k n hk hn) (fun _ _ h => h.2) gJ0_checkIndex_df160_J3_checkIndex_8e157 rfl rfl rfl hd_J3_checkIndex_8e157 ⟨Nat.le_of_ble_eq_true rfl, Nat.le_of_ble_eq_true rfl⟩ (As := [.int (zI ((k : Nat) : Int)), .int (zI ((n : Nat) : Int)), .ref t]) (rest := []) rfl rfl (Nat.le_of_ble_eq_true rfl) dJ0_checkIndex_df160_5 ⟨Nat.zero_le _, Nat.zero_le _⟩ (fun v hq => ?_)
    obtain ⟨rfl, -⟩ := hq
    refine x_pop 9 rfl dJ0_checkIndex_df160_8 rfl ?_
    refine x_vret rfl ?_ dJ0_checkIndex_df160_9
    exact ⟨rfl, rfl⟩

abbrev P_J1_charAt_3b067 (G : XG) (i : Nat) (k : Nat) : Option Value → va_W → Prop := fun r ws => r = some (.int (zI (chI i k))) ∧ ws = []
abbrev W_J1_charAt_3b067 (G : XG) (E : XE) (i : Nat) (k : Nat) (pc : Nat) (lv : List (Nat × Value)) (st : List Value) (ws : va_W) : Prop := Wx G E (rmL 2) cJ1_charAt_3b067 2 RJ1 wsJ1_charAt_3b067 (some .char) "charAt" 0 0 (P_J1_charAt_3b067 G i k) 0 0 pc lv st ws
set_option maxHeartbeats 4000000 in
set_option maxRecDepth 100000 in
theorem c_J1_charAt_3b067 (G : XG) (S : SG) (i k : Nat) (hi : i < 3) (hk : k < slen i)  : ConS G S yJ1_charAt_3b067 wsJ1_charAt_3b067 (rmL 2) 0 0 [.ref (S.2 i), .int (zI ((k : Nat) : Int))] ([]) (P_J1_charAt_3b067 G i k) := by
  refine x_startS (cc := cJ1_charAt_3b067) (nL := 2) (ret := (some .char)) (by decide) rfl (Nat.le_of_ble_eq_true rfl) (fun E hs => ?_)
  show W_J1_charAt_3b067 G E i k 0 [(0, .ref (S.2 i)), (1, .int (zI ((k : Nat) : Int)))] [] ([])
  have h5 := slen_lt hi
  refine x_iload_n 1 rfl dJ1_charAt_3b067_0 1 rfl ?_
  refine x_aload_n 2 rfl dJ1_charAt_3b067_1 0 rfl ?_
  refine x_slen 3 rfl hs hi dJ1_charAt_3b067_2 ?_
  refine x_callSS 6 rfl hs (c_J0_checkIndex_df160 G S k (slen i) hk (by omega)) (fun _ _ h => h.2) gJ1_charAt_3b067_J0_checkIndex_df160 rfl rfl rfl hd_J0_checkIndex_df160 ⟨Nat.le_of_ble_eq_true rfl, Nat.le_of_ble_eq_true rfl⟩ (As := [.int (zI ((k : Nat) : Int)), .int (zI ((slen i : Nat) : Int))]) (rest := []) rfl rfl (Nat.le_of_ble_eq_true rfl) dJ1_charAt_3b067_3 ⟨Nat.zero_le _, Nat.zero_le _⟩ (fun v hq => ?_)
  obtain ⟨rfl, -⟩ := hq
  refine x_aload_n 7 rfl dJ1_charAt_3b067_6 0 rfl ?_
  refine x_iload_n 8 rfl dJ1_charAt_3b067_7 1 rfl ?_
  refine x_sbld 9 rfl hs hi hk dJ1_charAt_3b067_8 ?_
  refine x_sipush 12 rfl dJ1_charAt_3b067_9 (z := 255) (by decide) ?_
  refine x_iand 13 rfl dJ1_charAt_3b067_12 (z := chI i k) ((chI_r hi (by omega)).2.1) ?_
  refine x_i2c 14 rfl (v := zI (chI i k)) (chI_r hi (by omega)).2.2 dJ1_charAt_3b067_13 ?_
  refine x_cret rfl (chI_nar hi (by omega)) ?_ dJ1_charAt_3b067_14
  exact ⟨rfl, rfl⟩

abbrev P_J0_charAt_5068e (G : XG) (i : Nat) (k : Nat) : Option Value → va_W → Prop := fun r ws => r = some (.int (zI (chI i k))) ∧ ws = []
abbrev W_J0_charAt_5068e (G : XG) (E : XE) (i : Nat) (k : Nat) (pc : Nat) (lv : List (Nat × Value)) (st : List Value) (ws : va_W) : Prop := Wx G E (rmL 3) cJ0_charAt_5068e 2 RJ0 wsJ0_charAt_5068e (some .char) "charAt" 0 0 (P_J0_charAt_5068e G i k) 0 0 pc lv st ws
theorem wJ0_charAt_5068e_sf9 : Cond.fieldLink RJ0 9 "java/lang/String" "value" "[B" ∈ wsJ0_charAt_5068e := by decide +kernel
set_option maxHeartbeats 4000000 in
set_option maxRecDepth 100000 in
theorem c_J0_charAt_5068e (G : XG) (S : SG) (i k : Nat) (hi : i < 3) (hk : k < slen i)  : ConS G S yJ0_charAt_5068e wsJ0_charAt_5068e (rmL 3) 0 0 [.ref (S.1 i), .int (zI ((k : Nat) : Int))] ([]) (P_J0_charAt_5068e G i k) := by
  refine x_startS (cc := cJ0_charAt_5068e) (nL := 2) (ret := (some .char)) (by decide) rfl (Nat.le_of_ble_eq_true rfl) (fun E hs => ?_)
  show W_J0_charAt_5068e G E i k 0 [(0, .ref (S.1 i)), (1, .int (zI ((k : Nat) : Int)))] [] ([])
  have h5 := slen_lt hi
  refine x_aload_n 1 rfl dJ0_charAt_5068e_0 0 rfl ?_
  refine x_callKS 4 rfl hs (c_J0_isLatin1_aae02 G S i hi) (fun _ _ h => h.2) hi gJ0_charAt_5068e_J0_isLatin1_aae02 rfl rfl rfl hd_J0_isLatin1_aae02 ⟨Nat.le_of_ble_eq_true rfl, Nat.le_of_ble_eq_true rfl⟩ (As := []) (rest := []) rfl rfl (Nat.le_of_ble_eq_true rfl) dJ0_charAt_5068e_1 ⟨Nat.zero_le _, Nat.zero_le _⟩ (fun v hq => ?_)
  obtain ⟨rfl, -⟩ := hq
  refine x_bif_eq 7 rfl (tgt := 16) dJ0_charAt_5068e_4 (by decide) (fun h4 => ?_) (fun h4 => ?_)
  · skip
    cases h4
  · skip
    refine x_aload_n 8 rfl dJ0_charAt_5068e_7 0 rfl ?_
    refine x_sgetv 11 rfl hs hi wJ0_charAt_5068e_sf9 dJ0_charAt_5068e_8 ?_
    refine x_iload_n 12 rfl dJ0_charAt_5068e_11 1 rfl ?_
    refine x_callSS 15 rfl hs (c_J1_charAt_3b067 G S i k hi hk) (fun _ _ h => h.2) gJ0_charAt_5068e_J1_charAt_3b067 rfl rfl rfl hd_J1_charAt_3b067 ⟨Nat.le_of_ble_eq_true rfl, Nat.le_of_ble_eq_true rfl⟩ (As := [.ref (S.2 i), .int (zI ((k : Nat) : Int))]) (rest := []) rfl rfl (Nat.le_of_ble_eq_true rfl) dJ0_charAt_5068e_12 ⟨Nat.zero_le _, Nat.zero_le _⟩ (fun v hq => ?_)
    obtain ⟨rfl, -⟩ := hq
    refine x_cret rfl (chI_nar hi (by omega)) ?_ dJ0_charAt_5068e_15
    exact ⟨rfl, rfl⟩

