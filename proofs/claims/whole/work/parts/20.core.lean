/-! THE JUDGEMENT Wx: the machine at pc with locals lv, stack st and the world ws; heaps, place lists and slots stay inside. -/
abbrev XG : Type := Launch × va_G × ClassId × ClassId × ClassId × ClassId
abbrev gl (G : XG) : Launch := G.1
abbrev gD (G : XG) : va_G := G.2.1
abbrev gI (G : XG) : ClassId := G.2.2.1
abbrev gZ (G : XG) : ClassId := G.2.2.2.1
abbrev gO (G : XG) : ClassId := G.2.2.2.2.1
abbrev gN (G : XG) : ClassId := G.2.2.2.2.2
abbrev gT (G : XG) : List (ClassId × FieldType) := [(gI G, .int), (gZ G, .boolean), (gO G, .object RX0), (gN G, .object RX1)]
def xN : List Cond := [.methodLinkNest RX0 55 yX6_isBelow RX6, .methodLinkNest RX2 23 yX1_init RX6, .methodLinkNest RX5 27 yX1_init RX6, .methodLinkNest RX6 29 yX3_init RX6, .methodLinkNest RX6 43 yX2_init RX6]
def xK (G : XG) (U : State) : Prop := va_K (gD G) vwCl (gT G) U ∧ ∀ w ∈ xN, va_Nw w U
theorem xK.warm {G : XG} {s U : State} (hW : s.WarmedH U.vm) (h : xK G s) : xK G U := by
  refine ⟨va_K.moved hW.alike h.1, fun w hw => ?_⟩
  have h2 := h.2 w hw
  simp only [xN, List.mem_cons, List.not_mem_nil, or_false] at hw
  rcases hw with rfl | rfl | rfl | rfl | rfl <;> exact va_Nw.warmM hW h2
theorem xK.blind {G : XG} {U : State} {g : JFrame} {mk : MethodId} {a : Array Value} (h : xK G U) : xK G (U.calling g mk a) := by
  refine ⟨va_K.moved (Vm.Alike.refl U.vm) h.1, fun w hw => ?_⟩
  have h2 := h.2 w hw
  refine va_Nw.same ?_ (rfl : U.vm = (U.calling g mk a).vm) h2
  simp only [xN, List.mem_cons, List.not_mem_nil, or_false] at hw
  rcases hw with rfl | rfl | rfl | rfl | rfl <;> rfl
abbrev XE : Type := Program × Env × State × MethodId × Array Value × List Frame × Method × Code × (Nat → Prop)
abbrev ep (E : XE) : Program := E.1
abbrev ee (E : XE) : Env := E.2.1
abbrev es (E : XE) : State := E.2.2.1
abbrev em (E : XE) : MethodId := E.2.2.2.1
abbrev ea (E : XE) : Array Value := E.2.2.2.2.1
abbrev eb (E : XE) : List Frame := E.2.2.2.2.2.1
abbrev et (E : XE) : Method := E.2.2.2.2.2.2.1
abbrev ec (E : XE) : Code := E.2.2.2.2.2.2.2.1
abbrev eA (E : XE) : Nat → Prop := E.2.2.2.2.2.2.2.2
def Cx (G : XG) (E : XE) (cc : ByteArray) (nL : Nat) (own : String) (Ts : List Cond) (ret : Option FieldType) (nm : String) : Prop :=
  (ep E).tables.exec = Jvm.exec ∧ (ec E).code = cc ∧ (ec E).maxLocals = nL ∧ (es E).vm.findClass own = some (em E).cls ∧ (∀ w ∈ Ts, w.before (ea E) (es E) = true) ∧ (et E).locks = false ∧ xK G (es E) ∧ (∀ q, (es E).heap.size ≤ q → eA E q) ∧ (et E).sig.returnType = ret ∧ (et E).name = nm
/-- how a method ends: its answer and the world behind it, and the frame -/
def xQ (Post : Option Value → va_W → Prop) (G : XG) (A : Nat → Prop) : Array Value → State → Outcome → State → Prop := fun _ st oc t =>
  (∃ (v : Option Value) (w : va_W), oc = .returned v ∧ Post v w ∧ va_P (gD G) vwCl w t.heap ∧ va_D A w) ∧ va_F A st t
def Con (G : XG) (y : MethodName) (wq : List Cond) (rm : Room) (mc ms : Nat) (args : List Value) (wc : va_W) (Post : Option Value → va_W → Prop) : Prop :=
  ∀ sz : Nat, Met (gl G) y wq rm (va_Pc args (fun U => U.heap.size = sz ∧ va_P (gD G) vwCl wc U.heap ∧ xK G U ∧ va_D (fun _ => True) wc)) (xQ Post G (va_A wc sz)) mc ms (va_A wc sz)
def Wx (G : XG) (E : XE) (R : Room) (cc : ByteArray) (nL : Nat) (own : String) (Ts : List Cond) (ret : Option FieldType) (nm : String) (mc ms : Nat) (Post : Option Value → va_W → Prop) (cells slots pc : Nat) (lv : List (Nat × Value)) (st : List Value) (ws : va_W) : Prop :=
  Cx G E cc nL own Ts ret nm → ∀ (H : Heap) (locs : List Loc) (ls : Array Slot), va_P (gD G) vwCl ws H → va_D (eA E) ws → va_S (eA E) (es E).heap H locs → lv_has ls nL lv → W (ep E) (gl G) (ee E) R (es E) (em E) (ea E) (eb E) (et E) (ec E) H locs cells slots (MQ (eb E) (xQ Post G (eA E)) (ea E) (es E) mc ms (eA E)) (F0 (em E) pc ls st)
abbrev rmL (k : Nat) : Room := { frames := k, cells := 0, slots := 0, locals := 40 * k }
/-! numbers: every int is zI of an Int -/
def zI (z : Int) : Int32 := Int32.ofInt z
def zL (z : Int) : Int64 := Int64.ofInt z
def zB (b : Bool) : Int32 := if b then 1 else 0
abbrev Z32 (z : Int) : Prop := -2147483648 ≤ z ∧ z ≤ 2147483647
theorem zI_add (a b : Int) : zI a + zI b = zI (a + b) := (Int32.ofInt_add a b).symm
theorem zI_sub (a b : Int) : zI a - zI b = zI (a - b) := (Int32.ofInt_sub a b).symm
theorem zI_mul (a b : Int) : zI a * zI b = zI (a * b) := (Int32.ofInt_mul a b).symm
theorem zI_neg (a : Int) : - zI a = zI (-a) := (Int32.ofInt_neg a).symm
theorem zL_add (a b : Int) : zL a + zL b = zL (a + b) := (Int64.ofInt_add a b).symm
theorem zL_mul (a b : Int) : zL a * zL b = zL (a * b) := (Int64.ofInt_mul a b).symm
theorem zI_toInt {z : Int} (h : Z32 z) : (zI z).toInt = z := by
  have h1 : -2 ^ 31 ≤ z := by omega
  have h2 : z < 2 ^ 31 := by omega
  exact Int32.toInt_ofInt_of_le h1 h2
theorem zI_of (x : Int32) : ∃ z : Int, Z32 z ∧ x = zI z := by
  refine ⟨x.toInt, ⟨?_, ?_⟩, ?_⟩
  · have := Int32.le_toInt x; omega
  · have := Int32.toInt_lt x; omega
  · exact (Int32.ofInt_toInt x).symm
theorem zI_eq {a b : Int} (ha : Z32 a) (hb : Z32 b) : zI a = zI b ↔ a = b := by
  constructor
  · intro h
    rw [← zI_toInt ha, ← zI_toInt hb, h]
  · intro h; rw [h]
theorem zI_lt {a b : Int} (ha : Z32 a) (hb : Z32 b) : zI a < zI b ↔ a < b := by
  rw [Int32.lt_iff_toInt_lt, zI_toInt ha, zI_toInt hb]
theorem zI_le {a b : Int} (ha : Z32 a) (hb : Z32 b) : zI a ≤ zI b ↔ a ≤ b := by
  rw [Int32.le_iff_toInt_le, zI_toInt ha, zI_toInt hb]
theorem zI_nat (n : Nat) : zI (n : Int) = nI n := Int32.ofInt_eq_ofNat
theorem zI_clamp {n : Nat} (h : n < 2147483648) : (zI (n : Int)).toNatClampNeg = n := by
  have h1 : (zI (n : Int)).toInt = (n : Int) := zI_toInt ⟨by omega, by omega⟩
  show (zI (n : Int)).toInt.toNat = n
  rw [h1]; rfl
theorem zI_in {n N : Nat} (h : n < N) (hN : N < 2147483648) : vp_in (zI (n : Int)) N := by
  rw [zI_nat]; exact vp_in_nI h hN
theorem zI_0 : zI 0 = 0 := rfl
theorem zI_1 : zI 1 = 1 := rfl
theorem zB_t {b : Bool} (h : b = true) : zI 1 = zB b := by rw [h]; rfl
theorem zB_f {b : Bool} (h : b = false) : zI 0 = zB b := by rw [h]; rfl
theorem zB_d {P : Prop} [Decidable P] (h : P) : zI 1 = zB (decide P) := zB_t (decide_eq_true h)
theorem zB_n {P : Prop} [Decidable P] (h : ¬ P) : zI 0 = zB (decide P) := zB_f (decide_eq_false h)
/-- a row of ints, of booleans, of references -/
abbrev aI (G : XG) (n : Nat) (f : Nat → Int) : va_E := .inl (gI G, n, .inl (fun j => zI (f j)))
abbrev aZ (G : XG) (n : Nat) (f : Nat → Bool) : va_E := .inl (gZ G, n, .inl (fun j => zB (f j)))
abbrev aO (G : XG) (n : Nat) (f : Nat → Option Nat) : va_E := .inl (gO G, n, .inr (.inr (.inr (.inr f))))
abbrev aN (G : XG) (n : Nat) (f : Nat → Option Nat) : va_E := .inl (gN G, n, .inr (.inr (.inr (.inr f))))
def zup {α : Type} (f : Nat → α) (k : Nat) (v : α) : Nat → α := fun j => if j = k then v else f j
theorem zup_s {α : Type} (f : Nat → α) (k : Nat) (v : α) : zup f k v k = v := by simp [zup]
theorem zup_n {α : Type} (f : Nat → α) {k j : Nat} (v : α) (h : j ≠ k) : zup f k v j = f j := by simp [zup, h]
theorem zup_upd (f : Nat → Int) (k : Nat) (v : Int) : upd (fun j => zI (f j)) k (zI v) = fun j => zI (zup f k v j) := by
  funext j; simp only [upd, zup]; split <;> rfl
theorem zup_updB (f : Nat → Bool) (k : Nat) (v : Bool) : upd (fun j => zB (f j)) k (zB v) = fun j => zB (zup f k v j) := by
  funext j; simp only [upd, zup]; split <;> rfl
def zcp (f g : Nat → Int) (sp dp n : Nat) : Nat → Int := fun k => if dp ≤ k ∧ k < dp + n then f (sp + (k - dp)) else g k
theorem zcp_cpy (f g : Nat → Int) (sp dp n : Nat) : va_cpy (fun j => zI (f j)) (fun j => zI (g j)) sp dp n = fun j => zI (zcp f g sp dp n j) := by
  funext j; simp only [va_cpy, zcp]; split <;> rfl
/-! a callee's world goes back into its places -/
def plc : va_W → List Nat → va_W → va_W
  | ws, i :: is, c :: cs => plc (ws.set i c) is cs
  | ws, _, _ => ws
theorem plc_fst : ∀ (isC : List Nat) (ws w1 : va_W), isC.map (fun i => (ws.map (·.1))[i]?) = (w1.map (·.1)).map some → (plc ws isC w1).map (·.1) = ws.map (·.1)
  | [], ws, w1, _ => by cases w1 <;> rfl
  | i :: is, ws, [], h => by simp at h
  | i :: is, ws, c :: cs, h => by
    simp only [List.map_cons, List.cons.injEq] at h
    obtain ⟨h1, h2⟩ := h
    have e : (ws.set i c).map (·.1) = ws.map (·.1) := by
      rw [List.map_set]
      apply List.ext_getElem?
      intro k
      rw [List.getElem?_set]
      split
      · rename_i hk; subst hk
        split
        · exact h1.symm
        · rename_i hl
          exact (List.getElem?_eq_none (Nat.le_of_not_lt hl)).symm
      · rfl
    show (plc (ws.set i c) is cs).map (·.1) = _
    rw [plc_fst is (ws.set i c) cs (by rw [e]; exact h2), e]
theorem plc_get : ∀ (isC : List Nat) (ws w1 : va_W) (k : Nat) (q : Nat × va_E), (plc ws isC w1)[k]? = some q → (∃ j : Nat, w1[j]? = some q) ∨ (ws[k]? = some q ∧ (isC.length = w1.length → k ∉ isC))
  | [], ws, w1, k, q, h => Or.inr ⟨by cases w1 <;> exact h, fun _ => List.not_mem_nil⟩
  | i :: is, ws, [], k, q, h => Or.inr ⟨h, fun e => by simp at e⟩
  | i :: is, ws, c :: cs, k, q, h => by
    rcases plc_get is (ws.set i c) cs k q h with ⟨j, hj⟩ | ⟨h1, h2⟩
    · exact Or.inl ⟨j + 1, hj⟩
    · by_cases hk : i = k
      · subst hk
        rw [List.getElem?_set] at h1
        simp only [if_true] at h1
        split at h1
        · exact Or.inl ⟨0, h1⟩
        · cases h1
      · rw [List.getElem?_set_ne hk] at h1
        refine Or.inr ⟨h1, fun e hm => ?_⟩
        rcases List.mem_cons.mp hm with rfl | hm
        · exact hk rfl
        · exact h2 (by simpa using e) hm
theorem plc_ok {A0 : Nat → Prop} {D : va_G} {cl : List vw_C} {ws wc w1 : va_W} {H H1 : Heap} {isC : List Nat} (hP : va_P D cl ws H) (hD : va_D A0 ws) (hC : isC.map (fun i => ws[i]?) = wc.map some) (hk : ∀ q : Nat, q < H.size → ¬ va_A wc H.size q → H1[q]? = H[q]?) (hP1 : va_P D cl w1 H1) (hn : w1.map (·.1) = wc.map (·.1)) : va_P D cl (plc ws isC w1) H1 ∧ va_D A0 (plc ws isC w1) := by
  have hlen : isC.length = w1.length := by
    have a := congrArg List.length hC
    have b := congrArg List.length hn
    simp only [List.length_map] at a b
    omega
  have hfst : isC.map (fun i => (ws.map (·.1))[i]?) = (w1.map (·.1)).map some := by
    rw [hn]
    have a := congrArg (List.map (Option.map (fun q : Nat × va_E => q.1))) hC
    simpa [List.map_map, Function.comp_def] using a
  have hf := plc_fst isC ws w1 hfst
  have adr : ∀ (k : Nat) (q : Nat × va_E), (plc ws isC w1)[k]? = some q → ∃ q', ws[k]? = some q' ∧ q'.1 = q.1 := by
    intro k q h
    have h1 : ((plc ws isC w1).map (·.1))[k]? = some q.1 := by rw [List.getElem?_map, h]; rfl
    rw [hf, List.getElem?_map] at h1
    cases hw : ws[k]? with
    | none => rw [hw] at h1; cases h1
    | some q' => rw [hw] at h1; exact ⟨q', rfl, Option.some.inj h1⟩
  refine ⟨fun k q h => ?_, fun i j x y hx hy hxy => ?_, fun k q h => ?_⟩
  · rcases plc_get isC ws w1 k q h with ⟨j, hj⟩ | ⟨h1, h2⟩
    · exact hP1 j q hj
    · have hl := (hP k q h1).lt
      refine (hP k q h1).kept (hk q.1 hl (fun hA => ?_))
      rcases hA with ⟨j, e, hj⟩ | hA
      · have hc : (isC.map (fun i => ws[i]?))[j]? = some (some (q.1, e)) := by rw [hC, List.getElem?_map, hj]; rfl
        rw [List.getElem?_map] at hc
        cases hi : isC[j]? with
        | none => rw [hi] at hc; cases hc
        | some i =>
          rw [hi] at hc
          have hij := hD.1 k i q (q.1, e) h1 (Option.some.inj hc) rfl
          subst hij
          exact h2 hlen (List.mem_of_getElem? hi)
      · omega
  · obtain ⟨x', hx', ex⟩ := adr i x hx
    obtain ⟨y', hy', ey⟩ := adr j y hy
    exact hD.1 i j x' y' hx' hy' (by rw [ex, ey, hxy])
  · obtain ⟨q', hq', eq'⟩ := adr k q h
    rw [← eq']
    exact hD.2 k q' hq' 
theorem arrV_congr {cA : ClassId} {n : Nat} {f g : Nat → Value} (h : ∀ j, j < n → f j = g j) : arrV cA n f = arrV cA n g := by
  unfold arrV
  congr 1
  apply Array.ext
  · simp
  · intro i h1 h2
    simp only [Array.size_ofFn] at h1
    simp [h i h1]
theorem x_arrE {cA : ClassId} {n : Nat} {f g : Nat → Int} (h : ∀ j, j < n → f j = g j) : vp_cell cA (n, .inl (fun j => zI (f j))) = vp_cell cA (n, .inl (fun j => zI (g j))) := by
  rw [vp_cell_i, vp_cell_i]
  exact arrV_congr (fun j hj => by rw [h j hj])
theorem x_arrEZ {cA : ClassId} {n : Nat} {f g : Nat → Bool} (h : ∀ j, j < n → f j = g j) : vp_cell cA (n, .inl (fun j => zB (f j))) = vp_cell cA (n, .inl (fun j => zB (g j))) := by
  rw [vp_cell_i, vp_cell_i]
  exact arrV_congr (fun j hj => by rw [h j hj])
theorem x_arrP {D : va_G} {cl : List vw_C} {ws : va_W} {H : Heap} {a q0 : Nat} {cA : ClassId} {x y : vp_A} (hP : va_P D cl ws H) (he : ws[q0]? = some (a, .inl (cA, x))) (hxy : vp_cell cA x = vp_cell cA y) : va_P D cl (ws.set q0 (a, .inl (cA, y))) H := by
  intro k q hk
  by_cases h : q0 = k
  · subst h
    rw [List.getElem?_set_self (List.getElem?_eq_some_iff.mp he).1] at hk
    cases hk
    have h1 := hP q0 _ he
    show H[a]? = some (vp_cell cA y)
    rw [← hxy]; exact h1
  · rw [List.getElem?_set_ne h] at hk
    exact hP k q hk
theorem x_arrD {A : Nat → Prop} {ws : va_W} {a q0 : Nat} {e e' : va_E} (hD : va_D A ws) (he : ws[q0]? = some (a, e)) : va_D A (ws.set q0 (a, e')) := by
  have adr : ∀ (k : Nat) (q : Nat × va_E), (ws.set q0 (a, e'))[k]? = some q → ∃ q', ws[k]? = some q' ∧ q'.1 = q.1 := by
    intro k q hk
    by_cases h : q0 = k
    · subst h
      rw [List.getElem?_set_self (List.getElem?_eq_some_iff.mp he).1] at hk
      cases hk
      exact ⟨_, he, rfl⟩
    · rw [List.getElem?_set_ne h] at hk
      exact ⟨q, hk, rfl⟩
  refine ⟨fun i j x y hx hy hxy => ?_, fun k q hk => ?_⟩
  · obtain ⟨x', hx', ex⟩ := adr i x hx
    obtain ⟨y', hy', ey⟩ := adr j y hy
    exact hD.1 i j x' y' hx' hy' (by rw [ex, ey, hxy])
  · obtain ⟨q', hq', e2⟩ := adr k q hk
    rw [← e2]; exact hD.2 k q' hq'
section XR
variable {G : XG} {E : XE} {R : Room} {cc : ByteArray} {nL : Nat} {own : String} {Ts : List Cond} {ret : Option FieldType} {nm : String} {mc ms : Nat} {Post : Option Value → va_W → Prop} {cells slots pc : Nat} {lv lv' : List (Nat × Value)} {st : List Value} {ws ws' : va_W}
theorem x_iconst (pc' : Nat) (hp : pc + 1 = pc') {n z : Int} (hdg : decode cc pc = .ok (.iconst n, 1)) (hv : n = z) (kk : Wx G E R cc nL own Ts ret nm mc ms Post cells slots pc' lv (.int (zI z) :: st) ws) : Wx G E R cc nL own Ts ret nm mc ms Post cells slots pc lv st ws :=
  by
  subst hp
  exact fun C H locs ls hP hD hS hl => lv_iconst C.1 C.2.1 hdg (show Int32.ofInt n = zI z by rw [hv]; rfl) (kk C H locs ls hP hD hS hl)
theorem x_bipush (pc' : Nat) (hp : pc + 2 = pc') {n z : Int} (hdg : decode cc pc = .ok (.bipush n, 2)) (hv : (Int8.ofInt n).toInt32 = zI z) (kk : Wx G E R cc nL own Ts ret nm mc ms Post cells slots pc' lv (.int (zI z) :: st) ws) : Wx G E R cc nL own Ts ret nm mc ms Post cells slots pc lv st ws :=
  by
  subst hp
  exact fun C H locs ls hP hD hS hl => lv_bipush C.1 C.2.1 hdg hv (kk C H locs ls hP hD hS hl)
theorem x_sipush (pc' : Nat) (hp : pc + 3 = pc') {n z : Int} (hdg : decode cc pc = .ok (.sipush n, 3)) (hv : (Int16.ofInt n).toInt32 = zI z) (kk : Wx G E R cc nL own Ts ret nm mc ms Post cells slots pc' lv (.int (zI z) :: st) ws) : Wx G E R cc nL own Ts ret nm mc ms Post cells slots pc lv st ws :=
  by
  subst hp
  exact fun C H locs ls hP hD hS hl => lv_sipush C.1 C.2.1 hdg hv (kk C H locs ls hP hD hS hl)
theorem x_lconst (pc' : Nat) (hp : pc + 1 = pc') {n : Fin 2} {z : Int} (hdg : decode cc pc = .ok (.lconst n, 1)) (hv : Int64.ofNat (n : Nat) = zL z) (kk : Wx G E R cc nL own Ts ret nm mc ms Post cells slots pc' lv (.long (zL z) :: st) ws) : Wx G E R cc nL own Ts ret nm mc ms Post cells slots pc lv st ws :=
  by
  subst hp
  exact fun C H locs ls hP hD hS hl => lv_lconst C.1 C.2.1 hdg hv (kk C H locs ls hP hD hS hl)
theorem x_iload_n (pc' : Nat) (hp : pc + 1 = pc') {k : Fin 4} {x : Int32} (hdg : decode cc pc = .ok (.iload_n k, 1)) (j : Nat) (hk : lv[j]? = some ((k : Nat), .int x)) (kk : Wx G E R cc nL own Ts ret nm mc ms Post cells slots pc' lv (.int x :: st) ws) : Wx G E R cc nL own Ts ret nm mc ms Post cells slots pc lv st ws :=
  by
  subst hp
  exact fun C H locs ls hP hD hS hl => lv_iload_n C.1 C.2.1 hdg rfl (lv_at hl j hk) (kk C H locs ls hP hD hS hl)
theorem x_iload (pc' : Nat) (hp : pc + 2 = pc') {i : Nat} {x : Int32} (hdg : decode cc pc = .ok (.iload i, 2)) (j : Nat) (hk : lv[j]? = some (i, .int x)) (kk : Wx G E R cc nL own Ts ret nm mc ms Post cells slots pc' lv (.int x :: st) ws) : Wx G E R cc nL own Ts ret nm mc ms Post cells slots pc lv st ws :=
  by
  subst hp
  exact fun C H locs ls hP hD hS hl => lv_iload C.1 C.2.1 hdg (lv_at hl j hk) (kk C H locs ls hP hD hS hl)
theorem x_lload_n (pc' : Nat) (hp : pc + 1 = pc') {k : Fin 4} {x : Int64} (hdg : decode cc pc = .ok (.lload_n k, 1)) (j : Nat) (hk : lv[j]? = some ((k : Nat), .long x)) (kk : Wx G E R cc nL own Ts ret nm mc ms Post cells slots pc' lv (.long x :: st) ws) : Wx G E R cc nL own Ts ret nm mc ms Post cells slots pc lv st ws :=
  by
  subst hp
  exact fun C H locs ls hP hD hS hl => lv_lload_n C.1 C.2.1 hdg rfl (lv_at hl j hk) (kk C H locs ls hP hD hS hl)
theorem x_lload (pc' : Nat) (hp : pc + 2 = pc') {i : Nat} {x : Int64} (hdg : decode cc pc = .ok (.lload i, 2)) (j : Nat) (hk : lv[j]? = some (i, .long x)) (kk : Wx G E R cc nL own Ts ret nm mc ms Post cells slots pc' lv (.long x :: st) ws) : Wx G E R cc nL own Ts ret nm mc ms Post cells slots pc lv st ws :=
  by
  subst hp
  exact fun C H locs ls hP hD hS hl => lv_lload C.1 C.2.1 hdg (lv_at hl j hk) (kk C H locs ls hP hD hS hl)
theorem x_aload_n (pc' : Nat) (hp : pc + 1 = pc') {k : Fin 4} {x : Nat} (hdg : decode cc pc = .ok (.aload_n k, 1)) (j : Nat) (hk : lv[j]? = some ((k : Nat), .ref x)) (kk : Wx G E R cc nL own Ts ret nm mc ms Post cells slots pc' lv (.ref x :: st) ws) : Wx G E R cc nL own Ts ret nm mc ms Post cells slots pc lv st ws :=
  by
  subst hp
  exact fun C H locs ls hP hD hS hl => lv_aload_n C.1 C.2.1 hdg rfl (lv_at hl j hk) (kk C H locs ls hP hD hS hl)
theorem x_aload (pc' : Nat) (hp : pc + 2 = pc') {i : Nat} {x : Nat} (hdg : decode cc pc = .ok (.aload i, 2)) (j : Nat) (hk : lv[j]? = some (i, .ref x)) (kk : Wx G E R cc nL own Ts ret nm mc ms Post cells slots pc' lv (.ref x :: st) ws) : Wx G E R cc nL own Ts ret nm mc ms Post cells slots pc lv st ws :=
  by
  subst hp
  exact fun C H locs ls hP hD hS hl => lv_aload C.1 C.2.1 hdg (lv_at hl j hk) (kk C H locs ls hP hD hS hl)
theorem x_istore_n (pc' : Nat) (hp : pc + 1 = pc') {k : Fin 4} {x : Int32} (hdg : decode cc pc = .ok (.istore_n k, 1)) (hn : (k : Nat) < nL) (hlv : ((k : Nat), Value.int x) :: lv.filter (fun q => !(q.1 == (k : Nat)) && !(q.1 + 1 == (k : Nat) && q.2.category == 2)) = lv') (kk : Wx G E R cc nL own Ts ret nm mc ms Post cells slots pc' lv' st ws) : Wx G E R cc nL own Ts ret nm mc ms Post cells slots pc lv (Value.int x :: st) ws :=
  by
  subst hp
  exact fun C H locs ls hP hD hS hl => lv_istore_n C.1 C.2.1 hdg rfl hl hn hlv (fun ls' hl' => kk C H locs ls' hP hD hS hl')
theorem x_istore (pc' : Nat) (hp : pc + 2 = pc') {i : Nat} {x : Int32} (hdg : decode cc pc = .ok (.istore i, 2)) (hn : i < nL) (hlv : (i, Value.int x) :: lv.filter (fun q => !(q.1 == i) && !(q.1 + 1 == i && q.2.category == 2)) = lv') (kk : Wx G E R cc nL own Ts ret nm mc ms Post cells slots pc' lv' st ws) : Wx G E R cc nL own Ts ret nm mc ms Post cells slots pc lv (Value.int x :: st) ws :=
  by
  subst hp
  exact fun C H locs ls hP hD hS hl => lv_istore C.1 C.2.1 hdg hl hn hlv (fun ls' hl' => kk C H locs ls' hP hD hS hl')
theorem x_astore_n (pc' : Nat) (hp : pc + 1 = pc') {k : Fin 4} {x : Nat} (hdg : decode cc pc = .ok (.astore_n k, 1)) (hn : (k : Nat) < nL) (hlv : ((k : Nat), Value.ref x) :: lv.filter (fun q => !(q.1 == (k : Nat)) && !(q.1 + 1 == (k : Nat) && q.2.category == 2)) = lv') (kk : Wx G E R cc nL own Ts ret nm mc ms Post cells slots pc' lv' st ws) : Wx G E R cc nL own Ts ret nm mc ms Post cells slots pc lv (Value.ref x :: st) ws :=
  by
  subst hp
  exact fun C H locs ls hP hD hS hl => lv_astore_n C.1 C.2.1 hdg rfl hl hn hlv (fun ls' hl' => kk C H locs ls' hP hD hS hl')
theorem x_astore (pc' : Nat) (hp : pc + 2 = pc') {i : Nat} {x : Nat} (hdg : decode cc pc = .ok (.astore i, 2)) (hn : i < nL) (hlv : (i, Value.ref x) :: lv.filter (fun q => !(q.1 == i) && !(q.1 + 1 == i && q.2.category == 2)) = lv') (kk : Wx G E R cc nL own Ts ret nm mc ms Post cells slots pc' lv' st ws) : Wx G E R cc nL own Ts ret nm mc ms Post cells slots pc lv (Value.ref x :: st) ws :=
  by
  subst hp
  exact fun C H locs ls hP hD hS hl => lv_astore C.1 C.2.1 hdg hl hn hlv (fun ls' hl' => kk C H locs ls' hP hD hS hl')
theorem x_lstore_n (pc' : Nat) (hp : pc + 1 = pc') {k : Fin 4} {x : Int64} (hdg : decode cc pc = .ok (.lstore_n k, 1)) (hn : (k : Nat) + 1 < nL) (hlv : ((k : Nat), Value.long x) :: lv.filter (fun q => !(q.1 == (k : Nat)) && (!(q.1 == (k : Nat) + 1) && !(q.1 + 1 == (k : Nat) && q.2.category == 2))) = lv') (kk : Wx G E R cc nL own Ts ret nm mc ms Post cells slots pc' lv' st ws) : Wx G E R cc nL own Ts ret nm mc ms Post cells slots pc lv (Value.long x :: st) ws :=
  by
  subst hp
  exact fun C H locs ls hP hD hS hl => lv_lstore_n C.1 C.2.1 hdg rfl hl hn hlv (fun ls' hl' => kk C H locs ls' hP hD hS hl')
theorem x_lstore (pc' : Nat) (hp : pc + 2 = pc') {i : Nat} {x : Int64} (hdg : decode cc pc = .ok (.lstore i, 2)) (hn : i + 1 < nL) (hlv : (i, Value.long x) :: lv.filter (fun q => !(q.1 == i) && (!(q.1 == i + 1) && !(q.1 + 1 == i && q.2.category == 2))) = lv') (kk : Wx G E R cc nL own Ts ret nm mc ms Post cells slots pc' lv' st ws) : Wx G E R cc nL own Ts ret nm mc ms Post cells slots pc lv (Value.long x :: st) ws :=
  by
  subst hp
  exact fun C H locs ls hP hD hS hl => lv_lstore C.1 C.2.1 hdg hl hn hlv (fun ls' hl' => kk C H locs ls' hP hD hS hl')
theorem x_iinc (pc' : Nat) (hp : pc + 3 = pc') {i : Nat} {n a b : Int} (hdg : decode cc pc = .ok (.iinc i n, 3)) (j : Nat) (hk : lv[j]? = some (i, .int (zI a))) (hb : a + n = b) (hn : i < nL) (hlv : (i, Value.int (zI b)) :: lv.filter (fun q => !(q.1 == i) && !(q.1 + 1 == i && q.2.category == 2)) = lv') (kk : Wx G E R cc nL own Ts ret nm mc ms Post cells slots pc' lv' st ws) : Wx G E R cc nL own Ts ret nm mc ms Post cells slots pc lv st ws :=
  by
  subst hp
  exact fun C H locs ls hP hD hS hl => lv_iinc C.1 C.2.1 hdg hl hk (show zI a + Int32.ofInt n = zI b by rw [← hb]; exact zI_add a n) hn hlv (fun ls' hl' => kk C H locs ls' hP hD hS hl')
theorem x_iadd (pc' : Nat) (hp : pc + 1 = pc') {a b z : Int} (hdg : decode cc pc = .ok (.iadd, 1)) (hz : a + b = z) (kk : Wx G E R cc nL own Ts ret nm mc ms Post cells slots pc' lv (.int (zI z) :: st) ws) : Wx G E R cc nL own Ts ret nm mc ms Post cells slots pc lv (.int (zI b) :: .int (zI a) :: st) ws :=
  by
  subst hp
  exact fun C H locs ls hP hD hS hl => lv_iadd C.1 C.2.1 hdg (by rw [zI_add, hz]; exact (kk C H locs ls hP hD hS hl))
theorem x_isub (pc' : Nat) (hp : pc + 1 = pc') {a b z : Int} (hdg : decode cc pc = .ok (.isub, 1)) (hz : a - b = z) (kk : Wx G E R cc nL own Ts ret nm mc ms Post cells slots pc' lv (.int (zI z) :: st) ws) : Wx G E R cc nL own Ts ret nm mc ms Post cells slots pc lv (.int (zI b) :: .int (zI a) :: st) ws :=
  by
  subst hp
  exact fun C H locs ls hP hD hS hl => lv_isub C.1 C.2.1 hdg (by rw [zI_sub, hz]; exact (kk C H locs ls hP hD hS hl))
theorem x_imul (pc' : Nat) (hp : pc + 1 = pc') {a b z : Int} (hdg : decode cc pc = .ok (.imul, 1)) (hz : a * b = z) (kk : Wx G E R cc nL own Ts ret nm mc ms Post cells slots pc' lv (.int (zI z) :: st) ws) : Wx G E R cc nL own Ts ret nm mc ms Post cells slots pc lv (.int (zI b) :: .int (zI a) :: st) ws :=
  by
  subst hp
  exact fun C H locs ls hP hD hS hl => lv_imul C.1 C.2.1 hdg (by rw [zI_mul, hz]; exact (kk C H locs ls hP hD hS hl))
theorem x_ineg (pc' : Nat) (hp : pc + 1 = pc') {a z : Int} (hdg : decode cc pc = .ok (.ineg, 1)) (hz : -a = z) (kk : Wx G E R cc nL own Ts ret nm mc ms Post cells slots pc' lv (.int (zI z) :: st) ws) : Wx G E R cc nL own Ts ret nm mc ms Post cells slots pc lv (.int (zI a) :: st) ws :=
  by
  subst hp
  exact fun C H locs ls hP hD hS hl => lv_ineg C.1 C.2.1 hdg (by rw [zI_neg, hz]; exact (kk C H locs ls hP hD hS hl))
theorem x_iand (pc' : Nat) (hp : pc + 1 = pc') {x y : Int32} {z : Int} (hdg : decode cc pc = .ok (.iand, 1)) (hz : x &&& y = zI z) (kk : Wx G E R cc nL own Ts ret nm mc ms Post cells slots pc' lv (.int (zI z) :: st) ws) : Wx G E R cc nL own Ts ret nm mc ms Post cells slots pc lv (.int y :: .int x :: st) ws :=
  by
  subst hp
  exact fun C H locs ls hP hD hS hl => lv_iand C.1 C.2.1 hdg (by rw [hz]; exact (kk C H locs ls hP hD hS hl))
theorem x_ior (pc' : Nat) (hp : pc + 1 = pc') {x y : Int32} {z : Int} (hdg : decode cc pc = .ok (.ior, 1)) (hz : x ||| y = zI z) (kk : Wx G E R cc nL own Ts ret nm mc ms Post cells slots pc' lv (.int (zI z) :: st) ws) : Wx G E R cc nL own Ts ret nm mc ms Post cells slots pc lv (.int y :: .int x :: st) ws :=
  by
  subst hp
  exact fun C H locs ls hP hD hS hl => lv_ior C.1 C.2.1 hdg (by rw [hz]; exact (kk C H locs ls hP hD hS hl))
theorem x_ixor (pc' : Nat) (hp : pc + 1 = pc') {x y : Int32} {z : Int} (hdg : decode cc pc = .ok (.ixor, 1)) (hz : x ^^^ y = zI z) (kk : Wx G E R cc nL own Ts ret nm mc ms Post cells slots pc' lv (.int (zI z) :: st) ws) : Wx G E R cc nL own Ts ret nm mc ms Post cells slots pc lv (.int y :: .int x :: st) ws :=
  by
  subst hp
  exact fun C H locs ls hP hD hS hl => lv_ixor C.1 C.2.1 hdg (by rw [hz]; exact (kk C H locs ls hP hD hS hl))
theorem x_ishl (pc' : Nat) (hp : pc + 1 = pc') {x y : Int32} {z : Int} (hdg : decode cc pc = .ok (.ishl, 1)) (hz : x <<< (y &&& 31) = zI z) (kk : Wx G E R cc nL own Ts ret nm mc ms Post cells slots pc' lv (.int (zI z) :: st) ws) : Wx G E R cc nL own Ts ret nm mc ms Post cells slots pc lv (.int y :: .int x :: st) ws :=
  by
  subst hp
  exact fun C H locs ls hP hD hS hl => lv_ishl C.1 C.2.1 hdg (by rw [hz]; exact (kk C H locs ls hP hD hS hl))
theorem x_ishr (pc' : Nat) (hp : pc + 1 = pc') {x y : Int32} {z : Int} (hdg : decode cc pc = .ok (.ishr, 1)) (hz : x >>> (y &&& 31) = zI z) (kk : Wx G E R cc nL own Ts ret nm mc ms Post cells slots pc' lv (.int (zI z) :: st) ws) : Wx G E R cc nL own Ts ret nm mc ms Post cells slots pc lv (.int y :: .int x :: st) ws :=
  by
  subst hp
  exact fun C H locs ls hP hD hS hl => lv_ishr C.1 C.2.1 hdg (by rw [hz]; exact (kk C H locs ls hP hD hS hl))
theorem x_idiv (pc' : Nat) (hp : pc + 1 = pc') {x y : Int32} {z : Int} (hdg : decode cc pc = .ok (.idiv, 1)) (hne : ¬ y = 0) (hz : x / y = zI z) (kk : Wx G E R cc nL own Ts ret nm mc ms Post cells slots pc' lv (.int (zI z) :: st) ws) : Wx G E R cc nL own Ts ret nm mc ms Post cells slots pc lv (.int y :: .int x :: st) ws :=
  by
  subst hp
  exact fun C H locs ls hP hD hS hl => lv_idiv C.1 C.2.1 hdg hne (by rw [hz]; exact (kk C H locs ls hP hD hS hl))
theorem x_irem (pc' : Nat) (hp : pc + 1 = pc') {x y : Int32} {z : Int} (hdg : decode cc pc = .ok (.irem, 1)) (hne : ¬ y = 0) (hz : x - x / y * y = zI z) (kk : Wx G E R cc nL own Ts ret nm mc ms Post cells slots pc' lv (.int (zI z) :: st) ws) : Wx G E R cc nL own Ts ret nm mc ms Post cells slots pc lv (.int y :: .int x :: st) ws :=
  by
  subst hp
  exact fun C H locs ls hP hD hS hl => lv_irem C.1 C.2.1 hdg hne (by rw [hz]; exact (kk C H locs ls hP hD hS hl))
theorem x_ladd (pc' : Nat) (hp : pc + 1 = pc') {a b z : Int} (hdg : decode cc pc = .ok (.ladd, 1)) (hz : a + b = z) (kk : Wx G E R cc nL own Ts ret nm mc ms Post cells slots pc' lv (.long (zL z) :: st) ws) : Wx G E R cc nL own Ts ret nm mc ms Post cells slots pc lv (.long (zL b) :: .long (zL a) :: st) ws :=
  by
  subst hp
  exact fun C H locs ls hP hD hS hl => lv_ladd C.1 C.2.1 hdg (by rw [zL_add, hz]; exact (kk C H locs ls hP hD hS hl))
theorem x_lmul (pc' : Nat) (hp : pc + 1 = pc') {a b z : Int} (hdg : decode cc pc = .ok (.lmul, 1)) (hz : a * b = z) (kk : Wx G E R cc nL own Ts ret nm mc ms Post cells slots pc' lv (.long (zL z) :: st) ws) : Wx G E R cc nL own Ts ret nm mc ms Post cells slots pc lv (.long (zL b) :: .long (zL a) :: st) ws :=
  by
  subst hp
  exact fun C H locs ls hP hD hS hl => lv_lmul C.1 C.2.1 hdg (by rw [zL_mul, hz]; exact (kk C H locs ls hP hD hS hl))
theorem x_land (pc' : Nat) (hp : pc + 1 = pc') {x y z : Int64} (hdg : decode cc pc = .ok (.land, 1)) (hz : x &&& y = z) (kk : Wx G E R cc nL own Ts ret nm mc ms Post cells slots pc' lv (.long z :: st) ws) : Wx G E R cc nL own Ts ret nm mc ms Post cells slots pc lv (.long y :: .long x :: st) ws :=
  by
  subst hp
  exact fun C H locs ls hP hD hS hl => lv_land C.1 C.2.1 hdg (by rw [hz]; exact (kk C H locs ls hP hD hS hl))
theorem x_lor (pc' : Nat) (hp : pc + 1 = pc') {x y z : Int64} (hdg : decode cc pc = .ok (.lor, 1)) (hz : x ||| y = z) (kk : Wx G E R cc nL own Ts ret nm mc ms Post cells slots pc' lv (.long z :: st) ws) : Wx G E R cc nL own Ts ret nm mc ms Post cells slots pc lv (.long y :: .long x :: st) ws :=
  by
  subst hp
  exact fun C H locs ls hP hD hS hl => lv_lor C.1 C.2.1 hdg (by rw [hz]; exact (kk C H locs ls hP hD hS hl))
theorem x_lshr (pc' : Nat) (hp : pc + 1 = pc') {x z : Int64} {y : Int32} (hdg : decode cc pc = .ok (.lshr, 1)) (hz : x >>> (y.toInt64 &&& 63) = z) (kk : Wx G E R cc nL own Ts ret nm mc ms Post cells slots pc' lv (.long z :: st) ws) : Wx G E R cc nL own Ts ret nm mc ms Post cells slots pc lv (.int y :: .long x :: st) ws :=
  by
  subst hp
  exact fun C H locs ls hP hD hS hl => lv_lshr C.1 C.2.1 hdg hz (kk C H locs ls hP hD hS hl)
theorem x_lshl (pc' : Nat) (hp : pc + 1 = pc') {x z : Int64} {y : Int32} (hdg : decode cc pc = .ok (.lshl, 1)) (hz : x <<< (y.toInt64 &&& 63) = z) (kk : Wx G E R cc nL own Ts ret nm mc ms Post cells slots pc' lv (.long z :: st) ws) : Wx G E R cc nL own Ts ret nm mc ms Post cells slots pc lv (.int y :: .long x :: st) ws :=
  by
  subst hp
  exact fun C H locs ls hP hD hS hl => lv_lshl C.1 C.2.1 hdg hz (kk C H locs ls hP hD hS hl)
theorem x_i2l (pc' : Nat) (hp : pc + 1 = pc') {x : Int32} {z : Int64} (hdg : decode cc pc = .ok (.i2l, 1)) (hz : x.toInt64 = z) (kk : Wx G E R cc nL own Ts ret nm mc ms Post cells slots pc' lv (.long z :: st) ws) : Wx G E R cc nL own Ts ret nm mc ms Post cells slots pc lv (.int x :: st) ws :=
  by
  subst hp
  exact fun C H locs ls hP hD hS hl => lv_i2l C.1 C.2.1 hdg hz (kk C H locs ls hP hD hS hl)
theorem x_l2i (pc' : Nat) (hp : pc + 1 = pc') {x : Int64} {z : Int32} (hdg : decode cc pc = .ok (.l2i, 1)) (hz : x.toInt32 = z) (kk : Wx G E R cc nL own Ts ret nm mc ms Post cells slots pc' lv (.int z :: st) ws) : Wx G E R cc nL own Ts ret nm mc ms Post cells slots pc lv (.long x :: st) ws :=
  by
  subst hp
  exact fun C H locs ls hP hD hS hl => lv_l2i C.1 C.2.1 hdg hz (kk C H locs ls hP hD hS hl)
theorem x_ldc2 (pc' : Nat) (hp : pc + 3 = pc') {index : Nat} {v : Int64} (hw : Cond.constantLong own index v ∈ Ts) (hdg : decode cc pc = .ok (.ldc2_w index, 3)) (kk : Wx G E R cc nL own Ts ret nm mc ms Post cells slots pc' lv (.long v :: st) ws) : Wx G E R cc nL own Ts ret nm mc ms Post cells slots pc lv st ws :=
  by
  subst hp
  exact fun C H locs ls hP hD hS hl => lv_ldc2 C.1 C.2.1 C.2.2.2.1 (C.2.2.2.2.1 _ hw) hdg (kk C H locs ls hP hD hS hl)
theorem x_ldc (pc' : Nat) (hp : pc + 2 = pc') {index : Nat} {v : Int32} (hw : Cond.constant own index v ∈ Ts) (hdg : decode cc pc = .ok (.ldc index, 2)) (kk : Wx G E R cc nL own Ts ret nm mc ms Post cells slots pc' lv (.int v :: st) ws) : Wx G E R cc nL own Ts ret nm mc ms Post cells slots pc lv st ws :=
  by
  subst hp
  exact fun C H locs ls hP hD hS hl => lv_ldc C.1 C.2.1 C.2.2.2.1 (C.2.2.2.2.1 _ hw) hdg (kk C H locs ls hP hD hS hl)
theorem x_dup (pc' : Nat) (hp : pc + 1 = pc') {va : Value} (hdg : decode cc pc = .ok (.dup, 1)) (hc : va.category = 1) (kk : Wx G E R cc nL own Ts ret nm mc ms Post cells slots pc' lv (va :: va :: st) ws) : Wx G E R cc nL own Ts ret nm mc ms Post cells slots pc lv (va :: st) ws :=
  by
  subst hp
  exact fun C H locs ls hP hD hS hl => lv_dup C.1 C.2.1 hdg hc (kk C H locs ls hP hD hS hl)
theorem x_pop (pc' : Nat) (hp : pc + 1 = pc') {va : Value} (hdg : decode cc pc = .ok (.pop, 1)) (hc : va.category = 1) (kk : Wx G E R cc nL own Ts ret nm mc ms Post cells slots pc' lv st ws) : Wx G E R cc nL own Ts ret nm mc ms Post cells slots pc lv (va :: st) ws :=
  by
  subst hp
  exact fun C H locs ls hP hD hS hl => lv_pop C.1 C.2.1 hdg hc (kk C H locs ls hP hD hS hl)
theorem x_dup_x1 (pc' : Nat) (hp : pc + 1 = pc') {va vb : Value} (hdg : decode cc pc = .ok (.dup_x1, 1)) (hc : va.category = 1) (hd : vb.category = 1) (kk : Wx G E R cc nL own Ts ret nm mc ms Post cells slots pc' lv (va :: vb :: va :: st) ws) : Wx G E R cc nL own Ts ret nm mc ms Post cells slots pc lv (va :: vb :: st) ws :=
  by
  subst hp
  exact fun C H locs ls hP hD hS hl => lv_dup_x1 C.1 C.2.1 hdg hc hd (kk C H locs ls hP hD hS hl)
theorem x_dup_x2 (pc' : Nat) (hp : pc + 1 = pc') {va vb vc : Value} (hdg : decode cc pc = .ok (.dup_x2, 1)) (hc : va.category = 1) (hd : vb.category = 1) (he : vc.category = 1) (kk : Wx G E R cc nL own Ts ret nm mc ms Post cells slots pc' lv (va :: vb :: vc :: va :: st) ws) : Wx G E R cc nL own Ts ret nm mc ms Post cells slots pc lv (va :: vb :: vc :: st) ws :=
  by
  subst hp
  exact fun C H locs ls hP hD hS hl => lv_dup_x2 C.1 C.2.1 hdg hc hd he (kk C H locs ls hP hD hS hl)
theorem x_dup2 (pc' : Nat) (hp : pc + 1 = pc') {va vb : Value} (hdg : decode cc pc = .ok (.dup2, 1)) (hc : va.category = 1) (hd : vb.category = 1) (kk : Wx G E R cc nL own Ts ret nm mc ms Post cells slots pc' lv (va :: vb :: va :: vb :: st) ws) : Wx G E R cc nL own Ts ret nm mc ms Post cells slots pc lv (va :: vb :: st) ws :=
  by
  subst hp
  exact fun C H locs ls hP hD hS hl => lv_dup2_11 C.1 C.2.1 hdg hc hd (kk C H locs ls hP hD hS hl)
theorem x_goto {off : Int} {tgt : Nat} (hdg : decode cc pc = .ok (.goto off, 3)) (ht : (pc : Int) + off = (tgt : Int)) (kk : Wx G E R cc nL own Ts ret nm mc ms Post cells slots tgt lv st ws) : Wx G E R cc nL own Ts ret nm mc ms Post cells slots pc lv st ws :=
  fun C H locs ls hP hD hS hl => lv_goto C.1 C.2.1 hdg ht (kk C H locs ls hP hD hS hl)
theorem x_icmp_eq (pc' : Nat) (hp : pc + 3 = pc') {a b : Int} {off : Int} {tgt : Nat} (hdg : decode cc pc = .ok (.if_icmp .eq off, 3)) (ht : (pc : Int) + off = (tgt : Int)) (ha : Z32 a) (hb : Z32 b) (kt : a = b → Wx G E R cc nL own Ts ret nm mc ms Post cells slots tgt lv st ws) (kf : a ≠ b → Wx G E R cc nL own Ts ret nm mc ms Post cells slots pc' lv st ws) : Wx G E R cc nL own Ts ret nm mc ms Post cells slots pc lv (.int (zI b) :: .int (zI a) :: st) ws :=
  by
  subst hp
  exact fun C H locs ls hP hD hS hl => lv_icmp_eq C.1 C.2.1 hdg ht (fun c => kt ((zI_eq ha hb).mp c) C H locs ls hP hD hS hl) (fun c => kf (fun h => c ((zI_eq ha hb).mpr h)) C H locs ls hP hD hS hl)
theorem x_if_eq (pc' : Nat) (hp : pc + 3 = pc') {a : Int} {off : Int} {tgt : Nat} (hdg : decode cc pc = .ok (.ifCond .eq off, 3)) (ht : (pc : Int) + off = (tgt : Int)) (ha : Z32 a) (kt : a = 0 → Wx G E R cc nL own Ts ret nm mc ms Post cells slots tgt lv st ws) (kf : a ≠ 0 → Wx G E R cc nL own Ts ret nm mc ms Post cells slots pc' lv st ws) : Wx G E R cc nL own Ts ret nm mc ms Post cells slots pc lv (.int (zI a) :: st) ws :=
  by
  subst hp
  have hb : Z32 0 := by decide
  exact fun C H locs ls hP hD hS hl => lv_if_eq C.1 C.2.1 hdg ht (fun c => kt ((zI_eq ha hb).mp c) C H locs ls hP hD hS hl) (fun c => kf (fun h => c ((zI_eq ha hb).mpr h)) C H locs ls hP hD hS hl)
theorem x_icmp_ne (pc' : Nat) (hp : pc + 3 = pc') {a b : Int} {off : Int} {tgt : Nat} (hdg : decode cc pc = .ok (.if_icmp .ne off, 3)) (ht : (pc : Int) + off = (tgt : Int)) (ha : Z32 a) (hb : Z32 b) (kt : a ≠ b → Wx G E R cc nL own Ts ret nm mc ms Post cells slots tgt lv st ws) (kf : a = b → Wx G E R cc nL own Ts ret nm mc ms Post cells slots pc' lv st ws) : Wx G E R cc nL own Ts ret nm mc ms Post cells slots pc lv (.int (zI b) :: .int (zI a) :: st) ws :=
  by
  subst hp
  exact fun C H locs ls hP hD hS hl => lv_icmp_ne C.1 C.2.1 hdg ht (fun c => kt (fun h => c ((zI_eq ha hb).mpr h)) C H locs ls hP hD hS hl) (fun c => kf ((zI_eq ha hb).mp c) C H locs ls hP hD hS hl)
theorem x_if_ne (pc' : Nat) (hp : pc + 3 = pc') {a : Int} {off : Int} {tgt : Nat} (hdg : decode cc pc = .ok (.ifCond .ne off, 3)) (ht : (pc : Int) + off = (tgt : Int)) (ha : Z32 a) (kt : a ≠ 0 → Wx G E R cc nL own Ts ret nm mc ms Post cells slots tgt lv st ws) (kf : a = 0 → Wx G E R cc nL own Ts ret nm mc ms Post cells slots pc' lv st ws) : Wx G E R cc nL own Ts ret nm mc ms Post cells slots pc lv (.int (zI a) :: st) ws :=
  by
  subst hp
  have hb : Z32 0 := by decide
  exact fun C H locs ls hP hD hS hl => lv_if_ne C.1 C.2.1 hdg ht (fun c => kt (fun h => c ((zI_eq ha hb).mpr h)) C H locs ls hP hD hS hl) (fun c => kf ((zI_eq ha hb).mp c) C H locs ls hP hD hS hl)
theorem x_icmp_lt (pc' : Nat) (hp : pc + 3 = pc') {a b : Int} {off : Int} {tgt : Nat} (hdg : decode cc pc = .ok (.if_icmp .lt off, 3)) (ht : (pc : Int) + off = (tgt : Int)) (ha : Z32 a) (hb : Z32 b) (kt : a < b → Wx G E R cc nL own Ts ret nm mc ms Post cells slots tgt lv st ws) (kf : b ≤ a → Wx G E R cc nL own Ts ret nm mc ms Post cells slots pc' lv st ws) : Wx G E R cc nL own Ts ret nm mc ms Post cells slots pc lv (.int (zI b) :: .int (zI a) :: st) ws :=
  by
  subst hp
  exact fun C H locs ls hP hD hS hl => lv_icmp_lt C.1 C.2.1 hdg ht (fun c => kt ((zI_lt ha hb).mp c) C H locs ls hP hD hS hl) (fun c => kf (Int.not_lt.mp (fun h => c ((zI_lt ha hb).mpr h))) C H locs ls hP hD hS hl)
theorem x_if_lt (pc' : Nat) (hp : pc + 3 = pc') {a : Int} {off : Int} {tgt : Nat} (hdg : decode cc pc = .ok (.ifCond .lt off, 3)) (ht : (pc : Int) + off = (tgt : Int)) (ha : Z32 a) (kt : a < 0 → Wx G E R cc nL own Ts ret nm mc ms Post cells slots tgt lv st ws) (kf : 0 ≤ a → Wx G E R cc nL own Ts ret nm mc ms Post cells slots pc' lv st ws) : Wx G E R cc nL own Ts ret nm mc ms Post cells slots pc lv (.int (zI a) :: st) ws :=
  by
  subst hp
  have hb : Z32 0 := by decide
  exact fun C H locs ls hP hD hS hl => lv_if_lt C.1 C.2.1 hdg ht (fun c => kt ((zI_lt ha hb).mp c) C H locs ls hP hD hS hl) (fun c => kf (Int.not_lt.mp (fun h => c ((zI_lt ha hb).mpr h))) C H locs ls hP hD hS hl)
theorem x_icmp_ge (pc' : Nat) (hp : pc + 3 = pc') {a b : Int} {off : Int} {tgt : Nat} (hdg : decode cc pc = .ok (.if_icmp .ge off, 3)) (ht : (pc : Int) + off = (tgt : Int)) (ha : Z32 a) (hb : Z32 b) (kt : b ≤ a → Wx G E R cc nL own Ts ret nm mc ms Post cells slots tgt lv st ws) (kf : a < b → Wx G E R cc nL own Ts ret nm mc ms Post cells slots pc' lv st ws) : Wx G E R cc nL own Ts ret nm mc ms Post cells slots pc lv (.int (zI b) :: .int (zI a) :: st) ws :=
  by
  subst hp
  exact fun C H locs ls hP hD hS hl => lv_icmp_ge C.1 C.2.1 hdg ht (fun c => kt ((zI_le hb ha).mp c) C H locs ls hP hD hS hl) (fun c => kf (Int.not_le.mp (fun h => c ((zI_le hb ha).mpr h))) C H locs ls hP hD hS hl)
theorem x_if_ge (pc' : Nat) (hp : pc + 3 = pc') {a : Int} {off : Int} {tgt : Nat} (hdg : decode cc pc = .ok (.ifCond .ge off, 3)) (ht : (pc : Int) + off = (tgt : Int)) (ha : Z32 a) (kt : 0 ≤ a → Wx G E R cc nL own Ts ret nm mc ms Post cells slots tgt lv st ws) (kf : a < 0 → Wx G E R cc nL own Ts ret nm mc ms Post cells slots pc' lv st ws) : Wx G E R cc nL own Ts ret nm mc ms Post cells slots pc lv (.int (zI a) :: st) ws :=
  by
  subst hp
  have hb : Z32 0 := by decide
  exact fun C H locs ls hP hD hS hl => lv_if_ge C.1 C.2.1 hdg ht (fun c => kt ((zI_le hb ha).mp c) C H locs ls hP hD hS hl) (fun c => kf (Int.not_le.mp (fun h => c ((zI_le hb ha).mpr h))) C H locs ls hP hD hS hl)
theorem x_icmp_gt (pc' : Nat) (hp : pc + 3 = pc') {a b : Int} {off : Int} {tgt : Nat} (hdg : decode cc pc = .ok (.if_icmp .gt off, 3)) (ht : (pc : Int) + off = (tgt : Int)) (ha : Z32 a) (hb : Z32 b) (kt : b < a → Wx G E R cc nL own Ts ret nm mc ms Post cells slots tgt lv st ws) (kf : a ≤ b → Wx G E R cc nL own Ts ret nm mc ms Post cells slots pc' lv st ws) : Wx G E R cc nL own Ts ret nm mc ms Post cells slots pc lv (.int (zI b) :: .int (zI a) :: st) ws :=
  by
  subst hp
  exact fun C H locs ls hP hD hS hl => lv_icmp_gt C.1 C.2.1 hdg ht (fun c => kt ((zI_lt hb ha).mp c) C H locs ls hP hD hS hl) (fun c => kf (Int.not_lt.mp (fun h => c ((zI_lt hb ha).mpr h))) C H locs ls hP hD hS hl)
theorem x_if_gt (pc' : Nat) (hp : pc + 3 = pc') {a : Int} {off : Int} {tgt : Nat} (hdg : decode cc pc = .ok (.ifCond .gt off, 3)) (ht : (pc : Int) + off = (tgt : Int)) (ha : Z32 a) (kt : 0 < a → Wx G E R cc nL own Ts ret nm mc ms Post cells slots tgt lv st ws) (kf : a ≤ 0 → Wx G E R cc nL own Ts ret nm mc ms Post cells slots pc' lv st ws) : Wx G E R cc nL own Ts ret nm mc ms Post cells slots pc lv (.int (zI a) :: st) ws :=
  by
  subst hp
  have hb : Z32 0 := by decide
  exact fun C H locs ls hP hD hS hl => lv_if_gt C.1 C.2.1 hdg ht (fun c => kt ((zI_lt hb ha).mp c) C H locs ls hP hD hS hl) (fun c => kf (Int.not_lt.mp (fun h => c ((zI_lt hb ha).mpr h))) C H locs ls hP hD hS hl)
theorem x_icmp_le (pc' : Nat) (hp : pc + 3 = pc') {a b : Int} {off : Int} {tgt : Nat} (hdg : decode cc pc = .ok (.if_icmp .le off, 3)) (ht : (pc : Int) + off = (tgt : Int)) (ha : Z32 a) (hb : Z32 b) (kt : a ≤ b → Wx G E R cc nL own Ts ret nm mc ms Post cells slots tgt lv st ws) (kf : b < a → Wx G E R cc nL own Ts ret nm mc ms Post cells slots pc' lv st ws) : Wx G E R cc nL own Ts ret nm mc ms Post cells slots pc lv (.int (zI b) :: .int (zI a) :: st) ws :=
  by
  subst hp
  exact fun C H locs ls hP hD hS hl => lv_icmp_le C.1 C.2.1 hdg ht (fun c => kt ((zI_le ha hb).mp c) C H locs ls hP hD hS hl) (fun c => kf (Int.not_le.mp (fun h => c ((zI_le ha hb).mpr h))) C H locs ls hP hD hS hl)
theorem x_if_le (pc' : Nat) (hp : pc + 3 = pc') {a : Int} {off : Int} {tgt : Nat} (hdg : decode cc pc = .ok (.ifCond .le off, 3)) (ht : (pc : Int) + off = (tgt : Int)) (ha : Z32 a) (kt : a ≤ 0 → Wx G E R cc nL own Ts ret nm mc ms Post cells slots tgt lv st ws) (kf : 0 < a → Wx G E R cc nL own Ts ret nm mc ms Post cells slots pc' lv st ws) : Wx G E R cc nL own Ts ret nm mc ms Post cells slots pc lv (.int (zI a) :: st) ws :=
  by
  subst hp
  have hb : Z32 0 := by decide
  exact fun C H locs ls hP hD hS hl => lv_if_le C.1 C.2.1 hdg ht (fun c => kt ((zI_le ha hb).mp c) C H locs ls hP hD hS hl) (fun c => kf (Int.not_le.mp (fun h => c ((zI_le ha hb).mpr h))) C H locs ls hP hD hS hl)
theorem x_bif_eq (pc' : Nat) (hp : pc + 3 = pc') {b : Bool} {off : Int} {tgt : Nat} (hdg : decode cc pc = .ok (.ifCond .eq off, 3)) (ht : (pc : Int) + off = (tgt : Int)) (kt : b = false → Wx G E R cc nL own Ts ret nm mc ms Post cells slots tgt lv st ws) (kf : b = true → Wx G E R cc nL own Ts ret nm mc ms Post cells slots pc' lv st ws) : Wx G E R cc nL own Ts ret nm mc ms Post cells slots pc lv (.int (zB b) :: st) ws :=
  by
  subst hp
  exact fun C H locs ls hP hD hS hl => lv_if_eq C.1 C.2.1 hdg ht (fun c => kt (by cases b with | false => rfl | true => exact absurd c (by decide)) C H locs ls hP hD hS hl) (fun c => kf (by cases b with | true => rfl | false => exact absurd rfl c) C H locs ls hP hD hS hl)
theorem x_bif_ne (pc' : Nat) (hp : pc + 3 = pc') {b : Bool} {off : Int} {tgt : Nat} (hdg : decode cc pc = .ok (.ifCond .ne off, 3)) (ht : (pc : Int) + off = (tgt : Int)) (kt : b = true → Wx G E R cc nL own Ts ret nm mc ms Post cells slots tgt lv st ws) (kf : b = false → Wx G E R cc nL own Ts ret nm mc ms Post cells slots pc' lv st ws) : Wx G E R cc nL own Ts ret nm mc ms Post cells slots pc lv (.int (zB b) :: st) ws :=
  by
  subst hp
  exact fun C H locs ls hP hD hS hl => lv_if_ne C.1 C.2.1 hdg ht (fun c => kt (by cases b with | true => rfl | false => exact absurd rfl c) C H locs ls hP hD hS hl) (fun c => kf (by cases b with | false => rfl | true => exact absurd c (by decide)) C H locs ls hP hD hS hl)
theorem x_int {x y : Int32} (h : x = y) (kk : Wx G E R cc nL own Ts ret nm mc ms Post cells slots pc lv (.int y :: st) ws) : Wx G E R cc nL own Ts ret nm mc ms Post cells slots pc lv (.int x :: st) ws :=
  h ▸ kk
theorem x_long {x y : Int64} (h : x = y) (kk : Wx G E R cc nL own Ts ret nm mc ms Post cells slots pc lv (.long y :: st) ws) : Wx G E R cc nL own Ts ret nm mc ms Post cells slots pc lv (.long x :: st) ws :=
  h ▸ kk
theorem x_ws (h : ws = ws') (kk : Wx G E R cc nL own Ts ret nm mc ms Post cells slots pc lv st ws') : Wx G E R cc nL own Ts ret nm mc ms Post cells slots pc lv st ws :=
  h ▸ kk
theorem x_lve (h : lv = lv') (kk : Wx G E R cc nL own Ts ret nm mc ms Post cells slots pc lv' st ws) : Wx G E R cc nL own Ts ret nm mc ms Post cells slots pc lv st ws :=
  h ▸ kk
theorem x_ste {st' : List Value} (h : st = st') (kk : Wx G E R cc nL own Ts ret nm mc ms Post cells slots pc lv st' ws) : Wx G E R cc nL own Ts ret nm mc ms Post cells slots pc lv st ws :=
  h ▸ kk
theorem x_lcmp (pc' : Nat) (hp : pc + 1 = pc') {x y : Int64} {z : Int} (hdg : decode cc pc = .ok (.lcmp, 1)) (hz : lg_cmp x y = zI z) (kk : Wx G E R cc nL own Ts ret nm mc ms Post cells slots pc' lv (.int (zI z) :: st) ws) : Wx G E R cc nL own Ts ret nm mc ms Post cells slots pc lv (.long y :: .long x :: st) ws :=
  by
  subst hp
  exact fun C H locs ls hP hD hS hl => W.lcmp C.1 C.2.1 hdg (by rw [hz]; exact (kk C H locs ls hP hD hS hl))
theorem x_tsw {dflt lo hi : Int} {offs : Array Int} {len : Nat} {z off : Int} {tgt : Nat} (k : Int) (hz : z = k) (hk : lo ≤ k ∧ k ≤ hi) (h32 : Z32 k) (ho : offs[(k - lo).toNat]? = some off) (ht : (pc : Int) + off = (tgt : Int)) (hdg : decode cc pc = .ok (.tableswitch dflt lo hi offs, len)) (kk : Wx G E R cc nL own Ts ret nm mc ms Post cells slots tgt lv st ws) : Wx G E R cc nL own Ts ret nm mc ms Post cells slots pc lv (.int (zI z) :: st) ws :=
  by
  subst hz
  exact fun C H locs ls hP hD hS hl => lv_tableIn C.1 C.2.1 hdg (by rw [zI_toInt h32]; omega) (by rw [zI_toInt h32]; omega) (by rw [zI_toInt h32]; exact ho) ht (kk C H locs ls hP hD hS hl)
theorem x_tsd {dflt lo hi : Int} {offs : Array Int} {len : Nat} {z : Int} {tgt : Nat} (hz : z < lo ∨ hi < z) (h32 : Z32 z) (ht : (pc : Int) + dflt = (tgt : Int)) (hdg : decode cc pc = .ok (.tableswitch dflt lo hi offs, len)) (kk : Wx G E R cc nL own Ts ret nm mc ms Post cells slots tgt lv st ws) : Wx G E R cc nL own Ts ret nm mc ms Post cells slots pc lv (.int (zI z) :: st) ws :=
  fun C H locs ls hP hD hS hl => lv_tableOut C.1 C.2.1 hdg (by rw [zI_toInt h32]; exact hz) ht (kk C H locs ls hP hD hS hl)
theorem x_lv (ks : List Nat) (h : lv_pick lv ks = lv') (kk : Wx G E R cc nL own Ts ret nm mc ms Post cells slots pc lv' st ws) : Wx G E R cc nL own Ts ret nm mc ms Post cells slots pc lv st ws :=
  fun C H locs ls hP hD hS hl => kk C H locs ls hP hD hS (lv_sub hl ks h)
theorem x_pm (ks : List Nat) (hn : va_nd ks = true) (h1 : ks.filterMap (fun i => ws[i]?) = ws') (h2 : ks.map (fun i => ws[i]?) = ws'.map some) (kk : Wx G E R cc nL own Ts ret nm mc ms Post cells slots pc lv st ws') : Wx G E R cc nL own Ts ret nm mc ms Post cells slots pc lv st ws :=
  fun C H locs ls hP hD hS hl => kk C H locs ls (hP.sub ks h1) (hD.sub ks hn h2) hS hl
theorem x_arr {a n : Nat} {f g : Nat → Int} (q0 : Nat) (he : ws[q0]? = some (a, aI G n f)) (hfg : ∀ j, j < n → f j = g j) (hws : ws.set q0 (a, aI G n g) = ws') (kk : Wx G E R cc nL own Ts ret nm mc ms Post cells slots pc lv st ws') : Wx G E R cc nL own Ts ret nm mc ms Post cells slots pc lv st ws :=
  fun C H locs ls hP hD hS hl => kk C H locs ls (hws ▸ x_arrP hP he (x_arrE hfg)) (hws ▸ x_arrD hD he) hS hl
theorem x_arrZ {a n : Nat} {f g : Nat → Bool} (q0 : Nat) (he : ws[q0]? = some (a, aZ G n f)) (hfg : ∀ j, j < n → f j = g j) (hws : ws.set q0 (a, aZ G n g) = ws') (kk : Wx G E R cc nL own Ts ret nm mc ms Post cells slots pc lv st ws') : Wx G E R cc nL own Ts ret nm mc ms Post cells slots pc lv st ws :=
  fun C H locs ls hP hD hS hl => kk C H locs ls (hws ▸ x_arrP hP he (x_arrEZ hfg)) (hws ▸ x_arrD hD he) hS hl
theorem x_wd {c2 s2 : Nat} (h1 : cells ≤ c2) (h2 : slots ≤ s2) (kk : Wx G E R cc nL own Ts ret nm mc ms Post c2 s2 pc lv st ws) : Wx G E R cc nL own Ts ret nm mc ms Post cells slots pc lv st ws :=
  fun C H locs ls hP hD hS hl => W.widen h1 h2 (kk C H locs ls hP hD hS hl)
theorem x_get (pc' : Nat) (hp : pc + 3 = pc') {C0 : String} {T : u_T} {N ci index a : Nat} {fs : List Value} {v : Value} (q0 k : Nat) (he : ws[q0]? = some (a, .inr (ci, fs))) (hc : vwCl[ci]? = some (C0, T, N)) (hk : k < N) (hin : ∀ w ∈ u_ws C0 T N, w ∈ Ts) (hlink : Cond.fieldLink own index (T k).1 (T k).2.1 (T k).2.2.1 ∈ Ts) (hv : fs[k]? = some v) (hdg : decode cc pc = .ok (.getfield index, 3)) (kk : Wx G E R cc nL own Ts ret nm mc ms Post cells slots pc' lv (v :: st) ws) : Wx G E R cc nL own Ts ret nm mc ms Post cells slots pc lv (.ref a :: st) ws :=
  by
  subst hp
  exact fun C H locs ls hP hD hS hl => va_get C.1 C.2.1 C.2.2.2.2.1 hin C.2.2.2.1 C.2.2.2.2.2.2.1.1 hP q0 he hc k hk (C.2.2.2.2.1 _ hlink) (fun _ h9 => h9) hv hdg (kk C H locs ls hP hD hS hl)
theorem x_put (pc' : Nat) (hp : pc + 3 = pc') {C0 : String} {T : u_T} {N ci index a : Nat} {fs : List Value} {v : Value} {ty : FieldType} (q0 k : Nat) (he : ws[q0]? = some (a, .inr (ci, fs))) (hc : vwCl[ci]? = some (C0, T, N)) (hk : k < N) (hin : ∀ w ∈ u_ws C0 T N, w ∈ Ts) (hlink : Cond.fieldLink own index (T k).1 (T k).2.1 (T k).2.2.1 ∈ Ts) {ty0 : Nat → FieldType} (hty : ∀ k, k < N → parseFieldDescriptor (T k).2.2.1 = some (ty0 k)) (hnm : ∀ a, a < N → ∀ b, b < N → a ≠ b → (T a).2.1 ≠ (T b).2.1) (hfin : (T k).2.2.2 = false) (hd : parseFieldDescriptor (T k).2.2.1 = some ty) (hn : narrow ty v = v) (hfit : fits ty v = true) (hl0 : k < fs.length) (hws : ws.set q0 (a, .inr (ci, fs.set k v)) = ws') (hdg : decode cc pc = .ok (.putfield index, 3)) (kk : Wx G E R cc nL own Ts ret nm mc ms Post cells slots pc' lv st ws') : Wx G E R cc nL own Ts ret nm mc ms Post cells slots pc lv (v :: .ref a :: st) ws :=
  by
  subst hp
  exact fun C H locs ls hP hD hS hl => va_put C.1 C.2.1 C.2.2.2.2.1 hin ty0 hty hnm C.2.2.2.1 C.2.2.2.2.2.2.1.1 hP hD hS q0 he hc k hk (C.2.2.2.2.1 _ hlink) (fun _ h9 => h9) hfin hd hn hfit hl0 hdg (fun H1 locs1 hP1 hD1 hS1 => kk C H1 locs1 ls (hws ▸ hP1) (hws ▸ hD1) hS1 hl)
theorem x_putF (pc' : Nat) (hp : pc + 3 = pc') {C0 : String} {T : u_T} {N ci index a : Nat} {fs : List Value} {v : Value} {ty : FieldType} (q0 k : Nat) (he : ws[q0]? = some (a, .inr (ci, fs))) (hc : vwCl[ci]? = some (C0, T, N)) (hk : k < N) (hin : ∀ w ∈ u_ws C0 T N, w ∈ Ts) (hlink : Cond.fieldLink own index (T k).1 (T k).2.1 (T k).2.2.1 ∈ Ts) {ty0 : Nat → FieldType} (hty : ∀ k, k < N → parseFieldDescriptor (T k).2.2.1 = some (ty0 k)) (hnm : ∀ a, a < N → ∀ b, b < N → a ≠ b → (T a).2.1 ≠ (T b).2.1) (hfin : (T k).2.2.2 = true) (hin2 : nm = "<init>") (hdecl : (T k).1 = own) (hd : parseFieldDescriptor (T k).2.2.1 = some ty) (hn : narrow ty v = v) (hfit : fits ty v = true) (hl0 : k < fs.length) (hws : ws.set q0 (a, .inr (ci, fs.set k v)) = ws') (hdg : decode cc pc = .ok (.putfield index, 3)) (kk : Wx G E R cc nL own Ts ret nm mc ms Post cells slots pc' lv st ws') : Wx G E R cc nL own Ts ret nm mc ms Post cells slots pc lv (v :: .ref a :: st) ws :=
  by
  subst hp
  exact fun C H locs ls hP hD hS hl => va_putF C.1 C.2.1 C.2.2.2.2.1 hin ty0 hty hnm C.2.2.2.1 C.2.2.2.2.2.2.1.1 hP hD hS q0 he hc k hk (C.2.2.2.2.1 _ hlink) (fun _ h9 => h9) hfin (C.2.2.2.2.2.2.2.2.2.trans hin2) hdecl hd hn hfit hl0 hdg (fun H1 locs1 hP1 hD1 hS1 => kk C H1 locs1 ls (hws ▸ hP1) (hws ▸ hD1) hS1 hl)
theorem x_iald (pc' : Nat) (hp : pc + 1 = pc') {a n : Nat} {f : Nat → Int} {i v : Int} (q0 k : Nat) (he : ws[q0]? = some (a, aI G n f)) (hk : i = (k : Int) ∧ k < n) (hn : n < 2147483648) (hv : f k = v) (hdg : decode cc pc = .ok (.iaload, 1)) (kk : Wx G E R cc nL own Ts ret nm mc ms Post cells slots pc' lv (.int (zI v) :: st) ws) : Wx G E R cc nL own Ts ret nm mc ms Post cells slots pc lv (.int (zI i) :: .ref a :: st) ws :=
  by
  subst hp
  obtain ⟨rfl, hk⟩ := hk
  subst hv
  exact fun C H locs ls hP hD hS hl => va_iald C.1 C.2.1 C.2.2.2.2.2.2.1.1 hP q0 0 he rfl (zI_in hk hn) hdg (by rw [zI_clamp (Nat.lt_trans hk hn)]; exact (kk C H locs ls hP hD hS hl))
theorem x_zald (pc' : Nat) (hp : pc + 1 = pc') {a n : Nat} {f : Nat → Bool} {i : Int} {v : Bool} (q0 k : Nat) (he : ws[q0]? = some (a, aZ G n f)) (hk : i = (k : Int) ∧ k < n) (hn : n < 2147483648) (hv : f k = v) (hdg : decode cc pc = .ok (.baload, 1)) (kk : Wx G E R cc nL own Ts ret nm mc ms Post cells slots pc' lv (.int (zB v) :: st) ws) : Wx G E R cc nL own Ts ret nm mc ms Post cells slots pc lv (.int (zI i) :: .ref a :: st) ws :=
  by
  subst hp
  obtain ⟨rfl, hk⟩ := hk
  subst hv
  exact fun C H locs ls hP hD hS hl => va_zald C.1 C.2.1 C.2.2.2.2.2.2.1.1 hP q0 1 he rfl (zI_in hk hn) hdg (by rw [zI_clamp (Nat.lt_trans hk hn)]; exact (kk C H locs ls hP hD hS hl))
theorem x_iast (pc' : Nat) (hp : pc + 1 = pc') {a n : Nat} {f : Nat → Int} {i v : Int} (q0 k : Nat) (he : ws[q0]? = some (a, aI G n f)) (hk : i = (k : Int) ∧ k < n) (hn : n < 2147483648) (hws : ws.set q0 (a, aI G n (zup f k v)) = ws') (hdg : decode cc pc = .ok (.iastore, 1)) (kk : Wx G E R cc nL own Ts ret nm mc ms Post cells slots pc' lv st ws') : Wx G E R cc nL own Ts ret nm mc ms Post cells slots pc lv (.int (zI v) :: .int (zI i) :: .ref a :: st) ws :=
  by
  subst hp
  obtain ⟨rfl, hk⟩ := hk
  exact fun C H locs ls hP hD hS hl => va_iast C.1 C.2.1 C.2.2.2.2.2.2.1.1 hP hD hS q0 0 he rfl (zI_in hk hn) hdg (fun H1 locs1 hP1 hD1 hS1 => by
    rw [zI_clamp (Nat.lt_trans hk hn), zup_upd] at hP1 hD1
    exact kk C H1 locs1 ls (hws ▸ hP1) (hws ▸ hD1) hS1 hl)
theorem x_zast (pc' : Nat) (hp : pc + 1 = pc') {a n : Nat} {f : Nat → Bool} {i : Int} {v : Bool} (q0 k : Nat) (he : ws[q0]? = some (a, aZ G n f)) (hk : i = (k : Int) ∧ k < n) (hn : n < 2147483648) (hws : ws.set q0 (a, aZ G n (zup f k v)) = ws') (hdg : decode cc pc = .ok (.bastore, 1)) (kk : Wx G E R cc nL own Ts ret nm mc ms Post cells slots pc' lv st ws') : Wx G E R cc nL own Ts ret nm mc ms Post cells slots pc lv (.int (zB v) :: .int (zI i) :: .ref a :: st) ws :=
  by
  subst hp
  obtain ⟨rfl, hk⟩ := hk
  have hb : vp_nar .boolean (zB v) = zB v := by cases v <;> decide
  exact fun C H locs ls hP hD hS hl => va_zast C.1 C.2.1 C.2.2.2.2.2.2.1.1 hP hD hS q0 1 he rfl (zI_in hk hn) hdg (fun H1 locs1 hP1 hD1 hS1 => by
    rw [zI_clamp (Nat.lt_trans hk hn), hb, zup_updB] at hP1 hD1
    exact kk C H1 locs1 ls (hws ▸ hP1) (hws ▸ hD1) hS1 hl)
theorem x_aaldO (pc' : Nat) (hp : pc + 1 = pc') {a n b : Nat} {f : Nat → Option Nat} {i : Int} (q0 k : Nat) (he : ws[q0]? = some (a, aO G n f)) (hk : i = (k : Int) ∧ k < n) (hn : n < 2147483648) (hv : f k = some b) (hdg : decode cc pc = .ok (.aaload, 1)) (kk : Wx G E R cc nL own Ts ret nm mc ms Post cells slots pc' lv (.ref b :: st) ws) : Wx G E R cc nL own Ts ret nm mc ms Post cells slots pc lv (.int (zI i) :: .ref a :: st) ws :=
  by
  subst hp
  obtain ⟨rfl, hk⟩ := hk
  exact fun C H locs ls hP hD hS hl => va_aldq C.1 C.2.1 C.2.2.2.2.2.2.1.1 hP q0 2 he rfl (zI_in hk hn) hdg (by rw [zI_clamp (Nat.lt_trans hk hn), hv]; exact (kk C H locs ls hP hD hS hl))
theorem x_aastO (pc' : Nat) (hp : pc + 1 = pc') {a n b ci : Nat} {r : vw_C} {vs : List Value} {f : Nat → Option Nat} {i : Int} (q0 qk k : Nat) (he : ws[q0]? = some (a, aO G n f)) (hk : i = (k : Int) ∧ k < n) (hn : n < 2147483648) (hv : ws[qk]? = some (b, .inr (ci, vs))) (hc : vwCl[ci]? = some r) (hr : (gT G)[2]? = some (gO G, .object r.1)) (hws : ws.set q0 (a, aO G n (va_up f k (some b))) = ws') (hdg : decode cc pc = .ok (.aastore, 1)) (kk : Wx G E R cc nL own Ts ret nm mc ms Post cells slots pc' lv st ws') : Wx G E R cc nL own Ts ret nm mc ms Post cells slots pc lv (.ref b :: .int (zI i) :: .ref a :: st) ws :=
  by
  subst hp
  obtain ⟨rfl, hk⟩ := hk
  exact fun C H locs ls hP hD hS hl => va_astq C.1 C.2.1 C.2.2.2.2.2.2.1.1 hP hD hS q0 2 qk ci he hr hv hc (zI_in hk hn) hdg (fun H1 locs1 hP1 hD1 hS1 => by
    rw [zI_clamp (Nat.lt_trans hk hn)] at hP1 hD1
    exact kk C H1 locs1 ls (hws ▸ hP1) (hws ▸ hD1) hS1 hl)
theorem x_aaldN (pc' : Nat) (hp : pc + 1 = pc') {a n b : Nat} {f : Nat → Option Nat} {i : Int} (q0 k : Nat) (he : ws[q0]? = some (a, aN G n f)) (hk : i = (k : Int) ∧ k < n) (hn : n < 2147483648) (hv : f k = some b) (hdg : decode cc pc = .ok (.aaload, 1)) (kk : Wx G E R cc nL own Ts ret nm mc ms Post cells slots pc' lv (.ref b :: st) ws) : Wx G E R cc nL own Ts ret nm mc ms Post cells slots pc lv (.int (zI i) :: .ref a :: st) ws :=
  by
  subst hp
  obtain ⟨rfl, hk⟩ := hk
  exact fun C H locs ls hP hD hS hl => va_aldq C.1 C.2.1 C.2.2.2.2.2.2.1.1 hP q0 3 he rfl (zI_in hk hn) hdg (by rw [zI_clamp (Nat.lt_trans hk hn), hv]; exact (kk C H locs ls hP hD hS hl))
theorem x_aastN (pc' : Nat) (hp : pc + 1 = pc') {a n b ci : Nat} {r : vw_C} {vs : List Value} {f : Nat → Option Nat} {i : Int} (q0 qk k : Nat) (he : ws[q0]? = some (a, aN G n f)) (hk : i = (k : Int) ∧ k < n) (hn : n < 2147483648) (hv : ws[qk]? = some (b, .inr (ci, vs))) (hc : vwCl[ci]? = some r) (hr : (gT G)[3]? = some (gN G, .object r.1)) (hws : ws.set q0 (a, aN G n (va_up f k (some b))) = ws') (hdg : decode cc pc = .ok (.aastore, 1)) (kk : Wx G E R cc nL own Ts ret nm mc ms Post cells slots pc' lv st ws') : Wx G E R cc nL own Ts ret nm mc ms Post cells slots pc lv (.ref b :: .int (zI i) :: .ref a :: st) ws :=
  by
  subst hp
  obtain ⟨rfl, hk⟩ := hk
  exact fun C H locs ls hP hD hS hl => va_astq C.1 C.2.1 C.2.2.2.2.2.2.1.1 hP hD hS q0 3 qk ci he hr hv hc (zI_in hk hn) hdg (fun H1 locs1 hP1 hD1 hS1 => by
    rw [zI_clamp (Nat.lt_trans hk hn)] at hP1 hD1
    exact kk C H1 locs1 ls (hws ▸ hP1) (hws ▸ hD1) hS1 hl)
theorem x_alenI (pc' : Nat) (hp : pc + 1 = pc') {a n : Nat} {f : Nat → Int} (q0 : Nat) (he : ws[q0]? = some (a, aI G n f)) (hdg : decode cc pc = .ok (.arraylength, 1)) (kk : Wx G E R cc nL own Ts ret nm mc ms Post cells slots pc' lv (.int (zI (n : Int)) :: st) ws) : Wx G E R cc nL own Ts ret nm mc ms Post cells slots pc lv (.ref a :: st) ws :=
  by
  subst hp
  exact fun C H locs ls hP hD hS hl => va_alen C.1 C.2.1 C.2.2.2.2.2.2.1.1 hP q0 0 he rfl (show Int32.ofNat n = zI (n : Int) from (zI_nat n).symm) hdg (kk C H locs ls hP hD hS hl)
theorem x_copyi (pc' : Nat) (hp : pc + 3 = pc') {index a a0 n0 n1 : Nat} {f g : Nat → Int} {sp dp n : Int} (q0 q1 sn dn k : Nat) (he0 : ws[q0]? = some (a0, aI G n0 f)) (he1 : ws[q1]? = some (a, aI G n1 g)) (h1 : sp = (sn : Int) ∧ dp = (dn : Int) ∧ n = (k : Int)) (h4 : sn + k ≤ n0) (h5 : dn + k ≤ n1) (hn0 : n0 < 2147483648) (hn1 : n1 < 2147483648) (hlink : Cond.methodLink own index arraycopyName ∈ Ts) (hnat : Cond.native arraycopyName ∈ Ts) (hstat : Cond.static arraycopyName ∈ Ts) (hini : Cond.initialized "java/lang/System" ∈ Ts) (hframes : 1 ≤ R.frames) (hlocals : (st.map fun v => v.category).sum + (nativeFrameWords "java/lang/System" "arraycopy" 5 + 11) ≤ R.locals) (hws : ws.set q1 (a, aI G n1 (zcp f g sn dn k)) = ws') (hdg : decode cc pc = .ok (.invokestatic index, 3)) (kk : Wx G E R cc nL own Ts ret nm mc ms Post cells slots pc' lv st ws') : Wx G E R cc nL own Ts ret nm mc ms Post cells slots pc lv (.int (zI n) :: .int (zI dp) :: .ref a :: .int (zI sp) :: .ref a0 :: st) ws :=
  by
  subst hp
  obtain ⟨rfl, rfl, rfl⟩ := h1
  have e1 : (zI (sn : Int)).toNatClampNeg = sn := zI_clamp (by omega)
  have e2 : (zI (dn : Int)).toNatClampNeg = dn := zI_clamp (by omega)
  have e3 : (zI (k : Int)).toNatClampNeg = k := zI_clamp (by omega)
  have p1 : ¬ zI (sn : Int) < 0 := by rw [zI_nat]; exact nI_pos (by omega)
  have p2 : ¬ zI (dn : Int) < 0 := by rw [zI_nat]; exact nI_pos (by omega)
  have p3 : ¬ zI (k : Int) < 0 := by rw [zI_nat]; exact nI_pos (by omega)
  exact fun C H locs ls hP hD hS hl => va_copyi C.1 C.2.1 (C.2.2.1.trans hl.1.symm) C.2.2.2.1 (C.2.2.2.2.1 _ hlink) (C.2.2.2.2.1 _ hnat) (C.2.2.2.2.1 _ hstat) (C.2.2.2.2.1 _ hini) C.2.2.2.2.2.2.1.1 hP hD hS q0 q1 0 0 he0 he1 rfl rfl rfl p1 p2 p3 (by rw [e1, e3]; exact h4) (by rw [e2, e3]; exact h5) (fun _ _ => rfl) hframes hlocals hdg (fun H1 locs1 hP1 hD1 hS1 => by
    rw [e1, e2, e3, zcp_cpy] at hP1 hD1
    exact kk C H1 locs1 ls (hws ▸ hP1) (hws ▸ hD1) hS1 hl)
theorem x_mmax (pc' : Nat) (hp : pc + 3 = pc') {index : Nat} {a b : Int} (ha : Z32 a) (hb : Z32 b) (hlink : Cond.methodLink own index Lib.Math.max.name ∈ Ts) (hstat : Cond.static Lib.Math.max.name ∈ Ts) (hini : Cond.initialized "java/lang/Math" ∈ Ts) (hcode : Cond.code Lib.Math.max.name Lib.Math.max.code 2 (some .int) ∈ Ts) (hframes : 1 ≤ R.frames) (hlocals : (st.map fun v => v.category).sum + 13 ≤ R.locals) (hc : cells ≤ R.cells) (hs : slots ≤ R.slots) (hdg : decode cc pc = .ok (.invokestatic index, 3)) (kk : Wx G E R cc nL own Ts ret nm mc ms Post cells slots pc' lv (.int (zI (max a b)) :: st) ws) : Wx G E R cc nL own Ts ret nm mc ms Post cells slots pc lv (.int (zI b) :: .int (zI a) :: st) ws :=
  by
  subst hp
  exact fun C H locs ls hP hD hS hl => va_mmax C.1 C.2.1 (C.2.2.1.trans hl.1.symm) C.2.2.2.1 (C.2.2.2.2.1 _ hlink) (C.2.2.2.2.1 _ hstat) (C.2.2.2.2.1 _ hini) (C.2.2.2.2.1 _ hcode) hframes hlocals hc hs hdg (by
    have e : (if zI a < zI b then zI b else zI a) = zI (max a b) := by
      by_cases h : a < b
      · rw [if_pos ((zI_lt ha hb).mpr h), Int.max_eq_right (by omega)]
      · rw [if_neg (fun c => h ((zI_lt ha hb).mp c)), Int.max_eq_left (by omega)]
    rw [e]
    exact (kk C H locs ls hP hD hS hl))
theorem x_mmin (pc' : Nat) (hp : pc + 3 = pc') {index : Nat} {a b : Int} (ha : Z32 a) (hb : Z32 b) (hlink : Cond.methodLink own index Lib.Math.min.name ∈ Ts) (hstat : Cond.static Lib.Math.min.name ∈ Ts) (hini : Cond.initialized "java/lang/Math" ∈ Ts) (hcode : Cond.code Lib.Math.min.name Lib.Math.min.code 2 (some .int) ∈ Ts) (hframes : 1 ≤ R.frames) (hlocals : (st.map fun v => v.category).sum + 13 ≤ R.locals) (hc : cells ≤ R.cells) (hs : slots ≤ R.slots) (hdg : decode cc pc = .ok (.invokestatic index, 3)) (kk : Wx G E R cc nL own Ts ret nm mc ms Post cells slots pc' lv (.int (zI (min a b)) :: st) ws) : Wx G E R cc nL own Ts ret nm mc ms Post cells slots pc lv (.int (zI b) :: .int (zI a) :: st) ws :=
  by
  subst hp
  exact fun C H locs ls hP hD hS hl => va_mmin C.1 C.2.1 (C.2.2.1.trans hl.1.symm) C.2.2.2.1 (C.2.2.2.2.1 _ hlink) (C.2.2.2.2.1 _ hstat) (C.2.2.2.2.1 _ hini) (C.2.2.2.2.1 _ hcode) hframes hlocals hc hs hdg (by
    have e : (if zI b < zI a then zI b else zI a) = zI (min a b) := by
      by_cases h : b < a
      · rw [if_pos ((zI_lt hb ha).mpr h), Int.min_eq_right (by omega)]
      · rw [if_neg (fun c => h ((zI_lt hb ha).mp c)), Int.min_eq_left (by omega)]
    rw [e]
    exact (kk C H locs ls hP hD hS hl))
theorem x_iret {x : Int32} (hr : ret = some .int) (hq : Post (some (.int x)) ws) (hdg : decode cc pc = .ok (.ireturn, 1)) : Wx G E R cc nL own Ts ret nm mc ms Post mc ms pc lv [.int x] ws :=
  fun C H locs ls hP hD hS hl => W.iret C.1 C.2.1 (C.2.2.2.2.2.2.2.2.1.trans hr) (fun t ht _ => ⟨⟨_, ws, rfl, hq, by rw [ht]; exact hP, hD⟩, hS.F ht⟩) hS.2.2 hdg C.2.2.2.2.2.1
theorem x_zret {b : Bool} (hr : ret = some .boolean) (hq : Post (some (.int (zB b))) ws) (hdg : decode cc pc = .ok (.ireturn, 1)) : Wx G E R cc nL own Ts ret nm mc ms Post mc ms pc lv [.int (zB b)] ws :=
  fun C H locs ls hP hD hS hl => W.zret C.1 C.2.1 (C.2.2.2.2.2.2.2.2.1.trans hr) (by cases b <;> rfl) (fun t ht _ => ⟨⟨_, ws, rfl, hq, by rw [ht]; exact hP, hD⟩, hS.F ht⟩) hS.2.2 hdg C.2.2.2.2.2.1
theorem x_lret {x : Int64} (hr : ret = some .long) (hq : Post (some (.long x)) ws) (hdg : decode cc pc = .ok (.lreturn, 1)) : Wx G E R cc nL own Ts ret nm mc ms Post mc ms pc lv [.long x] ws :=
  fun C H locs ls hP hD hS hl => W.lret C.1 C.2.1 (C.2.2.2.2.2.2.2.2.1.trans hr) (fun t ht _ => ⟨⟨_, ws, rfl, hq, by rw [ht]; exact hP, hD⟩, hS.F ht⟩) hS.2.2 hdg C.2.2.2.2.2.1
theorem x_vret (hr : ret = none) (hq : Post none ws) (hdg : decode cc pc = .ok (.return_, 1)) : Wx G E R cc nL own Ts ret nm mc ms Post mc ms pc lv [] ws :=
  fun C H locs ls hP hD hS hl => W.vret C.1 C.2.1 (C.2.2.2.2.2.2.2.2.1.trans hr) (fun t ht _ => ⟨⟨_, ws, rfl, hq, by rw [ht]; exact hP, hD⟩, hS.F ht⟩) hS.2.2 hdg C.2.2.2.2.2.1
end XR
theorem x_start {G : XG} {y : MethodName} {wq wq' : List Cond} {rm : Room} {mc ms : Nat} {args : List Value} {wc : va_W} {Post : Option Value → va_W → Prop} {cc : ByteArray} {nL : Nat} {ret : Option FieldType} (hy : plainName y.cls = true) (hw : wq = .code y cc nL ret :: wq') (hlen : (lg_sl args).length ≤ nL) (body : ∀ E : XE, Wx G E rm cc nL y.cls wq ret y.name mc ms Post 0 0 0 (lv_args 0 args) [] wc) : Con G y wq rm mc ms args wc Post := by
  intro sz
  refine Met.ofW (cc := cc) (maxL := nL) (ret := ret) hy hw ?_
  intro p e s m args0 below meth c s₁ B hml hv
  obtain ⟨rfl, hsz, hP, hK, hD0⟩ := hv
  subst hsz
  have hl := lv_entry args (n := nL) hlen
  have hfr : entryFrame m args.toArray nL = F0 m 0 ((lg_sl args ++ List.replicate (nL - (lg_sl args).length) Slot.unset).toArray) [] := by
    rw [lg_entry_eq]
  have hts := atoms_spec (ws := wq) B.pre
  have C : Cx G (p, e, s, m, args.toArray, below, meth, c, va_A wc s.heap.size) cc nL y.cls wq ret y.name := ⟨B.exec, B.bytes, hml, findClass_of_methodNamed B.named, hts, B.notSynchronized, hK, fun q h => Or.inr h, B.returns, (name_of_methodNamed B.named B.method).1⟩
  have K := body (p, e, s, m, args.toArray, below, meth, c, va_A wc s.heap.size) C s.heap [] _ hP (hD0.self (sz := s.heap.size)) va_S.rf hl
  rw [hfr]
  exact K
section XC
variable {G : XG} {E : XE} {R : Room} {cc : ByteArray} {nL : Nat} {own : String} {Ts : List Cond} {ret : Option FieldType} {nm : String} {mc ms : Nat} {Post : Option Value → va_W → Prop} {cells slots pc : Nat} {lv lv' : List (Nat × Value)} {st : List Value} {ws ws' : va_W}
variable {y : MethodName} {wq wq' : List Cond} {bytes : ByteArray} {maxL index n : Nat} {ret' : Option FieldType} {rm : Room} {wc : va_W} {Post' : Option Value → va_W → Prop} {b : Nat} {As : List Value} {C0 : String} {rest st0 : List Value} {sz0 : Nat}
theorem x_back {H : Heap} {locs : List Loc} {ls : Array Slot} {a : Array Value} {isC : List Nat} (C : Cx G E cc nL own Ts ret nm) (hP : va_P (gD G) vwCl ws H) (hD : va_D (eA E) ws) (hS : va_S (eA E) (es E).heap H locs) (hl : lv_has ls nL lv) (hC : isC.map (fun i => ws[i]?) = wc.map some)
    (hr : va_Run (ep E) (gl G) (ee E) R (es E) (em E) (ea E) (eb E) (et E) (ec E) H locs cells slots 0 0 (F0 (em E) pc ls st0) rest (xQ Post' G (va_A wc H.size) a) (va_A wc H.size))
    (kk : ∀ (v : Option Value) (w : va_W), Post' v w → w.map (·.1) = wc.map (·.1) ∧ Wx G E R cc nL own Ts ret nm mc ms Post cells slots (pc + 3) lv (v.toList ++ rest) (plc ws isC w)) : W (ep E) (gl G) (ee E) R (es E) (em E) (ea E) (eb E) (et E) (ec E) H locs cells slots (MQ (eb E) (xQ Post G (eA E)) (ea E) (es E) mc ms (eA E)) (F0 (em E) pc ls st0) := by
  have hA := C.2.2.2.2.2.2.2.1
  have hF := va_free (wc := wc) hD hS hA isC hC
  intro T hT X
  obtain ⟨v, st₀, t, T', L, h0, X', hL, e1, e2, ⟨⟨v', w, hv, hp, hP1, hD1⟩, hz, hk⟩, st⟩ := hr T hT X
  cases hv
  rw [h0] at hz hk
  obtain ⟨hn, hW⟩ := kk v w hp
  obtain ⟨hP2, hD2⟩ := plc_ok (isC := isC) hP hD hC hk hP1 hn
  have hS2 : va_S (eA E) (es E).heap t.heap (locs ++ L) := ⟨Nat.le_trans hS.1 hz, fun q h1 h2 => by rw [hk q (Nat.lt_of_lt_of_le h1 hS.1) (fun z => h2 (hF q z))]; exact hS.2.1 q h1 h2, fun q hq => by
      rcases List.mem_append.mp hq with h | h
      · exact hS.2.2 q h
      · exact hF _ (hL q h)⟩
  obtain ⟨t2, a1, b1⟩ := hW C t.heap (locs ++ L) ls hP2 hD2 hS2 hl T' e1 X'
  exact ⟨t2, st t2 a1, b1⟩
theorem x_pre {H : Heap} {av : List Value} (C : Cx G E cc nL own Ts ret nm) (hP : va_P (gD G) vwCl ws H) (hD : va_D (eA E) ws) {isC : List Nat} (hC : isC.map (fun i => ws[i]?) = wc.map some) (hCn : va_nd isC = true) : FrameBlind (va_Pc av (fun U => U.heap.size = H.size ∧ va_P (gD G) vwCl wc U.heap ∧ xK G U ∧ va_D (fun _ => True) wc)) ∧ ∀ U : State, U.heap = H → (es E).WarmedH U.vm → va_Pc av (fun U => U.heap.size = H.size ∧ va_P (gD G) vwCl wc U.heap ∧ xK G U ∧ va_D (fun _ => True) wc) av.toArray U := by
  have hP2 : va_P (gD G) vwCl wc H := by
    intro k q hq
    have hc : (isC.map (fun i => ws[i]?))[k]? = some (some q) := by rw [hC, List.getElem?_map, hq]; rfl
    rw [List.getElem?_map] at hc
    cases hi : isC[k]? with
    | none => rw [hi] at hc; cases hc
    | some i => rw [hi] at hc; exact hP i q (Option.some.inj hc)
  have hD2 : va_D (eA E) wc := hD.sub isC hCn hC
  refine ⟨fun a U g mk q => ?_, fun U hU hW => ⟨rfl, by rw [hU], by rw [hU]; exact hP2, xK.warm hW C.2.2.2.2.2.2.1, hD2.weaken (fun _ _ _ _ => trivial)⟩⟩
  obtain ⟨q0, q1, qP, qK, qD⟩ := q
  exact ⟨q0, q1, qP, qK.blind, qD⟩
/-- a call of an object's method: the callee's world is at the places isC, and comes back there -/
theorem x_callV (pc' : Nat) (hp : pc + 3 = pc') {ci : Nat} {fs : List Value} {T : u_T} {N : Nat} (hC0 : Con G y wq rm 0 0 (.ref b :: As) wc Post') (isC : List Nat) (hC : isC.map (fun i => ws[i]?) = wc.map some) (hCn : va_nd isC = true) (q0 : Nat) (he : ws[q0]? = some (b, .inr (ci, fs))) (hc : vwCl[ci]? = some (C0, T, N))
    (hT : GoodIn Ts (wsV own index C0 y wq)) (hw : wq = .code y bytes maxL ret' :: wq') (hrc : rm.cells = 0) (hrs : rm.slots = 0) (hd : y.cls = C0 ∧ y.cls ≠ "java/lang/invoke/MethodHandle" ∧ y.cls ≠ "java/lang/invoke/VarHandle" ∧ (parseMethodDescriptor y.desc).map (fun d => d.parameters.length) = some n) (hR : rm.frames + 1 ≤ R.frames ∧ 8 + (maxL + 11) + rm.locals ≤ R.locals)
    (hn : As.length = n) (hst : st = As.reverse ++ .ref b :: rest) (hroom : (rest.map fun v => v.category).sum ≤ 8) (hdg : decode cc pc = .ok (.invokevirtual index, 3)) (hf : cells ≤ R.cells ∧ slots ≤ R.slots)
    (kk : ∀ (v : Option Value) (w : va_W), Post' v w → w.map (·.1) = wc.map (·.1) ∧ Wx G E R cc nL own Ts ret nm mc ms Post cells slots pc' lv (v.toList ++ rest) (plc ws isC w)) : Wx G E R cc nL own Ts ret nm mc ms Post cells slots pc lv st ws :=
  by
  subst hp
  exact fun C H locs ls hP hD hS hl => by
    obtain ⟨hb1, hb2⟩ := x_pre (av := .ref b :: As) C hP hD hC hCn
    exact x_back C hP hD hS hl hC (va_runV (As := As) (rest := rest) ⟨C.1, C.2.1, C.2.2.1, C.2.2.2.1, C.2.2.2.2.1⟩ (hC0 H.size) (cwV n C.2.2.2.2.1 hT hw hrc hrs hd hR) ⟨hb1, va_recv C.2.2.2.2.2.2.1.1 hP hc he, hb2⟩ rfl hn hl.1 hst (lv_room hroom) hdg hf) kk
theorem x_callS (pc' : Nat) (hp : pc + 3 = pc') (hC0 : Con G y wq rm 0 0 As wc Post') (isC : List Nat) (hC : isC.map (fun i => ws[i]?) = wc.map some) (hCn : va_nd isC = true)
    (hT : GoodIn Ts (va_wsS own index y wq)) (hw : wq = .code y bytes maxL ret' :: wq') (hrc : rm.cells = 0) (hrs : rm.slots = 0) (hd : y.cls ≠ "java/lang/invoke/MethodHandle" ∧ y.cls ≠ "java/lang/invoke/VarHandle" ∧ (parseMethodDescriptor y.desc).map (fun d => d.parameters.length) = some n) (hR : rm.frames + 1 ≤ R.frames ∧ 8 + (maxL + 11) + rm.locals ≤ R.locals)
    (hn : As.length = n) (hst : st = As.reverse ++ rest) (hroom : (rest.map fun v => v.category).sum ≤ 8) (hdg : decode cc pc = .ok (.invokestatic index, 3)) (hf : cells ≤ R.cells ∧ slots ≤ R.slots)
    (kk : ∀ (v : Option Value) (w : va_W), Post' v w → w.map (·.1) = wc.map (·.1) ∧ Wx G E R cc nL own Ts ret nm mc ms Post cells slots pc' lv (v.toList ++ rest) (plc ws isC w)) : Wx G E R cc nL own Ts ret nm mc ms Post cells slots pc lv st ws :=
  by
  subst hp
  exact fun C H locs ls hP hD hS hl => by
    obtain ⟨hb1, hb2⟩ := x_pre (av := As) C hP hD hC hCn
    exact x_back C hP hD hS hl hC (va_runS (As := As) (rest := rest) ⟨C.1, C.2.1, C.2.2.1, C.2.2.2.1, C.2.2.2.2.1⟩ (hC0 H.size) (va_cwS n C.2.2.2.2.1 hT hw hrc hrs hd hR) ⟨hb1, hb2⟩ rfl hn hl.1 hst (lv_room hroom) hdg hf) kk
theorem x_callSN (pc' : Nat) (hp : pc + 3 = pc') {host : String} (hC0 : Con G y wq rm 0 0 As wc Post') (isC : List Nat) (hC : isC.map (fun i => ws[i]?) = wc.map some) (hCn : va_nd isC = true)
    (hT : GoodIn Ts wq) (hw : wq = .code y bytes maxL ret' :: wq') (hrc : rm.cells = 0) (hrs : rm.slots = 0) (hnw : Cond.methodLinkNest own index y host ∈ xN) (hini : Cond.initialized y.cls ∈ Ts) (hstat : Cond.static y ∈ Ts) (hd : y.cls ≠ "java/lang/invoke/MethodHandle" ∧ y.cls ≠ "java/lang/invoke/VarHandle" ∧ (parseMethodDescriptor y.desc).map (fun d => d.parameters.length) = some n) (hR : rm.frames + 1 ≤ R.frames ∧ 8 + (maxL + 11) + rm.locals ≤ R.locals)
    (hn : As.length = n) (hst : st = As.reverse ++ rest) (hroom : (rest.map fun v => v.category).sum ≤ 8) (hdg : decode cc pc = .ok (.invokestatic index, 3)) (hf : cells ≤ R.cells ∧ slots ≤ R.slots)
    (kk : ∀ (v : Option Value) (w : va_W), Post' v w → w.map (·.1) = wc.map (·.1) ∧ Wx G E R cc nL own Ts ret nm mc ms Post cells slots pc' lv (v.toList ++ rest) (plc ws isC w)) : Wx G E R cc nL own Ts ret nm mc ms Post cells slots pc lv st ws :=
  by
  subst hp
  exact fun C H locs ls hP hD hS hl => by
    obtain ⟨hb1, hb2⟩ := x_pre (av := As) C hP hD hC hCn
    exact x_back C hP hD hS hl hC (va_runSN (As := As) (rest := rest) ⟨C.1, C.2.1, C.2.2.1, C.2.2.2.1, C.2.2.2.2.1⟩ (hC0 H.size) ⟨va_cnB n C.2.2.2.2.1 hT hw hrc hrs (C.2.2.2.2.2.2.1.2 _ hnw) (C.2.2.2.2.1 _ hini) hd hR, C.2.2.2.2.1 _ hstat, trivial⟩ ⟨hb1, hb2⟩ rfl hn hl.1 hst (lv_room hroom) hdg hf) kk
theorem x_callS0 (pc' : Nat) (hp : pc + 3 = pc') (hC0 : Con G y wq rm 0 0 As [] Post') (hnil : ∀ v w, Post' v w → w = [])
    (hT : GoodIn Ts (va_wsS own index y wq)) (hw : wq = .code y bytes maxL ret' :: wq') (hrc : rm.cells = 0) (hrs : rm.slots = 0) (hd : y.cls ≠ "java/lang/invoke/MethodHandle" ∧ y.cls ≠ "java/lang/invoke/VarHandle" ∧ (parseMethodDescriptor y.desc).map (fun d => d.parameters.length) = some n) (hR : rm.frames + 1 ≤ R.frames ∧ 8 + (maxL + 11) + rm.locals ≤ R.locals)
    (hn : As.length = n) (hst : st = As.reverse ++ rest) (hroom : (rest.map fun v => v.category).sum ≤ 8) (hdg : decode cc pc = .ok (.invokestatic index, 3)) (hf : cells ≤ R.cells ∧ slots ≤ R.slots)
    (kk : ∀ (v : Option Value), Post' v [] → Wx G E R cc nL own Ts ret nm mc ms Post cells slots pc' lv (v.toList ++ rest) ws) : Wx G E R cc nL own Ts ret nm mc ms Post cells slots pc lv st ws :=
  x_callS pc' hp hC0 [] rfl rfl hT hw hrc hrs hd hR hn hst hroom hdg hf (fun v w hq => by
    obtain rfl := hnil v w hq
    exact ⟨rfl, kk v hq⟩)
theorem x_callSN0 (pc' : Nat) (hp : pc + 3 = pc') {host : String} (hC0 : Con G y wq rm 0 0 As [] Post') (hnil : ∀ v w, Post' v w → w = [])
    (hT : GoodIn Ts wq) (hw : wq = .code y bytes maxL ret' :: wq') (hrc : rm.cells = 0) (hrs : rm.slots = 0) (hnw : Cond.methodLinkNest own index y host ∈ xN) (hini : Cond.initialized y.cls ∈ Ts) (hstat : Cond.static y ∈ Ts) (hd : y.cls ≠ "java/lang/invoke/MethodHandle" ∧ y.cls ≠ "java/lang/invoke/VarHandle" ∧ (parseMethodDescriptor y.desc).map (fun d => d.parameters.length) = some n) (hR : rm.frames + 1 ≤ R.frames ∧ 8 + (maxL + 11) + rm.locals ≤ R.locals)
    (hn : As.length = n) (hst : st = As.reverse ++ rest) (hroom : (rest.map fun v => v.category).sum ≤ 8) (hdg : decode cc pc = .ok (.invokestatic index, 3)) (hf : cells ≤ R.cells ∧ slots ≤ R.slots)
    (kk : ∀ (v : Option Value), Post' v [] → Wx G E R cc nL own Ts ret nm mc ms Post cells slots pc' lv (v.toList ++ rest) ws) : Wx G E R cc nL own Ts ret nm mc ms Post cells slots pc lv st ws :=
  x_callSN pc' hp hC0 [] rfl rfl hT hw hrc hrs hnw hini hstat hd hR hn hst hroom hdg hf (fun v w hq => by
    obtain rfl := hnil v w hq
    exact ⟨rfl, kk v hq⟩)
end XC
