/-! the world behind a call, cell by cell: evaluates without nested writes -/
def lkp : List Nat → va_W → Nat → Nat × va_E → Nat × va_E
  | i :: is, c :: cs, j, d => lkp is cs j (bif Nat.beq i j then c else d)
  | _, _, _, d => d
def plcR (is : List Nat) (cs : va_W) : Nat → va_W → va_W
  | _, [] => []
  | k, x :: xs => lkp is cs k x :: plcR is cs (k + 1) xs
theorem lkp_get : ∀ (is : List Nat) (cs ws : va_W) (j : Nat), (plc ws is cs)[j]? = ws[j]?.map (lkp is cs j)
  | [], cs, ws, j => by
    rw [show plc ws [] cs = ws by cases cs <;> rfl, show lkp [] cs j = fun d => d by cases cs <;> rfl]
    cases ws[j]? <;> rfl
  | i :: is, [], ws, j => by
    show ws[j]? = ws[j]?.map (fun d => d)
    cases ws[j]? <;> rfl
  | i :: is, c :: cs, ws, j => by
    show (plc (ws.set i c) is cs)[j]? = ws[j]?.map (fun d => lkp is cs j (bif Nat.beq i j then c else d))
    rw [lkp_get is cs (ws.set i c) j, List.getElem?_set]
    by_cases e : i = j
    · subst e
      rw [if_pos rfl]
      by_cases hl : i < ws.length
      · rw [if_pos hl, List.getElem?_eq_getElem hl]
        show some (lkp is cs i c) = some (lkp is cs i (bif Nat.beq i i then c else ws[i]))
        rw [Nat.beq_refl]
        rfl
      · rw [if_neg hl, List.getElem?_eq_none (by omega)]
        rfl
    · rw [if_neg e]
      have h0 : Nat.beq i j = false := by
        cases h : Nat.beq i j with
        | false => rfl
        | true => exact absurd (Nat.eq_of_beq_eq_true h) e
      simp only [h0]
      rfl
theorem plcR_get (is : List Nat) (cs : va_W) : ∀ (ws : va_W) (k j : Nat), (plcR is cs k ws)[j]? = ws[j]?.map (lkp is cs (k + j))
  | [], _, _ => rfl
  | _ :: _, _, 0 => rfl
  | x :: xs, k, j + 1 => by
    show (plcR is cs (k + 1) xs)[j]? = xs[j]?.map (lkp is cs (k + (j + 1)))
    rw [plcR_get is cs xs (k + 1) j, show k + 1 + j = k + (j + 1) by omega]
theorem plc_R (ws : va_W) (is : List Nat) (cs : va_W) : plc ws is cs = plcR is cs 0 ws := List.ext_getElem? (fun j => by rw [lkp_get, plcR_get, Nat.zero_add])
section XWP
variable {G : XG} {E : XE} {R : Room} {cc : ByteArray} {nL : Nat} {own : String} {Ts : List Cond} {ret : Option FieldType} {nm : String} {mc ms : Nat} {Post : Option Value → va_W → Prop} {cells slots pc : Nat} {lv lv' : List (Nat × Value)} {st : List Value} {ws ws' : va_W} {isC : List Nat} {w : va_W}
theorem x_wp (h : plcR isC w 0 ws = ws') (kk : Wx G E R cc nL own Ts ret nm mc ms Post cells slots pc lv (st) (ws')) : Wx G E R cc nL own Ts ret nm mc ms Post cells slots pc lv (st) (plc ws isC w) := by
  rw [plc_R, h]
  exact kk
end XWP
