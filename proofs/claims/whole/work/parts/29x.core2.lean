theorem zL_sub (a b : Int) : zL a - zL b = zL (a - b) := (Int64.ofInt_sub a b).symm
section XR2
variable {G : XG} {E : XE} {R : Room} {cc : ByteArray} {nL : Nat} {own : String} {Ts : List Cond} {ret : Option FieldType} {nm : String} {mc ms : Nat} {Post : Option Value → va_W → Prop} {cells slots pc : Nat} {lv lv' : List (Nat × Value)} {st : List Value} {ws ws' : va_W}
theorem x_lsub (pc' : Nat) (hp : pc + 1 = pc') {a b z : Int} (hdg : decode cc pc = .ok (.lsub, 1)) (hz : a - b = z) (kk : Wx G E R cc nL own Ts ret nm mc ms Post cells slots pc' lv (.long (zL z) :: st) ws) : Wx G E R cc nL own Ts ret nm mc ms Post cells slots pc lv (.long (zL b) :: .long (zL a) :: st) ws := by
  subst hp
  exact fun C H locs ls hP hD hS hl => lv_lsub C.1 C.2.1 hdg (by rw [zL_sub, hz]; exact (kk C H locs ls hP hD hS hl))
end XR2
