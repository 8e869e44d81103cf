/-! G: the law's own frame: its script at b, its end -/
/-- the law's key: its script, and that nothing old is free -/
def gL (cc : ByteArray) (nL : Nat) (own : String) (ret : Option FieldType) (nm : String) (b L : Nat) (xs : Nat → Int32) : gKey := (cc, nL, own, ret, [], nm, fun s A => va_X b L xs s s.heap ∧ b < s.heap.size ∧ ∀ q, A q → s.heap.size ≤ q)
section GLW
variable {v : gEnv} {l : Launch} {R : Room} {Qf : gFin} {cc : ByteArray} {nL : Nat} {own nm : String} {ret : Option FieldType} {b M : Nat} {xs : Nat → Int32} {pc : Nat} {L : List (Nat × Value)} {st : List Value} {ws : va_W} {cs sl : Nat}
theorem G_slen (d : decode cc pc = .ok (.arraylength, 1)) (n : G v l R Qf (gL cc nL own ret nm b M xs) (pc + 1) L (.int (Int32.ofNat M) :: st) ws cs sl) : G v l R Qf (gL cc nL own ret nm b M xs) pc L (.ref b :: st) ws cs sl := fun p e s m args below meth c A H locs ls C hP hD hS h => by
  obtain ⟨h1, h2, h3, h4, h5, h6, h7, h8, h9, h10, h11, h12, h13, f1, f2, f3⟩ := id C
  exact va_slen h1 h2 f1 f2 (fun z => Nat.not_le.mpr f2 (f3 b z)) hS d (n p e s m args below meth c A H locs ls C hP hD hS h)
theorem G_sld {y : Int32} (d : decode cc pc = .ok (.iaload, 1)) (hin : vp_in y M) (n : G v l R Qf (gL cc nL own ret nm b M xs) (pc + 1) L (.int (xs y.toNatClampNeg) :: st) ws cs sl) : G v l R Qf (gL cc nL own ret nm b M xs) pc L (.int y :: .ref b :: st) ws cs sl := fun p e s m args below meth c A H locs ls C hP hD hS h => by
  obtain ⟨h1, h2, h3, h4, h5, h6, h7, h8, h9, h10, h11, h12, h13, f1, f2, f3⟩ := id C
  exact va_sld h1 h2 f1 f2 (fun z => Nat.not_le.mpr f2 (f3 b z)) hS hin d (n p e s m args below meth c A H locs ls C hP hD hS h)
/-- a number gets a name -/
theorem G_nam {k : gKey} {x : Int32} (n : ∀ z, z = x → G v l R Qf k pc L (.int z :: st) ws cs sl) : G v l R Qf k pc L (.int x :: st) ws cs sl := n x rfl
end GLW
