/-! System.arraycopy between int arrays -/
theorem gF_cpy {f g h : Nat → Int32} {s d n : Nat} {a b : Int} (hh : h = va_cpy f g s d n) (hf : gF f a b) (hg : gF g a b) : gF h a b := fun k => by
  rw [hh]; unfold va_cpy; split
  · exact hf _
  · exact hg k
theorem g_nn {z : Int32} (h : 0 ≤ z.toInt) : (z.toNatClampNeg : Int) = z.toInt := by
  show ((z.toInt.toNat : Nat) : Int) = z.toInt
  omega
theorem g_n0 {z : Int32} (h : 0 ≤ z.toInt) : ¬ z < 0 := fun q => by
  have h1 := gj_lt q (show Int32.toInt 0 = 0 by decide)
  omega
theorem G_copyi {v : gEnv} {l : Launch} {R : Room} {Qf : gFin} {k : gKey} {pc : Nat} {L : List (Nat × Value)} {st : List Value} {ws : va_W} {cs sl i a a0 n0 n1 : Nat} {c0 c1 : ClassId} {f g : Nat → Int32} {sp dp n : Int32} (q0 q1 t0 t1 : Nat) (d : decode k.1 pc = .ok (.invokestatic i, 3))
    (w1 : Cond.methodLink k.2.2.1 i arraycopyName ∈ v.2.2.2.2) (w2 : Cond.native arraycopyName ∈ v.2.2.2.2) (w3 : Cond.static arraycopyName ∈ v.2.2.2.2) (w4 : Cond.initialized "java/lang/System" ∈ v.2.2.2.2)
    (ha0 : ws[q0]? = some (a0, .inl (c0, n0, .inl f))) (ha1 : ws[q1]? = some (a, .inl (c1, n1, .inl g))) (ht0 : v.2.2.1[t0]? = some (c0, .int)) (ht1 : v.2.2.1[t1]? = some (c1, .int))
    (h1 : 0 ≤ sp.toInt) (h2 : 0 ≤ dp.toInt) (h3 : 0 ≤ n.toInt) (h4 : sp.toInt + n.toInt ≤ n0) (h5 : dp.toInt + n.toInt ≤ n1) (hf : 1 ≤ R.frames) (hlo : (st.map fun u => u.category).sum + 18 ≤ R.locals)
    (kk : ∀ h, h = va_cpy f g sp.toNatClampNeg dp.toNatClampNeg n.toNatClampNeg → G v l R Qf k (pc + 3) L st (ws.set q1 (a, .inl (c1, n1, .inl h))) cs sl) : G v l R Qf k pc L (.int n :: .int dp :: .ref a :: .int sp :: .ref a0 :: st) ws cs sl := fun p e s m args below meth c A H locs ls C hP hD hS hl => by
  obtain ⟨g1, g2, g3, g4, g5, g6, g7, g8, g9, g10, g11, g12, g13⟩ := id C
  have e1 := g_nn h1
  have e2 := g_nn h2
  have e3 := g_nn h3
  exact va_copyi g1 g2 (by rw [g3]; exact hl.1.symm) g4 (g8 _ w1) (g8 _ w2) (g8 _ w3) (g8 _ w4) g10 hP hD hS q0 q1 t0 t1 ha0 ha1 ht0 ht1 rfl (g_n0 h1) (g_n0 h2) (g_n0 h3) (by omega) (by omega) (fun _ _ => rfl) hf hlo d (fun H1 locs1 hP hD hS => kk _ rfl p e s m args below meth c A H1 locs1 ls C hP hD hS hl)
