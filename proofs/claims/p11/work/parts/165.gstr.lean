/-! G: string literals: their cells are old, nobody writes them; they are read by these rules -/
section GSTR
variable {v : gEnv} {l : Launch} {R : Room} {Qf : gFin} {k : gKey} {pc : Nat} {L : List (Nat × Value)} {st : List Value} {ws wc wr : va_W} {cs sl i a N : Nat}
theorem G_ldcK {tx : String} (d : decode k.1 pc = .ok (.ldc i, 2)) (hE : ∀ A s H, v.2.2.2.1 A s H → vk_R k.2.2.1 i tx a s) (n : G v l R Qf k (pc + 2) L (.ref a :: st) ws cs sl) : G v l R Qf k pc L st ws cs sl := fun p e s m args below meth c A H locs ls C hP hD hS h => by
  obtain ⟨h1, h2, h3, h4, h5, h6, h7, h8, h9, h10, h11, h12, h13⟩ := id C
  exact va_ldcS h1 h2 h4 (hE _ _ _ h12) d (n p e s m args below meth c A H locs ls C hP hD hS h)
theorem G_kget {o n0 d0 : String} {x : Value} (d : decode k.1 pc = .ok (.getfield i, 3)) (hl : Cond.fieldLink k.2.2.1 i o n0 d0 ∈ v.2.2.2.2) (hE : ∀ A s H, v.2.2.2.1 A s H → va_OF o n0 d0 x a A s H) (n : G v l R Qf k (pc + 3) L (x :: st) ws cs sl) : G v l R Qf k pc L (.ref a :: st) ws cs sl := fun p e s m args below meth c A H locs ls C hP hD hS h => by
  obtain ⟨h1, h2, h3, h4, h5, h6, h7, h8, h9, h10, h11, h12, h13⟩ := id C
  exact vk_getf h1 h2 (hE _ _ _ h12) hS h4 (h8 _ hl) (fun _ z => z) d (n p e s m args below meth c A H locs ls C hP hD hS h)
theorem G_klen {f : Nat → Value} {ty : FieldType} (d : decode k.1 pc = .ok (.arraylength, 1)) (hE : ∀ A s H, v.2.2.2.1 A s H → va_T ty a N f A s H) (n : G v l R Qf k (pc + 1) L (.int (Int32.ofNat N) :: st) ws cs sl) : G v l R Qf k pc L (.ref a :: st) ws cs sl := fun p e s m args below meth c A H locs ls C hP hD hS h => by
  obtain ⟨h1, h2, h3, h4, h5, h6, h7, h8, h9, h10, h11, h12, h13⟩ := id C
  exact va_tlen h1 h2 (hE _ _ _ h12) hS rfl d (n p e s m args below meth c A H locs ls C hP hD hS h)
theorem G_kbald {f : Nat → Int32} {y : Int32} (d : decode k.1 pc = .ok (.baload, 1)) (hE : ∀ A s H, v.2.2.2.1 A s H → va_T .byte a N (fun j => .int (f j)) A s H) (hin : vp_in y N) (n : G v l R Qf k (pc + 1) L (.int (f y.toNatClampNeg) :: st) ws cs sl) : G v l R Qf k pc L (.int y :: .ref a :: st) ws cs sl := fun p e s m args below meth c A H locs ls C hP hD hS h => by
  obtain ⟨h1, h2, h3, h4, h5, h6, h7, h8, h9, h10, h11, h12, h13⟩ := id C
  exact va_tb h1 h2 (hE _ _ _ h12) hS hin rfl d (n p e s m args below meth c A H locs ls C hP hD hS h)
variable {y : MethodName} {cc' : ByteArray} {nL' fr' lo' mc' ms' b : Nat} {ret' : Option FieldType} {As : List Value} {Post' : Option Value → va_W → Prop} {XP' : String → Nat → va_W → Prop}
theorem G_callVk (hv : gOk v) (cp : Ct v l y cc' nL' ret' fr' lo' mc' ms' (.ref b :: As) wc Post' XP') (d : decode k.1 pc = .ok (.invokevirtual i, 3)) (hw : gCw v R k.2.2.1 i y cc' nL' ret' fr' lo' As.length) (w2 : Cond.instanceMethod y ∈ v.2.2.2.2) (w3 : Cond.selects y.cls y y ∈ v.2.2.2.2)
    (hE : ∀ A s H, v.2.2.2.1 A s H → va_O y.cls b A s H) (isC isR : List Nat) (hC : isC.map (fun i => ws[i]?) = wc.map some) (hR : isR.map (fun i => ws[i]?) = wr.map some) (hnC : va_nd isC = true) (hn : va_nd isR = true) (hdis : ∀ i ∈ isR, i ∉ isC)
    (hcs : cs + mc' ≤ R.cells) (hsl : sl + ms' ≤ R.slots) (hcat : (st.map fun u => u.category).sum ≤ 8)
    (kk : ∀ r w, Post' r w → G v l R Qf k (pc + 3) L (r.toList ++ st) (wr ++ w) (cs + mc') (sl + ms')) (kx : ∀ E q w, XP' E q w → GT v l R Qf k pc L st E q (wr ++ w) (cs + mc') (sl + ms')) :
    G v l R Qf k pc L (As.reverse ++ .ref b :: st) ws cs sl := fun p e s m args below meth c A H locs ls C hP hD hS h => by
  obtain ⟨h1, h2, h3, h4, h5, h6, h7, h8, h9, h10, h11, h12, h13⟩ := id C
  refine g_back isC isR hC hR hn hdis C hP hD hS h (vx_runV (As := As) ⟨h1, h2, h3, h4, h8⟩ (cp H.size) ⟨g_cb hv h8 hw, h8 _ w2, h8 _ w3⟩ ⟨gPre_blind hv _ _ _, ?_, g_pre hv isC hC hnC C hP hD hS⟩ rfl rfl h.1 rfl (by show 2 * 0 + _ ≤ 8; omega) d ⟨hcs, hsl⟩) kk kx
  obtain ⟨cell, e1, e2, e3, -⟩ := (hE _ _ _ h12).kept hS.2.1
  exact ⟨cell, e1, e2, e3⟩
end GSTR
