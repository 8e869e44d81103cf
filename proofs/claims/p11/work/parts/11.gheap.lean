/-! G: fields, arrays, new cells, returns -/
/-- what the tables say of the class C, number ci: its fields by T, their types by ty -/
def gK (v : gEnv) (ci : Nat) (C : String) (T : u_T) (N : Nat) (ty : Nat → FieldType) : Prop :=
  v.2.1[ci]? = some (C, T, N) ∧ (∀ w ∈ u_ws C T N, w ∈ v.2.2.2.2) ∧ (∀ k, k < N → parseFieldDescriptor (T k).2.2.1 = some (ty k)) ∧ ∀ a, a < N → ∀ b, b < N → a ≠ b → (T a).2.1 ≠ (T b).2.1
theorem g_fm {α β : Type} {f : α → Option β} {is : List α} {w : List β} (h : is.map f = w.map some) : is.filterMap f = w := by
  have h1 : (is.map f).filterMap id = is.filterMap f := by rw [List.filterMap_map]; rfl
  rw [← h1, h, List.filterMap_map]
  exact List.filterMap_some
section GH
variable {v : gEnv} {l : Launch} {R : Room} {Qf : gFin} {k : gKey} {pc : Nat} {L L' : List (Nat × Value)} {st : List Value} {ws ws' : va_W} {cs sl : Nat}
variable {a ci N i : Nat} {fs : List Value} {x : Value} {C ref : String} {T : u_T} {ty : Nat → FieldType}
theorem G_getf (q f : Nat) (d : decode k.1 pc = .ok (.getfield i, 3)) (he : ws[q]? = some (a, .inr (ci, fs))) (hc : gK v ci C T N ty) (hf : f < N) (hl : Cond.fieldLink k.2.2.1 i (T f).1 (T f).2.1 (T f).2.2.1 ∈ v.2.2.2.2) (hx : fs[f]? = some x)
    (n : G v l R Qf k (pc + 3) L (x :: st) ws cs sl) : G v l R Qf k pc L (.ref a :: st) ws cs sl := fun p e s m args below meth c A H locs ls C hP hD hS h => by
  obtain ⟨h1, h2, h3, h4, h5, h6, h7, h8, h9, h10, h11, h12, h13⟩ := id C
  exact va_get h1 h2 h8 hc.2.1 h4 h10 hP q he hc.1 f hf (h8 _ hl) (fun _ z => z) hx d (n p e s m args below meth c A H locs ls C hP hD hS h)
theorem G_getfN {host : String} (q f : Nat) (d : decode k.1 pc = .ok (.getfield i, 3)) (he : ws[q]? = some (a, .inr (ci, fs))) (hc : gK v ci C T N ty) (hf : f < N) (hl : ∀ A s H, v.2.2.2.1 A s H → va_Nw (.fieldLinkNest k.2.2.1 i (T f).1 (T f).2.1 (T f).2.2.1 host) s) (hx : fs[f]? = some x)
    (n : G v l R Qf k (pc + 3) L (x :: st) ws cs sl) : G v l R Qf k pc L (.ref a :: st) ws cs sl := fun p e s m args below meth c A H locs ls C hP hD hS h => by
  obtain ⟨h1, h2, h3, h4, h5, h6, h7, h8, h9, h10, h11, h12, h13⟩ := id C
  exact va_getN h1 h2 h8 hc.2.1 h4 h10 hP q he hc.1 f hf (va_Nw.use rfl (hl _ _ _ h12)) (fun _ z => z) hx d (n p e s m args below meth c A H locs ls C hP hD hS h)
theorem G_putf (q f : Nat) (d : decode k.1 pc = .ok (.putfield i, 3)) (he : ws[q]? = some (a, .inr (ci, fs))) (hc : gK v ci C T N ty) (hf : f < N) (hl : Cond.fieldLink k.2.2.1 i (T f).1 (T f).2.1 (T f).2.2.1 ∈ v.2.2.2.2) (hfin : (T f).2.2.2 = false) (hn : narrow (ty f) x = x) (hfit : fits (ty f) x = true) (hlen : f < fs.length)
    (hw : ws.set q (a, .inr (ci, fs.set f x)) = ws') (n : G v l R Qf k (pc + 3) L st ws' cs sl) : G v l R Qf k pc L (x :: .ref a :: st) ws cs sl := fun p e s m args below meth c A H locs ls C hP hD hS h => by
  obtain ⟨h1, h2, h3, h4, h5, h6, h7, h8, h9, h10, h11, h12, h13⟩ := id C
  subst hw
  exact va_put h1 h2 h8 hc.2.1 ty hc.2.2.1 hc.2.2.2 h4 h10 hP hD hS q he hc.1 f hf (h8 _ hl) (fun _ z => z) hfin (hc.2.2.1 f hf) hn hfit hlen d (fun H1 locs1 hP hD hS => n p e s m args below meth c A H1 locs1 ls C hP hD hS h)
theorem G_putfN {host : String} (q f : Nat) (d : decode k.1 pc = .ok (.putfield i, 3)) (he : ws[q]? = some (a, .inr (ci, fs))) (hc : gK v ci C T N ty) (hf : f < N) (hl : ∀ A s H, v.2.2.2.1 A s H → va_Nw (.fieldLinkNest k.2.2.1 i (T f).1 (T f).2.1 (T f).2.2.1 host) s) (hfin : (T f).2.2.2 = false) (hn : narrow (ty f) x = x) (hfit : fits (ty f) x = true) (hlen : f < fs.length)
    (hw : ws.set q (a, .inr (ci, fs.set f x)) = ws') (n : G v l R Qf k (pc + 3) L st ws' cs sl) : G v l R Qf k pc L (x :: .ref a :: st) ws cs sl := fun p e s m args below meth c A H locs ls C hP hD hS h => by
  obtain ⟨h1, h2, h3, h4, h5, h6, h7, h8, h9, h10, h11, h12, h13⟩ := id C
  subst hw
  exact va_putN h1 h2 h8 hc.2.1 ty hc.2.2.1 hc.2.2.2 h4 h10 hP hD hS q he hc.1 f hf (va_Nw.use rfl (hl _ _ _ h12)) (fun _ z => z) hfin (hc.2.2.1 f hf) hn hfit hlen d (fun H1 locs1 hP hD hS => n p e s m args below meth c A H1 locs1 ls C hP hD hS h)
/-- a final field, in the constructor of its own class -/
theorem G_putF (q f : Nat) (d : decode k.1 pc = .ok (.putfield i, 3)) (he : ws[q]? = some (a, .inr (ci, fs))) (hc : gK v ci C T N ty) (hf : f < N) (hl : Cond.fieldLink k.2.2.1 i (T f).1 (T f).2.1 (T f).2.2.1 ∈ v.2.2.2.2) (hfin : (T f).2.2.2 = true) (hin : k.2.2.2.2.2.1 = "<init>") (hdc : (T f).1 = k.2.2.1) (hn : narrow (ty f) x = x) (hfit : fits (ty f) x = true) (hlen : f < fs.length)
    (hw : ws.set q (a, .inr (ci, fs.set f x)) = ws') (n : G v l R Qf k (pc + 3) L st ws' cs sl) : G v l R Qf k pc L (x :: .ref a :: st) ws cs sl := fun p e s m args below meth c A H locs ls C hP hD hS h => by
  obtain ⟨h1, h2, h3, h4, h5, h6, h7, h8, h9, h10, h11, h12, h13⟩ := id C
  subst hw
  exact va_putF h1 h2 h8 hc.2.1 ty hc.2.2.1 hc.2.2.2 h4 h10 hP hD hS q he hc.1 f hf (h8 _ hl) (fun _ z => z) hfin (h7.trans hin) hdc (hc.2.2.1 f hf) hn hfit hlen d (fun H1 locs1 hP hD hS => n p e s m args below meth c A H1 locs1 ls C hP hD hS h)
/-- a new object -/
theorem G_new (fs : List Value) (d : decode k.1 pc = .ok (.new i, 3)) (hc : gK v ci C T N ty) (hl : Cond.classLink k.2.2.1 i C ∈ v.2.2.2.2) (hi : Cond.instantiable C N ∈ v.2.2.2.2) (hz : Cond.initialized C ∈ v.2.2.2.2) (hfs : ∀ j, j < N → defaultValue (ty j) = vp_V fs j) (hcs : cs + 1 ≤ R.cells) (hsl : sl + N ≤ R.slots)
    (n : ∀ q : Nat, G v l R Qf k (pc + 3) L (.ref q :: st) (ws ++ [(q, .inr (ci, fs))]) (cs + 1) (sl + N)) : G v l R Qf k pc L st ws cs sl := fun p e s m args below meth c A H locs ls C hP hD hS h => by
  obtain ⟨h1, h2, h3, h4, h5, h6, h7, h8, h9, h10, h11, h12, h13⟩ := id C
  exact va_new h1 h2 h8 hc.2.1 ty hc.2.2.1 h4 (h8 _ hl) (h8 _ hi) (h8 _ hz) h10 hP hD hS h11 hc.1 hfs hcs hsl d (fun q H1 hP hD hS => n q p e s m args below meth c A H1 locs ls C hP hD hS h)
/-- a new array of numbers; its class is the one that the tables name -/
theorem G_newa {atype : ArrayType} {fty : FieldType} {cA : ClassId} {z : Int32} {M : Nat} (t : Nat) (a0 : vp_A) (d : decode k.1 pc = .ok (.newarray atype, 2)) (hty : newarray.typeOf atype = fty) (ht : v.2.2.1[t]? = some (cA, fty)) (hpr : ∀ C, fty ≠ .object C) (hl : Cond.arrayClass fty ∈ v.2.2.2.2)
    (ha : ∀ cA : ClassId, vp_cell cA a0 = arrV cA M (fun _ => defaultValue fty)) (hz : ¬ z < 0) (hM : z.toNatClampNeg = M) (hb : M * componentBytes fty ≤ 536870912) (hcs : cs + 1 ≤ R.cells) (hsl : sl + M ≤ R.slots)
    (n : ∀ q : Nat, G v l R Qf k (pc + 2) L (.ref q :: st) (ws ++ [(q, .inl (cA, a0))]) (cs + 1) (sl + M)) : G v l R Qf k pc L (.int z :: st) ws cs sl := fun p e s m args below meth c A H locs ls C hP hD hS h => by
  obtain ⟨h1, h2, h3, h4, h5, h6, h7, h8, h9, h10, h11, h12, h13⟩ := id C
  subst hty
  refine va_newaK h1 h2 (h8 _ hl) rfl d rfl hz hM hb hcs hsl rfl fun H1 cB e1 z1 o1 hAr hNm => ?_
  have hRA := (h10.2 t _ ht).2
  have hcA : s.vm.findClass ("[" ++ (newarray.typeOf atype).toString) = some cA := by cases atype <;> exact hRA
  have ec : cB = cA := Option.some.inj (hNm.symm.trans hcA)
  subst ec
  have hk : ∀ (j : Nat) (x : Nat × va_E), ws[j]? = some x → H1[x.1]? = H[x.1]? := fun j x hx => o1 x.1 ((hP j x hx).lt)
  refine n H.size p e s m args below meth c A H1 locs ls C ((hP.kept hk).app (fun j x hx => ?_)) (hD.push hP rfl (h11 _ hS.1)) ⟨Nat.le_trans hS.1 (by omega), fun x g1 g2 => (o1 x (Nat.lt_of_lt_of_le g1 hS.1)).trans (hS.2.1 x g1 g2), hS.2.2⟩ h
  have hj : j < 1 := (List.getElem?_eq_some_iff.mp hx).1
  rw [show j = 0 by omega] at hx
  cases hx
  show H1[H.size]? = some (vp_cell _ _)
  rw [ha]
  exact e1
theorem G_alen {cA : ClassId} {b : vp_A} {fty : FieldType} (y : Int32) (q t : Nat) (d : decode k.1 pc = .ok (.arraylength, 1)) (he : ws[q]? = some (a, .inl (cA, b))) (ht : v.2.2.1[t]? = some (cA, fty)) (hy : Int32.ofNat b.1 = y)
    (n : G v l R Qf k (pc + 1) L (.int y :: st) ws cs sl) : G v l R Qf k pc L (.ref a :: st) ws cs sl := fun p e s m args below meth c A H locs ls C hP hD hS h => by
  exact va_alen C.1 C.2.1 C.2.2.2.2.2.2.2.2.2.1 hP q t he ht hy d (n p e s m args below meth c A H locs ls C hP hD hS h)
section ARR
variable {cA : ClassId} {M : Nat} {y z : Int32} {f : Nat → Int32}
theorem G_iald (q t : Nat) (d : decode k.1 pc = .ok (.iaload, 1)) (he : ws[q]? = some (a, .inl (cA, M, .inl f))) (ht : v.2.2.1[t]? = some (cA, .int)) (hin : vp_in y M) (n : G v l R Qf k (pc + 1) L (.int (f y.toNatClampNeg) :: st) ws cs sl) : G v l R Qf k pc L (.int y :: .ref a :: st) ws cs sl := fun p e s m args below meth c A H locs ls C hP hD hS h =>
  va_iald C.1 C.2.1 C.2.2.2.2.2.2.2.2.2.1 hP q t he ht hin d (n p e s m args below meth c A H locs ls C hP hD hS h)
theorem G_bald (q t : Nat) (d : decode k.1 pc = .ok (.baload, 1)) (he : ws[q]? = some (a, .inl (cA, M, .inl f))) (ht : v.2.2.1[t]? = some (cA, .byte)) (hin : vp_in y M) (n : G v l R Qf k (pc + 1) L (.int (f y.toNatClampNeg) :: st) ws cs sl) : G v l R Qf k pc L (.int y :: .ref a :: st) ws cs sl := fun p e s m args below meth c A H locs ls C hP hD hS h =>
  va_bald C.1 C.2.1 C.2.2.2.2.2.2.2.2.2.1 hP q t he ht hin d (n p e s m args below meth c A H locs ls C hP hD hS h)
theorem G_zald (q t : Nat) (d : decode k.1 pc = .ok (.baload, 1)) (he : ws[q]? = some (a, .inl (cA, M, .inl f))) (ht : v.2.2.1[t]? = some (cA, .boolean)) (hin : vp_in y M) (n : G v l R Qf k (pc + 1) L (.int (f y.toNatClampNeg) :: st) ws cs sl) : G v l R Qf k pc L (.int y :: .ref a :: st) ws cs sl := fun p e s m args below meth c A H locs ls C hP hD hS h =>
  va_zald C.1 C.2.1 C.2.2.2.2.2.2.2.2.2.1 hP q t he ht hin d (n p e s m args below meth c A H locs ls C hP hD hS h)
theorem G_lald {g : Nat → Int64} (q t : Nat) (d : decode k.1 pc = .ok (.laload, 1)) (he : ws[q]? = some (a, .inl (cA, M, .inr (.inl g)))) (ht : v.2.2.1[t]? = some (cA, .long)) (hin : vp_in y M) (n : G v l R Qf k (pc + 1) L (.long (g y.toNatClampNeg) :: st) ws cs sl) : G v l R Qf k pc L (.int y :: .ref a :: st) ws cs sl := fun p e s m args below meth c A H locs ls C hP hD hS h =>
  va_lald C.1 C.2.1 C.2.2.2.2.2.2.2.2.2.1 hP q t he ht hin d (n p e s m args below meth c A H locs ls C hP hD hS h)
theorem G_iast (q t : Nat) (d : decode k.1 pc = .ok (.iastore, 1)) (he : ws[q]? = some (a, .inl (cA, M, .inl f))) (ht : v.2.2.1[t]? = some (cA, .int)) (hin : vp_in y M) (hw : ws.set q (a, .inl (cA, M, .inl (upd f y.toNatClampNeg z))) = ws') (n : G v l R Qf k (pc + 1) L st ws' cs sl) : G v l R Qf k pc L (.int z :: .int y :: .ref a :: st) ws cs sl := fun p e s m args below meth c A H locs ls C hP hD hS h => by
  subst hw
  exact va_iast C.1 C.2.1 C.2.2.2.2.2.2.2.2.2.1 hP hD hS q t he ht hin d (fun H1 locs1 hP hD hS => n p e s m args below meth c A H1 locs1 ls C hP hD hS h)
theorem G_bast (q t : Nat) (d : decode k.1 pc = .ok (.bastore, 1)) (he : ws[q]? = some (a, .inl (cA, M, .inl f))) (ht : v.2.2.1[t]? = some (cA, .byte)) (hin : vp_in y M) (hw : ws.set q (a, .inl (cA, M, .inl (upd f y.toNatClampNeg (vp_nar .byte z)))) = ws') (n : G v l R Qf k (pc + 1) L st ws' cs sl) : G v l R Qf k pc L (.int z :: .int y :: .ref a :: st) ws cs sl := fun p e s m args below meth c A H locs ls C hP hD hS h => by
  subst hw
  exact va_bast C.1 C.2.1 C.2.2.2.2.2.2.2.2.2.1 hP hD hS q t he ht hin d (fun H1 locs1 hP hD hS => n p e s m args below meth c A H1 locs1 ls C hP hD hS h)
theorem G_zast (q t : Nat) (d : decode k.1 pc = .ok (.bastore, 1)) (he : ws[q]? = some (a, .inl (cA, M, .inl f))) (ht : v.2.2.1[t]? = some (cA, .boolean)) (hin : vp_in y M) (hw : ws.set q (a, .inl (cA, M, .inl (upd f y.toNatClampNeg (vp_nar .boolean z)))) = ws') (n : G v l R Qf k (pc + 1) L st ws' cs sl) : G v l R Qf k pc L (.int z :: .int y :: .ref a :: st) ws cs sl := fun p e s m args below meth c A H locs ls C hP hD hS h => by
  subst hw
  exact va_zast C.1 C.2.1 C.2.2.2.2.2.2.2.2.2.1 hP hD hS q t he ht hin d (fun H1 locs1 hP hD hS => n p e s m args below meth c A H1 locs1 ls C hP hD hS h)
theorem G_last {g : Nat → Int64} {u : Int64} (q t : Nat) (d : decode k.1 pc = .ok (.lastore, 1)) (he : ws[q]? = some (a, .inl (cA, M, .inr (.inl g)))) (ht : v.2.2.1[t]? = some (cA, .long)) (hin : vp_in y M) (hw : ws.set q (a, .inl (cA, M, .inr (.inl (vp_updL g y.toNatClampNeg u)))) = ws') (n : G v l R Qf k (pc + 1) L st ws' cs sl) : G v l R Qf k pc L (.long u :: .int y :: .ref a :: st) ws cs sl := fun p e s m args below meth c A H locs ls C hP hD hS h => by
  subst hw
  exact va_last C.1 C.2.1 C.2.2.2.2.2.2.2.2.2.1 hP hD hS q t he ht hin d (fun H1 locs1 hP hD hS => n p e s m args below meth c A H1 locs1 ls C hP hD hS h)
end ARR
theorem G_lcmp {y z : Int64} (d : decode k.1 pc = .ok (.lcmp, 1)) (n : G v l R Qf k (pc + 1) L (.int (lg_cmp y z) :: st) ws cs sl) : G v l R Qf k pc L (.long z :: .long y :: st) ws cs sl := fun p e s m args below meth c A H locs ls C hP hD hS h =>
  W.lcmp C.1 C.2.1 d (n p e s m args below meth c A H locs ls C hP hD hS h)
/-- Object.<init> -/
theorem G_obj (d : decode k.1 pc = .ok (.invokespecial i, 3)) (h1 : Cond.methodLink k.2.2.1 i Lib.objectInit ∈ v.2.2.2.2) (h2 : Cond.instanceMethod Lib.objectInit ∈ v.2.2.2.2) (h3 : Cond.code Lib.objectInit ⟨#[0xb1]⟩ 1 none ∈ v.2.2.2.2) (hf : 1 ≤ R.frames) (hlo : (st.map fun u => u.category).sum + 12 ≤ R.locals)
    (n : G v l R Qf k (pc + 3) L st ws cs sl) : G v l R Qf k pc L (.ref a :: st) ws cs sl := fun p e s m args below meth c A H locs ls C hP hD hS h => by
  obtain ⟨g1, g2, g3, g4, g5, g6, g7, g8, g9, g10, g11, g12, g13⟩ := id C
  exact W.objInit g1 g2 g4 (g8 _ h1) (g8 _ h2) (g8 _ h3) rfl (by rw [g3]; exact h.1) rfl d hf (by show 2 * 0 + _ + 12 ≤ _; omega) (n p e s m args below meth c A H locs ls C hP hD hS h)
/-- fewer cells, in any order -/
theorem G_sub (is : List Nat) (hn : va_nd is = true) (hw : is.map (fun i => ws[i]?) = ws'.map some) (n : G v l R Qf k pc L st ws' cs sl) : G v l R Qf k pc L st ws cs sl := fun p e s m args below meth c A H locs ls C hP hD hS h =>
  n p e s m args below meth c A H locs ls C (hP.sub is (g_fm hw)) (hD.sub is hn hw) hS h
/-- fewer listed locals -/
theorem G_lv (js : List Nat) (hw : lv_pick L js = L') (n : G v l R Qf k pc L' st ws cs sl) : G v l R Qf k pc L st ws cs sl := fun p e s m args below meth c A H locs ls C hP hD hS h =>
  n p e s m args below meth c A H locs ls C hP hD hS (lv_sub h js hw)
theorem G_widen {cs' sl' : Nat} (h1 : cs ≤ cs') (h2 : sl ≤ sl') (n : G v l R Qf k pc L st ws cs' sl') : G v l R Qf k pc L st ws cs sl := fun p e s m args below meth c A H locs ls C hP hD hS h =>
  W.widen h1 h2 (n p e s m args below meth c A H locs ls C hP hD hS h)
end GH
