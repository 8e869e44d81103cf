/-! G over a pool: references in arrays, casts, class objects; what a method may say of the pool behind it -/
/-- y is an object of the pool that may lie in a row of E -/
def gOb (v : gEnv) (P : List Nat) (F : Nat → va_E) (E : String) (y : Nat) : Prop := y ∈ P ∧ ∃ (ci : Nat) (fs : List Value) (C : String) (T : u_T) (N : Nat), F y = .inr (ci, fs) ∧ v.2.1[ci]? = some (C, T, N) ∧ ∀ A s H, v.2.2.2.1 A s H → va_Nw (.castable C E) s
def rSub (P P1 : List Nat) : Prop := ∀ b, b ∈ P → b ∈ P1
/-- the cells of P are as before, but for those of W -/
def rFr (W P : List Nat) (F F1 : Nat → va_E) : Prop := ∀ b, b ∈ P → b ∉ W → F1 b = F b
theorem rSub_rf {P : List Nat} : rSub P P := fun _ h => h
theorem rSub_tr {P P1 P2 : List Nat} (h : rSub P P1) (g : rSub P1 P2) : rSub P P2 := fun b hb => g b (h b hb)
theorem rSub_new {P P1 P2 : List Nat} {q : Nat} (h : rSub P P1) (g : ∀ b, b ∈ P2 ↔ b ∈ P1 ∨ b = q) : rSub P P2 := fun b hb => (g b).mpr (Or.inl (h b hb))
theorem rFr_rf {W P : List Nat} {F : Nat → va_E} : rFr W P F F := fun _ _ _ => rfl
theorem rFr_put {W P : List Nat} {F F1 F2 : Nat → va_E} {a : Nat} (h : rFr W P F F1) (g : ∀ b, b ≠ a → F2 b = F1 b) : rFr (a :: W) P F F2 := fun b hb hn => (g b (fun e => hn (e ▸ List.mem_cons_self))).trans (h b hb (fun z => hn (List.mem_cons_of_mem _ z)))
theorem rFr_put' {W P : List Nat} {F F1 F2 : Nat → va_E} {a : Nat} (ha : a ∈ W) (h : rFr W P F F1) (g : ∀ b, b ≠ a → F2 b = F1 b) : rFr W P F F2 := fun b hb hn => (g b (fun e => hn (e ▸ ha))).trans (h b hb hn)
theorem rFr_new {W P P1 : List Nat} {F F1 F2 : Nat → va_E} {q : Nat} (hs : rSub P P1) (hq : q ∉ P1) (h : rFr W P F F1) (g : ∀ b, b ≠ q → F2 b = F1 b) : rFr W P F F2 := fun b hb hn => (g b (fun e => hq (e ▸ hs b hb))).trans (h b hb hn)
/-- behind a call that wrote the cells of W1 -/
theorem rFr_call {W W1 W2 P P1 : List Nat} {F F1 F2 : Nat → va_E} (hs : rSub P P1) (h : rFr W P F F1) (g : rFr W1 P1 F1 F2) (hw : ∀ b, b ∈ P → b ∉ W2 → b ∉ W ∧ b ∉ W1) : rFr W2 P F F2 := fun b hb hn => (g b (hs b hb) (hw b hb hn).2).trans (h b hb (hw b hb hn).1)
theorem nm_n {b : Nat} : b ∉ ([] : List Nat) := List.not_mem_nil
theorem nm_c {b a : Nat} {W : List Nat} (h : b ≠ a) (g : b ∉ W) : b ∉ a :: W := fun z => by
  rcases List.mem_cons.mp z with e | z
  · exact h e
  · exact g z
theorem rFr_v {W W2 P : List Nat} {F F1 : Nat → va_E} (h : rFr W P F F1) (hw : ∀ b, b ∉ W2 → b ∉ W) : rFr W2 P F F1 := fun b hb hn => h b hb (hw b hn)
theorem rFr_w {W W2 P : List Nat} {F F1 : Nat → va_E} (h : rFr W P F F1) (hw : ∀ b, b ∈ W → b ∈ W2) : rFr W2 P F F1 := fun b hb hn => h b hb (fun z => hn (hw b z))
section GPR
variable {v : gEnv} {l : Launch} {R : Room} {Qf : gFin} {k : gKey} {pc : Nat} {L : List (Nat × Value)} {st : List Value} {P : List Nat} {F : Nat → va_E} {cs sl : Nat} {ws : va_W}
variable {a ci N i : Nat} {fs : List Value} {x : Value} {C : String} {T : u_T} {ty : Nat → FieldType}
theorem Gp_putF (f : Nat) (ha : a ∈ P) (he : F a = .inr (ci, fs)) (d : decode k.1 pc = .ok (.putfield i, 3)) (hc : gK v ci C T N ty) (hf : f < N) (hl : Cond.fieldLink k.2.2.1 i (T f).1 (T f).2.1 (T f).2.2.1 ∈ v.2.2.2.2) (hfin : (T f).2.2.2 = true) (hin : k.2.2.2.2.2.1 = "<init>") (hdc : (T f).1 = k.2.2.1) (hn : narrow (ty f) x = x) (hfit : fits (ty f) x = true) (hlen : f < fs.length)
    (n : ∀ F1 : Nat → va_E, F1 a = .inr (ci, fs.set f x) → (∀ b, b ≠ a → F1 b = F b) → G v l R Qf k (pc + 3) L st (va_pl P F1) cs sl) : G v l R Qf k pc L (x :: .ref a :: st) (va_pl P F) cs sl := fun p e s m args below meth c A H locs ls C hP hD hS h => by
  obtain ⟨q, hq⟩ := va_pl_get (X := []) (f := F) ha
  exact G_putF q f d (by rw [← he]; exact hq) hc hf hl hfin hin hdc hn hfit hlen (va_pl_set (X := []) hD ha hq) (n _ (va_up_self _ _ _) (fun b hb => va_up_ne _ _ hb)) p e s m args below meth c A H locs ls C hP hD hS h
variable {cA : ClassId} {M : Nat} {y z : Int32} {g : Nat → Option Nat}
theorem Gp_aald {fty : FieldType} (t : Nat) (ha : a ∈ P) (he : F a = .inl (cA, M, .inr (.inr (.inr (.inr g))))) (d : decode k.1 pc = .ok (.aaload, 1)) (ht : v.2.2.1[t]? = some (cA, fty)) (hr : fty.isReference = true) (hin : vp_in y M) (n : G v l R Qf k (pc + 1) L (va_rf (g y.toNatClampNeg) :: st) (va_pl P F) cs sl) : G v l R Qf k pc L (.int y :: .ref a :: st) (va_pl P F) cs sl := fun p e s m args below meth c A H locs ls C hP hD hS h => by
  obtain ⟨h1, h2, h3, h4, h5, h6, h7, h8, h9, h10, h11, h12, h13⟩ := id C
  obtain ⟨q, hq⟩ := va_pl_get (X := []) (f := F) ha
  rw [he] at hq
  have hlt : y.toNatClampNeg < M := Nat.not_le.mp fun q => hin (Or.inr q)
  exact W.aald (v := va_rf (g y.toNatClampNeg)) (ty := fty) h1 h2 (hP q _ hq) ((h10.2 t _ ht).1 M (fun j => va_rf (g j))) hr (fun q => by cases q) (by show ¬ (y < 0 ∨ (arrV _ _ _).slots.size ≤ _); rw [arrV_size]; exact hin) (by show (arrV _ _ _).slots[_]? = _; rw [arrV_read _ _ hlt]) rfl rfl d (n p e s m args below meth c A H locs ls C hP hD hS h)
theorem Gp_aast {E : String} {w : Nat} (t : Nat) (ha : a ∈ P) (he : F a = .inl (cA, M, .inr (.inr (.inr (.inr g))))) (d : decode k.1 pc = .ok (.aastore, 1)) (ht : v.2.2.1[t]? = some (cA, .object E)) (ho : gOb v P F E w) (hin : vp_in y M)
    (n : ∀ F1 : Nat → va_E, F1 a = .inl (cA, M, .inr (.inr (.inr (.inr (va_up g y.toNatClampNeg (some w)))))) → (∀ b, b ≠ a → F1 b = F b) → G v l R Qf k (pc + 1) L st (va_pl P F1) cs sl) : G v l R Qf k pc L (.ref w :: .int y :: .ref a :: st) (va_pl P F) cs sl := fun p e s m args below meth c A H locs ls C hP hD hS h => by
  obtain ⟨h1, h2, h3, h4, h5, h6, h7, h8, h9, h10, h11, h12, h13⟩ := id C
  obtain ⟨q, hq⟩ := va_pl_get (X := []) (f := F) ha
  obtain ⟨hw, ci, vs, C9, T9, N9, e1, e2, e3⟩ := ho
  obtain ⟨qk, hqk⟩ := va_pl_get (X := []) (f := F) hw
  rw [e1] at hqk
  have hset := fun e => va_pl_set (X := []) (e := e) hD ha hq
  rw [he] at hq
  refine va_astqO h1 h2 h10 hP hD hS q t qk ci hq ht (e3 _ _ _ h12) hqk e2 hin d (fun H1 locs1 hP1 hD1 hS1 => ?_)
  have hs := hset (.inl (cA, M, .inr (.inr (.inr (.inr (va_up g y.toNatClampNeg (some w)))))))
  rw [List.nil_append] at hs
  rw [hs] at hP1 hD1
  exact n _ (va_up_self _ _ _) (fun b hb => va_up_ne _ _ hb) p e s m args below meth c A H1 locs1 ls C hP1 hD1 hS1 h
theorem Gp_aastN {E : String} (t : Nat) (ha : a ∈ P) (he : F a = .inl (cA, M, .inr (.inr (.inr (.inr g))))) (d : decode k.1 pc = .ok (.aastore, 1)) (ht : v.2.2.1[t]? = some (cA, .object E)) (hin : vp_in y M)
    (n : ∀ F1 : Nat → va_E, F1 a = .inl (cA, M, .inr (.inr (.inr (.inr (va_up g y.toNatClampNeg none))))) → (∀ b, b ≠ a → F1 b = F b) → G v l R Qf k (pc + 1) L st (va_pl P F1) cs sl) : G v l R Qf k pc L (.null :: .int y :: .ref a :: st) (va_pl P F) cs sl := fun p e s m args below meth c A H locs ls C hP hD hS h => by
  obtain ⟨h1, h2, h3, h4, h5, h6, h7, h8, h9, h10, h11, h12, h13⟩ := id C
  obtain ⟨q, hq⟩ := va_pl_get (X := []) (f := F) ha
  have hset := fun e => va_pl_set (X := []) (e := e) hD ha hq
  rw [he] at hq
  refine va_astqN h1 h2 h10 hP hD hS q t hq ht hin d (fun H1 locs1 hP1 hD1 hS1 => ?_)
  have hs := hset (.inl (cA, M, .inr (.inr (.inr (.inr (va_up g y.toNatClampNeg none))))))
  rw [List.nil_append] at hs
  rw [hs] at hP1 hD1
  exact n _ (va_up_self _ _ _) (fun b hb => va_up_ne _ _ hb) p e s m args below meth c A H1 locs1 ls C hP1 hD1 hS1 h
theorem Gp_newq {E : String} (t : Nat) (d : decode k.1 pc = .ok (.anewarray i, 3)) (w1 : Cond.classLink k.2.2.1 i E ∈ v.2.2.2.2) (w2 : ∀ A s H, v.2.2.2.1 A s H → va_AO E s) (ht : v.2.2.1[t]? = some (cA, .object E)) (hn : ¬ z < 0) (hM : z.toNatClampNeg = M) (hb : M * 4 ≤ 536870912) (hcs : cs + 1 ≤ R.cells) (hsl : sl + M ≤ R.slots)
    (n : ∀ (q : Nat) (P1 : List Nat) (F1 : Nat → va_E), q ∉ P → (∀ b, b ∈ P1 ↔ b ∈ P ∨ b = q) → F1 q = .inl (cA, M, .inr (.inr (.inr (.inr (fun _ => none))))) → (∀ b, b ≠ q → F1 b = F b) → G v l R Qf k (pc + 3) L (.ref q :: st) (va_pl P1 F1) (cs + 1) (sl + M)) : G v l R Qf k pc L (.int z :: st) (va_pl P F) cs sl := fun p e s m args below meth c A H locs ls C hP hD hS h => by
  obtain ⟨h1, h2, h3, h4, h5, h6, h7, h8, h9, h10, h11, h12, h13⟩ := id C
  refine va_newq h1 h2 h4 (h8 _ w1) (w2 _ _ _ h12) h10 hP hD hS h11 hn hM hb hcs hsl d (fun q cB H1 hK1 hP1 hD1 hS1 => ?_)
  obtain ⟨-, -, -, -, -, e1⟩ := (h10.2 t _ ht).2
  have e0 : (v.2.2.1 ++ [(cB, FieldType.object E)])[v.2.2.1.length]? = some (cB, FieldType.object E) := by rw [List.getElem?_append_right (Nat.le_refl _), Nat.sub_self]; rfl
  obtain ⟨-, -, -, -, -, e2⟩ := (hK1.2 _ _ e0).2
  have ec : cB = cA := Option.some.inj (e2.symm.trans e1)
  subst ec
  exact Gp_in (n q) p e s m args below meth c A H1 locs ls C hP1 hD1 hS1 h
theorem gOb_any {E : String} {w : Nat} {s : State} {H : Heap} {A : Nat → Prop} (hK : va_K v.1 v.2.1 v.2.2.1 s) (hP : va_P v.1 v.2.1 (va_pl P F) H) (hE : v.2.2.2.1 A s s.heap) (ho : gOb v P F E w) : va_Any E s H w := by
  obtain ⟨hw, ci, vs, C9, T9, N9, e1, e2, e3⟩ := ho
  obtain ⟨qk, hqk⟩ := va_pl_get (X := []) (f := F) hw
  rw [e1] at hqk
  refine va_rAny (r := (C9, T9, N9)) hK hP hqk e2 (fun comp c0 g1 g2 => ?_)
  obtain ⟨c1, t1, f1, f2, f3⟩ := Cond.castable_spec (va_Nw.use (A := #[]) rfl (e3 _ _ _ hE))
  cases g2.symm.trans f1
  cases g1.symm.trans f2
  exact f3
theorem Gp_copyq {E : String} {a0 n0 n1 : Nat} {f : Nat → Option Nat} {sp dp n : Int32} (t : Nat) (ha0 : a0 ∈ P) (ha : a ∈ P) (he0 : F a0 = .inl (cA, n0, .inr (.inr (.inr (.inr f))))) (he : F a = .inl (cA, n1, .inr (.inr (.inr (.inr g))))) (d : decode k.1 pc = .ok (.invokestatic i, 3))
    (w1 : Cond.methodLink k.2.2.1 i arraycopyName ∈ v.2.2.2.2) (w2 : Cond.native arraycopyName ∈ v.2.2.2.2) (w3 : Cond.static arraycopyName ∈ v.2.2.2.2) (w4 : Cond.initialized "java/lang/System" ∈ v.2.2.2.2) (ht : v.2.2.1[t]? = some (cA, .object E))
    (h1 : 0 ≤ sp.toInt) (h2 : 0 ≤ dp.toInt) (h3 : 0 ≤ n.toInt) (h4 : sp.toInt + n.toInt ≤ n0) (h5 : dp.toInt + n.toInt ≤ n1) (hel : ∀ j : Nat, (j : Int) < sp.toInt + n.toInt → ∀ w, f j = some w → gOb v P F E w) (hf : 1 ≤ R.frames) (hlo : (st.map fun u => u.category).sum + 18 ≤ R.locals)
    (kk : ∀ F1 : Nat → va_E, F1 a = .inl (cA, n1, .inr (.inr (.inr (.inr (va_cpy f g sp.toNatClampNeg dp.toNatClampNeg n.toNatClampNeg))))) → (∀ b, b ≠ a → F1 b = F b) → G v l R Qf k (pc + 3) L st (va_pl P F1) cs sl) : G v l R Qf k pc L (.int n :: .int dp :: .ref a :: .int sp :: .ref a0 :: st) (va_pl P F) cs sl := fun p e s m args below meth c A H locs ls C hP hD hS h => by
  obtain ⟨g1, g2, g3, g4, g5, g6, g7, g8, g9, g10, g11, g12, g13⟩ := id C
  have e1 := g_nn h1
  have e2 := g_nn h2
  have e3 := g_nn h3
  obtain ⟨q0, hq0⟩ := va_pl_get (X := []) (f := F) ha0
  obtain ⟨q, hq⟩ := va_pl_get (X := []) (f := F) ha
  have hset := fun e => va_pl_set (X := []) (e := e) hD ha hq
  rw [he] at hq
  rw [he0] at hq0
  refine va_copyM g1 g2 (by rw [g3]; exact h.1.symm) g4 (g8 _ w1) (g8 _ w2) (g8 _ w3) (g8 _ w4) g10 hP hD hS q0 q t t hq0 hq ht ht (g_n0 h1) (g_n0 h2) (g_n0 h3) (by omega) (by omega) (fun j hj w hw => gOb_any g10 hP g12 (hel _ (by omega) w hw)) hf hlo d (fun H1 locs1 hP1 hD1 hS1 => ?_)
  have hs := hset (.inl (cA, n1, .inr (.inr (.inr (.inr (va_cpy f g sp.toNatClampNeg dp.toNatClampNeg n.toNatClampNeg))))))
  rw [List.nil_append] at hs
  rw [hs] at hP1 hD1
  exact kk _ (va_up_self _ _ _) (fun b hb => va_up_ne _ _ hb) p e s m args below meth c A H1 locs1 ls C hP1 hD1 hS1 h
theorem Gp_copyp {ty : FieldType} {a0 n0 n1 : Nat} {f g : Nat → Int32} {sp dp n : Int32} (t : Nat) (ha0 : a0 ∈ P) (ha : a ∈ P) (he0 : F a0 = .inl (cA, n0, .inl f)) (he : F a = .inl (cA, n1, .inl g)) (d : decode k.1 pc = .ok (.invokestatic i, 3))
    (w1 : Cond.methodLink k.2.2.1 i arraycopyName ∈ v.2.2.2.2) (w2 : Cond.native arraycopyName ∈ v.2.2.2.2) (w3 : Cond.static arraycopyName ∈ v.2.2.2.2) (w4 : Cond.initialized "java/lang/System" ∈ v.2.2.2.2) (ht : v.2.2.1[t]? = some (cA, ty)) (hpr : refKind ty = false) (hfit : ∀ j, fits ty (.int (f j)) = true)
    (h1 : 0 ≤ sp.toInt) (h2 : 0 ≤ dp.toInt) (h3 : 0 ≤ n.toInt) (h4 : sp.toInt + n.toInt ≤ n0) (h5 : dp.toInt + n.toInt ≤ n1) (hf : 1 ≤ R.frames) (hlo : (st.map fun u => u.category).sum + 18 ≤ R.locals)
    (kk : ∀ F1 : Nat → va_E, F1 a = .inl (cA, n1, .inl (va_cpy f g sp.toNatClampNeg dp.toNatClampNeg n.toNatClampNeg)) → (∀ b, b ≠ a → F1 b = F b) → G v l R Qf k (pc + 3) L st (va_pl P F1) cs sl) : G v l R Qf k pc L (.int n :: .int dp :: .ref a :: .int sp :: .ref a0 :: st) (va_pl P F) cs sl := fun p e s m args below meth c A H locs ls C hP hD hS h => by
  obtain ⟨g1, g2, g3, g4, g5, g6, g7, g8, g9, g10, g11, g12, g13⟩ := id C
  have e1 := g_nn h1
  have e2 := g_nn h2
  have e3 := g_nn h3
  obtain ⟨q0, hq0⟩ := va_pl_get (X := []) (f := F) ha0
  obtain ⟨q, hq⟩ := va_pl_get (X := []) (f := F) ha
  have hset := fun e => va_pl_set (X := []) (e := e) hD ha hq
  rw [he] at hq
  rw [he0] at hq0
  refine va_copyi g1 g2 (by rw [g3]; exact h.1.symm) g4 (g8 _ w1) (g8 _ w2) (g8 _ w3) (g8 _ w4) g10 hP hD hS q0 q t t hq0 hq ht ht hpr (g_n0 h1) (g_n0 h2) (g_n0 h3) (by omega) (by omega) (fun j _ => hfit _) hf hlo d (fun H1 locs1 hP1 hD1 hS1 => ?_)
  have hs := hset (.inl (cA, n1, .inl (va_cpy f g sp.toNatClampNeg dp.toNatClampNeg n.toNatClampNeg)))
  rw [List.nil_append] at hs
  rw [hs] at hP1 hD1
  exact kk _ (va_up_self _ _ _) (fun b hb => va_up_ne _ _ hb) p e s m args below meth c A H1 locs1 ls C hP1 hD1 hS1 h
theorem Gp_cast {nm : String} (ha : a ∈ P) (he : F a = .inr (ci, fs)) (hcl : v.2.1[ci]? = some (C, T, N)) (d : decode k.1 pc = .ok (.checkcast i, 3)) (w1 : Cond.classLink k.2.2.1 i nm ∈ v.2.2.2.2) (hca : ∀ A s H, v.2.2.2.1 A s H → va_Nw (.castable C nm) s) (n : G v l R Qf k (pc + 3) L (.ref a :: st) (va_pl P F) cs sl) : G v l R Qf k pc L (.ref a :: st) (va_pl P F) cs sl := fun p e s m args below meth c A H locs ls C hP hD hS h => by
  obtain ⟨h1, h2, h3, h4, h5, h6, h7, h8, h9, h10, h11, h12, h13⟩ := id C
  obtain ⟨q, hq⟩ := va_pl_get (X := []) (f := F) ha
  rw [he] at hq
  exact va_castY h1 h2 h4 (h8 _ w1) (hca _ _ _ h12) (va_recv h10 hP hcl hq) d (n p e s m args below meth c A H locs ls C hP hD hS h)
theorem Gp_getC {E nm : String} {mi : Nat} (t : Nat) (ha : a ∈ P) (he : F a = .inl (cA, M, .inr (.inr (.inr (.inr g))))) (ht : v.2.2.1[t]? = some (cA, .object E)) (hnm : "[" ++ (FieldType.object E).toString = nm) (d : decode k.1 pc = .ok (.invokevirtual i, 3)) (w1 : Cond.methodLink k.2.2.1 i ⟨"java/lang/Object", "getClass", "()Ljava/lang/Class;"⟩ ∈ v.2.2.2.2)
    (w2 : Cond.selects nm ⟨"java/lang/Object", "getClass", "()Ljava/lang/Class;"⟩ ⟨"java/lang/Object", "getClass", "()Ljava/lang/Class;"⟩ ∈ v.2.2.2.2) (w3 : Cond.instanceMethod ⟨"java/lang/Object", "getClass", "()Ljava/lang/Class;"⟩ ∈ v.2.2.2.2) (w4 : Cond.native ⟨"java/lang/Object", "getClass", "()Ljava/lang/Class;"⟩ ∈ v.2.2.2.2)
    (hE : ∀ A s H, v.2.2.2.1 A s H → va_Mi nm mi s ∧ va_Dc s) (hf : 1 ≤ R.frames) (hlo : (st.map fun u => u.category).sum + 14 ≤ R.locals) (n : G v l R Qf k (pc + 3) L (.ref mi :: st) (va_pl P F) cs sl) : G v l R Qf k pc L (.ref a :: st) (va_pl P F) cs sl := fun p e s m args below meth c A H locs ls C hP hD hS h => by
  obtain ⟨h1, h2, h3, h4, h5, h6, h7, h8, h9, h10, h11, h12, h13⟩ := id C
  obtain ⟨q, hq⟩ := va_pl_get (X := []) (f := F) ha
  rw [he] at hq
  obtain ⟨e1, e2⟩ := hE _ _ _ h12
  exact va_getC h1 h2 (by rw [h3]; exact h.1.symm) h4 (h8 _ w1) (va_Dc.use e2) (h8 _ w2) (h8 _ w3) (h8 _ w4) e1 ⟨_, hP q _ hq, rfl, va_nmO (h10.2 t _ ht).2 hnm⟩ hf hlo d (n p e s m args below meth c A H locs ls C hP hD hS h)
theorem G_ldcM {nm : String} {mi : Nat} (d : decode k.1 pc = .ok (.ldc i, 2)) (w1 : Cond.classLink k.2.2.1 i nm ∈ v.2.2.2.2) (hE : ∀ A s H, v.2.2.2.1 A s H → va_Mi nm mi s) (n : G v l R Qf k (pc + 2) L (.ref mi :: st) ws cs sl) : G v l R Qf k pc L st ws cs sl := fun p e s m args below meth c A H locs ls C hP hD hS h => by
  obtain ⟨h1, h2, h3, h4, h5, h6, h7, h8, h9, h10, h11, h12, h13⟩ := id C
  exact va_ldcM h1 h2 h4 (h8 _ w1) (hE _ _ _ h12) d (n p e s m args below meth c A H locs ls C hP hD hS h)
theorem G_acmp_eq {x y : Nat} {o : Int} (tgt : Nat) (d : decode k.1 pc = .ok (.if_acmp .eq o, 3)) (ht : (pc : Int) + o = (tgt : Int)) (kt : x = y → G v l R Qf k tgt L st ws cs sl) (kf : ¬ x = y → G v l R Qf k (pc + 3) L st ws cs sl) : G v l R Qf k pc L (.ref y :: .ref x :: st) ws cs sl := fun p e s m args below meth c A H locs ls C hP hD hS h =>
  lv_acmp_eq (rx := some x) (ry := some y) C.1 C.2.1 d ht (fun e9 => kt (Option.some.inj e9) p e s m args below meth c A H locs ls C hP hD hS h) (fun e9 => kf (fun z => e9 (congrArg some z)) p e s m args below meth c A H locs ls C hP hD hS h)
theorem G_acmp_ne {x y : Nat} {o : Int} (tgt : Nat) (d : decode k.1 pc = .ok (.if_acmp .ne o, 3)) (ht : (pc : Int) + o = (tgt : Int)) (kt : ¬ x = y → G v l R Qf k tgt L st ws cs sl) (kf : x = y → G v l R Qf k (pc + 3) L st ws cs sl) : G v l R Qf k pc L (.ref y :: .ref x :: st) ws cs sl := fun p e s m args below meth c A H locs ls C hP hD hS h =>
  lv_acmp_ne (rx := some x) (ry := some y) C.1 C.2.1 d ht (fun e9 => kt (fun z => e9 (congrArg some z)) p e s m args below meth c A H locs ls C hP hD hS h) (fun e9 => kf (Option.some.inj e9) p e s m args below meth c A H locs ls C hP hD hS h)
end GPR
theorem gr_cast {D : va_G} {a b : String} (i : Nat) (h : gCast[i]? = some (a, b)) : ∀ A s H, gExS D A s H → va_Nw (.castable a b) s := fun _ _ _ hE => hE.2.2.2.1 _ (List.mem_of_getElem? h)
theorem gr_mi {D : va_G} : ∀ A s H, gExS D A s H → va_Mi "[Ljava/lang/Object;" (D.2 1002 0) s ∧ va_Dc s := fun _ _ _ hE => ⟨hE.2.2.2.2.1, hE.2.2.2.2.2.1⟩
theorem gr_de {D : va_G} (A : Nat → Prop) (s : State) (H : Heap) (hE : gExS D A s H) : ∃ x, x = Value.ref (D.2 1002 1) ∧ va_Z "java/util/ArrayList" "DEFAULTCAPACITY_EMPTY_ELEMENTDATA" "[Ljava/lang/Object;" x A s H := ⟨_, rfl, hE.2.2.2.2.2.2.1⟩
theorem gr_dt {D : va_G} : ∀ A s H, gExS D A s H → va_T (.object "java/lang/Object") (D.2 1002 1) 0 (fun _ => .null) A s H := fun _ _ _ hE => hE.2.2.2.2.2.2.2.1
theorem gr_on {D : va_G} (A : Nat → Prop) (s : State) (H : Heap) (hE : gExS D A s H) : ∃ x, x = Value.ref (D.2 1002 2) ∧ va_Z "java/lang/Integer" "DigitOnes" "[B" x A s H := ⟨_, rfl, hE.2.2.2.2.2.2.2.2.1⟩
theorem gr_ont {D : va_G} : ∀ A s H, gExS D A s H → va_T .byte (D.2 1002 2) 100 (fun j => .int (dg_O j)) A s H := fun _ _ _ hE => hE.2.2.2.2.2.2.2.2.2.1
theorem gr_te {D : va_G} (A : Nat → Prop) (s : State) (H : Heap) (hE : gExS D A s H) : ∃ x, x = Value.ref (D.2 1002 3) ∧ va_Z "java/lang/Integer" "DigitTens" "[B" x A s H := ⟨_, rfl, hE.2.2.2.2.2.2.2.2.2.2.1⟩
theorem gr_tet {D : va_G} : ∀ A s H, gExS D A s H → va_T .byte (D.2 1002 3) 100 (fun j => .int (dg_T j)) A s H := fun _ _ _ hE => hE.2.2.2.2.2.2.2.2.2.2.2.1
theorem gr_ao {D : va_G} : ∀ A s H, gExS D A s H → va_AO "java/lang/Object" s := fun _ _ _ hE => hE.2.2.2.2.2.2.2.2.2.2.2.2
