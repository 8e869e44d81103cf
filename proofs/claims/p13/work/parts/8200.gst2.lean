/-! G over a pool: instanceof and casts to the object's own class, clone of a row of bytes, a call that selects another class's method -/
section GST2
variable {v : gEnv} {l : Launch} {R : Room} {Qf : gFin} {k : gKey} {pc i cs sl a b : Nat} {L : List (Nat × Value)} {st : List Value} {P : List Nat} {F : Nat → va_E} {ws : va_W}
theorem gAt {C : String} {N : Nat} {s : State} {args : Array Value} (h : (Cond.instantiable C N).before args s = true) : ∃ cC, ClassAt s C cC := by
  obtain ⟨c, k, hc, hk, ho, -⟩ := Cond.instantiable_spec h
  exact ⟨c, hc, k, hk, ho⟩
theorem Gp_inst {C : String} {ci N N2 : Nat} {T : u_T} {fs : List Value} (ha : a ∈ P) (he : F a = .inr (ci, fs)) (hcl : v.2.1[ci]? = some (C, T, N)) (d : decode k.1 pc = .ok (.instanceof i, 3)) (w1 : Cond.classLink k.2.2.1 i C ∈ v.2.2.2.2) (w2 : Cond.instantiable C N2 ∈ v.2.2.2.2) (n : G v l R Qf k (pc + 3) L (.int 1 :: st) (va_pl P F) cs sl) : G v l R Qf k pc L (.ref a :: st) (va_pl P F) cs sl := fun p e s m args below meth c A H locs ls C hP hD hS h => by
  obtain ⟨h1, h2, h3, h4, h5, h6, h7, h8, h9, h10, h11, h12, h13⟩ := id C
  obtain ⟨q, hq⟩ := va_pl_get (X := []) (f := F) ha
  rw [he] at hq
  obtain ⟨cC, hC⟩ := gAt (h8 _ w2)
  exact va_instS h1 h2 h4 (h8 _ w1) hC (va_recv h10 hP hcl hq) d (n p e s m args below meth c A H locs ls C hP hD hS h)
theorem Gp_casS {C : String} {ci N N2 : Nat} {T : u_T} {fs : List Value} (ha : a ∈ P) (he : F a = .inr (ci, fs)) (hcl : v.2.1[ci]? = some (C, T, N)) (d : decode k.1 pc = .ok (.checkcast i, 3)) (w1 : Cond.classLink k.2.2.1 i C ∈ v.2.2.2.2) (w2 : Cond.instantiable C N2 ∈ v.2.2.2.2) (n : G v l R Qf k (pc + 3) L (.ref a :: st) (va_pl P F) cs sl) : G v l R Qf k pc L (.ref a :: st) (va_pl P F) cs sl := fun p e s m args below meth c A H locs ls C hP hD hS h => by
  obtain ⟨h1, h2, h3, h4, h5, h6, h7, h8, h9, h10, h11, h12, h13⟩ := id C
  obtain ⟨q, hq⟩ := va_pl_get (X := []) (f := F) ha
  rw [he] at hq
  obtain ⟨cC, hC⟩ := gAt (h8 _ w2)
  exact va_castS h1 h2 h4 (h8 _ w1) hC (va_recv h10 hP hcl hq) d (n p e s m args below meth c A H locs ls C hP hD hS h)
theorem G_instK {C : String} {N2 : Nat} (d : decode k.1 pc = .ok (.instanceof i, 3)) (w1 : Cond.classLink k.2.2.1 i C ∈ v.2.2.2.2) (w2 : Cond.instantiable C N2 ∈ v.2.2.2.2) (hE : ∀ A s H, v.2.2.2.1 A s H → va_O C a A s H) (n : G v l R Qf k (pc + 3) L (.int 1 :: st) ws cs sl) : G v l R Qf k pc L (.ref a :: st) ws cs sl := fun p e s m args below meth c A H locs ls C hP hD hS h => by
  obtain ⟨h1, h2, h3, h4, h5, h6, h7, h8, h9, h10, h11, h12, h13⟩ := id C
  obtain ⟨cC, hC⟩ := gAt (h8 _ w2)
  exact va_instS h1 h2 h4 (h8 _ w1) hC (va_Orecv (hE _ _ _ h12) hS) d (n p e s m args below meth c A H locs ls C hP hD hS h)
theorem G_casK {C : String} {N2 : Nat} (d : decode k.1 pc = .ok (.checkcast i, 3)) (w1 : Cond.classLink k.2.2.1 i C ∈ v.2.2.2.2) (w2 : Cond.instantiable C N2 ∈ v.2.2.2.2) (hE : ∀ A s H, v.2.2.2.1 A s H → va_O C a A s H) (n : G v l R Qf k (pc + 3) L (.ref a :: st) ws cs sl) : G v l R Qf k pc L (.ref a :: st) ws cs sl := fun p e s m args below meth c A H locs ls C hP hD hS h => by
  obtain ⟨h1, h2, h3, h4, h5, h6, h7, h8, h9, h10, h11, h12, h13⟩ := id C
  obtain ⟨cC, hC⟩ := gAt (h8 _ w2)
  exact va_castS h1 h2 h4 (h8 _ w1) hC (va_Orecv (hE _ _ _ h12) hS) d (n p e s m args below meth c A H locs ls C hP hD hS h)
theorem Gp_casA {cA : ClassId} {x : vp_A} (t : Nat) (ha : a ∈ P) (he : F a = .inl (cA, x)) (ht : v.2.2.1[t]? = some (cA, .byte)) (d : decode k.1 pc = .ok (.checkcast i, 3)) (w1 : Cond.classLink k.2.2.1 i "[B" ∈ v.2.2.2.2) (n : G v l R Qf k (pc + 3) L (.ref a :: st) (va_pl P F) cs sl) : G v l R Qf k pc L (.ref a :: st) (va_pl P F) cs sl := fun p e s m args below meth c A H locs ls C hP hD hS h => by
  obtain ⟨h1, h2, h3, h4, h5, h6, h7, h8, h9, h10, h11, h12, h13⟩ := id C
  obtain ⟨q, hq⟩ := va_pl_get (X := []) (f := F) ha
  rw [he] at hq
  exact va_castA h1 h2 h4 (h8 _ w1) hP q hq (va_nm_byte (h10.2 t _ ht).2) d (n p e s m args below meth c A H locs ls C hP hD hS h)
theorem Gp_clone {cA : ClassId} {N : Nat} {f : Nat → Int32} (t : Nat) (ha : a ∈ P) (he : F a = .inl (cA, N, .inl f)) (ht : v.2.2.1[t]? = some (cA, .byte)) (d : decode k.1 pc = .ok (.invokevirtual i, 3)) (w1 : Cond.methodLink k.2.2.1 i ⟨"[B", "clone", "()Ljava/lang/Object;"⟩ ∈ v.2.2.2.2) (w2 : Cond.sameMethod "[B" "java/lang/Object" "clone" "()Ljava/lang/Object;" ∈ v.2.2.2.2)
    (w3 : Cond.native ⟨"java/lang/Object", "clone", "()Ljava/lang/Object;"⟩ ∈ v.2.2.2.2) (w4 : Cond.instanceMethod ⟨"java/lang/Object", "clone", "()Ljava/lang/Object;"⟩ ∈ v.2.2.2.2) (w5 : Cond.selects "[B" ⟨"[B", "clone", "()Ljava/lang/Object;"⟩ ⟨"java/lang/Object", "clone", "()Ljava/lang/Object;"⟩ ∈ v.2.2.2.2) (hcl : ∀ A s H, v.2.2.2.1 A s H → va_Nw (.castable "[B" "java/lang/Cloneable") s)
    (hb : gF f (-128) 127) (hfr : 1 ≤ R.frames) (hlo : (st.map fun u => u.category).sum + 14 ≤ R.locals) (hcs : cs + 1 ≤ R.cells) (hsl : sl + N ≤ R.slots)
    (n : ∀ (q : Nat) (P1 : List Nat) (F1 : Nat → va_E), q ∉ P → (∀ b, b ∈ P1 ↔ b ∈ P ∨ b = q) → F1 q = .inl (cA, N, .inl f) → (∀ b, b ≠ q → F1 b = F b) → G v l R Qf k (pc + 3) L (.ref q :: st) (va_pl P1 F1) (cs + 1) (sl + N)) : G v l R Qf k pc L (.ref a :: st) (va_pl P F) cs sl := fun p e s m args below meth c A H locs ls C hP hD hS h => by
  obtain ⟨h1, h2, h3, h4, h5, h6, h7, h8, h9, h10, h11, h12, h13⟩ := id C
  obtain ⟨q, hq⟩ := va_pl_get (X := []) (f := F) ha
  rw [he] at hq
  refine va_clone h1 h2 (by rw [h3]; exact h.1.symm) h4 (h8 _ w1) (h8 _ w2) (h8 _ w3) (h8 _ w4) (h8 _ w5) (hcl _ _ _ h12) h10 hP hD hS h11 q t hq ht (va_nm_byte (h10.2 t _ ht).2) (fun j u hu => ?_) hfr hlo hcs hsl d (fun q1 H1 hK1 hP1 hD1 hS1 => Gp_in (n q1) p e s m args below meth c A H1 locs ls C hP1 hD1 hS1 h)
  have hj : u = .int (f j) := by
    have hu2 : (arrV cA N (fun j => Value.int (f j))).slots[j]? = some u := hu
    have hlt : j < N := by
      have := (Array.getElem?_eq_some_iff.mp hu2).1
      rw [arrV_size] at this
      exact this
    rw [arrV_read _ _ hlt] at hu2
    exact (Option.some.inj hu2).symm
  rw [hj]
  exact gT_byte (hb j)
end GST2
section GCVU
variable {p : Program} {l : Launch} {e : Env} {R : Room} {s : State} {m : MethodId} {args : Array Value} {below : List Frame} {meth : Method} {c : Code}
theorem vx_callVU {T : State} {locs : List Loc} {cells slots : Nat} (X : Stand p l e R s m args below meth c T locs cells slots) (hexec : p.tables.exec = Jvm.exec) {own C owner : String} {index : Nat} {x y : MethodName}
    (hown : s.vm.findClass own = some m.cls) (hlink : (Cond.methodLink own index x).before args s = true) (hsame : (Cond.sameMethod x.cls owner x.name x.desc).before args s = true)
    (hd0 : va_Decl s ⟨owner, x.name, x.desc⟩) (howner : owner ≠ "java/lang/invoke/MethodHandle" ∧ owner ≠ "java/lang/invoke/VarHandle")
    (hsel : (Cond.selects C x y).before args s = true) (hinst : (Cond.instanceMethod y).before args s = true)
    {W9 : Nat} {Pre : Pt → Array Value → Prop} {Post : Pt → Array Value → Option Value → Pt → Prop} {PostX : Pt → Array Value → Addr → Pt → Prop} (hK : vx_Back l R p e below s args y 3 W9 Pre Post PostX)
    {b : Addr} {cellB : Cell} (hcell : T.heap[b]? = some cellB) (hobj : cellB.vm.isStatics = false) (hcls : s.vm.findClass C = some cellB.cls)
    {g : JFrame} (hg : g.method = m) (hsize : g.locals.size = c.maxLocals) {argsL rest : List Value} (hlen : ∀ sig, parseMethodDescriptor x.desc = some sig → argsL.length = sig.parameters.length)
    (hstack : g.stack = argsL.reverse ++ .ref b :: rest) (hW : 2 * g.monitorRoom + (rest.map fun v => v.category).sum ≤ W9) (hdg : decode c.code g.pc = .ok (.invokevirtual index, 3))
    (hpre : ∀ vm₁, s.WarmedH vm₁ → Pre ⟨T.setVm vm₁, locs, cells, slots⟩ (Value.ref b :: argsL).toArray) :
    (∃ (v : Option Value) (vm₁ : Vm) (B : Pt), s.WarmedH vm₁ ∧ Stand p l e R s m args below meth c B.U B.locs B.cells B.slots ∧ Post ⟨T.setVm vm₁, locs, cells, slots⟩ (Value.ref b :: argsL).toArray v B ∧
      ∀ target, Steps p.tables e below (B.U.setTop { g with pc := g.pc + 3, stack := v.toList ++ rest }) target → Steps p.tables e below (T.setTop g) target) ∨
    (∃ (q : Addr) (vm₁ : Vm) (B : Pt), s.WarmedH vm₁ ∧ Stand p l e R s m args below meth c B.U B.locs B.cells B.slots ∧ PostX ⟨T.setVm vm₁, locs, cells, slots⟩ (Value.ref b :: argsL).toArray q B ∧
      Steps p.tables e below (T.setTop g) ((B.U.setTop { g with stack := rest }).pushFrame (.throwing q))) := by
  obtain ⟨r0, r, hn, hrm, hstR, hsigR⟩ := hd0
  obtain ⟨cn, ck, r1, hcn, hck, hni, hf, hn1⟩ := Cond.sameMethod_found hsame
  cases hn.symm.trans hn1
  obtain ⟨mk, methM, hnamed, hmethM, -, habM⟩ := Cond.instanceMethod_spec hinst
  obtain ⟨c2, r2, m2, q1, q2, q3, q4, kP, hkP, hkPi⟩ := Cond.selects_spec hsel
  cases hcls.symm.trans q1
  cases hf.symm.trans q2
  cases hnamed.symm.trans q3
  have hselP : selectMethod e.platform s.vm cellB.cls r0 = .method mk := by rw [Launch.admits_selectMethod X.admits]; exact q4
  obtain ⟨vm₁, X₁, hstep₁⟩ := X.invokevirtualUp hexec hown hlink hsame howner hn hrm hstR (a := b) (cell := cellB) hcell
    (fun z h => by rw [h] at hobj; cases hobj) hselP hmethM habM hkP hkPi (g := g) hg (argsL := argsL) (rest := rest) (hlen _ hsigR) hstack hdg
  rcases hK m meth c ⟨T.setVm vm₁, locs, cells, slots⟩ { g with stack := rest } (.invokevirtual index) mk (Value.ref b :: argsL).toArray X₁ hg hsize hdg hW (X₁.named hnamed) (hpre vm₁ X₁.warmed) with ⟨v, B, X', hpost, hsteps⟩ | ⟨q, B, X', hpost, hsteps⟩
  · exact Or.inl ⟨v, vm₁, B, X₁.warmed, X', hpost, fun target h => hstep₁ _ fun acts => by rw [doInvoke_state]; exact hsteps.trans h⟩
  · exact Or.inr ⟨q, vm₁, B, X₁.warmed, X', hpost, hstep₁ _ fun acts => by rw [doInvoke_state]; exact hsteps⟩
variable {H : Heap} {locs : List Loc} {cells slots : Nat}
theorem vx_runVU {x y : MethodName} {bytes cc : ByteArray} {maxL nL mc ms n index : Nat} {ret : Option FieldType} {ws : List Cond} {rm : Room} {Pc : Array Value → State → Prop} {Qc : Array Value → State → Outcome → State → Prop} {XC : String → Addr → State → State → Prop} {free : Addr → Prop} {Ts : List Cond} {own C owner : String} {b : Addr} {As rest : List Value} {g : JFrame}
    (S : CallFix p m c cc nL s args Ts own) (hM : vx_Met l y ws rm Pc Qc XC mc ms free)
    (hrm : rm.cells = mc ∧ rm.slots = ms ∧ rm.frames + 1 ≤ R.frames ∧ 8 + (maxL + 11) + rm.locals ≤ R.locals ∧ (∀ w ∈ ws, ∀ (a' : Array Value) (U : State), s.WarmedH U.vm → w.before a' U = true) ∧ Cond.code y bytes maxL ret ∈ ws) (hini : (Cond.initialized y.cls).before args s = true)
    (hl : (Cond.methodLink own index x).before args s = true) (hsame : (Cond.sameMethod x.cls owner x.name x.desc).before args s = true) (hd0 : va_Decl s ⟨owner, x.name, x.desc⟩) (howner : owner ≠ "java/lang/invoke/MethodHandle" ∧ owner ≠ "java/lang/invoke/VarHandle")
    (hse : (Cond.selects C x y).before args s = true) (hin : (Cond.instanceMethod y).before args s = true) (hp : PreV s H C b Pc As) (hlen : ∀ sig, parseMethodDescriptor x.desc = some sig → n = sig.parameters.length)
    (hg : g.method = m) (hn : As.length = n) (hsize : g.locals.size = nL) (hstack : g.stack = As.reverse ++ .ref b :: rest) (hW : 2 * g.monitorRoom + (rest.map fun v => v.category).sum ≤ 8) (hdg : decode cc g.pc = .ok (.invokevirtual index, 3)) (hf : cells + mc ≤ R.cells ∧ slots + ms ≤ R.slots) :
    vx_Run p l e R s m args below meth c H locs cells slots mc ms g rest (Qc (Value.ref b :: As).toArray) XC free := by
  obtain ⟨hrc, hrs, hfr, hlo, hws, hcw⟩ := hrm
  have hK : vx_Back l R p e below s args y 3 8 (PreOf R mc ms Pc) (PostOf Qc mc ms free) (vx_Post XC mc ms free) := vx_back (bytes := bytes) (maxL := maxL) (ret := ret) hM hp.1 hrc hrs hfr hlo hws hcw (fun a' U hW => word_at hW (Or.inl (by first | rfl | simp [Cond.onTables, Cond.keeps, Cond.steady])) hini)
  obtain ⟨hx, hb, hml, ho, -⟩ := S
  obtain ⟨-, ⟨cellB, hcB, hoB, hclB⟩, hPc⟩ := hp
  intro T hT X
  rcases vx_callVU X hx (C := C) (owner := owner) ho hl hsame hd0 howner hse hin hK (by rw [hT]; exact hcB) hoB hclB hg (hsize.trans hml.symm) (argsL := As) (rest := rest) (fun sig h => hn.trans (hlen sig h)) hstack hW (by rw [hb]; exact hdg)
    (fun vm₁ hW₁ => ⟨hf.1, hf.2, hPc (T.setVm vm₁) hT hW₁⟩) with ⟨v, vm₁, ⟨U', l2, c2, s2⟩, hW₁, X', ⟨g', mk, t, L, e1, e2, hq, h1, hL, h2, h3⟩, st⟩ | ⟨q, vm₁, ⟨U', l2, c2, s2⟩, hW₁, X', ⟨g', mk, t, L, E, ce, e1, e2, hq, hce, hcv, hcl, h1, hL, h2, h3⟩, st⟩
  · dsimp only [Pt.U, Pt.locs, Pt.cells, Pt.slots] at X' e1 e2 h1 h2 h3 st
    subst h1; subst h2; subst h3
    exact Or.inl ⟨v, (T.setVm vm₁).calling g' mk (Value.ref b :: As).toArray, t, U', L, hT, X', hL, e1, e2, hq, st⟩
  · dsimp only [Pt.U, Pt.locs, Pt.cells, Pt.slots] at X' e1 e2 h1 h2 h3 st hcl
    subst h1; subst h2; subst h3
    exact Or.inr ⟨q, (T.setVm vm₁).calling g' mk (Value.ref b :: As).toArray, t, U', L, E, ce, hT, X', hL, e1, e2, hq, hce, hcv, vx_cls hW₁ hcl, st⟩
end GCVU
/-- words of a call of x that runs y, y of the object's own class -/
def gCwU (v : gEnv) (R : Room) (own : String) (i : Nat) (C owner : String) (x y : MethodName) (cc' : ByteArray) (nL' : Nat) (ret' : Option FieldType) (c0 : ByteArray) (n0 : Nat) (r0 : Option FieldType) (fr' lo' np : Nat) : Prop :=
  Cond.methodLink own i x ∈ v.2.2.2.2 ∧ Cond.sameMethod x.cls owner x.name x.desc ∈ v.2.2.2.2 ∧ Cond.instanceMethod ⟨owner, x.name, x.desc⟩ ∈ v.2.2.2.2 ∧ Cond.code ⟨owner, x.name, x.desc⟩ c0 n0 r0 ∈ v.2.2.2.2 ∧ Cond.selects C x y ∈ v.2.2.2.2 ∧ Cond.instanceMethod y ∈ v.2.2.2.2 ∧ Cond.initialized y.cls ∈ v.2.2.2.2 ∧ Cond.code y cc' nL' ret' ∈ v.2.2.2.2 ∧
  (owner ≠ "java/lang/invoke/MethodHandle" ∧ owner ≠ "java/lang/invoke/VarHandle") ∧ (parseMethodDescriptor x.desc).map (fun d => d.parameters.length) = some np ∧ fr' + 1 ≤ R.frames ∧ 8 + (nL' + 11) + lo' ≤ R.locals
theorem G_callVU {l : Launch} {R : Room} {Qf : gFin} {k : gKey} {pc i cs sl b : Nat} {L : List (Nat × Value)} {st As : List Value} {v : gEnv} {x y : MethodName} {cc' c0 : ByteArray} {nL' fr' lo' mc' ms' n0 : Nat} {ret' r0 : Option FieldType} {ws wc wr : va_W} {Post' : Option Value → va_W → Nat → Nat → Prop} {XP' : String → Nat → va_W → Nat → Nat → Prop} {C owner : String} {ci N : Nat} {fs : List Value} {T : u_T} (hv : gOk v) (cp : CtA v l y cc' nL' ret' fr' lo' mc' ms' (.ref b :: As) wc Post' XP') (d : decode k.1 pc = .ok (.invokevirtual i, 3)) (hw : gCwU v R k.2.2.1 i C owner x y cc' nL' ret' c0 n0 r0 fr' lo' As.length)
    (q : Nat) (hq : ws[q]? = some (b, .inr (ci, fs))) (hcl : v.2.1[ci]? = some (C, T, N)) (isC isR : List Nat) (hC : isC.map (fun i => ws[i]?) = wc.map some) (hR : isR.map (fun i => ws[i]?) = wr.map some) (hnC : va_nd isC = true) (hn : va_nd isR = true) (hdis : ∀ i ∈ isR, i ∉ isC)
    (hcs : cs + mc' ≤ R.cells) (hsl : sl + ms' ≤ R.slots) (hcat : (st.map fun u => u.category).sum ≤ 8)
    (kk : ∀ r w dc ds, Post' r w dc ds → G v l R Qf k (pc + 3) L (r.toList ++ st) (wr ++ w) (cs + dc) (sl + ds)) (kx : ∀ E q w dc ds, XP' E q w dc ds → GT v l R Qf k pc L st E q (wr ++ w) (cs + dc) (sl + ds)) :
    G v l R Qf k pc L (As.reverse ++ .ref b :: st) ws cs sl := fun p e s m args below meth c A H locs ls C' hP hD hS h => by
  obtain ⟨h1, h2, h3, h4, h5, h6, h7, h8, h9, h10, h11, h12, h13⟩ := id C'
  obtain ⟨w1, w2, w3, w4, w5, w6, w7, w8, w9, w10, w11, w12⟩ := hw
  refine g_backA isC isR hC hR hn hdis C' hP hD hS h (vx_runVU (As := As) (n := As.length) ⟨h1, h2, h3, h4, h8⟩ (cp H.size) ⟨rfl, rfl, w11, w12, ?_, List.mem_cons_self⟩ (h8 _ w7) (h8 _ w1) (h8 _ w2) (va_Decl.of (h8 _ w3) (h8 _ w4)) w9 (h8 _ w5) (h8 _ w6) ⟨gPre_blind hv _ _ _, va_recv h10 hP hcl hq, g_pre hv isC hC hnC C' hP hD hS⟩ (fun sig h => ?_) rfl rfl h.1 rfl (by show 2 * 0 + _ ≤ 8; omega) d ⟨hcs, hsl⟩) kk kx
  · intro w hw a' U hW
    rcases List.mem_cons.mp hw with rfl | hw
    · exact word_at hW (good_of_word (hv.2.2.2 _ w8)) (h8 _ w8)
    · exact word_at hW (good_of_word (hv.2.2.2 _ hw)) (h8 _ hw)
  · rw [h] at w10
    exact (Option.some.inj w10).symm
theorem Gw_callVU {l : Launch} {R : Room} {Qf : gFin} {k : gKey} {pc i cs sl b : Nat} {L : List (Nat × Value)} {st As : List Value} {v : gEnv} {x y : MethodName} {cc' c0 : ByteArray} {nL' fr' lo' mc' ms' n0 : Nat} {ret' r0 : Option FieldType} {P : List Nat} {F : Nat → va_E} {Post' : Option Value → va_W → Nat → Nat → Prop} {XP' : String → Nat → va_W → Nat → Nat → Prop} {C owner : String} {ci N : Nat} {fs : List Value} {T : u_T} (hv : gOk v) (cp : CtA v l y cc' nL' ret' fr' lo' mc' ms' (.ref b :: As) (va_pl P F) Post' XP') (d : decode k.1 pc = .ok (.invokevirtual i, 3)) (hw : gCwU v R k.2.2.1 i C owner x y cc' nL' ret' c0 n0 r0 fr' lo' As.length)
    (hb : b ∈ P) (he : F b = .inr (ci, fs)) (hcl : v.2.1[ci]? = some (C, T, N)) (hcs : cs + mc' ≤ R.cells) (hsl : sl + ms' ≤ R.slots) (hcat : (st.map fun u => u.category).sum ≤ 8)
    (kk : ∀ r w dc ds, Post' r w dc ds → G v l R Qf k (pc + 3) L (r.toList ++ st) w (cs + dc) (sl + ds)) (kx : ∀ E q w dc ds, XP' E q w dc ds → GT v l R Qf k pc L st E q w (cs + dc) (sl + ds)) :
    G v l R Qf k pc L (As.reverse ++ .ref b :: st) (va_pl P F) cs sl := by
  obtain ⟨q, hq⟩ := va_pl_get (X := []) (f := F) hb
  exact G_callVU (wr := []) hv cp d hw q (by rw [← he]; exact hq) hcl (List.range (va_pl P F).length) [] (gw_all _) rfl (r_nd _ List.nodup_range) rfl (fun i hi => nomatch hi) hcs hsl hcat kk kx
abbrev gLB (bs : List Int32) : Prop := bs.all (fun x => decide (-128 ≤ x.toInt ∧ x.toInt ≤ 127)) = true
theorem gF_lst {bs : List Int32} (h : gLB bs) : gF (fun j => bs.getD j 0) (-128) 127 := by
  intro j
  show -128 ≤ (bs.getD j 0).toInt ∧ (bs.getD j 0).toInt ≤ 127
  by_cases hj : j < bs.length
  · have h1 := List.all_eq_true.mp h (bs[j]) (List.getElem_mem hj)
    rw [List.getD_eq_getElem?_getD, List.getElem?_eq_getElem hj]
    exact of_decide_eq_true h1
  · rw [List.getD_eq_getElem?_getD, List.getElem?_eq_none (by omega)]
    exact ⟨by decide, by decide⟩
section GST3
variable {v : gEnv} {l : Launch} {R : Room} {Qf : gFin} {k : gKey} {pc i cs sl a b : Nat} {L : List (Nat × Value)} {st : List Value} {P : List Nat} {F : Nat → va_E} {ws wc wr : va_W}
theorem Gp_copyK {cA : ClassId} {a0 n0 n1 : Nat} {f g : Nat → Int32} {sp dp n : Int32} (t : Nat) (hE : ∀ A s H, v.2.2.2.1 A s H → va_T .byte a0 n0 (fun j => .int (f j)) A s H) (ha : a ∈ P) (he : F a = .inl (cA, n1, .inl g)) (d : decode k.1 pc = .ok (.invokestatic i, 3))
    (w1 : Cond.methodLink k.2.2.1 i arraycopyName ∈ v.2.2.2.2) (w2 : Cond.native arraycopyName ∈ v.2.2.2.2) (w3 : Cond.static arraycopyName ∈ v.2.2.2.2) (w4 : Cond.initialized "java/lang/System" ∈ v.2.2.2.2) (ht : v.2.2.1[t]? = some (cA, .byte)) (hfit : gF f (-128) 127)
    (h1 : 0 ≤ sp.toInt) (h2 : 0 ≤ dp.toInt) (h3 : 0 ≤ n.toInt) (h4 : sp.toInt + n.toInt ≤ n0) (h5 : dp.toInt + n.toInt ≤ n1) (hf : 1 ≤ R.frames) (hlo : (st.map fun u => u.category).sum + 18 ≤ R.locals)
    (kk : ∀ F1 : Nat → va_E, F1 a = .inl (cA, n1, .inl (va_cpy f g sp.toNatClampNeg dp.toNatClampNeg n.toNatClampNeg)) → (∀ b, b ≠ a → F1 b = F b) → G v l R Qf k (pc + 3) L st (va_pl P F1) cs sl) : G v l R Qf k pc L (.int n :: .int dp :: .ref a :: .int sp :: .ref a0 :: st) (va_pl P F) cs sl := fun p e s m args below meth c A H locs ls C hP hD hS h => by
  obtain ⟨g1, g2, g3, g4, g5, g6, g7, g8, g9, g10, g11, g12, g13⟩ := id C
  have e1 := g_nn h1
  have e2 := g_nn h2
  have e3 := g_nn h3
  obtain ⟨q, hq⟩ := va_pl_get (X := []) (f := F) ha
  have hset := fun e => va_pl_set (X := []) (e := e) hD ha hq
  rw [he] at hq
  refine vk_copyt g1 g2 (by rw [g3]; exact h.1.symm) g4 (g8 _ w1) (g8 _ w2) (g8 _ w3) (g8 _ w4) g10 hP hD hS (hE _ _ _ g12) q t hq ht (g_n0 h1) (g_n0 h2) (g_n0 h3) (by omega) (by omega) (fun j _ => gT_byte (hfit _)) hf hlo d (fun H1 locs1 hP1 hD1 hS1 => ?_)
  have hs := hset (.inl (cA, n1, .inl (va_cpy f g sp.toNatClampNeg dp.toNatClampNeg n.toNatClampNeg)))
  rw [List.nil_append] at hs
  rw [hs] at hP1 hD1
  exact kk _ (va_up_self _ _ _) (fun b hb => va_up_ne _ _ hb) p e s m args below meth c A H1 locs1 ls C hP1 hD1 hS1 h
variable {y : MethodName} {cc' : ByteArray} {nL' fr' lo' mc' ms' : Nat} {ret' : Option FieldType} {As : List Value} {Post' : Option Value → va_W → Nat → Nat → Prop} {XP' : String → Nat → va_W → Nat → Nat → Prop}
theorem G_callVkA (hv : gOk v) (cp : CtA v l y cc' nL' ret' fr' lo' mc' ms' (.ref b :: As) wc Post' XP') (d : decode k.1 pc = .ok (.invokevirtual i, 3)) (hw : gCw v R k.2.2.1 i y cc' nL' ret' fr' lo' As.length) (w2 : Cond.instanceMethod y ∈ v.2.2.2.2) (w3 : Cond.selects y.cls y y ∈ v.2.2.2.2)
    (hE : ∀ A s H, v.2.2.2.1 A s H → va_O y.cls b A s H) (isC isR : List Nat) (hC : isC.map (fun i => ws[i]?) = wc.map some) (hR : isR.map (fun i => ws[i]?) = wr.map some) (hnC : va_nd isC = true) (hn : va_nd isR = true) (hdis : ∀ i ∈ isR, i ∉ isC)
    (hcs : cs + mc' ≤ R.cells) (hsl : sl + ms' ≤ R.slots) (hcat : (st.map fun u => u.category).sum ≤ 8)
    (kk : ∀ r w dc ds, Post' r w dc ds → G v l R Qf k (pc + 3) L (r.toList ++ st) (wr ++ w) (cs + dc) (sl + ds)) (kx : ∀ E q w dc ds, XP' E q w dc ds → GT v l R Qf k pc L st E q (wr ++ w) (cs + dc) (sl + ds)) :
    G v l R Qf k pc L (As.reverse ++ .ref b :: st) ws cs sl := fun p e s m args below meth c A H locs ls C hP hD hS h => by
  obtain ⟨h1, h2, h3, h4, h5, h6, h7, h8, h9, h10, h11, h12, h13⟩ := id C
  exact g_backA isC isR hC hR hn hdis C hP hD hS h (vx_runV (As := As) ⟨h1, h2, h3, h4, h8⟩ (cp H.size) ⟨g_cb hv h8 hw, h8 _ w2, h8 _ w3⟩ ⟨gPre_blind hv _ _ _, va_Orecv (hE _ _ _ h12) hS, g_pre hv isC hC hnC C hP hD hS⟩ rfl rfl h.1 rfl (by show 2 * 0 + _ ≤ 8; omega) d ⟨hcs, hsl⟩) kk kx
theorem Gw_callVk (hv : gOk v) (cp : CtA v l y cc' nL' ret' fr' lo' mc' ms' (.ref b :: As) (va_pl P F) Post' XP') (d : decode k.1 pc = .ok (.invokevirtual i, 3)) (hw : gCw v R k.2.2.1 i y cc' nL' ret' fr' lo' As.length) (w2 : Cond.instanceMethod y ∈ v.2.2.2.2) (w3 : Cond.selects y.cls y y ∈ v.2.2.2.2)
    (hE : ∀ A s H, v.2.2.2.1 A s H → va_O y.cls b A s H) (hcs : cs + mc' ≤ R.cells) (hsl : sl + ms' ≤ R.slots) (hcat : (st.map fun u => u.category).sum ≤ 8)
    (kk : ∀ r w dc ds, Post' r w dc ds → G v l R Qf k (pc + 3) L (r.toList ++ st) w (cs + dc) (sl + ds)) (kx : ∀ E q w dc ds, XP' E q w dc ds → GT v l R Qf k pc L st E q w (cs + dc) (sl + ds)) :
    G v l R Qf k pc L (As.reverse ++ .ref b :: st) (va_pl P F) cs sl :=
  G_callVkA (wr := []) hv cp d hw w2 w3 hE (List.range (va_pl P F).length) [] (gw_all _) rfl (r_nd _ List.nodup_range) rfl (fun i hi => nomatch hi) hcs hsl hcat kk kx
end GST3
section GSUP
variable {l : Launch} {R : Room} {Qf : gFin} {k : gKey} {pc i cs sl b : Nat} {L : List (Nat × Value)} {st As : List Value} {v : gEnv} {y : MethodName} {cc' : ByteArray} {nL' fr' lo' mc' ms' : Nat} {ret' : Option FieldType} {Post' : Option Value → va_W → Nat → Nat → Prop} {C : String} {ci N N2 : Nat} {fs : List Value} {T : u_T}
/-- a method of the class above, by invokespecial -/
theorem G_callSU {ws wc wr : va_W} (hv : gOk v) (cp : CtA v l y cc' nL' ret' fr' lo' mc' ms' (.ref b :: As) wc Post' gNA) (d : decode k.1 pc = .ok (.invokespecial i, 3)) (hw : gCw v R k.2.2.1 i y cc' nL' ret' fr' lo' As.length) (w2 : Cond.instanceMethod y ∈ v.2.2.2.2) (w3 : Cond.sameMethod y.cls y.cls y.name y.desc ∈ v.2.2.2.2) (w4 : Cond.superclass k.2.2.1 y.cls ∈ v.2.2.2.2) (w5 : Cond.instantiable C N2 ∈ v.2.2.2.2) (hno : y.name ≠ "<init>")
    (q : Nat) (hq : ws[q]? = some (b, .inr (ci, fs))) (hcl : v.2.1[ci]? = some (C, T, N)) (isC isR : List Nat) (hC : isC.map (fun i => ws[i]?) = wc.map some) (hR : isR.map (fun i => ws[i]?) = wr.map some) (hnC : va_nd isC = true) (hn : va_nd isR = true) (hdis : ∀ i ∈ isR, i ∉ isC)
    (hcs : cs + mc' ≤ R.cells) (hsl : sl + ms' ≤ R.slots) (hcat : (st.map fun u => u.category).sum ≤ 8)
    (kk : ∀ r w dc ds, Post' r w dc ds → G v l R Qf k (pc + 3) L (r.toList ++ st) (wr ++ w) (cs + dc) (sl + ds)) : G v l R Qf k pc L (As.reverse ++ .ref b :: st) ws cs sl := fun p e s m args below meth c A H locs ls C' hP hD hS h => by
  obtain ⟨h1, h2, h3, h4, h5, h6, h7, h8, h9, h10, h11, h12, h13⟩ := id C'
  obtain ⟨cC, hat⟩ := gAt (h8 _ w5)
  obtain ⟨v1, v2, v3, v4, v5, v6, v7⟩ := hw
  refine g_backAM isC isR hC hR hn hdis C' hP hD hS h (va_runSU (As := As) (n := As.length) hat ⟨h1, h2, h3, h4, h8⟩ (CtA_met cp H.size) ⟨⟨rfl, rfl, v6, v7, ?_, List.mem_cons_self⟩, h8 _ v1, h8 _ w3, h8 _ w4, h8 _ w2, h8 _ v2, h8 _ v3, hno, fun sig h => ?_⟩ ⟨gPre_blind hv _ _ _, va_recv h10 hP hcl hq, g_pre hv isC hC hnC C' hP hD hS⟩ rfl rfl h.1 rfl (by show 2 * 0 + _ ≤ 8; omega) d ⟨hcs, hsl⟩) kk
  · intro w hw a' U hW
    rcases List.mem_cons.mp hw with rfl | hw
    · exact word_at hW (good_of_word (hv.2.2.2 _ v3)) (h8 _ v3)
    · exact word_at hW (good_of_word (hv.2.2.2 _ hw)) (h8 _ hw)
  · rw [h] at v5
    exact (Option.some.inj v5).symm
theorem Gw_callSU {P : List Nat} {F : Nat → va_E} (hv : gOk v) (cp : CtA v l y cc' nL' ret' fr' lo' mc' ms' (.ref b :: As) (va_pl P F) Post' gNA) (d : decode k.1 pc = .ok (.invokespecial i, 3)) (hw : gCw v R k.2.2.1 i y cc' nL' ret' fr' lo' As.length) (w2 : Cond.instanceMethod y ∈ v.2.2.2.2) (w3 : Cond.sameMethod y.cls y.cls y.name y.desc ∈ v.2.2.2.2) (w4 : Cond.superclass k.2.2.1 y.cls ∈ v.2.2.2.2) (w5 : Cond.instantiable C N2 ∈ v.2.2.2.2) (hno : y.name ≠ "<init>")
    (hb : b ∈ P) (he : F b = .inr (ci, fs)) (hcl : v.2.1[ci]? = some (C, T, N)) (hcs : cs + mc' ≤ R.cells) (hsl : sl + ms' ≤ R.slots) (hcat : (st.map fun u => u.category).sum ≤ 8)
    (kk : ∀ r w dc ds, Post' r w dc ds → G v l R Qf k (pc + 3) L (r.toList ++ st) w (cs + dc) (sl + ds)) : G v l R Qf k pc L (As.reverse ++ .ref b :: st) (va_pl P F) cs sl := by
  obtain ⟨q, hq⟩ := va_pl_get (X := []) (f := F) hb
  exact G_callSU (wr := []) hv cp d hw w2 w3 w4 w5 hno q (by rw [← he]; exact hq) hcl (List.range (va_pl P F).length) [] (gw_all _) rfl (r_nd _ List.nodup_range) rfl (fun i hi => nomatch hi) hcs hsl hcat kk
end GSUP
/-- the first letter is kept; the first letter comes from g -/
def sK (f f1 : Nat → Int32) (c : Int) : Prop := 0 < c → f1 0 = f 0
def sF (g f1 : Nat → Int32) (c m : Int) : Prop := c = 0 → 0 < m → f1 0 = g 0
theorem sK_rf {f : Nat → Int32} {c : Int} : sK f f c := fun _ => rfl
theorem sK_cpy {f g f1 : Nat → Int32} {sp dp n : Int32} {c : Int} (h : f1 = va_cpy g f sp.toNatClampNeg dp.toNatClampNeg n.toNatClampNeg) (hd : dp.toInt = c) : sK f f1 c := by
  intro hc
  have e : (0 : Int) < dp.toNatClampNeg := by show (0 : Int) < (dp.toInt.toNat : Nat); omega
  rw [h]
  unfold va_cpy
  rw [if_neg (by omega)]
theorem sF_cpy {f g f1 : Nat → Int32} {sp dp n : Int32} {c m : Int} (h : f1 = va_cpy g f sp.toNatClampNeg dp.toNatClampNeg n.toNatClampNeg) (hs : sp.toInt = 0) (hd : dp.toInt = c) (hn : n.toInt = m) : sF g f1 c m := by
  intro hc hm
  have e1 : dp.toNatClampNeg = 0 := by show dp.toInt.toNat = 0; omega
  have e2 : sp.toNatClampNeg = 0 := by show sp.toInt.toNat = 0; omega
  have e3 : 0 < n.toNatClampNeg := by show 0 < n.toInt.toNat; omega
  rw [h]
  unfold va_cpy
  rw [if_pos (by omega), e1, e2]
theorem sK_tr {f f1 f2 : Nat → Int32} {c : Int} (h : sK f f1 c) (g : sK f1 f2 c) : sK f f2 c := fun z => (g z).trans (h z)
theorem sK_c {f f1 : Nat → Int32} {c d : Int} (h : sK f f1 c) (e : d ≤ c) : sK f f1 d := fun z => h (by omega)
theorem sF_K {g f1 f2 : Nat → Int32} {c m : Int} {d : Int} (h : sF g f1 c m) (k : sK f1 f2 d) (e : c + m ≤ d) : sF g f2 c m := fun z y => (k (by omega)).trans (h z y)
theorem sK_cp2 {f g f1 : Nat → Int32} {sp dp n : Int32} {c : Int} (h : f1 = va_cpy f g sp.toNatClampNeg dp.toNatClampNeg n.toNatClampNeg) (hs : sp.toInt = 0) (hd : dp.toInt = 0) (hn : c ≤ n.toInt) : sK f f1 c := by
  intro hc
  have e1 : dp.toNatClampNeg = 0 := by show dp.toInt.toNat = 0; omega
  have e2 : sp.toNatClampNeg = 0 := by show sp.toInt.toNat = 0; omega
  have e3 : 0 < n.toNatClampNeg := by show 0 < n.toInt.toNat; omega
  rw [h]
  unfold va_cpy
  rw [if_pos (by omega), e1, e2]
/-- where f has r, the first letter of g lies -/
def ixP (f g : Nat → Int32) (r : Int32) : Prop := 0 ≤ r.toInt → f r.toInt.toNat = g 0
theorem ixP_n {f g : Nat → Int32} {r : Int32} (h : r.toInt < 0) : ixP f g r := fun z => absurd z (by omega)
theorem ixP_of {f g : Nat → Int32} {r z y : Int32} (h : z = f r.toNatClampNeg) (h5 : y = g (0 : Int32).toNatClampNeg) (e : z.toInt = y.toInt) : ixP f g r := fun _ => by
  have e1 : z = y := Int32.toInt_inj.mp e
  show f r.toNatClampNeg = g 0
  rw [← h, e1, h5]
  rfl
theorem gI_mulK {x y z : Int32} {n : Int} (hz : z = x * y) (hy : y.toInt = n) (h1 : -2147483648 ≤ x.toInt * n) (h2 : x.toInt * n ≤ 2147483647) : z.toInt = x.toInt * n := by
  rw [hz, Int32.toInt_mul, hy]
  exact gM_of h1 h2
theorem gI_divn {x y z : Int32} {n a b : Int} (hz : z = x / y) (bx : gB x a b) (hb : b ≤ 0) (hy : y.toInt = n) (hn : 0 < n) : z.toInt = -((-x.toInt) / n) := by
  have h0 : Int32.toInt (-1) = -1 := by decide
  have h : y ≠ -1 := fun h => by rw [h] at hy; omega
  have hx : x.toInt ≤ 0 := by have := bx.2; omega
  rw [hz, Int32.toInt_div_of_ne_right _ _ h, hy]
  have e : x.toInt = -(-x.toInt) := by omega
  rw [e, Int.neg_tdiv, Int.tdiv_eq_ediv_of_nonneg (by omega)]
  simp
/-- c places are enough for the digits of i, i not above 0 -/
def dgB (i c : Int) : Prop := i ≤ 0 ∧ (10 ≤ c ∨ (c = 9 ∧ -1000000000 < i) ∨ (c = 8 ∧ -100000000 < i) ∨ (c = 7 ∧ -10000000 < i) ∨ (c = 6 ∧ -1000000 < i) ∨ (c = 5 ∧ -100000 < i) ∨ (c = 4 ∧ -10000 < i) ∨ (c = 3 ∧ -1000 < i) ∨ (c = 2 ∧ -100 < i) ∨ (c = 1 ∧ -10 < i))
theorem dgB_st {i c q : Int} (h : dgB i c) (hm : -2147483648 ≤ i) (hi : i ≤ -100) (hq : q = -((-i) / 100)) : dgB q (c - 2) := by
  unfold dgB at h ⊢
  omega
theorem dgB_3 {i c : Int} (h : dgB i c) (hi : i ≤ -100) : 3 ≤ c := by
  unfold dgB at h
  omega
theorem dgB_2 {i c : Int} (h : dgB i c) (hi : i ≤ -10) : 2 ≤ c := by
  unfold dgB at h
  omega
theorem dgB_1 {i c : Int} (h : dgB i c) : 1 ≤ c := by
  unfold dgB at h
  omega
theorem dgB_up {i c d : Int} (h : dgB i c) (hm : -2147483648 ≤ i) (e : c ≤ d) : dgB i d := by
  unfold dgB at h ⊢
  omega
/-- the powers of ten that stringSize walks -/
def ssI (i p : Int32) : Prop := (i.toInt = 1 ∧ p = -10) ∨ (i.toInt = 2 ∧ p = -100) ∨ (i.toInt = 3 ∧ p = -1000) ∨ (i.toInt = 4 ∧ p = -10000) ∨ (i.toInt = 5 ∧ p = -100000) ∨ (i.toInt = 6 ∧ p = -1000000) ∨ (i.toInt = 7 ∧ p = -10000000) ∨ (i.toInt = 8 ∧ p = -100000000) ∨ (i.toInt = 9 ∧ p = -1000000000) ∨ i.toInt = 10
theorem ssI_0 : ssI 1 (-10) := Or.inl ⟨by decide, rfl⟩
theorem ssI_st {i p j z : Int32} (h : ssI i p) (hi : i.toInt < 10) (hj : j.toInt = i.toInt + 1) (hz : z = 10 * p) : ssI j z := by
  unfold ssI at h ⊢
  rcases h with ⟨e, rfl⟩ | ⟨e, rfl⟩ | ⟨e, rfl⟩ | ⟨e, rfl⟩ | ⟨e, rfl⟩ | ⟨e, rfl⟩ | ⟨e, rfl⟩ | ⟨e, rfl⟩ | ⟨e, rfl⟩ | e
  · exact Or.inr (Or.inl ⟨by omega, by rw [hz]; decide⟩)
  · exact Or.inr (Or.inr (Or.inl ⟨by omega, by rw [hz]; decide⟩))
  · exact Or.inr (Or.inr (Or.inr (Or.inl ⟨by omega, by rw [hz]; decide⟩)))
  · exact Or.inr (Or.inr (Or.inr (Or.inr (Or.inl ⟨by omega, by rw [hz]; decide⟩))))
  · exact Or.inr (Or.inr (Or.inr (Or.inr (Or.inr (Or.inl ⟨by omega, by rw [hz]; decide⟩)))))
  · exact Or.inr (Or.inr (Or.inr (Or.inr (Or.inr (Or.inr (Or.inl ⟨by omega, by rw [hz]; decide⟩))))))
  · exact Or.inr (Or.inr (Or.inr (Or.inr (Or.inr (Or.inr (Or.inr (Or.inl ⟨by omega, by rw [hz]; decide⟩)))))))
  · exact Or.inr (Or.inr (Or.inr (Or.inr (Or.inr (Or.inr (Or.inr (Or.inr (Or.inl ⟨by omega, by rw [hz]; decide⟩))))))))
  · exact Or.inr (Or.inr (Or.inr (Or.inr (Or.inr (Or.inr (Or.inr (Or.inr (Or.inr (by omega)))))))))
  · omega
theorem ssI_r {i p : Int32} {x : Int} (h : ssI i p) (hx : x ≤ 0) (hp : i.toInt < 10 → p.toInt < x) : dgB x i.toInt := by
  unfold ssI at h
  unfold dgB
  have a1 : Int32.toInt (-10) = -10 := by decide
  have a2 : Int32.toInt (-100) = -100 := by decide
  have a3 : Int32.toInt (-1000) = -1000 := by decide
  have a4 : Int32.toInt (-10000) = -10000 := by decide
  have a5 : Int32.toInt (-100000) = -100000 := by decide
  have a6 : Int32.toInt (-1000000) = -1000000 := by decide
  have a7 : Int32.toInt (-10000000) = -10000000 := by decide
  have a8 : Int32.toInt (-100000000) = -100000000 := by decide
  have a9 : Int32.toInt (-1000000000) = -1000000000 := by decide
  refine ⟨hx, ?_⟩
  rcases h with ⟨e, rfl⟩ | ⟨e, rfl⟩ | ⟨e, rfl⟩ | ⟨e, rfl⟩ | ⟨e, rfl⟩ | ⟨e, rfl⟩ | ⟨e, rfl⟩ | ⟨e, rfl⟩ | ⟨e, rfl⟩ | e <;> omega
/-- r places for all of v, with its sign -/
def dgS (v r : Int) : Prop := (0 ≤ v ∧ dgB (-v) r) ∨ (v < 0 ∧ dgB v (r - 1))
theorem dgS_p {v r x : Int} (h : 0 ≤ v) (hx : x = -v) (g : dgB x r) : dgS v r := Or.inl ⟨h, by rw [← hx]; exact g⟩
theorem dgS_n {v r c : Int} (h : v < 0) (hc : r = c + 1) (g : dgB v c) : dgS v r := Or.inr ⟨h, by rw [show r - 1 = c by omega]; exact g⟩
theorem dgS_up {v r s : Int} (hv : -2147483648 ≤ v) (hv2 : v ≤ 2147483647) (h : dgS v r) (e : r ≤ s) : dgS v s := by
  rcases h with ⟨a, b⟩ | ⟨a, b⟩
  · exact Or.inl ⟨a, dgB_up b (by omega) e⟩
  · exact Or.inr ⟨a, dgB_up b hv (by omega)⟩
theorem dgS_ip {v r x : Int} (h : dgS v r) (hv : 0 ≤ v) (hx : x = -v) : dgB x r := by
  rcases h with ⟨a, b⟩ | ⟨a, b⟩
  · rw [hx]; exact b
  · omega
theorem dgS_in {v r : Int} (h : dgS v r) (hv : v < 0) : dgB v (r - 1) := by
  rcases h with ⟨a, b⟩ | ⟨a, b⟩
  · omega
  · exact b
theorem dg_b1 (j : Nat) : gB (dg_O j) (-128) 127 := by
  have h : ∀ k, k < 10 → -128 ≤ (Int32.ofNat (48 + k)).toInt ∧ (Int32.ofNat (48 + k)).toInt ≤ 127 := by decide
  exact h (j % 10) (Nat.mod_lt _ (by decide))
theorem gI_subK {x y z : Int32} (hz : z = x - y) (h1 : -2147483648 ≤ x.toInt - y.toInt) (h2 : x.toInt - y.toInt ≤ 2147483647) : z.toInt = x.toInt - y.toInt := by
  rw [hz, Int32.toInt_sub]
  exact gM_of h1 h2
/-- a Wrong -/
def wrF (F : Nat → va_E) (q : Nat) : Prop := ∃ (v0 v1 v2 v3 v4 : Value) (d z : Int32), F q = .inr (21, [v0, v1, v2, v3, v4, .int d, .int z]) ∧ 0 ≤ z.toInt
theorem Gp_athrow {v : gEnv} {l : Launch} {R : Room} {Qf : gFin} {k : gKey} {pc cs sl a : Nat} {L : List (Nat × Value)} {st : List Value} {P : List Nat} {F : Nat → va_E} {ci N : Nat} {fs : List Value} {E : String} {T : u_T} (ha : a ∈ P) (he : F a = .inr (ci, fs)) (hc : v.2.1[ci]? = some (E, T, N)) (d : decode k.1 pc = .ok (.athrow, 1)) (n : GT v l R Qf k pc L st E a (va_pl P F) cs sl) : G v l R Qf k pc L (.ref a :: st) (va_pl P F) cs sl := by
  obtain ⟨q, hq⟩ := va_pl_get (X := []) (f := F) ha
  exact G_athrow q d (by rw [← he]; exact hq) hc n
/-- a String of the pool, of at most m letters; its letters lie apart from g1 and g2 -/
def sP (I : FieldType → ClassId) (P : List Nat) (F : Nat → va_E) (q m g1 g2 : Nat) (xt : gTx) : Prop := ∃ (u : Nat) (h z : Int32), q ∈ P ∧ F q = .inr (0, [.ref u, .int 0, .int h, .int z]) ∧ u ∈ P ∧ F u = .inl (I .byte, xt.1, .inl xt.2) ∧ gF xt.2 (-128) 127 ∧ xt.1 ≤ m ∧ gB z 0 1 ∧ u ≠ g1 ∧ u ≠ g2
/-- a reader's text -/
def tP (I : FieldType → ClassId) (P : List Nat) (F : Nat → va_E) (k : Int32) (q g1 g2 : Nat) (xt : gTx) : Prop := (k.toInt = 1 → sP I P F q 8192 g1 g2 xt) ∧ (k.toInt = 5 → sP I P F q 2 g1 g2 xt)
theorem tP_no {I : FieldType → ClassId} {P : List Nat} {F : Nat → va_E} {k : Int32} {q g1 g2 : Nat} {xt : gTx} (h1 : k.toInt ≠ 1) (h5 : k.toInt ≠ 5) : tP I P F k q g1 g2 xt := ⟨fun z => absurd z h1, fun z => absurd z h5⟩
theorem tP_1 {I : FieldType → ClassId} {P : List Nat} {F : Nat → va_E} {q g1 g2 u n : Nat} {f : Nat → Int32} {h z : Int32} (a1 : q ∈ P) (a2 : F q = .inr (0, [.ref u, .int 0, .int h, .int z])) (a3 : u ∈ P) (a4 : F u = .inl (I .byte, n, .inl f)) (a5 : gF f (-128) 127) (a6 : (n : Int) ≤ 8192) (a7 : gB z 0 1) (a8 : u ≠ g1) (a9 : u ≠ g2) : tP I P F 1 q g1 g2 (n, f) := ⟨fun _ => ⟨u, h, z, a1, a2, a3, a4, a5, by omega, a7, a8, a9⟩, fun e => absurd e (by decide)⟩
theorem tP_5 {I : FieldType → ClassId} {P : List Nat} {F : Nat → va_E} {q g1 g2 u n : Nat} {f : Nat → Int32} {h z : Int32} (a1 : q ∈ P) (a2 : F q = .inr (0, [.ref u, .int 0, .int h, .int z])) (a3 : u ∈ P) (a4 : F u = .inl (I .byte, n, .inl f)) (a5 : gF f (-128) 127) (a6 : (n : Int) ≤ 2) (a7 : gB z 0 1) (a8 : u ≠ g1) (a9 : u ≠ g2) : tP I P F 5 q g1 g2 (n, f) := ⟨fun e => absurd e (by decide), fun _ => ⟨u, h, z, a1, a2, a3, a4, a5, by omega, a7, a8, a9⟩⟩
/-- what a register's or a block's number is -/
def vP (k v : Int32) : Prop := (k.toInt = 2 → 0 ≤ v.toInt ∧ v.toInt ≤ 99) ∧ (k.toInt = 3 → 0 ≤ v.toInt ∧ v.toInt ≤ 39)
theorem vP_no {k v : Int32} (h2 : k.toInt ≠ 2) (h3 : k.toInt ≠ 3) : vP k v := ⟨fun z => absurd z h2, fun z => absurd z h3⟩
theorem vP_2 {v : Int32} (h : 0 ≤ v.toInt) (g : v.toInt ≤ 99) : vP 2 v := ⟨fun _ => ⟨h, g⟩, fun e => absurd e (by decide)⟩
theorem vP_3 {v : Int32} (h : 0 ≤ v.toInt) (g : v.toInt ≤ 39) : vP 3 v := ⟨fun e => absurd e (by decide), fun _ => ⟨h, g⟩⟩
/-- a letter, a digit stands at a -/
def cLt (f : Nat → Int32) (a : Int32) : Prop := 97 ≤ (f a.toNatClampNeg).toInt ∧ (f a.toNatClampNeg).toInt ≤ 122
def cDg (f : Nat → Int32) (a m : Int32) : Prop := m.toInt = 0 → 48 ≤ (f a.toNatClampNeg).toInt ∧ (f a.toNatClampNeg).toInt ≤ 57
theorem cLt_of {f : Nat → Int32} {a z : Int32} (h : z = f a.toNatClampNeg) (h1 : 97 ≤ z.toInt) (h2 : z.toInt ≤ 122) : cLt f a := by unfold cLt; rw [← h]; exact ⟨h1, h2⟩
theorem cDg_of {f : Nat → Int32} {a z m : Int32} (h : z = f a.toNatClampNeg) (h1 : 48 ≤ z.toInt) (h2 : z.toInt ≤ 57) : cDg f a m := by unfold cDg; rw [← h]; exact fun _ => ⟨h1, h2⟩
theorem cDg_no {f : Nat → Int32} {a m : Int32} (h : m.toInt ≠ 0) : cDg f a m := fun z => absurd z h
theorem cLt_lt {f : Nat → Int32} {a b z : Int32} (h : cLt f a) (hz : z = f b.toNatClampNeg) (hn : z.toInt < 97 ∨ 122 < z.toInt) (hl : a.toInt ≤ b.toInt) : a.toInt < b.toInt := by
  rcases Int.lt_or_eq_of_le hl with h1 | h1
  · exact h1
  · have e : a = b := Int32.toInt_inj.mp h1
    subst e
    unfold cLt at h
    rw [← hz] at h
    omega
theorem cDg_lt {f : Nat → Int32} {a b z m : Int32} (h : cDg f a m) (hm : m.toInt = 0) (hz : z = f b.toNatClampNeg) (hn : z.toInt < 48 ∨ 57 < z.toInt) (hl : a.toInt ≤ b.toInt) : a.toInt < b.toInt := by
  rcases Int.lt_or_eq_of_le hl with h1 | h1
  · exact h1
  · have e : a = b := Int32.toInt_inj.mp h1
    subst e
    have h2 := h hm
    rw [← hz] at h2
    omega
/-- longs between bounds -/
def LG (v : Int64) (a b : Int) : Prop := a ≤ v.toInt ∧ v.toInt ≤ b
def lmP (a b r : Int64) : Prop := (r = a ∧ a.toInt ≤ b.toInt) ∨ r = b
theorem cm_le {a b : Int64} {z : Int32} (h : z = lg_cmp a b) (hz : z.toInt ≤ 0) : a.toInt ≤ b.toInt := by
  unfold lg_cmp at h
  by_cases hg : a > b
  · rw [if_pos hg] at h
    subst h
    exact absurd hz (by decide)
  · have : ¬ b.toInt < a.toInt := fun e => hg (Int64.lt_iff_toInt_lt.mpr e)
    omega
theorem lm_l {a b : Int64} {z : Int32} (h : z = lg_cmp a b) (hz : z.toInt ≤ 0) : lmP a b a := Or.inl ⟨rfl, cm_le h hz⟩
theorem lm_r {a b : Int64} : lmP a b b := Or.inr rfl
theorem gM64 {x : Int} (h1 : -9223372036854775808 ≤ x) (h2 : x ≤ 9223372036854775807) : x.bmod (2 ^ 64) = x := by
  rw [Int.bmod_def]
  split <;> omega
theorem lgSt {v u1 u2 u3 u4 r : Int64} {z : Int32} (m : lmP u4 1000000 r) (e4 : u4 = u3 - 48) (e3 : u3 = u1 + u2) (e1 : u1 = v * 10) (e2 : u2 = z.toInt64) (h : LG v 0 1000000) (b1 : 48 ≤ z.toInt) (b2 : z.toInt ≤ 57) : LG r 0 1000000 := by
  have c10 : (10 : Int64).toInt = 10 := by decide
  have c48 : (48 : Int64).toInt = 48 := by decide
  have cM : (1000000 : Int64).toInt = 1000000 := by decide
  unfold LG at h ⊢
  have q1 : u1.toInt = v.toInt * 10 := by rw [e1, Int64.toInt_mul, c10]; exact gM64 (by omega) (by omega)
  have q2 : u2.toInt = z.toInt := by rw [e2, Int32.toInt_toInt64]
  have q3 : u3.toInt = u1.toInt + u2.toInt := by rw [e3, Int64.toInt_add]; exact gM64 (by omega) (by omega)
  have q4 : u4.toInt = u3.toInt - 48 := by rw [e4, Int64.toInt_sub, c48]; exact gM64 (by omega) (by omega)
  rcases m with ⟨hr, hm⟩ | hr
  · rw [hr]; omega
  · rw [hr]; omega
theorem l2i_eq {v : Int64} {z : Int32} (hz : z = v.toInt32) (h : LG v 0 1000000) : z.toInt = v.toInt := by
  unfold LG at h
  rw [hz, Int64.toInt_toInt32]
  rw [Int.bmod_def]
  split <;> omega
theorem vP_r {v : Int64} {x z : Int32} (hx : x = v.toInt32) (hl : LG v 0 1000000) (hc : z = lg_cmp v 99) (hz : z.toInt ≤ 0) : vP 2 x := by
  have c : (99 : Int64).toInt = 99 := by decide
  have e := l2i_eq hx hl
  have d := cm_le hc hz
  unfold LG at hl
  exact vP_2 (by omega) (by omega)
theorem vP_b {v : Int64} {x z : Int32} (hx : x = v.toInt32) (hl : LG v 0 1000000) (hc : z = lg_cmp v 39) (hz : z.toInt ≤ 0) : vP 3 x := by
  have c : (39 : Int64).toInt = 39 := by decide
  have e := l2i_eq hx hl
  have d := cm_le hc hz
  unfold LG at hl
  exact vP_3 (by omega) (by omega)
theorem LG_0 : LG 0 0 1000000 := ⟨by decide, by decide⟩
