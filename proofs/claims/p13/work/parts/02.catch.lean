/-! An exception that is caught by a row of the method's own table, the rows' classes resolved or not (own proof; the law beside the names asks one of the shelf that rounds don't have). -/
/-- one row that covers the place and links to a class: it takes the object, or the search goes on; the entry is noted either way -/
theorem gc_row {Q : Handler → Pre} {E : CtlPost} {e : Env} {d : Bool} {acts : List Action} {S : State} {f : JFrame} {a : Addr} {y : ExceptionTableEntry} {t : List ExceptionTableEntry} {k : ClassId} {cell : Cell}
    (hy : covers y f.pc = true) (h0 : y.catchType ≠ 0) (hl : S.vm.ClassLinks e.platform f.method.cls y.catchType k) (hcell : S.heap[a]? = some cell) (hobj : ∀ z, cell.vm ≠ .statics z)
    (h1 : ∃ z, S.vm.classes[cell.cls]? = some z) (h2 : ∃ z, S.vm.classes[k]? = some z) :
    wp (findHandler.go f a (y :: t)) Q E e d acts S ↔
      if S.vm.assignable cell.cls k = true then Q (.found y.handlerPc) d acts (S.setVm (S.vm.noted f.method.cls y.catchType (.cls k)))
      else wp (findHandler.go f a t) Q E e d acts (S.setVm (S.vm.noted f.method.cls y.catchType (.cls k))) := by
  simp only [covers] at hy
  have hal : S.vm.Alike (S.vm.noted f.method.cls y.catchType (.cls k)) := (Vm.Alike.refl S.vm).noted _ _ _
  obtain ⟨op1, op2⟩ := (resolveClass_links e.toSetting hl).op (op := VmOp.resolveClass f.method.cls y.catchType) rfl
  obtain ⟨z1, e1⟩ := h1
  obtain ⟨z2, e2⟩ := h2
  obtain ⟨w1, g1, -⟩ := hal.2.2 _ _ e1
  obtain ⟨w2, g2, -⟩ := hal.2.2 _ _ e2
  have hq : (S.vm.noted f.method.cls y.catchType (.cls k)).assignable cell.cls k = S.vm.assignable cell.cls k := by rw [hal.assignable]
  cases hb : S.vm.assignable cell.cls k
  · rw [hb] at hq
    simp [findHandler.go, hy, h0, op1, op2, hcell, hobj, g1, g2, hq, VmOp.dirties, VmOp.acts]
  · rw [hb] at hq
    simp [findHandler.go, hy, h0, op1, op2, hcell, hobj, g1, g2, hq, VmOp.dirties, VmOp.acts]
/-- a row that doesn't take an object of the class th -/
def gc_pass (pl : Platform) (s0 : State) (own : ClassId) (pc : Nat) (th : ClassId) (y : ExceptionTableEntry) : Prop :=
  covers y pc = true → y.catchType ≠ 0 ∧ ∃ k, s0.vm.ClassLinks pl own y.catchType k ∧ s0.vm.assignable th k = false
theorem gc_find {e : Env} {s0 : State} {f : JFrame} {a : Addr} {cell : Cell} {x : ExceptionTableEntry} {rest : List ExceptionTableEntry} {k0 : ClassId} (hobj : ∀ z, cell.vm ≠ .statics z) (hc0 : ∃ z, s0.vm.classes[cell.cls]? = some z)
    (hx : covers x f.pc = true) (h0 : x.catchType ≠ 0) (hl : s0.vm.ClassLinks e.platform f.method.cls x.catchType k0) (hfit : s0.vm.assignable cell.cls k0 = true) (pre : List ExceptionTableEntry) :
    ∀ S : State, s0.WarmedH S.vm → S.heap[a]? = some cell → (∀ y ∈ pre, gc_pass e.platform s0 f.method.cls f.pc cell.cls y) →
      ∃ vm', s0.WarmedH vm' ∧ ∀ (Q : Handler → Pre) (E : CtlPost) (d : Bool) (acts : List Action), wp (findHandler.go f a (pre ++ x :: rest)) Q E e d acts S ↔ Q (.found x.handlerPc) d acts (S.setVm vm') := by
  obtain ⟨zc, hzc⟩ := hc0
  have step : ∀ (S : State) (y : ExceptionTableEntry) (k : ClassId), s0.WarmedH S.vm → s0.vm.ClassLinks e.platform f.method.cls y.catchType k →
      s0.WarmedH (S.vm.noted f.method.cls y.catchType (.cls k)) ∧ S.vm.ClassLinks e.platform f.method.cls y.catchType k ∧ (∃ z, S.vm.classes[cell.cls]? = some z) ∧ (∃ z, S.vm.classes[k]? = some z) ∧ S.vm.assignable cell.cls k = s0.vm.assignable cell.cls k := by
    intro S y k hW hk
    obtain ⟨dk, _, _, kt, hd, _, _, _, _, hkt, _, hopen⟩ := hk.here
    obtain ⟨q1, g1, -⟩ := hW.alike.2.2 _ _ hzc
    obtain ⟨q2, g2, -⟩ := hW.alike.2.2 _ _ hkt
    exact ⟨hW.noted hd hopen (State.rightAt_cls hk), hW.classLinks hk, ⟨q1, g1⟩, ⟨q2, g2⟩, by rw [hW.alike.assignable]⟩
  induction pre with
  | nil =>
    intro S hW hcell _
    obtain ⟨w1, w2, w3, w4, w5⟩ := step S x k0 hW hl
    refine ⟨_, w1, fun Q E d acts => ?_⟩
    rw [List.nil_append, gc_row hx h0 w2 hcell hobj w3 w4, if_pos (w5.trans hfit)]
  | cons y ys ih =>
    intro S hW hcell hp
    have hp' : ∀ z ∈ ys, gc_pass e.platform s0 f.method.cls f.pc cell.cls z := fun z hz => hp z (List.mem_cons_of_mem _ hz)
    cases hc : covers y f.pc
    · obtain ⟨vm', h1, h2⟩ := ih S hW hcell hp'
      refine ⟨vm', h1, fun Q E d acts => ?_⟩
      rw [List.cons_append, W.findHandler_go_skip hc]
      exact h2 Q E d acts
    · obtain ⟨g0, k, g1, g2⟩ := hp y List.mem_cons_self hc
      obtain ⟨w1, w2, w3, w4, w5⟩ := step S y k hW g1
      obtain ⟨vm', h1, h2⟩ := ih (S.setVm (S.vm.noted f.method.cls y.catchType (.cls k))) w1 hcell hp'
      refine ⟨vm', h1, fun Q E d acts => ?_⟩
      rw [List.cons_append, gc_row hc g0 w2 hcell hobj w3 w4, if_neg (by rw [w5, g2]; decide)]
      exact h2 Q E d acts
section GC
variable {p : Program} {l : Launch} {e : Env} {R : Room} {s : State} {m : MethodId} {args : Array Value} {below : List Frame} {meth : Method} {c : Code} {H : Heap} {locs : List Loc} {cells slots : Nat} {Q : State → Prop} {pc : Nat} {ls : Array Slot} {rest : List Value}
/-- the machine's step into the handler -/
theorem gc_steps {T : State} {g : JFrame} {q : Addr} (h : At T g.method c below) {hp : Nat} {vm' : Vm}
    (hf : ∀ (Q : Handler → Pre) (E : CtlPost) (d : Bool) (acts : List Action), wp (findHandler g q) Q E e d acts ((T.setTop g).pushFrame (.throwing q)) ↔ Q (.found hp) d acts (((T.setTop g).pushFrame (.throwing q)).setVm vm')) {target : State}
    (hrest : Steps p.tables e below ((T.setVm vm').setTop { g with pc := hp, stack := [.ref q] }) target) : Steps p.tables e below ((T.setTop g).pushFrame (.throwing q)) target := by
  obtain ⟨hgo, hw⟩ := h.throwing q
  refine Steps.head hgo hw ?_
  have hone : ∀ (r : List Frame), (stepThrowing e ((T.setTop g).pushFrame (.throwing q)) q (.java g :: r)).1 = (((T.setTop g).pushFrame (.throwing q)).setVm vm').setFrames (.java { g with pc := hp, stack := [.ref q] } :: r) := by
    intro r
    simp only [stepThrowing, searchFrame, vmDo]
    generalize hr : Sem.go _ e false [] ((T.setTop g).pushFrame (.throwing q)) = res
    obtain ⟨as, rfl, ha⟩ := Sem.eq_ok_of hr (a := Handler.found hp) (s' := ((T.setTop g).pushFrame (.throwing q)).setVm vm') (acts' := []) (by simp [hf _ _ _ _])
    rfl
  rw [stepThread_throwing (frames_entered h.top _), hone]
  obtain ⟨g0, hg⟩ := Option.isSome_iff_exists.mp h.top
  obtain ⟨r, hr⟩ := State.topJava?_eq_some.mp hg
  have hr' : (T.setVm vm').frames = .java g0 :: r := hr
  rw [State.setTop_of_frames _ hr'] at hrest
  rw [hr]
  have e1 : (((T.setTop g).pushFrame (.throwing q)).setVm vm').setFrames (.java { g with pc := hp, stack := [.ref q] } :: r) = (T.setVm vm').setFrames (.java { g with pc := hp, stack := [.ref q] } :: r) := by
    rw [State.setTop_of_frames _ hr, State.pushFrame]
    show (((T.setFrames _).setFrames _).setFrames _).setVm vm' = (T.setFrames _).setVm vm'
    rw [State.setFrames_setFrames, State.setFrames_setFrames]
  first | (rw [e1]; exact hrest) | (simp only [List.tail_cons]; rw [e1]; exact hrest)
end GC
