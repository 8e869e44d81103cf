/-! the row of 'multianewarray' of two dimensions -/
theorem gm_over {args : Array Value} {first s : State} {o : Option Outcome} {idx : List Nat} {t : FieldType} (h : (Cond.arrayOver (.array t)).holds args first o s idx = true) :
    ∃ cI cO k, s.vm.findClass (FieldType.array t).toString = some cI ∧ s.vm.findClass ("[" ++ (FieldType.array t).toString) = some cO ∧ s.vm.classes[cO]? = some k ∧ k.kind = .array cI (.array t) := by
  simp only [Cond.holds, Cond.value, beq_iff_eq] at h
  cases hc : s.vm.findClass (FieldType.array t).toString with
  | none => simp [hc] at h
  | some cI =>
    simp only [hc, Option.bind_some, Option.bind_eq_some_iff, Option.map_eq_some_iff] at h
    obtain ⟨cO, h1, k, h2, h3⟩ := h
    obtain ⟨hlt, hp, -⟩ := Array.findIdx?_eq_some_iff_getElem.mp h1
    have hq : s.vm.classes[cO] = k := (Array.getElem?_eq_some_iff.mp h2).2
    rw [hq] at hp
    cases hk : k.kind with
    | array comp ty =>
      rw [hk] at h3 hp
      simp at h3 hp
      exact ⟨cI, cO, k, rfl, h3.2, h2, by rw [hk, hp, h3.1]⟩
    | _ => rw [hk] at h3; simp at h3
/-- the classes of T[] and T[][] for 'new T[n][k]' -/
def gAr (t : FieldType) (s : State) : Prop := ∃ cI cO k, s.vm.findClass (FieldType.array t).toString = some cI ∧ s.vm.findClass ("[" ++ (FieldType.array t).toString) = some cO ∧ s.vm.classes[cO]? = some k ∧ k.kind = .array cI (.array t)
theorem gAr.moved {t : FieldType} {u U : State} (hvm : u.vm.Alike U.vm) (h : gAr t u) : gAr t U := by
  obtain ⟨cI, cO, k, h1, h2, h3, h4⟩ := h
  obtain ⟨k', hk', he⟩ := hvm.2.2 _ _ h3
  exact ⟨cI, cO, k', by rw [hvm.findClass]; exact h1, by rw [hvm.findClass]; exact h2, hk', by rw [he]; exact h4⟩
section GMR
variable {p : Program} {l : Launch} {e : Env} {R : Room} {s : State} {m : MethodId} {args : Array Value} {below : List Frame} {meth : Method} {c : Code} {H : Heap} {locs : List Loc} {cells slots : Nat} {Q : State → Prop}
theorem gm_rows (cO cI : ClassId) (N K : Nat) (dv : Value) (i : Nat) {T : State} (X : Stand p l e R s m args below meth c T locs cells slots) : ∀ j : Nat, Stand p l e R s m args below meth c (gm_st T cO cI N K dv i j) locs (cells + 1 + j) (slots + N + j * K) := by
  intro j
  induction j with
  | zero =>
    have h := X.pushed (gm_out cO N T.heap.size i)
    rw [gm_out_size, gm_st_new T cO cI N K dv i] at h
    simpa using h
  | succ j ih =>
    have h := ih.pushed (gm_in cI K dv)
    rw [gm_st_push, show (gm_in cI K dv).slots.size = K from by simp [gm_in]] at h
    have e1 : cells + 1 + (j + 1) = cells + 1 + j + 1 := by omega
    have e2 : slots + N + (j + 1) * K = slots + N + j * K + K := by rw [Nat.succ_mul]; omega
    rw [e1, e2]
    exact h
theorem gm_st_top (T : State) (g : JFrame) (cO cI : ClassId) (N K : Nat) (dv : Value) (i j : Nat) : gm_st (T.setTop g) cO cI N K dv i j = (gm_st T cO cI N K dv i j).setTop g := by
  unfold gm_st
  rw [State.heap_setTop]
  simp only [State.setTop, State.modifyTopJava, State.frames, State.setFrames]
theorem gm_mna {cc : ByteArray} {pc : Nat} {ls : Array Slot} {rest : List Value} (hexec : p.tables.exec = Jvm.exec) (hb : c.code = cc) {own : String} {index : Nat} {ty : FieldType} (hown : s.vm.findClass own = some m.cls)
    (hcl : (Cond.classLink own index ("[" ++ (FieldType.array ty).toString)).before args s = true) (hov : gAr ty s) (har : (Cond.arrayClass ty).before args s = true)
    {n w : Int32} {N K : Nat} (hN : n.toNatClampNeg = N) (hK : w.toNatClampNeg = K) (hn : ¬ n < 0) (hw : ¬ w < 0) (hb1 : N * 4 ≤ 536870912) (hb2 : K * componentBytes ty ≤ 536870912) (hb3 : K ≤ 536870912)
    (hv : fits ty (defaultValue ty) = true) (hv2 : (defaultValue ty).isDefault = true) (hcells : cells + (1 + N) ≤ R.cells) (hslots : slots + (N + N * K) ≤ R.slots) (hdg : decode cc pc = .ok (.multianewarray index 2, 4))
    (kk : ∀ (cO cI cz : ClassId) (kO kI : Class), s.vm.findClass ("[" ++ (FieldType.array ty).toString) = some cO → s.vm.findClass (FieldType.array ty).toString = some cI → s.vm.classes[cO]? = some kO → kO.kind = .array cI (.array ty) → s.vm.classes[cI]? = some kI → kI.kind = .array cz ty →
      W p l e R s m args below meth c (H.push (gm_out cO N H.size N) ++ Array.replicate N (gm_in cI K (defaultValue ty))) locs (cells + 1 + N) (slots + N + N * K) Q (F0 m (pc + 4) ls (.ref H.size :: rest))) :
    W p l e R s m args below meth c H locs cells slots Q (F0 m pc ls (.int w :: .int n :: rest)) := by
  intro T hT X
  subst hT
  have hpl : e.platform.magicAccessors = ({} : Platform).magicAccessors := by rw [X.admits.platform]
  obtain ⟨cI, cO, kO, fI, fO, hkO, hdO⟩ := hov
  obtain ⟨cI2, kI, cz, fI2, hkI, hdI⟩ := Cond.arrayClass_spec har
  have eI : cI2 = cI := Option.some.inj (fI2.symm.trans fI)
  subst eI
  obtain ⟨c0, f0, hln⟩ := Cond.classLink_spec hown hcl e.platform hpl
  have eO : c0 = cO := Option.some.inj (f0.symm.trans fO)
  subst eO
  obtain ⟨dk, _, _, _, hd, _, _, _, _, _, _, hres⟩ := hln.here
  have hgv := resolveClass_links e.toSetting (X.warmed.classLinks hln)
  have hwm : s.WarmedH (T.vm.noted m.cls index (.cls c0)) := X.warmed.noted hd hres (State.rightAt_cls hln)
  generalize hvm : T.vm.noted m.cls index (.cls c0) = vm1 at hgv hwm
  obtain ⟨kO1, hkO1, eO1⟩ := hwm.alike.2.2 _ _ hkO
  obtain ⟨kI1, hkI1, eI1⟩ := hwm.alike.2.2 _ _ hkI
  have X1 := X.noted hwm
  obtain ⟨r1, r2⟩ := X.roomAbove hcells hslots
  have XF := gm_rows c0 cI2 N K (defaultValue ty) N X1 N
  obtain ⟨t, a1, b1⟩ := kk c0 cI2 cz kO kI fO fI hkO hdO hkI hdI (gm_st (T.setVm vm1) c0 cI2 N K (defaultValue ty) N N) rfl XF
  refine ⟨t, ?_, b1⟩
  have hdg' : decode c.code (F0 m pc ls (.int w :: .int n :: rest)).pc = .ok (.multianewarray index 2, 4) := by rw [hb]; exact hdg
  generalize hg : (F0 m pc ls (.int w :: .int n :: rest)) = g at hdg' ⊢
  have hgm : g.method = m := by rw [← hg]
  have hst : g.stack = .int w :: .int n :: rest := by rw [← hg]
  have hg2 : F0 m (pc + 4) ls (.ref T.heap.size :: rest) = { g with pc := g.pc + 4, stack := .ref T.heap.size :: rest } := by rw [← hg]
  rw [hg2] at a1
  subst hgm
  jvm_step X.here [hexec, hdg']
  simp only [multianewarray.sem, wp_bind', W.resolveClassAt_links (State.method?_setTop g X.here.top) hgv]
  rw [W.popN, if_neg (by decide)]
  refine ⟨g, State.topJava?_setTop' (s := T.setVm vm1) g X.here.top, [.int n, .int w], rest, rfl, hst, ?_⟩
  simp only [List.mapM_cons, List.mapM_nil, wp_bind', wp_pure']
  refine gm_wpMake (kO := kO1) (kI := kI1) (cI := cI2) (cz := cz) (tO := .array ty) (ty := ty) hkO1 (by rw [eO1]; exact hdO) rfl hkI1 (by rw [eI1]; exact hdI) hn hw hv hv2 (by rw [Launch.admits_arrayLengthLimit X.admits]; omega) (by rw [Launch.admits_maxHeapBytes X.admits, hN]; exact hb1) (by rw [Launch.admits_arrayLengthLimit X.admits]; omega) (by rw [Launch.admits_maxHeapBytes X.admits, hK]; exact hb2) (by rw [hN]; show T.heap.size + 1 + N ≤ _; omega) (by rw [hN, hK]; show T.slotsUsed + N + N * K ≤ _; omega) (fun d' acts' => ?_)
  rw [hN, hK]
  have eS : ((T.setTop g).setVm vm1).setTop { g with stack := rest } = (T.setVm vm1).setTop { g with stack := rest } := by
    show ((T.setVm vm1).setTop g).setTop _ = _
    rw [State.setTop_setTop]
  rw [eS, gm_st_top]
  simp only [wp_bind', W.mark, W.pushRef, State.topJava?_setTop' _ XF.here.top, Option.some.injEq, exists_eq_left', State.setTop_setTop, State.heap_setTop]
  intro acts
  simp [jvm, XF.here.top]
  exact a1
end GMR
