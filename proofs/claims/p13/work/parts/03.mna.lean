section
/-! 'new T[n][k]' as one instruction (own proof): the outer array at the old end of the heap, then n rows of k places. -/
def gm_in (cI : ClassId) (K : Nat) (dv : Value) : Cell := { cls := cI, slots := Array.replicate K dv, vm := .none }
/-- the outer array of N places at h0, i of them filled -/
def gm_out (cO : ClassId) (N h0 i : Nat) : Cell := { cls := cO, slots := Array.ofFn (n := N) (fun j => if j.val < i then Value.ref (h0 + 1 + j.val) else Value.null), vm := .none }
/-- T with such an outer array and j rows behind its heap -/
def gm_st (T : State) (cO cI : ClassId) (N K : Nat) (dv : Value) (i j : Nat) : State := { T with heap := T.heap.push (gm_out cO N T.heap.size i) ++ Array.replicate j (gm_in cI K dv), slotsUsed := T.slotsUsed + N + j * K }
theorem gm_out_size (cO : ClassId) (N h0 i : Nat) : (gm_out cO N h0 i).slots.size = N := by simp [gm_out]
theorem gm_out_0 (cO : ClassId) (N h0 : Nat) : gm_out cO N h0 0 = { cls := cO, slots := Array.replicate N .null, vm := .none } := by
  unfold gm_out
  congr 1
  apply Array.ext
  · simp
  · intro i h1 h2
    simp
theorem gm_out_set (cO : ClassId) (N h0 : Nat) {i : Nat} (hi : i < N) : (gm_out cO N h0 i).setSlot i (.ref (h0 + 1 + i)) = gm_out cO N h0 (i + 1) := by
  unfold gm_out Cell.setSlot
  congr 1
  apply Array.ext_getElem?
  intro j
  rw [Array.getElem?_setIfInBounds]
  simp only [Array.getElem?_ofFn, Array.size_ofFn]
  by_cases e : i = j
  · subst e
    simp [hi]
  · rw [if_neg e]
    by_cases hj : j < N
    · rw [dif_pos hj, dif_pos hj]
      by_cases q : j < i
      · rw [if_pos q, if_pos (by omega)]
      · rw [if_neg q, if_neg (by omega)]
    · rw [dif_neg hj, dif_neg hj]
theorem gm_st_new (T : State) (cO cI : ClassId) (N K : Nat) (dv : Value) (i : Nat) : T.pushCell (gm_out cO N T.heap.size i) = gm_st T cO cI N K dv i 0 := by
  unfold gm_st State.pushCell
  rw [gm_out_size]
  simp
theorem gm_st_push (T : State) (cO cI : ClassId) (N K : Nat) (dv : Value) (i j : Nat) : (gm_st T cO cI N K dv i j).pushCell (gm_in cI K dv) = gm_st T cO cI N K dv i (j + 1) := by
  unfold gm_st State.pushCell
  have h1 : (gm_in cI K dv).slots.size = K := by simp [gm_in]
  have h2 : (T.heap.push (gm_out cO N T.heap.size i) ++ Array.replicate j (gm_in cI K dv)).push (gm_in cI K dv) = T.heap.push (gm_out cO N T.heap.size i) ++ Array.replicate (j + 1) (gm_in cI K dv) := by
    rw [Array.replicate_succ, Array.append_push]
  show ({ T with heap := _, slotsUsed := _ } : State) = { T with heap := _, slotsUsed := _ }
  rw [h2, h1, Nat.succ_mul, Nat.add_assoc (T.slotsUsed + N)]
theorem gm_st_set (T : State) (cO cI : ClassId) (N K : Nat) (dv : Value) {i : Nat} (j : Nat) (hi : i < N) : (gm_st T cO cI N K dv i j).setCell T.heap.size ((gm_out cO N T.heap.size i).setSlot i (.ref (T.heap.size + 1 + i))) = gm_st T cO cI N K dv (i + 1) j := by
  rw [gm_out_set cO N T.heap.size hi]
  unfold gm_st State.setCell
  have h2 : (T.heap.push (gm_out cO N T.heap.size i) ++ Array.replicate j (gm_in cI K dv)).setIfInBounds T.heap.size (gm_out cO N T.heap.size (i + 1)) = T.heap.push (gm_out cO N T.heap.size (i + 1)) ++ Array.replicate j (gm_in cI K dv) := by
    apply Array.ext_getElem?
    intro q
    rw [Array.getElem?_setIfInBounds]
    by_cases e : T.heap.size = q
    · subst e
      rw [if_pos rfl, Array.getElem?_append_left (by simp)]
      simp
      omega
    · rw [if_neg e]
      by_cases a : q < T.heap.size
      · rw [Array.getElem?_append_left (by simp; omega), Array.getElem?_append_left (by simp; omega), Array.getElem?_push, Array.getElem?_push]
        rw [if_neg (by omega), if_neg (by omega)]
      · rw [Array.getElem?_append_right (by simp; omega), Array.getElem?_append_right (by simp; omega)]
        simp
  show ({ T with heap := _, slotsUsed := _ } : State) = { T with heap := _, slotsUsed := _ }
  rw [h2]
theorem gm_st_size (T : State) (cO cI : ClassId) (N K : Nat) (dv : Value) (i j : Nat) : (gm_st T cO cI N K dv i j).heap.size = T.heap.size + 1 + j := by
  simp [gm_st]
theorem gm_st_outer (T : State) (cO cI : ClassId) (N K : Nat) (dv : Value) (i j : Nat) : (gm_st T cO cI N K dv i j).heap[T.heap.size]? = some (gm_out cO N T.heap.size i) := by
  show (T.heap.push (gm_out cO N T.heap.size i) ++ Array.replicate j (gm_in cI K dv))[T.heap.size]? = _
  rw [Array.getElem?_append_left (by simp)]
  simp
theorem gm_st_inner (T : State) (cO cI : ClassId) (N K : Nat) (dv : Value) (i j : Nat) {q : Nat} (hq : q < j) : (gm_st T cO cI N K dv i j).heap[T.heap.size + 1 + q]? = some (gm_in cI K dv) := by
  show (T.heap.push (gm_out cO N T.heap.size i) ++ Array.replicate j (gm_in cI K dv))[T.heap.size + 1 + q]? = _
  rw [Array.getElem?_append_right (by simp)]
  simp [hq]
theorem gm_st_old (T : State) (cO cI : ClassId) (N K : Nat) (dv : Value) (i j : Nat) {q : Nat} (hq : q < T.heap.size) : (gm_st T cO cI N K dv i j).heap[q]? = T.heap[q]? := by
  show (T.heap.push (gm_out cO N T.heap.size i) ++ Array.replicate j (gm_in cI K dv))[q]? = _
  rw [Array.getElem?_append_left (by simp; omega), Array.getElem?_push_lt hq]
  simp [hq]

section GM
variable {E : CtlPost} {e : Env} {d : Bool} {acts : List Action} {S : State}
/-- one array of default values -/
theorem gm_wpNew {cA comp : ClassId} {k : Class} {ty : FieldType} {n : Nat} {v : Value} (hk : S.vm.classes[cA]? = some k) (hkd : k.kind = .array comp ty) (hv : fits ty v = true) (hv2 : v.isDefault = true)
    (hlim : n ≤ e.platform.arrayLengthLimit) (hbytes : n * componentBytes ty ≤ e.platform.maxHeapBytes) (hc : S.heap.size < e.platform.maxCells) (hs : S.slotsUsed + n ≤ e.platform.maxSlots) {Q : Addr → Pre}
    (hq : Q S.heap.size d acts (S.pushCell { cls := cA, slots := Array.replicate n v, vm := .none })) : wp (Jvm.newArray cA n v) Q E e d acts S := by
  have h1 : ∀ i w, (Array.replicate n v)[i]? = some w → S.fitsSlot cA .none i w = true := by
    intro i w hw
    rw [Array.getElem?_replicate] at hw
    split at hw
    · cases hw
      simp [State.fitsSlot, State.slotType?, hk, hkd, hv]
    · cases hw
  have h2 : allocActs (Array.replicate n v) S.heap.size acts = acts := by
    unfold allocActs
    rw [if_pos]
    rw [Array.all_replicate]
    split <;> simp [hv2]
  have a1 : ¬ n > e.platform.arrayLengthLimit := by omega
  have a2 : ¬ n * componentBytes ty > e.platform.maxHeapBytes := by omega
  simp only [Jvm.newArray, Jvm.arrayFits, wp_bind', W.ask, W.ite, a1, if_false, wp_pure', W.theClass, hk, hkd, a2, W.alloc, W.stop, Option.some.injEq, exists_eq_left', Array.size_replicate, h2]
  rw [if_neg (by omega)]
  exact ⟨hc, hs, h1, hq⟩
theorem gm_refFits {t : FieldType} (h : t.isReference = true) {v : Value} (hv : v = .null ∨ ∃ a, v = .ref a) : fits t v = true := by
  rcases hv with rfl | ⟨a, rfl⟩ <;> cases t <;> first | (cases h; done) | rfl
theorem gm_wpRow {cI cz : ClassId} {k : Class} {ty : FieldType} {w : Int32} (hk : S.vm.classes[cI]? = some k) (hkd : k.kind = .array cz ty) (hw : ¬ w < 0) (hv : fits ty (defaultValue ty) = true) (hv2 : (defaultValue ty).isDefault = true)
    (hlim : w.toNatClampNeg ≤ e.platform.arrayLengthLimit) (hbytes : w.toNatClampNeg * componentBytes ty ≤ e.platform.maxHeapBytes) (hc : S.heap.size < e.platform.maxCells) (hs : S.slotsUsed + w.toNatClampNeg ≤ e.platform.maxSlots) {Q : Addr → Pre}
    (hq : Q S.heap.size d acts (S.pushCell (gm_in cI w.toNatClampNeg (defaultValue ty)))) : wp (multianewarray.make cI [w]) Q E e d acts S := by
  rw [multianewarray.make]
  simp only [wp_bind', W.ite, hw, if_false, wp_pure', W.theClass, hk, hkd, Option.some.injEq, exists_eq_left']
  exact gm_wpNew hk hkd hv hv2 hlim hbytes hc hs hq
theorem gm_wpMake {cO cI cz : ClassId} {kO kI : Class} {tO ty : FieldType} {n w : Int32} (hkO : S.vm.classes[cO]? = some kO) (hdO : kO.kind = .array cI tO) (hr : tO.isReference = true) (hkI : S.vm.classes[cI]? = some kI) (hdI : kI.kind = .array cz ty)
    (hn : ¬ n < 0) (hw : ¬ w < 0) (hv : fits ty (defaultValue ty) = true) (hv2 : (defaultValue ty).isDefault = true)
    (hlim : n.toNatClampNeg ≤ e.platform.arrayLengthLimit) (hbytes : n.toNatClampNeg * componentBytes tO ≤ e.platform.maxHeapBytes) (hlim2 : w.toNatClampNeg ≤ e.platform.arrayLengthLimit) (hbytes2 : w.toNatClampNeg * componentBytes ty ≤ e.platform.maxHeapBytes)
    (hc : S.heap.size + 1 + n.toNatClampNeg ≤ e.platform.maxCells) (hs : S.slotsUsed + n.toNatClampNeg + n.toNatClampNeg * w.toNatClampNeg ≤ e.platform.maxSlots) {Q : Addr → Pre}
    (hq : ∀ d' acts', Q S.heap.size d' acts' (gm_st S cO cI n.toNatClampNeg w.toNatClampNeg (defaultValue ty) n.toNatClampNeg n.toNatClampNeg)) : wp (multianewarray.make cO [n, w]) Q E e d acts S := by
  have hfind : ([w].find? (· < 0)) = none := by simp [hw]
  generalize hN : n.toNatClampNeg = N at *
  generalize hK : w.toNatClampNeg = K at *
  rw [multianewarray.make]
  simp only [wp_bind', W.ite, hn, if_false, wp_pure', W.theClass, hkO, hdO, Option.some.injEq, exists_eq_left', hN]
  refine gm_wpNew hkO hdO (gm_refFits hr (Or.inl rfl)) rfl hlim hbytes (by omega) (by omega) ?_
  simp only [hfind]
  rw [ite_self, wp_bind', Std.Legacy.Range.forIn_eq_forIn_range']
  have hsz : ([:N] : Std.Legacy.Range).size = N := by simp [Std.Legacy.Range.size]
  rw [hsz]
  show wp (forIn (List.range' 0 N 1) PUnit.unit _) _ E e d acts _
  rw [← gm_out_0 cO N S.heap.size, gm_st_new S cO cI N K (defaultValue ty) 0]
  refine wp_forIn_inv (fun rest s' => ∃ i, i ≤ N ∧ rest = List.range' i (N - i) ∧ s' = gm_st S cO cI N K (defaultValue ty) i i) _ _ ⟨0, Nat.zero_le _, rfl, rfl⟩ ?_ ?_
  · rintro x rest s' d' acts' Q' ⟨i, hi, hl, rfl⟩ hnext
    rcases Nat.lt_or_ge i N with hlt | hge
    · rw [show N - i = (N - (i + 1)) + 1 from by omega, List.range'_succ] at hl
      obtain ⟨rfl, hrest⟩ := List.cons.inj hl
      have hmul : x * K + K ≤ N * K := by
        have h9 := Nat.mul_le_mul_right K (show x + 1 ≤ N from hlt)
        rw [Nat.succ_mul] at h9
        exact h9
      have z1 : (gm_st S cO cI N K (defaultValue ty) x x).heap.size = S.heap.size + 1 + x := gm_st_size ..
      have z2 : (gm_st S cO cI N K (defaultValue ty) x x).slotsUsed = S.slotsUsed + N + x * K := rfl
      simp only [wp_bind']
      refine gm_wpRow (S := gm_st S cO cI N K (defaultValue ty) x x) (k := kI) hkI hdI hw hv hv2 (by rw [hK]; exact hlim2) (by rw [hK]; exact hbytes2) (by rw [z1]; omega) (by rw [z2, hK]; omega) ?_
      simp only [wp_bind', W.writeLoc, wp_pure']
      rw [hK, gm_st_push, z1]
      refine ⟨gm_out cO N S.heap.size x, gm_st_outer .., by simp [gm_out], by rw [gm_out_size]; exact hlt, ?_, hnext _ _ _ ⟨x + 1, hlt, hrest, ?_⟩⟩
      · show State.fitsSlot _ cO .none x _ = true
        simp [State.fitsSlot, State.slotType?, show (gm_st S cO cI N K (defaultValue ty) x (x + 1)).vm = S.vm from rfl, hkO, hdO, gm_refFits hr (Or.inr ⟨_, rfl⟩)]
      · exact gm_st_set S cO cI N K (defaultValue ty) (x + 1) hlt
    · rw [show N - i = 0 from by omega] at hl
      cases hl
  · rintro s' d' acts' ⟨i, hi, hl, rfl⟩
    have hiN : i = N := by
      rcases Nat.lt_or_ge i N with h | h
      · rw [show N - i = (N - (i + 1)) + 1 from by omega, List.range'_succ] at hl
        cases hl
      · omega
    subst hiN
    simp only [wp_pure']
    exact hq _ _
end GM
end
section
/-! the row of 'multianewarray' of two dimensions -/
theorem gm_over {args : Array Value} {first s : State} {o : Option Outcome} {idx : List Nat} {t : FieldType} (h : (Cond.arrayOver (.array t)).holds args first o s idx = true) :
    ∃ cI cO k, s.vm.findClass (FieldType.array t).toString = some cI ∧ s.vm.findClass ("[" ++ (FieldType.array t).toString) = some cO ∧ s.vm.classes[cO]? = some k ∧ k.kind = .array cI (.array t) := by
  simp only [Cond.holds, Cond.value, beq_iff_eq] at h
  cases hc : s.vm.findClass (FieldType.array t).toString with
  | none => simp [hc] at h
  | some cI =>
    simp only [hc, Option.bind_some, Option.bind_eq_some_iff, Option.map_eq_some_iff] at h
    obtain ⟨cO, h1, k, h2, h3⟩ := h
    obtain ⟨hlt, hp, -⟩ := Array.findIdx?_eq_some_iff_getElem.mp h1
    have hq : s.vm.classes[cO] = k := (Array.getElem?_eq_some_iff.mp h2).2
    rw [hq] at hp
    cases hk : k.kind with
    | array comp ty =>
      rw [hk] at h3 hp
      simp at h3 hp
      exact ⟨cI, cO, k, rfl, h3.2, h2, by rw [hk, hp, h3.1]⟩
    | _ => rw [hk] at h3; simp at h3
/-- the classes of T[] and T[][] for 'new T[n][k]' -/
def gAr (t : FieldType) (s : State) : Prop := ∃ cI cO k, s.vm.findClass (FieldType.array t).toString = some cI ∧ s.vm.findClass ("[" ++ (FieldType.array t).toString) = some cO ∧ s.vm.classes[cO]? = some k ∧ k.kind = .array cI (.array t)
theorem gAr.moved {t : FieldType} {u U : State} (hvm : u.vm.Alike U.vm) (h : gAr t u) : gAr t U := by
  obtain ⟨cI, cO, k, h1, h2, h3, h4⟩ := h
  obtain ⟨k', hk', he⟩ := hvm.2.2 _ _ h3
  exact ⟨cI, cO, k', by rw [hvm.findClass]; exact h1, by rw [hvm.findClass]; exact h2, hk', by rw [he]; exact h4⟩
section GMR
variable {p : Program} {l : Launch} {e : Env} {R : Room} {s : State} {m : MethodId} {args : Array Value} {below : List Frame} {meth : Method} {c : Code} {H : Heap} {locs : List Loc} {cells slots : Nat} {Q : State → Prop}
theorem gm_rows (cO cI : ClassId) (N K : Nat) (dv : Value) (i : Nat) {T : State} (X : Stand p l e R s m args below meth c T locs cells slots) : ∀ j : Nat, Stand p l e R s m args below meth c (gm_st T cO cI N K dv i j) locs (cells + 1 + j) (slots + N + j * K) := by
  intro j
  induction j with
  | zero =>
    have h := X.pushed (gm_out cO N T.heap.size i)
    rw [gm_out_size, gm_st_new T cO cI N K dv i] at h
    simpa using h
  | succ j ih =>
    have h := ih.pushed (gm_in cI K dv)
    rw [gm_st_push, show (gm_in cI K dv).slots.size = K from by simp [gm_in]] at h
    have e1 : cells + 1 + (j + 1) = cells + 1 + j + 1 := by omega
    have e2 : slots + N + (j + 1) * K = slots + N + j * K + K := by rw [Nat.succ_mul]; omega
    rw [e1, e2]
    exact h
theorem gm_st_top (T : State) (g : JFrame) (cO cI : ClassId) (N K : Nat) (dv : Value) (i j : Nat) : gm_st (T.setTop g) cO cI N K dv i j = (gm_st T cO cI N K dv i j).setTop g := by
  unfold gm_st
  rw [State.heap_setTop]
  simp only [State.setTop, State.modifyTopJava, State.frames, State.setFrames]
theorem gm_mna {cc : ByteArray} {pc : Nat} {ls : Array Slot} {rest : List Value} (hexec : p.tables.exec = Jvm.exec) (hb : c.code = cc) {own : String} {index : Nat} {ty : FieldType} (hown : s.vm.findClass own = some m.cls)
    (hcl : (Cond.classLink own index ("[" ++ (FieldType.array ty).toString)).before args s = true) (hov : gAr ty s) (har : (Cond.arrayClass ty).before args s = true)
    {n w : Int32} {N K : Nat} (hN : n.toNatClampNeg = N) (hK : w.toNatClampNeg = K) (hn : ¬ n < 0) (hw : ¬ w < 0) (hb1 : N * 4 ≤ 536870912) (hb2 : K * componentBytes ty ≤ 536870912) (hb3 : K ≤ 536870912)
    (hv : fits ty (defaultValue ty) = true) (hv2 : (defaultValue ty).isDefault = true) (hcells : cells + (1 + N) ≤ R.cells) (hslots : slots + (N + N * K) ≤ R.slots) (hdg : decode cc pc = .ok (.multianewarray index 2, 4))
    (kk : ∀ (cO cI cz : ClassId) (kO kI : Class), s.vm.findClass ("[" ++ (FieldType.array ty).toString) = some cO → s.vm.findClass (FieldType.array ty).toString = some cI → s.vm.classes[cO]? = some kO → kO.kind = .array cI (.array ty) → s.vm.classes[cI]? = some kI → kI.kind = .array cz ty →
      W p l e R s m args below meth c (H.push (gm_out cO N H.size N) ++ Array.replicate N (gm_in cI K (defaultValue ty))) locs (cells + 1 + N) (slots + N + N * K) Q (F0 m (pc + 4) ls (.ref H.size :: rest))) :
    W p l e R s m args below meth c H locs cells slots Q (F0 m pc ls (.int w :: .int n :: rest)) := by
  intro T hT X
  subst hT
  have hpl : e.platform.magicAccessors = ({} : Platform).magicAccessors := by rw [X.admits.platform]
  obtain ⟨cI, cO, kO, fI, fO, hkO, hdO⟩ := hov
  obtain ⟨cI2, kI, cz, fI2, hkI, hdI⟩ := Cond.arrayClass_spec har
  have eI : cI2 = cI := Option.some.inj (fI2.symm.trans fI)
  subst eI
  obtain ⟨c0, f0, hln⟩ := Cond.classLink_spec hown hcl e.platform hpl
  have eO : c0 = cO := Option.some.inj (f0.symm.trans fO)
  subst eO
  obtain ⟨dk, _, _, _, hd, _, _, _, _, _, _, hres⟩ := hln.here
  have hgv := resolveClass_links e.toSetting (X.warmed.classLinks hln)
  have hwm : s.WarmedH (T.vm.noted m.cls index (.cls c0)) := X.warmed.noted hd hres (State.rightAt_cls hln)
  generalize hvm : T.vm.noted m.cls index (.cls c0) = vm1 at hgv hwm
  obtain ⟨kO1, hkO1, eO1⟩ := hwm.alike.2.2 _ _ hkO
  obtain ⟨kI1, hkI1, eI1⟩ := hwm.alike.2.2 _ _ hkI
  have X1 := X.noted hwm
  obtain ⟨r1, r2⟩ := X.roomAbove hcells hslots
  have XF := gm_rows c0 cI2 N K (defaultValue ty) N X1 N
  obtain ⟨t, a1, b1⟩ := kk c0 cI2 cz kO kI fO fI hkO hdO hkI hdI (gm_st (T.setVm vm1) c0 cI2 N K (defaultValue ty) N N) rfl XF
  refine ⟨t, ?_, b1⟩
  have hdg' : decode c.code (F0 m pc ls (.int w :: .int n :: rest)).pc = .ok (.multianewarray index 2, 4) := by rw [hb]; exact hdg
  generalize hg : (F0 m pc ls (.int w :: .int n :: rest)) = g at hdg' ⊢
  have hgm : g.method = m := by rw [← hg]
  have hst : g.stack = .int w :: .int n :: rest := by rw [← hg]
  have hg2 : F0 m (pc + 4) ls (.ref T.heap.size :: rest) = { g with pc := g.pc + 4, stack := .ref T.heap.size :: rest } := by rw [← hg]
  rw [hg2] at a1
  subst hgm
  jvm_step X.here [hexec, hdg']
  simp only [multianewarray.sem, wp_bind', W.resolveClassAt_links (State.method?_setTop g X.here.top) hgv]
  rw [W.popN, if_neg (by decide)]
  refine ⟨g, State.topJava?_setTop' (s := T.setVm vm1) g X.here.top, [.int n, .int w], rest, rfl, hst, ?_⟩
  simp only [List.mapM_cons, List.mapM_nil, wp_bind', wp_pure']
  refine gm_wpMake (kO := kO1) (kI := kI1) (cI := cI2) (cz := cz) (tO := .array ty) (ty := ty) hkO1 (by rw [eO1]; exact hdO) rfl hkI1 (by rw [eI1]; exact hdI) hn hw hv hv2 (by rw [Launch.admits_arrayLengthLimit X.admits]; omega) (by rw [Launch.admits_maxHeapBytes X.admits, hN]; exact hb1) (by rw [Launch.admits_arrayLengthLimit X.admits]; omega) (by rw [Launch.admits_maxHeapBytes X.admits, hK]; exact hb2) (by rw [hN]; show T.heap.size + 1 + N ≤ _; omega) (by rw [hN, hK]; show T.slotsUsed + N + N * K ≤ _; omega) (fun d' acts' => ?_)
  rw [hN, hK]
  have eS : ((T.setTop g).setVm vm1).setTop { g with stack := rest } = (T.setVm vm1).setTop { g with stack := rest } := by
    show ((T.setVm vm1).setTop g).setTop _ = _
    rw [State.setTop_setTop]
  rw [eS, gm_st_top]
  simp only [wp_bind', W.mark, W.pushRef, State.topJava?_setTop' _ XF.here.top, Option.some.injEq, exists_eq_left', State.setTop_setTop, State.heap_setTop]
  intro acts
  simp [jvm, XF.here.top]
  exact a1
end GMR
end
section
/-! ===== BEGIN words of one list among another's, by their places ===== -/
theorem goodIn_r {big : List Cond} (ws : List Cond) (ps : List Nat) (hp : ws = ps.filterMap (fun i => big[i]?)) (h : ws.all goodWord = true) : GoodIn big ws := by
  intro w hw
  have h1 := List.all_eq_true.mp h w hw
  rw [hp] at hw
  obtain ⟨i, -, hi⟩ := List.mem_filterMap.mp hw
  have hm : w ∈ big := by first | exact List.mem_of_getElem? hi | exact List.getElem?_mem hi
  exact ⟨hm, good_of_word h1⟩
theorem goodIn_app {big a b : List Cond} (ha : GoodIn big a) (hb : GoodIn big b) : GoodIn big (a ++ b) := fun w h => (List.mem_append.mp h).elim (ha w) (hb w)
theorem goodIn_ca {big a b : List Cond} {c : Cond} (ha : GoodIn big (c :: a)) (hb : GoodIn big b) : GoodIn big (c :: (a ++ b)) := fun w h => (List.mem_cons.mp h).elim (fun e => ha w (List.mem_cons.mpr (Or.inl e))) (fun h => (List.mem_append.mp h).elim (fun h => ha w (List.mem_cons.mpr (Or.inr h))) (hb w))
theorem goodIn_sub {big ws : List Cond} (hm : ∀ w ∈ ws, w ∈ big) (h : ws.all goodWord = true) : GoodIn big ws := fun w hw => ⟨hm w hw, good_of_word (List.all_eq_true.mp h w hw)⟩
/-! ===== END ===== -/
/-! ===== BEGIN exceptions that leave a method, and their catching by the caller (launches without stack traces) ===== -/
section VXA
/-! The laws vx_back, vx_callV, vx_callS, vx_callSW, vx_throw0, vx_throwS follow proofs of the library, with one case more: JvmDerived/Free/Laws.lean (Back.of_free), Shelf42/LK1.lean (callV, callS), Shelf/KitTraced.lean (throwNew0V, throwNewS). -/
/-- where a method has thrown q: the class by its name, the cell, what was written, the world -/
def vx_T (XC : String → Addr → State → State → Prop) (st : State) (q : Addr) (t : State) (mc ms : Nat) (free : Addr → Prop) : Prop :=
  ∃ (E : String) (ce : Cell) (L : List Loc), XC E q st t ∧ t.heap[q]? = some ce ∧ ce.vm = .none ∧ st.vm.findClass E = some ce.cls ∧ st.WarmedH t.vm ∧ st.sameButNew ({ t with vm := st.vm } : State) L mc ms ∧ ∀ z ∈ L, free z.base
def vx_Q (Qc : Array Value → State → Outcome → State → Prop) (XC : String → Addr → State → State → Prop) (mc ms : Nat) (free : Addr → Prop) : Array Value → State → Outcome → State → Prop := fun a st o t =>
  (Qc a st o t ∧ ∃ L, FrameEnd st o t L mc ms ∧ ∀ q ∈ L, free q.base) ∨ ∃ q, o = .threw q ∧ vx_T XC st q t mc ms free
/-- a callee that returns or throws -/
def vx_Met (l : Launch) (y : MethodName) (ws : List Cond) (rm : Room) (Pc : Array Value → State → Prop) (Qc : Array Value → State → Outcome → State → Prop) (XC : String → Addr → State → State → Prop) (mc ms : Nat) (free : Addr → Prop) : Prop :=
  MetFree l y (headSpec ws rm) Pc (fun _ _ _ _ _ => True) (vx_Q Qc XC mc ms free)
def vx_Post (XC : String → Addr → State → State → Prop) (mc ms : Nat) (free : Addr → Prop) : Pt → Array Value → Addr → Pt → Prop := fun A a q B =>
  ∃ (g : JFrame) (mk : MethodId) (t : State) (L : List Loc) (E : String) (ce : Cell), B.U.heap = t.heap ∧ B.U.vm = t.vm ∧ XC E q (A.U.calling g mk a) t ∧ t.heap[q]? = some ce ∧ ce.vm = .none ∧ A.U.vm.findClass E = some ce.cls ∧ B.locs = A.locs ++ L ∧ (∀ z ∈ L, free z.base) ∧ B.cells = A.cells + mc ∧ B.slots = A.slots + ms
def vx_Back (l : Launch) (R : Room) (p : Program) (e : Env) (below : List Frame) (s : State) (sargs : Array Value) (y : MethodName) (len W9 : Nat)
    (Pre : Pt → Array Value → Prop) (Post : Pt → Array Value → Option Value → Pt → Prop) (PostX : Pt → Array Value → Addr → Pt → Prop) : Prop :=
  ∀ (m : MethodId) (meth : Method) (c : Code) (A : Pt) (g : JFrame) (ig : Instr) (mk : MethodId) (a : Array Value),
    Stand p l e R s m sargs below meth c A.U A.locs A.cells A.slots → g.method = m → g.locals.size = c.maxLocals → decode c.code g.pc = .ok (ig, len) →
    2 * g.monitorRoom + (g.stack.map fun v => v.category).sum ≤ W9 → A.U.methodNamed? y = some mk → Pre A a →
    (∃ (v : Option Value) (B : Pt), Stand p l e R s m sargs below meth c B.U B.locs B.cells B.slots ∧ Post A a v B ∧
      Steps p.tables e below (doInvoke e (A.U.setTop g) [] mk a).1 (B.U.setTop { g with pc := g.pc + len, stack := v.toList ++ g.stack })) ∨
    (∃ (q : Addr) (B : Pt), Stand p l e R s m sargs below meth c B.U B.locs B.cells B.slots ∧ PostX A a q B ∧
      Steps p.tables e below (doInvoke e (A.U.setTop g) [] mk a).1 ((B.U.setTop g).pushFrame (.throwing q)))
section Payer
variable {l : Launch} {R : Room} {p : Program} {e : Env} {below : List Frame} {s : State} {sargs : Array Value} {y : MethodName} {len W9 : Nat}
theorem vx_back {ws : List Cond} {rm : Room} {Pc : Array Value → State → Prop} {Qc : Array Value → State → Outcome → State → Prop} {XC : String → Addr → State → State → Prop} {mc ms : Nat} {free : Addr → Prop} {bytes : ByteArray} {maxL : Nat} {ret : Option FieldType}
    (hM : vx_Met l y ws rm Pc Qc XC mc ms free) (hblind : FrameBlind Pc) (hrc : rm.cells = mc) (hrs : rm.slots = ms)
    (hframes : rm.frames + 1 ≤ R.frames) (hlocals : W9 + (maxL + 11) + rm.locals ≤ R.locals)
    (hws : ∀ w ∈ ws, ∀ a' U, s.WarmedH U.vm → w.before a' U = true) (hcode : Cond.code y bytes maxL ret ∈ ws) (hinit : ∀ a' U, s.WarmedH U.vm → (Cond.initialized y.cls).before a' U = true) :
    vx_Back l R p e below s sargs y len W9 (PreOf R mc ms Pc) (PostOf Qc mc ms free) (vx_Post XC mc ms free) := by
  intro m meth c A g ig mk a X hg hsize hdg hW hn hp
  have h1 : (headSpec ws rm).pre.before a A.U = true := atoms_intro fun w hw => hws w hw _ _ X.warmed
  have h2 : (Cond.code y bytes maxL ret).before a A.U = true := hws _ hcode _ _ X.warmed
  have h3 : (Cond.initialized y.cls).before a A.U = true := hinit _ _ X.warmed
  have h4 : A.cells + (headSpec ws rm).room.cells ≤ R.cells := by rw [show (headSpec ws rm).room.cells = mc from hrc]; exact hp.1
  have h5 : A.slots + (headSpec ws rm).room.slots ≤ R.slots := by rw [show (headSpec ws rm).room.slots = ms from hrs]; exact hp.2.1
  have hPc : Pc a (A.U.calling g mk a) := hblind _ _ _ _ hp.2.2
  obtain ⟨U, Ls, c0, s0⟩ := A
  dsimp only [Pt.U, Pt.locs, Pt.cells, Pt.slots] at h1 h2 h3 h4 h5 X hn hPc ⊢
  obtain ⟨methY, cY, hmY, hcY, -, hlY, -, -, -, -⟩ := Cond.code_spec hn h2
  obtain ⟨kY, hkY, -⟩ := className_of_methodNamed hn
  have hinitY : kY.init = .initialized := Cond.initialized_spec (findClass_of_methodNamed hn) hkY h3
  have h : At U g.method c below := by rw [hg]; exact X.here
  have hlocals9 : W9 + (maxL + 11) + (headSpec ws rm).room.locals ≤ R.locals := hlocals
  have happ : (headSpec ws rm).appliesLoose y e.platform (U.calling g mk a) = true :=
    Spec.appliesLoose_calling (g := g) h hdg hn hkY hinitY
      (X.room_calling (g := g) (R' := (headSpec ws rm).room) hsize hmY hcY hframes (by rw [hlY]; omega) h4 h5) h1
  obtain ⟨mid, hmid⟩ := h.above
  have hfr : (U.setTop g).frames = (.java g :: mid) ++ below := by rw [State.frames_setTop' g h.top, hmid]; rfl
  obtain ⟨o, s₂, hsteps, -, hend, hq⟩ := Steps.callFree hM p X.admits X.cas X.clock (acts := []) hfr happ hPc trivial
  have hq' : vx_Q Qc XC mc ms free a (U.calling g mk a) o s₂ := hq
  rw [State.frames_setTop' g h.top] at hend
  obtain ⟨g₀, hg0⟩ := Option.isSome_iff_exists.mp h.top
  obtain ⟨r, hr⟩ := State.topJava?_eq_some.mp hg0
  have hr' : (({ U with heap := s₂.heap, slotsUsed := s₂.slotsUsed } : State).setVm s₂.vm).frames = .java g₀ :: r := hr
  rcases hq' with ⟨hqc, L, hfe, hL⟩ | ⟨q, rfl, E, ce, L, hx, hce, hcv, hcl, hW₂, hsm, hL⟩
  · obtain ⟨⟨v, rfl⟩, hW₂, e2, q2, q3, q4, q5, q6⟩ := id hfe
    have e3 : s₂ = ({ (U.calling g mk a).setFrames s₂.frames with heap := s₂.heap, slotsUsed := s₂.slotsUsed } : State).setVm s₂.vm := by
      have : s₂ = ({ s₂ with vm := (U.calling g mk a).vm } : State).setVm s₂.vm := rfl
      rw [e2] at this
      exact this
    obtain ⟨c₂, i₂, len₂, hc₂, hd₂, hf₂⟩ := hend
    have hW' : U.WarmedH s₂.vm := hW₂
    have hcc : c₂ = c := by
      have h1 : s₂.code? g.method = U.code? g.method := by
        rw [State.code?_eq, State.code?_eq, hW'.alike.method?]
      exact Option.some.inj (hc₂.symm.trans (h1.trans h.code))
    subst hcc
    have hlen : len₂ = len := by rw [hdg] at hd₂; cases hd₂; rfl
    subst hlen
    have hs₂ : s₂ = (({ U with heap := s₂.heap, slotsUsed := s₂.slotsUsed } : State).setVm s₂.vm).setTop { g with pc := g.pc + len₂, stack := v.toList ++ g.stack } := by
      refine e3.trans ?_
      rw [hf₂, State.calling_eq h.top, State.setFrames_setFrames, State.setTop_of_frames _ hr', hr]
      rfl
    have hsame : U.sameButNew ({ U with heap := s₂.heap, slotsUsed := s₂.slotsUsed } : State) L mc ms := by
      refine ⟨?_, q2, q3, q4, q5, q6⟩
      obtain ⟨t, ht, -⟩ := State.frames_cons hr
      show ({ U with heap := s₂.heap, slotsUsed := s₂.slotsUsed } : State) = { U.setFrames U.frames with heap := s₂.heap, slotsUsed := s₂.slotsUsed }
      rw [State.setFrames_self ht]
    subst hg
    refine Or.inl ⟨v, ⟨(({ U with heap := s₂.heap, slotsUsed := s₂.slotsUsed } : State).setVm s₂.vm), Ls ++ L, c0 + mc, s0 + ms⟩,
      ⟨X.admits, X.cas, X.clock, X.frames, X.room, X.hears, X.method, X.code, (X.here.setHeapUsed s₂.heap s₂.slotsUsed).setVm hW'.alike, X.tail, State.WarmedH.trans X.warmed hW', X.limits, X.bytes, X.same.trans (hsame.setVm s.vm)⟩,
      ⟨g, mk, s₂, L, rfl, rfl, hqc, rfl, hL, rfl, rfl⟩, ?_⟩
    show Steps p.tables e below _ ((({ U with heap := s₂.heap, slotsUsed := s₂.slotsUsed } : State).setVm s₂.vm).setTop { g with pc := g.pc + len₂, stack := v.toList ++ g.stack })
    rw [← hs₂]
    exact hsteps
  · obtain ⟨e2, q2, q3, q4, q5, q6⟩ := id hsm
    have e3 : s₂ = ({ (U.calling g mk a).setFrames s₂.frames with heap := s₂.heap, slotsUsed := s₂.slotsUsed } : State).setVm s₂.vm := by
      have : s₂ = ({ s₂ with vm := (U.calling g mk a).vm } : State).setVm s₂.vm := rfl
      rw [e2] at this
      exact this
    have hf₂ : s₂.frames = .throwing q :: .java g :: U.frames.tail := hend
    have hW' : U.WarmedH s₂.vm := hW₂
    have hs₂ : s₂ = ((({ U with heap := s₂.heap, slotsUsed := s₂.slotsUsed } : State).setVm s₂.vm).setTop g).pushFrame (.throwing q) := by
      refine e3.trans ?_
      rw [hf₂, State.calling_eq h.top, State.setFrames_setFrames, State.pushFrame, State.frames_setTop _ hr', State.setTop_of_frames _ hr', State.setFrames_setFrames, hr]
      rfl
    have hsame : U.sameButNew ({ U with heap := s₂.heap, slotsUsed := s₂.slotsUsed } : State) L mc ms := by
      refine ⟨?_, q2, q3, q4, q5, q6⟩
      obtain ⟨t, ht, -⟩ := State.frames_cons hr
      show ({ U with heap := s₂.heap, slotsUsed := s₂.slotsUsed } : State) = { U.setFrames U.frames with heap := s₂.heap, slotsUsed := s₂.slotsUsed }
      rw [State.setFrames_self ht]
    subst hg
    refine Or.inr ⟨q, ⟨(({ U with heap := s₂.heap, slotsUsed := s₂.slotsUsed } : State).setVm s₂.vm), Ls ++ L, c0 + mc, s0 + ms⟩,
      ⟨X.admits, X.cas, X.clock, X.frames, X.room, X.hears, X.method, X.code, (X.here.setHeapUsed s₂.heap s₂.slotsUsed).setVm hW'.alike, X.tail, State.WarmedH.trans X.warmed hW', X.limits, X.bytes, X.same.trans (hsame.setVm s.vm)⟩,
      ⟨g, mk, s₂, L, E, ce, rfl, rfl, hx, hce, hcv, hcl, rfl, hL, rfl, rfl⟩, ?_⟩
    show Steps p.tables e below _ (((({ U with heap := s₂.heap, slotsUsed := s₂.slotsUsed } : State).setVm s₂.vm).setTop g).pushFrame (.throwing q))
    rw [← hs₂]
    exact hsteps
end Payer
section Calls
variable {p : Program} {l : Launch} {e : Env} {R : Room} {s : State} {m : MethodId} {args : Array Value} {below : List Frame} {meth : Method} {c : Code} {T : State} {locs : List Loc} {cells slots : Nat}
theorem vx_callV (X : Stand p l e R s m args below meth c T locs cells slots) (hexec : p.tables.exec = Jvm.exec) {own C : String} {index : Nat} {y : MethodName} {bytes : ByteArray} {maxL : Nat} {ret : Option FieldType}
    (hown : s.vm.findClass own = some m.cls) (hlink : (Cond.methodLink own index y).before args s = true) (hinst : (Cond.instanceMethod y).before args s = true) (hsel : (Cond.selects C y y).before args s = true)
    (hcode : (Cond.code y bytes maxL ret).before args s = true) (hy : y.cls ≠ "java/lang/invoke/MethodHandle" ∧ y.cls ≠ "java/lang/invoke/VarHandle")
    {W9 : Nat} {Pre : Pt → Array Value → Prop} {Post : Pt → Array Value → Option Value → Pt → Prop} {PostX : Pt → Array Value → Addr → Pt → Prop} (hK : vx_Back l R p e below s args y 3 W9 Pre Post PostX)
    {b : Addr} {cellB : Cell} (hcell : T.heap[b]? = some cellB) (hobj : cellB.vm.isStatics = false) (hcls : s.vm.findClass C = some cellB.cls)
    {g : JFrame} (hg : g.method = m) (hsize : g.locals.size = c.maxLocals) {argsL rest : List Value} (hlen : ∀ sig, parseMethodDescriptor y.desc = some sig → argsL.length = sig.parameters.length)
    (hstack : g.stack = argsL.reverse ++ .ref b :: rest) (hW : 2 * g.monitorRoom + (rest.map fun v => v.category).sum ≤ W9) (hdg : decode c.code g.pc = .ok (.invokevirtual index, 3))
    (hpre : ∀ vm₁, s.WarmedH vm₁ → Pre ⟨T.setVm vm₁, locs, cells, slots⟩ (Value.ref b :: argsL).toArray) :
    (∃ (v : Option Value) (vm₁ : Vm) (B : Pt), s.WarmedH vm₁ ∧ Stand p l e R s m args below meth c B.U B.locs B.cells B.slots ∧ Post ⟨T.setVm vm₁, locs, cells, slots⟩ (Value.ref b :: argsL).toArray v B ∧
      ∀ target, Steps p.tables e below (B.U.setTop { g with pc := g.pc + 3, stack := v.toList ++ rest }) target → Steps p.tables e below (T.setTop g) target) ∨
    (∃ (q : Addr) (vm₁ : Vm) (B : Pt), s.WarmedH vm₁ ∧ Stand p l e R s m args below meth c B.U B.locs B.cells B.slots ∧ PostX ⟨T.setVm vm₁, locs, cells, slots⟩ (Value.ref b :: argsL).toArray q B ∧
      Steps p.tables e below (T.setTop g) ((B.U.setTop { g with stack := rest }).pushFrame (.throwing q))) := by
  obtain ⟨mk, methM, hnamed, hmethM, hstM, habM⟩ := Cond.instanceMethod_spec hinst
  obtain ⟨methM', cM, hmethM', -, -, -, -, -, -, hsigM⟩ := Cond.code_spec hnamed hcode
  cases hmethM.symm.trans hmethM'
  obtain ⟨c2, r2, m2, q1, q2, q3, q4, kP, hkP, hkPi⟩ := Cond.selects_spec hsel
  cases hcls.symm.trans q1
  cases (State.methodFound?_of_named hnamed hy).symm.trans q2
  cases hnamed.symm.trans q3
  have hselP : selectMethod e.platform s.vm cellB.cls mk = .method mk := by rw [Launch.admits_selectMethod X.admits]; exact q4
  obtain ⟨vm₁, X₁, hstep₁⟩ := X.invokevirtual hexec hown hlink hnamed hmethM hstM hkP hkPi hy (a := b) (cell := cellB) hcell
    (fun z h => by rw [h] at hobj; cases hobj) hselP hmethM habM hkP hkPi (g := g) hg (argsL := argsL) (rest := rest) (hlen _ hsigM) hstack hdg
  rcases hK m meth c ⟨T.setVm vm₁, locs, cells, slots⟩ { g with stack := rest } (.invokevirtual index) mk (Value.ref b :: argsL).toArray X₁ hg hsize hdg hW (X₁.named hnamed) (hpre vm₁ X₁.warmed) with ⟨v, B, X', hpost, hsteps⟩ | ⟨q, B, X', hpost, hsteps⟩
  · exact Or.inl ⟨v, vm₁, B, X₁.warmed, X', hpost, fun target h => hstep₁ _ fun acts => by rw [doInvoke_state]; exact hsteps.trans h⟩
  · exact Or.inr ⟨q, vm₁, B, X₁.warmed, X', hpost, hstep₁ _ fun acts => by rw [doInvoke_state]; exact hsteps⟩
theorem vx_callS (X : Stand p l e R s m args below meth c T locs cells slots) (hexec : p.tables.exec = Jvm.exec) {own : String} {index : Nat} {y : MethodName} {bytes : ByteArray} {maxL : Nat} {ret : Option FieldType}
    (hown : s.vm.findClass own = some m.cls) (hlink : (Cond.methodLink own index y).before args s = true) (hstat : (Cond.static y).before args s = true) (hinit : (Cond.initialized y.cls).before args s = true)
    (hcode : (Cond.code y bytes maxL ret).before args s = true) (hy : y.cls ≠ "java/lang/invoke/MethodHandle" ∧ y.cls ≠ "java/lang/invoke/VarHandle")
    {W9 : Nat} {Pre : Pt → Array Value → Prop} {Post : Pt → Array Value → Option Value → Pt → Prop} {PostX : Pt → Array Value → Addr → Pt → Prop} (hK : vx_Back l R p e below s args y 3 W9 Pre Post PostX)
    {g : JFrame} (hg : g.method = m) (hsize : g.locals.size = c.maxLocals) {argsL rest : List Value} (hlen : ∀ sig, parseMethodDescriptor y.desc = some sig → argsL.length = sig.parameters.length)
    (hstack : g.stack = argsL.reverse ++ rest) (hW : 2 * g.monitorRoom + (rest.map fun v => v.category).sum ≤ W9) (hdg : decode c.code g.pc = .ok (.invokestatic index, 3))
    (hpre : ∀ vm₁, s.WarmedH vm₁ → Pre ⟨T.setVm vm₁, locs, cells, slots⟩ argsL.toArray) :
    (∃ (v : Option Value) (vm₁ : Vm) (B : Pt), s.WarmedH vm₁ ∧ Stand p l e R s m args below meth c B.U B.locs B.cells B.slots ∧ Post ⟨T.setVm vm₁, locs, cells, slots⟩ argsL.toArray v B ∧
      ∀ target, Steps p.tables e below (B.U.setTop { g with pc := g.pc + 3, stack := v.toList ++ rest }) target → Steps p.tables e below (T.setTop g) target) ∨
    (∃ (q : Addr) (vm₁ : Vm) (B : Pt), s.WarmedH vm₁ ∧ Stand p l e R s m args below meth c B.U B.locs B.cells B.slots ∧ PostX ⟨T.setVm vm₁, locs, cells, slots⟩ argsL.toArray q B ∧
      Steps p.tables e below (T.setTop g) ((B.U.setTop { g with stack := rest }).pushFrame (.throwing q))) := by
  obtain ⟨mk, hnamed⟩ := Cond.code_named hcode
  obtain ⟨methM, cM, hmethM, -, -, -, -, -, -, hsigM⟩ := Cond.code_spec hnamed hcode
  have hstatic : methM.isStatic = true := Cond.static_spec hnamed hmethM hstat
  obtain ⟨kP, hkP, -⟩ := className_of_methodNamed hnamed
  have hinitP : kP.init = .initialized := Cond.initialized_spec (findClass_of_methodNamed hnamed) hkP hinit
  obtain ⟨vm₁, X₁, hstep₁⟩ := X.invokestatic hexec hown hlink hnamed hmethM hstatic hkP hinitP hy (g := g) hg (argsL := argsL) (rest := rest) (hlen _ hsigM) hstack hdg
  rcases hK m meth c ⟨T.setVm vm₁, locs, cells, slots⟩ { g with stack := rest } (.invokestatic index) mk argsL.toArray X₁ hg hsize hdg hW (X₁.named hnamed) (hpre vm₁ X₁.warmed) with ⟨v, B, X', hpost, hsteps⟩ | ⟨q, B, X', hpost, hsteps⟩
  · exact Or.inl ⟨v, vm₁, B, X₁.warmed, X', hpost, fun target h => hstep₁ _ fun acts => by rw [doInvoke_state]; exact hsteps.trans h⟩
  · exact Or.inr ⟨q, vm₁, B, X₁.warmed, X', hpost, hstep₁ _ fun acts => by rw [doInvoke_state]; exact hsteps⟩
end Calls
theorem vx_cls {s : State} {T : State} {vm₁ : Vm} {E : String} {k : ClassId} (hW : s.WarmedH vm₁) (h : (T.setVm vm₁).vm.findClass E = some k) : s.vm.findClass E = some k := by
  have h1 : vm₁.findClass E = some k := h
  rw [hW.alike.findClass] at h1
  exact h1
/-- the method's frame g, with q thrown over it -/
def vx_W (p : Program) (l : Launch) (e : Env) (R : Room) (s : State) (m : MethodId) (args : Array Value) (below : List Frame) (meth : Method) (c : Code) (H : Heap) (locs : List Loc) (cells slots : Nat) (Q : State → Prop) (g : JFrame) (q : Addr) : Prop :=
  ∀ T : State, T.heap = H → Stand p l e R s m args below meth c T locs cells slots → ∃ t, Steps p.tables e below ((T.setTop g).pushFrame (.throwing q)) t ∧ Q t
def vx_Run (p : Program) (l : Launch) (e : Env) (R : Room) (s : State) (m : MethodId) (args : Array Value) (below : List Frame) (meth : Method) (c : Code) (H : Heap) (locs : List Loc) (cells slots mc ms : Nat) (g : JFrame) (rest : List Value) (Qa : State → Outcome → State → Prop) (XC : String → Addr → State → State → Prop) (free : Addr → Prop) : Prop :=
  ∀ T : State, T.heap = H → Stand p l e R s m args below meth c T locs cells slots →
    (∃ (v : Option Value) (st₀ t T' : State) (L : List Loc), st₀.heap = H ∧ Stand p l e R s m args below meth c T' (locs ++ L) (cells + mc) (slots + ms) ∧ (∀ q ∈ L, free q.base) ∧ T'.heap = t.heap ∧ T'.vm = t.vm ∧ Qa st₀ (.returned v) t ∧
      Goes p e below T g T' { g with pc := g.pc + 3, stack := v.toList ++ rest }) ∨
    (∃ (q : Addr) (st₀ t T' : State) (L : List Loc) (E : String) (ce : Cell), st₀.heap = H ∧ Stand p l e R s m args below meth c T' (locs ++ L) (cells + mc) (slots + ms) ∧ (∀ z ∈ L, free z.base) ∧ T'.heap = t.heap ∧ T'.vm = t.vm ∧ XC E q st₀ t ∧ t.heap[q]? = some ce ∧ ce.vm = .none ∧ s.vm.findClass E = some ce.cls ∧
      Steps p.tables e below (T.setTop g) ((T'.setTop { g with stack := rest }).pushFrame (.throwing q)))
section Runs
variable {p : Program} {l : Launch} {e : Env} {R : Room} {s : State} {m : MethodId} {args : Array Value} {below : List Frame} {meth : Method} {c : Code} {H : Heap} {locs : List Loc} {cells slots : Nat}
variable {y : MethodName} {bytes cc : ByteArray} {maxL nL mc ms n index : Nat} {ret : Option FieldType} {ws : List Cond} {rm : Room} {Pc : Array Value → State → Prop} {Qc : Array Value → State → Outcome → State → Prop} {XC : String → Addr → State → State → Prop} {free : Addr → Prop} {Ts : List Cond} {own C : String} {b : Addr} {As rest : List Value} {g : JFrame}
theorem vx_callBack (cb : CallB R s args own index y bytes maxL ret ws rm mc ms n) (hM : vx_Met l y ws rm Pc Qc XC mc ms free) (hbl : FrameBlind Pc) : vx_Back l R p e below s args y 3 8 (PreOf R mc ms Pc) (PostOf Qc mc ms free) (vx_Post XC mc ms free) := by
  obtain ⟨hrc, hrs, hfr, hlo, hws, hcw, -, hini, -⟩ := cb
  exact vx_back (bytes := bytes) (maxL := maxL) (ret := ret) hM hbl hrc hrs hfr hlo hws hcw (fun a' U hW => word_at hW (Or.inl (by first | rfl | simp [Cond.onTables, Cond.keeps, Cond.steady])) hini)
theorem vx_runV (S : CallFix p m c cc nL s args Ts own) (hM : vx_Met l y ws rm Pc Qc XC mc ms free) (cw : CallW R s args own C index y bytes maxL ret ws rm mc ms n) (hp : PreV s H C b Pc As)
    (hg : g.method = m) (hn : As.length = n) (hsize : g.locals.size = nL) (hstack : g.stack = As.reverse ++ .ref b :: rest) (hW : 2 * g.monitorRoom + (rest.map fun v => v.category).sum ≤ 8) (hdg : decode cc g.pc = .ok (.invokevirtual index, 3)) (hf : cells + mc ≤ R.cells ∧ slots + ms ≤ R.slots) :
    vx_Run p l e R s m args below meth c H locs cells slots mc ms g rest (Qc (Value.ref b :: As).toArray) XC free := by
  have hK : vx_Back l R p e below s args y 3 8 (PreOf R mc ms Pc) (PostOf Qc mc ms free) (vx_Post XC mc ms free) := vx_callBack cw.1 hM hp.1
  obtain ⟨⟨-, -, -, -, -, -, hcode, -, hy, hlen, hl⟩, hin, hse⟩ := cw
  obtain ⟨hx, hb, hml, ho, -⟩ := S
  obtain ⟨-, ⟨cellB, hcB, hoB, hclB⟩, hPc⟩ := hp
  intro T hT X
  rcases vx_callV X hx (C := C) (bytes := bytes) (maxL := maxL) (ret := ret) ho hl hin hse hcode hy hK (by rw [hT]; exact hcB) hoB hclB hg (hsize.trans hml.symm) (argsL := As) (rest := rest) (fun sig h => hn.trans (hlen sig h)) hstack hW (by rw [hb]; exact hdg)
    (fun vm₁ hW₁ => ⟨hf.1, hf.2, hPc (T.setVm vm₁) hT hW₁⟩) with ⟨v, vm₁, ⟨U', l2, c2, s2⟩, hW₁, X', ⟨g', mk, t, L, e1, e2, hq, h1, hL, h2, h3⟩, st⟩ | ⟨q, vm₁, ⟨U', l2, c2, s2⟩, hW₁, X', ⟨g', mk, t, L, E, ce, e1, e2, hq, hce, hcv, hcl, h1, hL, h2, h3⟩, st⟩
  · dsimp only [Pt.U, Pt.locs, Pt.cells, Pt.slots] at X' e1 e2 h1 h2 h3 st
    subst h1; subst h2; subst h3
    exact Or.inl ⟨v, (T.setVm vm₁).calling g' mk (Value.ref b :: As).toArray, t, U', L, hT, X', hL, e1, e2, hq, st⟩
  · dsimp only [Pt.U, Pt.locs, Pt.cells, Pt.slots] at X' e1 e2 h1 h2 h3 st hcl
    subst h1; subst h2; subst h3
    exact Or.inr ⟨q, (T.setVm vm₁).calling g' mk (Value.ref b :: As).toArray, t, U', L, E, ce, hT, X', hL, e1, e2, hq, hce, hcv, vx_cls hW₁ hcl, st⟩
theorem vx_runS (S : CallFix p m c cc nL s args Ts own) (hM : vx_Met l y ws rm Pc Qc XC mc ms free) (cw : CallB R s args own index y bytes maxL ret ws rm mc ms n ∧ (Cond.static y).before args s = true) (hp : PreS s H Pc As)
    (hg : g.method = m) (hn : As.length = n) (hsize : g.locals.size = nL) (hstack : g.stack = As.reverse ++ rest) (hW : 2 * g.monitorRoom + (rest.map fun v => v.category).sum ≤ 8) (hdg : decode cc g.pc = .ok (.invokestatic index, 3)) (hf : cells + mc ≤ R.cells ∧ slots + ms ≤ R.slots) :
    vx_Run p l e R s m args below meth c H locs cells slots mc ms g rest (Qc As.toArray) XC free := by
  have hK : vx_Back l R p e below s args y 3 8 (PreOf R mc ms Pc) (PostOf Qc mc ms free) (vx_Post XC mc ms free) := vx_callBack cw.1 hM hp.1
  obtain ⟨⟨-, -, -, -, -, -, hcode, hini, hy, hlen, hl⟩, hstt⟩ := cw
  obtain ⟨hx, hb, hml, ho, -⟩ := S
  intro T hT X
  rcases vx_callS X hx (bytes := bytes) (maxL := maxL) (ret := ret) ho hl hstt hini hcode hy hK hg (hsize.trans hml.symm) (argsL := As) (rest := rest) (fun sig h => hn.trans (hlen sig h)) hstack hW (by rw [hb]; exact hdg)
    (fun vm₁ hW₁ => ⟨hf.1, hf.2, hp.2 (T.setVm vm₁) hT hW₁⟩) with ⟨v, vm₁, ⟨U', l2, c2, s2⟩, hW₁, X', ⟨g', mk, t, L, e1, e2, hq, h1, hL, h2, h3⟩, st⟩ | ⟨q, vm₁, ⟨U', l2, c2, s2⟩, hW₁, X', ⟨g', mk, t, L, E, ce, e1, e2, hq, hce, hcv, hcl, h1, hL, h2, h3⟩, st⟩
  · dsimp only [Pt.U, Pt.locs, Pt.cells, Pt.slots] at X' e1 e2 h1 h2 h3 st
    subst h1; subst h2; subst h3
    exact Or.inl ⟨v, (T.setVm vm₁).calling g' mk As.toArray, t, U', L, hT, X', hL, e1, e2, hq, st⟩
  · dsimp only [Pt.U, Pt.locs, Pt.cells, Pt.slots] at X' e1 e2 h1 h2 h3 st hcl
    subst h1; subst h2; subst h3
    exact Or.inr ⟨q, (T.setVm vm₁).calling g' mk As.toArray, t, U', L, E, ce, hT, X', hL, e1, e2, hq, hce, hcv, vx_cls hW₁ hcl, st⟩
end Runs
section Rows
variable {p : Program} {l : Launch} {e : Env} {R : Room} {s : State} {m : MethodId} {args : Array Value} {below : List Frame} {meth : Method} {c : Code} {H : Heap} {locs : List Loc} {cells slots : Nat} {Q : State → Prop}
variable {mc ms : Nat} {free : Addr → Prop} {A0 A1 : Nat → Prop} {H0 : Heap} {a : Array Value} {pc : Nat} {ls : Array Slot} {st0 rest : List Value}
theorem vx_keep {st₀ t T' : State} {L : List Loc} (h0 : st₀.heap = H) (e1 : T'.heap = t.heap) (hS : va_S A0 H0 H locs) (hA : ∀ q, q < H.size → A1 q → A0 q) (hf : ∀ q, free q → A0 q) (hL : ∀ q ∈ L, free q.base) (hF : va_F A1 st₀ t) :
    H.size ≤ T'.heap.size ∧ (∀ q : Nat, q < H.size → ¬ A1 q → T'.heap[q]? = H[q]?) ∧ va_S A0 H0 T'.heap (locs ++ L) := by
  obtain ⟨hz, hk⟩ := hF
  rw [h0] at hz hk
  exact ⟨by rw [e1]; exact hz, fun q h1 h2 => by rw [e1]; exact hk q h1 h2,
    ⟨Nat.le_trans hS.1 (by rw [e1]; exact hz), fun q h1 h2 => by rw [e1, hk q (Nat.lt_of_lt_of_le h1 hS.1) (fun z => h2 (hA q (Nat.lt_of_lt_of_le h1 hS.1) z))]; exact hS.2.1 q h1 h2, fun q hq => by
      rcases List.mem_append.mp hq with h | h
      · exact hS.2.2 q h
      · exact hf _ (hL q h)⟩⟩
/-- caught by the row x of this method's table; the rows ahead don't take it -/
theorem vx_catch {own name : String} {E : String} {ce : Cell} {q : Addr} (hown : s.vm.findClass own = some m.cls) (pre : List ExceptionTableEntry) (x : ExceptionTableEntry) (suf : List ExceptionTableEntry) (hsplit : c.exceptionTable.toList = pre ++ x :: suf)
    (hpass : ∀ z ∈ pre, covers z pc = false ∨ (z.catchType ≠ 0 ∧ ∃ nm : String, (Cond.classLink own z.catchType nm).before args s = true ∧ va_Nc E nm s)) (hx : covers x pc = true) (h0 : x.catchType ≠ 0)
    (hlink : (Cond.classLink own x.catchType name).before args s = true) (hcast : (Cond.castable E name).before args s = true) (hcell : H[q]? = some ce) (hv : ce.vm = .none) (hcl : s.vm.findClass E = some ce.cls)
    (kk : W p l e R s m args below meth c H locs cells slots Q (F0 m x.handlerPc ls [.ref q])) : vx_W p l e R s m args below meth c H locs cells slots Q (F0 m pc ls rest) q := by
  intro T hT X
  have hpl : e.platform.magicAccessors = ({} : Platform).magicAccessors := by rw [X.admits.platform]
  obtain ⟨c3, c4, hc3, hc4, hasg⟩ := Cond.castable_spec hcast
  cases Option.some.inj (hc3.symm.trans hcl)
  obtain ⟨c5, hc5, hcl5⟩ := Cond.classLink_spec hown hlink e.platform hpl
  cases Option.some.inj (hc4.symm.trans hc5)
  obtain ⟨vm', hW', hfd⟩ := gc_find (e := e) (s0 := s) (f := F0 m pc ls rest) (a := q) (x := x) (rest := suf) (VmData.ne_statics_of (by rw [hv]; rfl)) (by obtain ⟨k9, h9, -⟩ := Vm.findClass_spec hcl; exact ⟨k9, h9⟩) hx h0 hcl5 hasg pre
    ((T.setTop (F0 m pc ls rest)).pushFrame (.throwing q)) (by rw [throwing_vm]; exact X.warmed) (by rw [throwing_heap, hT]; exact hcell)
    (fun z hz hc9 => by
      rcases hpass z hz with h | ⟨hz0, nm, hl1, hn1⟩
      · rw [h] at hc9; cases hc9
      · obtain ⟨c6, hc6, hcl6⟩ := Cond.classLink_spec hown hl1 e.platform hpl
        obtain ⟨a8, b8, h1, h2, h3⟩ := hn1
        cases Option.some.inj (h1.symm.trans hcl)
        cases Option.some.inj (h2.symm.trans hc6)
        exact ⟨hz0, _, hcl6, h3⟩)
  obtain ⟨t, a1, b1⟩ := kk (T.setVm vm') hT (X.noted hW')
  refine ⟨t, gc_steps (c := c) X.here (fun Q E d acts => ?_) a1, b1⟩
  rw [W.findHandler_eq (meth := meth) (code := c) (by rw [throwing_vm]; exact X.method') X.code, hsplit]
  exact hfd Q E d acts
end Rows
section Ends
variable {p : Program} {l : Launch} {e : Env} {R : Room} {s : State} {m : MethodId} {args : Array Value} {below : List Frame} {meth : Method} {c : Code} {H : Heap} {locs : List Loc} {cells slots : Nat} {Q : State → Prop}
variable {mc ms : Nat} {free : Addr → Prop} {A0 A1 : Nat → Prop} {H0 : Heap} {a : Array Value} {ls : Array Slot} {st0 rest : List Value}
variable {Qc : Array Value → State → Outcome → State → Prop} {XC : String → Addr → State → State → Prop}
/-- what a body that may throw owes at its end -/
def vx_MQ (below : List Frame) (Qc : Array Value → State → Outcome → State → Prop) (XC : String → Addr → State → State → Prop) (a : Array Value) (s : State) (mc ms : Nat) (free : Addr → Prop) : State → Prop := fun t =>
  ∃ o, t.status = .running ∧ Ended t below o ∧ vx_Q Qc XC mc ms free a s o t
theorem vx_ret {g : JFrame} {mc ms : Nat} (k : W p l e R s m args below meth c H locs cells slots (MQ below Qc args s mc ms free) g) : W p l e R s m args below meth c H locs cells slots (vx_MQ below Qc XC args s mc ms free) g := by
  intro T hT X
  obtain ⟨t, a1, o, b1, b2, b3, b4⟩ := k T hT X
  exact ⟨t, a1, o, b1, b2, Or.inl ⟨b3, b4⟩⟩
/-- not caught here: it goes on to the caller -/
theorem vx_widen {g : JFrame} {q : Addr} {k n : Nat} (h1 : cells ≤ k) (h2 : slots ≤ n) (kk : vx_W p l e R s m args below meth c H locs k n Q g q) : vx_W p l e R s m args below meth c H locs cells slots Q g q := fun T hT X => kk T hT (stand_widen X h1 h2)
theorem vx_out {pc : Nat} {E : String} {ce : Cell} {q : Addr} {mc ms : Nat} (hout : ∀ x ∈ c.exceptionTable.toList, covers x pc = false) (hlocks : meth.locks = false) (hcell : H[q]? = some ce) (hv : ce.vm = .none) (hcl : s.vm.findClass E = some ce.cls)
    (hx : ∀ t : State, t.heap = H → s.vm.Alike t.vm → XC E q s t) (hf : ∀ z ∈ locs, free z.base) (hc : cells ≤ mc) (hs : slots ≤ ms) :
    vx_W p l e R s m args below meth c H locs cells slots (vx_MQ below Qc XC args s mc ms free) (F0 m pc ls rest) q := by
  intro T hT X
  obtain ⟨st1, hrun, hend, hW, hsm⟩ := X.leaveThrown q (g := F0 m pc ls rest) rfl rfl rfl hout hlocks
  have hcell9 : (T.setFrames (.throwing q :: below)).heap[q]? = some ce := by
    show T.heap[q]? = some ce
    rw [hT]; exact hcell
  exact ⟨_, st1, .threw q, hrun, hend, Or.inr ⟨q, rfl, E, ce, locs, hx _ hT hW.alike, hcell9, hv, hcl, hW, hsm.mono hc hs, hf⟩⟩
theorem vx_frame {U : State} {k n : Nat} (h : s.sameButNew ({ U with vm := s.vm } : State) locs k n) : s.heap.size ≤ U.heap.size ∧ ∀ q : Nat, q < s.heap.size → (∀ z ∈ locs, z.base ≠ q) → U.heap[q]? = s.heap[q]? := by
  obtain ⟨-, h2, -, -, -, h6⟩ := h
  refine ⟨h2, fun q hq hz => ?_⟩
  obtain ⟨c9, e1, e2, e3, e4⟩ := h6 q _ (Array.getElem?_eq_getElem hq)
  have hs : c9.slots = (s.heap[q]).slots := Array.ext_getElem? fun i => e4 i fun hm => hz _ hm rfl
  have h9 : c9 = s.heap[q] := by
    rw [hs] at e2
    exact e2
  have e5 : U.heap[q]? = some c9 := e1
  rw [e5, h9, Array.getElem?_eq_getElem hq]
/-- the words of a throw but the four that speak of the heap -/
def vx_no (w : Cond) : Bool := decide (w ≠ .isRef (.static Bundle.tN "UNASSIGNED_STACK" Bundle.steD)) && decide (w ≠ .isRef (.static Bundle.tN "SUPPRESSED_SENTINEL" Bundle.listD)) && decide (w ≠ .laysStatic Bundle.tN "UNASSIGNED_STACK" Bundle.steD) && decide (w ≠ .laysStatic Bundle.tN "SUPPRESSED_SENTINEL" Bundle.listD)
def vx_at0 (own : String) (ic : Nat) (X : String) (names : List String) : List Cond := (Bundle.ownAtoms0 own ic X names).filter vx_no
def vx_atS (own : String) (ic : Nat) (X : String) (names : List String) : List Cond := (Bundle.ownAtoms own ic X names).filter vx_no
/-- a word that the tables alone decide, or a good one -/
def vx_ot (w : Cond) : Bool := w.onTables || goodWord w
theorem vx_ot_at {args a' : Array Value} {s U : State} {w : Cond} (hW : s.WarmedH U.vm) (hvm : s.vm = U.vm) (hg : vx_ot w = true) (h : w.before args s = true) : w.before a' U = true := by
  simp only [vx_ot, Bool.or_eq_true] at hg
  rcases hg with hg | hg
  · exact va_tabs hg hvm h
  · exact word_at hW (good_of_word hg) h
/-- a list's words: the good ones out of the method's own list, the others by premises of their own -/
theorem vx_hat {args : Array Value} {s : State} {L B : List Cond} (h1 : ∀ w ∈ L.filter goodWord, w.before args s = true) (h2 : ∀ w ∈ L.filter (fun w => !goodWord w), w ∈ B) (h3 : ∀ w ∈ B, w.before args s = true) : ∀ w ∈ L, w.before args s = true := by
  intro w hw
  by_cases g : goodWord w = true
  · exact h1 w (List.mem_filter.mpr ⟨hw, g⟩)
  · refine h3 w (h2 w (List.mem_filter.mpr ⟨hw, ?_⟩))
    show (!goodWord w) = true
    cases hgw : goodWord w
    · rfl
    · exact absurd hgw g
theorem vx_c {args : Array Value} {s : State} {w : Cond} {B : List Cond} (h : w.before args s = true) (t : ∀ w ∈ B, w.before args s = true) : ∀ w' ∈ w :: B, w'.before args s = true := fun w' h' => (List.mem_cons.mp h').elim (fun e => by rw [e]; exact h) (t w')
theorem vx_n {args : Array Value} {s : State} : ∀ w ∈ ([] : List Cond), w.before args s = true := fun _ h => nomatch h
theorem vx_own {args : Array Value} {s : State} {L : List Cond} (h1 : ∀ w ∈ L.filter vx_no, w.before args s = true)
    (hU : (Cond.isRef (.static Bundle.tN "UNASSIGNED_STACK" Bundle.steD)).before args s = true) (hN : (Cond.isRef (.static Bundle.tN "SUPPRESSED_SENTINEL" Bundle.listD)).before args s = true)
    (lU : (Cond.laysStatic Bundle.tN "UNASSIGNED_STACK" Bundle.steD).before args s = true) (lN : (Cond.laysStatic Bundle.tN "SUPPRESSED_SENTINEL" Bundle.listD).before args s = true) : ∀ w ∈ L, w.before args s = true := by
  intro w hw
  by_cases e1 : w = .isRef (.static Bundle.tN "UNASSIGNED_STACK" Bundle.steD)
  · rw [e1]; exact hU
  · by_cases e2 : w = .isRef (.static Bundle.tN "SUPPRESSED_SENTINEL" Bundle.listD)
    · rw [e2]; exact hN
    · by_cases e3 : w = .laysStatic Bundle.tN "UNASSIGNED_STACK" Bundle.steD
      · rw [e3]; exact lU
      · by_cases e4 : w = .laysStatic Bundle.tN "SUPPRESSED_SENTINEL" Bundle.listD
        · rw [e4]; exact lN
        · exact h1 w (List.mem_filter.mpr ⟨hw, by unfold vx_no; rw [decide_eq_true e1, decide_eq_true e2, decide_eq_true e3, decide_eq_true e4]; rfl⟩)
/-- where a static field lies, its class's statics cell in H -/
def vx_L (C n d : String) (A : Nat → Prop) (U : State) (H : Heap) : Prop := ∃ (c : ClassId) (k : Class) (i : Nat) (f : Field) (a : Nat) (cell : Cell), U.vm.findClass C = some c ∧ U.fieldFound? C n d = some (c, k, i, f) ∧ f.isStatic = true ∧ k.statics = some a ∧ H[a]? = some cell ∧ cell.vm.isStatics = true ∧ cell.cls = c ∧ f.slot < cell.slots.size ∧ k.staticTypes[f.slot]? = some f.type ∧ ¬ A a
theorem vx_L.moved {C n d : String} {A : Nat → Prop} {u U : State} {H : Heap} (hvm : u.vm.Alike U.vm) (h : vx_L C n d A u H) : vx_L C n d A U H := by
  obtain ⟨c, k, i, f, a, cell, h1, h2, h3, h4, h5, h6, h7, h8, h9, h10⟩ := h
  obtain ⟨k', hi', he⟩ := State.fieldFound?_setVm hvm h2
  exact ⟨c, k', i, f, a, cell, by rw [hvm.findClass]; exact h1, hi', h3, by rw [he]; exact h4, h5, h6, h7, h8, by rw [he]; exact h9, h10⟩
theorem vx_L.kept {C n d : String} {A : Nat → Prop} {U : State} {H H1 : Heap} (h : vx_L C n d A U H) (hq : ∀ a : Nat, a < H.size → ¬ A a → H1[a]? = H[a]?) : vx_L C n d A U H1 := by
  obtain ⟨c, k, i, f, a, cell, h1, h2, h3, h4, h5, h6, h7, h8, h9, h10⟩ := h
  exact ⟨c, k, i, f, a, cell, h1, h2, h3, h4, by rw [hq a (Array.getElem?_eq_some_iff.mp h5).1 h10]; exact h5, h6, h7, h8, h9, h10⟩
theorem vx_L.narrow {C n d : String} {A B : Nat → Prop} {U : State} {H : Heap} (h : vx_L C n d A U H) (hAB : ∀ q, B q → A q) : vx_L C n d B U H := by
  obtain ⟨c, k, i, f, a, cell, h1, h2, h3, h4, h5, h6, h7, h8, h9, h10⟩ := h
  exact ⟨c, k, i, f, a, cell, h1, h2, h3, h4, h5, h6, h7, h8, h9, fun z => h10 (hAB _ z)⟩
theorem vx_L.word {C n d : String} {A : Nat → Prop} {s : State} {args : Array Value} (h : vx_L C n d A s s.heap) : (Cond.laysStatic C n d).before args s = true := by
  obtain ⟨c, k, i, f, a, cell, h1, h2, h3, h4, h5, h6, h7, h8, h9, -⟩ := h
  show (Cond.laysStatic C n d).holds args s none s [] = true
  exact Cond.laysStatic_of h1 h2 h3 h4 h5 h6 h7 h8 h9
/-- .. and what it holds: null or some reference -/
def vx_Zq (C n d : String) (A : Nat → Prop) (U : State) (H : Heap) : Prop := va_Zq C n d A U H ∧ vx_L C n d A U H
theorem vx_Zq.moved {C n d : String} {A : Nat → Prop} {u U : State} {H : Heap} (hvm : u.vm.Alike U.vm) (h : vx_Zq C n d A u H) : vx_Zq C n d A U H := ⟨va_Zq.moved hvm h.1, vx_L.moved hvm h.2⟩
theorem vx_Zq.kept {C n d : String} {A : Nat → Prop} {U : State} {H H1 : Heap} (h : vx_Zq C n d A U H) (hq : ∀ a : Nat, a < H.size → ¬ A a → H1[a]? = H[a]?) : vx_Zq C n d A U H1 := ⟨va_Zq.kept h.1 hq, vx_L.kept h.2 hq⟩
theorem vx_Zq.narrow {C n d : String} {A B : Nat → Prop} {U : State} {H : Heap} (h : vx_Zq C n d A U H) (hAB : ∀ q, B q → A q) : vx_Zq C n d B U H := ⟨va_Zq.narrow h.1 hAB, vx_L.narrow h.2 hAB⟩
theorem vx_Zqof {args : Array Value} {s : State} {C n d : String} {A : Nat → Prop} (hl : (Cond.laysStatic C n d).before args s = true) (hini : (Cond.initialized C).before args s = true) (h : (Cond.isRef (.static C n d)).before args s = true) (hA : ∀ a : Nat, a < s.heap.size → ¬ A a) : vx_Zq C n d A s s.heap := by
  refine ⟨va_Zqof hl hini h hA, ?_⟩
  obtain ⟨c, k, i, f, a, cell, h1, h2, h3, h4, h5, h6, h7, h8, h9⟩ := Cond.laysStatic_spec hl
  exact ⟨c, k, i, f, a, cell, h1, h2, h3, h4, h5, h6, h7, h8, h9, hA a (Array.getElem?_eq_some_iff.mp h5).1⟩
theorem vx_isRef {C n d : String} {v : Value} {A : Nat → Prop} {s : State} {args : Array Value} (h : va_Z C n d v A s s.heap) (hv : v.isRef = true) : (Cond.isRef (.static C n d)).before args s = true := by
  obtain ⟨cf, kf, fi, f, a, cell, h1, h2, h3, h4, h5, h6, h7, -⟩ := h
  have he : (Term.static C n d).eval args s none [] s = some v := by
    simp [Term.eval, State.fieldNamed?, h1, h2, h4, h5, h6, h7]
  simp only [Cond.before, Cond.holds, Cond.value, he]
  cases v <;> simp_all [Value.isRef]
theorem vx_isRefq {C n d : String} {A : Nat → Prop} {s : State} {args : Array Value} (h : va_Zq C n d A s s.heap) : (Cond.isRef (.static C n d)).before args s = true := by
  rcases h with h | ⟨t, h⟩
  · exact vx_isRef h rfl
  · exact vx_isRef h rfl
/-- the same frame, seen from here: as if the method were called anew in this heap -/
theorem vx_rebase {T : State} (X : Stand p l e R s m args below meth c T locs cells slots) {R' : Room} (hf : R'.frames ≤ R.frames) (hl : R'.locals ≤ R.locals) (hc : cells + R'.cells ≤ R.cells) (hs : slots + R'.slots ≤ R.slots) :
    Stand p l e R' ((T.setVm s.vm).setFrames (.invoking m args :: below)) m args below meth c T [] 0 0 := by
  have htop : (T.setVm s.vm).topJava?.isSome := X.here.top
  have hF : ((T.setVm s.vm).setFrames (.invoking m args :: below)).frames = .invoking m args :: below := State.frames_setFrames _ (State.cur_lt_of_top htop)
  obtain ⟨g₀, hg0⟩ := Option.isSome_iff_exists.mp htop
  obtain ⟨r, hr⟩ := State.topJava?_eq_some.mp hg0
  have hl9 : e.platform.stackLimits (T.setVm s.vm).me = e.platform.stackLimits s.me := X.limits
  have hb9 : (T.setVm s.vm).me.stackBytes = s.me.stackBytes := X.bytes
  refine ⟨X.admits, X.cas, X.clock, hF, ?_, X.hears, X.method, X.code, X.here, X.tail, X.warmed, ?_, ?_, ?_⟩
  · have h := X.room
    have hU : ((T.setVm s.vm).setFrames (.invoking m args :: below)).localsInUse = s.localsInUse := by
      rw [State.localsInUse_invoking hF (meth := meth) (c := c) X.method X.code, State.localsInUse_invoking X.frames X.method X.code]
    simp only [State.hasRoom, Bool.and_eq_true, decide_eq_true_eq] at h ⊢
    obtain ⟨⟨⟨⟨h1, h2, h3, h4, h5, h6⟩, h7⟩, h8⟩, h9⟩ := h
    rw [X.frames, List.length_cons] at h2 h3
    have q1 := X.heapSize
    have q2 := X.used
    simp only [hF, hU, List.length_cons, State.stackLimits_setFrames, State.stackBytes_setFrames, hl9, hb9]
    refine ⟨⟨⟨⟨by omega, by omega, by omega, by omega, by omega, h6⟩, ?_⟩, ?_⟩, X.book⟩
    · show T.heap.size + R'.cells ≤ e.platform.maxCells
      omega
    · show T.slotsUsed + R'.slots ≤ e.platform.maxSlots
      omega
  · rw [State.stackLimits_setFrames]; rfl
  · rw [State.stackBytes_setFrames]; rfl
  · refine ⟨?_, Nat.le_refl _, Nat.le_refl _, ?_, ?_, fun a c9 h9 => ⟨c9, h9, rfl, rfl, fun _ _ => rfl⟩⟩
    · obtain ⟨t, ht, -⟩ := State.frames_cons hr
      show T.setVm s.vm = { ((T.setVm s.vm).setFrames (.invoking m args :: below)).setFrames (T.setVm s.vm).frames with heap := T.heap, slotsUsed := T.slotsUsed }
      rw [State.setFrames_setFrames, State.setFrames_self ht]
      rfl
    · show T.slotsUsed = T.slotsUsed + ((T.heap.toList.drop T.heap.size).map (·.slots.size)).sum
      rw [List.drop_eq_nil_of_le (Nat.le_of_eq Array.length_toList)]
      rfl
    · show ((T.heap.toList.drop T.heap.size).map (·.slots.size)).sum ≤ 0
      rw [List.drop_eq_nil_of_le (Nat.le_of_eq Array.length_toList)]
      exact Nat.le_refl _
/-- 'throw new E()': new; dup; invokespecial; athrow -/
theorem vx_throw0 {cc : ByteArray} {pc : Nat} (hexec : p.tables.exec = Jvm.exec) (hb : c.code = cc) (hl : l.stackTraces = false) {own cls : String} {names : List String} {ik ic mc ms : Nat} {A : Nat → Prop}
    (hown : s.vm.findClass own = some m.cls) (hcls : Bundle.fit cls = true) (hnames : ∀ n ∈ names, Bundle.fit n = true)
    (hk : (Cond.classLink own ik cls).before args s = true) (hini : (Cond.initialized cls).before args s = true) (hat : ∀ w ∈ vx_at0 own ic cls names, w.before args s = true)
    (hgood : ∀ w ∈ Cond.classLink own ik cls :: Cond.initialized cls :: vx_at0 own ic cls names, vx_ot w = true)
    (hU : vx_Zq Bundle.tN "UNASSIGNED_STACK" Bundle.steD A s s.heap) (hN : vx_Zq Bundle.tN "SUPPRESSED_SENTINEL" Bundle.listD A s s.heap) (hS : va_S A s.heap H locs) (hsize : ls.size = c.maxLocals)
    (d0 : decode cc pc = .ok (.new ik, 3)) (d3 : decode cc (pc + 3) = .ok (.dup, 1)) (d4 : decode cc (pc + 4) = .ok (.invokespecial ic, 3)) (d7 : decode cc (pc + 7) = .ok (.athrow, 1))
    (hout : ∀ x ∈ c.exceptionTable.toList, covers x (pc + 7) = false)
    (hRframes : names.length + 3 < R.frames) (hRlocals : (rest.map fun v => v.category).sum + (13 * (names.length + 1) + 42) ≤ R.locals) (hRcells : cells + 1 ≤ R.cells) (hRslots : slots + 6 ≤ R.slots) (hlocks : meth.locks = false)
    (hx : ∀ t : State, s.vm.Alike t.vm → H.size ≤ t.heap.size → (∀ q : Nat, q < H.size → t.heap[q]? = H[q]?) → XC cls H.size s t)
    (hf : ∀ z ∈ locs, free z.base) (hc : cells + 1 ≤ mc) (hs : slots + 6 ≤ ms) :
    W p l e R s m args below meth c H locs cells slots (vx_MQ below Qc XC args s mc ms free) (F0 m pc ls rest) := by
  intro T hT X
  have htr : e.platform.stackTraces = false := (show e.platform.stackTraces = l.stackTraces by rw [X.admits.platform]).trans hl
  have Y := vx_rebase X (R' := { frames := R.frames, locals := R.locals, cells := 1, slots := 6 }) (Nat.le_refl _) (Nat.le_refl _) hRcells hRslots
  obtain ⟨s', hA⟩ : ∃ z, z = (T.setVm s.vm).setFrames (.invoking m args :: below) := ⟨_, rfl⟩
  rw [← hA] at Y
  have hvm : s'.vm = s.vm := by rw [hA]; rfl
  have hhp : s'.heap = H := by rw [hA]; exact hT
  have hW0 : s.WarmedH s'.vm := by rw [hvm]; exact State.WarmedH.refl s
  have hat' : ∀ w ∈ vx_at0 own ic cls names, w.before args s' = true := fun w hw => vx_ot_at hW0 hvm.symm (hgood w (List.mem_cons_of_mem _ (List.mem_cons_of_mem _ hw))) (hat w hw)
  have hk' : (Cond.classLink own ik cls).before args s' = true := vx_ot_at hW0 hvm.symm (hgood _ List.mem_cons_self) hk
  have hini' : (Cond.initialized cls).before args s' = true := vx_ot_at hW0 hvm.symm (hgood _ (List.mem_cons_of_mem _ List.mem_cons_self)) hini
  have hU' : vx_Zq Bundle.tN "UNASSIGNED_STACK" Bundle.steD A s' s'.heap := by rw [hhp]; exact vx_Zq.moved hW0.alike (hU.kept hS.2.1)
  have hN' : vx_Zq Bundle.tN "SUPPRESSED_SENTINEL" Bundle.listD A s' s'.heap := by rw [hhp]; exact vx_Zq.moved hW0.alike (hN.kept hS.2.1)
  have h : ∀ w ∈ Bundle.ownAtoms0 own ic cls names, w.before args s' = true := vx_own hat' (vx_isRefq hU'.1) (vx_isRefq hN'.1) hU'.2.word hN'.2.word
  have hown' : s'.vm.findClass own = some m.cls := by rw [hvm]; exact hown
  have hins : (Cond.instantiable cls 6).before args s' = true := h _ (by simp [Bundle.ownAtoms0])
  obtain ⟨vm₁, cX, kX, hfX, hkX, -, -, X₁, st1⟩ := Y.newCold hexec (own := own) (C := cls) (index := ik) (n := 6) hown' hk' hins hini'
    (g := F0 m pc ls rest) rfl (by rw [hb]; exact d0) (Nat.le_refl _) (Nat.le_refl _)
  generalize hT1 : (T.setVm vm₁).pushCell { cls := cX, slots := kX.instanceTypes.map defaultValue, vm := .none } = T1 at X₁ st1
  have hcat : (Value.ref T.heap.size).category = 1 := rfl
  have hcellA : T1.heap[T.heap.size]? = some (freshCell cX kX) := by rw [← hT1]; exact State.heap_pushCell_size _ _
  have d3' : decode c.code (pc + 3) = .ok (.dup, 1) := by rw [hb]; exact d3
  obtain ⟨U, hsteps, hrun, hend, hW, hsame, ce, hce, hO⟩ := X₁.ctorThrow0 hexec htr (own := own) (cls := cls) (names := names) (ic := ic) hown' hcls hnames h (fun x hx => nomatch hx) hfX hkX hcellA (by rw [hhp, hT]; exact Nat.le_refl _)
    (g := { method := m, pc := pc + 4, locals := ls, stack := .ref T.heap.size :: .ref T.heap.size :: rest, locked := none }) rfl hsize rfl rfl (rest := rest) rfl
    (by rw [hb]; exact d4) (by rw [hb]; exact d7) hout hRframes (by simp only [List.map_cons, List.sum_cons, hcat]; omega) hlocks
  obtain ⟨f1, f2⟩ := vx_frame hsame
  rw [hhp] at f1 f2
  have hWs : s.WarmedH U.vm := State.WarmedH.trans hW0 hW
  have hcl : s.vm.findClass cls = some ce.cls := by
    have h9 := hO.cls
    rw [hvm] at h9
    exact h9
  have hall : s.sameButNew ({ U with vm := s.vm } : State) locs mc ms := by
    subst hA
    obtain ⟨e1, e2⟩ := hsame
    rw [State.setFrames_setFrames] at e1
    have h2 : (T.setVm s.vm).sameButNew ({ U with vm := s.vm } : State) [] (0 + 1) (0 + 6) := ⟨e1, e2⟩
    have h3 := X.same.trans h2
    rw [List.append_nil] at h3
    exact h3.mono hc hs
  refine ⟨U, ?_, .threw T.heap.size, hrun, hend, Or.inr ⟨T.heap.size, rfl, cls, ce, locs, (by rw [hT]; exact hx U hWs.alike f1 (fun q hq => f2 q hq (fun z hz => nomatch hz))), hce, hO.vm, hcl, hWs, hall, hf⟩⟩
  refine st1 _ ?_
  show Steps p.tables e below (T1.setTop { method := m, pc := pc + 3, locals := ls, stack := .ref T.heap.size :: rest, locked := none }) _
  jvm_step X₁.here [X₁.here.top, hexec, d3', Value.category]
  exact hsteps
/-- 'throw new E("text")': new; dup; ldc; invokespecial; athrow -/
theorem vx_throwS {cc : ByteArray} {pc : Nat} (hexec : p.tables.exec = Jvm.exec) (hb : c.code = cc) (hl : l.stackTraces = false) {own cls text : String} {names : List String} {ik is ic mc ms sa : Nat} {A : Nat → Prop}
    (hown : s.vm.findClass own = some m.cls) (hcls : Bundle.fit cls = true) (hnames : ∀ n ∈ names, Bundle.fit n = true)
    (hk : (Cond.classLink own ik cls).before args s = true) (hini : (Cond.initialized cls).before args s = true) (hstr : vk_R own is text sa s) (hat : ∀ w ∈ vx_atS own ic cls names, w.before args s = true)
    (hgood : ∀ w ∈ Cond.classLink own ik cls :: Cond.initialized cls :: vx_atS own ic cls names, vx_ot w = true)
    (hU : vx_Zq Bundle.tN "UNASSIGNED_STACK" Bundle.steD A s s.heap) (hN : vx_Zq Bundle.tN "SUPPRESSED_SENTINEL" Bundle.listD A s s.heap) (hS : va_S A s.heap H locs) (hsize : ls.size = c.maxLocals)
    (d0 : decode cc pc = .ok (.new ik, 3)) (d3 : decode cc (pc + 3) = .ok (.dup, 1)) (d4 : decode cc (pc + 4) = .ok (.ldc is, 2)) (d6 : decode cc (pc + 6) = .ok (.invokespecial ic, 3)) (d9 : decode cc (pc + 9) = .ok (.athrow, 1))
    (hout : ∀ x ∈ c.exceptionTable.toList, covers x (pc + 9) = false)
    (hRframes : names.length + 3 < R.frames) (hRlocals : (rest.map fun v => v.category).sum + (13 * (names.length + 1) + 43) ≤ R.locals) (hRcells : cells + 1 ≤ R.cells) (hRslots : slots + 6 ≤ R.slots) (hlocks : meth.locks = false)
    (hx : ∀ t : State, s.vm.Alike t.vm → H.size ≤ t.heap.size → (∀ q : Nat, q < H.size → t.heap[q]? = H[q]?) → XC cls H.size s t)
    (hf : ∀ z ∈ locs, free z.base) (hc : cells + 1 ≤ mc) (hs : slots + 6 ≤ ms) :
    W p l e R s m args below meth c H locs cells slots (vx_MQ below Qc XC args s mc ms free) (F0 m pc ls rest) := by
  intro T hT X
  have htr : e.platform.stackTraces = false := (show e.platform.stackTraces = l.stackTraces by rw [X.admits.platform]).trans hl
  have Y := vx_rebase X (R' := { frames := R.frames, locals := R.locals, cells := 1, slots := 6 }) (Nat.le_refl _) (Nat.le_refl _) hRcells hRslots
  obtain ⟨s', hA⟩ : ∃ z, z = (T.setVm s.vm).setFrames (.invoking m args :: below) := ⟨_, rfl⟩
  rw [← hA] at Y
  have hvm : s'.vm = s.vm := by rw [hA]; rfl
  have hhp : s'.heap = H := by rw [hA]; exact hT
  have hW0 : s.WarmedH s'.vm := by rw [hvm]; exact State.WarmedH.refl s
  have hat' : ∀ w ∈ vx_atS own ic cls names, w.before args s' = true := fun w hw => vx_ot_at hW0 hvm.symm (hgood w (List.mem_cons_of_mem _ (List.mem_cons_of_mem _ hw))) (hat w hw)
  have hk' : (Cond.classLink own ik cls).before args s' = true := vx_ot_at hW0 hvm.symm (hgood _ List.mem_cons_self) hk
  have hini' : (Cond.initialized cls).before args s' = true := vx_ot_at hW0 hvm.symm (hgood _ (List.mem_cons_of_mem _ List.mem_cons_self)) hini
  have hU' : vx_Zq Bundle.tN "UNASSIGNED_STACK" Bundle.steD A s' s'.heap := by rw [hhp]; exact vx_Zq.moved hW0.alike (hU.kept hS.2.1)
  have hN' : vx_Zq Bundle.tN "SUPPRESSED_SENTINEL" Bundle.listD A s' s'.heap := by rw [hhp]; exact vx_Zq.moved hW0.alike (hN.kept hS.2.1)
  have h : ∀ w ∈ Bundle.ownAtoms own ic cls names, w.before args s' = true := vx_own hat' (vx_isRefq hU'.1) (vx_isRefq hN'.1) hU'.2.word hN'.2.word
  have hown' : s'.vm.findClass own = some m.cls := by rw [hvm]; exact hown
  have hins : (Cond.instantiable cls 6).before args s' = true := h _ (by simp [Bundle.ownAtoms])
  obtain ⟨vm₁, cX, kX, hfX, hkX, -, -, X₁, st1⟩ := Y.newCold hexec (own := own) (C := cls) (index := ik) (n := 6) hown' hk' hins hini'
    (g := F0 m pc ls rest) rfl (by rw [hb]; exact d0) (Nat.le_refl _) (Nat.le_refl _)
  generalize hT1 : (T.setVm vm₁).pushCell { cls := cX, slots := kX.instanceTypes.map defaultValue, vm := .none } = T1 at X₁ st1
  have hcat : (Value.ref T.heap.size).category = 1 := rfl
  have hcellA : T1.heap[T.heap.size]? = some (freshCell cX kX) := by rw [← hT1]; exact State.heap_pushCell_size _ _
  have d3' : decode c.code (pc + 3) = .ok (.dup, 1) := by rw [hb]; exact d3
  have d4' : decode c.code (pc + 4) = .ok (.ldc is, 2) := by rw [hb]; exact d4
  have hstr' : vk_R own is text sa s' := vk_R.warm hW0 hstr
  obtain ⟨U, hsteps, hrun, hend, hW, hsame, ce, hce, hO⟩ := X₁.ctorThrowS hexec htr (own := own) (cls := cls) (names := names) (ic := ic) hown' hcls hnames h (fun x hx => nomatch hx) hfX hkX hcellA (by rw [hhp, hT]; exact Nat.le_refl _) (msg := .ref sa) rfl
    (g := { method := m, pc := pc + 6, locals := ls, stack := .ref sa :: .ref T.heap.size :: .ref T.heap.size :: rest, locked := none }) rfl hsize rfl rfl (rest := rest) rfl
    (by rw [hb]; exact d6) (by rw [hb]; exact d9) hout hRframes (by simp only [List.map_cons, List.sum_cons, hcat]; omega) hlocks
  obtain ⟨f1, f2⟩ := vx_frame hsame
  rw [hhp] at f1 f2
  have hWs : s.WarmedH U.vm := State.WarmedH.trans hW0 hW
  have hcl : s.vm.findClass cls = some ce.cls := by
    have h9 := hO.cls
    rw [hvm] at h9
    exact h9
  have hall : s.sameButNew ({ U with vm := s.vm } : State) locs mc ms := by
    subst hA
    obtain ⟨e1, e2⟩ := hsame
    rw [State.setFrames_setFrames] at e1
    have h2 : (T.setVm s.vm).sameButNew ({ U with vm := s.vm } : State) [] (0 + 1) (0 + 6) := ⟨e1, e2⟩
    have h3 := X.same.trans h2
    rw [List.append_nil] at h3
    exact h3.mono hc hs
  refine ⟨U, ?_, .threw T.heap.size, hrun, hend, Or.inr ⟨T.heap.size, rfl, cls, ce, locs, (by rw [hT]; exact hx U hWs.alike f1 (fun q hq => f2 q hq (fun z hz => nomatch hz))), hce, hO.vm, hcl, hWs, hall, hf⟩⟩
  refine st1 _ ?_
  show Steps p.tables e below (T1.setTop { method := m, pc := pc + 3, locals := ls, stack := .ref T.heap.size :: rest, locked := none }) _
  jvm_step X₁.here [X₁.here.top, hexec, d3', Value.category]
  exact X₁.ldcString hexec (own := own) (text := text) (index := is) (a := sa) hown' hstr'.1 hstr'.2
    (g := { method := m, pc := pc + 4, locals := ls, stack := .ref T.heap.size :: .ref T.heap.size :: rest, locked := none }) rfl d4' _ hsteps
/-- 'throw new E("text")', the text by a wide index -/
theorem vx_throwSW {cc : ByteArray} {pc : Nat} (hexec : p.tables.exec = Jvm.exec) (hb : c.code = cc) (hl : l.stackTraces = false) {own cls text : String} {names : List String} {ik is ic mc ms sa : Nat} {A : Nat → Prop}
    (hown : s.vm.findClass own = some m.cls) (hcls : Bundle.fit cls = true) (hnames : ∀ n ∈ names, Bundle.fit n = true)
    (hk : (Cond.classLink own ik cls).before args s = true) (hini : (Cond.initialized cls).before args s = true) (hstr : vk_R own is text sa s) (hat : ∀ w ∈ vx_atS own ic cls names, w.before args s = true)
    (hgood : ∀ w ∈ Cond.classLink own ik cls :: Cond.initialized cls :: vx_atS own ic cls names, vx_ot w = true)
    (hU : vx_Zq Bundle.tN "UNASSIGNED_STACK" Bundle.steD A s s.heap) (hN : vx_Zq Bundle.tN "SUPPRESSED_SENTINEL" Bundle.listD A s s.heap) (hS : va_S A s.heap H locs) (hsize : ls.size = c.maxLocals)
    (d0 : decode cc pc = .ok (.new ik, 3)) (d3 : decode cc (pc + 3) = .ok (.dup, 1)) (d4 : decode cc (pc + 4) = .ok (.ldc_w is, 3)) (d7 : decode cc (pc + 7) = .ok (.invokespecial ic, 3)) (d10 : decode cc (pc + 10) = .ok (.athrow, 1))
    (hout : ∀ x ∈ c.exceptionTable.toList, covers x (pc + 10) = false)
    (hRframes : names.length + 3 < R.frames) (hRlocals : (rest.map fun v => v.category).sum + (13 * (names.length + 1) + 43) ≤ R.locals) (hRcells : cells + 1 ≤ R.cells) (hRslots : slots + 6 ≤ R.slots) (hlocks : meth.locks = false)
    (hx : ∀ t : State, s.vm.Alike t.vm → H.size ≤ t.heap.size → (∀ q : Nat, q < H.size → t.heap[q]? = H[q]?) → XC cls H.size s t)
    (hf : ∀ z ∈ locs, free z.base) (hc : cells + 1 ≤ mc) (hs : slots + 6 ≤ ms) :
    W p l e R s m args below meth c H locs cells slots (vx_MQ below Qc XC args s mc ms free) (F0 m pc ls rest) := by
  intro T hT X
  have htr : e.platform.stackTraces = false := (show e.platform.stackTraces = l.stackTraces by rw [X.admits.platform]).trans hl
  have Y := vx_rebase X (R' := { frames := R.frames, locals := R.locals, cells := 1, slots := 6 }) (Nat.le_refl _) (Nat.le_refl _) hRcells hRslots
  obtain ⟨s', hA⟩ : ∃ z, z = (T.setVm s.vm).setFrames (.invoking m args :: below) := ⟨_, rfl⟩
  rw [← hA] at Y
  have hvm : s'.vm = s.vm := by rw [hA]; rfl
  have hhp : s'.heap = H := by rw [hA]; exact hT
  have hW0 : s.WarmedH s'.vm := by rw [hvm]; exact State.WarmedH.refl s
  have hat' : ∀ w ∈ vx_atS own ic cls names, w.before args s' = true := fun w hw => vx_ot_at hW0 hvm.symm (hgood w (List.mem_cons_of_mem _ (List.mem_cons_of_mem _ hw))) (hat w hw)
  have hk' : (Cond.classLink own ik cls).before args s' = true := vx_ot_at hW0 hvm.symm (hgood _ List.mem_cons_self) hk
  have hini' : (Cond.initialized cls).before args s' = true := vx_ot_at hW0 hvm.symm (hgood _ (List.mem_cons_of_mem _ List.mem_cons_self)) hini
  have hU' : vx_Zq Bundle.tN "UNASSIGNED_STACK" Bundle.steD A s' s'.heap := by rw [hhp]; exact vx_Zq.moved hW0.alike (hU.kept hS.2.1)
  have hN' : vx_Zq Bundle.tN "SUPPRESSED_SENTINEL" Bundle.listD A s' s'.heap := by rw [hhp]; exact vx_Zq.moved hW0.alike (hN.kept hS.2.1)
  have h : ∀ w ∈ Bundle.ownAtoms own ic cls names, w.before args s' = true := vx_own hat' (vx_isRefq hU'.1) (vx_isRefq hN'.1) hU'.2.word hN'.2.word
  have hown' : s'.vm.findClass own = some m.cls := by rw [hvm]; exact hown
  have hins : (Cond.instantiable cls 6).before args s' = true := h _ (by simp [Bundle.ownAtoms])
  obtain ⟨vm₁, cX, kX, hfX, hkX, -, -, X₁, st1⟩ := Y.newCold hexec (own := own) (C := cls) (index := ik) (n := 6) hown' hk' hins hini'
    (g := F0 m pc ls rest) rfl (by rw [hb]; exact d0) (Nat.le_refl _) (Nat.le_refl _)
  generalize hT1 : (T.setVm vm₁).pushCell { cls := cX, slots := kX.instanceTypes.map defaultValue, vm := .none } = T1 at X₁ st1
  have hcat : (Value.ref T.heap.size).category = 1 := rfl
  have hcellA : T1.heap[T.heap.size]? = some (freshCell cX kX) := by rw [← hT1]; exact State.heap_pushCell_size _ _
  have d3' : decode c.code (pc + 3) = .ok (.dup, 1) := by rw [hb]; exact d3
  have d4' : decode c.code (pc + 4) = .ok (.ldc_w is, 3) := by rw [hb]; exact d4
  have hstr' : vk_R own is text sa s' := vk_R.warm hW0 hstr
  obtain ⟨U, hsteps, hrun, hend, hW, hsame, ce, hce, hO⟩ := X₁.ctorThrowS hexec htr (own := own) (cls := cls) (names := names) (ic := ic) hown' hcls hnames h (fun x hx => nomatch hx) hfX hkX hcellA (by rw [hhp, hT]; exact Nat.le_refl _) (msg := .ref sa) rfl
    (g := { method := m, pc := pc + 7, locals := ls, stack := .ref sa :: .ref T.heap.size :: .ref T.heap.size :: rest, locked := none }) rfl hsize rfl rfl (rest := rest) rfl
    (by rw [hb]; exact d7) (by rw [hb]; exact d10) hout hRframes (by simp only [List.map_cons, List.sum_cons, hcat]; omega) hlocks
  obtain ⟨f1, f2⟩ := vx_frame hsame
  rw [hhp] at f1 f2
  have hWs : s.WarmedH U.vm := State.WarmedH.trans hW0 hW
  have hcl : s.vm.findClass cls = some ce.cls := by
    have h9 := hO.cls
    rw [hvm] at h9
    exact h9
  have hall : s.sameButNew ({ U with vm := s.vm } : State) locs mc ms := by
    subst hA
    obtain ⟨e1, e2⟩ := hsame
    rw [State.setFrames_setFrames] at e1
    have h2 : (T.setVm s.vm).sameButNew ({ U with vm := s.vm } : State) [] (0 + 1) (0 + 6) := ⟨e1, e2⟩
    have h3 := X.same.trans h2
    rw [List.append_nil] at h3
    exact h3.mono hc hs
  refine ⟨U, ?_, .threw T.heap.size, hrun, hend, Or.inr ⟨T.heap.size, rfl, cls, ce, locs, (by rw [hT]; exact hx U hWs.alike f1 (fun q hq => f2 q hq (fun z hz => nomatch hz))), hce, hO.vm, hcl, hWs, hall, hf⟩⟩
  refine st1 _ ?_
  show Steps p.tables e below (T1.setTop { method := m, pc := pc + 3, locals := ls, stack := .ref T.heap.size :: rest, locked := none }) _
  jvm_step X₁.here [X₁.here.top, hexec, d3', Value.category]
  exact X₁.ldcStringW hexec (own := own) (text := text) (index := is) (a := sa) hown' hstr'.1 hstr'.2
    (g := { method := m, pc := pc + 4, locals := ls, stack := .ref T.heap.size :: .ref T.heap.size :: rest, locked := none }) rfl d4' _ hsteps
end Ends
section Bodies
variable {l : Launch}
theorem vx_ofW {y : MethodName} {ws ws' : List Cond} {rm : Room} {Pc : Array Value → State → Prop} {Qc : Array Value → State → Outcome → State → Prop} {XC : String → Addr → State → State → Prop} {mc ms : Nat} {free : Addr → Prop} {cc : ByteArray} {maxL : Nat} {ret : Option FieldType}
    (hy : plainName y.cls = true) (hw : ws = Cond.code y cc maxL ret :: ws')
    (body : ∀ p e s m args below meth c s₁, BodyLoose p l y (headSpec ws rm) cc maxL ret e s m args below meth c s₁ → c.maxLocals = maxL → (∀ x ∈ c.exceptionTable.toList, False) → Pc args s →
      W p l e (headSpec ws rm).room s m args below meth c s.heap [] 0 0 (vx_MQ below Qc XC args s mc ms free) (entryFrame m args maxL)) : vx_Met l y ws rm Pc Qc XC mc ms free := by
  refine MetFree.of_bodyS (code := cc) (maxLocals := maxL) (ret := ret) hy ?_ ?_
  · intro args s m h hn
    obtain ⟨meth, c, h1, h2, h3, h4, h5, h6, -, -⟩ := Cond.code_spec hn (atoms_spec (ws := ws) h _ (by rw [hw]; exact List.mem_cons_self))
    exact ⟨meth, c, h1, h2, h3, h4, h5, h6⟩
  · intro p e s m args below meth c s₁ B hml hP _
    have hh0 : s₁.heap = s.heap := by rw [B.state]; rfl
    have ht : ∀ x ∈ c.exceptionTable.toList, False := by
      obtain ⟨meth9, c9, h1, h2, -, -, -, -, h7, -⟩ := Cond.code_spec B.named (atoms_spec (ws := ws) B.pre _ (by rw [hw]; exact List.mem_cons_self))
      cases Option.some.inj (h1.symm.trans B.method)
      cases Option.some.inj (h2.symm.trans (Stand.of_body B).code)
      intro x hx
      rw [Array.isEmpty_iff.mp h7] at hx
      cases hx
    obtain ⟨t, a1, o, b1, b2, b3⟩ := body p e s m args below meth c s₁ B hml ht hP s₁ hh0 (Stand.of_body B)
    exact ⟨t, o, a1, b1, b2, b3⟩
/-- the table of a body with handlers -/
theorem vx_table {p : Program} {x y : MethodName} {S : Spec} {cc bytes : ByteArray} {maxL maxL' : Nat} {ret ret' : Option FieldType} {e : Env} {s s₁ : State} {m : MethodId} {args : Array Value} {below : List Frame} {meth : Method} {c : Code} {hh : List (Nat × Nat × Nat × Nat)}
    (B : BodyLoose p l y S cc maxL ret e s m args below meth c s₁) (h : (Cond.codeWith y bytes maxL' ret' hh).before args s = true) : c.exceptionTable.toList = tableOf hh := by
  obtain ⟨m9, meth9, c9, hn9, h1, h2, -, -, h6, -⟩ := Cond.codeWith_spec h
  cases Option.some.inj (hn9.symm.trans B.named)
  cases Option.some.inj (h1.symm.trans B.method)
  cases Option.some.inj (h2.symm.trans (Stand.of_body B).code)
  rw [← h6, table_eq]
end Bodies
end VXA
/-! ===== END ===== -/
/-! ===== BEGIN a static call of a method with an exception table ===== -/
section VXS
variable {p : Program} {l : Launch} {e : Env} {R : Room} {s : State} {m : MethodId} {args : Array Value} {below : List Frame} {meth : Method} {c : Code} {T : State} {H : Heap} {locs : List Loc} {cells slots : Nat}
abbrev vx_CSW (R : Room) (s : State) (args : Array Value) (own : String) (index : Nat) (y : MethodName) (bytes : ByteArray) (maxL : Nat) (ret : Option FieldType) (hh : List (Nat × Nat × Nat × Nat)) (ws : List Cond) (rm : Room) (mc ms n : Nat) : Prop :=
  (rm.cells = mc ∧ rm.slots = ms ∧ rm.frames + 1 ≤ R.frames ∧ 8 + (maxL + 11) + rm.locals ≤ R.locals ∧ (∀ w ∈ ws, ∀ (a' : Array Value) (U : State), s.WarmedH U.vm → w.before a' U = true) ∧ Cond.codeWith y bytes maxL ret hh ∈ ws) ∧
  (Cond.codeWith y bytes maxL ret hh).before args s = true ∧ (Cond.initialized y.cls).before args s = true ∧ (y.cls ≠ "java/lang/invoke/MethodHandle" ∧ y.cls ≠ "java/lang/invoke/VarHandle") ∧
  (∀ sig, parseMethodDescriptor y.desc = some sig → n = sig.parameters.length) ∧ (Cond.methodLink own index y).before args s = true ∧ (Cond.static y).before args s = true
theorem vx_cwSW {own : String} {index maxL mc ms : Nat} {y : MethodName} {bytes : ByteArray} {ret : Option FieldType} {hh : List (Nat × Nat × Nat × Nat)} {Ts ws ws' : List Cond} {rm : Room} (n : Nat) (ht : ∀ w ∈ Ts, w.before args s = true) (hT : GoodIn Ts (va_wsS own index y ws)) (hw : ws = Cond.codeWith y bytes maxL ret hh :: ws') (hrc : rm.cells = mc) (hrs : rm.slots = ms)
    (hd : y.cls ≠ "java/lang/invoke/MethodHandle" ∧ y.cls ≠ "java/lang/invoke/VarHandle" ∧ (parseMethodDescriptor y.desc).map (fun d => d.parameters.length) = some n) (hR : rm.frames + 1 ≤ R.frames ∧ 8 + (maxL + 11) + rm.locals ≤ R.locals) :
    vx_CSW R s args own index y bytes maxL ret hh ws rm mc ms n := by
  have ok : ∀ w ∈ va_wsS own index y ws, w.before args s = true := fun w h => ht w (hT w h).1
  have hG : GoodIn Ts ws := fun w h => hT w (by unfold va_wsS; exact List.mem_append_right _ h)
  have hc : Cond.codeWith y bytes maxL ret hh ∈ ws := by rw [hw]; exact List.mem_cons_self
  refine ⟨⟨hrc, hrs, hR.1, hR.2, pay_in ht hG, hc⟩, ht _ (hG _ hc).1, ok _ (by simp [va_wsS]), ⟨hd.1, hd.2.1⟩, fun sig h => ?_, ok _ (by simp [va_wsS]), ok _ (by simp [va_wsS])⟩
  have h2 := hd.2.2
  rw [h] at h2
  exact (Option.some.inj h2).symm
theorem vx_callSW (X : Stand p l e R s m args below meth c T locs cells slots) (hexec : p.tables.exec = Jvm.exec) {own : String} {index : Nat} {y : MethodName} {bytes : ByteArray} {maxL : Nat} {ret : Option FieldType} {hh : List (Nat × Nat × Nat × Nat)}
    (hown : s.vm.findClass own = some m.cls) (hlink : (Cond.methodLink own index y).before args s = true) (hstat : (Cond.static y).before args s = true) (hinit : (Cond.initialized y.cls).before args s = true)
    (hcode : (Cond.codeWith y bytes maxL ret hh).before args s = true) (hy : y.cls ≠ "java/lang/invoke/MethodHandle" ∧ y.cls ≠ "java/lang/invoke/VarHandle")
    {W9 : Nat} {Pre : Pt → Array Value → Prop} {Post : Pt → Array Value → Option Value → Pt → Prop} (hK : Back l R p e below s args y 3 W9 Pre Post)
    {g : JFrame} (hg : g.method = m) (hsize : g.locals.size = c.maxLocals) {argsL rest : List Value} (hlen : ∀ sig, parseMethodDescriptor y.desc = some sig → argsL.length = sig.parameters.length)
    (hstack : g.stack = argsL.reverse ++ rest) (hW : 2 * g.monitorRoom + (rest.map fun v => v.category).sum ≤ W9) (hdg : decode c.code g.pc = .ok (.invokestatic index, 3))
    (hpre : ∀ vm₁, s.WarmedH vm₁ → Pre ⟨T.setVm vm₁, locs, cells, slots⟩ argsL.toArray) :
    ∃ (v : Option Value) (vm₁ : Vm) (B : Pt), s.WarmedH vm₁ ∧ Stand p l e R s m args below meth c B.U B.locs B.cells B.slots ∧ Post ⟨T.setVm vm₁, locs, cells, slots⟩ argsL.toArray v B ∧
      ∀ target, Steps p.tables e below (B.U.setTop { g with pc := g.pc + 3, stack := v.toList ++ rest }) target → Steps p.tables e below (T.setTop g) target := by
  obtain ⟨mk, methM, cM, hnamed, hmethM, -, -, -, -, -, -, hsigM⟩ := Cond.codeWith_spec hcode
  have hstatic : methM.isStatic = true := Cond.static_spec hnamed hmethM hstat
  obtain ⟨kP, hkP, -⟩ := className_of_methodNamed hnamed
  have hinitP : kP.init = .initialized := Cond.initialized_spec (findClass_of_methodNamed hnamed) hkP hinit
  obtain ⟨vm₁, X₁, hstep₁⟩ := X.invokestatic hexec hown hlink hnamed hmethM hstatic hkP hinitP hy (g := g) hg (argsL := argsL) (rest := rest) (hlen _ hsigM) hstack hdg
  obtain ⟨v, B, X', hpost, hsteps⟩ := hK m meth c ⟨T.setVm vm₁, locs, cells, slots⟩ { g with stack := rest } (.invokestatic index) mk argsL.toArray X₁ hg hsize hdg hW (X₁.named hnamed) (hpre vm₁ X₁.warmed)
  exact ⟨v, vm₁, B, X₁.warmed, X', hpost, fun target h => hstep₁ _ fun acts => by rw [doInvoke_state]; exact hsteps.trans h⟩
theorem vx_runSW {y : MethodName} {bytes cc : ByteArray} {maxL nL mc ms n index : Nat} {ret : Option FieldType} {hh : List (Nat × Nat × Nat × Nat)} {ws : List Cond} {rm : Room} {Pc : Array Value → State → Prop} {Qc : Array Value → State → Outcome → State → Prop} {free : Addr → Prop} {Ts : List Cond} {own : String} {As rest : List Value} {g : JFrame}
    (S : CallFix p m c cc nL s args Ts own) (hM : Met l y ws rm Pc Qc mc ms free) (cw : vx_CSW R s args own index y bytes maxL ret hh ws rm mc ms n) (hp : PreS s H Pc As)
    (hg : g.method = m) (hn : As.length = n) (hsize : g.locals.size = nL) (hstack : g.stack = As.reverse ++ rest) (hW : 2 * g.monitorRoom + (rest.map fun v => v.category).sum ≤ 8) (hdg : decode cc g.pc = .ok (.invokestatic index, 3)) (hf : cells + mc ≤ R.cells ∧ slots + ms ≤ R.slots) :
    va_Run p l e R s m args below meth c H locs cells slots mc ms g rest (Qc As.toArray) (free) := by
  obtain ⟨⟨hrc, hrs, hfr, hlo, hws, hcw⟩, hcode, hini, hy, hlen, hl, hstt⟩ := cw
  have hK : Back l R p e below s args y 3 8 (PreOf R mc ms Pc) (PostOf Qc mc ms free) := va_backW (hh := hh) (bytes := bytes) (maxL := maxL) (ret := ret) hM hp.1 hrc hrs hfr hlo hws hcw (fun a' U hW => word_at hW (Or.inl (by first | rfl | simp [Cond.onTables, Cond.keeps, Cond.steady])) hini)
  obtain ⟨hx, hb, hml, ho, -⟩ := S
  intro T hT X
  obtain ⟨v, vm₁, ⟨U', l2, c2, s2⟩, hW₁, X', ⟨g', mk, t, L, e1, e2, hq, h1, hL, h2, h3⟩, st⟩ := vx_callSW X hx (hh := hh) (bytes := bytes) (maxL := maxL) (ret := ret) ho hl hstt hini hcode hy hK hg (hsize.trans hml.symm) (argsL := As) (rest := rest) (fun sig h => hn.trans (hlen sig h)) hstack hW (by rw [hb]; exact hdg)
    (fun vm₁ hW₁ => ⟨hf.1, hf.2, hp.2 (T.setVm vm₁) hT hW₁⟩)
  dsimp only [Pt.U, Pt.locs, Pt.cells, Pt.slots] at X' e1 e2 h1 h2 h3 st
  subst h1; subst h2; subst h3
  exact ⟨v, (T.setVm vm₁).calling g' mk As.toArray, t, U', L, hT, X', hL, e1, e2, hq, st⟩
theorem vx_lt {D : va_G} {cl : List vw_C} {ws : va_W} {H1 : Heap} (h : va_P D cl ws H1) {k : Nat} {q : Nat × va_E} (hk : ws[k]? = some q) : q.1 < H1.size := (h k q hk).lt
end VXS
/-! ===== END ===== -/
/-! ===== BEGIN methods with a table of their own: called by a name, returning or throwing ===== -/
section VXH
/-! vx_backW, vx_callVX, vx_callSX, vx_callVW, vx_runVW, vx_runVX, vx_runSX, vx_ofWH follow the same proofs as their sisters above (Free/Laws.lean, Shelf42/LK1.lean); vx_outP calls Shelf42/NT130.lean (outThrough). -/
section
variable {l : Launch} {R : Room} {p : Program} {e : Env} {below : List Frame} {s : State} {sargs : Array Value} {y : MethodName} {len W9 : Nat}
theorem vx_backW {ws : List Cond} {rm : Room} {Pc : Array Value → State → Prop} {Qc : Array Value → State → Outcome → State → Prop} {XC : String → Addr → State → State → Prop} {mc ms : Nat} {free : Addr → Prop} {bytes : ByteArray} {maxL : Nat} {ret : Option FieldType} {hh : List (Nat × Nat × Nat × Nat)}
    (hM : vx_Met l y ws rm Pc Qc XC mc ms free) (hblind : FrameBlind Pc) (hrc : rm.cells = mc) (hrs : rm.slots = ms)
    (hframes : rm.frames + 1 ≤ R.frames) (hlocals : W9 + (maxL + 11) + rm.locals ≤ R.locals)
    (hws : ∀ w ∈ ws, ∀ a' U, s.WarmedH U.vm → w.before a' U = true) (hcode : Cond.codeWith y bytes maxL ret hh ∈ ws) (hinit : ∀ a' U, s.WarmedH U.vm → (Cond.initialized y.cls).before a' U = true) :
    vx_Back l R p e below s sargs y len W9 (PreOf R mc ms Pc) (PostOf Qc mc ms free) (vx_Post XC mc ms free) := by
  intro m meth c A g ig mk a X hg hsize hdg hW hn hp
  have h1 : (headSpec ws rm).pre.before a A.U = true := atoms_intro fun w hw => hws w hw _ _ X.warmed
  have h2 : (Cond.codeWith y bytes maxL ret hh).before a A.U = true := hws _ hcode _ _ X.warmed
  have h3 : (Cond.initialized y.cls).before a A.U = true := hinit _ _ X.warmed
  have h4 : A.cells + (headSpec ws rm).room.cells ≤ R.cells := by rw [show (headSpec ws rm).room.cells = mc from hrc]; exact hp.1
  have h5 : A.slots + (headSpec ws rm).room.slots ≤ R.slots := by rw [show (headSpec ws rm).room.slots = ms from hrs]; exact hp.2.1
  have hPc : Pc a (A.U.calling g mk a) := hblind _ _ _ _ hp.2.2
  obtain ⟨U, Ls, c0, s0⟩ := A
  dsimp only [Pt.U, Pt.locs, Pt.cells, Pt.slots] at h1 h2 h3 h4 h5 X hn hPc ⊢
  obtain ⟨m9, methY, cY, hn9, hmY, hcY, -, hlY, -⟩ := Cond.codeWith_spec h2
  cases Option.some.inj (hn9.symm.trans hn)
  obtain ⟨kY, hkY, -⟩ := className_of_methodNamed hn
  have hinitY : kY.init = .initialized := Cond.initialized_spec (findClass_of_methodNamed hn) hkY h3
  have h : At U g.method c below := by rw [hg]; exact X.here
  have hlocals9 : W9 + (maxL + 11) + (headSpec ws rm).room.locals ≤ R.locals := hlocals
  have happ : (headSpec ws rm).appliesLoose y e.platform (U.calling g mk a) = true :=
    Spec.appliesLoose_calling (g := g) h hdg hn hkY hinitY
      (X.room_calling (g := g) (R' := (headSpec ws rm).room) hsize hmY hcY hframes (by rw [hlY]; omega) h4 h5) h1
  obtain ⟨mid, hmid⟩ := h.above
  have hfr : (U.setTop g).frames = (.java g :: mid) ++ below := by rw [State.frames_setTop' g h.top, hmid]; rfl
  obtain ⟨o, s₂, hsteps, -, hend, hq⟩ := Steps.callFree hM p X.admits X.cas X.clock (acts := []) hfr happ hPc trivial
  have hq' : vx_Q Qc XC mc ms free a (U.calling g mk a) o s₂ := hq
  rw [State.frames_setTop' g h.top] at hend
  obtain ⟨g₀, hg0⟩ := Option.isSome_iff_exists.mp h.top
  obtain ⟨r, hr⟩ := State.topJava?_eq_some.mp hg0
  have hr' : (({ U with heap := s₂.heap, slotsUsed := s₂.slotsUsed } : State).setVm s₂.vm).frames = .java g₀ :: r := hr
  rcases hq' with ⟨hqc, L, hfe, hL⟩ | ⟨q, rfl, E, ce, L, hx, hce, hcv, hcl, hW₂, hsm, hL⟩
  · obtain ⟨⟨v, rfl⟩, hW₂, e2, q2, q3, q4, q5, q6⟩ := id hfe
    have e3 : s₂ = ({ (U.calling g mk a).setFrames s₂.frames with heap := s₂.heap, slotsUsed := s₂.slotsUsed } : State).setVm s₂.vm := by
      have : s₂ = ({ s₂ with vm := (U.calling g mk a).vm } : State).setVm s₂.vm := rfl
      rw [e2] at this
      exact this
    obtain ⟨c₂, i₂, len₂, hc₂, hd₂, hf₂⟩ := hend
    have hW' : U.WarmedH s₂.vm := hW₂
    have hcc : c₂ = c := by
      have h1 : s₂.code? g.method = U.code? g.method := by
        rw [State.code?_eq, State.code?_eq, hW'.alike.method?]
      exact Option.some.inj (hc₂.symm.trans (h1.trans h.code))
    subst hcc
    have hlen : len₂ = len := by rw [hdg] at hd₂; cases hd₂; rfl
    subst hlen
    have hs₂ : s₂ = (({ U with heap := s₂.heap, slotsUsed := s₂.slotsUsed } : State).setVm s₂.vm).setTop { g with pc := g.pc + len₂, stack := v.toList ++ g.stack } := by
      refine e3.trans ?_
      rw [hf₂, State.calling_eq h.top, State.setFrames_setFrames, State.setTop_of_frames _ hr', hr]
      rfl
    have hsame : U.sameButNew ({ U with heap := s₂.heap, slotsUsed := s₂.slotsUsed } : State) L mc ms := by
      refine ⟨?_, q2, q3, q4, q5, q6⟩
      obtain ⟨t, ht, -⟩ := State.frames_cons hr
      show ({ U with heap := s₂.heap, slotsUsed := s₂.slotsUsed } : State) = { U.setFrames U.frames with heap := s₂.heap, slotsUsed := s₂.slotsUsed }
      rw [State.setFrames_self ht]
    subst hg
    refine Or.inl ⟨v, ⟨(({ U with heap := s₂.heap, slotsUsed := s₂.slotsUsed } : State).setVm s₂.vm), Ls ++ L, c0 + mc, s0 + ms⟩,
      ⟨X.admits, X.cas, X.clock, X.frames, X.room, X.hears, X.method, X.code, (X.here.setHeapUsed s₂.heap s₂.slotsUsed).setVm hW'.alike, X.tail, State.WarmedH.trans X.warmed hW', X.limits, X.bytes, X.same.trans (hsame.setVm s.vm)⟩,
      ⟨g, mk, s₂, L, rfl, rfl, hqc, rfl, hL, rfl, rfl⟩, ?_⟩
    show Steps p.tables e below _ ((({ U with heap := s₂.heap, slotsUsed := s₂.slotsUsed } : State).setVm s₂.vm).setTop { g with pc := g.pc + len₂, stack := v.toList ++ g.stack })
    rw [← hs₂]
    exact hsteps
  · obtain ⟨e2, q2, q3, q4, q5, q6⟩ := id hsm
    have e3 : s₂ = ({ (U.calling g mk a).setFrames s₂.frames with heap := s₂.heap, slotsUsed := s₂.slotsUsed } : State).setVm s₂.vm := by
      have : s₂ = ({ s₂ with vm := (U.calling g mk a).vm } : State).setVm s₂.vm := rfl
      rw [e2] at this
      exact this
    have hf₂ : s₂.frames = .throwing q :: .java g :: U.frames.tail := hend
    have hW' : U.WarmedH s₂.vm := hW₂
    have hs₂ : s₂ = ((({ U with heap := s₂.heap, slotsUsed := s₂.slotsUsed } : State).setVm s₂.vm).setTop g).pushFrame (.throwing q) := by
      refine e3.trans ?_
      rw [hf₂, State.calling_eq h.top, State.setFrames_setFrames, State.pushFrame, State.frames_setTop _ hr', State.setTop_of_frames _ hr', State.setFrames_setFrames, hr]
      rfl
    have hsame : U.sameButNew ({ U with heap := s₂.heap, slotsUsed := s₂.slotsUsed } : State) L mc ms := by
      refine ⟨?_, q2, q3, q4, q5, q6⟩
      obtain ⟨t, ht, -⟩ := State.frames_cons hr
      show ({ U with heap := s₂.heap, slotsUsed := s₂.slotsUsed } : State) = { U.setFrames U.frames with heap := s₂.heap, slotsUsed := s₂.slotsUsed }
      rw [State.setFrames_self ht]
    subst hg
    refine Or.inr ⟨q, ⟨(({ U with heap := s₂.heap, slotsUsed := s₂.slotsUsed } : State).setVm s₂.vm), Ls ++ L, c0 + mc, s0 + ms⟩,
      ⟨X.admits, X.cas, X.clock, X.frames, X.room, X.hears, X.method, X.code, (X.here.setHeapUsed s₂.heap s₂.slotsUsed).setVm hW'.alike, X.tail, State.WarmedH.trans X.warmed hW', X.limits, X.bytes, X.same.trans (hsame.setVm s.vm)⟩,
      ⟨g, mk, s₂, L, E, ce, rfl, rfl, hx, hce, hcv, hcl, rfl, hL, rfl, rfl⟩, ?_⟩
    show Steps p.tables e below _ (((({ U with heap := s₂.heap, slotsUsed := s₂.slotsUsed } : State).setVm s₂.vm).setTop g).pushFrame (.throwing q))
    rw [← hs₂]
    exact hsteps
end
variable {p : Program} {l : Launch} {e : Env} {R : Room} {s : State} {m : MethodId} {args : Array Value} {below : List Frame} {meth : Method} {c : Code} {T : State} {H : Heap} {locs : List Loc} {cells slots : Nat}
theorem vx_callVX (X : Stand p l e R s m args below meth c T locs cells slots) (hexec : p.tables.exec = Jvm.exec) {own C : String} {index : Nat} {y : MethodName} {bytes : ByteArray} {maxL : Nat} {ret : Option FieldType} {hh : List (Nat × Nat × Nat × Nat)}
    (hown : s.vm.findClass own = some m.cls) (hlink : (Cond.methodLink own index y).before args s = true) (hinst : (Cond.instanceMethod y).before args s = true) (hsel : (Cond.selects C y y).before args s = true)
    (hcode : (Cond.codeWith y bytes maxL ret hh).before args s = true) (hy : y.cls ≠ "java/lang/invoke/MethodHandle" ∧ y.cls ≠ "java/lang/invoke/VarHandle")
    {W9 : Nat} {Pre : Pt → Array Value → Prop} {Post : Pt → Array Value → Option Value → Pt → Prop} {PostX : Pt → Array Value → Addr → Pt → Prop} (hK : vx_Back l R p e below s args y 3 W9 Pre Post PostX)
    {b : Addr} {cellB : Cell} (hcell : T.heap[b]? = some cellB) (hobj : cellB.vm.isStatics = false) (hcls : s.vm.findClass C = some cellB.cls)
    {g : JFrame} (hg : g.method = m) (hsize : g.locals.size = c.maxLocals) {argsL rest : List Value} (hlen : ∀ sig, parseMethodDescriptor y.desc = some sig → argsL.length = sig.parameters.length)
    (hstack : g.stack = argsL.reverse ++ .ref b :: rest) (hW : 2 * g.monitorRoom + (rest.map fun v => v.category).sum ≤ W9) (hdg : decode c.code g.pc = .ok (.invokevirtual index, 3))
    (hpre : ∀ vm₁, s.WarmedH vm₁ → Pre ⟨T.setVm vm₁, locs, cells, slots⟩ (Value.ref b :: argsL).toArray) :
    (∃ (v : Option Value) (vm₁ : Vm) (B : Pt), s.WarmedH vm₁ ∧ Stand p l e R s m args below meth c B.U B.locs B.cells B.slots ∧ Post ⟨T.setVm vm₁, locs, cells, slots⟩ (Value.ref b :: argsL).toArray v B ∧
      ∀ target, Steps p.tables e below (B.U.setTop { g with pc := g.pc + 3, stack := v.toList ++ rest }) target → Steps p.tables e below (T.setTop g) target) ∨
    (∃ (q : Addr) (vm₁ : Vm) (B : Pt), s.WarmedH vm₁ ∧ Stand p l e R s m args below meth c B.U B.locs B.cells B.slots ∧ PostX ⟨T.setVm vm₁, locs, cells, slots⟩ (Value.ref b :: argsL).toArray q B ∧
      Steps p.tables e below (T.setTop g) ((B.U.setTop { g with stack := rest }).pushFrame (.throwing q))) := by
  obtain ⟨mk, methM, hnamed, hmethM, hstM, habM⟩ := Cond.instanceMethod_spec hinst
  obtain ⟨m8, methM', cM, hn8, hmethM', -, -, -, -, -, -, hsigM⟩ := Cond.codeWith_spec hcode
  cases Option.some.inj (hn8.symm.trans hnamed)
  cases hmethM.symm.trans hmethM'
  obtain ⟨c2, r2, m2, q1, q2, q3, q4, kP, hkP, hkPi⟩ := Cond.selects_spec hsel
  cases hcls.symm.trans q1
  cases (State.methodFound?_of_named hnamed hy).symm.trans q2
  cases hnamed.symm.trans q3
  have hselP : selectMethod e.platform s.vm cellB.cls mk = .method mk := by rw [Launch.admits_selectMethod X.admits]; exact q4
  obtain ⟨vm₁, X₁, hstep₁⟩ := X.invokevirtual hexec hown hlink hnamed hmethM hstM hkP hkPi hy (a := b) (cell := cellB) hcell
    (fun z h => by rw [h] at hobj; cases hobj) hselP hmethM habM hkP hkPi (g := g) hg (argsL := argsL) (rest := rest) (hlen _ hsigM) hstack hdg
  rcases hK m meth c ⟨T.setVm vm₁, locs, cells, slots⟩ { g with stack := rest } (.invokevirtual index) mk (Value.ref b :: argsL).toArray X₁ hg hsize hdg hW (X₁.named hnamed) (hpre vm₁ X₁.warmed) with ⟨v, B, X', hpost, hsteps⟩ | ⟨q, B, X', hpost, hsteps⟩
  · exact Or.inl ⟨v, vm₁, B, X₁.warmed, X', hpost, fun target h => hstep₁ _ fun acts => by rw [doInvoke_state]; exact hsteps.trans h⟩
  · exact Or.inr ⟨q, vm₁, B, X₁.warmed, X', hpost, hstep₁ _ fun acts => by rw [doInvoke_state]; exact hsteps⟩
theorem vx_callSX (X : Stand p l e R s m args below meth c T locs cells slots) (hexec : p.tables.exec = Jvm.exec) {own : String} {index : Nat} {y : MethodName} {bytes : ByteArray} {maxL : Nat} {ret : Option FieldType} {hh : List (Nat × Nat × Nat × Nat)}
    (hown : s.vm.findClass own = some m.cls) (hlink : (Cond.methodLink own index y).before args s = true) (hstat : (Cond.static y).before args s = true) (hinit : (Cond.initialized y.cls).before args s = true)
    (hcode : (Cond.codeWith y bytes maxL ret hh).before args s = true) (hy : y.cls ≠ "java/lang/invoke/MethodHandle" ∧ y.cls ≠ "java/lang/invoke/VarHandle")
    {W9 : Nat} {Pre : Pt → Array Value → Prop} {Post : Pt → Array Value → Option Value → Pt → Prop} {PostX : Pt → Array Value → Addr → Pt → Prop} (hK : vx_Back l R p e below s args y 3 W9 Pre Post PostX)
    {g : JFrame} (hg : g.method = m) (hsize : g.locals.size = c.maxLocals) {argsL rest : List Value} (hlen : ∀ sig, parseMethodDescriptor y.desc = some sig → argsL.length = sig.parameters.length)
    (hstack : g.stack = argsL.reverse ++ rest) (hW : 2 * g.monitorRoom + (rest.map fun v => v.category).sum ≤ W9) (hdg : decode c.code g.pc = .ok (.invokestatic index, 3))
    (hpre : ∀ vm₁, s.WarmedH vm₁ → Pre ⟨T.setVm vm₁, locs, cells, slots⟩ argsL.toArray) :
    (∃ (v : Option Value) (vm₁ : Vm) (B : Pt), s.WarmedH vm₁ ∧ Stand p l e R s m args below meth c B.U B.locs B.cells B.slots ∧ Post ⟨T.setVm vm₁, locs, cells, slots⟩ argsL.toArray v B ∧
      ∀ target, Steps p.tables e below (B.U.setTop { g with pc := g.pc + 3, stack := v.toList ++ rest }) target → Steps p.tables e below (T.setTop g) target) ∨
    (∃ (q : Addr) (vm₁ : Vm) (B : Pt), s.WarmedH vm₁ ∧ Stand p l e R s m args below meth c B.U B.locs B.cells B.slots ∧ PostX ⟨T.setVm vm₁, locs, cells, slots⟩ argsL.toArray q B ∧
      Steps p.tables e below (T.setTop g) ((B.U.setTop { g with stack := rest }).pushFrame (.throwing q))) := by
  obtain ⟨mk, methM, cM, hnamed, hmethM, -, -, -, -, -, -, hsigM⟩ := Cond.codeWith_spec hcode
  have hstatic : methM.isStatic = true := Cond.static_spec hnamed hmethM hstat
  obtain ⟨kP, hkP, -⟩ := className_of_methodNamed hnamed
  have hinitP : kP.init = .initialized := Cond.initialized_spec (findClass_of_methodNamed hnamed) hkP hinit
  obtain ⟨vm₁, X₁, hstep₁⟩ := X.invokestatic hexec hown hlink hnamed hmethM hstatic hkP hinitP hy (g := g) hg (argsL := argsL) (rest := rest) (hlen _ hsigM) hstack hdg
  rcases hK m meth c ⟨T.setVm vm₁, locs, cells, slots⟩ { g with stack := rest } (.invokestatic index) mk argsL.toArray X₁ hg hsize hdg hW (X₁.named hnamed) (hpre vm₁ X₁.warmed) with ⟨v, B, X', hpost, hsteps⟩ | ⟨q, B, X', hpost, hsteps⟩
  · exact Or.inl ⟨v, vm₁, B, X₁.warmed, X', hpost, fun target h => hstep₁ _ fun acts => by rw [doInvoke_state]; exact hsteps.trans h⟩
  · exact Or.inr ⟨q, vm₁, B, X₁.warmed, X', hpost, hstep₁ _ fun acts => by rw [doInvoke_state]; exact hsteps⟩
theorem vx_callVW (X : Stand p l e R s m args below meth c T locs cells slots) (hexec : p.tables.exec = Jvm.exec) {own C : String} {index : Nat} {y : MethodName} {bytes : ByteArray} {maxL : Nat} {ret : Option FieldType} {hh : List (Nat × Nat × Nat × Nat)}
    (hown : s.vm.findClass own = some m.cls) (hlink : (Cond.methodLink own index y).before args s = true) (hinst : (Cond.instanceMethod y).before args s = true) (hsel : (Cond.selects C y y).before args s = true)
    (hcode : (Cond.codeWith y bytes maxL ret hh).before args s = true) (hy : y.cls ≠ "java/lang/invoke/MethodHandle" ∧ y.cls ≠ "java/lang/invoke/VarHandle")
    {W9 : Nat} {Pre : Pt → Array Value → Prop} {Post : Pt → Array Value → Option Value → Pt → Prop} (hK : Back l R p e below s args y 3 W9 Pre Post)
    {b : Addr} {cellB : Cell} (hcell : T.heap[b]? = some cellB) (hobj : cellB.vm.isStatics = false) (hcls : s.vm.findClass C = some cellB.cls)
    {g : JFrame} (hg : g.method = m) (hsize : g.locals.size = c.maxLocals) {argsL rest : List Value} (hlen : ∀ sig, parseMethodDescriptor y.desc = some sig → argsL.length = sig.parameters.length)
    (hstack : g.stack = argsL.reverse ++ .ref b :: rest) (hW : 2 * g.monitorRoom + (rest.map fun v => v.category).sum ≤ W9) (hdg : decode c.code g.pc = .ok (.invokevirtual index, 3))
    (hpre : ∀ vm₁, s.WarmedH vm₁ → Pre ⟨T.setVm vm₁, locs, cells, slots⟩ (Value.ref b :: argsL).toArray) :
    ∃ (v : Option Value) (vm₁ : Vm) (B : Pt), s.WarmedH vm₁ ∧ Stand p l e R s m args below meth c B.U B.locs B.cells B.slots ∧ Post ⟨T.setVm vm₁, locs, cells, slots⟩ (Value.ref b :: argsL).toArray v B ∧
      ∀ target, Steps p.tables e below (B.U.setTop { g with pc := g.pc + 3, stack := v.toList ++ rest }) target → Steps p.tables e below (T.setTop g) target := by
  obtain ⟨mk, methM, hnamed, hmethM, hstM, habM⟩ := Cond.instanceMethod_spec hinst
  obtain ⟨m8, methM', cM, hn8, hmethM', -, -, -, -, -, -, hsigM⟩ := Cond.codeWith_spec hcode
  cases Option.some.inj (hn8.symm.trans hnamed)
  cases hmethM.symm.trans hmethM'
  obtain ⟨c2, r2, m2, q1, q2, q3, q4, kP, hkP, hkPi⟩ := Cond.selects_spec hsel
  cases hcls.symm.trans q1
  cases (State.methodFound?_of_named hnamed hy).symm.trans q2
  cases hnamed.symm.trans q3
  have hselP : selectMethod e.platform s.vm cellB.cls mk = .method mk := by rw [Launch.admits_selectMethod X.admits]; exact q4
  obtain ⟨vm₁, X₁, hstep₁⟩ := X.invokevirtual hexec hown hlink hnamed hmethM hstM hkP hkPi hy (a := b) (cell := cellB) hcell
    (fun z h => by rw [h] at hobj; cases hobj) hselP hmethM habM hkP hkPi (g := g) hg (argsL := argsL) (rest := rest) (hlen _ hsigM) hstack hdg
  obtain ⟨v, B, X', hpost, hsteps⟩ := hK m meth c ⟨T.setVm vm₁, locs, cells, slots⟩ { g with stack := rest } (.invokevirtual index) mk (Value.ref b :: argsL).toArray X₁ hg hsize hdg hW (X₁.named hnamed) (hpre vm₁ X₁.warmed)
  exact ⟨v, vm₁, B, X₁.warmed, X', hpost, fun target h => hstep₁ _ fun acts => by rw [doInvoke_state]; exact hsteps.trans h⟩
abbrev vx_CVW (R : Room) (s : State) (args : Array Value) (own C : String) (index : Nat) (y : MethodName) (bytes : ByteArray) (maxL : Nat) (ret : Option FieldType) (hh : List (Nat × Nat × Nat × Nat)) (ws : List Cond) (rm : Room) (mc ms n : Nat) : Prop :=
  (rm.cells = mc ∧ rm.slots = ms ∧ rm.frames + 1 ≤ R.frames ∧ 8 + (maxL + 11) + rm.locals ≤ R.locals ∧ (∀ w ∈ ws, ∀ (a' : Array Value) (U : State), s.WarmedH U.vm → w.before a' U = true) ∧ Cond.codeWith y bytes maxL ret hh ∈ ws) ∧
  (Cond.codeWith y bytes maxL ret hh).before args s = true ∧ (Cond.initialized y.cls).before args s = true ∧ (y.cls ≠ "java/lang/invoke/MethodHandle" ∧ y.cls ≠ "java/lang/invoke/VarHandle") ∧
  (∀ sig, parseMethodDescriptor y.desc = some sig → n = sig.parameters.length) ∧ (Cond.methodLink own index y).before args s = true ∧ (Cond.instanceMethod y).before args s = true ∧ (Cond.selects C y y).before args s = true
theorem vx_cwVW {own C : String} {index maxL mc ms : Nat} {y : MethodName} {bytes : ByteArray} {ret : Option FieldType} {hh : List (Nat × Nat × Nat × Nat)} {Ts ws ws' : List Cond} {rm : Room} (n : Nat) (ht : ∀ w ∈ Ts, w.before args s = true) (hT : GoodIn Ts (wsV own index C y ws)) (hw : ws = Cond.codeWith y bytes maxL ret hh :: ws') (hrc : rm.cells = mc) (hrs : rm.slots = ms)
    (hd : y.cls = C ∧ y.cls ≠ "java/lang/invoke/MethodHandle" ∧ y.cls ≠ "java/lang/invoke/VarHandle" ∧ (parseMethodDescriptor y.desc).map (fun d => d.parameters.length) = some n) (hR : rm.frames + 1 ≤ R.frames ∧ 8 + (maxL + 11) + rm.locals ≤ R.locals) :
    vx_CVW R s args own C index y bytes maxL ret hh ws rm mc ms n := by
  obtain ⟨hC, hd⟩ := hd
  subst hC
  have ok : ∀ w ∈ wsV own index y.cls y ws, w.before args s = true := fun w h => ht w (hT w h).1
  have hG : GoodIn Ts ws := fun w h => hT w (by unfold wsV; exact List.mem_append_right _ h)
  have hc : Cond.codeWith y bytes maxL ret hh ∈ ws := by rw [hw]; exact List.mem_cons_self
  refine ⟨⟨hrc, hrs, hR.1, hR.2, pay_in ht hG, hc⟩, ht _ (hG _ hc).1, ok _ (by simp [wsV]), ⟨hd.1, hd.2.1⟩, fun sig h => ?_, ok _ (by simp [wsV]), ok _ (by simp [wsV]), ok _ (by simp [wsV])⟩
  have h2 := hd.2.2
  rw [h] at h2
  exact (Option.some.inj h2).symm
theorem vx_runVW {y : MethodName} {bytes cc : ByteArray} {maxL nL mc ms n index : Nat} {ret : Option FieldType} {hh : List (Nat × Nat × Nat × Nat)} {ws : List Cond} {rm : Room} {Pc : Array Value → State → Prop} {Qc : Array Value → State → Outcome → State → Prop} {free : Addr → Prop} {Ts : List Cond} {own C : String} {b : Addr} {As rest : List Value} {g : JFrame}
    (S : CallFix p m c cc nL s args Ts own) (hM : Met l y ws rm Pc Qc mc ms free) (cw : vx_CVW R s args own C index y bytes maxL ret hh ws rm mc ms n) (hp : PreV s H C b Pc As)
    (hg : g.method = m) (hn : As.length = n) (hsize : g.locals.size = nL) (hstack : g.stack = As.reverse ++ .ref b :: rest) (hW : 2 * g.monitorRoom + (rest.map fun v => v.category).sum ≤ 8) (hdg : decode cc g.pc = .ok (.invokevirtual index, 3)) (hf : cells + mc ≤ R.cells ∧ slots + ms ≤ R.slots) :
    va_Run p l e R s m args below meth c H locs cells slots mc ms g rest (Qc (Value.ref b :: As).toArray) free := by
  obtain ⟨⟨hrc, hrs, hfr, hlo, hws, hcw⟩, hcode, hini, hy, hlen, hl, hin, hse⟩ := cw
  have hK : Back l R p e below s args y 3 8 (PreOf R mc ms Pc) (PostOf Qc mc ms free) := va_backW (hh := hh) (bytes := bytes) (maxL := maxL) (ret := ret) hM hp.1 hrc hrs hfr hlo hws hcw (fun a' U hW => word_at hW (Or.inl (by first | rfl | simp [Cond.onTables, Cond.keeps, Cond.steady])) hini)
  obtain ⟨hx, hb, hml, ho, -⟩ := S
  obtain ⟨-, ⟨cellB, hcB, hoB, hclB⟩, hPc⟩ := hp
  intro T hT X
  obtain ⟨v, vm₁, ⟨U', l2, c2, s2⟩, hW₁, X', ⟨g', mk, t, L, e1, e2, hq, h1, hL, h2, h3⟩, st⟩ := vx_callVW X hx (C := C) (hh := hh) (bytes := bytes) (maxL := maxL) (ret := ret) ho hl hin hse hcode hy hK (by rw [hT]; exact hcB) hoB hclB hg (hsize.trans hml.symm) (argsL := As) (rest := rest) (fun sig h => hn.trans (hlen sig h)) hstack hW (by rw [hb]; exact hdg)
    (fun vm₁ hW₁ => ⟨hf.1, hf.2, hPc (T.setVm vm₁) hT hW₁⟩)
  dsimp only [Pt.U, Pt.locs, Pt.cells, Pt.slots] at X' e1 e2 h1 h2 h3 st
  subst h1; subst h2; subst h3
  exact ⟨v, (T.setVm vm₁).calling g' mk (Value.ref b :: As).toArray, t, U', L, hT, X', hL, e1, e2, hq, st⟩
section
variable {y : MethodName} {bytes cc : ByteArray} {maxL nL mc ms n index : Nat} {ret : Option FieldType} {ws : List Cond} {rm : Room} {Pc : Array Value → State → Prop} {Qc : Array Value → State → Outcome → State → Prop} {XC : String → Addr → State → State → Prop} {free : Addr → Prop} {Ts : List Cond} {own C : String} {b : Addr} {As rest : List Value} {g : JFrame}
theorem vx_runVX {hh : List (Nat × Nat × Nat × Nat)} (S : CallFix p m c cc nL s args Ts own) (hM : vx_Met l y ws rm Pc Qc XC mc ms free) (cw : vx_CVW R s args own C index y bytes maxL ret hh ws rm mc ms n) (hp : PreV s H C b Pc As)
    (hg : g.method = m) (hn : As.length = n) (hsize : g.locals.size = nL) (hstack : g.stack = As.reverse ++ .ref b :: rest) (hW : 2 * g.monitorRoom + (rest.map fun v => v.category).sum ≤ 8) (hdg : decode cc g.pc = .ok (.invokevirtual index, 3)) (hf : cells + mc ≤ R.cells ∧ slots + ms ≤ R.slots) :
    vx_Run p l e R s m args below meth c H locs cells slots mc ms g rest (Qc (Value.ref b :: As).toArray) XC free := by
  obtain ⟨⟨hrc, hrs, hfr, hlo, hws, hcw⟩, hcode, hini, hy, hlen, hl, hin, hse⟩ := cw
  have hK : vx_Back l R p e below s args y 3 8 (PreOf R mc ms Pc) (PostOf Qc mc ms free) (vx_Post XC mc ms free) := vx_backW (hh := hh) (bytes := bytes) (maxL := maxL) (ret := ret) hM hp.1 hrc hrs hfr hlo hws hcw (fun a' U hW => word_at hW (Or.inl (by first | rfl | simp [Cond.onTables, Cond.keeps, Cond.steady])) hini)
  obtain ⟨hx, hb, hml, ho, -⟩ := S
  obtain ⟨-, ⟨cellB, hcB, hoB, hclB⟩, hPc⟩ := hp
  intro T hT X
  rcases vx_callVX X hx (C := C) (hh := hh) (bytes := bytes) (maxL := maxL) (ret := ret) ho hl hin hse hcode hy hK (by rw [hT]; exact hcB) hoB hclB hg (hsize.trans hml.symm) (argsL := As) (rest := rest) (fun sig h => hn.trans (hlen sig h)) hstack hW (by rw [hb]; exact hdg)
    (fun vm₁ hW₁ => ⟨hf.1, hf.2, hPc (T.setVm vm₁) hT hW₁⟩) with ⟨v, vm₁, ⟨U', l2, c2, s2⟩, hW₁, X', ⟨g', mk, t, L, e1, e2, hq, h1, hL, h2, h3⟩, st⟩ | ⟨q, vm₁, ⟨U', l2, c2, s2⟩, hW₁, X', ⟨g', mk, t, L, E, ce, e1, e2, hq, hce, hcv, hcl, h1, hL, h2, h3⟩, st⟩
  · dsimp only [Pt.U, Pt.locs, Pt.cells, Pt.slots] at X' e1 e2 h1 h2 h3 st
    subst h1; subst h2; subst h3
    exact Or.inl ⟨v, (T.setVm vm₁).calling g' mk (Value.ref b :: As).toArray, t, U', L, hT, X', hL, e1, e2, hq, st⟩
  · dsimp only [Pt.U, Pt.locs, Pt.cells, Pt.slots] at X' e1 e2 h1 h2 h3 st hcl
    subst h1; subst h2; subst h3
    exact Or.inr ⟨q, (T.setVm vm₁).calling g' mk (Value.ref b :: As).toArray, t, U', L, E, ce, hT, X', hL, e1, e2, hq, hce, hcv, vx_cls hW₁ hcl, st⟩
theorem vx_runSX {hh : List (Nat × Nat × Nat × Nat)} (S : CallFix p m c cc nL s args Ts own) (hM : vx_Met l y ws rm Pc Qc XC mc ms free) (cw : vx_CSW R s args own index y bytes maxL ret hh ws rm mc ms n) (hp : PreS s H Pc As)
    (hg : g.method = m) (hn : As.length = n) (hsize : g.locals.size = nL) (hstack : g.stack = As.reverse ++ rest) (hW : 2 * g.monitorRoom + (rest.map fun v => v.category).sum ≤ 8) (hdg : decode cc g.pc = .ok (.invokestatic index, 3)) (hf : cells + mc ≤ R.cells ∧ slots + ms ≤ R.slots) :
    vx_Run p l e R s m args below meth c H locs cells slots mc ms g rest (Qc As.toArray) XC free := by
  obtain ⟨⟨hrc, hrs, hfr, hlo, hws, hcw⟩, hcode, hini, hy, hlen, hl, hstt⟩ := cw
  have hK : vx_Back l R p e below s args y 3 8 (PreOf R mc ms Pc) (PostOf Qc mc ms free) (vx_Post XC mc ms free) := vx_backW (hh := hh) (bytes := bytes) (maxL := maxL) (ret := ret) hM hp.1 hrc hrs hfr hlo hws hcw (fun a' U hW => word_at hW (Or.inl (by first | rfl | simp [Cond.onTables, Cond.keeps, Cond.steady])) hini)
  obtain ⟨hx, hb, hml, ho, -⟩ := S
  intro T hT X
  rcases vx_callSX X hx (hh := hh) (bytes := bytes) (maxL := maxL) (ret := ret) ho hl hstt hini hcode hy hK hg (hsize.trans hml.symm) (argsL := As) (rest := rest) (fun sig h => hn.trans (hlen sig h)) hstack hW (by rw [hb]; exact hdg)
    (fun vm₁ hW₁ => ⟨hf.1, hf.2, hp.2 (T.setVm vm₁) hT hW₁⟩) with ⟨v, vm₁, ⟨U', l2, c2, s2⟩, hW₁, X', ⟨g', mk, t, L, e1, e2, hq, h1, hL, h2, h3⟩, st⟩ | ⟨q, vm₁, ⟨U', l2, c2, s2⟩, hW₁, X', ⟨g', mk, t, L, E, ce, e1, e2, hq, hce, hcv, hcl, h1, hL, h2, h3⟩, st⟩
  · dsimp only [Pt.U, Pt.locs, Pt.cells, Pt.slots] at X' e1 e2 h1 h2 h3 st
    subst h1; subst h2; subst h3
    exact Or.inl ⟨v, (T.setVm vm₁).calling g' mk As.toArray, t, U', L, hT, X', hL, e1, e2, hq, st⟩
  · dsimp only [Pt.U, Pt.locs, Pt.cells, Pt.slots] at X' e1 e2 h1 h2 h3 st hcl
    subst h1; subst h2; subst h3
    exact Or.inr ⟨q, (T.setVm vm₁).calling g' mk As.toArray, t, U', L, E, ce, hT, X', hL, e1, e2, hq, hce, hcv, vx_cls hW₁ hcl, st⟩
end
end VXH
theorem vx_ofWH {l : Launch} {y : MethodName} {ws ws' : List Cond} {rm : Room} {Pc : Array Value → State → Prop} {Qc : Array Value → State → Outcome → State → Prop} {XC : String → Addr → State → State → Prop} {mc ms : Nat} {free : Addr → Prop} {cc : ByteArray} {maxL : Nat} {ret : Option FieldType} {hh : List (Nat × Nat × Nat × Nat)}
    (hy : plainName y.cls = true) (hw : ws = Cond.codeWith y cc maxL ret hh :: ws')
    (body : ∀ p e s m args below meth c s₁, BodyLoose p l y (headSpec ws rm) cc maxL ret e s m args below meth c s₁ → c.maxLocals = maxL → Pc args s →
      W p l e (headSpec ws rm).room s m args below meth c s.heap [] 0 0 (vx_MQ below Qc XC args s mc ms free) (entryFrame m args maxL)) : vx_Met l y ws rm Pc Qc XC mc ms free := by
  refine MetFree.of_bodyS (code := cc) (maxLocals := maxL) (ret := ret) hy ?_ ?_
  · intro args s m h hn
    obtain ⟨m9, meth, c, hn9, h1, h2, h3, h4, -, h5, h6, -⟩ := Cond.codeWith_spec (atoms_spec (ws := ws) h _ (by rw [hw]; exact List.mem_cons_self))
    cases hn.symm.trans hn9
    exact ⟨meth, c, h1, h2, h3, h4, h5, h6⟩
  · intro p e s m args below meth c s₁ B hml hP _
    have hh0 : s₁.heap = s.heap := by rw [B.state]; rfl
    obtain ⟨t, a1, o, b1, b2, b3⟩ := body p e s m args below meth c s₁ B hml hP s₁ hh0 (Stand.of_body B)
    exact ⟨t, o, a1, b1, b2, b3⟩
/-! ===== END ===== -/
end
section
def RX0 : String := "SpillForge$Code"
def TX0 : u_T := fun k => match k with
  | 0 => ("SpillForge$Code", "first", "[I", true)
  | 1 => ("SpillForge$Code", "firstGoal", "[I", true)
  | 2 => ("SpillForge$Code", "secondGoal", "[I", true)
  | 3 => ("SpillForge$Code", "op", "[I", true)
  | 4 => ("SpillForge$Code", "set", "[I", true)
  | 5 => ("SpillForge$Code", "left", "[I", true)
  | 6 => ("SpillForge$Code", "leftNumber", "[I", true)
  | 7 => ("SpillForge$Code", "right", "[I", true)
  | 8 => ("SpillForge$Code", "rightNumber", "[I", true)
  | 9 => ("SpillForge$Code", "blocks", "I", false)
  | 10 => ("SpillForge$Code", "lines", "I", false)
  | _ => ("SpillForge$Code", "isFull", "Z", false)
def tyX0 : Nat → FieldType := fun k => match k with
  | 0 => .array .int
  | 1 => .array .int
  | 2 => .array .int
  | 3 => .array .int
  | 4 => .array .int
  | 5 => .array .int
  | 6 => .array .int
  | 7 => .array .int
  | 8 => .array .int
  | 9 => .int
  | 10 => .int
  | _ => .boolean
abbrev wsX00 : List Cond := u_ws RX0 TX0 12
theorem nmX0 : ∀ a, a < 12 → ∀ b, b < 12 → a ≠ b → (TX0 a).2.1 ≠ (TX0 b).2.1 := by decide +kernel
theorem tyX0_ok : ∀ k, k < 12 → parseFieldDescriptor (TX0 k).2.2.1 = some (tyX0 k) := by decide +kernel
abbrev cX0_init : ByteArray := prog_2_method_1_code
def yX0_init : MethodName := ⟨RX0, "<init>", "(I)V"⟩
abbrev cX0_clear : ByteArray := prog_2_method_2_code
def yX0_clear : MethodName := ⟨RX0, "clear", "()V"⟩
abbrev cX0_rows : ByteArray := prog_2_method_3_code
def yX0_rows : MethodName := ⟨RX0, "rows", "()I"⟩
abbrev cX0_blockEnd : ByteArray := prog_2_method_4_code
def yX0_blockEnd : MethodName := ⟨RX0, "blockEnd", "(I)I"⟩
abbrev cX0_goal : ByteArray := prog_2_method_5_code
def yX0_goal : MethodName := ⟨RX0, "goal", "(II)I"⟩
abbrev cX0_openBlock : ByteArray := prog_2_method_6_code
def yX0_openBlock : MethodName := ⟨RX0, "openBlock", "()Z"⟩
abbrev cX0_addGoal : ByteArray := prog_2_method_7_code
def yX0_addGoal : MethodName := ⟨RX0, "addGoal", "(I)I"⟩
abbrev cX0_add : ByteArray := prog_2_method_8_code
def yX0_add : MethodName := ⟨RX0, "add", "(IIIIII)V"⟩
abbrev cX0_openLike : ByteArray := prog_2_method_9_code
def yX0_openLike : MethodName := ⟨RX0, "openLike", "(LSpillForge$Code;)V"⟩
abbrev cX0_addLine : ByteArray := prog_2_method_10_code
def yX0_addLine : MethodName := ⟨RX0, "addLine", "(LSpillForge$Code;I)V"⟩
abbrev cX0_drop : ByteArray := prog_2_method_11_code
def yX0_drop : MethodName := ⟨RX0, "drop", "(I)V"⟩
abbrev cX0_rename : ByteArray := prog_2_method_12_code
def yX0_rename : MethodName := ⟨RX0, "rename", "([I)V"⟩
abbrev cX0_renameSlots : ByteArray := prog_2_method_13_code
def yX0_renameSlots : MethodName := ⟨RX0, "renameSlots", "([I)V"⟩
abbrev cX0_nameIn : ByteArray := prog_2_method_14_code
def yX0_nameIn : MethodName := ⟨RX0, "nameIn", "([II)I"⟩
abbrev cX0_replace : ByteArray := prog_2_method_15_code
def yX0_replace : MethodName := ⟨RX0, "replace", "(II)V"⟩
abbrev cX0_linesThat : ByteArray := prog_2_method_16_code
def yX0_linesThat : MethodName := ⟨RX0, "linesThat", "(I)I"⟩
abbrev cX0_copiesRegister : ByteArray := prog_2_method_17_code
def yX0_copiesRegister : MethodName := ⟨RX0, "copiesRegister", "(I)Z"⟩
abbrev cX0_setBy : ByteArray := prog_2_method_18_code
def yX0_setBy : MethodName := ⟨RX0, "setBy", "(IZ)I"⟩
abbrev cX0_firstUse : ByteArray := prog_2_method_19_code
def yX0_firstUse : MethodName := ⟨RX0, "firstUse", "(IZ)I"⟩
abbrev cX0_secondUse : ByteArray := prog_2_method_20_code
def yX0_secondUse : MethodName := ⟨RX0, "secondUse", "(IZ)I"⟩
def RX1 : String := "SpillForge$Colouring"
def TX1 : u_T := fun k => match k with
  | 0 => ("SpillForge$Colouring", "graph", "LSpillForge$Graph;", true)
  | 1 => ("SpillForge$Colouring", "weight", "[I", true)
  | 2 => ("SpillForge$Colouring", "degree", "[I", true)
  | 3 => ("SpillForge$Colouring", "rest", "[I", true)
  | 4 => ("SpillForge$Colouring", "pile", "[I", true)
  | 5 => ("SpillForge$Colouring", "colour", "[I", true)
  | 6 => ("SpillForge$Colouring", "restSize", "I", false)
  | _ => ("SpillForge$Colouring", "pileSize", "I", false)
def tyX1 : Nat → FieldType := fun k => match k with
  | 0 => .object "SpillForge$Graph"
  | 1 => .array .int
  | 2 => .array .int
  | 3 => .array .int
  | 4 => .array .int
  | 5 => .array .int
  | 6 => .int
  | _ => .int
abbrev wsX10 : List Cond := u_ws RX1 TX1 8
theorem nmX1 : ∀ a, a < 8 → ∀ b, b < 8 → a ≠ b → (TX1 a).2.1 ≠ (TX1 b).2.1 := by decide +kernel
theorem tyX1_ok : ∀ k, k < 8 → parseFieldDescriptor (TX1 k).2.2.1 = some (tyX1 k) := by decide +kernel
abbrev cX1_init : ByteArray := prog_3_method_1_code
def yX1_init : MethodName := ⟨RX1, "<init>", "(LSpillForge$Graph;)V"⟩
abbrev cX1_weight : ByteArray := prog_3_method_2_code
def yX1_weight : MethodName := ⟨RX1, "weight", "(I)I"⟩
abbrev cX1_isWithout : ByteArray := prog_3_method_3_code
def yX1_isWithout : MethodName := ⟨RX1, "isWithout", "(I)Z"⟩
abbrev cX1_colours : ByteArray := prog_3_method_4_code
def yX1_colours : MethodName := ⟨RX1, "colours", "()[I"⟩
abbrev cX1_weigh : ByteArray := prog_3_method_5_code
def yX1_weigh : MethodName := ⟨RX1, "weigh", "(LSpillForge$Code;LSpillForge$Loops;)V"⟩
abbrev cX1_addWeight : ByteArray := prog_3_method_6_code
def yX1_addWeight : MethodName := ⟨RX1, "addWeight", "(II)V"⟩
abbrev cX1_takeApart : ByteArray := prog_3_method_7_code
def yX1_takeApart : MethodName := ⟨RX1, "takeApart", "(I)V"⟩
abbrev cX1_nextOfRest : ByteArray := prog_3_method_8_code
def yX1_nextOfRest : MethodName := ⟨RX1, "nextOfRest", "(I)I"⟩
abbrev cX1_isCheaper : ByteArray := prog_3_method_9_code
def yX1_isCheaper : MethodName := ⟨RX1, "isCheaper", "(II)Z"⟩
abbrev cX1_leave : ByteArray := prog_3_method_10_code
def yX1_leave : MethodName := ⟨RX1, "leave", "(I)V"⟩
abbrev cX1_putTogether : ByteArray := prog_3_method_11_code
def yX1_putTogether : MethodName := ⟨RX1, "putTogether", "(I)Z"⟩
abbrev cX1_coloursAround : ByteArray := prog_3_method_12_code
def yX1_coloursAround : MethodName := ⟨RX1, "coloursAround", "(I)J"⟩
def RX2 : String := "SpillForge$Giver"
def TX2 : u_T := fun k => match k with
  | 0 => ("SpillForge$Giver", "loops", "LSpillForge$Loops;", true)
  | 1 => ("SpillForge$Giver", "graph", "LSpillForge$Graph;", true)
  | 2 => ("SpillForge$Giver", "colouring", "LSpillForge$Colouring;", true)
  | 3 => ("SpillForge$Giver", "firstWeight", "[I", true)
  | 4 => ("SpillForge$Giver", "firstDegree", "[I", true)
  | 5 => ("SpillForge$Giver", "liveBefore", "[I", true)
  | 6 => ("SpillForge$Giver", "slotOf", "[I", true)
  | 7 => ("SpillForge$Giver", "sharedSlot", "[I", true)
  | 8 => ("SpillForge$Giver", "code", "LSpillForge$Code;", false)
  | 9 => ("SpillForge$Giver", "spare", "LSpillForge$Code;", false)
  | 10 => ("SpillForge$Giver", "names", "I", false)
  | 11 => ("SpillForge$Giver", "slots", "I", false)
  | 12 => ("SpillForge$Giver", "sharedSlots", "I", false)
  | 13 => ("SpillForge$Giver", "spilled", "I", false)
  | 14 => ("SpillForge$Giver", "merged", "I", false)
  | _ => ("SpillForge$Giver", "isDone", "Z", false)
def tyX2 : Nat → FieldType := fun k => match k with
  | 0 => .object "SpillForge$Loops"
  | 1 => .object "SpillForge$Graph"
  | 2 => .object "SpillForge$Colouring"
  | 3 => .array .int
  | 4 => .array .int
  | 5 => .array .int
  | 6 => .array .int
  | 7 => .array .int
  | 8 => .object "SpillForge$Code"
  | 9 => .object "SpillForge$Code"
  | 10 => .int
  | 11 => .int
  | 12 => .int
  | 13 => .int
  | 14 => .int
  | _ => .boolean
abbrev wsX20 : List Cond := u_ws RX2 TX2 16
theorem nmX2 : ∀ a, a < 16 → ∀ b, b < 16 → a ≠ b → (TX2 a).2.1 ≠ (TX2 b).2.1 := by decide +kernel
theorem tyX2_ok : ∀ k, k < 16 → parseFieldDescriptor (TX2 k).2.2.1 = some (tyX2 k) := by decide +kernel
abbrev cX2_init : ByteArray := prog_4_method_1_code
def yX2_init : MethodName := ⟨RX2, "<init>", "(LSpillForge$Loops;)V"⟩
abbrev cX2_isDone : ByteArray := prog_4_method_2_code
def yX2_isDone : MethodName := ⟨RX2, "isDone", "()Z"⟩
abbrev cX2_result : ByteArray := prog_4_method_3_code
def yX2_result : MethodName := ⟨RX2, "result", "()LSpillForge$Code;"⟩
abbrev cX2_sharedSlots : ByteArray := prog_4_method_4_code
def yX2_sharedSlots : MethodName := ⟨RX2, "sharedSlots", "()I"⟩
abbrev cX2_spilled : ByteArray := prog_4_method_5_code
def yX2_spilled : MethodName := ⟨RX2, "spilled", "()I"⟩
abbrev cX2_merged : ByteArray := prog_4_method_6_code
def yX2_merged : MethodName := ⟨RX2, "merged", "()I"⟩
abbrev cX2_stoodFirst : ByteArray := prog_4_method_7_code
def yX2_stoodFirst : MethodName := ⟨RX2, "stoodFirst", "(I)Z"⟩
abbrev cX2_firstWeight : ByteArray := prog_4_method_8_code
def yX2_firstWeight : MethodName := ⟨RX2, "firstWeight", "(I)I"⟩
abbrev cX2_firstDegree : ByteArray := prog_4_method_9_code
def yX2_firstDegree : MethodName := ⟨RX2, "firstDegree", "(I)I"⟩
abbrev cX2_liveBefore : ByteArray := prog_4_method_10_code
def yX2_liveBefore : MethodName := ⟨RX2, "liveBefore", "(I)I"⟩
abbrev cX2_colours : ByteArray := prog_4_method_11_code
def yX2_colours : MethodName := ⟨RX2, "colours", "()I"⟩
abbrev cX2_colourBit : ByteArray := prog_4_method_12_code
def yX2_colourBit : MethodName := ⟨RX2, "colourBit", "(I)J"⟩
abbrev cX2_survey : ByteArray := prog_4_method_13_code
def yX2_survey : MethodName := ⟨RX2, "survey", "(LSpillForge$Code;)V"⟩
abbrev cX2_giveOut : ByteArray := prog_4_method_14_code
def yX2_giveOut : MethodName := ⟨RX2, "giveOut", "(LSpillForge$Code;I)I"⟩
abbrev cX2_begin : ByteArray := prog_4_method_15_code
def yX2_begin : MethodName := ⟨RX2, "begin", "(LSpillForge$Code;)V"⟩
abbrev cX2_setLiveToZero : ByteArray := prog_4_method_16_code
def yX2_setLiveToZero : MethodName := ⟨RX2, "setLiveToZero", "()V"⟩
abbrev cX2_mergeCopies : ByteArray := prog_4_method_17_code
def yX2_mergeCopies : MethodName := ⟨RX2, "mergeCopies", "(I)V"⟩
abbrev cX2_nextToMerge : ByteArray := prog_4_method_18_code
def yX2_nextToMerge : MethodName := ⟨RX2, "nextToMerge", "(I)I"⟩
abbrev cX2_canMerge : ByteArray := prog_4_method_19_code
def yX2_canMerge : MethodName := ⟨RX2, "canMerge", "(III)Z"⟩
abbrev cX2_giveSlots : ByteArray := prog_4_method_20_code
def yX2_giveSlots : MethodName := ⟨RX2, "giveSlots", "()Z"⟩
abbrev cX2_spill : ByteArray := prog_4_method_21_code
def yX2_spill : MethodName := ⟨RX2, "spill", "()V"⟩
abbrev cX2_spillLine : ByteArray := prog_4_method_22_code
def yX2_spillLine : MethodName := ⟨RX2, "spillLine", "(I)V"⟩
abbrev cX2_loaded : ByteArray := prog_4_method_23_code
def yX2_loaded : MethodName := ⟨RX2, "loaded", "(I)I"⟩
abbrev cX2_slotFor : ByteArray := prog_4_method_24_code
def yX2_slotFor : MethodName := ⟨RX2, "slotFor", "(I)I"⟩
abbrev cX2_newTemporary : ByteArray := prog_4_method_25_code
def yX2_newTemporary : MethodName := ⟨RX2, "newTemporary", "()I"⟩
abbrev cX2_shareSlots : ByteArray := prog_4_method_26_code
def yX2_shareSlots : MethodName := ⟨RX2, "shareSlots", "()V"⟩
abbrev cX2_isTakenAround : ByteArray := prog_4_method_27_code
def yX2_isTakenAround : MethodName := ⟨RX2, "isTakenAround", "(II)Z"⟩
def RX3 : String := "SpillForge$Graph"
def TX3 : u_T := fun k => match k with
  | 0 => ("SpillForge$Graph", "live", "LSpillForge$Live;", true)
  | 1 => ("SpillForge$Graph", "joined", "[J", true)
  | 2 => ("SpillForge$Graph", "standing", "[J", true)
  | 3 => ("SpillForge$Graph", "degree", "[I", true)
  | 4 => ("SpillForge$Graph", "names", "I", false)
  | _ => ("SpillForge$Graph", "words", "I", false)
def tyX3 : Nat → FieldType := fun k => match k with
  | 0 => .object "SpillForge$Live"
  | 1 => .array .long
  | 2 => .array .long
  | 3 => .array .int
  | 4 => .int
  | _ => .int
abbrev wsX30 : List Cond := u_ws RX3 TX3 6
theorem nmX3 : ∀ a, a < 6 → ∀ b, b < 6 → a ≠ b → (TX3 a).2.1 ≠ (TX3 b).2.1 := by decide +kernel
theorem tyX3_ok : ∀ k, k < 6 → parseFieldDescriptor (TX3 k).2.2.1 = some (tyX3 k) := by decide +kernel
abbrev cX3_init : ByteArray := prog_5_method_1_code
def yX3_init : MethodName := ⟨RX3, "<init>", "()V"⟩
abbrev cX3_build : ByteArray := prog_5_method_2_code
def yX3_build : MethodName := ⟨RX3, "build", "(LSpillForge$Code;IZ)V"⟩
abbrev cX3_joinBlock : ByteArray := prog_5_method_3_code
def yX3_joinBlock : MethodName := ⟨RX3, "joinBlock", "(LSpillForge$Code;IZ)V"⟩
abbrev cX3_joinToLive : ByteArray := prog_5_method_4_code
def yX3_joinToLive : MethodName := ⟨RX3, "joinToLive", "(II)V"⟩
abbrev cX3_bitsOf : ByteArray := prog_5_method_5_code
def yX3_bitsOf : MethodName := ⟨RX3, "bitsOf", "(I)I"⟩
abbrev cX3_stands : ByteArray := prog_5_method_6_code
def yX3_stands : MethodName := ⟨RX3, "stands", "(I)Z"⟩
abbrev cX3_areJoined : ByteArray := prog_5_method_7_code
def yX3_areJoined : MethodName := ⟨RX3, "areJoined", "(II)Z"⟩
abbrev cX3_canBeOne : ByteArray := prog_5_method_8_code
def yX3_canBeOne : MethodName := ⟨RX3, "canBeOne", "(III)Z"⟩
def RX4 : String := "SpillForge$Listing"
def TX4 : u_T := fun k => match k with
  | 0 => ("SpillForge$Listing", "bytes", "[B", true)
  | _ => ("SpillForge$Listing", "size", "I", false)
def tyX4 : Nat → FieldType := fun k => match k with
  | 0 => .array .byte
  | _ => .int
abbrev wsX40 : List Cond := u_ws RX4 TX4 2
theorem nmX4 : ∀ a, a < 2 → ∀ b, b < 2 → a ≠ b → (TX4 a).2.1 ≠ (TX4 b).2.1 := by decide +kernel
theorem tyX4_ok : ∀ k, k < 2 → parseFieldDescriptor (TX4 k).2.2.1 = some (tyX4 k) := by decide +kernel
abbrev cX4_init : ByteArray := prog_6_method_1_code
def yX4_init : MethodName := ⟨RX4, "<init>", "()V"⟩
abbrev cX4_size : ByteArray := prog_6_method_2_code
def yX4_size : MethodName := ⟨RX4, "size", "()I"⟩
abbrev cX4_eightFrom : ByteArray := prog_6_method_3_code
def yX4_eightFrom : MethodName := ⟨RX4, "eightFrom", "(I)J"⟩
abbrev cX4_write : ByteArray := prog_6_method_4_code
def yX4_write : MethodName := ⟨RX4, "write", "(LSpillForge$Code;)V"⟩
abbrev cX4_addEnd : ByteArray := prog_6_method_5_code
def yX4_addEnd : MethodName := ⟨RX4, "addEnd", "(LSpillForge$Code;II)V"⟩
abbrev cX4_addRow : ByteArray := prog_6_method_6_code
def yX4_addRow : MethodName := ⟨RX4, "addRow", "(LSpillForge$Code;I)V"⟩
abbrev cX4_addSource : ByteArray := prog_6_method_7_code
def yX4_addSource : MethodName := ⟨RX4, "addSource", "(LSpillForge$Code;I)V"⟩
abbrev cX4_addOp : ByteArray := prog_6_method_8_code
def yX4_addOp : MethodName := ⟨RX4, "addOp", "(I)V"⟩
abbrev cX4_addOperand : ByteArray := prog_6_method_9_code
def yX4_addOperand : MethodName := ⟨RX4, "addOperand", "(II)V"⟩
abbrev cX4_addNamed : ByteArray := prog_6_method_10_code
def yX4_addNamed : MethodName := ⟨RX4, "addNamed", "(Ljava/lang/String;I)V"⟩
abbrev cX4_addText : ByteArray := prog_6_method_11_code
def yX4_addText : MethodName := ⟨RX4, "addText", "(Ljava/lang/String;)V"⟩
abbrev cX4_addNumber : ByteArray := prog_6_method_12_code
def yX4_addNumber : MethodName := ⟨RX4, "addNumber", "(I)V"⟩
abbrev cX4_addByte : ByteArray := prog_6_method_13_code
def yX4_addByte : MethodName := ⟨RX4, "addByte", "(C)V"⟩
def RX5 : String := "SpillForge$Live"
def TX5 : u_T := fun k => match k with
  | 0 => ("SpillForge$Live", "in", "[J", true)
  | 1 => ("SpillForge$Live", "used", "[J", true)
  | 2 => ("SpillForge$Live", "set", "[J", true)
  | 3 => ("SpillForge$Live", "now", "[J", true)
  | 4 => ("SpillForge$Live", "names", "I", false)
  | 5 => ("SpillForge$Live", "words", "I", false)
  | _ => ("SpillForge$Live", "ofSlots", "Z", false)
def tyX5 : Nat → FieldType := fun k => match k with
  | 0 => .array .long
  | 1 => .array .long
  | 2 => .array .long
  | 3 => .array .long
  | 4 => .int
  | 5 => .int
  | _ => .boolean
abbrev wsX50 : List Cond := u_ws RX5 TX5 7
theorem nmX5 : ∀ a, a < 7 → ∀ b, b < 7 → a ≠ b → (TX5 a).2.1 ≠ (TX5 b).2.1 := by decide +kernel
theorem tyX5_ok : ∀ k, k < 7 → parseFieldDescriptor (TX5 k).2.2.1 = some (tyX5 k) := by decide +kernel
abbrev cX5_init : ByteArray := prog_7_method_1_code
def yX5_init : MethodName := ⟨RX5, "<init>", "()V"⟩
abbrev cX5_solve : ByteArray := prog_7_method_2_code
def yX5_solve : MethodName := ⟨RX5, "solve", "(LSpillForge$Code;IZ)V"⟩
abbrev cX5_isName : ByteArray := prog_7_method_3_code
def yX5_isName : MethodName := ⟨RX5, "isName", "(I)Z"⟩
abbrev cX5_gather : ByteArray := prog_7_method_4_code
def yX5_gather : MethodName := ⟨RX5, "gather", "(LSpillForge$Code;I)V"⟩
abbrev cX5_gatherUse : ByteArray := prog_7_method_5_code
def yX5_gatherUse : MethodName := ⟨RX5, "gatherUse", "(II)V"⟩
abbrev cX5_sweep : ByteArray := prog_7_method_6_code
def yX5_sweep : MethodName := ⟨RX5, "sweep", "(LSpillForge$Code;)Z"⟩
abbrev cX5_enterBehind : ByteArray := prog_7_method_7_code
def yX5_enterBehind : MethodName := ⟨RX5, "enterBehind", "(LSpillForge$Code;I)V"⟩
abbrev cX5_stepOver : ByteArray := prog_7_method_8_code
def yX5_stepOver : MethodName := ⟨RX5, "stepOver", "(LSpillForge$Code;I)V"⟩
abbrev cX5_revive : ByteArray := prog_7_method_9_code
def yX5_revive : MethodName := ⟨RX5, "revive", "(I)V"⟩
abbrev cX5_isLiveBefore : ByteArray := prog_7_method_10_code
def yX5_isLiveBefore : MethodName := ⟨RX5, "isLiveBefore", "(II)Z"⟩
abbrev cX5_liveBefore : ByteArray := prog_7_method_11_code
def yX5_liveBefore : MethodName := ⟨RX5, "liveBefore", "(I)I"⟩
abbrev cX5_standing : ByteArray := prog_7_method_12_code
def yX5_standing : MethodName := ⟨RX5, "standing", "(II)J"⟩
def RX6 : String := "SpillForge$Loops"
def TX6 : u_T := fun k => match k with
  | 0 => ("SpillForge$Loops", "goals", "[J", true)
  | 1 => ("SpillForge$Loops", "sources", "[J", true)
  | _ => ("SpillForge$Loops", "depth", "[I", true)
def tyX6 : Nat → FieldType := fun k => match k with
  | 0 => .array .long
  | 1 => .array .long
  | _ => .array .int
abbrev wsX60 : List Cond := u_ws RX6 TX6 3
theorem nmX6 : ∀ a, a < 3 → ∀ b, b < 3 → a ≠ b → (TX6 a).2.1 ≠ (TX6 b).2.1 := by decide +kernel
theorem tyX6_ok : ∀ k, k < 3 → parseFieldDescriptor (TX6 k).2.2.1 = some (tyX6 k) := by decide +kernel
abbrev cX6_init : ByteArray := prog_8_method_1_code
def yX6_init : MethodName := ⟨RX6, "<init>", "()V"⟩
abbrev cX6_depth : ByteArray := prog_8_method_2_code
def yX6_depth : MethodName := ⟨RX6, "depth", "(I)I"⟩
abbrev cX6_factor : ByteArray := prog_8_method_3_code
def yX6_factor : MethodName := ⟨RX6, "factor", "(I)I"⟩
abbrev cX6_find : ByteArray := prog_8_method_4_code
def yX6_find : MethodName := ⟨RX6, "find", "(LSpillForge$Code;)V"⟩
abbrev cX6_link : ByteArray := prog_8_method_5_code
def yX6_link : MethodName := ⟨RX6, "link", "(II)V"⟩
abbrev cX6_loopOf : ByteArray := prog_8_method_6_code
def yX6_loopOf : MethodName := ⟨RX6, "loopOf", "(IJ)J"⟩
abbrev cX6_deepen : ByteArray := prog_8_method_7_code
def yX6_deepen : MethodName := ⟨RX6, "deepen", "(J)V"⟩
abbrev cX6_walk : ByteArray := prog_8_method_8_code
def yX6_walk : MethodName := ⟨RX6, "walk", "([JJJ)J"⟩
def RX7 : String := "SpillForge$Machine"
def TX7 : u_T := fun k => match k with
  | 0 => ("SpillForge$Machine", "given", "[I", true)
  | 1 => ("SpillForge$Machine", "registers", "[I", true)
  | 2 => ("SpillForge$Machine", "slots", "[I", true)
  | 3 => ("SpillForge$Machine", "shows", "[I", true)
  | 4 => ("SpillForge$Machine", "givens", "I", false)
  | 5 => ("SpillForge$Machine", "block", "I", false)
  | 6 => ("SpillForge$Machine", "answer", "I", false)
  | 7 => ("SpillForge$Machine", "showCount", "I", false)
  | 8 => ("SpillForge$Machine", "steps", "I", false)
  | 9 => ("SpillForge$Machine", "taken", "I", false)
  | _ => ("SpillForge$Machine", "ending", "I", false)
def tyX7 : Nat → FieldType := fun k => match k with
  | 0 => .array .int
  | 1 => .array .int
  | 2 => .array .int
  | 3 => .array .int
  | 4 => .int
  | 5 => .int
  | 6 => .int
  | 7 => .int
  | 8 => .int
  | 9 => .int
  | _ => .int
abbrev wsX70 : List Cond := u_ws RX7 TX7 11
theorem nmX7 : ∀ a, a < 11 → ∀ b, b < 11 → a ≠ b → (TX7 a).2.1 ≠ (TX7 b).2.1 := by decide +kernel
theorem tyX7_ok : ∀ k, k < 11 → parseFieldDescriptor (TX7 k).2.2.1 = some (tyX7 k) := by decide +kernel
abbrev cX7_init : ByteArray := prog_9_method_1_code
def yX7_init : MethodName := ⟨RX7, "<init>", "()V"⟩
abbrev cX7_takeInput : ByteArray := prog_9_method_2_code
def yX7_takeInput : MethodName := ⟨RX7, "takeInput", "(LSpillForge$Tape;)I"⟩
abbrev cX7_answer : ByteArray := prog_9_method_3_code
def yX7_answer : MethodName := ⟨RX7, "answer", "()I"⟩
abbrev cX7_shows : ByteArray := prog_9_method_4_code
def yX7_shows : MethodName := ⟨RX7, "shows", "()I"⟩
abbrev cX7_showAt : ByteArray := prog_9_method_5_code
def yX7_showAt : MethodName := ⟨RX7, "showAt", "(I)I"⟩
abbrev cX7_steps : ByteArray := prog_9_method_6_code
def yX7_steps : MethodName := ⟨RX7, "steps", "()I"⟩
abbrev cX7_taken : ByteArray := prog_9_method_7_code
def yX7_taken : MethodName := ⟨RX7, "taken", "()I"⟩
abbrev cX7_ending : ByteArray := prog_9_method_8_code
def yX7_ending : MethodName := ⟨RX7, "ending", "()I"⟩
abbrev cX7_perform : ByteArray := prog_9_method_9_code
def yX7_perform : MethodName := ⟨RX7, "perform", "(LSpillForge$Code;I)V"⟩
abbrev cX7_step : ByteArray := prog_9_method_10_code
def yX7_step : MethodName := ⟨RX7, "step", "(LSpillForge$Code;I)I"⟩
abbrev cX7_enter : ByteArray := prog_9_method_11_code
def yX7_enter : MethodName := ⟨RX7, "enter", "(LSpillForge$Code;I)I"⟩
abbrev cX7_halt : ByteArray := prog_9_method_12_code
def yX7_halt : MethodName := ⟨RX7, "halt", "(I)I"⟩
abbrev cX7_addShow : ByteArray := prog_9_method_13_code
def yX7_addShow : MethodName := ⟨RX7, "addShow", "(I)Z"⟩
abbrev cX7_takeNext : ByteArray := prog_9_method_14_code
def yX7_takeNext : MethodName := ⟨RX7, "takeNext", "()I"⟩
abbrev cX7_valueOf : ByteArray := prog_9_method_15_code
def yX7_valueOf : MethodName := ⟨RX7, "valueOf", "(II)I"⟩
abbrev cX7_slotAt : ByteArray := prog_9_method_16_code
def yX7_slotAt : MethodName := ⟨RX7, "slotAt", "(I)I"⟩
abbrev cX7_put : ByteArray := prog_9_method_17_code
def yX7_put : MethodName := ⟨RX7, "put", "([III)V"⟩
abbrev cX7_calculate : ByteArray := prog_9_method_18_code
def yX7_calculate : MethodName := ⟨RX7, "calculate", "(III)I"⟩
def RX8 : String := "SpillForge$Reader"
def TX8 : u_T := fun k => match k with
  | 0 => ("SpillForge$Reader", "signs", "LSpillForge$Signs;", true)
  | 1 => ("SpillForge$Reader", "goalPlaces", "[I", true)
  | 2 => ("SpillForge$Reader", "reason", "I", false)
  | 3 => ("SpillForge$Reader", "rulePlace", "I", false)
  | 4 => ("SpillForge$Reader", "ruleReason", "I", false)
  | 5 => ("SpillForge$Reader", "labels", "J", false)
  | 6 => ("SpillForge$Reader", "rows", "I", false)
  | 7 => ("SpillForge$Reader", "due", "I", false)
  | 8 => ("SpillForge$Reader", "op", "I", false)
  | 9 => ("SpillForge$Reader", "set", "I", false)
  | 10 => ("SpillForge$Reader", "left", "I", false)
  | _ => ("SpillForge$Reader", "leftNumber", "I", false)
def tyX8 : Nat → FieldType := fun k => match k with
  | 0 => .object "SpillForge$Signs"
  | 1 => .array .int
  | 2 => .int
  | 3 => .int
  | 4 => .int
  | 5 => .long
  | 6 => .int
  | 7 => .int
  | 8 => .int
  | 9 => .int
  | 10 => .int
  | _ => .int
abbrev wsX80 : List Cond := u_ws RX8 TX8 12
theorem nmX8 : ∀ a, a < 12 → ∀ b, b < 12 → a ≠ b → (TX8 a).2.1 ≠ (TX8 b).2.1 := by decide +kernel
theorem tyX8_ok : ∀ k, k < 12 → parseFieldDescriptor (TX8 k).2.2.1 = some (tyX8 k) := by decide +kernel
abbrev cX8_init : ByteArray := prog_10_method_1_code
def yX8_init : MethodName := ⟨RX8, "<init>", "(LSpillForge$Tape;)V"⟩
abbrev cX8_reason : ByteArray := prog_10_method_2_code
def yX8_reason : MethodName := ⟨RX8, "reason", "()I"⟩
abbrev cX8_readInto : ByteArray := prog_10_method_3_code
def yX8_readInto : MethodName := ⟨RX8, "readInto", "(LSpillForge$Code;)I"⟩
abbrev cX8_accept : ByteArray := prog_10_method_4_code
def yX8_accept : MethodName := ⟨RX8, "accept", "(LSpillForge$Code;)Z"⟩
abbrev cX8_acceptLabel : ByteArray := prog_10_method_5_code
def yX8_acceptLabel : MethodName := ⟨RX8, "acceptLabel", "(LSpillForge$Code;)Z"⟩
abbrev cX8_acceptMark : ByteArray := prog_10_method_6_code
def yX8_acceptMark : MethodName := ⟨RX8, "acceptMark", "(II)Z"⟩
abbrev cX8_acceptLine : ByteArray := prog_10_method_7_code
def yX8_acceptLine : MethodName := ⟨RX8, "acceptLine", "(LSpillForge$Code;)Z"⟩
abbrev cX8_beginRow : ByteArray := prog_10_method_8_code
def yX8_beginRow : MethodName := ⟨RX8, "beginRow", "()V"⟩
abbrev cX8_beginLine : ByteArray := prog_10_method_9_code
def yX8_beginLine : MethodName := ⟨RX8, "beginLine", "(II)Z"⟩
abbrev cX8_acceptSource : ByteArray := prog_10_method_10_code
def yX8_acceptSource : MethodName := ⟨RX8, "acceptSource", "(LSpillForge$Code;)Z"⟩
abbrev cX8_acceptOpOrLine : ByteArray := prog_10_method_11_code
def yX8_acceptOpOrLine : MethodName := ⟨RX8, "acceptOpOrLine", "(LSpillForge$Code;)Z"⟩
abbrev cX8_acceptRight : ByteArray := prog_10_method_12_code
def yX8_acceptRight : MethodName := ⟨RX8, "acceptRight", "(LSpillForge$Code;)Z"⟩
abbrev cX8_acceptOnly : ByteArray := prog_10_method_13_code
def yX8_acceptOnly : MethodName := ⟨RX8, "acceptOnly", "(LSpillForge$Code;II)Z"⟩
abbrev cX8_acceptGoal : ByteArray := prog_10_method_14_code
def yX8_acceptGoal : MethodName := ⟨RX8, "acceptGoal", "(LSpillForge$Code;I)Z"⟩
abbrev cX8_isOperand : ByteArray := prog_10_method_15_code
def yX8_isOperand : MethodName := ⟨RX8, "isOperand", "()Z"⟩
abbrev cX8_registerOrNone : ByteArray := prog_10_method_16_code
def yX8_registerOrNone : MethodName := ⟨RX8, "registerOrNone", "()I"⟩
abbrev cX8_numberOrZero : ByteArray := prog_10_method_17_code
def yX8_numberOrZero : MethodName := ⟨RX8, "numberOrZero", "()I"⟩
abbrev cX8_takeLeft : ByteArray := prog_10_method_18_code
def yX8_takeLeft : MethodName := ⟨RX8, "takeLeft", "()V"⟩
abbrev cX8_keep : ByteArray := prog_10_method_19_code
def yX8_keep : MethodName := ⟨RX8, "keep", "(LSpillForge$Code;III)V"⟩
abbrev cX8_isBroken : ByteArray := prog_10_method_20_code
def yX8_isBroken : MethodName := ⟨RX8, "isBroken", "()Z"⟩
abbrev cX8_breakRule : ByteArray := prog_10_method_21_code
def yX8_breakRule : MethodName := ⟨RX8, "breakRule", "(I)V"⟩
abbrev cX8_checkGoals : ByteArray := prog_10_method_22_code
def yX8_checkGoals : MethodName := ⟨RX8, "checkGoals", "(LSpillForge$Code;)V"⟩
def RX9 : String := "SpillForge$Signs"
def TX9 : u_T := fun k => match k with
  | 0 => ("SpillForge$Signs", "tape", "LSpillForge$Tape;", true)
  | 1 => ("SpillForge$Signs", "kind", "I", false)
  | 2 => ("SpillForge$Signs", "value", "I", false)
  | 3 => ("SpillForge$Signs", "place", "I", false)
  | _ => ("SpillForge$Signs", "behind", "I", false)
def tyX9 : Nat → FieldType := fun k => match k with
  | 0 => .object "SpillForge$Tape"
  | 1 => .int
  | 2 => .int
  | 3 => .int
  | _ => .int
abbrev wsX90 : List Cond := u_ws RX9 TX9 5
theorem nmX9 : ∀ a, a < 5 → ∀ b, b < 5 → a ≠ b → (TX9 a).2.1 ≠ (TX9 b).2.1 := by decide +kernel
theorem tyX9_ok : ∀ k, k < 5 → parseFieldDescriptor (TX9 k).2.2.1 = some (tyX9 k) := by decide +kernel
abbrev cX9_init : ByteArray := prog_11_method_1_code
def yX9_init : MethodName := ⟨RX9, "<init>", "(LSpillForge$Tape;)V"⟩
abbrev cX9_kind : ByteArray := prog_11_method_2_code
def yX9_kind : MethodName := ⟨RX9, "kind", "()I"⟩
abbrev cX9_value : ByteArray := prog_11_method_3_code
def yX9_value : MethodName := ⟨RX9, "value", "()I"⟩
abbrev cX9_place : ByteArray := prog_11_method_4_code
def yX9_place : MethodName := ⟨RX9, "place", "()I"⟩
abbrev cX9_open : ByteArray := prog_11_method_5_code
def yX9_open : MethodName := ⟨RX9, "open", "()V"⟩
abbrev cX9_advance : ByteArray := prog_11_method_6_code
def yX9_advance : MethodName := ⟨RX9, "advance", "()V"⟩
abbrev cX9_skipBlanks : ByteArray := prog_11_method_7_code
def yX9_skipBlanks : MethodName := ⟨RX9, "skipBlanks", "(I)I"⟩
abbrev cX9_takeNumber : ByteArray := prog_11_method_8_code
def yX9_takeNumber : MethodName := ⟨RX9, "takeNumber", "(Z)V"⟩
abbrev cX9_takeNamed : ByteArray := prog_11_method_9_code
def yX9_takeNamed : MethodName := ⟨RX9, "takeNamed", "(II)V"⟩
abbrev cX9_takeDigits : ByteArray := prog_11_method_10_code
def yX9_takeDigits : MethodName := ⟨RX9, "takeDigits", "(I)J"⟩
abbrev cX9_takeWord : ByteArray := prog_11_method_11_code
def yX9_takeWord : MethodName := ⟨RX9, "takeWord", "()V"⟩
abbrev cX9_isWord : ByteArray := prog_11_method_12_code
def yX9_isWord : MethodName := ⟨RX9, "isWord", "(Ljava/lang/String;)Z"⟩
abbrev cX9_takeMark : ByteArray := prog_11_method_13_code
def yX9_takeMark : MethodName := ⟨RX9, "takeMark", "(II)V"⟩
abbrev cX9_opOf : ByteArray := prog_11_method_14_code
def yX9_opOf : MethodName := ⟨RX9, "opOf", "(II)I"⟩
abbrev cX9_isDigit : ByteArray := prog_11_method_15_code
def yX9_isDigit : MethodName := ⟨RX9, "isDigit", "(I)Z"⟩
abbrev cX9_isLetter : ByteArray := prog_11_method_16_code
def yX9_isLetter : MethodName := ⟨RX9, "isLetter", "(I)Z"⟩
def RX10 : String := "SpillForge$Tape"
def TX10 : u_T := fun k => match k with
  | 0 => ("SpillForge$Tape", "bytes", "[B", true)
  | _ => ("SpillForge$Tape", "size", "I", false)
def tyX10 : Nat → FieldType := fun k => match k with
  | 0 => .array .byte
  | _ => .int
abbrev wsX100 : List Cond := u_ws RX10 TX10 2
theorem nmX10 : ∀ a, a < 2 → ∀ b, b < 2 → a ≠ b → (TX10 a).2.1 ≠ (TX10 b).2.1 := by decide +kernel
theorem tyX10_ok : ∀ k, k < 2 → parseFieldDescriptor (TX10 k).2.2.1 = some (tyX10 k) := by decide +kernel
abbrev cX10_init : ByteArray := prog_12_method_1_code
def yX10_init : MethodName := ⟨RX10, "<init>", "()V"⟩
abbrev cX10_size : ByteArray := prog_12_method_2_code
def yX10_size : MethodName := ⟨RX10, "size", "()I"⟩
abbrev cX10_hasRoom : ByteArray := prog_12_method_3_code
def yX10_hasRoom : MethodName := ⟨RX10, "hasRoom", "(I)Z"⟩
abbrev cX10_addInt : ByteArray := prog_12_method_4_code
def yX10_addInt : MethodName := ⟨RX10, "addInt", "(I)V"⟩
abbrev cX10_cutTo : ByteArray := prog_12_method_5_code
def yX10_cutTo : MethodName := ⟨RX10, "cutTo", "(I)V"⟩
abbrev cX10_byteAt : ByteArray := prog_12_method_6_code
def yX10_byteAt : MethodName := ⟨RX10, "byteAt", "(I)I"⟩
abbrev cX10_intAt : ByteArray := prog_12_method_7_code
def yX10_intAt : MethodName := ⟨RX10, "intAt", "(I)I"⟩
def RX11 : String := "SpillForge"
def TX11 : u_T := fun k => match k with
  | 0 => ("SpillForge", "tape", "LSpillForge$Tape;", true)
  | 1 => ("SpillForge", "reader", "LSpillForge$Reader;", true)
  | 2 => ("SpillForge", "program", "LSpillForge$Code;", true)
  | 3 => ("SpillForge", "loops", "LSpillForge$Loops;", true)
  | 4 => ("SpillForge", "giver", "LSpillForge$Giver;", true)
  | 5 => ("SpillForge", "machine", "LSpillForge$Machine;", true)
  | 6 => ("SpillForge", "listing", "LSpillForge$Listing;", true)
  | _ => ("SpillForge", "hasProgram", "Z", false)
def tyX11 : Nat → FieldType := fun k => match k with
  | 0 => .object "SpillForge$Tape"
  | 1 => .object "SpillForge$Reader"
  | 2 => .object "SpillForge$Code"
  | 3 => .object "SpillForge$Loops"
  | 4 => .object "SpillForge$Giver"
  | 5 => .object "SpillForge$Machine"
  | 6 => .object "SpillForge$Listing"
  | _ => .boolean
abbrev wsX110 : List Cond := u_ws RX11 TX11 8
theorem nmX11 : ∀ a, a < 8 → ∀ b, b < 8 → a ≠ b → (TX11 a).2.1 ≠ (TX11 b).2.1 := by decide +kernel
theorem tyX11_ok : ∀ k, k < 8 → parseFieldDescriptor (TX11 k).2.2.1 = some (tyX11 k) := by decide +kernel
abbrev cX11_init : ByteArray := prog_1_method_1_code
def yX11_init : MethodName := ⟨RX11, "<init>", "()V"⟩
abbrev cX11_feed : ByteArray := prog_1_method_2_code
def yX11_feed : MethodName := ⟨RX11, "feed", "(IIIII)I"⟩
abbrev cX11_end : ByteArray := prog_1_method_3_code
def yX11_end : MethodName := ⟨RX11, "end", "(I)I"⟩
abbrev cX11_text : ByteArray := prog_1_method_4_code
def yX11_text : MethodName := ⟨RX11, "text", "()I"⟩
abbrev cX11_input : ByteArray := prog_1_method_5_code
def yX11_input : MethodName := ⟨RX11, "input", "()I"⟩
abbrev cX11_give : ByteArray := prog_1_method_6_code
def yX11_give : MethodName := ⟨RX11, "give", "(I)I"⟩
abbrev cX11_count : ByteArray := prog_1_method_7_code
def yX11_count : MethodName := ⟨RX11, "count", "(I)I"⟩
abbrev cX11_countGiven : ByteArray := prog_1_method_8_code
def yX11_countGiven : MethodName := ⟨RX11, "countGiven", "(I)I"⟩
abbrev cX11_look : ByteArray := prog_1_method_9_code
def yX11_look : MethodName := ⟨RX11, "look", "(II)I"⟩
abbrev cX11_run : ByteArray := prog_1_method_10_code
def yX11_run : MethodName := ⟨RX11, "run", "(ZI)I"⟩
abbrev cX11_exists : ByteArray := prog_1_method_11_code
def yX11_exists : MethodName := ⟨RX11, "exists", "(Z)Z"⟩
abbrev cX11_told : ByteArray := prog_1_method_12_code
def yX11_told : MethodName := ⟨RX11, "told", "(I)I"⟩
abbrev cX11_shown : ByteArray := prog_1_method_13_code
def yX11_shown : MethodName := ⟨RX11, "shown", "(I)I"⟩
abbrev cX11_list : ByteArray := prog_1_method_14_code
def yX11_list : MethodName := ⟨RX11, "list", "(Z)I"⟩
abbrev cX11_word : ByteArray := prog_1_method_15_code
def yX11_word : MethodName := ⟨RX11, "word", "(I)J"⟩
abbrev cX11_lowestBit : ByteArray := prog_1_method_16_code
def yX11_lowestBit : MethodName := ⟨RX11, "lowestBit", "(J)I"⟩
def RX12 : String := "SpillForgeModel$Block"
def TX12 : u_T := fun k => match k with
  | 0 => ("SpillForgeModel$Block", "rows", "Ljava/util/ArrayList;", true)
  | 1 => ("SpillForgeModel$Block", "end", "LSpillForgeModel$Row;", true)
  | 2 => ("SpillForgeModel$Block", "first", "I", false)
  | _ => ("SpillForgeModel$Block", "second", "I", false)
def tyX12 : Nat → FieldType := fun k => match k with
  | 0 => .object "java/util/ArrayList"
  | 1 => .object "SpillForgeModel$Row"
  | 2 => .int
  | _ => .int
abbrev wsX120 : List Cond := u_ws RX12 TX12 4
theorem nmX12 : ∀ a, a < 4 → ∀ b, b < 4 → a ≠ b → (TX12 a).2.1 ≠ (TX12 b).2.1 := by decide +kernel
theorem tyX12_ok : ∀ k, k < 4 → parseFieldDescriptor (TX12 k).2.2.1 = some (tyX12 k) := by decide +kernel
abbrev cX12_init : ByteArray := prog_15_method_1_code
def yX12_init : MethodName := ⟨RX12, "<init>", "()V"⟩
abbrev cX12_ways : ByteArray := prog_15_method_2_code
def yX12_ways : MethodName := ⟨RX12, "ways", "()I"⟩
abbrev cX12_way : ByteArray := prog_15_method_3_code
def yX12_way : MethodName := ⟨RX12, "way", "(I)I"⟩
def RX13 : String := "SpillForgeModel$Code"
def TX13 : u_T := fun k => match k with
  | 0 => ("SpillForgeModel$Code", "blocks", "Ljava/util/ArrayList;", true)
  | 1 => ("SpillForgeModel$Code", "rows", "Ljava/util/ArrayList;", true)
  | 2 => ("SpillForgeModel$Code", "rowN", "I", false)
  | _ => ("SpillForgeModel$Code", "made", "I", false)
def tyX13 : Nat → FieldType := fun k => match k with
  | 0 => .object "java/util/ArrayList"
  | 1 => .object "java/util/ArrayList"
  | 2 => .int
  | _ => .int
abbrev wsX130 : List Cond := u_ws RX13 TX13 4
theorem nmX13 : ∀ a, a < 4 → ∀ b, b < 4 → a ≠ b → (TX13 a).2.1 ≠ (TX13 b).2.1 := by decide +kernel
theorem tyX13_ok : ∀ k, k < 4 → parseFieldDescriptor (TX13 k).2.2.1 = some (tyX13 k) := by decide +kernel
abbrev cX13_init : ByteArray := prog_16_method_1_code
def yX13_init : MethodName := ⟨RX13, "<init>", "()V"⟩
abbrev cX13_begin : ByteArray := prog_16_method_2_code
def yX13_begin : MethodName := ⟨RX13, "begin", "()V"⟩
abbrev cX13_block : ByteArray := prog_16_method_3_code
def yX13_block : MethodName := ⟨RX13, "block", "()LSpillForgeModel$Block;"⟩
abbrev cX13_row : ByteArray := prog_16_method_4_code
def yX13_row : MethodName := ⟨RX13, "row", "()LSpillForgeModel$Row;"⟩
abbrev cX13_size : ByteArray := prog_16_method_5_code
def yX13_size : MethodName := ⟨RX13, "size", "()I"⟩
abbrev cX13_get : ByteArray := prog_16_method_6_code
def yX13_get : MethodName := ⟨RX13, "get", "(I)LSpillForgeModel$Block;"⟩
abbrev cX13_countRows : ByteArray := prog_16_method_7_code
def yX13_countRows : MethodName := ⟨RX13, "countRows", "()I"⟩
abbrev cX13_count : ByteArray := prog_16_method_8_code
def yX13_count : MethodName := ⟨RX13, "count", "(I)I"⟩
abbrev cX13_copy : ByteArray := prog_16_method_9_code
def yX13_copy : MethodName := ⟨RX13, "copy", "(LSpillForgeModel$Code;)V"⟩
def RX14 : String := "SpillForgeModel$Reader"
def TX14 : u_T := fun k => match k with
  | 0 => ("SpillForgeModel$Reader", "t", "[B", true)
  | 1 => ("SpillForgeModel$Reader", "n", "I", true)
  | 2 => ("SpillForgeModel$Reader", "at", "I", false)
  | 3 => ("SpillForgeModel$Reader", "kind", "I", false)
  | 4 => ("SpillForgeModel$Reader", "place", "I", false)
  | 5 => ("SpillForgeModel$Reader", "value", "I", false)
  | 6 => ("SpillForgeModel$Reader", "before", "I", false)
  | 7 => ("SpillForgeModel$Reader", "text", "Ljava/lang/String;", false)
  | 8 => ("SpillForgeModel$Reader", "rulePlace", "I", false)
  | 9 => ("SpillForgeModel$Reader", "rule", "I", false)
  | 10 => ("SpillForgeModel$Reader", "rows", "I", false)
  | 11 => ("SpillForgeModel$Reader", "goalPlaces", "[I", false)
  | 12 => ("SpillForgeModel$Reader", "goals", "[I", false)
  | _ => ("SpillForgeModel$Reader", "goalN", "I", false)
def tyX14 : Nat → FieldType := fun k => match k with
  | 0 => .array .byte
  | 1 => .int
  | 2 => .int
  | 3 => .int
  | 4 => .int
  | 5 => .int
  | 6 => .int
  | 7 => .object "java/lang/String"
  | 8 => .int
  | 9 => .int
  | 10 => .int
  | 11 => .array .int
  | 12 => .array .int
  | _ => .int
abbrev wsX140 : List Cond := u_ws RX14 TX14 14
theorem nmX14 : ∀ a, a < 14 → ∀ b, b < 14 → a ≠ b → (TX14 a).2.1 ≠ (TX14 b).2.1 := by decide +kernel
theorem tyX14_ok : ∀ k, k < 14 → parseFieldDescriptor (TX14 k).2.2.1 = some (tyX14 k) := by decide +kernel
abbrev cX14_init : ByteArray := prog_17_method_1_code
def yX14_init : MethodName := ⟨RX14, "<init>", "([BI)V"⟩
abbrev cX14_isDigit : ByteArray := prog_17_method_2_code
def yX14_isDigit : MethodName := ⟨RX14, "isDigit", "(I)Z"⟩
abbrev cX14_isLetter : ByteArray := prog_17_method_3_code
def yX14_isLetter : MethodName := ⟨RX14, "isLetter", "(I)Z"⟩
abbrev cX14_next : ByteArray := prog_17_method_4_code
def yX14_next : MethodName := ⟨RX14, "next", "()V"⟩
abbrev cX14_word : ByteArray := prog_17_method_5_code
def yX14_word : MethodName := ⟨RX14, "word", "()V"⟩
abbrev cX14_number : ByteArray := prog_17_method_6_code
def yX14_number : MethodName := ⟨RX14, "number", "(Z)V"⟩
abbrev cX14_symbol : ByteArray := prog_17_method_7_code
def yX14_symbol : MethodName := ⟨RX14, "symbol", "(I)V"⟩
abbrev cX14_no : ByteArray := prog_17_method_8_code
def yX14_no : MethodName := ⟨RX14, "no", "()LSpillForgeModel$Wrong;"⟩
abbrev cX14_is : ByteArray := prog_17_method_9_code
def yX14_is : MethodName := ⟨RX14, "is", "(Ljava/lang/String;)Z"⟩
abbrev cX14_want : ByteArray := prog_17_method_10_code
def yX14_want : MethodName := ⟨RX14, "want", "(Ljava/lang/String;)V"⟩
abbrev cX14_want_ : ByteArray := prog_17_method_11_code
def yX14_want_ : MethodName := ⟨RX14, "want", "(I)I"⟩
abbrev cX14_breaks : ByteArray := prog_17_method_12_code
def yX14_breaks : MethodName := ⟨RX14, "breaks", "(II)V"⟩
abbrev cX14_goal : ByteArray := prog_17_method_13_code
def yX14_goal : MethodName := ⟨RX14, "goal", "()I"⟩
abbrev cX14_program : ByteArray := prog_17_method_14_code
def yX14_program : MethodName := ⟨RX14, "program", "(LSpillForgeModel$Code;)V"⟩
abbrev cX14_block : ByteArray := prog_17_method_15_code
def yX14_block : MethodName := ⟨RX14, "block", "(LSpillForgeModel$Code;)V"⟩
abbrev cX14_operand : ByteArray := prog_17_method_16_code
def yX14_operand : MethodName := ⟨RX14, "operand", "(LSpillForgeModel$Row;Z)V"⟩
abbrev cX14_row : ByteArray := prog_17_method_17_code
def yX14_row : MethodName := ⟨RX14, "row", "(LSpillForgeModel$Row;)V"⟩
abbrev cX14_end : ByteArray := prog_17_method_18_code
def yX14_end : MethodName := ⟨RX14, "end", "(LSpillForgeModel$Block;)V"⟩
def RX15 : String := "SpillForgeModel$Row"
def TX15 : u_T := fun k => match k with
  | 0 => ("SpillForgeModel$Row", "op", "I", false)
  | 1 => ("SpillForgeModel$Row", "t", "I", false)
  | 2 => ("SpillForgeModel$Row", "a", "I", false)
  | 3 => ("SpillForgeModel$Row", "b", "I", false)
  | 4 => ("SpillForgeModel$Row", "slot", "I", false)
  | 5 => ("SpillForgeModel$Row", "regA", "Z", false)
  | _ => ("SpillForgeModel$Row", "regB", "Z", false)
def tyX15 : Nat → FieldType := fun k => match k with
  | 0 => .int
  | 1 => .int
  | 2 => .int
  | 3 => .int
  | 4 => .int
  | 5 => .boolean
  | _ => .boolean
abbrev wsX150 : List Cond := u_ws RX15 TX15 7
theorem nmX15 : ∀ a, a < 7 → ∀ b, b < 7 → a ≠ b → (TX15 a).2.1 ≠ (TX15 b).2.1 := by decide +kernel
theorem tyX15_ok : ∀ k, k < 7 → parseFieldDescriptor (TX15 k).2.2.1 = some (tyX15 k) := by decide +kernel
abbrev cX15_init : ByteArray := prog_18_method_1_code
def yX15_init : MethodName := ⟨RX15, "<init>", "()V"⟩
abbrev cX15_sets : ByteArray := prog_18_method_2_code
def yX15_sets : MethodName := ⟨RX15, "sets", "()Z"⟩
abbrev cX15_usesA : ByteArray := prog_18_method_3_code
def yX15_usesA : MethodName := ⟨RX15, "usesA", "()Z"⟩
abbrev cX15_usesB : ByteArray := prog_18_method_4_code
def yX15_usesB : MethodName := ⟨RX15, "usesB", "()Z"⟩
abbrev cX15_put : ByteArray := prog_18_method_6_code
def yX15_put : MethodName := ⟨RX15, "put", "(LSpillForgeModel$Row;)V"⟩
def RX16 : String := "SpillForgeModel$Wrong"
def TX16 : u_T := fun k => match k with
  | 0 => ("java/lang/Throwable", "cause", "Ljava/lang/Throwable;", false)
  | 1 => ("java/lang/Throwable", "stackTrace", "[Ljava/lang/StackTraceElement;", false)
  | 2 => ("java/lang/Throwable", "suppressedExceptions", "Ljava/util/List;", false)
  | 3 => ("java/lang/Throwable", "detailMessage", "Ljava/lang/String;", false)
  | 4 => ("java/lang/Throwable", "backtrace", "Ljava/lang/Object;", false)
  | 5 => ("java/lang/Throwable", "depth", "I", false)
  | _ => ("SpillForgeModel$Wrong", "place", "I", true)
def tyX16 : Nat → FieldType := fun k => match k with
  | 0 => .object "java/lang/Throwable"
  | 1 => .array (.object "java/lang/StackTraceElement")
  | 2 => .object "java/util/List"
  | 3 => .object "java/lang/String"
  | 4 => .object "java/lang/Object"
  | 5 => .int
  | _ => .int
abbrev wsX160 : List Cond := u_ws RX16 TX16 7
theorem nmX16 : ∀ a, a < 7 → ∀ b, b < 7 → a ≠ b → (TX16 a).2.1 ≠ (TX16 b).2.1 := by decide +kernel
theorem tyX16_ok : ∀ k, k < 7 → parseFieldDescriptor (TX16 k).2.2.1 = some (tyX16 k) := by decide +kernel
abbrev cX16_init : ByteArray := prog_19_method_1_code
def yX16_init : MethodName := ⟨RX16, "<init>", "(I)V"⟩
def RX17 : String := "SpillForgeModel"
def TX17 : u_T := fun k => match k with
  | 0 => ("SpillForgeModel", "live", "[[J", true)
  | 1 => ("SpillForgeModel", "joined", "[[J", true)
  | 2 => ("SpillForgeModel", "now", "[J", true)
  | 3 => ("SpillForgeModel", "stands", "[Z", true)
  | 4 => ("SpillForgeModel", "depth", "[I", true)
  | 5 => ("SpillForgeModel", "weight", "[I", true)
  | 6 => ("SpillForgeModel", "code", "LSpillForgeModel$Code;", false)
  | 7 => ("SpillForgeModel", "given", "LSpillForgeModel$Code;", false)
  | 8 => ("SpillForgeModel", "spare", "LSpillForgeModel$Code;", false)
  | 9 => ("SpillForgeModel", "program", "Z", false)
  | 10 => ("SpillForgeModel", "isGiven", "Z", false)
  | 11 => ("SpillForgeModel", "slots", "I", false)
  | 12 => ("SpillForgeModel", "spilled", "I", false)
  | 13 => ("SpillForgeModel", "merged", "I", false)
  | 14 => ("SpillForgeModel", "temporaries", "I", false)
  | 15 => ("SpillForgeModel", "pile", "[I", true)
  | 16 => ("SpillForgeModel", "left", "[I", true)
  | 17 => ("SpillForgeModel", "colour", "[I", true)
  | 18 => ("SpillForgeModel", "there", "[Z", true)
  | 19 => ("SpillForgeModel", "slotOf", "[I", true)
  | 20 => ("SpillForgeModel", "registers", "[I", true)
  | 21 => ("SpillForgeModel", "slotNow", "[I", true)
  | 22 => ("SpillForgeModel", "shows", "[I", true)
  | 23 => ("SpillForgeModel", "ended", "I", false)
  | 24 => ("SpillForgeModel", "answer", "I", false)
  | 25 => ("SpillForgeModel", "shown", "I", false)
  | 26 => ("SpillForgeModel", "steps", "I", false)
  | 27 => ("SpillForgeModel", "read", "I", false)
  | 28 => ("SpillForgeModel", "input", "[I", false)
  | 29 => ("SpillForgeModel", "words", "Ljava/lang/StringBuilder;", true)
  | 30 => ("SpillForgeModel", "thrown", "I", false)
  | 31 => ("SpillForgeModel", "tape", "[B", true)
  | 32 => ("SpillForgeModel", "size", "I", false)
  | 33 => ("SpillForgeModel", "reason", "I", false)
  | 34 => ("SpillForgeModel", "results", "I", false)
  | _ => ("SpillForgeModel", "result", "[B", false)
def tyX17 : Nat → FieldType := fun k => match k with
  | 0 => .array (.array .long)
  | 1 => .array (.array .long)
  | 2 => .array .long
  | 3 => .array .boolean
  | 4 => .array .int
  | 5 => .array .int
  | 6 => .object "SpillForgeModel$Code"
  | 7 => .object "SpillForgeModel$Code"
  | 8 => .object "SpillForgeModel$Code"
  | 9 => .boolean
  | 10 => .boolean
  | 11 => .int
  | 12 => .int
  | 13 => .int
  | 14 => .int
  | 15 => .array .int
  | 16 => .array .int
  | 17 => .array .int
  | 18 => .array .boolean
  | 19 => .array .int
  | 20 => .array .int
  | 21 => .array .int
  | 22 => .array .int
  | 23 => .int
  | 24 => .int
  | 25 => .int
  | 26 => .int
  | 27 => .int
  | 28 => .array .int
  | 29 => .object "java/lang/StringBuilder"
  | 30 => .int
  | 31 => .array .byte
  | 32 => .int
  | 33 => .int
  | 34 => .int
  | _ => .array .byte
abbrev wsX170 : List Cond := u_ws RX17 TX17 36
theorem nmX17 : ∀ a, a < 36 → ∀ b, b < 36 → a ≠ b → (TX17 a).2.1 ≠ (TX17 b).2.1 := by decide +kernel
theorem tyX17_ok : ∀ k, k < 36 → parseFieldDescriptor (TX17 k).2.2.1 = some (tyX17 k) := by decide +kernel
abbrev cX17_operation : ByteArray := prog_14_method_1_code
def yX17_operation : MethodName := ⟨RX17, "operation", "(Ljava/lang/String;)I"⟩
abbrev cX17_has : ByteArray := prog_14_method_2_code
def yX17_has : MethodName := ⟨RX17, "has", "([JI)Z"⟩
abbrev cX17_set : ByteArray := prog_14_method_3_code
def yX17_set : MethodName := ⟨RX17, "set", "([JI)V"⟩
abbrev cX17_clear : ByteArray := prog_14_method_4_code
def yX17_clear : MethodName := ⟨RX17, "clear", "([JI)V"⟩
abbrev cX17_count : ByteArray := prog_14_method_5_code
def yX17_count : MethodName := ⟨RX17, "count", "([J)I"⟩
abbrev cX17_setOf : ByteArray := prog_14_method_6_code
def yX17_setOf : MethodName := ⟨RX17, "setOf", "(LSpillForgeModel$Row;Z)I"⟩
abbrev cX17_back : ByteArray := prog_14_method_7_code
def yX17_back : MethodName := ⟨RX17, "back", "(LSpillForgeModel$Row;Z)V"⟩
abbrev cX17_behind : ByteArray := prog_14_method_8_code
def yX17_behind : MethodName := ⟨RX17, "behind", "(LSpillForgeModel$Block;)V"⟩
abbrev cX17_findLive : ByteArray := prog_14_method_9_code
def yX17_findLive : MethodName := ⟨RX17, "findLive", "(LSpillForgeModel$Code;Z)V"⟩
abbrev cX17_graph : ByteArray := prog_14_method_10_code
def yX17_graph : MethodName := ⟨RX17, "graph", "(LSpillForgeModel$Code;Z)V"⟩
abbrev cX17_stand : ByteArray := prog_14_method_11_code
def yX17_stand : MethodName := ⟨RX17, "stand", "(LSpillForgeModel$Row;Z)V"⟩
abbrev cX17_reached : ByteArray := prog_14_method_12_code
def yX17_reached : MethodName := ⟨RX17, "reached", "(LSpillForgeModel$Code;I)J"⟩
abbrev cX17_leads : ByteArray := prog_14_method_13_code
def yX17_leads : MethodName := ⟨RX17, "leads", "(LSpillForgeModel$Block;I)Z"⟩
abbrev cX17_findDepth : ByteArray := prog_14_method_14_code
def yX17_findDepth : MethodName := ⟨RX17, "findDepth", "(LSpillForgeModel$Code;)V"⟩
abbrev cX17_weigh : ByteArray := prog_14_method_15_code
def yX17_weigh : MethodName := ⟨RX17, "weigh", "(LSpillForgeModel$Code;)V"⟩
abbrev cX17_zeros : ByteArray := prog_14_method_16_code
def yX17_zeros : MethodName := ⟨RX17, "zeros", "(LSpillForgeModel$Code;)V"⟩
abbrev cX17_merge : ByteArray := prog_14_method_17_code
def yX17_merge : MethodName := ⟨RX17, "merge", "(LSpillForgeModel$Code;I)Z"⟩
abbrev cX17_mayMerge : ByteArray := prog_14_method_18_code
def yX17_mayMerge : MethodName := ⟨RX17, "mayMerge", "(III)Z"⟩
abbrev cX17_rename : ByteArray := prog_14_method_19_code
def yX17_rename : MethodName := ⟨RX17, "rename", "(LSpillForgeModel$Code;II)V"⟩
abbrev cX17_next : ByteArray := prog_14_method_20_code
def yX17_next : MethodName := ⟨RX17, "next", "(I)I"⟩
abbrev cX17_colours : ByteArray := prog_14_method_21_code
def yX17_colours : MethodName := ⟨RX17, "colours", "(I)I"⟩
abbrev cX17_spill : ByteArray := prog_14_method_22_code
def yX17_spill : MethodName := ⟨RX17, "spill", "(LSpillForgeModel$Code;)Z"⟩
abbrev cX17_load : ByteArray := prog_14_method_23_code
def yX17_load : MethodName := ⟨RX17, "load", "(LSpillForgeModel$Code;LSpillForgeModel$Block;II)I"⟩
abbrev cX17_giveAll : ByteArray := prog_14_method_24_code
def yX17_giveAll : MethodName := ⟨RX17, "giveAll", "(LSpillForgeModel$Code;I)I"⟩
abbrev cX17_coloured : ByteArray := prog_14_method_25_code
def yX17_coloured : MethodName := ⟨RX17, "coloured", "(LSpillForgeModel$Row;)V"⟩
abbrev cX17_share : ByteArray := prog_14_method_26_code
def yX17_share : MethodName := ⟨RX17, "share", "(LSpillForgeModel$Code;)V"⟩
abbrev cX17_result : ByteArray := prog_14_method_27_code
def yX17_result : MethodName := ⟨RX17, "result", "(III)J"⟩
abbrev cX17_value : ByteArray := prog_14_method_28_code
def yX17_value : MethodName := ⟨RX17, "value", "(ZI)I"⟩
abbrev cX17_run : ByteArray := prog_14_method_29_code
def yX17_run : MethodName := ⟨RX17, "run", "(LSpillForgeModel$Code;I)I"⟩
abbrev cX17_step : ByteArray := prog_14_method_30_code
def yX17_step : MethodName := ⟨RX17, "step", "(LSpillForgeModel$Row;)I"⟩
abbrev cX17_operand : ByteArray := prog_14_method_31_code
def yX17_operand : MethodName := ⟨RX17, "operand", "(ZI)V"⟩
abbrev cX17_list : ByteArray := prog_14_method_32_code
def yX17_list : MethodName := ⟨RX17, "list", "(LSpillForgeModel$Code;)V"⟩
abbrev cX17_list_ : ByteArray := prog_14_method_33_code
def yX17_list_ : MethodName := ⟨RX17, "list", "(LSpillForgeModel$Row;)V"⟩
abbrev cX17_sign : ByteArray := prog_14_method_34_code
def yX17_sign : MethodName := ⟨RX17, "sign", "(I)V"⟩
abbrev cX17_init : ByteArray := prog_14_method_35_code
def yX17_init : MethodName := ⟨RX17, "<init>", "()V"⟩
abbrev cX17_thrown : ByteArray := prog_14_method_36_code
def yX17_thrown : MethodName := ⟨RX17, "thrown", "()I"⟩
abbrev cX17_no : ByteArray := prog_14_method_37_code
def yX17_no : MethodName := ⟨RX17, "no", "(I)I"⟩
abbrev cX17_feed : ByteArray := prog_14_method_38_code
def yX17_feed : MethodName := ⟨RX17, "feed", "(IIIII)I"⟩
abbrev cX17_word : ByteArray := prog_14_method_39_code
def yX17_word : MethodName := ⟨RX17, "word", "(II)V"⟩
abbrev cX17_end : ByteArray := prog_14_method_40_code
def yX17_end : MethodName := ⟨RX17, "end", "(I)I"⟩
abbrev cX17_text : ByteArray := prog_14_method_41_code
def yX17_text : MethodName := ⟨RX17, "text", "()I"⟩
abbrev cX17_input : ByteArray := prog_14_method_42_code
def yX17_input : MethodName := ⟨RX17, "input", "()I"⟩
abbrev cX17_give : ByteArray := prog_14_method_43_code
def yX17_give : MethodName := ⟨RX17, "give", "(I)I"⟩
abbrev cX17_colourCount : ByteArray := prog_14_method_44_code
def yX17_colourCount : MethodName := ⟨RX17, "colourCount", "()I"⟩
abbrev cX17_count_ : ByteArray := prog_14_method_45_code
def yX17_count_ : MethodName := ⟨RX17, "count", "(I)I"⟩
abbrev cX17_look : ByteArray := prog_14_method_46_code
def yX17_look : MethodName := ⟨RX17, "look", "(II)I"⟩
abbrev cX17_run_ : ByteArray := prog_14_method_47_code
def yX17_run_ : MethodName := ⟨RX17, "run", "(ZI)I"⟩
abbrev cX17_told : ByteArray := prog_14_method_48_code
def yX17_told : MethodName := ⟨RX17, "told", "(I)I"⟩
abbrev cX17_shown : ByteArray := prog_14_method_49_code
def yX17_shown : MethodName := ⟨RX17, "shown", "(I)I"⟩
abbrev cX17_list__ : ByteArray := prog_14_method_50_code
def yX17_list__ : MethodName := ⟨RX17, "list", "(Z)I"⟩
abbrev cX17_word_ : ByteArray := prog_14_method_51_code
def yX17_word_ : MethodName := ⟨RX17, "word", "(I)J"⟩
def RJx145de : String := "java/io/Serializable"
def TJx145de : u_T := fun k => match k with
  | _ => ("", "", "", false)
def tyJx145de : Nat → FieldType := fun k => match k with
  | _ => .int
abbrev wsJx145de0 : List Cond := u_ws RJx145de TJx145de 0
theorem nmJx145de : ∀ a, a < 0 → ∀ b, b < 0 → a ≠ b → (TJx145de a).2.1 ≠ (TJx145de b).2.1 := by decide +kernel
theorem tyJx145de_ok : ∀ k, k < 0 → parseFieldDescriptor (TJx145de k).2.2.1 = some (tyJx145de k) := by decide +kernel
def RJ5 : String := "java/lang/AbstractStringBuilder"
def TJ5 : u_T := fun k => match k with
  | _ => ("", "", "", false)
def tyJ5 : Nat → FieldType := fun k => match k with
  | _ => .int
abbrev wsJ50 : List Cond := u_ws RJ5 TJ5 0
theorem nmJ5 : ∀ a, a < 0 → ∀ b, b < 0 → a ≠ b → (TJ5 a).2.1 ≠ (TJ5 b).2.1 := by decide +kernel
theorem tyJ5_ok : ∀ k, k < 0 → parseFieldDescriptor (TJ5 k).2.2.1 = some (tyJ5 k) := by decide +kernel
abbrev cJ5_init_d00df : ByteArray := prog_21_method_2_code
def yJ5_init_d00df : MethodName := ⟨RJ5, "<init>", "(I)V"⟩
abbrev cJ5_length_8abf5 : ByteArray := prog_21_method_6_code
def yJ5_length_8abf5 : MethodName := ⟨RJ5, "length", "()I"⟩
abbrev cJ5_ensureCapacityInternal_d00df : ByteArray := prog_21_method_9_code
def yJ5_ensureCapacityInternal_d00df : MethodName := ⟨RJ5, "ensureCapacityInternal", "(I)V"⟩
abbrev cJ5_newCapacity_0f7a4 : ByteArray := prog_21_method_10_code
def yJ5_newCapacity_0f7a4 : MethodName := ⟨RJ5, "newCapacity", "(I)I"⟩
abbrev cJ5_inflate_da8c8 : ByteArray := prog_21_method_11_code
def yJ5_inflate_da8c8 : MethodName := ⟨RJ5, "inflate", "()V"⟩
abbrev cJ5_setLength_d00df : ByteArray := prog_21_method_13_code
def yJ5_setLength_d00df : MethodName := ⟨RJ5, "setLength", "(I)V"⟩
abbrev cJ5_charAt_5068e : ByteArray := prog_21_method_14_code
def yJ5_charAt_5068e : MethodName := ⟨RJ5, "charAt", "(I)C"⟩
abbrev cJ5_append_cf1ce : ByteArray := prog_21_method_22_code
def yJ5_append_cf1ce : MethodName := ⟨RJ5, "append", "(Ljava/lang/String;)Ljava/lang/AbstractStringBuilder;"⟩
abbrev cJ5_appendNull_278bc : ByteArray := prog_21_method_26_code
def yJ5_appendNull_278bc : MethodName := ⟨RJ5, "appendNull", "()Ljava/lang/AbstractStringBuilder;"⟩
abbrev cJ5_append_3fe6f : ByteArray := prog_21_method_31_code
def yJ5_append_3fe6f : MethodName := ⟨RJ5, "append", "(C)Ljava/lang/AbstractStringBuilder;"⟩
abbrev cJ5_append_c97b9 : ByteArray := prog_21_method_32_code
def yJ5_append_c97b9 : MethodName := ⟨RJ5, "append", "(I)Ljava/lang/AbstractStringBuilder;"⟩
abbrev cJ5_getValue_6d5f1 : ByteArray := prog_21_method_64_code
def yJ5_getValue_6d5f1 : MethodName := ⟨RJ5, "getValue", "()[B"⟩
abbrev cJ5_isLatin1_aae02 : ByteArray := prog_21_method_68_code
def yJ5_isLatin1_aae02 : MethodName := ⟨RJ5, "isLatin1", "()Z"⟩
abbrev cJ5_inflateIfNeededFor_a7421 : ByteArray := prog_21_method_71_code
def yJ5_inflateIfNeededFor_a7421 : MethodName := ⟨RJ5, "inflateIfNeededFor", "(Ljava/lang/String;)V"⟩
abbrev cJ5_putStringAt_47b60 : ByteArray := prog_21_method_73_code
def yJ5_putStringAt_47b60 : MethodName := ⟨RJ5, "putStringAt", "(ILjava/lang/String;)V"⟩
def RJx00060 : String := "java/lang/ArrayIndexOutOfBoundsException"
def TJx00060 : u_T := fun k => match k with
  | 0 => ("java/lang/Throwable", "backtrace", "Ljava/lang/Object;", false)
  | 1 => ("java/lang/Throwable", "detailMessage", "Ljava/lang/String;", false)
  | 2 => ("java/lang/Throwable", "cause", "Ljava/lang/Throwable;", false)
  | 3 => ("java/lang/Throwable", "stackTrace", "[Ljava/lang/StackTraceElement;", false)
  | 4 => ("java/lang/Throwable", "depth", "I", false)
  | _ => ("java/lang/Throwable", "suppressedExceptions", "Ljava/util/List;", false)
def tyJx00060 : Nat → FieldType := fun k => match k with
  | 0 => .object "java/lang/Object"
  | 1 => .object "java/lang/String"
  | 2 => .object "java/lang/Throwable"
  | 3 => .array (.object "java/lang/StackTraceElement")
  | 4 => .int
  | _ => .object "java/util/List"
abbrev wsJx000600 : List Cond := u_ws RJx00060 TJx00060 6
theorem nmJx00060 : ∀ a, a < 6 → ∀ b, b < 6 → a ≠ b → (TJx00060 a).2.1 ≠ (TJx00060 b).2.1 := by decide +kernel
theorem tyJx00060_ok : ∀ k, k < 6 → parseFieldDescriptor (TJx00060 k).2.2.1 = some (tyJx00060 k) := by decide +kernel
abbrev cJx00060_init_d00df : ByteArray := prog_22_method_3_code
def yJx00060_init_d00df : MethodName := ⟨RJx00060, "<init>", "(I)V"⟩
def RJ11 : String := "java/lang/Character"
def TJ11 : u_T := fun k => match k with
  | _ => ("", "", "", false)
def tyJ11 : Nat → FieldType := fun k => match k with
  | _ => .int
abbrev wsJ110 : List Cond := u_ws RJ11 TJ11 0
theorem nmJ11 : ∀ a, a < 0 → ∀ b, b < 0 → a ≠ b → (TJ11 a).2.1 ≠ (TJ11 b).2.1 := by decide +kernel
theorem tyJ11_ok : ∀ k, k < 0 → parseFieldDescriptor (TJ11 k).2.2.1 = some (tyJ11 k) := by decide +kernel
abbrev cJ11_isValidCodePoint_9a6ad : ByteArray := prog_23_method_11_code
def yJ11_isValidCodePoint_9a6ad : MethodName := ⟨RJ11, "isValidCodePoint", "(I)Z"⟩
abbrev cJ11_highSurrogate_5068e : ByteArray := prog_23_method_28_code
def yJ11_highSurrogate_5068e : MethodName := ⟨RJ11, "highSurrogate", "(I)C"⟩
abbrev cJ11_lowSurrogate_5068e : ByteArray := prog_23_method_29_code
def yJ11_lowSurrogate_5068e : MethodName := ⟨RJ11, "lowSurrogate", "(I)C"⟩
def RJx8e188 : String := "java/lang/Cloneable"
def TJx8e188 : u_T := fun k => match k with
  | _ => ("", "", "", false)
def tyJx8e188 : Nat → FieldType := fun k => match k with
  | _ => .int
abbrev wsJx8e1880 : List Cond := u_ws RJx8e188 TJx8e188 0
theorem nmJx8e188 : ∀ a, a < 0 → ∀ b, b < 0 → a ≠ b → (TJx8e188 a).2.1 ≠ (TJx8e188 b).2.1 := by decide +kernel
theorem tyJx8e188_ok : ∀ k, k < 0 → parseFieldDescriptor (TJx8e188 k).2.2.1 = some (tyJx8e188 k) := by decide +kernel
def RJ6 : String := "java/lang/Integer"
def TJ6 : u_T := fun k => match k with
  | _ => ("", "", "", false)
def tyJ6 : Nat → FieldType := fun k => match k with
  | _ => .int
abbrev wsJ60 : List Cond := u_ws RJ6 TJ6 0
theorem nmJ6 : ∀ a, a < 0 → ∀ b, b < 0 → a ≠ b → (TJ6 a).2.1 ≠ (TJ6 b).2.1 := by decide +kernel
theorem tyJ6_ok : ∀ k, k < 0 → parseFieldDescriptor (TJ6 k).2.2.1 = some (tyJ6 k) := by decide +kernel
abbrev cJ6_getChars_ba4f3 : ByteArray := prog_29_method_12_code
def yJ6_getChars_ba4f3 : MethodName := ⟨RJ6, "getChars", "(II[B)I"⟩
abbrev cJ6_stringSize_0f7a4 : ByteArray := prog_29_method_13_code
def yJ6_stringSize_0f7a4 : MethodName := ⟨RJ6, "stringSize", "(I)I"⟩
abbrev cJ6_numberOfTrailingZeros_0f7a4 : ByteArray := prog_29_method_48_code
def yJ6_numberOfTrailingZeros_0f7a4 : MethodName := ⟨RJ6, "numberOfTrailingZeros", "(I)I"⟩
def RJxab1ab : String := "java/lang/Iterable"
def TJxab1ab : u_T := fun k => match k with
  | _ => ("", "", "", false)
def tyJxab1ab : Nat → FieldType := fun k => match k with
  | _ => .int
abbrev wsJxab1ab0 : List Cond := u_ws RJxab1ab TJxab1ab 0
theorem nmJxab1ab : ∀ a, a < 0 → ∀ b, b < 0 → a ≠ b → (TJxab1ab a).2.1 ≠ (TJxab1ab b).2.1 := by decide +kernel
theorem tyJxab1ab_ok : ∀ k, k < 0 → parseFieldDescriptor (TJxab1ab k).2.2.1 = some (tyJxab1ab k) := by decide +kernel
def RJ13 : String := "java/lang/Long"
def TJ13 : u_T := fun k => match k with
  | _ => ("", "", "", false)
def tyJ13 : Nat → FieldType := fun k => match k with
  | _ => .int
abbrev wsJ130 : List Cond := u_ws RJ13 TJ13 0
theorem nmJ13 : ∀ a, a < 0 → ∀ b, b < 0 → a ≠ b → (TJ13 a).2.1 ≠ (TJ13 b).2.1 := by decide +kernel
theorem tyJ13_ok : ∀ k, k < 0 → parseFieldDescriptor (TJ13 k).2.2.1 = some (tyJ13 k) := by decide +kernel
abbrev cJ13_numberOfTrailingZeros_95d88 : ByteArray := prog_31_method_49_code
def yJ13_numberOfTrailingZeros_95d88 : MethodName := ⟨RJ13, "numberOfTrailingZeros", "(J)I"⟩
abbrev cJ13_bitCount_95d88 : ByteArray := prog_31_method_50_code
def yJ13_bitCount_95d88 : MethodName := ⟨RJ13, "bitCount", "(J)I"⟩
def RJ9 : String := "java/lang/Math"
def TJ9 : u_T := fun k => match k with
  | _ => ("", "", "", false)
def tyJ9 : Nat → FieldType := fun k => match k with
  | _ => .int
abbrev wsJ90 : List Cond := u_ws RJ9 TJ9 0
theorem nmJ9 : ∀ a, a < 0 → ∀ b, b < 0 → a ≠ b → (TJ9 a).2.1 ≠ (TJ9 b).2.1 := by decide +kernel
theorem tyJ9_ok : ∀ k, k < 0 → parseFieldDescriptor (TJ9 k).2.2.1 = some (tyJ9 k) := by decide +kernel
abbrev cJ9_abs_067f4 : ByteArray := prog_32_method_61_code
def yJ9_abs_067f4 : MethodName := ⟨RJ9, "abs", "(J)J"⟩
abbrev cJ9_max_7cf53 : ByteArray := prog_32_method_65_code
def yJ9_max_7cf53 : MethodName := ⟨RJ9, "max", "(II)I"⟩
abbrev cJ9_min_7cf53 : ByteArray := prog_32_method_69_code
def yJ9_min_7cf53 : MethodName := ⟨RJ9, "min", "(II)I"⟩
abbrev cJ9_min_f86c9 : ByteArray := prog_32_method_70_code
def yJ9_min_f86c9 : MethodName := ⟨RJ9, "min", "(JJ)J"⟩
def RJ0 : String := "java/lang/String"
def TJ0 : u_T := fun k => match k with
  | 0 => ("java/lang/String", "value", "[B", true)
  | 1 => ("java/lang/String", "coder", "B", true)
  | 2 => ("java/lang/String", "hash", "I", false)
  | _ => ("java/lang/String", "hashIsZero", "Z", false)
def tyJ0 : Nat → FieldType := fun k => match k with
  | 0 => .array .byte
  | 1 => .byte
  | 2 => .int
  | _ => .boolean
abbrev wsJ00 : List Cond := u_ws RJ0 TJ0 4
theorem nmJ0 : ∀ a, a < 4 → ∀ b, b < 4 → a ≠ b → (TJ0 a).2.1 ≠ (TJ0 b).2.1 := by decide +kernel
theorem tyJ0_ok : ∀ k, k < 4 → parseFieldDescriptor (TJ0 k).2.2.1 = some (tyJ0 k) := by decide +kernel
abbrev cJ0_init_81219 : ByteArray := prog_34_method_53_code
def yJ0_init_81219 : MethodName := ⟨RJ0, "<init>", "(Ljava/lang/StringBuilder;)V"⟩
abbrev cJ0_length_8abf5 : ByteArray := prog_34_method_54_code
def yJ0_length_8abf5 : MethodName := ⟨RJ0, "length", "()I"⟩
abbrev cJ0_charAt_5068e : ByteArray := prog_34_method_56_code
def yJ0_charAt_5068e : MethodName := ⟨RJ0, "charAt", "(I)C"⟩
abbrev cJ0_equals_9ea2d : ByteArray := prog_34_method_66_code
def yJ0_equals_9ea2d : MethodName := ⟨RJ0, "equals", "(Ljava/lang/Object;)Z"⟩
abbrev cJ0_indexOf_0f7a4 : ByteArray := prog_34_method_79_code
def yJ0_indexOf_0f7a4 : MethodName := ⟨RJ0, "indexOf", "(I)I"⟩
abbrev cJ0_indexOf_7cf53 : ByteArray := prog_34_method_80_code
def yJ0_indexOf_7cf53 : MethodName := ⟨RJ0, "indexOf", "(II)I"⟩
abbrev cJ0_indexOf_2f485 : ByteArray := prog_34_method_84_code
def yJ0_indexOf_2f485 : MethodName := ⟨RJ0, "indexOf", "(Ljava/lang/String;)I"⟩
abbrev cJ0_getBytes_840e7 : ByteArray := prog_34_method_147_code
def yJ0_getBytes_840e7 : MethodName := ⟨RJ0, "getBytes", "([BIB)V"⟩
abbrev cJ0_init_db425 : ByteArray := prog_34_method_150_code
def yJ0_init_db425 : MethodName := ⟨RJ0, "<init>", "(Ljava/lang/AbstractStringBuilder;Ljava/lang/Void;)V"⟩
abbrev cJ0_coder_7d493 : ByteArray := prog_34_method_152_code
def yJ0_coder_7d493 : MethodName := ⟨RJ0, "coder", "()B"⟩
abbrev cJ0_isLatin1_aae02 : ByteArray := prog_34_method_154_code
def yJ0_isLatin1_aae02 : MethodName := ⟨RJ0, "isLatin1", "()Z"⟩
abbrev cJ0_checkIndex_df160 : ByteArray := prog_34_method_155_code
def yJ0_checkIndex_df160 : MethodName := ⟨RJ0, "checkIndex", "(II)V"⟩
abbrev cJ0_checkBoundsOffCount_cabcc : ByteArray := prog_34_method_157_code
def yJ0_checkBoundsOffCount_cabcc : MethodName := ⟨RJ0, "checkBoundsOffCount", "(III)I"⟩
abbrev cJ0_checkBoundsBeginEnd_23922 : ByteArray := prog_34_method_158_code
def yJ0_checkBoundsBeginEnd_23922 : MethodName := ⟨RJ0, "checkBoundsBeginEnd", "(III)V"⟩
def RJ4 : String := "java/lang/StringBuilder"
def TJ4 : u_T := fun k => match k with
  | 0 => ("java/lang/AbstractStringBuilder", "value", "[B", false)
  | 1 => ("java/lang/AbstractStringBuilder", "coder", "B", false)
  | 2 => ("java/lang/AbstractStringBuilder", "maybeLatin1", "Z", false)
  | _ => ("java/lang/AbstractStringBuilder", "count", "I", false)
def tyJ4 : Nat → FieldType := fun k => match k with
  | 0 => .array .byte
  | 1 => .byte
  | 2 => .boolean
  | _ => .int
abbrev wsJ40 : List Cond := u_ws RJ4 TJ4 4
theorem nmJ4 : ∀ a, a < 4 → ∀ b, b < 4 → a ≠ b → (TJ4 a).2.1 ≠ (TJ4 b).2.1 := by decide +kernel
theorem tyJ4_ok : ∀ k, k < 4 → parseFieldDescriptor (TJ4 k).2.2.1 = some (tyJ4 k) := by decide +kernel
abbrev cJ4_init_da8c8 : ByteArray := prog_35_method_1_code
def yJ4_init_da8c8 : MethodName := ⟨RJ4, "<init>", "()V"⟩
abbrev cJ4_append_15ec4 : ByteArray := prog_35_method_7_code
def yJ4_append_15ec4 : MethodName := ⟨RJ4, "append", "(Ljava/lang/String;)Ljava/lang/StringBuilder;"⟩
abbrev cJ4_append_cf468 : ByteArray := prog_35_method_14_code
def yJ4_append_cf468 : MethodName := ⟨RJ4, "append", "(C)Ljava/lang/StringBuilder;"⟩
abbrev cJ4_append_bf812 : ByteArray := prog_35_method_15_code
def yJ4_append_bf812 : MethodName := ⟨RJ4, "append", "(I)Ljava/lang/StringBuilder;"⟩
abbrev cJ4_toString_0e30d : ByteArray := prog_35_method_42_code
def yJ4_toString_0e30d : MethodName := ⟨RJ4, "toString", "()Ljava/lang/String;"⟩
abbrev cJ4_charAt_5068e : ByteArray := prog_35_method_88_code
def yJ4_charAt_5068e : MethodName := ⟨RJ4, "charAt", "(I)C"⟩
abbrev cJ4_setLength_d00df : ByteArray := prog_35_method_89_code
def yJ4_setLength_d00df : MethodName := ⟨RJ4, "setLength", "(I)V"⟩
abbrev cJ4_length_8abf5 : ByteArray := prog_35_method_93_code
def yJ4_length_8abf5 : MethodName := ⟨RJ4, "length", "()I"⟩
def RJx7c733 : String := "java/lang/StringIndexOutOfBoundsException"
def TJx7c733 : u_T := fun k => match k with
  | 0 => ("java/lang/Throwable", "backtrace", "Ljava/lang/Object;", false)
  | 1 => ("java/lang/Throwable", "detailMessage", "Ljava/lang/String;", false)
  | 2 => ("java/lang/Throwable", "cause", "Ljava/lang/Throwable;", false)
  | 3 => ("java/lang/Throwable", "stackTrace", "[Ljava/lang/StackTraceElement;", false)
  | 4 => ("java/lang/Throwable", "depth", "I", false)
  | _ => ("java/lang/Throwable", "suppressedExceptions", "Ljava/util/List;", false)
def tyJx7c733 : Nat → FieldType := fun k => match k with
  | 0 => .object "java/lang/Object"
  | 1 => .object "java/lang/String"
  | 2 => .object "java/lang/Throwable"
  | 3 => .array (.object "java/lang/StackTraceElement")
  | 4 => .int
  | _ => .object "java/util/List"
abbrev wsJx7c7330 : List Cond := u_ws RJx7c733 TJx7c733 6
theorem nmJx7c733 : ∀ a, a < 6 → ∀ b, b < 6 → a ≠ b → (TJx7c733 a).2.1 ≠ (TJx7c733 b).2.1 := by decide +kernel
theorem tyJx7c733_ok : ∀ k, k < 6 → parseFieldDescriptor (TJx7c733 k).2.2.1 = some (tyJx7c733 k) := by decide +kernel
abbrev cJx7c733_init_d00df : ByteArray := prog_36_method_3_code
def yJx7c733_init_d00df : MethodName := ⟨RJx7c733, "<init>", "(I)V"⟩
def RJ1 : String := "java/lang/StringLatin1"
def TJ1 : u_T := fun k => match k with
  | _ => ("", "", "", false)
def tyJ1 : Nat → FieldType := fun k => match k with
  | _ => .int
abbrev wsJ10 : List Cond := u_ws RJ1 TJ1 0
theorem nmJ1 : ∀ a, a < 0 → ∀ b, b < 0 → a ≠ b → (TJ1 a).2.1 ≠ (TJ1 b).2.1 := by decide +kernel
theorem tyJ1_ok : ∀ k, k < 0 → parseFieldDescriptor (TJ1 k).2.2.1 = some (tyJ1 k) := by decide +kernel
abbrev cJ1_charAt_3b067 : ByteArray := prog_37_method_2_code
def yJ1_charAt_3b067 : MethodName := ⟨RJ1, "charAt", "([BI)C"⟩
abbrev cJ1_canEncode_fc78d : ByteArray := prog_37_method_3_code
def yJ1_canEncode_fc78d : MethodName := ⟨RJ1, "canEncode", "(C)Z"⟩
abbrev cJ1_canEncode_9a6ad : ByteArray := prog_37_method_4_code
def yJ1_canEncode_9a6ad : MethodName := ⟨RJ1, "canEncode", "(I)Z"⟩
abbrev cJ1_equals_b5fdf : ByteArray := prog_37_method_13_code
def yJ1_equals_b5fdf : MethodName := ⟨RJ1, "equals", "([B[B)Z"⟩
abbrev cJ1_indexOf_4cfef : ByteArray := prog_37_method_22_code
def yJ1_indexOf_4cfef : MethodName := ⟨RJ1, "indexOf", "([BIII)I"⟩
abbrev cJ1_indexOfChar_4cfef : ByteArray := prog_37_method_23_code
def yJ1_indexOfChar_4cfef : MethodName := ⟨RJ1, "indexOfChar", "([BIII)I"⟩
abbrev cJ1_indexOf_b82b6 : ByteArray := prog_37_method_24_code
def yJ1_indexOf_b82b6 : MethodName := ⟨RJ1, "indexOf", "([B[B)I"⟩
abbrev cJ1_indexOf_5af95 : ByteArray := prog_37_method_25_code
def yJ1_indexOf_5af95 : MethodName := ⟨RJ1, "indexOf", "([BI[BII)I"⟩
abbrev cJ1_fillNull_b72d1 : ByteArray := prog_37_method_48_code
def yJ1_fillNull_b72d1 : MethodName := ⟨RJ1, "fillNull", "([BII)V"⟩
abbrev cJ1_inflate_0e8fd : ByteArray := prog_37_method_50_code
def yJ1_inflate_0e8fd : MethodName := ⟨RJ1, "inflate", "([BI[BII)V"⟩
def RJ2 : String := "java/lang/StringUTF16"
def TJ2 : u_T := fun k => match k with
  | _ => ("", "", "", false)
def tyJ2 : Nat → FieldType := fun k => match k with
  | _ => .int
abbrev wsJ20 : List Cond := u_ws RJ2 TJ2 0
theorem nmJ2 : ∀ a, a < 0 → ∀ b, b < 0 → a ≠ b → (TJ2 a).2.1 ≠ (TJ2 b).2.1 := by decide +kernel
theorem tyJ2_ok : ∀ k, k < 0 → parseFieldDescriptor (TJ2 k).2.2.1 = some (tyJ2 k) := by decide +kernel
abbrev cJ2_newBytesFor_77867 : ByteArray := prog_38_method_2_code
def yJ2_newBytesFor_77867 : MethodName := ⟨RJ2, "newBytesFor", "(I)[B"⟩
abbrev cJ2_newBytesLength_0f7a4 : ByteArray := prog_38_method_3_code
def yJ2_newBytesLength_0f7a4 : MethodName := ⟨RJ2, "newBytesLength", "(I)I"⟩
abbrev cJ2_putChar_b72d1 : ByteArray := prog_38_method_4_code
def yJ2_putChar_b72d1 : MethodName := ⟨RJ2, "putChar", "([BII)V"⟩
abbrev cJ2_getChar_3b067 : ByteArray := prog_38_method_5_code
def yJ2_getChar_3b067 : MethodName := ⟨RJ2, "getChar", "([BI)C"⟩
abbrev cJ2_length_9d52b : ByteArray := prog_38_method_6_code
def yJ2_length_9d52b : MethodName := ⟨RJ2, "length", "([B)I"⟩
abbrev cJ2_coderFromArrayLen_85cad : ByteArray := prog_38_method_15_code
def yJ2_coderFromArrayLen_85cad : MethodName := ⟨RJ2, "coderFromArrayLen", "([BI)B"⟩
abbrev cJ2_compress_39247 : ByteArray := prog_38_method_17_code
def yJ2_compress_39247 : MethodName := ⟨RJ2, "compress", "([BII)[B"⟩
abbrev cJ2_compress_5af95 : ByteArray := prog_38_method_22_code
def yJ2_compress_5af95 : MethodName := ⟨RJ2, "compress", "([BI[BII)I"⟩
abbrev cJ2_indexOf_4cfef : ByteArray := prog_38_method_40_code
def yJ2_indexOf_4cfef : MethodName := ⟨RJ2, "indexOf", "([BIII)I"⟩
abbrev cJ2_indexOf_b82b6 : ByteArray := prog_38_method_41_code
def yJ2_indexOf_b82b6 : MethodName := ⟨RJ2, "indexOf", "([B[B)I"⟩
abbrev cJ2_indexOfUnsafe_5af95 : ByteArray := prog_38_method_43_code
def yJ2_indexOfUnsafe_5af95 : MethodName := ⟨RJ2, "indexOfUnsafe", "([BI[BII)I"⟩
abbrev cJ2_indexOfLatin1_b82b6 : ByteArray := prog_38_method_44_code
def yJ2_indexOfLatin1_b82b6 : MethodName := ⟨RJ2, "indexOfLatin1", "([B[B)I"⟩
abbrev cJ2_indexOfLatin1Unsafe_5af95 : ByteArray := prog_38_method_46_code
def yJ2_indexOfLatin1Unsafe_5af95 : MethodName := ⟨RJ2, "indexOfLatin1Unsafe", "([BI[BII)I"⟩
abbrev cJ2_indexOfChar_4cfef : ByteArray := prog_38_method_47_code
def yJ2_indexOfChar_4cfef : MethodName := ⟨RJ2, "indexOfChar", "([BIII)I"⟩
abbrev cJ2_indexOfCharUnsafe_4cfef : ByteArray := prog_38_method_48_code
def yJ2_indexOfCharUnsafe_4cfef : MethodName := ⟨RJ2, "indexOfCharUnsafe", "([BIII)I"⟩
abbrev cJ2_indexOfSupplementary_4cfef : ByteArray := prog_38_method_49_code
def yJ2_indexOfSupplementary_4cfef : MethodName := ⟨RJ2, "indexOfSupplementary", "([BIII)I"⟩
abbrev cJ2_fillNull_b72d1 : ByteArray := prog_38_method_70_code
def yJ2_fillNull_b72d1 : MethodName := ⟨RJ2, "fillNull", "([BII)V"⟩
abbrev cJ2_putCharSB_b72d1 : ByteArray := prog_38_method_71_code
def yJ2_putCharSB_b72d1 : MethodName := ⟨RJ2, "putCharSB", "([BII)V"⟩
abbrev cJ2_getChars_46870 : ByteArray := prog_38_method_77_code
def yJ2_getChars_46870 : MethodName := ⟨RJ2, "getChars", "(III[B)I"⟩
abbrev cJ2_putCharsAt_cd4e5 : ByteArray := prog_38_method_81_code
def yJ2_putCharsAt_cd4e5 : MethodName := ⟨RJ2, "putCharsAt", "([BICCCC)I"⟩
abbrev cJ2_charAt_3b067 : ByteArray := prog_38_method_83_code
def yJ2_charAt_3b067 : MethodName := ⟨RJ2, "charAt", "([BI)C"⟩
abbrev cJ2_inflate_0e8fd : ByteArray := prog_38_method_86_code
def yJ2_inflate_0e8fd : MethodName := ⟨RJ2, "inflate", "([BI[BII)V"⟩
abbrev cJ2_getChars_ba4f3 : ByteArray := prog_38_method_89_code
def yJ2_getChars_ba4f3 : MethodName := ⟨RJ2, "getChars", "(II[B)I"⟩
abbrev cJ2_checkIndex_2214a : ByteArray := prog_38_method_91_code
def yJ2_checkIndex_2214a : MethodName := ⟨RJ2, "checkIndex", "(I[B)V"⟩
abbrev cJ2_checkBoundsBeginEnd_d044e : ByteArray := prog_38_method_93_code
def yJ2_checkBoundsBeginEnd_d044e : MethodName := ⟨RJ2, "checkBoundsBeginEnd", "(II[B)V"⟩
abbrev cJ2_checkBoundsOffCount_d044e : ByteArray := prog_38_method_94_code
def yJ2_checkBoundsOffCount_d044e : MethodName := ⟨RJ2, "checkBoundsOffCount", "(II[B)V"⟩
def RJ10 : String := "java/lang/System"
def TJ10 : u_T := fun k => match k with
  | _ => ("", "", "", false)
def tyJ10 : Nat → FieldType := fun k => match k with
  | _ => .int
abbrev wsJ100 : List Cond := u_ws RJ10 TJ10 0
theorem nmJ10 : ∀ a, a < 0 → ∀ b, b < 0 → a ≠ b → (TJ10 a).2.1 ≠ (TJ10 b).2.1 := by decide +kernel
theorem tyJ10_ok : ∀ k, k < 0 → parseFieldDescriptor (TJ10 k).2.2.1 = some (tyJ10 k) := by decide +kernel
def RJxa1e45 : String := "java/util/AbstractCollection"
def TJxa1e45 : u_T := fun k => match k with
  | _ => ("", "", "", false)
def tyJxa1e45 : Nat → FieldType := fun k => match k with
  | _ => .int
abbrev wsJxa1e450 : List Cond := u_ws RJxa1e45 TJxa1e45 0
theorem nmJxa1e45 : ∀ a, a < 0 → ∀ b, b < 0 → a ≠ b → (TJxa1e45 a).2.1 ≠ (TJxa1e45 b).2.1 := by decide +kernel
theorem tyJxa1e45_ok : ∀ k, k < 0 → parseFieldDescriptor (TJxa1e45 k).2.2.1 = some (tyJxa1e45 k) := by decide +kernel
abbrev cJxa1e45_init_da8c8 : ByteArray := prog_41_method_1_code
def yJxa1e45_init_da8c8 : MethodName := ⟨RJxa1e45, "<init>", "()V"⟩
def RJxc12de : String := "java/util/AbstractList"
def TJxc12de : u_T := fun k => match k with
  | _ => ("", "", "", false)
def tyJxc12de : Nat → FieldType := fun k => match k with
  | _ => .int
abbrev wsJxc12de0 : List Cond := u_ws RJxc12de TJxc12de 0
theorem nmJxc12de : ∀ a, a < 0 → ∀ b, b < 0 → a ≠ b → (TJxc12de a).2.1 ≠ (TJxc12de b).2.1 := by decide +kernel
theorem tyJxc12de_ok : ∀ k, k < 0 → parseFieldDescriptor (TJxc12de k).2.2.1 = some (tyJxc12de k) := by decide +kernel
abbrev cJxc12de_init_da8c8 : ByteArray := prog_42_method_1_code
def yJxc12de_init_da8c8 : MethodName := ⟨RJxc12de, "<init>", "()V"⟩
def RJx4a65c : String := "java/util/ArrayList"
def TJx4a65c : u_T := fun k => match k with
  | 0 => ("java/util/AbstractList", "modCount", "I", false)
  | 1 => ("java/util/ArrayList", "elementData", "[Ljava/lang/Object;", false)
  | _ => ("java/util/ArrayList", "size", "I", false)
def tyJx4a65c : Nat → FieldType := fun k => match k with
  | 0 => .int
  | 1 => .array (.object "java/lang/Object")
  | _ => .int
abbrev wsJx4a65c0 : List Cond := u_ws RJx4a65c TJx4a65c 3
theorem nmJx4a65c : ∀ a, a < 3 → ∀ b, b < 3 → a ≠ b → (TJx4a65c a).2.1 ≠ (TJx4a65c b).2.1 := by decide +kernel
theorem tyJx4a65c_ok : ∀ k, k < 3 → parseFieldDescriptor (TJx4a65c k).2.2.1 = some (tyJx4a65c k) := by decide +kernel
abbrev cJx4a65c_init_da8c8 : ByteArray := prog_43_method_2_code
def yJx4a65c_init_da8c8 : MethodName := ⟨RJx4a65c, "<init>", "()V"⟩
abbrev cJx4a65c_grow_92f84 : ByteArray := prog_43_method_6_code
def yJx4a65c_grow_92f84 : MethodName := ⟨RJx4a65c, "grow", "(I)[Ljava/lang/Object;"⟩
abbrev cJx4a65c_grow_d5877 : ByteArray := prog_43_method_7_code
def yJx4a65c_grow_d5877 : MethodName := ⟨RJx4a65c, "grow", "()[Ljava/lang/Object;"⟩
abbrev cJx4a65c_size_8abf5 : ByteArray := prog_43_method_8_code
def yJx4a65c_size_8abf5 : MethodName := ⟨RJx4a65c, "size", "()I"⟩
abbrev cJx4a65c_elementData_915e3 : ByteArray := prog_43_method_18_code
def yJx4a65c_elementData_915e3 : MethodName := ⟨RJx4a65c, "elementData", "(I)Ljava/lang/Object;"⟩
abbrev cJx4a65c_get_915e3 : ByteArray := prog_43_method_20_code
def yJx4a65c_get_915e3 : MethodName := ⟨RJx4a65c, "get", "(I)Ljava/lang/Object;"⟩
abbrev cJx4a65c_add_72be8 : ByteArray := prog_43_method_24_code
def yJx4a65c_add_72be8 : MethodName := ⟨RJx4a65c, "add", "(Ljava/lang/Object;[Ljava/lang/Object;I)V"⟩
abbrev cJx4a65c_add_9ea2d : ByteArray := prog_43_method_25_code
def yJx4a65c_add_9ea2d : MethodName := ⟨RJx4a65c, "add", "(Ljava/lang/Object;)Z"⟩
abbrev cJx4a65c_add_7a177 : ByteArray := prog_43_method_26_code
def yJx4a65c_add_7a177 : MethodName := ⟨RJx4a65c, "add", "(ILjava/lang/Object;)V"⟩
abbrev cJx4a65c_remove_915e3 : ByteArray := prog_43_method_29_code
def yJx4a65c_remove_915e3 : MethodName := ⟨RJx4a65c, "remove", "(I)Ljava/lang/Object;"⟩
abbrev cJx4a65c_fastRemove_b59b0 : ByteArray := prog_43_method_39_code
def yJx4a65c_fastRemove_b59b0 : MethodName := ⟨RJx4a65c, "fastRemove", "([Ljava/lang/Object;I)V"⟩
abbrev cJx4a65c_clear_da8c8 : ByteArray := prog_43_method_40_code
def yJx4a65c_clear_da8c8 : MethodName := ⟨RJx4a65c, "clear", "()V"⟩
abbrev cJx4a65c_rangeCheckForAdd_d00df : ByteArray := prog_43_method_45_code
def yJx4a65c_rangeCheckForAdd_d00df : MethodName := ⟨RJx4a65c, "rangeCheckForAdd", "(I)V"⟩
abbrev cJx4a65c_outOfBoundsMsg_b52d3 : ByteArray := prog_43_method_46_code
def yJx4a65c_outOfBoundsMsg_b52d3 : MethodName := ⟨RJx4a65c, "outOfBoundsMsg", "(I)Ljava/lang/String;"⟩
def RJ7 : String := "java/util/Arrays"
def TJ7 : u_T := fun k => match k with
  | _ => ("", "", "", false)
def tyJ7 : Nat → FieldType := fun k => match k with
  | _ => .int
abbrev wsJ70 : List Cond := u_ws RJ7 TJ7 0
theorem nmJ7 : ∀ a, a < 0 → ∀ b, b < 0 → a ≠ b → (TJ7 a).2.1 ≠ (TJ7 b).2.1 := by decide +kernel
theorem tyJ7_ok : ∀ k, k < 0 → parseFieldDescriptor (TJ7 k).2.2.1 = some (tyJ7 k) := by decide +kernel
abbrev cJ7_rangeCheck_23922 : ByteArray := prog_44_method_30_code
def yJ7_rangeCheck_23922 : MethodName := ⟨RJ7, "rangeCheck", "(III)V"⟩
abbrev cJ7_fill_d0a16 : ByteArray := prog_44_method_101_code
def yJ7_fill_d0a16 : MethodName := ⟨RJ7, "fill", "([JJ)V"⟩
abbrev cJ7_fill_53178 : ByteArray := prog_44_method_103_code
def yJ7_fill_53178 : MethodName := ⟨RJ7, "fill", "([II)V"⟩
abbrev cJ7_fill_eb02e : ByteArray := prog_44_method_110_code
def yJ7_fill_eb02e : MethodName := ⟨RJ7, "fill", "([BIIB)V"⟩
abbrev cJ7_copyOf_1904c : ByteArray := prog_44_method_119_code
def yJ7_copyOf_1904c : MethodName := ⟨RJ7, "copyOf", "([Ljava/lang/Object;I)[Ljava/lang/Object;"⟩
abbrev cJ7_copyOf_6403c : ByteArray := prog_44_method_120_code
def yJ7_copyOf_6403c : MethodName := ⟨RJ7, "copyOf", "([Ljava/lang/Object;ILjava/lang/Class;)[Ljava/lang/Object;"⟩
abbrev cJ7_copyOf_9075b : ByteArray := prog_44_method_121_code
def yJ7_copyOf_9075b : MethodName := ⟨RJ7, "copyOf", "([BI)[B"⟩
abbrev cJ7_copyOf_59c91 : ByteArray := prog_44_method_123_code
def yJ7_copyOf_59c91 : MethodName := ⟨RJ7, "copyOf", "([II)[I"⟩
abbrev cJ7_checkLength_df160 : ByteArray := prog_44_method_131_code
def yJ7_checkLength_df160 : MethodName := ⟨RJ7, "checkLength", "(II)V"⟩
abbrev cJ7_copyOfRange_39247 : ByteArray := prog_44_method_132_code
def yJ7_copyOfRange_39247 : MethodName := ⟨RJ7, "copyOfRange", "([BII)[B"⟩
abbrev cJ7_copyOfRangeByte_39247 : ByteArray := prog_44_method_133_code
def yJ7_copyOfRangeByte_39247 : MethodName := ⟨RJ7, "copyOfRangeByte", "([BII)[B"⟩
def RJx5ef63 : String := "java/util/Collection"
def TJx5ef63 : u_T := fun k => match k with
  | _ => ("", "", "", false)
def tyJx5ef63 : Nat → FieldType := fun k => match k with
  | _ => .int
abbrev wsJx5ef630 : List Cond := u_ws RJx5ef63 TJx5ef63 0
theorem nmJx5ef63 : ∀ a, a < 0 → ∀ b, b < 0 → a ≠ b → (TJx5ef63 a).2.1 ≠ (TJx5ef63 b).2.1 := by decide +kernel
theorem tyJx5ef63_ok : ∀ k, k < 0 → parseFieldDescriptor (TJx5ef63 k).2.2.1 = some (tyJx5ef63 k) := by decide +kernel
def RJxbd725 : String := "java/util/List"
def TJxbd725 : u_T := fun k => match k with
  | _ => ("", "", "", false)
def tyJxbd725 : Nat → FieldType := fun k => match k with
  | _ => .int
abbrev wsJxbd7250 : List Cond := u_ws RJxbd725 TJxbd725 0
theorem nmJxbd725 : ∀ a, a < 0 → ∀ b, b < 0 → a ≠ b → (TJxbd725 a).2.1 ≠ (TJxbd725 b).2.1 := by decide +kernel
theorem tyJxbd725_ok : ∀ k, k < 0 → parseFieldDescriptor (TJxbd725 k).2.2.1 = some (tyJxbd725 k) := by decide +kernel
def RJ15 : String := "java/util/Objects"
def TJ15 : u_T := fun k => match k with
  | _ => ("", "", "", false)
def tyJ15 : Nat → FieldType := fun k => match k with
  | _ => .int
abbrev wsJ150 : List Cond := u_ws RJ15 TJ15 0
theorem nmJ15 : ∀ a, a < 0 → ∀ b, b < 0 → a ≠ b → (TJ15 a).2.1 ≠ (TJ15 b).2.1 := by decide +kernel
theorem tyJ15_ok : ∀ k, k < 0 → parseFieldDescriptor (TJ15 k).2.2.1 = some (tyJ15 k) := by decide +kernel
abbrev cJ15_checkIndex_7cf53 : ByteArray := prog_48_method_17_code
def yJ15_checkIndex_7cf53 : MethodName := ⟨RJ15, "checkIndex", "(II)I"⟩
def RJxf0a74 : String := "java/util/RandomAccess"
def TJxf0a74 : u_T := fun k => match k with
  | _ => ("", "", "", false)
def tyJxf0a74 : Nat → FieldType := fun k => match k with
  | _ => .int
abbrev wsJxf0a740 : List Cond := u_ws RJxf0a74 TJxf0a74 0
theorem nmJxf0a74 : ∀ a, a < 0 → ∀ b, b < 0 → a ≠ b → (TJxf0a74 a).2.1 ≠ (TJxf0a74 b).2.1 := by decide +kernel
theorem tyJxf0a74_ok : ∀ k, k < 0 → parseFieldDescriptor (TJxf0a74 k).2.2.1 = some (tyJxf0a74 k) := by decide +kernel
def RJxa66e6 : String := "java/util/SequencedCollection"
def TJxa66e6 : u_T := fun k => match k with
  | _ => ("", "", "", false)
def tyJxa66e6 : Nat → FieldType := fun k => match k with
  | _ => .int
abbrev wsJxa66e60 : List Cond := u_ws RJxa66e6 TJxa66e6 0
theorem nmJxa66e6 : ∀ a, a < 0 → ∀ b, b < 0 → a ≠ b → (TJxa66e6 a).2.1 ≠ (TJxa66e6 b).2.1 := by decide +kernel
theorem tyJxa66e6_ok : ∀ k, k < 0 → parseFieldDescriptor (TJxa66e6 k).2.2.1 = some (tyJxa66e6 k) := by decide +kernel
def RJ8 : String := "jdk/internal/util/ArraysSupport"
def TJ8 : u_T := fun k => match k with
  | _ => ("", "", "", false)
def tyJ8 : Nat → FieldType := fun k => match k with
  | _ => .int
abbrev wsJ80 : List Cond := u_ws RJ8 TJ8 0
theorem nmJ8 : ∀ a, a < 0 → ∀ b, b < 0 → a ≠ b → (TJ8 a).2.1 ≠ (TJ8 b).2.1 := by decide +kernel
theorem tyJ8_ok : ∀ k, k < 0 → parseFieldDescriptor (TJ8 k).2.2.1 = some (tyJ8 k) := by decide +kernel
abbrev cJ8_newLength_cabcc : ByteArray := prog_51_method_27_code
def yJ8_newLength_cabcc : MethodName := ⟨RJ8, "newLength", "(III)I"⟩
abbrev cJ8_hugeLength_7cf53 : ByteArray := prog_51_method_28_code
def yJ8_hugeLength_7cf53 : MethodName := ⟨RJ8, "hugeLength", "(II)I"⟩
def RJ3 : String := "jdk/internal/util/Preconditions"
def TJ3 : u_T := fun k => match k with
  | _ => ("", "", "", false)
def tyJ3 : Nat → FieldType := fun k => match k with
  | _ => .int
abbrev wsJ30 : List Cond := u_ws RJ3 TJ3 0
theorem nmJ3 : ∀ a, a < 0 → ∀ b, b < 0 → a ≠ b → (TJ3 a).2.1 ≠ (TJ3 b).2.1 := by decide +kernel
theorem tyJ3_ok : ∀ k, k < 0 → parseFieldDescriptor (TJ3 k).2.2.1 = some (tyJ3 k) := by decide +kernel
abbrev cJ3_checkIndex_8e157 : ByteArray := prog_52_method_11_code
def yJ3_checkIndex_8e157 : MethodName := ⟨RJ3, "checkIndex", "(IILjava/util/function/BiFunction;)I"⟩
abbrev cJ3_checkFromToIndex_8c36e : ByteArray := prog_52_method_12_code
def yJ3_checkFromToIndex_8c36e : MethodName := ⟨RJ3, "checkFromToIndex", "(IIILjava/util/function/BiFunction;)I"⟩
abbrev cJ3_checkFromIndexSize_8c36e : ByteArray := prog_52_method_13_code
def yJ3_checkFromIndexSize_8c36e : MethodName := ⟨RJ3, "checkFromIndexSize", "(IIILjava/util/function/BiFunction;)I"⟩
def RL : String := "SpillForgeLaw"
abbrev cL_feed : ByteArray := method_3_code
def yL_feed : MethodName := ⟨RL, "feed", "(LSpillForge;IIIII[J)I"⟩
abbrev cL_end : ByteArray := method_4_code
def yL_end : MethodName := ⟨RL, "end", "(LSpillForge;I[J)I"⟩
abbrev cL_give : ByteArray := method_5_code
def yL_give : MethodName := ⟨RL, "give", "(LSpillForge;I[J)I"⟩
abbrev cL_count : ByteArray := method_6_code
def yL_count : MethodName := ⟨RL, "count", "(LSpillForge;I[J)I"⟩
abbrev cL_look : ByteArray := method_7_code
def yL_look : MethodName := ⟨RL, "look", "(LSpillForge;II[J)I"⟩
abbrev cL_run : ByteArray := method_8_code
def yL_run : MethodName := ⟨RL, "run", "(LSpillForge;ZI[J)I"⟩
abbrev cL_told : ByteArray := method_9_code
def yL_told : MethodName := ⟨RL, "told", "(LSpillForge;I[J)I"⟩
abbrev cL_shown : ByteArray := method_10_code
def yL_shown : MethodName := ⟨RL, "shown", "(LSpillForge;I[J)I"⟩
abbrev cL_list : ByteArray := method_11_code
def yL_list : MethodName := ⟨RL, "list", "(LSpillForge;Z[J)I"⟩
abbrev cL_word : ByteArray := method_12_code
def yL_word : MethodName := ⟨RL, "word", "(LSpillForge;I[J)I"⟩
abbrev cL_law : ByteArray := code
def yL_law : MethodName := ⟨RL, "law", "([I)Z"⟩
def RE_RuntimeException : String := "java/lang/RuntimeException"
abbrev cE_RuntimeException_init4 : ByteArray := prog_33_method_5_code
def yE_RuntimeException_init4 : MethodName := ⟨RE_RuntimeException, "<init>", "(Ljava/lang/String;Ljava/lang/Throwable;ZZ)V"⟩
def RE_Exception : String := "java/lang/Exception"
abbrev cE_Exception_init4 : ByteArray := prog_25_method_5_code
def yE_Exception_init4 : MethodName := ⟨RE_Exception, "<init>", "(Ljava/lang/String;Ljava/lang/Throwable;ZZ)V"⟩
def RE_Throwable : String := "java/lang/Throwable"
abbrev cE_Throwable_init4 : ByteArray := prog_40_method_5_code
def yE_Throwable_init4 : MethodName := ⟨RE_Throwable, "<init>", "(Ljava/lang/String;Ljava/lang/Throwable;ZZ)V"⟩
abbrev vwCl : List vw_C := [(RJ0, TJ0, 4), (RJ4, TJ4, 4), (RJx00060, TJx00060, 6), (RJx7c733, TJx7c733, 6), (RJx4a65c, TJx4a65c, 3), (RX0, TX0, 12), (RX1, TX1, 8), (RX2, TX2, 16), (RX3, TX3, 6), (RX4, TX4, 2), (RX5, TX5, 7), (RX6, TX6, 3), (RX7, TX7, 11), (RX8, TX8, 12), (RX9, TX9, 5), (RX10, TX10, 2), (RX11, TX11, 8), (RX12, TX12, 4), (RX13, TX13, 4), (RX14, TX14, 14), (RX15, TX15, 7), (RX16, TX16, 7), (RX17, TX17, 36)]
end
section
/-! G: the frame of a method at pc, its locals L, its stack st, its world ws (cells by list), cs cells of sl slots new since its entry; the machine around it is hidden. A rule an instruction. -/
abbrev gEnv : Type := va_G × List vw_C × List (ClassId × FieldType) × ((Nat → Prop) → State → Heap → Prop) × List Cond
abbrev gKey : Type := ByteArray × Nat × String × Option FieldType × List ExceptionTableEntry × String × (State → (Nat → Prop) → Prop)
abbrev gFin : Type := List Frame → Array Value → State → (Nat → Prop) → State → Prop
def gC (v : gEnv) (k : gKey) (A : Nat → Prop) (p : Program) (l : Launch) (s : State) (m : MethodId) (args : Array Value) (meth : Method) (c : Code) : Prop :=
  p.tables.exec = Jvm.exec ∧ c.code = k.1 ∧ c.maxLocals = k.2.1 ∧ s.vm.findClass k.2.2.1 = some m.cls ∧ meth.sig.returnType = k.2.2.2.1 ∧ c.exceptionTable.toList = k.2.2.2.2.1 ∧ meth.name = k.2.2.2.2.2.1 ∧
  (∀ w ∈ v.2.2.2.2, w.before args s = true) ∧ meth.locks = false ∧ va_K v.1 v.2.1 v.2.2.1 s ∧ (∀ q, s.heap.size ≤ q → A q) ∧ v.2.2.2.1 A s s.heap ∧ l.stackTraces = false ∧ k.2.2.2.2.2.2 s A
def G (v : gEnv) (l : Launch) (R : Room) (Qf : gFin) (k : gKey) (pc : Nat) (L : List (Nat × Value)) (st : List Value) (ws : va_W) (cs sl : Nat) : Prop :=
  ∀ (p : Program) (e : Env) (s : State) (m : MethodId) (args : Array Value) (below : List Frame) (meth : Method) (c : Code) (A : Nat → Prop) (H : Heap) (locs : List Loc) (ls : Array Slot),
    gC v k A p l s m args meth c → va_P v.1 v.2.1 ws H → va_D A ws → va_S A s.heap H locs → lv_has ls k.2.1 L → W p l e R s m args below meth c H locs cs sl (Qf below args s A) (F0 m pc ls st)
section GR
variable {v : gEnv} {l : Launch} {R : Room} {Qf : gFin} {k : gKey} {pc : Nat} {L L' : List (Nat × Value)} {st : List Value} {ws : va_W} {cs sl : Nat}
theorem G_iconst {i : Int} (x : Int32) (d : decode k.1 pc = .ok (.iconst i, 1)) (h : Int32.ofInt i = x) (n : G v l R Qf k (pc + 1) L (.int x :: st) ws cs sl) : G v l R Qf k pc L (st) ws cs sl := fun p e s m args below meth c A H locs ls C hP hD hS hl => lv_iconst C.1 C.2.1 d h (n p e s m args below meth c A H locs ls C hP hD hS hl)
theorem G_bipush {i : Int} (x : Int32) (d : decode k.1 pc = .ok (.bipush i, 2)) (h : (Int8.ofInt i).toInt32 = x) (n : G v l R Qf k (pc + 2) L (.int x :: st) ws cs sl) : G v l R Qf k pc L (st) ws cs sl := fun p e s m args below meth c A H locs ls C hP hD hS hl => lv_bipush C.1 C.2.1 d h (n p e s m args below meth c A H locs ls C hP hD hS hl)
theorem G_sipush {i : Int} (x : Int32) (d : decode k.1 pc = .ok (.sipush i, 3)) (h : (Int16.ofInt i).toInt32 = x) (n : G v l R Qf k (pc + 3) L (.int x :: st) ws cs sl) : G v l R Qf k pc L (st) ws cs sl := fun p e s m args below meth c A H locs ls C hP hD hS hl => lv_sipush C.1 C.2.1 d h (n p e s m args below meth c A H locs ls C hP hD hS hl)
theorem G_lconst {i : Fin 2} (x : Int64) (d : decode k.1 pc = .ok (.lconst i, 1)) (h : Int64.ofNat (i : Nat) = x) (n : G v l R Qf k (pc + 1) L (.long x :: st) ws cs sl) : G v l R Qf k pc L (st) ws cs sl := fun p e s m args below meth c A H locs ls C hP hD hS hl => lv_lconst C.1 C.2.1 d h (n p e s m args below meth c A H locs ls C hP hD hS hl)
theorem G_null  (d : decode k.1 pc = .ok (.aconst_null, 1)) (n : G v l R Qf k (pc + 1) L (.null :: st) ws cs sl) : G v l R Qf k pc L (st) ws cs sl := fun p e s m args below meth c A H locs ls C hP hD hS hl => lv_null C.1 C.2.1 d (n p e s m args below meth c A H locs ls C hP hD hS hl)
theorem G_ldc {i : Nat} (x : Int32) (d : decode k.1 pc = .ok (.ldc i, 2)) (h : Cond.constant k.2.2.1 i x ∈ v.2.2.2.2) (n : G v l R Qf k (pc + 2) L (.int x :: st) ws cs sl) : G v l R Qf k pc L (st) ws cs sl := fun p e s m args below meth c A H locs ls C hP hD hS hl => lv_ldc C.1 C.2.1 C.2.2.2.1 (C.2.2.2.2.2.2.2.1 _ h) d (n p e s m args below meth c A H locs ls C hP hD hS hl)
theorem G_ldcw {i : Nat} (x : Int32) (d : decode k.1 pc = .ok (.ldc_w i, 3)) (h : Cond.constant k.2.2.1 i x ∈ v.2.2.2.2) (n : G v l R Qf k (pc + 3) L (.int x :: st) ws cs sl) : G v l R Qf k pc L (st) ws cs sl := fun p e s m args below meth c A H locs ls C hP hD hS hl => lv_ldcw C.1 C.2.1 C.2.2.2.1 (C.2.2.2.2.2.2.2.1 _ h) d (n p e s m args below meth c A H locs ls C hP hD hS hl)
theorem G_ldc2 {i : Nat} (x : Int64) (d : decode k.1 pc = .ok (.ldc2_w i, 3)) (h : Cond.constantLong k.2.2.1 i x ∈ v.2.2.2.2) (n : G v l R Qf k (pc + 3) L (.long x :: st) ws cs sl) : G v l R Qf k pc L (st) ws cs sl := fun p e s m args below meth c A H locs ls C hP hD hS hl => lv_ldc2 C.1 C.2.1 C.2.2.2.1 (C.2.2.2.2.2.2.2.1 _ h) d (n p e s m args below meth c A H locs ls C hP hD hS hl)
theorem G_iload_n {i : Fin 4} {x : Int32} (j : Nat) (d : decode k.1 pc = .ok (.iload_n i, 1)) (h : L[j]? = some ((i : Nat), .int x)) (n : G v l R Qf k (pc + 1) L (.int x :: st) ws cs sl) : G v l R Qf k pc L (st) ws cs sl := fun p e s m args below meth c A H locs ls C hP hD hS hl => lv_iload_n C.1 C.2.1 d rfl (lv_at hl j h) (n p e s m args below meth c A H locs ls C hP hD hS hl)
theorem G_iload {i : Nat} {x : Int32} (j : Nat) (d : decode k.1 pc = .ok (.iload i, 2)) (h : L[j]? = some (i, .int x)) (n : G v l R Qf k (pc + 2) L (.int x :: st) ws cs sl) : G v l R Qf k pc L (st) ws cs sl := fun p e s m args below meth c A H locs ls C hP hD hS hl => lv_iload C.1 C.2.1 d (lv_at hl j h) (n p e s m args below meth c A H locs ls C hP hD hS hl)
theorem G_lload_n {i : Fin 4} {x : Int64} (j : Nat) (d : decode k.1 pc = .ok (.lload_n i, 1)) (h : L[j]? = some ((i : Nat), .long x)) (n : G v l R Qf k (pc + 1) L (.long x :: st) ws cs sl) : G v l R Qf k pc L (st) ws cs sl := fun p e s m args below meth c A H locs ls C hP hD hS hl => lv_lload_n C.1 C.2.1 d rfl (lv_at hl j h) (n p e s m args below meth c A H locs ls C hP hD hS hl)
theorem G_lload {i : Nat} {x : Int64} (j : Nat) (d : decode k.1 pc = .ok (.lload i, 2)) (h : L[j]? = some (i, .long x)) (n : G v l R Qf k (pc + 2) L (.long x :: st) ws cs sl) : G v l R Qf k pc L (st) ws cs sl := fun p e s m args below meth c A H locs ls C hP hD hS hl => lv_lload C.1 C.2.1 d (lv_at hl j h) (n p e s m args below meth c A H locs ls C hP hD hS hl)
theorem G_aload_n {i : Fin 4} {x : Nat} (j : Nat) (d : decode k.1 pc = .ok (.aload_n i, 1)) (h : L[j]? = some ((i : Nat), .ref x)) (n : G v l R Qf k (pc + 1) L (.ref x :: st) ws cs sl) : G v l R Qf k pc L (st) ws cs sl := fun p e s m args below meth c A H locs ls C hP hD hS hl => lv_aload_n C.1 C.2.1 d rfl (lv_at hl j h) (n p e s m args below meth c A H locs ls C hP hD hS hl)
theorem G_aload {i : Nat} {x : Nat} (j : Nat) (d : decode k.1 pc = .ok (.aload i, 2)) (h : L[j]? = some (i, .ref x)) (n : G v l R Qf k (pc + 2) L (.ref x :: st) ws cs sl) : G v l R Qf k pc L (st) ws cs sl := fun p e s m args below meth c A H locs ls C hP hD hS hl => lv_aload C.1 C.2.1 d (lv_at hl j h) (n p e s m args below meth c A H locs ls C hP hD hS hl)
theorem G_aload_nN {i : Fin 4} (j : Nat) (d : decode k.1 pc = .ok (.aload_n i, 1)) (h : L[j]? = some ((i : Nat), .null)) (n : G v l R Qf k (pc + 1) L (.null :: st) ws cs sl) : G v l R Qf k pc L (st) ws cs sl := fun p e s m args below meth c A H locs ls C hP hD hS hl => lv_aload_nN C.1 C.2.1 d rfl (lv_at hl j h) (n p e s m args below meth c A H locs ls C hP hD hS hl)
theorem G_aloadN {i : Nat} (j : Nat) (d : decode k.1 pc = .ok (.aload i, 2)) (h : L[j]? = some (i, .null)) (n : G v l R Qf k (pc + 2) L (.null :: st) ws cs sl) : G v l R Qf k pc L (st) ws cs sl := fun p e s m args below meth c A H locs ls C hP hD hS hl => lv_aloadN C.1 C.2.1 d (lv_at hl j h) (n p e s m args below meth c A H locs ls C hP hD hS hl)
theorem G_istore_n {i : Fin 4} {x : Int32} (d : decode k.1 pc = .ok (.istore_n i, 1)) (hn : (i : Nat) < k.2.1) (h : ((i : Nat), Value.int x) :: L.filter (fun q => !(q.1 == (i : Nat)) && !(q.1 + 1 == (i : Nat) && q.2.category == 2)) = L') (n : G v l R Qf k (pc + 1) L' (st) ws cs sl) : G v l R Qf k pc L (.int x :: st) ws cs sl := fun p e s m args below meth c A H locs ls C hP hD hS hl => lv_istore_n C.1 C.2.1 d rfl hl hn h (fun ls hl => n p e s m args below meth c A H locs ls C hP hD hS hl)
theorem G_istore {i : Nat} {x : Int32} (d : decode k.1 pc = .ok (.istore i, 2)) (hn : i < k.2.1) (h : (i, Value.int x) :: L.filter (fun q => !(q.1 == i) && !(q.1 + 1 == i && q.2.category == 2)) = L') (n : G v l R Qf k (pc + 2) L' (st) ws cs sl) : G v l R Qf k pc L (.int x :: st) ws cs sl := fun p e s m args below meth c A H locs ls C hP hD hS hl => lv_istore C.1 C.2.1 d hl hn h (fun ls hl => n p e s m args below meth c A H locs ls C hP hD hS hl)
theorem G_lstore_n {i : Fin 4} {x : Int64} (d : decode k.1 pc = .ok (.lstore_n i, 1)) (hn : (i : Nat) + 1 < k.2.1) (h : ((i : Nat), Value.long x) :: L.filter (fun q => !(q.1 == (i : Nat)) && (!(q.1 == (i : Nat) + 1) && !(q.1 + 1 == (i : Nat) && q.2.category == 2))) = L') (n : G v l R Qf k (pc + 1) L' (st) ws cs sl) : G v l R Qf k pc L (.long x :: st) ws cs sl := fun p e s m args below meth c A H locs ls C hP hD hS hl => lv_lstore_n C.1 C.2.1 d rfl hl hn h (fun ls hl => n p e s m args below meth c A H locs ls C hP hD hS hl)
theorem G_lstore {i : Nat} {x : Int64} (d : decode k.1 pc = .ok (.lstore i, 2)) (hn : i + 1 < k.2.1) (h : (i, Value.long x) :: L.filter (fun q => !(q.1 == i) && (!(q.1 == i + 1) && !(q.1 + 1 == i && q.2.category == 2))) = L') (n : G v l R Qf k (pc + 2) L' (st) ws cs sl) : G v l R Qf k pc L (.long x :: st) ws cs sl := fun p e s m args below meth c A H locs ls C hP hD hS hl => lv_lstore C.1 C.2.1 d hl hn h (fun ls hl => n p e s m args below meth c A H locs ls C hP hD hS hl)
theorem G_astore_n {i : Fin 4} {x : Nat} (d : decode k.1 pc = .ok (.astore_n i, 1)) (hn : (i : Nat) < k.2.1) (h : ((i : Nat), Value.ref x) :: L.filter (fun q => !(q.1 == (i : Nat)) && !(q.1 + 1 == (i : Nat) && q.2.category == 2)) = L') (n : G v l R Qf k (pc + 1) L' (st) ws cs sl) : G v l R Qf k pc L (.ref x :: st) ws cs sl := fun p e s m args below meth c A H locs ls C hP hD hS hl => lv_astore_n C.1 C.2.1 d rfl hl hn h (fun ls hl => n p e s m args below meth c A H locs ls C hP hD hS hl)
theorem G_astore {i : Nat} {x : Nat} (d : decode k.1 pc = .ok (.astore i, 2)) (hn : i < k.2.1) (h : (i, Value.ref x) :: L.filter (fun q => !(q.1 == i) && !(q.1 + 1 == i && q.2.category == 2)) = L') (n : G v l R Qf k (pc + 2) L' (st) ws cs sl) : G v l R Qf k pc L (.ref x :: st) ws cs sl := fun p e s m args below meth c A H locs ls C hP hD hS hl => lv_astore C.1 C.2.1 d hl hn h (fun ls hl => n p e s m args below meth c A H locs ls C hP hD hS hl)
theorem G_astore_nN {i : Fin 4} (d : decode k.1 pc = .ok (.astore_n i, 1)) (hn : (i : Nat) < k.2.1) (h : ((i : Nat), Value.null) :: L.filter (fun q => !(q.1 == (i : Nat)) && !(q.1 + 1 == (i : Nat) && q.2.category == 2)) = L') (n : G v l R Qf k (pc + 1) L' (st) ws cs sl) : G v l R Qf k pc L (.null :: st) ws cs sl := fun p e s m args below meth c A H locs ls C hP hD hS hl => lv_astore_nN C.1 C.2.1 d rfl hl hn h (fun ls hl => n p e s m args below meth c A H locs ls C hP hD hS hl)
theorem G_astoreN {i : Nat} (d : decode k.1 pc = .ok (.astore i, 2)) (hn : i < k.2.1) (h : (i, Value.null) :: L.filter (fun q => !(q.1 == i) && !(q.1 + 1 == i && q.2.category == 2)) = L') (n : G v l R Qf k (pc + 2) L' (st) ws cs sl) : G v l R Qf k pc L (.null :: st) ws cs sl := fun p e s m args below meth c A H locs ls C hP hD hS hl => lv_astoreN C.1 C.2.1 d hl hn h (fun ls hl => n p e s m args below meth c A H locs ls C hP hD hS hl)
theorem G_iinc {i : Nat} {a : Int} {x : Int32} (y : Int32) (j : Nat) (d : decode k.1 pc = .ok (.iinc i a, 3)) (hj : L[j]? = some (i, .int x)) (hv : x + Int32.ofInt a = y) (hn : i < k.2.1) (h : (i, Value.int y) :: L.filter (fun q => !(q.1 == i) && !(q.1 + 1 == i && q.2.category == 2)) = L') (n : G v l R Qf k (pc + 3) L' (st) ws cs sl) : G v l R Qf k pc L (st) ws cs sl := fun p e s m args below meth c A H locs ls C hP hD hS hl => lv_iinc C.1 C.2.1 d hl hj hv hn h (fun ls hl => n p e s m args below meth c A H locs ls C hP hD hS hl)
theorem G_iadd {x y : Int32} (d : decode k.1 pc = .ok (.iadd, 1)) (n : G v l R Qf k (pc + 1) L (.int (x + y) :: st) ws cs sl) : G v l R Qf k pc L (.int y :: .int x :: st) ws cs sl := fun p e s m args below meth c A H locs ls C hP hD hS hl => lv_iadd C.1 C.2.1 d (n p e s m args below meth c A H locs ls C hP hD hS hl)
theorem G_isub {x y : Int32} (d : decode k.1 pc = .ok (.isub, 1)) (n : G v l R Qf k (pc + 1) L (.int (x - y) :: st) ws cs sl) : G v l R Qf k pc L (.int y :: .int x :: st) ws cs sl := fun p e s m args below meth c A H locs ls C hP hD hS hl => lv_isub C.1 C.2.1 d (n p e s m args below meth c A H locs ls C hP hD hS hl)
theorem G_imul {x y : Int32} (d : decode k.1 pc = .ok (.imul, 1)) (n : G v l R Qf k (pc + 1) L (.int (x * y) :: st) ws cs sl) : G v l R Qf k pc L (.int y :: .int x :: st) ws cs sl := fun p e s m args below meth c A H locs ls C hP hD hS hl => lv_imul C.1 C.2.1 d (n p e s m args below meth c A H locs ls C hP hD hS hl)
theorem G_iand {x y : Int32} (d : decode k.1 pc = .ok (.iand, 1)) (n : G v l R Qf k (pc + 1) L (.int (x &&& y) :: st) ws cs sl) : G v l R Qf k pc L (.int y :: .int x :: st) ws cs sl := fun p e s m args below meth c A H locs ls C hP hD hS hl => lv_iand C.1 C.2.1 d (n p e s m args below meth c A H locs ls C hP hD hS hl)
theorem G_ior {x y : Int32} (d : decode k.1 pc = .ok (.ior, 1)) (n : G v l R Qf k (pc + 1) L (.int (x ||| y) :: st) ws cs sl) : G v l R Qf k pc L (.int y :: .int x :: st) ws cs sl := fun p e s m args below meth c A H locs ls C hP hD hS hl => lv_ior C.1 C.2.1 d (n p e s m args below meth c A H locs ls C hP hD hS hl)
theorem G_ixor {x y : Int32} (d : decode k.1 pc = .ok (.ixor, 1)) (n : G v l R Qf k (pc + 1) L (.int (x ^^^ y) :: st) ws cs sl) : G v l R Qf k pc L (.int y :: .int x :: st) ws cs sl := fun p e s m args below meth c A H locs ls C hP hD hS hl => lv_ixor C.1 C.2.1 d (n p e s m args below meth c A H locs ls C hP hD hS hl)
theorem G_idiv {x y : Int32} (d : decode k.1 pc = .ok (.idiv, 1)) (h : ¬ y = 0) (n : G v l R Qf k (pc + 1) L (.int (x / y) :: st) ws cs sl) : G v l R Qf k pc L (.int y :: .int x :: st) ws cs sl := fun p e s m args below meth c A H locs ls C hP hD hS hl => lv_idiv C.1 C.2.1 d h (n p e s m args below meth c A H locs ls C hP hD hS hl)
theorem G_irem {x y : Int32} (d : decode k.1 pc = .ok (.irem, 1)) (h : ¬ y = 0) (n : G v l R Qf k (pc + 1) L (.int (x - x / y * y) :: st) ws cs sl) : G v l R Qf k pc L (.int y :: .int x :: st) ws cs sl := fun p e s m args below meth c A H locs ls C hP hD hS hl => lv_irem C.1 C.2.1 d h (n p e s m args below meth c A H locs ls C hP hD hS hl)
theorem G_ineg {x : Int32} (d : decode k.1 pc = .ok (.ineg, 1)) (n : G v l R Qf k (pc + 1) L (.int (-x) :: st) ws cs sl) : G v l R Qf k pc L (.int x :: st) ws cs sl := fun p e s m args below meth c A H locs ls C hP hD hS hl => lv_ineg C.1 C.2.1 d (n p e s m args below meth c A H locs ls C hP hD hS hl)
theorem G_ladd {x y : Int64} (d : decode k.1 pc = .ok (.ladd, 1)) (n : G v l R Qf k (pc + 1) L (.long (x + y) :: st) ws cs sl) : G v l R Qf k pc L (.long y :: .long x :: st) ws cs sl := fun p e s m args below meth c A H locs ls C hP hD hS hl => lv_ladd C.1 C.2.1 d (n p e s m args below meth c A H locs ls C hP hD hS hl)
theorem G_lsub {x y : Int64} (d : decode k.1 pc = .ok (.lsub, 1)) (n : G v l R Qf k (pc + 1) L (.long (x - y) :: st) ws cs sl) : G v l R Qf k pc L (.long y :: .long x :: st) ws cs sl := fun p e s m args below meth c A H locs ls C hP hD hS hl => lv_lsub C.1 C.2.1 d (n p e s m args below meth c A H locs ls C hP hD hS hl)
theorem G_lmul {x y : Int64} (d : decode k.1 pc = .ok (.lmul, 1)) (n : G v l R Qf k (pc + 1) L (.long (x * y) :: st) ws cs sl) : G v l R Qf k pc L (.long y :: .long x :: st) ws cs sl := fun p e s m args below meth c A H locs ls C hP hD hS hl => lv_lmul C.1 C.2.1 d (n p e s m args below meth c A H locs ls C hP hD hS hl)
theorem G_land {x y : Int64} (d : decode k.1 pc = .ok (.land, 1)) (n : G v l R Qf k (pc + 1) L (.long (x &&& y) :: st) ws cs sl) : G v l R Qf k pc L (.long y :: .long x :: st) ws cs sl := fun p e s m args below meth c A H locs ls C hP hD hS hl => lv_land C.1 C.2.1 d (n p e s m args below meth c A H locs ls C hP hD hS hl)
theorem G_lor {x y : Int64} (d : decode k.1 pc = .ok (.lor, 1)) (n : G v l R Qf k (pc + 1) L (.long (x ||| y) :: st) ws cs sl) : G v l R Qf k pc L (.long y :: .long x :: st) ws cs sl := fun p e s m args below meth c A H locs ls C hP hD hS hl => lv_lor C.1 C.2.1 d (n p e s m args below meth c A H locs ls C hP hD hS hl)
theorem G_lxor {x y : Int64} (d : decode k.1 pc = .ok (.lxor, 1)) (n : G v l R Qf k (pc + 1) L (.long (x ^^^ y) :: st) ws cs sl) : G v l R Qf k pc L (.long y :: .long x :: st) ws cs sl := fun p e s m args below meth c A H locs ls C hP hD hS hl => lv_lxor C.1 C.2.1 d (n p e s m args below meth c A H locs ls C hP hD hS hl)
theorem G_ldiv {x y : Int64} (d : decode k.1 pc = .ok (.ldiv, 1)) (h : ¬ y = 0) (n : G v l R Qf k (pc + 1) L (.long (x / y) :: st) ws cs sl) : G v l R Qf k pc L (.long y :: .long x :: st) ws cs sl := fun p e s m args below meth c A H locs ls C hP hD hS hl => lv_ldiv C.1 C.2.1 d h (n p e s m args below meth c A H locs ls C hP hD hS hl)
theorem G_lrem {x y : Int64} (d : decode k.1 pc = .ok (.lrem, 1)) (h : ¬ y = 0) (n : G v l R Qf k (pc + 1) L (.long (x - x / y * y) :: st) ws cs sl) : G v l R Qf k pc L (.long y :: .long x :: st) ws cs sl := fun p e s m args below meth c A H locs ls C hP hD hS hl => lv_lrem C.1 C.2.1 d h (n p e s m args below meth c A H locs ls C hP hD hS hl)
theorem G_lneg {x : Int64} (d : decode k.1 pc = .ok (.lneg, 1)) (n : G v l R Qf k (pc + 1) L (.long (-x) :: st) ws cs sl) : G v l R Qf k pc L (.long x :: st) ws cs sl := fun p e s m args below meth c A H locs ls C hP hD hS hl => lv_lneg C.1 C.2.1 d (n p e s m args below meth c A H locs ls C hP hD hS hl)
theorem G_ishl {x y : Int32} (d : decode k.1 pc = .ok (.ishl, 1)) (n : G v l R Qf k (pc + 1) L (.int (x <<< (y &&& 31)) :: st) ws cs sl) : G v l R Qf k pc L (.int y :: .int x :: st) ws cs sl := fun p e s m args below meth c A H locs ls C hP hD hS hl => lv_ishl C.1 C.2.1 d (n p e s m args below meth c A H locs ls C hP hD hS hl)
theorem G_ishr {x y : Int32} (d : decode k.1 pc = .ok (.ishr, 1)) (n : G v l R Qf k (pc + 1) L (.int (x >>> (y &&& 31)) :: st) ws cs sl) : G v l R Qf k pc L (.int y :: .int x :: st) ws cs sl := fun p e s m args below meth c A H locs ls C hP hD hS hl => lv_ishr C.1 C.2.1 d (n p e s m args below meth c A H locs ls C hP hD hS hl)
theorem G_iushr {x y : Int32} (d : decode k.1 pc = .ok (.iushr, 1)) (n : G v l R Qf k (pc + 1) L (.int ((x.toUInt32 >>> (y.toUInt32 &&& Int32.toUInt32 31)).toInt32) :: st) ws cs sl) : G v l R Qf k pc L (.int y :: .int x :: st) ws cs sl := fun p e s m args below meth c A H locs ls C hP hD hS hl => lv_iushr C.1 C.2.1 d rfl (n p e s m args below meth c A H locs ls C hP hD hS hl)
theorem G_lshl {x : Int64} {y : Int32} (d : decode k.1 pc = .ok (.lshl, 1)) (n : G v l R Qf k (pc + 1) L (.long (x <<< (y.toInt64 &&& 63)) :: st) ws cs sl) : G v l R Qf k pc L (.int y :: .long x :: st) ws cs sl := fun p e s m args below meth c A H locs ls C hP hD hS hl => lv_lshl C.1 C.2.1 d rfl (n p e s m args below meth c A H locs ls C hP hD hS hl)
theorem G_lshr {x : Int64} {y : Int32} (d : decode k.1 pc = .ok (.lshr, 1)) (n : G v l R Qf k (pc + 1) L (.long (x >>> (y.toInt64 &&& 63)) :: st) ws cs sl) : G v l R Qf k pc L (.int y :: .long x :: st) ws cs sl := fun p e s m args below meth c A H locs ls C hP hD hS hl => lv_lshr C.1 C.2.1 d rfl (n p e s m args below meth c A H locs ls C hP hD hS hl)
theorem G_lushr {x : Int64} {y : Int32} (d : decode k.1 pc = .ok (.lushr, 1)) (n : G v l R Qf k (pc + 1) L (.long ((x.toUInt64 >>> (y.toInt64.toUInt64 &&& Int64.toUInt64 63)).toInt64) :: st) ws cs sl) : G v l R Qf k pc L (.int y :: .long x :: st) ws cs sl := fun p e s m args below meth c A H locs ls C hP hD hS hl => lv_lushr C.1 C.2.1 d rfl (n p e s m args below meth c A H locs ls C hP hD hS hl)
theorem G_i2l {x : Int32} (d : decode k.1 pc = .ok (.i2l, 1)) (n : G v l R Qf k (pc + 1) L (.long x.toInt64 :: st) ws cs sl) : G v l R Qf k pc L (.int x :: st) ws cs sl := fun p e s m args below meth c A H locs ls C hP hD hS hl => lv_i2l C.1 C.2.1 d rfl (n p e s m args below meth c A H locs ls C hP hD hS hl)
theorem G_l2i {x : Int64} (d : decode k.1 pc = .ok (.l2i, 1)) (n : G v l R Qf k (pc + 1) L (.int x.toInt32 :: st) ws cs sl) : G v l R Qf k pc L (.long x :: st) ws cs sl := fun p e s m args below meth c A H locs ls C hP hD hS hl => lv_l2i C.1 C.2.1 d rfl (n p e s m args below meth c A H locs ls C hP hD hS hl)
theorem G_i2b {x : Int32} (d : decode k.1 pc = .ok (.i2b, 1)) (n : G v l R Qf k (pc + 1) L (.int x.toInt8.toInt32 :: st) ws cs sl) : G v l R Qf k pc L (.int x :: st) ws cs sl := fun p e s m args below meth c A H locs ls C hP hD hS hl => lv_i2b C.1 C.2.1 d rfl (n p e s m args below meth c A H locs ls C hP hD hS hl)
theorem G_i2s {x : Int32} (d : decode k.1 pc = .ok (.i2s, 1)) (n : G v l R Qf k (pc + 1) L (.int x.toInt16.toInt32 :: st) ws cs sl) : G v l R Qf k pc L (.int x :: st) ws cs sl := fun p e s m args below meth c A H locs ls C hP hD hS hl => lv_i2s C.1 C.2.1 d rfl (n p e s m args below meth c A H locs ls C hP hD hS hl)
theorem G_i2c {x : Int32} (d : decode k.1 pc = .ok (.i2c, 1)) (n : G v l R Qf k (pc + 1) L (.int (x.toUInt32 % 65536).toInt32 :: st) ws cs sl) : G v l R Qf k pc L (.int x :: st) ws cs sl := fun p e s m args below meth c A H locs ls C hP hD hS hl => lv_i2c C.1 C.2.1 d rfl (n p e s m args below meth c A H locs ls C hP hD hS hl)
theorem G_dup {a : Value} (d : decode k.1 pc = .ok (.dup, 1)) (h0 : a.category = 1) (n : G v l R Qf k (pc + 1) L (a :: a :: st) ws cs sl) : G v l R Qf k pc L (a :: st) ws cs sl := fun p e s m args below meth c A H locs ls C hP hD hS hl => lv_dup C.1 C.2.1 d h0 (n p e s m args below meth c A H locs ls C hP hD hS hl)
theorem G_pop {a : Value} (d : decode k.1 pc = .ok (.pop, 1)) (h0 : a.category = 1) (n : G v l R Qf k (pc + 1) L (st) ws cs sl) : G v l R Qf k pc L (a :: st) ws cs sl := fun p e s m args below meth c A H locs ls C hP hD hS hl => lv_pop C.1 C.2.1 d h0 (n p e s m args below meth c A H locs ls C hP hD hS hl)
theorem G_dup_x1 {a b : Value} (d : decode k.1 pc = .ok (.dup_x1, 1)) (h0 : a.category = 1) (h1 : b.category = 1) (n : G v l R Qf k (pc + 1) L (a :: b :: a :: st) ws cs sl) : G v l R Qf k pc L (a :: b :: st) ws cs sl := fun p e s m args below meth c A H locs ls C hP hD hS hl => lv_dup_x1 C.1 C.2.1 d h0 h1 (n p e s m args below meth c A H locs ls C hP hD hS hl)
theorem G_dup_x2 {a b c0 : Value} (d : decode k.1 pc = .ok (.dup_x2, 1)) (h0 : a.category = 1) (h1 : b.category = 1) (h2 : c0.category = 1) (n : G v l R Qf k (pc + 1) L (a :: b :: c0 :: a :: st) ws cs sl) : G v l R Qf k pc L (a :: b :: c0 :: st) ws cs sl := fun p e s m args below meth c A H locs ls C hP hD hS hl => lv_dup_x2 C.1 C.2.1 d h0 h1 h2 (n p e s m args below meth c A H locs ls C hP hD hS hl)
theorem G_dup2_11 {a b : Value} (d : decode k.1 pc = .ok (.dup2, 1)) (h0 : a.category = 1) (h1 : b.category = 1) (n : G v l R Qf k (pc + 1) L (a :: b :: a :: b :: st) ws cs sl) : G v l R Qf k pc L (a :: b :: st) ws cs sl := fun p e s m args below meth c A H locs ls C hP hD hS hl => lv_dup2_11 C.1 C.2.1 d h0 h1 (n p e s m args below meth c A H locs ls C hP hD hS hl)
theorem G_dup2_2 {a : Value} (d : decode k.1 pc = .ok (.dup2, 1)) (h0 : a.category = 2) (n : G v l R Qf k (pc + 1) L (a :: a :: st) ws cs sl) : G v l R Qf k pc L (a :: st) ws cs sl := fun p e s m args below meth c A H locs ls C hP hD hS hl => lv_dup2_2 C.1 C.2.1 d h0 (n p e s m args below meth c A H locs ls C hP hD hS hl)
theorem G_pop2_2 {a : Value} (d : decode k.1 pc = .ok (.pop2, 1)) (h0 : a.category = 2) (n : G v l R Qf k (pc + 1) L (st) ws cs sl) : G v l R Qf k pc L (a :: st) ws cs sl := fun p e s m args below meth c A H locs ls C hP hD hS hl => lv_pop2_2 C.1 C.2.1 d h0 (n p e s m args below meth c A H locs ls C hP hD hS hl)
theorem G_dup2_x1_2 {a b : Value} (d : decode k.1 pc = .ok (.dup2_x1, 1)) (h0 : a.category = 2) (h1 : b.category = 1) (n : G v l R Qf k (pc + 1) L (a :: b :: a :: st) ws cs sl) : G v l R Qf k pc L (a :: b :: st) ws cs sl := fun p e s m args below meth c A H locs ls C hP hD hS hl => lv_dup2_x1_2 C.1 C.2.1 d h0 h1 (n p e s m args below meth c A H locs ls C hP hD hS hl)
theorem G_dup2_x2_2 {a b c0 : Value} (d : decode k.1 pc = .ok (.dup2_x2, 1)) (h0 : a.category = 2) (h1 : b.category = 1) (h2 : c0.category = 1) (n : G v l R Qf k (pc + 1) L (a :: b :: c0 :: a :: st) ws cs sl) : G v l R Qf k pc L (a :: b :: c0 :: st) ws cs sl := fun p e s m args below meth c A H locs ls C hP hD hS hl => lv_dup2_x2_2 C.1 C.2.1 d h0 h1 h2 (n p e s m args below meth c A H locs ls C hP hD hS hl)
theorem G_if_eq {x : Int32} {o : Int} (tgt : Nat) (d : decode k.1 pc = .ok (.ifCond .eq o, 3)) (ht : (pc : Int) + o = (tgt : Int)) (a : x = 0 → G v l R Qf k tgt L (st) ws cs sl) (n : ¬ x = 0 → G v l R Qf k (pc + 3) L (st) ws cs sl) : G v l R Qf k pc L (.int x :: st) ws cs sl := fun p e s m args below meth c A H locs ls C hP hD hS hl => lv_if_eq C.1 C.2.1 d ht (fun q => a q p e s m args below meth c A H locs ls C hP hD hS hl) (fun q => n q p e s m args below meth c A H locs ls C hP hD hS hl)
theorem G_if_ne {x : Int32} {o : Int} (tgt : Nat) (d : decode k.1 pc = .ok (.ifCond .ne o, 3)) (ht : (pc : Int) + o = (tgt : Int)) (a : ¬ x = 0 → G v l R Qf k tgt L (st) ws cs sl) (n : x = 0 → G v l R Qf k (pc + 3) L (st) ws cs sl) : G v l R Qf k pc L (.int x :: st) ws cs sl := fun p e s m args below meth c A H locs ls C hP hD hS hl => lv_if_ne C.1 C.2.1 d ht (fun q => a q p e s m args below meth c A H locs ls C hP hD hS hl) (fun q => n q p e s m args below meth c A H locs ls C hP hD hS hl)
theorem G_if_lt {x : Int32} {o : Int} (tgt : Nat) (d : decode k.1 pc = .ok (.ifCond .lt o, 3)) (ht : (pc : Int) + o = (tgt : Int)) (a : x < 0 → G v l R Qf k tgt L (st) ws cs sl) (n : ¬ x < 0 → G v l R Qf k (pc + 3) L (st) ws cs sl) : G v l R Qf k pc L (.int x :: st) ws cs sl := fun p e s m args below meth c A H locs ls C hP hD hS hl => lv_if_lt C.1 C.2.1 d ht (fun q => a q p e s m args below meth c A H locs ls C hP hD hS hl) (fun q => n q p e s m args below meth c A H locs ls C hP hD hS hl)
theorem G_if_ge {x : Int32} {o : Int} (tgt : Nat) (d : decode k.1 pc = .ok (.ifCond .ge o, 3)) (ht : (pc : Int) + o = (tgt : Int)) (a : 0 ≤ x → G v l R Qf k tgt L (st) ws cs sl) (n : ¬ 0 ≤ x → G v l R Qf k (pc + 3) L (st) ws cs sl) : G v l R Qf k pc L (.int x :: st) ws cs sl := fun p e s m args below meth c A H locs ls C hP hD hS hl => lv_if_ge C.1 C.2.1 d ht (fun q => a q p e s m args below meth c A H locs ls C hP hD hS hl) (fun q => n q p e s m args below meth c A H locs ls C hP hD hS hl)
theorem G_if_gt {x : Int32} {o : Int} (tgt : Nat) (d : decode k.1 pc = .ok (.ifCond .gt o, 3)) (ht : (pc : Int) + o = (tgt : Int)) (a : 0 < x → G v l R Qf k tgt L (st) ws cs sl) (n : ¬ 0 < x → G v l R Qf k (pc + 3) L (st) ws cs sl) : G v l R Qf k pc L (.int x :: st) ws cs sl := fun p e s m args below meth c A H locs ls C hP hD hS hl => lv_if_gt C.1 C.2.1 d ht (fun q => a q p e s m args below meth c A H locs ls C hP hD hS hl) (fun q => n q p e s m args below meth c A H locs ls C hP hD hS hl)
theorem G_if_le {x : Int32} {o : Int} (tgt : Nat) (d : decode k.1 pc = .ok (.ifCond .le o, 3)) (ht : (pc : Int) + o = (tgt : Int)) (a : x ≤ 0 → G v l R Qf k tgt L (st) ws cs sl) (n : ¬ x ≤ 0 → G v l R Qf k (pc + 3) L (st) ws cs sl) : G v l R Qf k pc L (.int x :: st) ws cs sl := fun p e s m args below meth c A H locs ls C hP hD hS hl => lv_if_le C.1 C.2.1 d ht (fun q => a q p e s m args below meth c A H locs ls C hP hD hS hl) (fun q => n q p e s m args below meth c A H locs ls C hP hD hS hl)
theorem G_icmp_eq {x y : Int32} {o : Int} (tgt : Nat) (d : decode k.1 pc = .ok (.if_icmp .eq o, 3)) (ht : (pc : Int) + o = (tgt : Int)) (a : x = y → G v l R Qf k tgt L (st) ws cs sl) (n : ¬ x = y → G v l R Qf k (pc + 3) L (st) ws cs sl) : G v l R Qf k pc L (.int y :: .int x :: st) ws cs sl := fun p e s m args below meth c A H locs ls C hP hD hS hl => lv_icmp_eq C.1 C.2.1 d ht (fun q => a q p e s m args below meth c A H locs ls C hP hD hS hl) (fun q => n q p e s m args below meth c A H locs ls C hP hD hS hl)
theorem G_icmp_ne {x y : Int32} {o : Int} (tgt : Nat) (d : decode k.1 pc = .ok (.if_icmp .ne o, 3)) (ht : (pc : Int) + o = (tgt : Int)) (a : ¬ x = y → G v l R Qf k tgt L (st) ws cs sl) (n : x = y → G v l R Qf k (pc + 3) L (st) ws cs sl) : G v l R Qf k pc L (.int y :: .int x :: st) ws cs sl := fun p e s m args below meth c A H locs ls C hP hD hS hl => lv_icmp_ne C.1 C.2.1 d ht (fun q => a q p e s m args below meth c A H locs ls C hP hD hS hl) (fun q => n q p e s m args below meth c A H locs ls C hP hD hS hl)
theorem G_icmp_lt {x y : Int32} {o : Int} (tgt : Nat) (d : decode k.1 pc = .ok (.if_icmp .lt o, 3)) (ht : (pc : Int) + o = (tgt : Int)) (a : x < y → G v l R Qf k tgt L (st) ws cs sl) (n : ¬ x < y → G v l R Qf k (pc + 3) L (st) ws cs sl) : G v l R Qf k pc L (.int y :: .int x :: st) ws cs sl := fun p e s m args below meth c A H locs ls C hP hD hS hl => lv_icmp_lt C.1 C.2.1 d ht (fun q => a q p e s m args below meth c A H locs ls C hP hD hS hl) (fun q => n q p e s m args below meth c A H locs ls C hP hD hS hl)
theorem G_icmp_ge {x y : Int32} {o : Int} (tgt : Nat) (d : decode k.1 pc = .ok (.if_icmp .ge o, 3)) (ht : (pc : Int) + o = (tgt : Int)) (a : y ≤ x → G v l R Qf k tgt L (st) ws cs sl) (n : ¬ y ≤ x → G v l R Qf k (pc + 3) L (st) ws cs sl) : G v l R Qf k pc L (.int y :: .int x :: st) ws cs sl := fun p e s m args below meth c A H locs ls C hP hD hS hl => lv_icmp_ge C.1 C.2.1 d ht (fun q => a q p e s m args below meth c A H locs ls C hP hD hS hl) (fun q => n q p e s m args below meth c A H locs ls C hP hD hS hl)
theorem G_icmp_gt {x y : Int32} {o : Int} (tgt : Nat) (d : decode k.1 pc = .ok (.if_icmp .gt o, 3)) (ht : (pc : Int) + o = (tgt : Int)) (a : y < x → G v l R Qf k tgt L (st) ws cs sl) (n : ¬ y < x → G v l R Qf k (pc + 3) L (st) ws cs sl) : G v l R Qf k pc L (.int y :: .int x :: st) ws cs sl := fun p e s m args below meth c A H locs ls C hP hD hS hl => lv_icmp_gt C.1 C.2.1 d ht (fun q => a q p e s m args below meth c A H locs ls C hP hD hS hl) (fun q => n q p e s m args below meth c A H locs ls C hP hD hS hl)
theorem G_icmp_le {x y : Int32} {o : Int} (tgt : Nat) (d : decode k.1 pc = .ok (.if_icmp .le o, 3)) (ht : (pc : Int) + o = (tgt : Int)) (a : x ≤ y → G v l R Qf k tgt L (st) ws cs sl) (n : ¬ x ≤ y → G v l R Qf k (pc + 3) L (st) ws cs sl) : G v l R Qf k pc L (.int y :: .int x :: st) ws cs sl := fun p e s m args below meth c A H locs ls C hP hD hS hl => lv_icmp_le C.1 C.2.1 d ht (fun q => a q p e s m args below meth c A H locs ls C hP hD hS hl) (fun q => n q p e s m args below meth c A H locs ls C hP hD hS hl)
theorem G_goto {o : Int} (tgt : Nat) (d : decode k.1 pc = .ok (.goto o, 3)) (ht : (pc : Int) + o = (tgt : Int)) (n : G v l R Qf k tgt L (st) ws cs sl) : G v l R Qf k pc L (st) ws cs sl := fun p e s m args below meth c A H locs ls C hP hD hS hl => lv_goto C.1 C.2.1 d ht (n p e s m args below meth c A H locs ls C hP hD hS hl)
theorem G_ifnull {x : Nat} {o : Int} (d : decode k.1 pc = .ok (.ifnull o, 3)) (n : G v l R Qf k (pc + 3) L (st) ws cs sl) : G v l R Qf k pc L (.ref x :: st) ws cs sl := fun p e s m args below meth c A H locs ls C hP hD hS hl => lv_ifnull C.1 C.2.1 d (n p e s m args below meth c A H locs ls C hP hD hS hl)
theorem G_ifnonnull {x : Nat} {o : Int} (tgt : Nat) (d : decode k.1 pc = .ok (.ifnonnull o, 3)) (ht : (pc : Int) + o = (tgt : Int)) (n : G v l R Qf k tgt L (st) ws cs sl) : G v l R Qf k pc L (.ref x :: st) ws cs sl := fun p e s m args below meth c A H locs ls C hP hD hS hl => lv_ifnonnull C.1 C.2.1 d ht (n p e s m args below meth c A H locs ls C hP hD hS hl)
theorem G_ifnullN {o : Int} (tgt : Nat) (d : decode k.1 pc = .ok (.ifnull o, 3)) (ht : (pc : Int) + o = (tgt : Int)) (n : G v l R Qf k tgt L (st) ws cs sl) : G v l R Qf k pc L (.null :: st) ws cs sl := fun p e s m args below meth c A H locs ls C hP hD hS hl => lv_ifnullN C.1 C.2.1 d ht (n p e s m args below meth c A H locs ls C hP hD hS hl)
theorem G_ifnonnullN {o : Int} (d : decode k.1 pc = .ok (.ifnonnull o, 3)) (n : G v l R Qf k (pc + 3) L (st) ws cs sl) : G v l R Qf k pc L (.null :: st) ws cs sl := fun p e s m args below meth c A H locs ls C hP hD hS hl => lv_ifnonnullN C.1 C.2.1 d (n p e s m args below meth c A H locs ls C hP hD hS hl)
theorem G_lookup {df : Int} {ps : Array (Int × Int)} {len : Nat} {x : Int32} {o : Int} (tgt : Nat) (d : decode k.1 pc = .ok (.lookupswitch df ps, len)) (h : (ps.toList.zip (ps.toList.drop 1)).all (fun (a, next) => a.1 < next.1) = true) (ho : Op.lookupswitch.offset ps.toList df x.toInt = o) (ht : (pc : Int) + o = (tgt : Int)) (n : G v l R Qf k tgt L (st) ws cs sl) : G v l R Qf k pc L (.int x :: st) ws cs sl := fun p e s m args below meth c A H locs ls C hP hD hS hl => lv_lookup C.1 C.2.1 d h ho ht (n p e s m args below meth c A H locs ls C hP hD hS hl)
theorem G_tableOut {df lo hi : Int} {offs : Array Int} {len : Nat} {x : Int32} (tgt : Nat) (d : decode k.1 pc = .ok (.tableswitch df lo hi offs, len)) (h : x.toInt < lo ∨ hi < x.toInt) (ht : (pc : Int) + df = (tgt : Int)) (n : G v l R Qf k tgt L (st) ws cs sl) : G v l R Qf k pc L (.int x :: st) ws cs sl := fun p e s m args below meth c A H locs ls C hP hD hS hl => lv_tableOut C.1 C.2.1 d h ht (n p e s m args below meth c A H locs ls C hP hD hS hl)
theorem G_tableIn {df lo hi : Int} {offs : Array Int} {len : Nat} {x : Int32} {o : Int} (tgt : Nat) (d : decode k.1 pc = .ok (.tableswitch df lo hi offs, len)) (h1 : ¬ x.toInt < lo) (h2 : ¬ hi < x.toInt) (ho : offs[(x.toInt - lo).toNat]? = some o) (ht : (pc : Int) + o = (tgt : Int)) (n : G v l R Qf k tgt L (st) ws cs sl) : G v l R Qf k pc L (.int x :: st) ws cs sl := fun p e s m args below meth c A H locs ls C hP hD hS hl => lv_tableIn C.1 C.2.1 d h1 h2 ho ht (n p e s m args below meth c A H locs ls C hP hD hS hl)
end GR
end
section
/-! G: fields, arrays, new cells, returns -/
/-- what the tables say of the class C, number ci: its fields by T, their types by ty -/
def gK (v : gEnv) (ci : Nat) (C : String) (T : u_T) (N : Nat) (ty : Nat → FieldType) : Prop :=
  v.2.1[ci]? = some (C, T, N) ∧ (∀ w ∈ u_ws C T N, w ∈ v.2.2.2.2) ∧ (∀ k, k < N → parseFieldDescriptor (T k).2.2.1 = some (ty k)) ∧ ∀ a, a < N → ∀ b, b < N → a ≠ b → (T a).2.1 ≠ (T b).2.1
theorem g_fm {α β : Type} {f : α → Option β} {is : List α} {w : List β} (h : is.map f = w.map some) : is.filterMap f = w := by
  have h1 : (is.map f).filterMap id = is.filterMap f := by rw [List.filterMap_map]; rfl
  rw [← h1, h, List.filterMap_map]
  exact List.filterMap_some
section GH
variable {v : gEnv} {l : Launch} {R : Room} {Qf : gFin} {k : gKey} {pc : Nat} {L L' : List (Nat × Value)} {st : List Value} {ws ws' : va_W} {cs sl : Nat}
variable {a ci N i : Nat} {fs : List Value} {x : Value} {C ref : String} {T : u_T} {ty : Nat → FieldType}
theorem G_getf (q f : Nat) (d : decode k.1 pc = .ok (.getfield i, 3)) (he : ws[q]? = some (a, .inr (ci, fs))) (hc : gK v ci C T N ty) (hf : f < N) (hl : Cond.fieldLink k.2.2.1 i (T f).1 (T f).2.1 (T f).2.2.1 ∈ v.2.2.2.2) (hx : fs[f]? = some x)
    (n : G v l R Qf k (pc + 3) L (x :: st) ws cs sl) : G v l R Qf k pc L (.ref a :: st) ws cs sl := fun p e s m args below meth c A H locs ls C hP hD hS h => by
  obtain ⟨h1, h2, h3, h4, h5, h6, h7, h8, h9, h10, h11, h12, h13⟩ := id C
  exact va_get h1 h2 h8 hc.2.1 h4 h10 hP q he hc.1 f hf (h8 _ hl) (fun _ z => z) hx d (n p e s m args below meth c A H locs ls C hP hD hS h)
theorem G_getfN {host : String} (q f : Nat) (d : decode k.1 pc = .ok (.getfield i, 3)) (he : ws[q]? = some (a, .inr (ci, fs))) (hc : gK v ci C T N ty) (hf : f < N) (hl : ∀ A s H, v.2.2.2.1 A s H → va_Nw (.fieldLinkNest k.2.2.1 i (T f).1 (T f).2.1 (T f).2.2.1 host) s) (hx : fs[f]? = some x)
    (n : G v l R Qf k (pc + 3) L (x :: st) ws cs sl) : G v l R Qf k pc L (.ref a :: st) ws cs sl := fun p e s m args below meth c A H locs ls C hP hD hS h => by
  obtain ⟨h1, h2, h3, h4, h5, h6, h7, h8, h9, h10, h11, h12, h13⟩ := id C
  exact va_getN h1 h2 h8 hc.2.1 h4 h10 hP q he hc.1 f hf (va_Nw.use rfl (hl _ _ _ h12)) (fun _ z => z) hx d (n p e s m args below meth c A H locs ls C hP hD hS h)
theorem G_putf (q f : Nat) (d : decode k.1 pc = .ok (.putfield i, 3)) (he : ws[q]? = some (a, .inr (ci, fs))) (hc : gK v ci C T N ty) (hf : f < N) (hl : Cond.fieldLink k.2.2.1 i (T f).1 (T f).2.1 (T f).2.2.1 ∈ v.2.2.2.2) (hfin : (T f).2.2.2 = false) (hn : narrow (ty f) x = x) (hfit : fits (ty f) x = true) (hlen : f < fs.length)
    (hw : ws.set q (a, .inr (ci, fs.set f x)) = ws') (n : G v l R Qf k (pc + 3) L st ws' cs sl) : G v l R Qf k pc L (x :: .ref a :: st) ws cs sl := fun p e s m args below meth c A H locs ls C hP hD hS h => by
  obtain ⟨h1, h2, h3, h4, h5, h6, h7, h8, h9, h10, h11, h12, h13⟩ := id C
  subst hw
  exact va_put h1 h2 h8 hc.2.1 ty hc.2.2.1 hc.2.2.2 h4 h10 hP hD hS q he hc.1 f hf (h8 _ hl) (fun _ z => z) hfin (hc.2.2.1 f hf) hn hfit hlen d (fun H1 locs1 hP hD hS => n p e s m args below meth c A H1 locs1 ls C hP hD hS h)
theorem G_putfN {host : String} (q f : Nat) (d : decode k.1 pc = .ok (.putfield i, 3)) (he : ws[q]? = some (a, .inr (ci, fs))) (hc : gK v ci C T N ty) (hf : f < N) (hl : ∀ A s H, v.2.2.2.1 A s H → va_Nw (.fieldLinkNest k.2.2.1 i (T f).1 (T f).2.1 (T f).2.2.1 host) s) (hfin : (T f).2.2.2 = false) (hn : narrow (ty f) x = x) (hfit : fits (ty f) x = true) (hlen : f < fs.length)
    (hw : ws.set q (a, .inr (ci, fs.set f x)) = ws') (n : G v l R Qf k (pc + 3) L st ws' cs sl) : G v l R Qf k pc L (x :: .ref a :: st) ws cs sl := fun p e s m args below meth c A H locs ls C hP hD hS h => by
  obtain ⟨h1, h2, h3, h4, h5, h6, h7, h8, h9, h10, h11, h12, h13⟩ := id C
  subst hw
  exact va_putN h1 h2 h8 hc.2.1 ty hc.2.2.1 hc.2.2.2 h4 h10 hP hD hS q he hc.1 f hf (va_Nw.use rfl (hl _ _ _ h12)) (fun _ z => z) hfin (hc.2.2.1 f hf) hn hfit hlen d (fun H1 locs1 hP hD hS => n p e s m args below meth c A H1 locs1 ls C hP hD hS h)
/-- a final field, in the constructor of its own class -/
theorem G_putF (q f : Nat) (d : decode k.1 pc = .ok (.putfield i, 3)) (he : ws[q]? = some (a, .inr (ci, fs))) (hc : gK v ci C T N ty) (hf : f < N) (hl : Cond.fieldLink k.2.2.1 i (T f).1 (T f).2.1 (T f).2.2.1 ∈ v.2.2.2.2) (hfin : (T f).2.2.2 = true) (hin : k.2.2.2.2.2.1 = "<init>") (hdc : (T f).1 = k.2.2.1) (hn : narrow (ty f) x = x) (hfit : fits (ty f) x = true) (hlen : f < fs.length)
    (hw : ws.set q (a, .inr (ci, fs.set f x)) = ws') (n : G v l R Qf k (pc + 3) L st ws' cs sl) : G v l R Qf k pc L (x :: .ref a :: st) ws cs sl := fun p e s m args below meth c A H locs ls C hP hD hS h => by
  obtain ⟨h1, h2, h3, h4, h5, h6, h7, h8, h9, h10, h11, h12, h13⟩ := id C
  subst hw
  exact va_putF h1 h2 h8 hc.2.1 ty hc.2.2.1 hc.2.2.2 h4 h10 hP hD hS q he hc.1 f hf (h8 _ hl) (fun _ z => z) hfin (h7.trans hin) hdc (hc.2.2.1 f hf) hn hfit hlen d (fun H1 locs1 hP hD hS => n p e s m args below meth c A H1 locs1 ls C hP hD hS h)
/-- a new object -/
theorem G_new (fs : List Value) (d : decode k.1 pc = .ok (.new i, 3)) (hc : gK v ci C T N ty) (hl : Cond.classLink k.2.2.1 i C ∈ v.2.2.2.2) (hi : Cond.instantiable C N ∈ v.2.2.2.2) (hz : Cond.initialized C ∈ v.2.2.2.2) (hfs : ∀ j, j < N → defaultValue (ty j) = vp_V fs j) (hcs : cs + 1 ≤ R.cells) (hsl : sl + N ≤ R.slots)
    (n : ∀ q : Nat, G v l R Qf k (pc + 3) L (.ref q :: st) (ws ++ [(q, .inr (ci, fs))]) (cs + 1) (sl + N)) : G v l R Qf k pc L st ws cs sl := fun p e s m args below meth c A H locs ls C hP hD hS h => by
  obtain ⟨h1, h2, h3, h4, h5, h6, h7, h8, h9, h10, h11, h12, h13⟩ := id C
  exact va_new h1 h2 h8 hc.2.1 ty hc.2.2.1 h4 (h8 _ hl) (h8 _ hi) (h8 _ hz) h10 hP hD hS h11 hc.1 hfs hcs hsl d (fun q H1 hP hD hS => n q p e s m args below meth c A H1 locs ls C hP hD hS h)
/-- a new array of numbers; its class is the one that the tables name -/
theorem G_newa {atype : ArrayType} {fty : FieldType} {cA : ClassId} {z : Int32} {M : Nat} (t : Nat) (a0 : vp_A) (d : decode k.1 pc = .ok (.newarray atype, 2)) (hty : newarray.typeOf atype = fty) (ht : v.2.2.1[t]? = some (cA, fty)) (hpr : ∀ C, fty ≠ .object C) (hl : Cond.arrayClass fty ∈ v.2.2.2.2)
    (ha : ∀ cA : ClassId, vp_cell cA a0 = arrV cA M (fun _ => defaultValue fty)) (hz : ¬ z < 0) (hM : z.toNatClampNeg = M) (hb : M * componentBytes fty ≤ 536870912) (hcs : cs + 1 ≤ R.cells) (hsl : sl + M ≤ R.slots)
    (n : ∀ q : Nat, G v l R Qf k (pc + 2) L (.ref q :: st) (ws ++ [(q, .inl (cA, a0))]) (cs + 1) (sl + M)) : G v l R Qf k pc L (.int z :: st) ws cs sl := fun p e s m args below meth c A H locs ls C hP hD hS h => by
  obtain ⟨h1, h2, h3, h4, h5, h6, h7, h8, h9, h10, h11, h12, h13⟩ := id C
  subst hty
  refine va_newaK h1 h2 (h8 _ hl) rfl d rfl hz hM hb hcs hsl rfl fun H1 cB e1 z1 o1 hAr hNm => ?_
  have hRA := (h10.2 t _ ht).2
  have hcA : s.vm.findClass ("[" ++ (newarray.typeOf atype).toString) = some cA := by cases atype <;> exact hRA
  have ec : cB = cA := Option.some.inj (hNm.symm.trans hcA)
  subst ec
  have hk : ∀ (j : Nat) (x : Nat × va_E), ws[j]? = some x → H1[x.1]? = H[x.1]? := fun j x hx => o1 x.1 ((hP j x hx).lt)
  refine n H.size p e s m args below meth c A H1 locs ls C ((hP.kept hk).app (fun j x hx => ?_)) (hD.push hP rfl (h11 _ hS.1)) ⟨Nat.le_trans hS.1 (by omega), fun x g1 g2 => (o1 x (Nat.lt_of_lt_of_le g1 hS.1)).trans (hS.2.1 x g1 g2), hS.2.2⟩ h
  have hj : j < 1 := (List.getElem?_eq_some_iff.mp hx).1
  rw [show j = 0 by omega] at hx
  cases hx
  show H1[H.size]? = some (vp_cell _ _)
  rw [ha]
  exact e1
theorem G_alen {cA : ClassId} {b : vp_A} {fty : FieldType} (y : Int32) (q t : Nat) (d : decode k.1 pc = .ok (.arraylength, 1)) (he : ws[q]? = some (a, .inl (cA, b))) (ht : v.2.2.1[t]? = some (cA, fty)) (hy : Int32.ofNat b.1 = y)
    (n : G v l R Qf k (pc + 1) L (.int y :: st) ws cs sl) : G v l R Qf k pc L (.ref a :: st) ws cs sl := fun p e s m args below meth c A H locs ls C hP hD hS h => by
  exact va_alen C.1 C.2.1 C.2.2.2.2.2.2.2.2.2.1 hP q t he ht hy d (n p e s m args below meth c A H locs ls C hP hD hS h)
section ARR
variable {cA : ClassId} {M : Nat} {y z : Int32} {f : Nat → Int32}
theorem G_iald (q t : Nat) (d : decode k.1 pc = .ok (.iaload, 1)) (he : ws[q]? = some (a, .inl (cA, M, .inl f))) (ht : v.2.2.1[t]? = some (cA, .int)) (hin : vp_in y M) (n : G v l R Qf k (pc + 1) L (.int (f y.toNatClampNeg) :: st) ws cs sl) : G v l R Qf k pc L (.int y :: .ref a :: st) ws cs sl := fun p e s m args below meth c A H locs ls C hP hD hS h =>
  va_iald C.1 C.2.1 C.2.2.2.2.2.2.2.2.2.1 hP q t he ht hin d (n p e s m args below meth c A H locs ls C hP hD hS h)
theorem G_bald (q t : Nat) (d : decode k.1 pc = .ok (.baload, 1)) (he : ws[q]? = some (a, .inl (cA, M, .inl f))) (ht : v.2.2.1[t]? = some (cA, .byte)) (hin : vp_in y M) (n : G v l R Qf k (pc + 1) L (.int (f y.toNatClampNeg) :: st) ws cs sl) : G v l R Qf k pc L (.int y :: .ref a :: st) ws cs sl := fun p e s m args below meth c A H locs ls C hP hD hS h =>
  va_bald C.1 C.2.1 C.2.2.2.2.2.2.2.2.2.1 hP q t he ht hin d (n p e s m args below meth c A H locs ls C hP hD hS h)
theorem G_zald (q t : Nat) (d : decode k.1 pc = .ok (.baload, 1)) (he : ws[q]? = some (a, .inl (cA, M, .inl f))) (ht : v.2.2.1[t]? = some (cA, .boolean)) (hin : vp_in y M) (n : G v l R Qf k (pc + 1) L (.int (f y.toNatClampNeg) :: st) ws cs sl) : G v l R Qf k pc L (.int y :: .ref a :: st) ws cs sl := fun p e s m args below meth c A H locs ls C hP hD hS h =>
  va_zald C.1 C.2.1 C.2.2.2.2.2.2.2.2.2.1 hP q t he ht hin d (n p e s m args below meth c A H locs ls C hP hD hS h)
theorem G_lald {g : Nat → Int64} (q t : Nat) (d : decode k.1 pc = .ok (.laload, 1)) (he : ws[q]? = some (a, .inl (cA, M, .inr (.inl g)))) (ht : v.2.2.1[t]? = some (cA, .long)) (hin : vp_in y M) (n : G v l R Qf k (pc + 1) L (.long (g y.toNatClampNeg) :: st) ws cs sl) : G v l R Qf k pc L (.int y :: .ref a :: st) ws cs sl := fun p e s m args below meth c A H locs ls C hP hD hS h =>
  va_lald C.1 C.2.1 C.2.2.2.2.2.2.2.2.2.1 hP q t he ht hin d (n p e s m args below meth c A H locs ls C hP hD hS h)
theorem G_iast (q t : Nat) (d : decode k.1 pc = .ok (.iastore, 1)) (he : ws[q]? = some (a, .inl (cA, M, .inl f))) (ht : v.2.2.1[t]? = some (cA, .int)) (hin : vp_in y M) (hw : ws.set q (a, .inl (cA, M, .inl (upd f y.toNatClampNeg z))) = ws') (n : G v l R Qf k (pc + 1) L st ws' cs sl) : G v l R Qf k pc L (.int z :: .int y :: .ref a :: st) ws cs sl := fun p e s m args below meth c A H locs ls C hP hD hS h => by
  subst hw
  exact va_iast C.1 C.2.1 C.2.2.2.2.2.2.2.2.2.1 hP hD hS q t he ht hin d (fun H1 locs1 hP hD hS => n p e s m args below meth c A H1 locs1 ls C hP hD hS h)
theorem G_bast (q t : Nat) (d : decode k.1 pc = .ok (.bastore, 1)) (he : ws[q]? = some (a, .inl (cA, M, .inl f))) (ht : v.2.2.1[t]? = some (cA, .byte)) (hin : vp_in y M) (hw : ws.set q (a, .inl (cA, M, .inl (upd f y.toNatClampNeg (vp_nar .byte z)))) = ws') (n : G v l R Qf k (pc + 1) L st ws' cs sl) : G v l R Qf k pc L (.int z :: .int y :: .ref a :: st) ws cs sl := fun p e s m args below meth c A H locs ls C hP hD hS h => by
  subst hw
  exact va_bast C.1 C.2.1 C.2.2.2.2.2.2.2.2.2.1 hP hD hS q t he ht hin d (fun H1 locs1 hP hD hS => n p e s m args below meth c A H1 locs1 ls C hP hD hS h)
theorem G_zast (q t : Nat) (d : decode k.1 pc = .ok (.bastore, 1)) (he : ws[q]? = some (a, .inl (cA, M, .inl f))) (ht : v.2.2.1[t]? = some (cA, .boolean)) (hin : vp_in y M) (hw : ws.set q (a, .inl (cA, M, .inl (upd f y.toNatClampNeg (vp_nar .boolean z)))) = ws') (n : G v l R Qf k (pc + 1) L st ws' cs sl) : G v l R Qf k pc L (.int z :: .int y :: .ref a :: st) ws cs sl := fun p e s m args below meth c A H locs ls C hP hD hS h => by
  subst hw
  exact va_zast C.1 C.2.1 C.2.2.2.2.2.2.2.2.2.1 hP hD hS q t he ht hin d (fun H1 locs1 hP hD hS => n p e s m args below meth c A H1 locs1 ls C hP hD hS h)
theorem G_last {g : Nat → Int64} {u : Int64} (q t : Nat) (d : decode k.1 pc = .ok (.lastore, 1)) (he : ws[q]? = some (a, .inl (cA, M, .inr (.inl g)))) (ht : v.2.2.1[t]? = some (cA, .long)) (hin : vp_in y M) (hw : ws.set q (a, .inl (cA, M, .inr (.inl (vp_updL g y.toNatClampNeg u)))) = ws') (n : G v l R Qf k (pc + 1) L st ws' cs sl) : G v l R Qf k pc L (.long u :: .int y :: .ref a :: st) ws cs sl := fun p e s m args below meth c A H locs ls C hP hD hS h => by
  subst hw
  exact va_last C.1 C.2.1 C.2.2.2.2.2.2.2.2.2.1 hP hD hS q t he ht hin d (fun H1 locs1 hP hD hS => n p e s m args below meth c A H1 locs1 ls C hP hD hS h)
end ARR
theorem G_lcmp {y z : Int64} (d : decode k.1 pc = .ok (.lcmp, 1)) (n : G v l R Qf k (pc + 1) L (.int (lg_cmp y z) :: st) ws cs sl) : G v l R Qf k pc L (.long z :: .long y :: st) ws cs sl := fun p e s m args below meth c A H locs ls C hP hD hS h =>
  W.lcmp C.1 C.2.1 d (n p e s m args below meth c A H locs ls C hP hD hS h)
/-- Object.<init> -/
theorem G_obj (d : decode k.1 pc = .ok (.invokespecial i, 3)) (h1 : Cond.methodLink k.2.2.1 i Lib.objectInit ∈ v.2.2.2.2) (h2 : Cond.instanceMethod Lib.objectInit ∈ v.2.2.2.2) (h3 : Cond.code Lib.objectInit ⟨#[0xb1]⟩ 1 none ∈ v.2.2.2.2) (hf : 1 ≤ R.frames) (hlo : (st.map fun u => u.category).sum + 12 ≤ R.locals)
    (n : G v l R Qf k (pc + 3) L st ws cs sl) : G v l R Qf k pc L (.ref a :: st) ws cs sl := fun p e s m args below meth c A H locs ls C hP hD hS h => by
  obtain ⟨g1, g2, g3, g4, g5, g6, g7, g8, g9, g10, g11, g12, g13⟩ := id C
  exact W.objInit g1 g2 g4 (g8 _ h1) (g8 _ h2) (g8 _ h3) rfl (by rw [g3]; exact h.1) rfl d hf (by show 2 * 0 + _ + 12 ≤ _; omega) (n p e s m args below meth c A H locs ls C hP hD hS h)
/-- fewer cells, in any order -/
theorem G_sub (is : List Nat) (hn : va_nd is = true) (hw : is.map (fun i => ws[i]?) = ws'.map some) (n : G v l R Qf k pc L st ws' cs sl) : G v l R Qf k pc L st ws cs sl := fun p e s m args below meth c A H locs ls C hP hD hS h =>
  n p e s m args below meth c A H locs ls C (hP.sub is (g_fm hw)) (hD.sub is hn hw) hS h
/-- fewer listed locals -/
theorem G_lv (js : List Nat) (hw : lv_pick L js = L') (n : G v l R Qf k pc L' st ws cs sl) : G v l R Qf k pc L st ws cs sl := fun p e s m args below meth c A H locs ls C hP hD hS h =>
  n p e s m args below meth c A H locs ls C hP hD hS (lv_sub h js hw)
theorem G_widen {cs' sl' : Nat} (h1 : cs ≤ cs') (h2 : sl ≤ sl') (n : G v l R Qf k pc L st ws cs' sl') : G v l R Qf k pc L st ws cs sl := fun p e s m args below meth c A H locs ls C hP hD hS h =>
  W.widen h1 h2 (n p e s m args below meth c A H locs ls C hP hD hS h)
end GH
end
section
/-! G: contracts, calls, returns, what is thrown -/
/-- what is kept of the start's facts: warmer tables, other cells written, fewer cells free -/
def gOk (v : gEnv) : Prop := (∀ (A : Nat → Prop) (u U : State) (H : Heap), u.WarmedH U.vm → v.2.2.2.1 A u H → v.2.2.2.1 A U H) ∧ (∀ (A : Nat → Prop) (u : State) (H H1 : Heap), (∀ q : Nat, q < H.size → ¬ A q → H1[q]? = H[q]?) → v.2.2.2.1 A u H → v.2.2.2.1 A u H1) ∧
  (∀ (A B : Nat → Prop) (u : State) (H : Heap), (∀ q, B q → A q) → v.2.2.2.1 A u H → v.2.2.2.1 B u H) ∧ ∀ w ∈ v.2.2.2.2, goodWord w = true
def gRm (fr lo mc ms : Nat) : Room := { frames := fr, cells := mc, slots := ms, locals := lo }
def gQ (v : gEnv) (Post : Option Value → va_W → Prop) (A : Nat → Prop) : Array Value → State → Outcome → State → Prop := fun _ st o t => (∃ (r : Option Value) (w : va_W), o = .returned r ∧ Post r w ∧ va_P v.1 v.2.1 w t.heap ∧ va_D A w) ∧ va_F A st t
def gX (v : gEnv) (XP : String → Nat → va_W → Prop) (A : Nat → Prop) : String → Addr → State → State → Prop := fun E q st t => (∃ w : va_W, XP E q w ∧ va_P v.1 v.2.1 w t.heap ∧ va_D A w) ∧ va_F A st t
def gM (v : gEnv) (Post : Option Value → va_W → Prop) (XP : String → Nat → va_W → Prop) (mc ms : Nat) : gFin := fun below args s A => vx_MQ below (gQ v Post A) (gX v XP A) args s mc ms A
def gPre (v : gEnv) (av : List Value) (ws : va_W) (sz : Nat) : Array Value → State → Prop := va_Pc av (fun U => U.heap.size = sz ∧ va_P v.1 v.2.1 ws U.heap ∧ va_K v.1 v.2.1 v.2.2.1 U ∧ va_D (fun _ => True) ws ∧ v.2.2.2.1 (va_A ws sz) U U.heap)
/-- the contract of y (code cc, nL locals, answer ret): called with av in the world ws it returns with Post, or throws with XP; fr frames, lo words of locals, mc cells, ms slots are enough -/
def Ct (v : gEnv) (l : Launch) (y : MethodName) (cc : ByteArray) (nL : Nat) (ret : Option FieldType) (fr lo mc ms : Nat) (av : List Value) (ws : va_W) (Post : Option Value → va_W → Prop) (XP : String → Nat → va_W → Prop) : Prop :=
  ∀ sz : Nat, vx_Met l y (.code y cc nL ret :: v.2.2.2.2) (gRm fr lo mc ms) (gPre v av ws sz) (gQ v Post (va_A ws sz)) (gX v XP (va_A ws sz)) mc ms (va_A ws sz)
/-- nothing is thrown -/
abbrev gN : String → Nat → va_W → Prop := fun _ _ _ => False
def GT (v : gEnv) (l : Launch) (R : Room) (Qf : gFin) (k : gKey) (pc : Nat) (L : List (Nat × Value)) (st : List Value) (E : String) (q : Nat) (ws : va_W) (cs sl : Nat) : Prop :=
  ∀ (p : Program) (e : Env) (s : State) (m : MethodId) (args : Array Value) (below : List Frame) (meth : Method) (c : Code) (A : Nat → Prop) (H : Heap) (locs : List Loc) (ls : Array Slot) (ce : Cell),
    gC v k A p l s m args meth c → va_P v.1 v.2.1 ws H → va_D A ws → va_S A s.heap H locs → lv_has ls k.2.1 L → H[q]? = some ce → ce.vm = .none → s.vm.findClass E = some ce.cls → vx_W p l e R s m args below meth c H locs cs sl (Qf below args s A) (F0 m pc ls st) q
theorem gPre_blind {v : gEnv} (hv : gOk v) (av : List Value) (ws : va_W) (sz : Nat) : FrameBlind (gPre v av ws sz) := by
  intro a U g mk q
  obtain ⟨q0, q1, qP, qK, qD, qE⟩ := q
  refine ⟨q0, q1, qP, va_K.moved (u := U) (U := U.calling g mk a) (Vm.Alike.refl U.vm) qK, qD, ?_⟩
  exact hv.1 _ U (U.calling g mk a) _ (State.WarmedH.refl U) qE
section GE
variable {v : gEnv} {l : Launch} {y : MethodName} {cc : ByteArray} {nL fr lo mc ms : Nat} {ret : Option FieldType} {av : List Value} {ws : va_W} {Post : Option Value → va_W → Prop} {XP : String → Nat → va_W → Prop}
set_option maxHeartbeats 1000000 in
theorem Ct_of (hl0 : l.stackTraces = false) (hy : plainName y.cls = true) (hlen : (lg_sl av).length ≤ nL) (h : G v l (gRm fr lo mc ms) (gM v Post XP mc ms) (cc, nL, y.cls, ret, [], y.name, fun _ _ => True) 0 (lv_args 0 av) [] ws 0 0) :
    Ct v l y cc nL ret fr lo mc ms av ws Post XP := by
  intro sz
  refine vx_ofW (cc := cc) (maxL := nL) (ret := ret) hy rfl ?_
  intro p e s m args below meth c s₁ B hml ht hpre
  obtain ⟨rfl, hsz, hP, hK, hD, hE⟩ := hpre
  subst hsz
  have hts := atoms_spec (ws := .code y cc nL ret :: v.2.2.2.2) B.pre
  have hl := lv_entry av (n := nL) hlen
  rw [lg_entry_eq]
  generalize (lg_sl av ++ List.replicate (nL - (lg_sl av).length) Slot.unset).toArray = ls at hl ⊢
  have ht0 : c.exceptionTable.toList = [] := by
    cases hx : c.exceptionTable.toList with
    | nil => rfl
    | cons x r => exact absurd (by rw [hx]; exact List.mem_cons_self) (fun z => ht x z)
  exact h p e s m av.toArray below meth c (va_A ws s.heap.size) s.heap [] ls ⟨B.exec, B.bytes, hml, findClass_of_methodNamed B.named, B.returns, ht0, (name_of_methodNamed B.named B.method).1, fun w hw => hts w (List.mem_cons_of_mem _ hw), B.notSynchronized, hK, fun q hq => Or.inr hq, hE, hl0, trivial⟩ hP hD.self va_S.rf hl
end GE
section GRet
variable {v : gEnv} {l : Launch} {R : Room} {k : gKey} {pc cs sl mc ms : Nat} {L : List (Nat × Value)} {ws : va_W} {Post : Option Value → va_W → Prop} {XP : String → Nat → va_W → Prop}
theorem G_iret {x : Int32} (d : decode k.1 pc = .ok (.ireturn, 1)) (hr : k.2.2.2.1 = some .int) (h1 : cs ≤ mc) (h2 : sl ≤ ms) (hp : Post (some (.int x)) ws) : G v l R (gM v Post XP mc ms) k pc L [.int x] ws cs sl := fun p e s m args below meth c A H locs ls C hP hD hS h =>
  W.widen h1 h2 (vx_ret (W.iret C.1 C.2.1 (C.2.2.2.2.1.trans hr) (fun t ht hW => ⟨⟨_, ws, rfl, hp, by rw [ht]; exact hP, hD⟩, hS.F ht⟩) hS.2.2 d C.2.2.2.2.2.2.2.2.1))
theorem G_zret {x : Int32} (ty : FieldType) (d : decode k.1 pc = .ok (.ireturn, 1)) (hr : k.2.2.2.1 = some ty) (hx : narrow ty (.int x) = .int x) (h1 : cs ≤ mc) (h2 : sl ≤ ms) (hp : Post (some (.int x)) ws) : G v l R (gM v Post XP mc ms) k pc L [.int x] ws cs sl := fun p e s m args below meth c A H locs ls C hP hD hS h =>
  W.widen h1 h2 (vx_ret (W.zret C.1 C.2.1 (C.2.2.2.2.1.trans hr) hx (fun t ht hW => ⟨⟨_, ws, rfl, hp, by rw [ht]; exact hP, hD⟩, hS.F ht⟩) hS.2.2 d C.2.2.2.2.2.2.2.2.1))
theorem G_lret {x : Int64} (d : decode k.1 pc = .ok (.lreturn, 1)) (hr : k.2.2.2.1 = some .long) (h1 : cs ≤ mc) (h2 : sl ≤ ms) (hp : Post (some (.long x)) ws) : G v l R (gM v Post XP mc ms) k pc L [.long x] ws cs sl := fun p e s m args below meth c A H locs ls C hP hD hS h =>
  W.widen h1 h2 (vx_ret (W.lret C.1 C.2.1 (C.2.2.2.2.1.trans hr) (fun t ht hW => ⟨⟨_, ws, rfl, hp, by rw [ht]; exact hP, hD⟩, hS.F ht⟩) hS.2.2 d C.2.2.2.2.2.2.2.2.1))
theorem G_aret {x : Value} (rt : FieldType) (d : decode k.1 pc = .ok (.areturn, 1)) (hr : k.2.2.2.1 = some rt) (hrt : (∃ n, rt = .object n) ∨ ∃ t, rt = .array t) (hx : x = .null ∨ ∃ a, x = .ref a) (h1 : cs ≤ mc) (h2 : sl ≤ ms) (hp : Post (some x) ws) : G v l R (gM v Post XP mc ms) k pc L [x] ws cs sl := fun p e s m args below meth c A H locs ls C hP hD hS h =>
  W.widen h1 h2 (vx_ret (W.aret C.1 C.2.1 (C.2.2.2.2.1.trans hr) hrt hx (fun t ht hW => ⟨⟨_, ws, rfl, hp, by rw [ht]; exact hP, hD⟩, hS.F ht⟩) hS.2.2 d C.2.2.2.2.2.2.2.2.1))
theorem G_vret (d : decode k.1 pc = .ok (.return_, 1)) (hr : k.2.2.2.1 = none) (h1 : cs ≤ mc) (h2 : sl ≤ ms) (hp : Post none ws) : G v l R (gM v Post XP mc ms) k pc L [] ws cs sl := fun p e s m args below meth c A H locs ls C hP hD hS h =>
  W.widen h1 h2 (vx_ret (W.vret C.1 C.2.1 (C.2.2.2.2.1.trans hr) (fun t ht hW => ⟨⟨_, ws, rfl, hp, by rw [ht]; exact hP, hD⟩, hS.F ht⟩) hS.2.2 d C.2.2.2.2.2.2.2.2.1))
/-- what is thrown leaves a method without a table -/
theorem GT_out {st : List Value} {E : String} {q : Nat} (ht : k.2.2.2.2.1 = []) (h1 : cs ≤ mc) (h2 : sl ≤ ms) (hp : XP E q ws) : GT v l R (gM v Post XP mc ms) k pc L st E q ws cs sl := fun p e s m args below meth c A H locs ls ce C hP hD hS h hq hv hcl =>
  vx_out (fun x hx => by rw [C.2.2.2.2.2.1, ht] at hx; cases hx) C.2.2.2.2.2.2.2.2.1 hq hv hcl (fun t ht hW => ⟨⟨ws, hp, by rw [ht]; exact hP, hD⟩, hS.F ht⟩) hS.2.2 h1 h2
end GRet
section GCall
variable {v : gEnv} {l : Launch} {R : Room} {Qf : gFin} {k : gKey} {pc cs sl : Nat} {L : List (Nat × Value)} {st : List Value} {ws wc wr : va_W}
variable {y : MethodName} {cc' : ByteArray} {nL' fr' lo' mc' ms' i b : Nat} {ret' : Option FieldType} {As : List Value} {Post' : Option Value → va_W → Prop} {XP' : String → Nat → va_W → Prop}
/-- behind a call that was made: back among the rest -/
theorem g_back {p : Program} {e : Env} {s : State} {m : MethodId} {args : Array Value} {below : List Frame} {meth : Method} {c : Code} {A : Nat → Prop} {H : Heap} {locs : List Loc} {ls : Array Slot} {a9 : Array Value} {st0 : List Value} (isC isR : List Nat) (hC : isC.map (fun i => ws[i]?) = wc.map some) (hR : isR.map (fun i => ws[i]?) = wr.map some) (hn : va_nd isR = true) (hdis : ∀ i ∈ isR, i ∉ isC)
    (C : gC v k A p l s m args meth c) (hP : va_P v.1 v.2.1 ws H) (hD : va_D A ws) (hS : va_S A s.heap H locs) (h : lv_has ls k.2.1 L)
    (hr : vx_Run p l e R s m args below meth c H locs cs sl mc' ms' (F0 m pc ls st0) st (gQ v Post' (va_A wc H.size) a9) (gX v XP' (va_A wc H.size)) (va_A wc H.size))
    (kk : ∀ r w, Post' r w → G v l R Qf k (pc + 3) L (r.toList ++ st) (wr ++ w) (cs + mc') (sl + ms')) (kx : ∀ E q w, XP' E q w → GT v l R Qf k pc L st E q (wr ++ w) (cs + mc') (sl + ms')) :
    W p l e R s m args below meth c H locs cs sl (Qf below args s A) (F0 m pc ls st0) := by
  have hF := va_free hD hS C.2.2.2.2.2.2.2.2.2.2.1 isC hC
  intro T hT X
  rcases hr T hT X with ⟨r, st₀, t, T', L9, h0, X', hL, e1, e2, ⟨⟨r', w, hv, hp, hPw, hDw⟩, hz⟩, stp⟩ | ⟨q, st₀, t, T', L9, E, ce, h0, X', hL, e1, e2, ⟨⟨w, hp, hPw, hDw⟩, hz⟩, hce, hcv, hcl, stp⟩
  · cases hv
    obtain ⟨k1, k2, k3⟩ := vx_keep (A0 := A) h0 e1 hS (fun q _ z => hF q z) hF hL hz
    rw [← e1] at hPw
    obtain ⟨j1, j2⟩ := va_join hP hD isC isR hC hR hn hdis k2 hF hPw hDw
    obtain ⟨t2, a1, b1⟩ := kk r w hp p e s m args below meth c A T'.heap (locs ++ L9) ls C j1 j2 k3 h T' rfl X'
    exact ⟨t2, stp t2 a1, b1⟩
  · obtain ⟨k1, k2, k3⟩ := vx_keep (A0 := A) h0 e1 hS (fun q _ z => hF q z) hF hL hz
    rw [← e1] at hPw hce
    obtain ⟨j1, j2⟩ := va_join hP hD isC isR hC hR hn hdis k2 hF hPw hDw
    obtain ⟨t2, a1, b1⟩ := kx E q w hp p e s m args below meth c A T'.heap (locs ++ L9) ls ce C j1 j2 k3 h hce hcv hcl T' rfl X'
    exact ⟨t2, stp.trans a1, b1⟩
/-- the callee's start at a call -/
theorem g_pre {p : Program} {s : State} {m : MethodId} {args : Array Value} {meth : Method} {c : Code} {A : Nat → Prop} {H : Heap} {locs : List Loc} {av : List Value} (hv : gOk v) (isC : List Nat) (hC : isC.map (fun i => ws[i]?) = wc.map some) (hnC : va_nd isC = true)
    (C : gC v k A p l s m args meth c) (hP : va_P v.1 v.2.1 ws H) (hD : va_D A ws) (hS : va_S A s.heap H locs) : ∀ U : State, U.heap = H → s.WarmedH U.vm → gPre v av wc H.size av.toArray U := fun U hU hW => by
  have hF := va_free hD hS C.2.2.2.2.2.2.2.2.2.2.1 isC hC
  refine ⟨rfl, by rw [hU], by rw [hU]; exact hP.sub isC (g_fm hC), va_K.moved hW.alike C.2.2.2.2.2.2.2.2.2.1, (hD.sub isC hnC hC).weaken (fun _ _ _ _ => trivial), ?_⟩
  rw [hU]
  exact hv.2.2.1 A _ _ _ hF (hv.1 A s U H hW (hv.2.1 A s s.heap H hS.2.1 C.2.2.2.2.2.2.2.2.2.2.2.1))
/-- what a call asks of the tables and of the room -/
def gCw (v : gEnv) (R : Room) (own : String) (i : Nat) (y : MethodName) (cc' : ByteArray) (nL' : Nat) (ret' : Option FieldType) (fr' lo' np : Nat) : Prop :=
  Cond.methodLink own i y ∈ v.2.2.2.2 ∧ Cond.initialized y.cls ∈ v.2.2.2.2 ∧ Cond.code y cc' nL' ret' ∈ v.2.2.2.2 ∧ (y.cls ≠ "java/lang/invoke/MethodHandle" ∧ y.cls ≠ "java/lang/invoke/VarHandle") ∧ (parseMethodDescriptor y.desc).map (fun d => d.parameters.length) = some np ∧ fr' + 1 ≤ R.frames ∧ 8 + (nL' + 11) + lo' ≤ R.locals
theorem g_cb {np : Nat} {own : String} {s : State} {args : Array Value} (hv : gOk v) (ht : ∀ w ∈ v.2.2.2.2, w.before args s = true) (hw : gCw v R own i y cc' nL' ret' fr' lo' np) :
    CallB R s args own i y cc' nL' ret' (.code y cc' nL' ret' :: v.2.2.2.2) (gRm fr' lo' mc' ms') mc' ms' np := by
  obtain ⟨w1, w2, w3, w4, w5, w6, w7⟩ := hw
  exact callB_of np ht (fun w hw => by
    rcases List.mem_cons.mp hw with rfl | hw
    · exact ⟨w3, good_of_word (hv.2.2.2 _ w3)⟩
    · exact ⟨hw, good_of_word (hv.2.2.2 _ hw)⟩) rfl rfl rfl (ht _ w2) (ht _ w1) ⟨w4.1, w4.2, w5⟩ ⟨w6, w7⟩
theorem G_callV {ci N : Nat} {fs : List Value} {T : u_T} (hv : gOk v) (cp : Ct v l y cc' nL' ret' fr' lo' mc' ms' (.ref b :: As) wc Post' XP') (d : decode k.1 pc = .ok (.invokevirtual i, 3)) (hw : gCw v R k.2.2.1 i y cc' nL' ret' fr' lo' As.length) (w2 : Cond.instanceMethod y ∈ v.2.2.2.2) (w3 : Cond.selects y.cls y y ∈ v.2.2.2.2)
    (q : Nat) (hq : ws[q]? = some (b, .inr (ci, fs))) (hcl : v.2.1[ci]? = some (y.cls, T, N)) (isC isR : List Nat) (hC : isC.map (fun i => ws[i]?) = wc.map some) (hR : isR.map (fun i => ws[i]?) = wr.map some) (hnC : va_nd isC = true) (hn : va_nd isR = true) (hdis : ∀ i ∈ isR, i ∉ isC)
    (hcs : cs + mc' ≤ R.cells) (hsl : sl + ms' ≤ R.slots) (hcat : (st.map fun u => u.category).sum ≤ 8)
    (kk : ∀ r w, Post' r w → G v l R Qf k (pc + 3) L (r.toList ++ st) (wr ++ w) (cs + mc') (sl + ms')) (kx : ∀ E q w, XP' E q w → GT v l R Qf k pc L st E q (wr ++ w) (cs + mc') (sl + ms')) :
    G v l R Qf k pc L (As.reverse ++ .ref b :: st) ws cs sl := fun p e s m args below meth c A H locs ls C hP hD hS h => by
  obtain ⟨h1, h2, h3, h4, h5, h6, h7, h8, h9, h10, h11, h12, h13⟩ := id C
  refine g_back isC isR hC hR hn hdis C hP hD hS h (vx_runV (As := As) ⟨h1, h2, h3, h4, h8⟩ (cp H.size) ⟨g_cb hv h8 hw, h8 _ w2, h8 _ w3⟩ ⟨gPre_blind hv _ _ _, ?_, g_pre hv isC hC hnC C hP hD hS⟩ rfl rfl h.1 rfl (by show 2 * 0 + _ ≤ 8; omega) d ⟨hcs, hsl⟩) kk kx
  exact va_recv h10 hP hcl hq
theorem G_callS (hv : gOk v) (cp : Ct v l y cc' nL' ret' fr' lo' mc' ms' As wc Post' XP') (d : decode k.1 pc = .ok (.invokestatic i, 3)) (hw : gCw v R k.2.2.1 i y cc' nL' ret' fr' lo' As.length) (w2 : Cond.static y ∈ v.2.2.2.2)
    (isC isR : List Nat) (hC : isC.map (fun i => ws[i]?) = wc.map some) (hR : isR.map (fun i => ws[i]?) = wr.map some) (hnC : va_nd isC = true) (hn : va_nd isR = true) (hdis : ∀ i ∈ isR, i ∉ isC)
    (hcs : cs + mc' ≤ R.cells) (hsl : sl + ms' ≤ R.slots) (hcat : (st.map fun u => u.category).sum ≤ 8)
    (kk : ∀ r w, Post' r w → G v l R Qf k (pc + 3) L (r.toList ++ st) (wr ++ w) (cs + mc') (sl + ms')) (kx : ∀ E q w, XP' E q w → GT v l R Qf k pc L st E q (wr ++ w) (cs + mc') (sl + ms')) :
    G v l R Qf k pc L (As.reverse ++ st) ws cs sl := fun p e s m args below meth c A H locs ls C hP hD hS h => by
  obtain ⟨h1, h2, h3, h4, h5, h6, h7, h8, h9, h10, h11, h12, h13⟩ := id C
  exact g_back isC isR hC hR hn hdis C hP hD hS h (vx_runS (As := As) ⟨h1, h2, h3, h4, h8⟩ (cp H.size) ⟨g_cb hv h8 hw, h8 _ w2⟩ ⟨gPre_blind hv _ _ _, g_pre hv isC hC hnC C hP hD hS⟩ rfl rfl h.1 rfl (by show 2 * 0 + _ ≤ 8; omega) d ⟨hcs, hsl⟩) kk kx
end GCall
end
section
/-! G: constructors, nest mates, Math, throw and catch -/
theorem Ct_met {v : gEnv} {l : Launch} {y : MethodName} {cc : ByteArray} {nL fr lo mc ms : Nat} {ret : Option FieldType} {av : List Value} {ws : va_W} {Post : Option Value → va_W → Prop} (h : Ct v l y cc nL ret fr lo mc ms av ws Post gN) (sz : Nat) :
    Met l y (.code y cc nL ret :: v.2.2.2.2) (gRm fr lo mc ms) (gPre v av ws sz) (gQ v Post (va_A ws sz)) mc ms (va_A ws sz) := by
  intro p e h1 h2 h3 s m args below h4 h5 h6 h7
  obtain ⟨n, o, g1, g2, g3, g4⟩ := h sz p e h1 h2 h3 s m args below h4 h5 h6 h7
  refine ⟨n, o, g1, g2, g3, ?_⟩
  rcases g4 with g4 | ⟨q, -, E, ce, L, ⟨⟨w, hw, -⟩, -⟩, -⟩
  · exact g4
  · exact hw.elim
section GC2
variable {v : gEnv} {l : Launch} {R : Room} {Qf : gFin} {k : gKey} {pc cs sl : Nat} {L L' : List (Nat × Value)} {st : List Value} {ws wc wr : va_W}
variable {y : MethodName} {cc' : ByteArray} {nL' fr' lo' mc' ms' i b : Nat} {ret' : Option FieldType} {As : List Value} {Post' : Option Value → va_W → Prop}
theorem g_backM {p : Program} {e : Env} {s : State} {m : MethodId} {args : Array Value} {below : List Frame} {meth : Method} {c : Code} {A : Nat → Prop} {H : Heap} {locs : List Loc} {ls : Array Slot} {a9 : Array Value} {st0 : List Value} (isC isR : List Nat) (hC : isC.map (fun i => ws[i]?) = wc.map some) (hR : isR.map (fun i => ws[i]?) = wr.map some) (hn : va_nd isR = true) (hdis : ∀ i ∈ isR, i ∉ isC)
    (C : gC v k A p l s m args meth c) (hP : va_P v.1 v.2.1 ws H) (hD : va_D A ws) (hS : va_S A s.heap H locs) (h : lv_has ls k.2.1 L)
    (hr : va_Run p l e R s m args below meth c H locs cs sl mc' ms' (F0 m pc ls st0) st (gQ v Post' (va_A wc H.size) a9) (va_A wc H.size))
    (kk : ∀ r w, Post' r w → G v l R Qf k (pc + 3) L (r.toList ++ st) (wr ++ w) (cs + mc') (sl + ms')) :
    W p l e R s m args below meth c H locs cs sl (Qf below args s A) (F0 m pc ls st0) :=
  g_back (XP' := gN) isC isR hC hR hn hdis C hP hD hS h (fun T hT X => Or.inl (hr T hT X)) kk (fun _ _ _ z => z.elim)
/-- a constructor -/
theorem G_callI (hv : gOk v) (cp : Ct v l y cc' nL' none fr' lo' mc' ms' (.ref b :: As) wc Post' gN) (d : decode k.1 pc = .ok (.invokespecial i, 3)) (hw : gCw v R k.2.2.1 i y cc' nL' none fr' lo' As.length) (w2 : Cond.instanceMethod y ∈ v.2.2.2.2) (hin : y.name = "<init>")
    (isC isR : List Nat) (hC : isC.map (fun i => ws[i]?) = wc.map some) (hR : isR.map (fun i => ws[i]?) = wr.map some) (hnC : va_nd isC = true) (hn : va_nd isR = true) (hdis : ∀ i ∈ isR, i ∉ isC)
    (hcs : cs + mc' ≤ R.cells) (hsl : sl + ms' ≤ R.slots) (hcat : (st.map fun u => u.category).sum ≤ 8)
    (kk : ∀ r w, Post' r w → G v l R Qf k (pc + 3) L (r.toList ++ st) (wr ++ w) (cs + mc') (sl + ms')) : G v l R Qf k pc L (As.reverse ++ .ref b :: st) ws cs sl := fun p e s m args below meth c A H locs ls C hP hD hS h => by
  obtain ⟨h1, h2, h3, h4, h5, h6, h7, h8, h9, h10, h11, h12, h13⟩ := id C
  exact g_backM isC isR hC hR hn hdis C hP hD hS h (va_runI (As := As) ⟨h1, h2, h3, h4, h8⟩ (Ct_met cp H.size) ⟨g_cb hv h8 hw, hin, h8 _ w2⟩ ⟨gPre_blind hv _ _ _, g_pre hv isC hC hnC C hP hD hS⟩ rfl rfl h.1 rfl (by show 2 * 0 + _ ≤ 8; omega) d ⟨hcs, hsl⟩) kk
/-- what a call by a nest mate asks -/
def gCn (v : gEnv) (R : Room) (own : String) (i : Nat) (y : MethodName) (host : String) (cc' : ByteArray) (nL' : Nat) (ret' : Option FieldType) (fr' lo' np : Nat) : Prop :=
  (∀ A s H, v.2.2.2.1 A s H → va_Nw (.methodLinkNest own i y host) s) ∧ Cond.initialized y.cls ∈ v.2.2.2.2 ∧ Cond.code y cc' nL' ret' ∈ v.2.2.2.2 ∧ (y.cls ≠ "java/lang/invoke/MethodHandle" ∧ y.cls ≠ "java/lang/invoke/VarHandle") ∧ (parseMethodDescriptor y.desc).map (fun d => d.parameters.length) = some np ∧ fr' + 1 ≤ R.frames ∧ 8 + (nL' + 11) + lo' ≤ R.locals
theorem g_cn {np : Nat} {own host : String} {s : State} {args : Array Value} {A : Nat → Prop} {H : Heap} (hv : gOk v) (ht : ∀ w ∈ v.2.2.2.2, w.before args s = true) (hE : v.2.2.2.1 A s H) (hw : gCn v R own i y host cc' nL' ret' fr' lo' np) :
    va_CN R s args own i y host cc' nL' ret' (.code y cc' nL' ret' :: v.2.2.2.2) (gRm fr' lo' mc' ms') mc' ms' np := by
  obtain ⟨w1, w2, w3, w4, w5, w6, w7⟩ := hw
  exact va_cnB np ht (fun w hw => by
    rcases List.mem_cons.mp hw with rfl | hw
    · exact ⟨w3, good_of_word (hv.2.2.2 _ w3)⟩
    · exact ⟨hw, good_of_word (hv.2.2.2 _ hw)⟩) rfl rfl rfl (w1 _ _ _ hE) (ht _ w2) ⟨w4.1, w4.2, w5⟩ ⟨w6, w7⟩
theorem G_callIN {host : String} (hv : gOk v) (cp : Ct v l y cc' nL' none fr' lo' mc' ms' (.ref b :: As) wc Post' gN) (d : decode k.1 pc = .ok (.invokespecial i, 3)) (hw : gCn v R k.2.2.1 i y host cc' nL' none fr' lo' As.length) (w2 : Cond.instanceMethod y ∈ v.2.2.2.2) (hin : y.name = "<init>")
    (isC isR : List Nat) (hC : isC.map (fun i => ws[i]?) = wc.map some) (hR : isR.map (fun i => ws[i]?) = wr.map some) (hnC : va_nd isC = true) (hn : va_nd isR = true) (hdis : ∀ i ∈ isR, i ∉ isC)
    (hcs : cs + mc' ≤ R.cells) (hsl : sl + ms' ≤ R.slots) (hcat : (st.map fun u => u.category).sum ≤ 8)
    (kk : ∀ r w, Post' r w → G v l R Qf k (pc + 3) L (r.toList ++ st) (wr ++ w) (cs + mc') (sl + ms')) : G v l R Qf k pc L (As.reverse ++ .ref b :: st) ws cs sl := fun p e s m args below meth c A H locs ls C hP hD hS h => by
  obtain ⟨h1, h2, h3, h4, h5, h6, h7, h8, h9, h10, h11, h12, h13⟩ := id C
  exact g_backM isC isR hC hR hn hdis C hP hD hS h (va_runIN (As := As) ⟨h1, h2, h3, h4, h8⟩ (Ct_met cp H.size) ⟨g_cn hv h8 h12 hw, hin, h8 _ w2⟩ ⟨gPre_blind hv _ _ _, g_pre hv isC hC hnC C hP hD hS⟩ rfl rfl h.1 rfl (by show 2 * 0 + _ ≤ 8; omega) d ⟨hcs, hsl⟩) kk
theorem G_callSN {host : String} (hv : gOk v) (cp : Ct v l y cc' nL' ret' fr' lo' mc' ms' As wc Post' gN) (d : decode k.1 pc = .ok (.invokestatic i, 3)) (hw : gCn v R k.2.2.1 i y host cc' nL' ret' fr' lo' As.length) (w2 : Cond.static y ∈ v.2.2.2.2)
    (isC isR : List Nat) (hC : isC.map (fun i => ws[i]?) = wc.map some) (hR : isR.map (fun i => ws[i]?) = wr.map some) (hnC : va_nd isC = true) (hn : va_nd isR = true) (hdis : ∀ i ∈ isR, i ∉ isC)
    (hcs : cs + mc' ≤ R.cells) (hsl : sl + ms' ≤ R.slots) (hcat : (st.map fun u => u.category).sum ≤ 8)
    (kk : ∀ r w, Post' r w → G v l R Qf k (pc + 3) L (r.toList ++ st) (wr ++ w) (cs + mc') (sl + ms')) : G v l R Qf k pc L (As.reverse ++ st) ws cs sl := fun p e s m args below meth c A H locs ls C hP hD hS h => by
  obtain ⟨h1, h2, h3, h4, h5, h6, h7, h8, h9, h10, h11, h12, h13⟩ := id C
  exact g_backM isC isR hC hR hn hdis C hP hD hS h (va_runSN (As := As) ⟨h1, h2, h3, h4, h8⟩ (Ct_met cp H.size) ⟨g_cn hv h8 h12 hw, h8 _ w2, trivial⟩ ⟨gPre_blind hv _ _ _, g_pre hv isC hC hnC C hP hD hS⟩ rfl rfl h.1 rfl (by show 2 * 0 + _ ≤ 8; omega) d ⟨hcs, hsl⟩) kk
/-- Math.max, Math.min over int -/
theorem G_mmax {x z : Int32} (d : decode k.1 pc = .ok (.invokestatic i, 3)) (w1 : Cond.methodLink k.2.2.1 i Lib.Math.max.name ∈ v.2.2.2.2) (w2 : Cond.static Lib.Math.max.name ∈ v.2.2.2.2) (w3 : Cond.initialized "java/lang/Math" ∈ v.2.2.2.2) (w4 : Cond.code Lib.Math.max.name Lib.Math.max.code 2 (some .int) ∈ v.2.2.2.2)
    (hf : 1 ≤ R.frames) (hlo : (st.map fun u => u.category).sum + 13 ≤ R.locals) (hcs : cs ≤ R.cells) (hsl : sl ≤ R.slots) (n : G v l R Qf k (pc + 3) L (.int (if x < z then z else x) :: st) ws cs sl) : G v l R Qf k pc L (.int z :: .int x :: st) ws cs sl := fun p e s m args below meth c A H locs ls C hP hD hS h => by
  obtain ⟨h1, h2, h3, h4, h5, h6, h7, h8, h9, h10, h11, h12, h13⟩ := id C
  exact va_mmax h1 h2 (by rw [h3]; exact h.1.symm) h4 (h8 _ w1) (h8 _ w2) (h8 _ w3) (h8 _ w4) hf hlo hcs hsl d (n p e s m args below meth c A H locs ls C hP hD hS h)
theorem G_mmin {x z : Int32} (d : decode k.1 pc = .ok (.invokestatic i, 3)) (w1 : Cond.methodLink k.2.2.1 i Lib.Math.min.name ∈ v.2.2.2.2) (w2 : Cond.static Lib.Math.min.name ∈ v.2.2.2.2) (w3 : Cond.initialized "java/lang/Math" ∈ v.2.2.2.2) (w4 : Cond.code Lib.Math.min.name Lib.Math.min.code 2 (some .int) ∈ v.2.2.2.2)
    (hf : 1 ≤ R.frames) (hlo : (st.map fun u => u.category).sum + 13 ≤ R.locals) (hcs : cs ≤ R.cells) (hsl : sl ≤ R.slots) (n : G v l R Qf k (pc + 3) L (.int (if z < x then z else x) :: st) ws cs sl) : G v l R Qf k pc L (.int z :: .int x :: st) ws cs sl := fun p e s m args below meth c A H locs ls C hP hD hS h => by
  obtain ⟨h1, h2, h3, h4, h5, h6, h7, h8, h9, h10, h11, h12, h13⟩ := id C
  exact va_mmin h1 h2 (by rw [h3]; exact h.1.symm) h4 (h8 _ w1) (h8 _ w2) (h8 _ w3) (h8 _ w4) hf hlo hcs hsl d (n p e s m args below meth c A H locs ls C hP hD hS h)
/-- 'throw new E("text")' out of a method without a table -/
theorem G_throwS {Post : Option Value → va_W → Prop} {XP : String → Nat → va_W → Prop} {mc ms ik is ic : Nat} {cls text : String} {names : List String} {B : List Cond}
    (d0 : decode k.1 pc = .ok (.new ik, 3)) (d3 : decode k.1 (pc + 3) = .ok (.dup, 1)) (d4 : decode k.1 (pc + 4) = .ok (.ldc is, 2)) (d6 : decode k.1 (pc + 6) = .ok (.invokespecial ic, 3)) (d9 : decode k.1 (pc + 9) = .ok (.athrow, 1))
    (ht : k.2.2.2.2.1 = []) (hcls : Bundle.fit cls = true) (hnames : ∀ n ∈ names, Bundle.fit n = true) (w1 : Cond.classLink k.2.2.1 ik cls ∈ v.2.2.2.2) (w2 : Cond.initialized cls ∈ v.2.2.2.2)
    (hE : ∀ A s H, v.2.2.2.1 A s H → (∃ sa, vk_R k.2.2.1 is text sa s) ∧ vx_Zq Bundle.tN "UNASSIGNED_STACK" Bundle.steD A s H ∧ vx_Zq Bundle.tN "SUPPRESSED_SENTINEL" Bundle.listD A s H ∧ ∀ w ∈ B, ∀ args, w.before args s = true)
    (hg1 : ∀ w ∈ (vx_atS k.2.2.1 ic cls names).filter goodWord, w ∈ v.2.2.2.2) (hg2 : ∀ w ∈ (vx_atS k.2.2.1 ic cls names).filter (fun w => !goodWord w), w ∈ B)
    (hgood : ∀ w ∈ Cond.classLink k.2.2.1 ik cls :: Cond.initialized cls :: vx_atS k.2.2.1 ic cls names, vx_ot w = true)
    (hf : names.length + 3 < R.frames) (hlo : (st.map fun u => u.category).sum + (13 * (names.length + 1) + 43) ≤ R.locals) (hcs : cs + 1 ≤ R.cells) (hsl : sl + 6 ≤ R.slots) (hc : cs + 1 ≤ mc) (hs : sl + 6 ≤ ms) (hp : ∀ q, XP cls q ws) :
    G v l R (gM v Post XP mc ms) k pc L st ws cs sl := fun p e s m args below meth c A H locs ls C hP hD hS h => by
  obtain ⟨h1, h2, h3, h4, h5, h6, h7, h8, h9, h10, h11, h12, h13⟩ := id C
  obtain ⟨⟨sa, e1⟩, e2, e3, e4⟩ := hE _ _ _ h12
  refine vx_throwS h1 h2 h13.1 h4 hcls hnames (h8 _ w1) (h8 _ w2) e1 (vx_hat (fun w hw => h8 _ (hg1 w hw)) hg2 (fun w hw => e4 w hw args)) hgood e2 e3 hS (h.1.trans h3.symm) d0 d3 d4 d6 d9 (fun x hx => by rw [h6, ht] at hx; cases hx) hf hlo hcs hsl h9 (fun t hW hz hk => ⟨⟨ws, hp _, hP.kept (fun j x hx => hk _ (hP j x hx).lt), hD⟩, Nat.le_trans hS.1 hz, fun q g1 g2 => (hk q (Nat.lt_of_lt_of_le g1 hS.1)).trans (hS.2.1 q g1 g2)⟩) hS.2.2 hc hs
/-- caught in this method, behind rows that don't take it -/
theorem GT_catch {E : String} {q : Nat} {pre suf : List ExceptionTableEntry} {x : ExceptionTableEntry} {name : String} (ht : k.2.2.2.2.1 = pre ++ x :: suf) (hx : covers x pc = true) (h0 : x.catchType ≠ 0) (w1 : Cond.classLink k.2.2.1 x.catchType name ∈ v.2.2.2.2)
    (hE : ∀ A s H, v.2.2.2.1 A s H → va_Nw (.castable E name) s ∧ ∀ z ∈ pre, covers z pc = false ∨ (z.catchType ≠ 0 ∧ ∃ nm : String, Cond.classLink k.2.2.1 z.catchType nm ∈ v.2.2.2.2 ∧ va_Nc E nm s))
    (kk : G v l R Qf k x.handlerPc L [.ref q] ws cs sl) : GT v l R Qf k pc L st E q ws cs sl := fun p e s m args below meth c A H locs ls ce C hP hD hS h hq hv hcl => by
  obtain ⟨h1, h2, h3, h4, h5, h6, h7, h8, h9, h10, h11, h12, h13⟩ := id C
  obtain ⟨e1, e2⟩ := hE _ _ _ h12
  exact vx_catch h4 pre x suf (h6.trans ht) (fun z hz => by
    rcases e2 z hz with g | ⟨g0, nm, g1, g2⟩
    · exact Or.inl g
    · exact Or.inr ⟨g0, nm, h8 _ g1, g2⟩) hx h0 (h8 _ w1) (va_Nw.use rfl e1) hq hv hcl (kk p e s m args below meth c A H locs ls C hP hD hS h)
end GC2
end
section
/-! the words that stay (gw), where they stand in the tables; the environment gV of G -/
def gSubs : List MethodName := [⟨"java/lang/AbstractStringBuilder", "ensureCapacityInternal", "(I)V"⟩, ⟨"java/lang/AbstractStringBuilder", "newCapacity", "(I)I"⟩, ⟨"java/lang/AbstractStringBuilder", "inflate", "()V"⟩, ⟨"java/lang/AbstractStringBuilder", "appendNull", "()Ljava/lang/AbstractStringBuilder;"⟩, ⟨"java/lang/AbstractStringBuilder", "putStringAt", "(ILjava/lang/String;)V"⟩, ⟨"java/lang/AbstractStringBuilder", "inflateIfNeededFor", "(Ljava/lang/String;)V"⟩]
def gw : List Cond := (lw_tbl ++ gSubs.map (fun y => Cond.selects "java/lang/StringBuilder" y y)).filter goodWord
theorem gw_s {w : Cond} (y : MethodName) (i : Nat) (h0 : gSubs[i]? = some y) (hw : Cond.selects "java/lang/StringBuilder" y y = w) (g : goodWord w = true) : w ∈ gw := List.mem_filter.mpr ⟨List.mem_append_right _ (List.mem_map.mpr ⟨y, List.mem_of_getElem? h0, hw⟩), g⟩
theorem gt_0 : ∀ w ∈ tables_1, w ∈ lw_tbl := fun w h => List.mem_append_right _ h
theorem gt_1 {w : Cond} (i : Nat) (h0 : tables_1_1[i]? = some w) : w ∈ lw_tbl := gt_0 w (have h := List.mem_of_getElem? h0; List.mem_append_left _ h)
theorem gw_1 {w : Cond} (i : Nat) (h0 : tables_1_1[i]? = some w) (g : goodWord w = true) : w ∈ gw := List.mem_filter.mpr ⟨List.mem_append_left _ (gt_1 i h0), g⟩
theorem gt_2 {w : Cond} (i : Nat) (h0 : tables_1_2[i]? = some w) : w ∈ lw_tbl := gt_0 w (have h := List.mem_of_getElem? h0; List.mem_append_right _ (List.mem_append_left _ h))
theorem gw_2 {w : Cond} (i : Nat) (h0 : tables_1_2[i]? = some w) (g : goodWord w = true) : w ∈ gw := List.mem_filter.mpr ⟨List.mem_append_left _ (gt_2 i h0), g⟩
theorem gt_3 {w : Cond} (i : Nat) (h0 : tables_1_3[i]? = some w) : w ∈ lw_tbl := gt_0 w (have h := List.mem_of_getElem? h0; List.mem_append_right _ (List.mem_append_right _ (List.mem_append_left _ h)))
theorem gw_3 {w : Cond} (i : Nat) (h0 : tables_1_3[i]? = some w) (g : goodWord w = true) : w ∈ gw := List.mem_filter.mpr ⟨List.mem_append_left _ (gt_3 i h0), g⟩
theorem gt_4 {w : Cond} (i : Nat) (h0 : tables_1_4[i]? = some w) : w ∈ lw_tbl := gt_0 w (have h := List.mem_of_getElem? h0; List.mem_append_right _ (List.mem_append_right _ (List.mem_append_right _ (List.mem_append_left _ h))))
theorem gw_4 {w : Cond} (i : Nat) (h0 : tables_1_4[i]? = some w) (g : goodWord w = true) : w ∈ gw := List.mem_filter.mpr ⟨List.mem_append_left _ (gt_4 i h0), g⟩
theorem gt_5 {w : Cond} (i : Nat) (h0 : tables_1_5[i]? = some w) : w ∈ lw_tbl := gt_0 w (have h := List.mem_of_getElem? h0; List.mem_append_right _ (List.mem_append_right _ (List.mem_append_right _ (List.mem_append_right _ (List.mem_append_left _ h)))))
theorem gw_5 {w : Cond} (i : Nat) (h0 : tables_1_5[i]? = some w) (g : goodWord w = true) : w ∈ gw := List.mem_filter.mpr ⟨List.mem_append_left _ (gt_5 i h0), g⟩
theorem gt_6 {w : Cond} (i : Nat) (h0 : tables_1_6[i]? = some w) : w ∈ lw_tbl := gt_0 w (have h := List.mem_of_getElem? h0; List.mem_append_right _ (List.mem_append_right _ (List.mem_append_right _ (List.mem_append_right _ (List.mem_append_right _ (List.mem_append_left _ h))))))
theorem gw_6 {w : Cond} (i : Nat) (h0 : tables_1_6[i]? = some w) (g : goodWord w = true) : w ∈ gw := List.mem_filter.mpr ⟨List.mem_append_left _ (gt_6 i h0), g⟩
theorem gt_7 {w : Cond} (i : Nat) (h0 : tables_1_7[i]? = some w) : w ∈ lw_tbl := gt_0 w (have h := List.mem_of_getElem? h0; List.mem_append_right _ (List.mem_append_right _ (List.mem_append_right _ (List.mem_append_right _ (List.mem_append_right _ (List.mem_append_right _ (List.mem_append_left _ h)))))))
theorem gw_7 {w : Cond} (i : Nat) (h0 : tables_1_7[i]? = some w) (g : goodWord w = true) : w ∈ gw := List.mem_filter.mpr ⟨List.mem_append_left _ (gt_7 i h0), g⟩
theorem gt_8 {w : Cond} (i : Nat) (h0 : tables_1_8[i]? = some w) : w ∈ lw_tbl := gt_0 w (have h := List.mem_of_getElem? h0; List.mem_append_right _ (List.mem_append_right _ (List.mem_append_right _ (List.mem_append_right _ (List.mem_append_right _ (List.mem_append_right _ (List.mem_append_right _ (List.mem_append_left _ h))))))))
theorem gw_8 {w : Cond} (i : Nat) (h0 : tables_1_8[i]? = some w) (g : goodWord w = true) : w ∈ gw := List.mem_filter.mpr ⟨List.mem_append_left _ (gt_8 i h0), g⟩
theorem gt_9 {w : Cond} (i : Nat) (h0 : tables_1_9[i]? = some w) : w ∈ lw_tbl := gt_0 w (have h := List.mem_of_getElem? h0; List.mem_append_right _ (List.mem_append_right _ (List.mem_append_right _ (List.mem_append_right _ (List.mem_append_right _ (List.mem_append_right _ (List.mem_append_right _ (List.mem_append_right _ (List.mem_append_left _ h)))))))))
theorem gw_9 {w : Cond} (i : Nat) (h0 : tables_1_9[i]? = some w) (g : goodWord w = true) : w ∈ gw := List.mem_filter.mpr ⟨List.mem_append_left _ (gt_9 i h0), g⟩
theorem gt_10 {w : Cond} (i : Nat) (h0 : tables_1_10[i]? = some w) : w ∈ lw_tbl := gt_0 w (have h := List.mem_of_getElem? h0; List.mem_append_right _ (List.mem_append_right _ (List.mem_append_right _ (List.mem_append_right _ (List.mem_append_right _ (List.mem_append_right _ (List.mem_append_right _ (List.mem_append_right _ (List.mem_append_right _ (List.mem_append_left _ h))))))))))
theorem gw_10 {w : Cond} (i : Nat) (h0 : tables_1_10[i]? = some w) (g : goodWord w = true) : w ∈ gw := List.mem_filter.mpr ⟨List.mem_append_left _ (gt_10 i h0), g⟩
theorem gt_11 {w : Cond} (i : Nat) (h0 : tables_1_11[i]? = some w) : w ∈ lw_tbl := gt_0 w (have h := List.mem_of_getElem? h0; List.mem_append_right _ (List.mem_append_right _ (List.mem_append_right _ (List.mem_append_right _ (List.mem_append_right _ (List.mem_append_right _ (List.mem_append_right _ (List.mem_append_right _ (List.mem_append_right _ (List.mem_append_right _ (List.mem_append_left _ h)))))))))))
theorem gw_11 {w : Cond} (i : Nat) (h0 : tables_1_11[i]? = some w) (g : goodWord w = true) : w ∈ gw := List.mem_filter.mpr ⟨List.mem_append_left _ (gt_11 i h0), g⟩
theorem gt_12 {w : Cond} (i : Nat) (h0 : tables_1_12[i]? = some w) : w ∈ lw_tbl := gt_0 w (have h := List.mem_of_getElem? h0; List.mem_append_right _ (List.mem_append_right _ (List.mem_append_right _ (List.mem_append_right _ (List.mem_append_right _ (List.mem_append_right _ (List.mem_append_right _ (List.mem_append_right _ (List.mem_append_right _ (List.mem_append_right _ (List.mem_append_right _ (h))))))))))))
theorem gw_12 {w : Cond} (i : Nat) (h0 : tables_1_12[i]? = some w) (g : goodWord w = true) : w ∈ gw := List.mem_filter.mpr ⟨List.mem_append_left _ (gt_12 i h0), g⟩
theorem gw_p {w : Cond} (q : MethodName × Nat) (i : Nat) (h0 : lw_privs[i]? = some q) (hw : Cond.selects q.1.cls q.1 q.1 = w) (g : goodWord w = true) : w ∈ gw := List.mem_filter.mpr ⟨List.mem_append_left _ (List.mem_append_left _ (List.mem_map.mpr ⟨q, List.mem_of_getElem? h0, hw⟩)), g⟩
theorem gw_good : ∀ w ∈ gw, goodWord w = true := fun w h => (List.mem_filter.mp h).2
abbrev gTy (I : FieldType → ClassId) : List (ClassId × FieldType) := [(I .int, .int), (I .byte, .byte), (I .long, .long), (I .boolean, .boolean), (I (.object "java/lang/Object"), .object "java/lang/Object"), (I (.array .long), .array .long)]
/-- words on nest mates and casts -/
def gNest : List Cond := [(Jvm.Cond.methodLinkNest "SpillForge" (11 : Nat) ({ cls := "SpillForge$Tape", name := "<init>", desc := "()V" } : Jvm.MethodName) "SpillForge"),
  (Jvm.Cond.fieldLinkNest "SpillForge$Graph" (64 : Nat) "SpillForge$Code" "first" "[I" "SpillForge"),
  (Jvm.Cond.fieldLinkNest "SpillForge$Live" (57 : Nat) "SpillForge$Code" "first" "[I" "SpillForge"),
  (Jvm.Cond.fieldLinkNest "SpillForge$Listing" (36 : Nat) "SpillForge$Code" "first" "[I" "SpillForge"),
  (Jvm.Cond.fieldLinkNest "SpillForge$Colouring" (55 : Nat) "SpillForge$Code" "first" "[I" "SpillForge"),
  (Jvm.Cond.fieldLinkNest "SpillForge$Machine" (131 : Nat) "SpillForge$Code" "first" "[I" "SpillForge"),
  (Jvm.Cond.fieldLinkNest "SpillForge$Giver" (183 : Nat) "SpillForge$Code" "first" "[I" "SpillForge"),
  (Jvm.Cond.fieldLinkNest "SpillForge$Loops" (40 : Nat) "SpillForge$Code" "firstGoal" "[I" "SpillForge"),
  (Jvm.Cond.fieldLinkNest "SpillForge$Listing" (73 : Nat) "SpillForge$Code" "firstGoal" "[I" "SpillForge"),
  (Jvm.Cond.fieldLinkNest "SpillForge$Live" (88 : Nat) "SpillForge$Code" "firstGoal" "[I" "SpillForge"),
  (Jvm.Cond.fieldLinkNest "SpillForge$Machine" (92 : Nat) "SpillForge$Code" "firstGoal" "[I" "SpillForge"),
  (Jvm.Cond.fieldLinkNest "SpillForge$Loops" (47 : Nat) "SpillForge$Code" "secondGoal" "[I" "SpillForge"),
  (Jvm.Cond.fieldLinkNest "SpillForge$Listing" (80 : Nat) "SpillForge$Code" "secondGoal" "[I" "SpillForge"),
  (Jvm.Cond.fieldLinkNest "SpillForge$Live" (91 : Nat) "SpillForge$Code" "secondGoal" "[I" "SpillForge"),
  (Jvm.Cond.fieldLinkNest "SpillForge$Machine" (98 : Nat) "SpillForge$Code" "secondGoal" "[I" "SpillForge"),
  (Jvm.Cond.fieldLinkNest "SpillForge$Listing" (44 : Nat) "SpillForge$Code" "op" "[I" "SpillForge"),
  (Jvm.Cond.fieldLinkNest "SpillForge$Machine" (80 : Nat) "SpillForge$Code" "op" "[I" "SpillForge"),
  (Jvm.Cond.fieldLinkNest "SpillForge$Giver" (249 : Nat) "SpillForge$Code" "op" "[I" "SpillForge"),
  (Jvm.Cond.fieldLinkNest "SpillForge$Colouring" (61 : Nat) "SpillForge$Code" "set" "[I" "SpillForge"),
  (Jvm.Cond.fieldLinkNest "SpillForge$Listing" (94 : Nat) "SpillForge$Code" "set" "[I" "SpillForge"),
  (Jvm.Cond.fieldLinkNest "SpillForge$Machine" (112 : Nat) "SpillForge$Code" "set" "[I" "SpillForge"),
  (Jvm.Cond.fieldLinkNest "SpillForge$Giver" (76 : Nat) "SpillForge$Code" "set" "[I" "SpillForge"),
  (Jvm.Cond.fieldLinkNest "SpillForge$Graph" (78 : Nat) "SpillForge$Code" "left" "[I" "SpillForge"),
  (Jvm.Cond.fieldLinkNest "SpillForge$Listing" (61 : Nat) "SpillForge$Code" "left" "[I" "SpillForge"),
  (Jvm.Cond.fieldLinkNest "SpillForge$Colouring" (68 : Nat) "SpillForge$Code" "left" "[I" "SpillForge"),
  (Jvm.Cond.fieldLinkNest "SpillForge$Machine" (83 : Nat) "SpillForge$Code" "left" "[I" "SpillForge"),
  (Jvm.Cond.fieldLinkNest "SpillForge$Giver" (83 : Nat) "SpillForge$Code" "left" "[I" "SpillForge"),
  (Jvm.Cond.fieldLinkNest "SpillForge$Listing" (64 : Nat) "SpillForge$Code" "leftNumber" "[I" "SpillForge"),
  (Jvm.Cond.fieldLinkNest "SpillForge$Machine" (86 : Nat) "SpillForge$Code" "leftNumber" "[I" "SpillForge"),
  (Jvm.Cond.fieldLinkNest "SpillForge$Giver" (252 : Nat) "SpillForge$Code" "leftNumber" "[I" "SpillForge"),
  (Jvm.Cond.fieldLinkNest "SpillForge$Colouring" (71 : Nat) "SpillForge$Code" "right" "[I" "SpillForge"),
  (Jvm.Cond.fieldLinkNest "SpillForge$Listing" (108 : Nat) "SpillForge$Code" "right" "[I" "SpillForge"),
  (Jvm.Cond.fieldLinkNest "SpillForge$Machine" (121 : Nat) "SpillForge$Code" "right" "[I" "SpillForge"),
  (Jvm.Cond.fieldLinkNest "SpillForge$Giver" (86 : Nat) "SpillForge$Code" "right" "[I" "SpillForge"),
  (Jvm.Cond.fieldLinkNest "SpillForge$Listing" (87 : Nat) "SpillForge$Code" "rightNumber" "[I" "SpillForge"),
  (Jvm.Cond.fieldLinkNest "SpillForge$Machine" (105 : Nat) "SpillForge$Code" "rightNumber" "[I" "SpillForge"),
  (Jvm.Cond.fieldLinkNest "SpillForge$Giver" (255 : Nat) "SpillForge$Code" "rightNumber" "[I" "SpillForge"),
  (Jvm.Cond.fieldLinkNest "SpillForge$Live" (44 : Nat) "SpillForge$Code" "blocks" "I" "SpillForge"),
  (Jvm.Cond.fieldLinkNest "SpillForge$Graph" (42 : Nat) "SpillForge$Code" "blocks" "I" "SpillForge"),
  (Jvm.Cond.fieldLinkNest "SpillForge$Listing" (19 : Nat) "SpillForge$Code" "blocks" "I" "SpillForge"),
  (Jvm.Cond.fieldLinkNest "SpillForge$Loops" (34 : Nat) "SpillForge$Code" "blocks" "I" "SpillForge"),
  (Jvm.Cond.fieldLinkNest "SpillForge$Colouring" (43 : Nat) "SpillForge$Code" "blocks" "I" "SpillForge"),
  (Jvm.Cond.fieldLinkNest "SpillForge$Reader" (104 : Nat) "SpillForge$Code" "blocks" "I" "SpillForge"),
  (Jvm.Cond.fieldLinkNest "SpillForge" (120 : Nat) "SpillForge$Code" "blocks" "I" "SpillForge"),
  (Jvm.Cond.fieldLinkNest "SpillForge$Machine" (128 : Nat) "SpillForge$Code" "blocks" "I" "SpillForge"),
  (Jvm.Cond.fieldLinkNest "SpillForge$Giver" (99 : Nat) "SpillForge$Code" "blocks" "I" "SpillForge"),
  (Jvm.Cond.fieldLinkNest "SpillForge$Machine" (68 : Nat) "SpillForge$Code" "lines" "I" "SpillForge"),
  (Jvm.Cond.fieldLinkNest "SpillForge$Giver" (73 : Nat) "SpillForge$Code" "lines" "I" "SpillForge"),
  (Jvm.Cond.fieldLinkNest "SpillForge$Giver" (159 : Nat) "SpillForge$Code" "isFull" "Z" "SpillForge"),
  (Jvm.Cond.methodLinkNest "SpillForge" (36 : Nat) ({ cls := "SpillForge$Loops", name := "<init>", desc := "()V" } : Jvm.MethodName) "SpillForge"),
  (Jvm.Cond.methodLinkNest "SpillForge$Giver" (11 : Nat) ({ cls := "SpillForge$Graph", name := "<init>", desc := "()V" } : Jvm.MethodName) "SpillForge"),
  (Jvm.Cond.methodLinkNest "SpillForge$Graph" (11 : Nat) ({ cls := "SpillForge$Live", name := "<init>", desc := "()V" } : Jvm.MethodName) "SpillForge"),
  (Jvm.Cond.fieldLinkNest "SpillForge$Graph" (88 : Nat) "SpillForge$Live" "now" "[J" "SpillForge"),
  (Jvm.Cond.fieldLinkNest "SpillForge$Graph" (33 : Nat) "SpillForge$Live" "names" "I" "SpillForge"),
  (Jvm.Cond.fieldLinkNest "SpillForge$Graph" (38 : Nat) "SpillForge$Live" "words" "I" "SpillForge"),
  (Jvm.Cond.fieldLinkNest "SpillForge$Giver" (102 : Nat) "SpillForge$Graph" "live" "LSpillForge$Live;" "SpillForge"),
  (Jvm.Cond.fieldLinkNest "SpillForge$Colouring" (104 : Nat) "SpillForge$Graph" "joined" "[J" "SpillForge"),
  (Jvm.Cond.fieldLinkNest "SpillForge$Colouring" (83 : Nat) "SpillForge$Graph" "degree" "[I" "SpillForge"),
  (Jvm.Cond.fieldLinkNest "SpillForge$Giver" (129 : Nat) "SpillForge$Graph" "degree" "[I" "SpillForge"),
  (Jvm.Cond.fieldLinkNest "SpillForge$Colouring" (80 : Nat) "SpillForge$Graph" "names" "I" "SpillForge"),
  (Jvm.Cond.fieldLinkNest "SpillForge$Colouring" (101 : Nat) "SpillForge$Graph" "words" "I" "SpillForge"),
  (Jvm.Cond.methodLinkNest "SpillForge" (52 : Nat) ({ cls := "SpillForge$Machine", name := "<init>", desc := "()V" } : Jvm.MethodName) "SpillForge"),
  (Jvm.Cond.methodLinkNest "SpillForge" (59 : Nat) ({ cls := "SpillForge$Listing", name := "<init>", desc := "()V" } : Jvm.MethodName) "SpillForge"),
  (Jvm.Cond.methodLinkNest "SpillForge$Graph" (93 : Nat) ({ cls := "SpillForge", name := "lowestBit", desc := "(J)I" } : Jvm.MethodName) "SpillForge"),
  (Jvm.Cond.castable "java/lang/IndexOutOfBoundsException" "java/lang/IndexOutOfBoundsException"),
  (Jvm.Cond.declares ({ cls := "java/lang/RuntimeException", name := "<init>", desc := "()V" } : Jvm.MethodName)),
  (Jvm.Cond.declares ({ cls := "java/lang/RuntimeException", name := "<init>", desc := "(Ljava/lang/String;)V" } : Jvm.MethodName)),
  (Jvm.Cond.declares ({ cls := "java/lang/Exception", name := "<init>", desc := "()V" } : Jvm.MethodName)),
  (Jvm.Cond.declares ({ cls := "java/lang/Exception", name := "<init>", desc := "(Ljava/lang/String;)V" } : Jvm.MethodName)),
  (Jvm.Cond.declares ({ cls := "java/lang/Throwable", name := "<init>", desc := "()V" } : Jvm.MethodName)),
  (Jvm.Cond.declares ({ cls := "java/lang/Throwable", name := "<init>", desc := "(Ljava/lang/String;)V" } : Jvm.MethodName)),
  (Jvm.Cond.castable "java/lang/IllegalArgumentException" "java/lang/IllegalArgumentException"),
  (Jvm.Cond.castable "java/lang/IllegalStateException" "java/lang/IllegalStateException"),
  (Jvm.Cond.methodLinkNest "SpillForge$Colouring" (108 : Nat) ({ cls := "SpillForge", name := "lowestBit", desc := "(J)I" } : Jvm.MethodName) "SpillForge"),
  (Jvm.Cond.castable "java/util/NoSuchElementException" "java/util/NoSuchElementException"),
  (Jvm.Cond.methodLinkNest "SpillForgeModel" (360 : Nat) ({ cls := "SpillForgeModel$Code", name := "<init>", desc := "()V" } : Jvm.MethodName) "SpillForgeModel"),
  (Jvm.Cond.castable "[B" "java/lang/Cloneable"),
  (Jvm.Cond.castable "SpillForgeModel$Wrong" "SpillForgeModel$Wrong"),
  (Jvm.Cond.methodLinkNest "SpillForgeModel$Code" (32 : Nat) ({ cls := "SpillForgeModel$Block", name := "<init>", desc := "()V" } : Jvm.MethodName) "SpillForgeModel"),
  (Jvm.Cond.methodLinkNest "SpillForgeModel$Block" (20 : Nat) ({ cls := "SpillForgeModel$Row", name := "<init>", desc := "()V" } : Jvm.MethodName) "SpillForgeModel"),
  (Jvm.Cond.methodLinkNest "SpillForgeModel$Code" (47 : Nat) ({ cls := "SpillForgeModel$Row", name := "<init>", desc := "()V" } : Jvm.MethodName) "SpillForgeModel"),
  (Jvm.Cond.methodLinkNest "SpillForgeModel$Reader" (233 : Nat) ({ cls := "SpillForgeModel", name := "operation", desc := "(Ljava/lang/String;)I" } : Jvm.MethodName) "SpillForgeModel"),
  (Jvm.Cond.castable "[I" "java/lang/Cloneable"),
  (Jvm.Cond.castable "java/lang/ArrayIndexOutOfBoundsException" "java/lang/IndexOutOfBoundsException"),
  (Jvm.Cond.castable "java/lang/StringIndexOutOfBoundsException" "java/lang/IndexOutOfBoundsException"),
  (Jvm.Cond.castable "SpillForgeModel$Block" "SpillForgeModel$Block"),
  (Jvm.Cond.castable "SpillForgeModel$Row" "SpillForgeModel$Row"),
  (Jvm.Cond.declares ({ cls := "java/lang/Object", name := "getClass", desc := "()Ljava/lang/Class;" } : Jvm.MethodName)),
  (Jvm.Cond.castable "SpillForge" "java/lang/Object"),
  (Jvm.Cond.castable "SpillForge$Tape" "java/lang/Object"),
  (Jvm.Cond.castable "SpillForge$Reader" "java/lang/Object"),
  (Jvm.Cond.castable "SpillForge$Signs" "java/lang/Object"),
  (Jvm.Cond.castable "SpillForge$Code" "java/lang/Object"),
  (Jvm.Cond.castable "SpillForge$Loops" "java/lang/Object"),
  (Jvm.Cond.castable "SpillForge$Giver" "java/lang/Object"),
  (Jvm.Cond.castable "SpillForge$Graph" "java/lang/Object"),
  (Jvm.Cond.castable "SpillForge$Live" "java/lang/Object"),
  (Jvm.Cond.castable "SpillForge$Colouring" "java/lang/Object"),
  (Jvm.Cond.castable "SpillForge$Machine" "java/lang/Object"),
  (Jvm.Cond.castable "SpillForge$Listing" "java/lang/Object"),
  (Jvm.Cond.castable "SpillForgeModel" "java/lang/Object"),
  (Jvm.Cond.castable "SpillForgeModel$Code" "java/lang/Object"),
  (Jvm.Cond.castable "SpillForgeModel$Reader" "java/lang/Object"),
  (Jvm.Cond.castable "java/lang/String" "java/lang/Object"),
  (Jvm.Cond.castable "SpillForgeModel$Wrong" "java/lang/Object"),
  (Jvm.Cond.castable "SpillForgeModel$Block" "java/lang/Object"),
  (Jvm.Cond.castable "SpillForgeModel$Row" "java/lang/Object")]
def gnK : Cond → Bool
  | .fieldLinkNest .. => true
  | .methodLinkNest .. => true
  | .castable .. => true
  | .declares .. => true
  | _ => false
theorem gnK_all : gNest.all gnK = true := by rfl
theorem gn_warm {w : Cond} (h : gnK w = true) {s U : State} (hW : s.WarmedH U.vm) (hZ : va_Nw w s) : va_Nw w U := by
  cases w <;> first | exact va_Nw.warmF hW hZ | exact va_Nw.warmM hW hZ | exact va_Nw.warmC hW hZ | exact va_Nw.warmD hW hZ | (cases h; done)
def gNC : List (String × String) := [("SpillForge", "java/lang/IndexOutOfBoundsException"), ("SpillForge$Tape", "java/lang/IndexOutOfBoundsException"), ("SpillForge$Reader", "java/lang/IndexOutOfBoundsException"), ("SpillForge$Signs", "java/lang/IndexOutOfBoundsException"), ("SpillForge$Code", "java/lang/IndexOutOfBoundsException"), ("SpillForge$Loops", "java/lang/IndexOutOfBoundsException"), ("SpillForge$Giver", "java/lang/IndexOutOfBoundsException"), ("SpillForge$Graph", "java/lang/IndexOutOfBoundsException"), ("SpillForge$Live", "java/lang/IndexOutOfBoundsException"), ("SpillForge$Colouring", "java/lang/IndexOutOfBoundsException"), ("SpillForge$Machine", "java/lang/IndexOutOfBoundsException"), ("SpillForge$Listing", "java/lang/IndexOutOfBoundsException"), ("SpillForgeModel", "java/lang/IndexOutOfBoundsException"), ("SpillForgeModel$Code", "java/lang/IndexOutOfBoundsException"), ("java/util/ArrayList", "java/lang/IndexOutOfBoundsException"), ("java/lang/StringBuilder", "java/lang/IndexOutOfBoundsException"), ("java/lang/IllegalArgumentException", "java/lang/IndexOutOfBoundsException"), ("SpillForgeModel$Reader", "java/lang/IndexOutOfBoundsException"), ("java/lang/String", "java/lang/IndexOutOfBoundsException"), ("SpillForgeModel$Wrong", "java/lang/IndexOutOfBoundsException"), ("SpillForgeModel$Block", "java/lang/IndexOutOfBoundsException"), ("SpillForgeModel$Row", "java/lang/IndexOutOfBoundsException"), ("java/lang/IllegalStateException", "java/lang/IndexOutOfBoundsException"), ("java/util/NoSuchElementException", "java/lang/IndexOutOfBoundsException"), ("SpillForge", "java/lang/IllegalArgumentException"), ("SpillForge$Tape", "java/lang/IllegalArgumentException"), ("SpillForge$Reader", "java/lang/IllegalArgumentException"), ("SpillForge$Signs", "java/lang/IllegalArgumentException"), ("SpillForge$Code", "java/lang/IllegalArgumentException"), ("SpillForge$Loops", "java/lang/IllegalArgumentException"), ("SpillForge$Giver", "java/lang/IllegalArgumentException"), ("SpillForge$Graph", "java/lang/IllegalArgumentException"), ("SpillForge$Live", "java/lang/IllegalArgumentException"), ("SpillForge$Colouring", "java/lang/IllegalArgumentException"), ("SpillForge$Machine", "java/lang/IllegalArgumentException"), ("SpillForge$Listing", "java/lang/IllegalArgumentException"), ("SpillForgeModel", "java/lang/IllegalArgumentException"), ("SpillForgeModel$Code", "java/lang/IllegalArgumentException"), ("java/util/ArrayList", "java/lang/IllegalArgumentException"), ("java/lang/StringBuilder", "java/lang/IllegalArgumentException"), ("java/lang/IndexOutOfBoundsException", "java/lang/IllegalArgumentException"), ("SpillForgeModel$Reader", "java/lang/IllegalArgumentException"), ("java/lang/String", "java/lang/IllegalArgumentException"), ("SpillForgeModel$Wrong", "java/lang/IllegalArgumentException"), ("SpillForgeModel$Block", "java/lang/IllegalArgumentException"), ("SpillForgeModel$Row", "java/lang/IllegalArgumentException"), ("java/lang/IllegalStateException", "java/lang/IllegalArgumentException"), ("java/util/NoSuchElementException", "java/lang/IllegalArgumentException"), ("java/lang/StringIndexOutOfBoundsException", "java/lang/IllegalArgumentException"), ("java/lang/ArrayIndexOutOfBoundsException", "java/lang/IllegalArgumentException"), ("SpillForge", "java/lang/IllegalStateException"), ("SpillForge$Tape", "java/lang/IllegalStateException"), ("SpillForge$Reader", "java/lang/IllegalStateException"), ("SpillForge$Signs", "java/lang/IllegalStateException"), ("SpillForge$Code", "java/lang/IllegalStateException"), ("SpillForge$Loops", "java/lang/IllegalStateException"), ("SpillForge$Giver", "java/lang/IllegalStateException"), ("SpillForge$Graph", "java/lang/IllegalStateException"), ("SpillForge$Live", "java/lang/IllegalStateException"), ("SpillForge$Colouring", "java/lang/IllegalStateException"), ("SpillForge$Machine", "java/lang/IllegalStateException"), ("SpillForge$Listing", "java/lang/IllegalStateException"), ("SpillForgeModel", "java/lang/IllegalStateException"), ("SpillForgeModel$Code", "java/lang/IllegalStateException"), ("java/util/ArrayList", "java/lang/IllegalStateException"), ("java/lang/StringBuilder", "java/lang/IllegalStateException"), ("java/lang/IndexOutOfBoundsException", "java/lang/IllegalStateException"), ("java/lang/IllegalArgumentException", "java/lang/IllegalStateException"), ("SpillForgeModel$Reader", "java/lang/IllegalStateException"), ("java/lang/String", "java/lang/IllegalStateException"), ("SpillForgeModel$Wrong", "java/lang/IllegalStateException"), ("SpillForgeModel$Block", "java/lang/IllegalStateException"), ("SpillForgeModel$Row", "java/lang/IllegalStateException"), ("java/util/NoSuchElementException", "java/lang/IllegalStateException"), ("java/lang/StringIndexOutOfBoundsException", "java/lang/IllegalStateException"), ("java/lang/ArrayIndexOutOfBoundsException", "java/lang/IllegalStateException"), ("SpillForge", "java/util/NoSuchElementException"), ("SpillForge$Tape", "java/util/NoSuchElementException"), ("SpillForge$Reader", "java/util/NoSuchElementException"), ("SpillForge$Signs", "java/util/NoSuchElementException"), ("SpillForge$Code", "java/util/NoSuchElementException"), ("SpillForge$Loops", "java/util/NoSuchElementException"), ("SpillForge$Giver", "java/util/NoSuchElementException"), ("SpillForge$Graph", "java/util/NoSuchElementException"), ("SpillForge$Live", "java/util/NoSuchElementException"), ("SpillForge$Colouring", "java/util/NoSuchElementException"), ("SpillForge$Machine", "java/util/NoSuchElementException"), ("SpillForge$Listing", "java/util/NoSuchElementException"), ("SpillForgeModel", "java/util/NoSuchElementException"), ("SpillForgeModel$Code", "java/util/NoSuchElementException"), ("java/util/ArrayList", "java/util/NoSuchElementException"), ("java/lang/StringBuilder", "java/util/NoSuchElementException"), ("java/lang/IndexOutOfBoundsException", "java/util/NoSuchElementException"), ("java/lang/IllegalArgumentException", "java/util/NoSuchElementException"), ("SpillForgeModel$Reader", "java/util/NoSuchElementException"), ("java/lang/String", "java/util/NoSuchElementException"), ("SpillForgeModel$Wrong", "java/util/NoSuchElementException"), ("SpillForgeModel$Block", "java/util/NoSuchElementException"), ("SpillForgeModel$Row", "java/util/NoSuchElementException"), ("java/lang/IllegalStateException", "java/util/NoSuchElementException"), ("java/lang/StringIndexOutOfBoundsException", "java/util/NoSuchElementException"), ("java/lang/ArrayIndexOutOfBoundsException", "java/util/NoSuchElementException"), ("SpillForge", "SpillForgeModel$Wrong"), ("SpillForge$Tape", "SpillForgeModel$Wrong"), ("SpillForge$Reader", "SpillForgeModel$Wrong"), ("SpillForge$Signs", "SpillForgeModel$Wrong"), ("SpillForge$Code", "SpillForgeModel$Wrong"), ("SpillForge$Loops", "SpillForgeModel$Wrong"), ("SpillForge$Giver", "SpillForgeModel$Wrong"), ("SpillForge$Graph", "SpillForgeModel$Wrong"), ("SpillForge$Live", "SpillForgeModel$Wrong"), ("SpillForge$Colouring", "SpillForgeModel$Wrong"), ("SpillForge$Machine", "SpillForgeModel$Wrong"), ("SpillForge$Listing", "SpillForgeModel$Wrong"), ("SpillForgeModel", "SpillForgeModel$Wrong"), ("SpillForgeModel$Code", "SpillForgeModel$Wrong"), ("java/util/ArrayList", "SpillForgeModel$Wrong"), ("java/lang/StringBuilder", "SpillForgeModel$Wrong"), ("java/lang/IndexOutOfBoundsException", "SpillForgeModel$Wrong"), ("java/lang/IllegalArgumentException", "SpillForgeModel$Wrong"), ("SpillForgeModel$Reader", "SpillForgeModel$Wrong"), ("java/lang/String", "SpillForgeModel$Wrong"), ("SpillForgeModel$Block", "SpillForgeModel$Wrong"), ("SpillForgeModel$Row", "SpillForgeModel$Wrong"), ("java/lang/IllegalStateException", "SpillForgeModel$Wrong"), ("java/util/NoSuchElementException", "SpillForgeModel$Wrong"), ("java/lang/StringIndexOutOfBoundsException", "SpillForgeModel$Wrong"), ("java/lang/ArrayIndexOutOfBoundsException", "SpillForgeModel$Wrong"), ("SpillForge", "java/lang/String"), ("SpillForge$Tape", "java/lang/String"), ("SpillForge$Reader", "java/lang/String"), ("SpillForge$Signs", "java/lang/String"), ("SpillForge$Code", "java/lang/String"), ("SpillForge$Loops", "java/lang/String"), ("SpillForge$Giver", "java/lang/String"), ("SpillForge$Graph", "java/lang/String"), ("SpillForge$Live", "java/lang/String"), ("SpillForge$Colouring", "java/lang/String"), ("SpillForge$Machine", "java/lang/String"), ("SpillForge$Listing", "java/lang/String"), ("SpillForgeModel", "java/lang/String"), ("SpillForgeModel$Code", "java/lang/String"), ("java/util/ArrayList", "java/lang/String"), ("java/lang/StringBuilder", "java/lang/String"), ("java/lang/IndexOutOfBoundsException", "java/lang/String"), ("java/lang/IllegalArgumentException", "java/lang/String"), ("SpillForgeModel$Reader", "java/lang/String"), ("SpillForgeModel$Wrong", "java/lang/String"), ("SpillForgeModel$Block", "java/lang/String"), ("SpillForgeModel$Row", "java/lang/String"), ("java/lang/IllegalStateException", "java/lang/String"), ("java/util/NoSuchElementException", "java/lang/String"), ("java/lang/StringIndexOutOfBoundsException", "java/lang/String"), ("java/lang/ArrayIndexOutOfBoundsException", "java/lang/String"), ("java/lang/Integer", "java/lang/String")]
def gStr : List (String × Nat × String) := [("SpillForge$Signs", 81, "in"), ("SpillForge$Signs", 87, "show"), ("SpillForge$Signs", 89, "if"), ("SpillForge$Signs", 91, "jump"), ("SpillForge$Signs", 93, "ret"), ("SpillForge$Signs", 108, "+ - * / % & | ^ <<>>< <===!="), ("SpillForge", 70, "the tape would be too long"), ("SpillForge", 84, "the tape has not so many bytes"), ("SpillForge", 109, "so many registers cannot be given out"), ("SpillForge", 113, "there is no program"), ("SpillForge", 131, "nothing of that number is counted"), ("SpillForge", 160, "nothing of that number can be looked at"), ("SpillForge", 167, "the program has no such register or block"), ("SpillForge", 183, "so much fuel is not allowed"), ("SpillForge", 189, "there is nothing to run"), ("SpillForge", 210, "nothing of that number is told"), ("SpillForge", 212, "the run showed not so many"), ("SpillForge", 217, "there is nothing to list"), ("SpillForge$Listing", 24, "b"), ("SpillForge$Listing", 30, ":\n"), ("SpillForge$Listing", 59, "ret "), ("SpillForge$Listing", 92, "v"), ("SpillForge$Listing", 71, "jump b"), ("SpillForge$Listing", 76, "if "), ("SpillForge$Listing", 78, " b"), ("SpillForge$Listing", 83, "show "), ("SpillForge$Listing", 85, "slot "), ("SpillForge$Listing", 90, " = v"), ("SpillForge$Listing", 97, " = "), ("SpillForge$Listing", 102, "in"), ("SpillForge$Listing", 111, "+ - * / % & | ^ <<>>< <===!="), ("SpillForge", 222, "the result has no such byte"), ("SpillForgeModel$Reader", 9, ""), ("java/util/Arrays", 337, " > "), ("SpillForgeModel$Reader", 98, " in show if jump ret phi "), ("SpillForgeModel$Reader", 100, " "), ("SpillForgeModel$Reader", 117, " << >> <= == != "), ("SpillForgeModel$Reader", 119, "+-*/%&|^<(),:="), ("SpillForgeModel$Reader", 171, ":"), ("SpillForgeModel$Reader", 179, "show"), ("SpillForgeModel$Reader", 229, "="), ("SpillForgeModel$Reader", 231, "in"), ("SpillForgeModel", 3, " + - * / % & | ^ << >> < <= == != "), ("SpillForgeModel", 11, " "), ("SpillForgeModel$Reader", 245, "jump"), ("SpillForgeModel$Reader", 250, "if"), ("SpillForgeModel$Reader", 252, "ret"), ("java/util/ArrayList", 201, "Index: "), ("java/util/ArrayList", 203, ", Size: "), ("java/lang/StringIndexOutOfBoundsException", 13, "String index out of range: "), ("java/util/Arrays", 48, "fromIndex("), ("java/util/Arrays", 57, ") > toIndex("), ("java/util/Arrays", 59, ")"), ("java/lang/ArrayIndexOutOfBoundsException", 13, "Array index out of range: "), ("SpillForgeModel", 345, "show "), ("SpillForgeModel", 347, "slot "), ("SpillForgeModel", 349, " = "), ("SpillForgeModel", 351, "in"), ("SpillForgeModel", 333, "jump"), ("SpillForgeModel", 335, "if "), ("SpillForgeModel", 337, "ret "), ("SpillForgeModel", 343, " b")]
/-- what the start gives beside the words that stay -/
def gEx (A : Nat → Prop) (s : State) (H : Heap) : Prop := (∀ w ∈ gNest, va_Nw w s) ∧ (∀ q ∈ gStr, ∃ a, vk_R q.1 q.2.1 q.2.2 a s) ∧ (∀ q ∈ gNC, va_Nc q.1 q.2 s) ∧ vx_Zq Bundle.tN "UNASSIGNED_STACK" Bundle.steD A s H ∧ vx_Zq Bundle.tN "SUPPRESSED_SENTINEL" Bundle.listD A s H ∧ va_Z "java/lang/String" "COMPACT_STRINGS" "Z" (.int 1) A s H ∧ (∃ t, va_Z "java/util/ArrayList" "DEFAULTCAPACITY_EMPTY_ELEMENTDATA" "[Ljava/lang/Object;" (.ref t) A s H) ∧ gAr .long s
def sb_0 : List Int32 := [105, 110]
def sb_1 : List Int32 := [115, 104, 111, 119]
def sb_2 : List Int32 := [105, 102]
def sb_3 : List Int32 := [106, 117, 109, 112]
def sb_4 : List Int32 := [114, 101, 116]
def sb_5 : List Int32 := [43, 32, 45, 32, 42, 32, 47, 32, 37, 32, 38, 32, 124, 32, 94, 32, 60, 60, 62, 62, 60, 32, 60, 61, 61, 61, 33, 61]
def sb_6 : List Int32 := [116, 104, 101, 32, 116, 97, 112, 101, 32, 119, 111, 117, 108, 100, 32, 98, 101, 32, 116, 111, 111, 32, 108, 111, 110, 103]
def sb_7 : List Int32 := [116, 104, 101, 32, 116, 97, 112, 101, 32, 104, 97, 115, 32, 110, 111, 116, 32, 115, 111, 32, 109, 97, 110, 121, 32, 98, 121, 116, 101, 115]
def sb_8 : List Int32 := [115, 111, 32, 109, 97, 110, 121, 32, 114, 101, 103, 105, 115, 116, 101, 114, 115, 32, 99, 97, 110, 110, 111, 116, 32, 98, 101, 32, 103, 105, 118, 101, 110, 32, 111, 117, 116]
def sb_9 : List Int32 := [116, 104, 101, 114, 101, 32, 105, 115, 32, 110, 111, 32, 112, 114, 111, 103, 114, 97, 109]
def sb_10 : List Int32 := [110, 111, 116, 104, 105, 110, 103, 32, 111, 102, 32, 116, 104, 97, 116, 32, 110, 117, 109, 98, 101, 114, 32, 105, 115, 32, 99, 111, 117, 110, 116, 101, 100]
def sb_11 : List Int32 := [110, 111, 116, 104, 105, 110, 103, 32, 111, 102, 32, 116, 104, 97, 116, 32, 110, 117, 109, 98, 101, 114, 32, 99, 97, 110, 32, 98, 101, 32, 108, 111, 111, 107, 101, 100, 32, 97, 116]
def sb_12 : List Int32 := [116, 104, 101, 32, 112, 114, 111, 103, 114, 97, 109, 32, 104, 97, 115, 32, 110, 111, 32, 115, 117, 99, 104, 32, 114, 101, 103, 105, 115, 116, 101, 114, 32, 111, 114, 32, 98, 108, 111, 99, 107]
def sb_13 : List Int32 := [115, 111, 32, 109, 117, 99, 104, 32, 102, 117, 101, 108, 32, 105, 115, 32, 110, 111, 116, 32, 97, 108, 108, 111, 119, 101, 100]
def sb_14 : List Int32 := [116, 104, 101, 114, 101, 32, 105, 115, 32, 110, 111, 116, 104, 105, 110, 103, 32, 116, 111, 32, 114, 117, 110]
def sb_15 : List Int32 := [110, 111, 116, 104, 105, 110, 103, 32, 111, 102, 32, 116, 104, 97, 116, 32, 110, 117, 109, 98, 101, 114, 32, 105, 115, 32, 116, 111, 108, 100]
def sb_16 : List Int32 := [116, 104, 101, 32, 114, 117, 110, 32, 115, 104, 111, 119, 101, 100, 32, 110, 111, 116, 32, 115, 111, 32, 109, 97, 110, 121]
def sb_17 : List Int32 := [116, 104, 101, 114, 101, 32, 105, 115, 32, 110, 111, 116, 104, 105, 110, 103, 32, 116, 111, 32, 108, 105, 115, 116]
def sb_18 : List Int32 := [98]
def sb_19 : List Int32 := [58, 10]
def sb_20 : List Int32 := [114, 101, 116, 32]
def sb_21 : List Int32 := [118]
def sb_22 : List Int32 := [106, 117, 109, 112, 32, 98]
def sb_23 : List Int32 := [105, 102, 32]
def sb_24 : List Int32 := [32, 98]
def sb_25 : List Int32 := [115, 104, 111, 119, 32]
def sb_26 : List Int32 := [115, 108, 111, 116, 32]
def sb_27 : List Int32 := [32, 61, 32, 118]
def sb_28 : List Int32 := [32, 61, 32]
def sb_29 : List Int32 := [105, 110]
def sb_30 : List Int32 := [43, 32, 45, 32, 42, 32, 47, 32, 37, 32, 38, 32, 124, 32, 94, 32, 60, 60, 62, 62, 60, 32, 60, 61, 61, 61, 33, 61]
def sb_31 : List Int32 := [116, 104, 101, 32, 114, 101, 115, 117, 108, 116, 32, 104, 97, 115, 32, 110, 111, 32, 115, 117, 99, 104, 32, 98, 121, 116, 101]
def sb_32 : List Int32 := []
def sb_33 : List Int32 := [32, 62, 32]
def sb_34 : List Int32 := [32, 105, 110, 32, 115, 104, 111, 119, 32, 105, 102, 32, 106, 117, 109, 112, 32, 114, 101, 116, 32, 112, 104, 105, 32]
def sb_35 : List Int32 := [32]
def sb_36 : List Int32 := [32, 60, 60, 32, 62, 62, 32, 60, 61, 32, 61, 61, 32, 33, 61, 32]
def sb_37 : List Int32 := [43, 45, 42, 47, 37, 38, 124, 94, 60, 40, 41, 44, 58, 61]
def sb_38 : List Int32 := [58]
def sb_39 : List Int32 := [115, 104, 111, 119]
def sb_40 : List Int32 := [61]
def sb_41 : List Int32 := [105, 110]
def sb_42 : List Int32 := [32, 43, 32, 45, 32, 42, 32, 47, 32, 37, 32, 38, 32, 124, 32, 94, 32, 60, 60, 32, 62, 62, 32, 60, 32, 60, 61, 32, 61, 61, 32, 33, 61, 32]
def sb_43 : List Int32 := [32]
def sb_44 : List Int32 := [106, 117, 109, 112]
def sb_45 : List Int32 := [105, 102]
def sb_46 : List Int32 := [114, 101, 116]
def sb_47 : List Int32 := [73, 110, 100, 101, 120, 58, 32]
def sb_48 : List Int32 := [44, 32, 83, 105, 122, 101, 58, 32]
def sb_49 : List Int32 := [83, 116, 114, 105, 110, 103, 32, 105, 110, 100, 101, 120, 32, 111, 117, 116, 32, 111, 102, 32, 114, 97, 110, 103, 101, 58, 32]
def sb_50 : List Int32 := [102, 114, 111, 109, 73, 110, 100, 101, 120, 40]
def sb_51 : List Int32 := [41, 32, 62, 32, 116, 111, 73, 110, 100, 101, 120, 40]
def sb_52 : List Int32 := [41]
def sb_53 : List Int32 := [65, 114, 114, 97, 121, 32, 105, 110, 100, 101, 120, 32, 111, 117, 116, 32, 111, 102, 32, 114, 97, 110, 103, 101, 58, 32]
def sb_54 : List Int32 := [115, 104, 111, 119, 32]
def sb_55 : List Int32 := [115, 108, 111, 116, 32]
def sb_56 : List Int32 := [32, 61, 32]
def sb_57 : List Int32 := [105, 110]
def sb_58 : List Int32 := [106, 117, 109, 112]
def sb_59 : List Int32 := [105, 102, 32]
def sb_60 : List Int32 := [114, 101, 116, 32]
def sb_61 : List Int32 := [32, 98]
def gSB : List (List Int32) := [sb_0, sb_1, sb_2, sb_3, sb_4, sb_5, sb_6, sb_7, sb_8, sb_9, sb_10, sb_11, sb_12, sb_13, sb_14, sb_15, sb_16, sb_17, sb_18, sb_19, sb_20, sb_21, sb_22, sb_23, sb_24, sb_25, sb_26, sb_27, sb_28, sb_29, sb_30, sb_31, sb_32, sb_33, sb_34, sb_35, sb_36, sb_37, sb_38, sb_39, sb_40, sb_41, sb_42, sb_43, sb_44, sb_45, sb_46, sb_47, sb_48, sb_49, sb_50, sb_51, sb_52, sb_53, sb_54, sb_55, sb_56, sb_57, sb_58, sb_59, sb_60, sb_61]
def gSC (a b : Nat) (bs : List Int32) (A : Nat → Prop) (s : State) (H : Heap) : Prop := va_O "java/lang/String" a A s H ∧ va_OF "java/lang/String" "coder" "B" (.int 0) a A s H ∧ va_OF "java/lang/String" "value" "[B" (.ref b) a A s H ∧ va_T .byte b bs.length (fun j => .int (bs.getD j 0)) A s H
def gSX (D : va_G) (A : Nat → Prop) (s : State) (H : Heap) : Prop := ∀ (i : Nat) (q : String × Nat × String) (bs : List Int32), gStr[i]? = some q → gSB[i]? = some bs → vk_R q.1 q.2.1 q.2.2 (D.2 1000 i) s ∧ gSC (D.2 1000 i) (D.2 1001 i) bs A s H
def gCast : List (String × String) := [("SpillForgeModel$Block", "SpillForgeModel$Block"), ("SpillForgeModel$Row", "SpillForgeModel$Row"), ("SpillForgeModel$Block", "java/lang/Object"), ("SpillForgeModel$Row", "java/lang/Object"), ("java/lang/String", "java/lang/Object"), ("SpillForgeModel$Wrong", "SpillForgeModel$Wrong")]
def dg_O (j : Nat) : Int32 := Int32.ofNat (48 + j % 10)
def dg_T (j : Nat) : Int32 := Int32.ofNat (48 + j / 10)
def gRX (D : va_G) (A : Nat → Prop) (s : State) (H : Heap) : Prop := (∀ q ∈ gCast, va_Nw (.castable q.1 q.2) s) ∧ va_Mi "[Ljava/lang/Object;" (D.2 1002 0) s ∧ va_Dc s ∧ va_Z "java/util/ArrayList" "DEFAULTCAPACITY_EMPTY_ELEMENTDATA" "[Ljava/lang/Object;" (.ref (D.2 1002 1)) A s H ∧ va_T (.object "java/lang/Object") (D.2 1002 1) 0 (fun _ => .null) A s H ∧ va_Z "java/lang/Integer" "DigitOnes" "[B" (.ref (D.2 1002 2)) A s H ∧ va_T .byte (D.2 1002 2) 100 (fun j => .int (dg_O j)) A s H ∧ va_Z "java/lang/Integer" "DigitTens" "[B" (.ref (D.2 1002 3)) A s H ∧ va_T .byte (D.2 1002 3) 100 (fun j => .int (dg_T j)) A s H ∧ va_AO "java/lang/Object" s
def gExS (D : va_G) (A : Nat → Prop) (s : State) (H : Heap) : Prop := gEx A s H ∧ gSX D A s H ∧ va_Zq "jdk/internal/util/Preconditions" "SIOOBE_FORMATTER" "Ljava/util/function/BiFunction;" A s H ∧ gRX D A s H
abbrev gV (D : va_G) (I : FieldType → ClassId) : gEnv := (D, vwCl, gTy I, gExS D, gw)
theorem gSC.moved {a b : Nat} {bs : List Int32} {A : Nat → Prop} {u U : State} {H : Heap} (hvm : u.vm.Alike U.vm) (h : gSC a b bs A u H) : gSC a b bs A U H := ⟨va_O.moved hvm h.1, va_OF.moved hvm h.2.1, va_OF.moved hvm h.2.2.1, va_T.moved hvm h.2.2.2⟩
theorem gSC.kept {a b : Nat} {bs : List Int32} {A : Nat → Prop} {U : State} {H H1 : Heap} (h : gSC a b bs A U H) (hq : ∀ a : Nat, a < H.size → ¬ A a → H1[a]? = H[a]?) : gSC a b bs A U H1 := ⟨h.1.kept hq, h.2.1.kept hq, h.2.2.1.kept hq, h.2.2.2.kept hq⟩
theorem gSC.narrow {a b : Nat} {bs : List Int32} {A B : Nat → Prop} {U : State} {H : Heap} (h : gSC a b bs A U H) (hAB : ∀ q, B q → A q) : gSC a b bs B U H := ⟨h.1.narrow hAB, h.2.1.narrow hAB, h.2.2.1.narrow hAB, h.2.2.2.narrow hAB⟩
theorem gV_ok (D : va_G) (I : FieldType → ClassId) : gOk (gV D I) := by
  refine ⟨?_, ?_, ?_, gw_good⟩
  · rintro A u U H hW ⟨⟨h1, h4, h5, h2, h3, h6, ⟨t, h7⟩, h8⟩, hs, hz, ⟨r1, r2, r3, r4, r5, r6, r7, r8, r9, r10⟩⟩
    exact ⟨⟨fun w hw => gn_warm (List.all_eq_true.mp gnK_all w hw) hW (h1 w hw), fun q hq => (h4 q hq).imp (fun a z => vk_R.warm hW z), fun q hq => (h5 q hq).moved hW.alike, h2.moved hW.alike, h3.moved hW.alike, h6.moved hW.alike, ⟨t, h7.moved hW.alike⟩, h8.moved hW.alike⟩, fun i q bs e1 e2 => ⟨vk_R.warm hW (hs i q bs e1 e2).1, (hs i q bs e1 e2).2.moved hW.alike⟩, hz.moved hW.alike, fun q hq => va_Nw.warmC hW (r1 q hq), r2.moved hW.alike, r3.moved hW.alike, r4.moved hW.alike, va_T.moved hW.alike r5, r6.moved hW.alike, va_T.moved hW.alike r7, r8.moved hW.alike, va_T.moved hW.alike r9, r10.moved hW.alike⟩
  · rintro A u H H1 hk ⟨⟨h1, h4, h5, h2, h3, h6, ⟨t, h7⟩, h8⟩, hs, hz, ⟨r1, r2, r3, r4, r5, r6, r7, r8, r9, r10⟩⟩
    exact ⟨⟨h1, h4, h5, h2.kept hk, h3.kept hk, h6.kept hk, ⟨t, h7.kept hk⟩, h8⟩, fun i q bs e1 e2 => ⟨(hs i q bs e1 e2).1, (hs i q bs e1 e2).2.kept hk⟩, hz.kept hk, r1, r2, r3, r4.kept hk, r5.kept hk, r6.kept hk, r7.kept hk, r8.kept hk, r9.kept hk, r10⟩
  · rintro A B u H hAB ⟨⟨h1, h4, h5, h2, h3, h6, ⟨t, h7⟩, h8⟩, hs, hz, ⟨r1, r2, r3, r4, r5, r6, r7, r8, r9, r10⟩⟩
    exact ⟨⟨h1, h4, h5, h2.narrow hAB, h3.narrow hAB, h6.narrow hAB, ⟨t, h7.narrow hAB⟩, h8⟩, fun i q bs e1 e2 => ⟨(hs i q bs e1 e2).1, (hs i q bs e1 e2).2.narrow hAB⟩, hz.narrow hAB, r1, r2, r3, r4.narrow hAB, r5.narrow hAB, r6.narrow hAB, r7.narrow hAB, r8.narrow hAB, r9.narrow hAB, r10⟩
theorem gx_vk {D : va_G} {A : Nat → Prop} {s : State} {H : Heap} {own tx : String} {k : Nat} {bs : List Int32} (i : Nat) (h : gStr[i]? = some (own, k, tx)) (hb : gSB[i]? = some bs) (hE : gExS D A s H) : vk_R own k tx (D.2 1000 i) s := (hE.2.1 i _ bs h hb).1
theorem gx_sc {D : va_G} {q : String × Nat × String} {bs : List Int32} (i : Nat) (h : gStr[i]? = some q) (hb : gSB[i]? = some bs) : ∀ A s H, gExS D A s H → gSC (D.2 1000 i) (D.2 1001 i) bs A s H := fun _ _ _ hE => (hE.2.1 i _ bs h hb).2
theorem gz_pf {D : va_G} (A : Nat → Prop) (s : State) (H : Heap) (hE : gExS D A s H) : ∃ x, (x = Value.null ∨ ∃ t, x = Value.ref t) ∧ va_Z "jdk/internal/util/Preconditions" "SIOOBE_FORMATTER" "Ljava/util/function/BiFunction;" x A s H := by
  rcases hE.2.2.1 with h | ⟨t, h⟩
  · exact ⟨_, Or.inl rfl, h⟩
  · exact ⟨_, Or.inr ⟨t, rfl⟩, h⟩
theorem gx_ar {D : va_G} (A : Nat → Prop) (s : State) (H : Heap) (hE : gExS D A s H) : gAr .long s := hE.1.2.2.2.2.2.2.2
theorem gn_w {D : va_G} {A : Nat → Prop} {s : State} {H : Heap} {w : Cond} (i : Nat) (h : gNest[i]? = some w) (hE : gExS D A s H) : va_Nw w s := hE.1.1 w (List.mem_of_getElem? h)
theorem gnT_all : gNest.all (fun w => w.onTables) = true := by rfl
theorem gx_nc {D : va_G} {A : Nat → Prop} {s : State} {H : Heap} {a b : String} (i : Nat) (h : gNC[i]? = some (a, b)) (hE : gExS D A s H) : va_Nc a b s := hE.1.2.2.1 _ (List.mem_of_getElem? h)
theorem gx_str {D : va_G} {A : Nat → Prop} {s : State} {H : Heap} {own tx : String} {k : Nat} (i : Nat) (h : gStr[i]? = some (own, k, tx)) (hE : gExS D A s H) : (∃ a, vk_R own k tx a s) ∧ vx_Zq Bundle.tN "UNASSIGNED_STACK" Bundle.steD A s H ∧ vx_Zq Bundle.tN "SUPPRESSED_SENTINEL" Bundle.listD A s H ∧ ∀ w ∈ gNest, ∀ args, w.before args s = true :=
  ⟨hE.1.2.1 _ (List.mem_of_getElem? h), hE.1.2.2.2.1, hE.1.2.2.2.2.1, fun w hw args => va_Nw.use (List.all_eq_true.mp gnT_all w hw) (hE.1.1 w hw)⟩
theorem gz_cs {D : va_G} (A : Nat → Prop) (s : State) (H : Heap) (hE : gExS D A s H) : ∃ x, x = Value.int 1 ∧ va_Z "java/lang/String" "COMPACT_STRINGS" "Z" x A s H := ⟨_, rfl, hE.1.2.2.2.2.2.1⟩
theorem gz_al {D : va_G} (A : Nat → Prop) (s : State) (H : Heap) (hE : gExS D A s H) : ∃ x, (∃ t, x = Value.ref t) ∧ va_Z "java/util/ArrayList" "DEFAULTCAPACITY_EMPTY_ELEMENTDATA" "[Ljava/lang/Object;" x A s H := by
  obtain ⟨t, h⟩ := hE.1.2.2.2.2.2.2.1
  exact ⟨_, ⟨t, rfl⟩, h⟩
theorem gz_us {D : va_G} (A : Nat → Prop) (s : State) (H : Heap) (hE : gExS D A s H) : ∃ x, (x = Value.null ∨ ∃ t, x = Value.ref t) ∧ va_Z Bundle.tN "UNASSIGNED_STACK" Bundle.steD x A s H := by
  rcases hE.1.2.2.2.1.1 with h | ⟨t, h⟩
  · exact ⟨_, Or.inl rfl, h⟩
  · exact ⟨_, Or.inr ⟨t, rfl⟩, h⟩
theorem gz_ss {D : va_G} (A : Nat → Prop) (s : State) (H : Heap) (hE : gExS D A s H) : ∃ x, (x = Value.null ∨ ∃ t, x = Value.ref t) ∧ va_Z Bundle.tN "SUPPRESSED_SENTINEL" Bundle.listD x A s H := by
  rcases hE.1.2.2.2.2.1.1 with h | ⟨t, h⟩
  · exact ⟨_, Or.inl rfl, h⟩
  · exact ⟨_, Or.inr ⟨t, rfl⟩, h⟩
theorem gx_st {D : va_G} {A : Nat → Prop} {s : State} {H : Heap} {own tx : String} {k : Nat} (i : Nat) (h : gStr[i]? = some (own, k, tx)) (hE : gExS D A s H) : ∃ a, vk_R own k tx a s := hE.1.2.1 _ (List.mem_of_getElem? h)
theorem gl_refl (x : Int64) : lg_cmp x x = 0 := by simp [lg_cmp]
theorem gi_J0 : ∀ w ∈ u_ws RJ0 TJ0 4, w ∈ gw := List.forall_mem_cons.mpr ⟨gw_8 184 rfl rfl, List.forall_mem_cons.mpr ⟨gw_8 186 rfl rfl, List.forall_mem_cons.mpr ⟨gw_8 188 rfl rfl, List.forall_mem_cons.mpr ⟨gw_8 190 rfl rfl, fun _ h => absurd h List.not_mem_nil⟩⟩⟩⟩
theorem gk_J0 (D : va_G) (I : FieldType → ClassId) : gK (gV D I) 0 RJ0 TJ0 4 tyJ0 := ⟨rfl, gi_J0, tyJ0_ok, nmJ0⟩
theorem gfs_J0 : ∀ j, j < 4 → defaultValue (tyJ0 j) = vp_V [.null, .int 0, .int 0, .int 0] j := by
  intro j hj
  rcases (show j = 0 ∨ j = 1 ∨ j = 2 ∨ j = 3 by omega) with rfl | rfl | rfl | rfl <;> rfl
theorem gi_J4 : ∀ w ∈ u_ws RJ4 TJ4 4, w ∈ gw := List.forall_mem_cons.mpr ⟨gw_7 65 rfl rfl, List.forall_mem_cons.mpr ⟨gw_7 67 rfl rfl, List.forall_mem_cons.mpr ⟨gw_7 69 rfl rfl, List.forall_mem_cons.mpr ⟨gw_7 71 rfl rfl, fun _ h => absurd h List.not_mem_nil⟩⟩⟩⟩
theorem gk_J4 (D : va_G) (I : FieldType → ClassId) : gK (gV D I) 1 RJ4 TJ4 4 tyJ4 := ⟨rfl, gi_J4, tyJ4_ok, nmJ4⟩
theorem gfs_J4 : ∀ j, j < 4 → defaultValue (tyJ4 j) = vp_V [.null, .int 0, .int 0, .int 0] j := by
  intro j hj
  rcases (show j = 0 ∨ j = 1 ∨ j = 2 ∨ j = 3 by omega) with rfl | rfl | rfl | rfl <;> rfl
theorem gi_Jx00060 : ∀ w ∈ u_ws RJx00060 TJx00060 6, w ∈ gw := List.forall_mem_cons.mpr ⟨gw_11 175 rfl rfl, List.forall_mem_cons.mpr ⟨gw_11 176 rfl rfl, List.forall_mem_cons.mpr ⟨gw_11 177 rfl rfl, List.forall_mem_cons.mpr ⟨gw_11 178 rfl rfl, List.forall_mem_cons.mpr ⟨gw_11 179 rfl rfl, List.forall_mem_cons.mpr ⟨gw_11 180 rfl rfl, fun _ h => absurd h List.not_mem_nil⟩⟩⟩⟩⟩⟩
theorem gk_Jx00060 (D : va_G) (I : FieldType → ClassId) : gK (gV D I) 2 RJx00060 TJx00060 6 tyJx00060 := ⟨rfl, gi_Jx00060, tyJx00060_ok, nmJx00060⟩
theorem gfs_Jx00060 : ∀ j, j < 6 → defaultValue (tyJx00060 j) = vp_V [.null, .null, .null, .null, .int 0, .null] j := by
  intro j hj
  rcases (show j = 0 ∨ j = 1 ∨ j = 2 ∨ j = 3 ∨ j = 4 ∨ j = 5 by omega) with rfl | rfl | rfl | rfl | rfl | rfl <;> rfl
theorem gi_Jx7c733 : ∀ w ∈ u_ws RJx7c733 TJx7c733 6, w ∈ gw := List.forall_mem_cons.mpr ⟨gw_11 144 rfl rfl, List.forall_mem_cons.mpr ⟨gw_11 145 rfl rfl, List.forall_mem_cons.mpr ⟨gw_11 146 rfl rfl, List.forall_mem_cons.mpr ⟨gw_11 147 rfl rfl, List.forall_mem_cons.mpr ⟨gw_11 148 rfl rfl, List.forall_mem_cons.mpr ⟨gw_11 149 rfl rfl, fun _ h => absurd h List.not_mem_nil⟩⟩⟩⟩⟩⟩
theorem gk_Jx7c733 (D : va_G) (I : FieldType → ClassId) : gK (gV D I) 3 RJx7c733 TJx7c733 6 tyJx7c733 := ⟨rfl, gi_Jx7c733, tyJx7c733_ok, nmJx7c733⟩
theorem gfs_Jx7c733 : ∀ j, j < 6 → defaultValue (tyJx7c733 j) = vp_V [.null, .null, .null, .null, .int 0, .null] j := by
  intro j hj
  rcases (show j = 0 ∨ j = 1 ∨ j = 2 ∨ j = 3 ∨ j = 4 ∨ j = 5 by omega) with rfl | rfl | rfl | rfl | rfl | rfl <;> rfl
theorem gi_Jx4a65c : ∀ w ∈ u_ws RJx4a65c TJx4a65c 3, w ∈ gw := List.forall_mem_cons.mpr ⟨gw_7 26 rfl rfl, List.forall_mem_cons.mpr ⟨gw_7 22 rfl rfl, List.forall_mem_cons.mpr ⟨gw_7 24 rfl rfl, fun _ h => absurd h List.not_mem_nil⟩⟩⟩
theorem gk_Jx4a65c (D : va_G) (I : FieldType → ClassId) : gK (gV D I) 4 RJx4a65c TJx4a65c 3 tyJx4a65c := ⟨rfl, gi_Jx4a65c, tyJx4a65c_ok, nmJx4a65c⟩
theorem gfs_Jx4a65c : ∀ j, j < 3 → defaultValue (tyJx4a65c j) = vp_V [.int 0, .null, .int 0] j := by
  intro j hj
  rcases (show j = 0 ∨ j = 1 ∨ j = 2 by omega) with rfl | rfl | rfl <;> rfl
theorem gi_X0 : ∀ w ∈ u_ws RX0 TX0 12, w ∈ gw := List.forall_mem_cons.mpr ⟨gw_1 202 rfl rfl, List.forall_mem_cons.mpr ⟨gw_1 204 rfl rfl, List.forall_mem_cons.mpr ⟨gw_1 206 rfl rfl, List.forall_mem_cons.mpr ⟨gw_1 208 rfl rfl, List.forall_mem_cons.mpr ⟨gw_1 210 rfl rfl, List.forall_mem_cons.mpr ⟨gw_1 212 rfl rfl, List.forall_mem_cons.mpr ⟨gw_1 214 rfl rfl, List.forall_mem_cons.mpr ⟨gw_1 216 rfl rfl, List.forall_mem_cons.mpr ⟨gw_1 218 rfl rfl, List.forall_mem_cons.mpr ⟨gw_1 220 rfl rfl, List.forall_mem_cons.mpr ⟨gw_1 222 rfl rfl, List.forall_mem_cons.mpr ⟨gw_1 224 rfl rfl, fun _ h => absurd h List.not_mem_nil⟩⟩⟩⟩⟩⟩⟩⟩⟩⟩⟩⟩
theorem gk_X0 (D : va_G) (I : FieldType → ClassId) : gK (gV D I) 5 RX0 TX0 12 tyX0 := ⟨rfl, gi_X0, tyX0_ok, nmX0⟩
theorem gfs_X0 : ∀ j, j < 12 → defaultValue (tyX0 j) = vp_V [.null, .null, .null, .null, .null, .null, .null, .null, .null, .int 0, .int 0, .int 0] j := by
  intro j hj
  rcases (show j = 0 ∨ j = 1 ∨ j = 2 ∨ j = 3 ∨ j = 4 ∨ j = 5 ∨ j = 6 ∨ j = 7 ∨ j = 8 ∨ j = 9 ∨ j = 10 ∨ j = 11 by omega) with rfl | rfl | rfl | rfl | rfl | rfl | rfl | rfl | rfl | rfl | rfl | rfl <;> rfl
theorem gi_X1 : ∀ w ∈ u_ws RX1 TX1 8, w ∈ gw := List.forall_mem_cons.mpr ⟨gw_2 86 rfl rfl, List.forall_mem_cons.mpr ⟨gw_2 88 rfl rfl, List.forall_mem_cons.mpr ⟨gw_2 90 rfl rfl, List.forall_mem_cons.mpr ⟨gw_2 92 rfl rfl, List.forall_mem_cons.mpr ⟨gw_2 94 rfl rfl, List.forall_mem_cons.mpr ⟨gw_2 96 rfl rfl, List.forall_mem_cons.mpr ⟨gw_2 98 rfl rfl, List.forall_mem_cons.mpr ⟨gw_2 100 rfl rfl, fun _ h => absurd h List.not_mem_nil⟩⟩⟩⟩⟩⟩⟩⟩
theorem gk_X1 (D : va_G) (I : FieldType → ClassId) : gK (gV D I) 6 RX1 TX1 8 tyX1 := ⟨rfl, gi_X1, tyX1_ok, nmX1⟩
theorem gfs_X1 : ∀ j, j < 8 → defaultValue (tyX1 j) = vp_V [.null, .null, .null, .null, .null, .null, .int 0, .int 0] j := by
  intro j hj
  rcases (show j = 0 ∨ j = 1 ∨ j = 2 ∨ j = 3 ∨ j = 4 ∨ j = 5 ∨ j = 6 ∨ j = 7 by omega) with rfl | rfl | rfl | rfl | rfl | rfl | rfl | rfl <;> rfl
theorem gi_X2 : ∀ w ∈ u_ws RX2 TX2 16, w ∈ gw := List.forall_mem_cons.mpr ⟨gw_2 121 rfl rfl, List.forall_mem_cons.mpr ⟨gw_2 123 rfl rfl, List.forall_mem_cons.mpr ⟨gw_2 125 rfl rfl, List.forall_mem_cons.mpr ⟨gw_2 127 rfl rfl, List.forall_mem_cons.mpr ⟨gw_2 129 rfl rfl, List.forall_mem_cons.mpr ⟨gw_2 131 rfl rfl, List.forall_mem_cons.mpr ⟨gw_2 133 rfl rfl, List.forall_mem_cons.mpr ⟨gw_2 135 rfl rfl, List.forall_mem_cons.mpr ⟨gw_2 137 rfl rfl, List.forall_mem_cons.mpr ⟨gw_2 139 rfl rfl, List.forall_mem_cons.mpr ⟨gw_2 141 rfl rfl, List.forall_mem_cons.mpr ⟨gw_2 143 rfl rfl, List.forall_mem_cons.mpr ⟨gw_2 145 rfl rfl, List.forall_mem_cons.mpr ⟨gw_2 147 rfl rfl, List.forall_mem_cons.mpr ⟨gw_2 149 rfl rfl, List.forall_mem_cons.mpr ⟨gw_2 151 rfl rfl, fun _ h => absurd h List.not_mem_nil⟩⟩⟩⟩⟩⟩⟩⟩⟩⟩⟩⟩⟩⟩⟩⟩
theorem gk_X2 (D : va_G) (I : FieldType → ClassId) : gK (gV D I) 7 RX2 TX2 16 tyX2 := ⟨rfl, gi_X2, tyX2_ok, nmX2⟩
theorem gfs_X2 : ∀ j, j < 16 → defaultValue (tyX2 j) = vp_V [.null, .null, .null, .null, .null, .null, .null, .null, .null, .null, .int 0, .int 0, .int 0, .int 0, .int 0, .int 0] j := by
  intro j hj
  rcases (show j = 0 ∨ j = 1 ∨ j = 2 ∨ j = 3 ∨ j = 4 ∨ j = 5 ∨ j = 6 ∨ j = 7 ∨ j = 8 ∨ j = 9 ∨ j = 10 ∨ j = 11 ∨ j = 12 ∨ j = 13 ∨ j = 14 ∨ j = 15 by omega) with rfl | rfl | rfl | rfl | rfl | rfl | rfl | rfl | rfl | rfl | rfl | rfl | rfl | rfl | rfl | rfl <;> rfl
theorem gi_X3 : ∀ w ∈ u_ws RX3 TX3 6, w ∈ gw := List.forall_mem_cons.mpr ⟨gw_2 59 rfl rfl, List.forall_mem_cons.mpr ⟨gw_2 61 rfl rfl, List.forall_mem_cons.mpr ⟨gw_2 63 rfl rfl, List.forall_mem_cons.mpr ⟨gw_2 65 rfl rfl, List.forall_mem_cons.mpr ⟨gw_2 67 rfl rfl, List.forall_mem_cons.mpr ⟨gw_2 69 rfl rfl, fun _ h => absurd h List.not_mem_nil⟩⟩⟩⟩⟩⟩
theorem gk_X3 (D : va_G) (I : FieldType → ClassId) : gK (gV D I) 8 RX3 TX3 6 tyX3 := ⟨rfl, gi_X3, tyX3_ok, nmX3⟩
theorem gfs_X3 : ∀ j, j < 6 → defaultValue (tyX3 j) = vp_V [.null, .null, .null, .null, .int 0, .int 0] j := by
  intro j hj
  rcases (show j = 0 ∨ j = 1 ∨ j = 2 ∨ j = 3 ∨ j = 4 ∨ j = 5 by omega) with rfl | rfl | rfl | rfl | rfl | rfl <;> rfl
theorem gi_X4 : ∀ w ∈ u_ws RX4 TX4 2, w ∈ gw := List.forall_mem_cons.mpr ⟨gw_2 202 rfl rfl, List.forall_mem_cons.mpr ⟨gw_2 204 rfl rfl, fun _ h => absurd h List.not_mem_nil⟩⟩
theorem gk_X4 (D : va_G) (I : FieldType → ClassId) : gK (gV D I) 9 RX4 TX4 2 tyX4 := ⟨rfl, gi_X4, tyX4_ok, nmX4⟩
theorem gfs_X4 : ∀ j, j < 2 → defaultValue (tyX4 j) = vp_V [.null, .int 0] j := by
  intro j hj
  rcases (show j = 0 ∨ j = 1 by omega) with rfl | rfl <;> rfl
theorem gi_X5 : ∀ w ∈ u_ws RX5 TX5 7, w ∈ gw := List.forall_mem_cons.mpr ⟨gw_2 32 rfl rfl, List.forall_mem_cons.mpr ⟨gw_2 34 rfl rfl, List.forall_mem_cons.mpr ⟨gw_2 36 rfl rfl, List.forall_mem_cons.mpr ⟨gw_2 38 rfl rfl, List.forall_mem_cons.mpr ⟨gw_2 40 rfl rfl, List.forall_mem_cons.mpr ⟨gw_2 42 rfl rfl, List.forall_mem_cons.mpr ⟨gw_2 44 rfl rfl, fun _ h => absurd h List.not_mem_nil⟩⟩⟩⟩⟩⟩⟩
theorem gk_X5 (D : va_G) (I : FieldType → ClassId) : gK (gV D I) 10 RX5 TX5 7 tyX5 := ⟨rfl, gi_X5, tyX5_ok, nmX5⟩
theorem gfs_X5 : ∀ j, j < 7 → defaultValue (tyX5 j) = vp_V [.null, .null, .null, .null, .int 0, .int 0, .int 0] j := by
  intro j hj
  rcases (show j = 0 ∨ j = 1 ∨ j = 2 ∨ j = 3 ∨ j = 4 ∨ j = 5 ∨ j = 6 by omega) with rfl | rfl | rfl | rfl | rfl | rfl | rfl <;> rfl
theorem gi_X6 : ∀ w ∈ u_ws RX6 TX6 3, w ∈ gw := List.forall_mem_cons.mpr ⟨gw_1 236 rfl rfl, List.forall_mem_cons.mpr ⟨gw_1 238 rfl rfl, List.forall_mem_cons.mpr ⟨gw_2 0 rfl rfl, fun _ h => absurd h List.not_mem_nil⟩⟩⟩
theorem gk_X6 (D : va_G) (I : FieldType → ClassId) : gK (gV D I) 11 RX6 TX6 3 tyX6 := ⟨rfl, gi_X6, tyX6_ok, nmX6⟩
theorem gfs_X6 : ∀ j, j < 3 → defaultValue (tyX6 j) = vp_V [.null, .null, .null] j := by
  intro j hj
  rcases (show j = 0 ∨ j = 1 ∨ j = 2 by omega) with rfl | rfl | rfl <;> rfl
theorem gi_X7 : ∀ w ∈ u_ws RX7 TX7 11, w ∈ gw := List.forall_mem_cons.mpr ⟨gw_2 171 rfl rfl, List.forall_mem_cons.mpr ⟨gw_2 173 rfl rfl, List.forall_mem_cons.mpr ⟨gw_2 175 rfl rfl, List.forall_mem_cons.mpr ⟨gw_2 177 rfl rfl, List.forall_mem_cons.mpr ⟨gw_2 179 rfl rfl, List.forall_mem_cons.mpr ⟨gw_2 181 rfl rfl, List.forall_mem_cons.mpr ⟨gw_2 183 rfl rfl, List.forall_mem_cons.mpr ⟨gw_2 185 rfl rfl, List.forall_mem_cons.mpr ⟨gw_2 187 rfl rfl, List.forall_mem_cons.mpr ⟨gw_2 189 rfl rfl, List.forall_mem_cons.mpr ⟨gw_2 191 rfl rfl, fun _ h => absurd h List.not_mem_nil⟩⟩⟩⟩⟩⟩⟩⟩⟩⟩⟩
theorem gk_X7 (D : va_G) (I : FieldType → ClassId) : gK (gV D I) 12 RX7 TX7 11 tyX7 := ⟨rfl, gi_X7, tyX7_ok, nmX7⟩
theorem gfs_X7 : ∀ j, j < 11 → defaultValue (tyX7 j) = vp_V [.null, .null, .null, .null, .int 0, .int 0, .int 0, .int 0, .int 0, .int 0, .int 0] j := by
  intro j hj
  rcases (show j = 0 ∨ j = 1 ∨ j = 2 ∨ j = 3 ∨ j = 4 ∨ j = 5 ∨ j = 6 ∨ j = 7 ∨ j = 8 ∨ j = 9 ∨ j = 10 by omega) with rfl | rfl | rfl | rfl | rfl | rfl | rfl | rfl | rfl | rfl | rfl <;> rfl
theorem gi_X8 : ∀ w ∈ u_ws RX8 TX8 12, w ∈ gw := List.forall_mem_cons.mpr ⟨gw_1 108 rfl rfl, List.forall_mem_cons.mpr ⟨gw_1 110 rfl rfl, List.forall_mem_cons.mpr ⟨gw_1 112 rfl rfl, List.forall_mem_cons.mpr ⟨gw_1 114 rfl rfl, List.forall_mem_cons.mpr ⟨gw_1 116 rfl rfl, List.forall_mem_cons.mpr ⟨gw_1 118 rfl rfl, List.forall_mem_cons.mpr ⟨gw_1 120 rfl rfl, List.forall_mem_cons.mpr ⟨gw_1 122 rfl rfl, List.forall_mem_cons.mpr ⟨gw_1 124 rfl rfl, List.forall_mem_cons.mpr ⟨gw_1 126 rfl rfl, List.forall_mem_cons.mpr ⟨gw_1 128 rfl rfl, List.forall_mem_cons.mpr ⟨gw_1 130 rfl rfl, fun _ h => absurd h List.not_mem_nil⟩⟩⟩⟩⟩⟩⟩⟩⟩⟩⟩⟩
theorem gk_X8 (D : va_G) (I : FieldType → ClassId) : gK (gV D I) 13 RX8 TX8 12 tyX8 := ⟨rfl, gi_X8, tyX8_ok, nmX8⟩
theorem gfs_X8 : ∀ j, j < 12 → defaultValue (tyX8 j) = vp_V [.null, .null, .int 0, .int 0, .int 0, .long 0, .int 0, .int 0, .int 0, .int 0, .int 0, .int 0] j := by
  intro j hj
  rcases (show j = 0 ∨ j = 1 ∨ j = 2 ∨ j = 3 ∨ j = 4 ∨ j = 5 ∨ j = 6 ∨ j = 7 ∨ j = 8 ∨ j = 9 ∨ j = 10 ∨ j = 11 by omega) with rfl | rfl | rfl | rfl | rfl | rfl | rfl | rfl | rfl | rfl | rfl | rfl <;> rfl
theorem gi_X9 : ∀ w ∈ u_ws RX9 TX9 5, w ∈ gw := List.forall_mem_cons.mpr ⟨gw_1 84 rfl rfl, List.forall_mem_cons.mpr ⟨gw_1 86 rfl rfl, List.forall_mem_cons.mpr ⟨gw_1 88 rfl rfl, List.forall_mem_cons.mpr ⟨gw_1 90 rfl rfl, List.forall_mem_cons.mpr ⟨gw_1 92 rfl rfl, fun _ h => absurd h List.not_mem_nil⟩⟩⟩⟩⟩
theorem gk_X9 (D : va_G) (I : FieldType → ClassId) : gK (gV D I) 14 RX9 TX9 5 tyX9 := ⟨rfl, gi_X9, tyX9_ok, nmX9⟩
theorem gfs_X9 : ∀ j, j < 5 → defaultValue (tyX9 j) = vp_V [.null, .int 0, .int 0, .int 0, .int 0] j := by
  intro j hj
  rcases (show j = 0 ∨ j = 1 ∨ j = 2 ∨ j = 3 ∨ j = 4 by omega) with rfl | rfl | rfl | rfl | rfl <;> rfl
theorem gi_X10 : ∀ w ∈ u_ws RX10 TX10 2, w ∈ gw := List.forall_mem_cons.mpr ⟨gw_1 61 rfl rfl, List.forall_mem_cons.mpr ⟨gw_1 63 rfl rfl, fun _ h => absurd h List.not_mem_nil⟩⟩
theorem gk_X10 (D : va_G) (I : FieldType → ClassId) : gK (gV D I) 15 RX10 TX10 2 tyX10 := ⟨rfl, gi_X10, tyX10_ok, nmX10⟩
theorem gfs_X10 : ∀ j, j < 2 → defaultValue (tyX10 j) = vp_V [.null, .int 0] j := by
  intro j hj
  rcases (show j = 0 ∨ j = 1 by omega) with rfl | rfl <;> rfl
theorem gi_X11 : ∀ w ∈ u_ws RX11 TX11 8, w ∈ gw := List.forall_mem_cons.mpr ⟨gw_2 215 rfl rfl, List.forall_mem_cons.mpr ⟨gw_2 217 rfl rfl, List.forall_mem_cons.mpr ⟨gw_2 219 rfl rfl, List.forall_mem_cons.mpr ⟨gw_2 221 rfl rfl, List.forall_mem_cons.mpr ⟨gw_2 223 rfl rfl, List.forall_mem_cons.mpr ⟨gw_2 225 rfl rfl, List.forall_mem_cons.mpr ⟨gw_2 227 rfl rfl, List.forall_mem_cons.mpr ⟨gw_2 229 rfl rfl, fun _ h => absurd h List.not_mem_nil⟩⟩⟩⟩⟩⟩⟩⟩
theorem gk_X11 (D : va_G) (I : FieldType → ClassId) : gK (gV D I) 16 RX11 TX11 8 tyX11 := ⟨rfl, gi_X11, tyX11_ok, nmX11⟩
theorem gfs_X11 : ∀ j, j < 8 → defaultValue (tyX11 j) = vp_V [.null, .null, .null, .null, .null, .null, .null, .int 0] j := by
  intro j hj
  rcases (show j = 0 ∨ j = 1 ∨ j = 2 ∨ j = 3 ∨ j = 4 ∨ j = 5 ∨ j = 6 ∨ j = 7 by omega) with rfl | rfl | rfl | rfl | rfl | rfl | rfl | rfl <;> rfl
theorem gi_X12 : ∀ w ∈ u_ws RX12 TX12 4, w ∈ gw := List.forall_mem_cons.mpr ⟨gw_9 234 rfl rfl, List.forall_mem_cons.mpr ⟨gw_9 236 rfl rfl, List.forall_mem_cons.mpr ⟨gw_9 238 rfl rfl, List.forall_mem_cons.mpr ⟨gw_10 0 rfl rfl, fun _ h => absurd h List.not_mem_nil⟩⟩⟩⟩
theorem gk_X12 (D : va_G) (I : FieldType → ClassId) : gK (gV D I) 17 RX12 TX12 4 tyX12 := ⟨rfl, gi_X12, tyX12_ok, nmX12⟩
theorem gfs_X12 : ∀ j, j < 4 → defaultValue (tyX12 j) = vp_V [.null, .null, .int 0, .int 0] j := by
  intro j hj
  rcases (show j = 0 ∨ j = 1 ∨ j = 2 ∨ j = 3 by omega) with rfl | rfl | rfl | rfl <;> rfl
theorem gi_X13 : ∀ w ∈ u_ws RX13 TX13 4, w ∈ gw := List.forall_mem_cons.mpr ⟨gw_7 34 rfl rfl, List.forall_mem_cons.mpr ⟨gw_7 36 rfl rfl, List.forall_mem_cons.mpr ⟨gw_7 38 rfl rfl, List.forall_mem_cons.mpr ⟨gw_7 40 rfl rfl, fun _ h => absurd h List.not_mem_nil⟩⟩⟩⟩
theorem gk_X13 (D : va_G) (I : FieldType → ClassId) : gK (gV D I) 18 RX13 TX13 4 tyX13 := ⟨rfl, gi_X13, tyX13_ok, nmX13⟩
theorem gfs_X13 : ∀ j, j < 4 → defaultValue (tyX13 j) = vp_V [.null, .null, .int 0, .int 0] j := by
  intro j hj
  rcases (show j = 0 ∨ j = 1 ∨ j = 2 ∨ j = 3 by omega) with rfl | rfl | rfl | rfl <;> rfl
theorem gi_X14 : ∀ w ∈ u_ws RX14 TX14 14, w ∈ gw := List.forall_mem_cons.mpr ⟨gw_9 52 rfl rfl, List.forall_mem_cons.mpr ⟨gw_9 54 rfl rfl, List.forall_mem_cons.mpr ⟨gw_9 56 rfl rfl, List.forall_mem_cons.mpr ⟨gw_9 58 rfl rfl, List.forall_mem_cons.mpr ⟨gw_9 60 rfl rfl, List.forall_mem_cons.mpr ⟨gw_9 62 rfl rfl, List.forall_mem_cons.mpr ⟨gw_9 64 rfl rfl, List.forall_mem_cons.mpr ⟨gw_9 66 rfl rfl, List.forall_mem_cons.mpr ⟨gw_9 68 rfl rfl, List.forall_mem_cons.mpr ⟨gw_9 70 rfl rfl, List.forall_mem_cons.mpr ⟨gw_9 72 rfl rfl, List.forall_mem_cons.mpr ⟨gw_9 74 rfl rfl, List.forall_mem_cons.mpr ⟨gw_9 76 rfl rfl, List.forall_mem_cons.mpr ⟨gw_9 78 rfl rfl, fun _ h => absurd h List.not_mem_nil⟩⟩⟩⟩⟩⟩⟩⟩⟩⟩⟩⟩⟩⟩
theorem gk_X14 (D : va_G) (I : FieldType → ClassId) : gK (gV D I) 19 RX14 TX14 14 tyX14 := ⟨rfl, gi_X14, tyX14_ok, nmX14⟩
theorem gfs_X14 : ∀ j, j < 14 → defaultValue (tyX14 j) = vp_V [.null, .int 0, .int 0, .int 0, .int 0, .int 0, .int 0, .null, .int 0, .int 0, .int 0, .null, .null, .int 0] j := by
  intro j hj
  rcases (show j = 0 ∨ j = 1 ∨ j = 2 ∨ j = 3 ∨ j = 4 ∨ j = 5 ∨ j = 6 ∨ j = 7 ∨ j = 8 ∨ j = 9 ∨ j = 10 ∨ j = 11 ∨ j = 12 ∨ j = 13 by omega) with rfl | rfl | rfl | rfl | rfl | rfl | rfl | rfl | rfl | rfl | rfl | rfl | rfl | rfl <;> rfl
theorem gi_X15 : ∀ w ∈ u_ws RX15 TX15 7, w ∈ gw := List.forall_mem_cons.mpr ⟨gw_9 203 rfl rfl, List.forall_mem_cons.mpr ⟨gw_9 205 rfl rfl, List.forall_mem_cons.mpr ⟨gw_9 207 rfl rfl, List.forall_mem_cons.mpr ⟨gw_9 209 rfl rfl, List.forall_mem_cons.mpr ⟨gw_9 211 rfl rfl, List.forall_mem_cons.mpr ⟨gw_9 213 rfl rfl, List.forall_mem_cons.mpr ⟨gw_9 215 rfl rfl, fun _ h => absurd h List.not_mem_nil⟩⟩⟩⟩⟩⟩⟩
theorem gk_X15 (D : va_G) (I : FieldType → ClassId) : gK (gV D I) 20 RX15 TX15 7 tyX15 := ⟨rfl, gi_X15, tyX15_ok, nmX15⟩
theorem gfs_X15 : ∀ j, j < 7 → defaultValue (tyX15 j) = vp_V [.int 0, .int 0, .int 0, .int 0, .int 0, .int 0, .int 0] j := by
  intro j hj
  rcases (show j = 0 ∨ j = 1 ∨ j = 2 ∨ j = 3 ∨ j = 4 ∨ j = 5 ∨ j = 6 by omega) with rfl | rfl | rfl | rfl | rfl | rfl | rfl <;> rfl
theorem gi_X16 : ∀ w ∈ u_ws RX16 TX16 7, w ∈ gw := List.forall_mem_cons.mpr ⟨gw_9 105 rfl rfl, List.forall_mem_cons.mpr ⟨gw_9 106 rfl rfl, List.forall_mem_cons.mpr ⟨gw_9 107 rfl rfl, List.forall_mem_cons.mpr ⟨gw_9 108 rfl rfl, List.forall_mem_cons.mpr ⟨gw_9 109 rfl rfl, List.forall_mem_cons.mpr ⟨gw_9 126 rfl rfl, List.forall_mem_cons.mpr ⟨gw_9 124 rfl rfl, fun _ h => absurd h List.not_mem_nil⟩⟩⟩⟩⟩⟩⟩
theorem gk_X16 (D : va_G) (I : FieldType → ClassId) : gK (gV D I) 21 RX16 TX16 7 tyX16 := ⟨rfl, gi_X16, tyX16_ok, nmX16⟩
theorem gfs_X16 : ∀ j, j < 7 → defaultValue (tyX16 j) = vp_V [.null, .null, .null, .null, .null, .int 0, .int 0] j := by
  intro j hj
  rcases (show j = 0 ∨ j = 1 ∨ j = 2 ∨ j = 3 ∨ j = 4 ∨ j = 5 ∨ j = 6 by omega) with rfl | rfl | rfl | rfl | rfl | rfl | rfl <;> rfl
theorem gi_X17 : ∀ w ∈ u_ws RX17 TX17 36, w ∈ gw := List.forall_mem_cons.mpr ⟨gw_7 110 rfl rfl, List.forall_mem_cons.mpr ⟨gw_7 112 rfl rfl, List.forall_mem_cons.mpr ⟨gw_7 114 rfl rfl, List.forall_mem_cons.mpr ⟨gw_7 116 rfl rfl, List.forall_mem_cons.mpr ⟨gw_7 118 rfl rfl, List.forall_mem_cons.mpr ⟨gw_7 120 rfl rfl, List.forall_mem_cons.mpr ⟨gw_7 122 rfl rfl, List.forall_mem_cons.mpr ⟨gw_7 124 rfl rfl, List.forall_mem_cons.mpr ⟨gw_7 126 rfl rfl, List.forall_mem_cons.mpr ⟨gw_7 128 rfl rfl, List.forall_mem_cons.mpr ⟨gw_7 130 rfl rfl, List.forall_mem_cons.mpr ⟨gw_7 132 rfl rfl, List.forall_mem_cons.mpr ⟨gw_7 134 rfl rfl, List.forall_mem_cons.mpr ⟨gw_7 136 rfl rfl, List.forall_mem_cons.mpr ⟨gw_7 138 rfl rfl, List.forall_mem_cons.mpr ⟨gw_7 140 rfl rfl, List.forall_mem_cons.mpr ⟨gw_7 142 rfl rfl, List.forall_mem_cons.mpr ⟨gw_7 144 rfl rfl, List.forall_mem_cons.mpr ⟨gw_7 146 rfl rfl, List.forall_mem_cons.mpr ⟨gw_7 148 rfl rfl, List.forall_mem_cons.mpr ⟨gw_7 150 rfl rfl, List.forall_mem_cons.mpr ⟨gw_7 152 rfl rfl, List.forall_mem_cons.mpr ⟨gw_7 154 rfl rfl, List.forall_mem_cons.mpr ⟨gw_7 156 rfl rfl, List.forall_mem_cons.mpr ⟨gw_7 158 rfl rfl, List.forall_mem_cons.mpr ⟨gw_7 160 rfl rfl, List.forall_mem_cons.mpr ⟨gw_7 162 rfl rfl, List.forall_mem_cons.mpr ⟨gw_7 164 rfl rfl, List.forall_mem_cons.mpr ⟨gw_7 166 rfl rfl, List.forall_mem_cons.mpr ⟨gw_7 168 rfl rfl, List.forall_mem_cons.mpr ⟨gw_7 170 rfl rfl, List.forall_mem_cons.mpr ⟨gw_7 172 rfl rfl, List.forall_mem_cons.mpr ⟨gw_7 174 rfl rfl, List.forall_mem_cons.mpr ⟨gw_7 176 rfl rfl, List.forall_mem_cons.mpr ⟨gw_7 178 rfl rfl, List.forall_mem_cons.mpr ⟨gw_7 180 rfl rfl, fun _ h => absurd h List.not_mem_nil⟩⟩⟩⟩⟩⟩⟩⟩⟩⟩⟩⟩⟩⟩⟩⟩⟩⟩⟩⟩⟩⟩⟩⟩⟩⟩⟩⟩⟩⟩⟩⟩⟩⟩⟩⟩
theorem gk_X17 (D : va_G) (I : FieldType → ClassId) : gK (gV D I) 22 RX17 TX17 36 tyX17 := ⟨rfl, gi_X17, tyX17_ok, nmX17⟩
theorem gfs_X17 : ∀ j, j < 36 → defaultValue (tyX17 j) = vp_V [.null, .null, .null, .null, .null, .null, .null, .null, .null, .int 0, .int 0, .int 0, .int 0, .int 0, .int 0, .null, .null, .null, .null, .null, .null, .null, .null, .int 0, .int 0, .int 0, .int 0, .int 0, .null, .null, .int 0, .null, .int 0, .int 0, .int 0, .null] j := by
  intro j hj
  rcases (show j = 0 ∨ j = 1 ∨ j = 2 ∨ j = 3 ∨ j = 4 ∨ j = 5 ∨ j = 6 ∨ j = 7 ∨ j = 8 ∨ j = 9 ∨ j = 10 ∨ j = 11 ∨ j = 12 ∨ j = 13 ∨ j = 14 ∨ j = 15 ∨ j = 16 ∨ j = 17 ∨ j = 18 ∨ j = 19 ∨ j = 20 ∨ j = 21 ∨ j = 22 ∨ j = 23 ∨ j = 24 ∨ j = 25 ∨ j = 26 ∨ j = 27 ∨ j = 28 ∨ j = 29 ∨ j = 30 ∨ j = 31 ∨ j = 32 ∨ j = 33 ∨ j = 34 ∨ j = 35 by omega) with rfl | rfl | rfl | rfl | rfl | rfl | rfl | rfl | rfl | rfl | rfl | rfl | rfl | rfl | rfl | rfl | rfl | rfl | rfl | rfl | rfl | rfl | rfl | rfl | rfl | rfl | rfl | rfl | rfl | rfl | rfl | rfl | rfl | rfl | rfl | rfl <;> rfl
theorem ga_int (cA : ClassId) (n : Nat) : vp_cell cA (n, .inl (fun _ => 0)) = arrV cA n (fun _ => defaultValue .int) := rfl
theorem ga_byte (cA : ClassId) (n : Nat) : vp_cell cA (n, .inl (fun _ => 0)) = arrV cA n (fun _ => defaultValue .byte) := rfl
theorem ga_boolean (cA : ClassId) (n : Nat) : vp_cell cA (n, .inl (fun _ => 0)) = arrV cA n (fun _ => defaultValue .boolean) := rfl
theorem ga_long (cA : ClassId) (n : Nat) : vp_cell cA (n, .inr (.inl (fun _ => 0))) = arrV cA n (fun _ => defaultValue .long) := rfl
section GEQ
variable {v : gEnv} {l : Launch} {R : Room} {Qf : gFin} {k : gKey} {pc : Nat} {L : List (Nat × Value)} {st : List Value} {ws : va_W} {cs sl : Nat}
theorem G_eqi {x y : Int32} (h : x = y) (n : G v l R Qf k pc L (.int y :: st) ws cs sl) : G v l R Qf k pc L (.int x :: st) ws cs sl := h ▸ n
theorem G_ws {ws' : va_W} {cs' sl' : Nat} (h : ws = ws') (h1 : cs = cs') (h2 : sl = sl') (n : G v l R Qf k pc L st ws' cs' sl') : G v l R Qf k pc L st ws cs sl := by subst h; subst h1; subst h2; exact n
theorem G_eql {x y : Int64} (h : x = y) (n : G v l R Qf k pc L (.long y :: st) ws cs sl) : G v l R Qf k pc L (.long x :: st) ws cs sl := h ▸ n
end GEQ
end
