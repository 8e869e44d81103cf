/-! G: methods with an exception table: contract CtW, their calls; throw of an object that another method made -/
def CtW (v : gEnv) (l : Launch) (y : MethodName) (cc : ByteArray) (nL : Nat) (ret : Option FieldType) (hh : List (Nat × Nat × Nat × Nat)) (fr lo mc ms : Nat) (av : List Value) (ws : va_W) (Post : Option Value → va_W → Prop) (XP : String → Nat → va_W → Prop) : Prop :=
  ∀ sz : Nat, vx_Met l y (.codeWith y cc nL ret hh :: v.2.2.2.2) (gRm fr lo mc ms) (gPre v av ws sz) (gQ v Post (va_A ws sz)) (gX v XP (va_A ws sz)) mc ms (va_A ws sz)
section GEW
variable {v : gEnv} {l : Launch} {y : MethodName} {cc : ByteArray} {nL fr lo mc ms : Nat} {ret : Option FieldType} {hh : List (Nat × Nat × Nat × Nat)} {av : List Value} {ws : va_W} {Post : Option Value → va_W → Prop} {XP : String → Nat → va_W → Prop}
set_option maxHeartbeats 1000000 in
theorem CtW_of (hl0 : l.stackTraces = false) (hy : plainName y.cls = true) (hlen : (lg_sl av).length ≤ nL) (h : G v l (gRm fr lo mc ms) (gM v Post XP mc ms) (cc, nL, y.cls, ret, tableOf hh, y.name, fun _ _ => True) 0 (lv_args 0 av) [] ws 0 0) :
    CtW v l y cc nL ret hh fr lo mc ms av ws Post XP := by
  intro sz
  refine vx_ofWH (cc := cc) (maxL := nL) (ret := ret) (hh := hh) hy rfl ?_
  intro p e s m args below meth c s₁ B hml hpre
  obtain ⟨rfl, hsz, hP, hK, hD, hE⟩ := hpre
  subst hsz
  have hts := atoms_spec (ws := .codeWith y cc nL ret hh :: v.2.2.2.2) B.pre
  have ht := vx_table (x := y) B (hts _ List.mem_cons_self)
  have hl := lv_entry av (n := nL) hlen
  rw [lg_entry_eq]
  generalize (lg_sl av ++ List.replicate (nL - (lg_sl av).length) Slot.unset).toArray = ls at hl ⊢
  exact h p e s m av.toArray below meth c (va_A ws s.heap.size) s.heap [] ls ⟨B.exec, B.bytes, hml, findClass_of_methodNamed B.named, B.returns, ht, (name_of_methodNamed B.named B.method).1, fun w hw => hts w (List.mem_cons_of_mem _ hw), B.notSynchronized, hK, fun q hq => Or.inr hq, hE, hl0, trivial⟩ hP hD.self va_S.rf hl
end GEW
section GCW
variable {v : gEnv} {l : Launch} {R : Room} {Qf : gFin} {k : gKey} {pc cs sl : Nat} {L : List (Nat × Value)} {st : List Value} {ws wc wr : va_W}
variable {y : MethodName} {cc' : ByteArray} {nL' fr' lo' mc' ms' i b : Nat} {ret' : Option FieldType} {hh : List (Nat × Nat × Nat × Nat)} {As : List Value} {Post' : Option Value → va_W → Prop} {XP' : String → Nat → va_W → Prop}
def gCwT (v : gEnv) (R : Room) (own : String) (i : Nat) (y : MethodName) (cc' : ByteArray) (nL' : Nat) (ret' : Option FieldType) (hh : List (Nat × Nat × Nat × Nat)) (fr' lo' np : Nat) : Prop :=
  Cond.methodLink own i y ∈ v.2.2.2.2 ∧ Cond.initialized y.cls ∈ v.2.2.2.2 ∧ Cond.codeWith y cc' nL' ret' hh ∈ v.2.2.2.2 ∧ (y.cls ≠ "java/lang/invoke/MethodHandle" ∧ y.cls ≠ "java/lang/invoke/VarHandle") ∧ (parseMethodDescriptor y.desc).map (fun d => d.parameters.length) = some np ∧ fr' + 1 ≤ R.frames ∧ 8 + (nL' + 11) + lo' ≤ R.locals
theorem g_wt {np : Nat} {own : String} {s : State} {args : Array Value} (hv : gOk v) (ht : ∀ w ∈ v.2.2.2.2, w.before args s = true) (hw : gCwT v R own i y cc' nL' ret' hh fr' lo' np) :
    ((gRm fr' lo' mc' ms').cells = mc' ∧ (gRm fr' lo' mc' ms').slots = ms' ∧ (gRm fr' lo' mc' ms').frames + 1 ≤ R.frames ∧ 8 + (nL' + 11) + (gRm fr' lo' mc' ms').locals ≤ R.locals ∧ (∀ w ∈ (Cond.codeWith y cc' nL' ret' hh :: v.2.2.2.2), ∀ (a' : Array Value) (U : State), s.WarmedH U.vm → w.before a' U = true) ∧ Cond.codeWith y cc' nL' ret' hh ∈ (Cond.codeWith y cc' nL' ret' hh :: v.2.2.2.2)) ∧
    (Cond.codeWith y cc' nL' ret' hh).before args s = true ∧ (Cond.initialized y.cls).before args s = true ∧ (y.cls ≠ "java/lang/invoke/MethodHandle" ∧ y.cls ≠ "java/lang/invoke/VarHandle") ∧
    (∀ sig, parseMethodDescriptor y.desc = some sig → np = sig.parameters.length) ∧ (Cond.methodLink own i y).before args s = true := by
  obtain ⟨w1, w2, w3, w4, w5, w6, w7⟩ := hw
  refine ⟨⟨rfl, rfl, w6, w7, ?_, List.mem_cons_self⟩, ht _ w3, ht _ w2, w4, fun sig h => ?_, ht _ w1⟩
  · intro w hw a' U hW
    rcases List.mem_cons.mp hw with rfl | hw
    · exact word_at hW (good_of_word (hv.2.2.2 _ w3)) (ht _ w3)
    · exact word_at hW (good_of_word (hv.2.2.2 _ hw)) (ht _ hw)
  · rw [h] at w5
    exact (Option.some.inj w5).symm
theorem G_callSW (hv : gOk v) (cp : CtW v l y cc' nL' ret' hh fr' lo' mc' ms' As wc Post' XP') (d : decode k.1 pc = .ok (.invokestatic i, 3)) (hw : gCwT v R k.2.2.1 i y cc' nL' ret' hh fr' lo' As.length) (w2 : Cond.static y ∈ v.2.2.2.2)
    (isC isR : List Nat) (hC : isC.map (fun i => ws[i]?) = wc.map some) (hR : isR.map (fun i => ws[i]?) = wr.map some) (hnC : va_nd isC = true) (hn : va_nd isR = true) (hdis : ∀ i ∈ isR, i ∉ isC)
    (hcs : cs + mc' ≤ R.cells) (hsl : sl + ms' ≤ R.slots) (hcat : (st.map fun u => u.category).sum ≤ 8)
    (kk : ∀ r w, Post' r w → G v l R Qf k (pc + 3) L (r.toList ++ st) (wr ++ w) (cs + mc') (sl + ms')) (kx : ∀ E q w, XP' E q w → GT v l R Qf k pc L st E q (wr ++ w) (cs + mc') (sl + ms')) :
    G v l R Qf k pc L (As.reverse ++ st) ws cs sl := fun p e s m args below meth c A H locs ls C hP hD hS h => by
  obtain ⟨h1, h2, h3, h4, h5, h6, h7, h8, h9, h10, h11, h12, h13⟩ := id C
  obtain ⟨g1, g2, g3, g4, g5, g6⟩ := g_wt (mc' := mc') (ms' := ms') hv h8 hw
  exact g_back isC isR hC hR hn hdis C hP hD hS h (vx_runSX (As := As) (hh := hh) ⟨h1, h2, h3, h4, h8⟩ (cp H.size) ⟨g1, g2, g3, g4, g5, g6, h8 _ w2⟩ ⟨gPre_blind hv _ _ _, g_pre hv isC hC hnC C hP hD hS⟩ rfl rfl h.1 rfl (by show 2 * 0 + _ ≤ 8; omega) d ⟨hcs, hsl⟩) kk kx
theorem G_callVW {ci N : Nat} {fs : List Value} {T : u_T} (hv : gOk v) (cp : CtW v l y cc' nL' ret' hh fr' lo' mc' ms' (.ref b :: As) wc Post' XP') (d : decode k.1 pc = .ok (.invokevirtual i, 3)) (hw : gCwT v R k.2.2.1 i y cc' nL' ret' hh fr' lo' As.length) (w2 : Cond.instanceMethod y ∈ v.2.2.2.2) (w3 : Cond.selects y.cls y y ∈ v.2.2.2.2)
    (q : Nat) (hq : ws[q]? = some (b, .inr (ci, fs))) (hcl : v.2.1[ci]? = some (y.cls, T, N)) (isC isR : List Nat) (hC : isC.map (fun i => ws[i]?) = wc.map some) (hR : isR.map (fun i => ws[i]?) = wr.map some) (hnC : va_nd isC = true) (hn : va_nd isR = true) (hdis : ∀ i ∈ isR, i ∉ isC)
    (hcs : cs + mc' ≤ R.cells) (hsl : sl + ms' ≤ R.slots) (hcat : (st.map fun u => u.category).sum ≤ 8)
    (kk : ∀ r w, Post' r w → G v l R Qf k (pc + 3) L (r.toList ++ st) (wr ++ w) (cs + mc') (sl + ms')) (kx : ∀ E q w, XP' E q w → GT v l R Qf k pc L st E q (wr ++ w) (cs + mc') (sl + ms')) :
    G v l R Qf k pc L (As.reverse ++ .ref b :: st) ws cs sl := fun p e s m args below meth c A H locs ls C hP hD hS h => by
  obtain ⟨h1, h2, h3, h4, h5, h6, h7, h8, h9, h10, h11, h12, h13⟩ := id C
  obtain ⟨g1, g2, g3, g4, g5, g6⟩ := g_wt (mc' := mc') (ms' := ms') hv h8 hw
  exact g_back isC isR hC hR hn hdis C hP hD hS h (vx_runVX (As := As) (hh := hh) ⟨h1, h2, h3, h4, h8⟩ (cp H.size) ⟨g1, g2, g3, g4, g5, g6, h8 _ w2, h8 _ w3⟩ ⟨gPre_blind hv _ _ _, va_recv h10 hP hcl hq, g_pre hv isC hC hnC C hP hD hS⟩ rfl rfl h.1 rfl (by show 2 * 0 + _ ≤ 8; omega) d ⟨hcs, hsl⟩) kk kx
end GCW
