/-! G: contracts, calls, returns, what is thrown -/
/-- what is kept of the start's facts: warmer tables, other cells written, fewer cells free -/
def gOk (v : gEnv) : Prop := (∀ (A : Nat → Prop) (u U : State) (H : Heap), u.WarmedH U.vm → v.2.2.2.1 A u H → v.2.2.2.1 A U H) ∧ (∀ (A : Nat → Prop) (u : State) (H H1 : Heap), (∀ q : Nat, q < H.size → ¬ A q → H1[q]? = H[q]?) → v.2.2.2.1 A u H → v.2.2.2.1 A u H1) ∧
  (∀ (A B : Nat → Prop) (u : State) (H : Heap), (∀ q, B q → A q) → v.2.2.2.1 A u H → v.2.2.2.1 B u H) ∧ ∀ w ∈ v.2.2.2.2, goodWord w = true
def gRm (fr lo mc ms : Nat) : Room := { frames := fr, cells := mc, slots := ms, locals := lo }
def gQ (v : gEnv) (Post : Option Value → va_W → Prop) (A : Nat → Prop) : Array Value → State → Outcome → State → Prop := fun _ st o t => (∃ (r : Option Value) (w : va_W), o = .returned r ∧ Post r w ∧ va_P v.1 v.2.1 w t.heap ∧ va_D A w) ∧ va_F A st t
def gX (v : gEnv) (XP : String → Nat → va_W → Prop) (A : Nat → Prop) : String → Addr → State → State → Prop := fun E q st t => (∃ w : va_W, XP E q w ∧ va_P v.1 v.2.1 w t.heap ∧ va_D A w) ∧ va_F A st t
def gM (v : gEnv) (Post : Option Value → va_W → Prop) (XP : String → Nat → va_W → Prop) (mc ms : Nat) : gFin := fun below args s A => vx_MQ below (gQ v Post A) (gX v XP A) args s mc ms A
def gPre (v : gEnv) (av : List Value) (ws : va_W) (sz : Nat) : Array Value → State → Prop := va_Pc av (fun U => U.heap.size = sz ∧ va_P v.1 v.2.1 ws U.heap ∧ va_K v.1 v.2.1 v.2.2.1 U ∧ va_D (fun _ => True) ws ∧ v.2.2.2.1 (va_A ws sz) U U.heap)
/-- the contract of y (code cc, nL locals, answer ret): called with av in the world ws it returns with Post, or throws with XP; fr frames, lo words of locals, mc cells, ms slots are enough -/
def Ct (v : gEnv) (l : Launch) (y : MethodName) (cc : ByteArray) (nL : Nat) (ret : Option FieldType) (fr lo mc ms : Nat) (av : List Value) (ws : va_W) (Post : Option Value → va_W → Prop) (XP : String → Nat → va_W → Prop) : Prop :=
  ∀ sz : Nat, vx_Met l y (.code y cc nL ret :: v.2.2.2.2) (gRm fr lo mc ms) (gPre v av ws sz) (gQ v Post (va_A ws sz)) (gX v XP (va_A ws sz)) mc ms (va_A ws sz)
/-- nothing is thrown -/
abbrev gN : String → Nat → va_W → Prop := fun _ _ _ => False
def GT (v : gEnv) (l : Launch) (R : Room) (Qf : gFin) (k : gKey) (pc : Nat) (L : List (Nat × Value)) (st : List Value) (E : String) (q : Nat) (ws : va_W) (cs sl : Nat) : Prop :=
  ∀ (p : Program) (e : Env) (s : State) (m : MethodId) (args : Array Value) (below : List Frame) (meth : Method) (c : Code) (A : Nat → Prop) (H : Heap) (locs : List Loc) (ls : Array Slot) (ce : Cell),
    gC v k A p l s m args meth c → va_P v.1 v.2.1 ws H → va_D A ws → va_S A s.heap H locs → lv_has ls k.2.1 L → H[q]? = some ce → ce.vm = .none → s.vm.findClass E = some ce.cls → vx_W p l e R s m args below meth c H locs cs sl (Qf below args s A) (F0 m pc ls st) q
theorem gPre_blind {v : gEnv} (hv : gOk v) (av : List Value) (ws : va_W) (sz : Nat) : FrameBlind (gPre v av ws sz) := by
  intro a U g mk q
  obtain ⟨q0, q1, qP, qK, qD, qE⟩ := q
  refine ⟨q0, q1, qP, va_K.moved (u := U) (U := U.calling g mk a) (Vm.Alike.refl U.vm) qK, qD, ?_⟩
  exact hv.1 _ U (U.calling g mk a) _ (State.WarmedH.refl U) qE
section GE
variable {v : gEnv} {l : Launch} {y : MethodName} {cc : ByteArray} {nL fr lo mc ms : Nat} {ret : Option FieldType} {av : List Value} {ws : va_W} {Post : Option Value → va_W → Prop} {XP : String → Nat → va_W → Prop}
set_option maxHeartbeats 1000000 in
theorem Ct_of (hl0 : l.stackTraces = false) (hy : plainName y.cls = true) (hlen : (lg_sl av).length ≤ nL) (h : G v l (gRm fr lo mc ms) (gM v Post XP mc ms) (cc, nL, y.cls, ret, [], y.name, fun _ _ => True) 0 (lv_args 0 av) [] ws 0 0) :
    Ct v l y cc nL ret fr lo mc ms av ws Post XP := by
  intro sz
  refine vx_ofW (cc := cc) (maxL := nL) (ret := ret) hy rfl ?_
  intro p e s m args below meth c s₁ B hml ht hpre
  obtain ⟨rfl, hsz, hP, hK, hD, hE⟩ := hpre
  subst hsz
  have hts := atoms_spec (ws := .code y cc nL ret :: v.2.2.2.2) B.pre
  have hl := lv_entry av (n := nL) hlen
  rw [lg_entry_eq]
  generalize (lg_sl av ++ List.replicate (nL - (lg_sl av).length) Slot.unset).toArray = ls at hl ⊢
  have ht0 : c.exceptionTable.toList = [] := by
    cases hx : c.exceptionTable.toList with
    | nil => rfl
    | cons x r => exact absurd (by rw [hx]; exact List.mem_cons_self) (fun z => ht x z)
  exact h p e s m av.toArray below meth c (va_A ws s.heap.size) s.heap [] ls ⟨B.exec, B.bytes, hml, findClass_of_methodNamed B.named, B.returns, ht0, (name_of_methodNamed B.named B.method).1, fun w hw => hts w (List.mem_cons_of_mem _ hw), B.notSynchronized, hK, fun q hq => Or.inr hq, hE, hl0, trivial⟩ hP hD.self va_S.rf hl
end GE
section GRet
variable {v : gEnv} {l : Launch} {R : Room} {k : gKey} {pc cs sl mc ms : Nat} {L : List (Nat × Value)} {ws : va_W} {Post : Option Value → va_W → Prop} {XP : String → Nat → va_W → Prop}
theorem G_iret {x : Int32} (d : decode k.1 pc = .ok (.ireturn, 1)) (hr : k.2.2.2.1 = some .int) (h1 : cs ≤ mc) (h2 : sl ≤ ms) (hp : Post (some (.int x)) ws) : G v l R (gM v Post XP mc ms) k pc L [.int x] ws cs sl := fun p e s m args below meth c A H locs ls C hP hD hS h =>
  W.widen h1 h2 (vx_ret (W.iret C.1 C.2.1 (C.2.2.2.2.1.trans hr) (fun t ht hW => ⟨⟨_, ws, rfl, hp, by rw [ht]; exact hP, hD⟩, hS.F ht⟩) hS.2.2 d C.2.2.2.2.2.2.2.2.1))
theorem G_zret {x : Int32} (ty : FieldType) (d : decode k.1 pc = .ok (.ireturn, 1)) (hr : k.2.2.2.1 = some ty) (hx : narrow ty (.int x) = .int x) (h1 : cs ≤ mc) (h2 : sl ≤ ms) (hp : Post (some (.int x)) ws) : G v l R (gM v Post XP mc ms) k pc L [.int x] ws cs sl := fun p e s m args below meth c A H locs ls C hP hD hS h =>
  W.widen h1 h2 (vx_ret (W.zret C.1 C.2.1 (C.2.2.2.2.1.trans hr) hx (fun t ht hW => ⟨⟨_, ws, rfl, hp, by rw [ht]; exact hP, hD⟩, hS.F ht⟩) hS.2.2 d C.2.2.2.2.2.2.2.2.1))
theorem G_lret {x : Int64} (d : decode k.1 pc = .ok (.lreturn, 1)) (hr : k.2.2.2.1 = some .long) (h1 : cs ≤ mc) (h2 : sl ≤ ms) (hp : Post (some (.long x)) ws) : G v l R (gM v Post XP mc ms) k pc L [.long x] ws cs sl := fun p e s m args below meth c A H locs ls C hP hD hS h =>
  W.widen h1 h2 (vx_ret (W.lret C.1 C.2.1 (C.2.2.2.2.1.trans hr) (fun t ht hW => ⟨⟨_, ws, rfl, hp, by rw [ht]; exact hP, hD⟩, hS.F ht⟩) hS.2.2 d C.2.2.2.2.2.2.2.2.1))
theorem G_aret {x : Value} (rt : FieldType) (d : decode k.1 pc = .ok (.areturn, 1)) (hr : k.2.2.2.1 = some rt) (hrt : (∃ n, rt = .object n) ∨ ∃ t, rt = .array t) (hx : x = .null ∨ ∃ a, x = .ref a) (h1 : cs ≤ mc) (h2 : sl ≤ ms) (hp : Post (some x) ws) : G v l R (gM v Post XP mc ms) k pc L [x] ws cs sl := fun p e s m args below meth c A H locs ls C hP hD hS h =>
  W.widen h1 h2 (vx_ret (W.aret C.1 C.2.1 (C.2.2.2.2.1.trans hr) hrt hx (fun t ht hW => ⟨⟨_, ws, rfl, hp, by rw [ht]; exact hP, hD⟩, hS.F ht⟩) hS.2.2 d C.2.2.2.2.2.2.2.2.1))
theorem G_vret (d : decode k.1 pc = .ok (.return_, 1)) (hr : k.2.2.2.1 = none) (h1 : cs ≤ mc) (h2 : sl ≤ ms) (hp : Post none ws) : G v l R (gM v Post XP mc ms) k pc L [] ws cs sl := fun p e s m args below meth c A H locs ls C hP hD hS h =>
  W.widen h1 h2 (vx_ret (W.vret C.1 C.2.1 (C.2.2.2.2.1.trans hr) (fun t ht hW => ⟨⟨_, ws, rfl, hp, by rw [ht]; exact hP, hD⟩, hS.F ht⟩) hS.2.2 d C.2.2.2.2.2.2.2.2.1))
/-- what is thrown leaves a method without a table -/
theorem GT_out {st : List Value} {E : String} {q : Nat} (ht : k.2.2.2.2.1 = []) (h1 : cs ≤ mc) (h2 : sl ≤ ms) (hp : XP E q ws) : GT v l R (gM v Post XP mc ms) k pc L st E q ws cs sl := fun p e s m args below meth c A H locs ls ce C hP hD hS h hq hv hcl =>
  vx_out (fun x hx => by rw [C.2.2.2.2.2.1, ht] at hx; cases hx) C.2.2.2.2.2.2.2.2.1 hq hv hcl (fun t ht hW => ⟨⟨ws, hp, by rw [ht]; exact hP, hD⟩, hS.F ht⟩) hS.2.2 h1 h2
end GRet
section GCall
variable {v : gEnv} {l : Launch} {R : Room} {Qf : gFin} {k : gKey} {pc cs sl : Nat} {L : List (Nat × Value)} {st : List Value} {ws wc wr : va_W}
variable {y : MethodName} {cc' : ByteArray} {nL' fr' lo' mc' ms' i b : Nat} {ret' : Option FieldType} {As : List Value} {Post' : Option Value → va_W → Prop} {XP' : String → Nat → va_W → Prop}
/-- behind a call that was made: back among the rest -/
theorem g_back {p : Program} {e : Env} {s : State} {m : MethodId} {args : Array Value} {below : List Frame} {meth : Method} {c : Code} {A : Nat → Prop} {H : Heap} {locs : List Loc} {ls : Array Slot} {a9 : Array Value} {st0 : List Value} (isC isR : List Nat) (hC : isC.map (fun i => ws[i]?) = wc.map some) (hR : isR.map (fun i => ws[i]?) = wr.map some) (hn : va_nd isR = true) (hdis : ∀ i ∈ isR, i ∉ isC)
    (C : gC v k A p l s m args meth c) (hP : va_P v.1 v.2.1 ws H) (hD : va_D A ws) (hS : va_S A s.heap H locs) (h : lv_has ls k.2.1 L)
    (hr : vx_Run p l e R s m args below meth c H locs cs sl mc' ms' (F0 m pc ls st0) st (gQ v Post' (va_A wc H.size) a9) (gX v XP' (va_A wc H.size)) (va_A wc H.size))
    (kk : ∀ r w, Post' r w → G v l R Qf k (pc + 3) L (r.toList ++ st) (wr ++ w) (cs + mc') (sl + ms')) (kx : ∀ E q w, XP' E q w → GT v l R Qf k pc L st E q (wr ++ w) (cs + mc') (sl + ms')) :
    W p l e R s m args below meth c H locs cs sl (Qf below args s A) (F0 m pc ls st0) := by
  have hF := va_free hD hS C.2.2.2.2.2.2.2.2.2.2.1 isC hC
  intro T hT X
  rcases hr T hT X with ⟨r, st₀, t, T', L9, h0, X', hL, e1, e2, ⟨⟨r', w, hv, hp, hPw, hDw⟩, hz⟩, stp⟩ | ⟨q, st₀, t, T', L9, E, ce, h0, X', hL, e1, e2, ⟨⟨w, hp, hPw, hDw⟩, hz⟩, hce, hcv, hcl, stp⟩
  · cases hv
    obtain ⟨k1, k2, k3⟩ := vx_keep (A0 := A) h0 e1 hS (fun q _ z => hF q z) hF hL hz
    rw [← e1] at hPw
    obtain ⟨j1, j2⟩ := va_join hP hD isC isR hC hR hn hdis k2 hF hPw hDw
    obtain ⟨t2, a1, b1⟩ := kk r w hp p e s m args below meth c A T'.heap (locs ++ L9) ls C j1 j2 k3 h T' rfl X'
    exact ⟨t2, stp t2 a1, b1⟩
  · obtain ⟨k1, k2, k3⟩ := vx_keep (A0 := A) h0 e1 hS (fun q _ z => hF q z) hF hL hz
    rw [← e1] at hPw hce
    obtain ⟨j1, j2⟩ := va_join hP hD isC isR hC hR hn hdis k2 hF hPw hDw
    obtain ⟨t2, a1, b1⟩ := kx E q w hp p e s m args below meth c A T'.heap (locs ++ L9) ls ce C j1 j2 k3 h hce hcv hcl T' rfl X'
    exact ⟨t2, stp.trans a1, b1⟩
/-- the callee's start at a call -/
theorem g_pre {p : Program} {s : State} {m : MethodId} {args : Array Value} {meth : Method} {c : Code} {A : Nat → Prop} {H : Heap} {locs : List Loc} {av : List Value} (hv : gOk v) (isC : List Nat) (hC : isC.map (fun i => ws[i]?) = wc.map some) (hnC : va_nd isC = true)
    (C : gC v k A p l s m args meth c) (hP : va_P v.1 v.2.1 ws H) (hD : va_D A ws) (hS : va_S A s.heap H locs) : ∀ U : State, U.heap = H → s.WarmedH U.vm → gPre v av wc H.size av.toArray U := fun U hU hW => by
  have hF := va_free hD hS C.2.2.2.2.2.2.2.2.2.2.1 isC hC
  refine ⟨rfl, by rw [hU], by rw [hU]; exact hP.sub isC (g_fm hC), va_K.moved hW.alike C.2.2.2.2.2.2.2.2.2.1, (hD.sub isC hnC hC).weaken (fun _ _ _ _ => trivial), ?_⟩
  rw [hU]
  exact hv.2.2.1 A _ _ _ hF (hv.1 A s U H hW (hv.2.1 A s s.heap H hS.2.1 C.2.2.2.2.2.2.2.2.2.2.2.1))
/-- what a call asks of the tables and of the room -/
def gCw (v : gEnv) (R : Room) (own : String) (i : Nat) (y : MethodName) (cc' : ByteArray) (nL' : Nat) (ret' : Option FieldType) (fr' lo' np : Nat) : Prop :=
  Cond.methodLink own i y ∈ v.2.2.2.2 ∧ Cond.initialized y.cls ∈ v.2.2.2.2 ∧ Cond.code y cc' nL' ret' ∈ v.2.2.2.2 ∧ (y.cls ≠ "java/lang/invoke/MethodHandle" ∧ y.cls ≠ "java/lang/invoke/VarHandle") ∧ (parseMethodDescriptor y.desc).map (fun d => d.parameters.length) = some np ∧ fr' + 1 ≤ R.frames ∧ 8 + (nL' + 11) + lo' ≤ R.locals
theorem g_cb {np : Nat} {own : String} {s : State} {args : Array Value} (hv : gOk v) (ht : ∀ w ∈ v.2.2.2.2, w.before args s = true) (hw : gCw v R own i y cc' nL' ret' fr' lo' np) :
    CallB R s args own i y cc' nL' ret' (.code y cc' nL' ret' :: v.2.2.2.2) (gRm fr' lo' mc' ms') mc' ms' np := by
  obtain ⟨w1, w2, w3, w4, w5, w6, w7⟩ := hw
  exact callB_of np ht (fun w hw => by
    rcases List.mem_cons.mp hw with rfl | hw
    · exact ⟨w3, good_of_word (hv.2.2.2 _ w3)⟩
    · exact ⟨hw, good_of_word (hv.2.2.2 _ hw)⟩) rfl rfl rfl (ht _ w2) (ht _ w1) ⟨w4.1, w4.2, w5⟩ ⟨w6, w7⟩
theorem G_callV {ci N : Nat} {fs : List Value} {T : u_T} (hv : gOk v) (cp : Ct v l y cc' nL' ret' fr' lo' mc' ms' (.ref b :: As) wc Post' XP') (d : decode k.1 pc = .ok (.invokevirtual i, 3)) (hw : gCw v R k.2.2.1 i y cc' nL' ret' fr' lo' As.length) (w2 : Cond.instanceMethod y ∈ v.2.2.2.2) (w3 : Cond.selects y.cls y y ∈ v.2.2.2.2)
    (q : Nat) (hq : ws[q]? = some (b, .inr (ci, fs))) (hcl : v.2.1[ci]? = some (y.cls, T, N)) (isC isR : List Nat) (hC : isC.map (fun i => ws[i]?) = wc.map some) (hR : isR.map (fun i => ws[i]?) = wr.map some) (hnC : va_nd isC = true) (hn : va_nd isR = true) (hdis : ∀ i ∈ isR, i ∉ isC)
    (hcs : cs + mc' ≤ R.cells) (hsl : sl + ms' ≤ R.slots) (hcat : (st.map fun u => u.category).sum ≤ 8)
    (kk : ∀ r w, Post' r w → G v l R Qf k (pc + 3) L (r.toList ++ st) (wr ++ w) (cs + mc') (sl + ms')) (kx : ∀ E q w, XP' E q w → GT v l R Qf k pc L st E q (wr ++ w) (cs + mc') (sl + ms')) :
    G v l R Qf k pc L (As.reverse ++ .ref b :: st) ws cs sl := fun p e s m args below meth c A H locs ls C hP hD hS h => by
  obtain ⟨h1, h2, h3, h4, h5, h6, h7, h8, h9, h10, h11, h12, h13⟩ := id C
  refine g_back isC isR hC hR hn hdis C hP hD hS h (vx_runV (As := As) ⟨h1, h2, h3, h4, h8⟩ (cp H.size) ⟨g_cb hv h8 hw, h8 _ w2, h8 _ w3⟩ ⟨gPre_blind hv _ _ _, ?_, g_pre hv isC hC hnC C hP hD hS⟩ rfl rfl h.1 rfl (by show 2 * 0 + _ ≤ 8; omega) d ⟨hcs, hsl⟩) kk kx
  exact va_recv h10 hP hcl hq
theorem G_callS (hv : gOk v) (cp : Ct v l y cc' nL' ret' fr' lo' mc' ms' As wc Post' XP') (d : decode k.1 pc = .ok (.invokestatic i, 3)) (hw : gCw v R k.2.2.1 i y cc' nL' ret' fr' lo' As.length) (w2 : Cond.static y ∈ v.2.2.2.2)
    (isC isR : List Nat) (hC : isC.map (fun i => ws[i]?) = wc.map some) (hR : isR.map (fun i => ws[i]?) = wr.map some) (hnC : va_nd isC = true) (hn : va_nd isR = true) (hdis : ∀ i ∈ isR, i ∉ isC)
    (hcs : cs + mc' ≤ R.cells) (hsl : sl + ms' ≤ R.slots) (hcat : (st.map fun u => u.category).sum ≤ 8)
    (kk : ∀ r w, Post' r w → G v l R Qf k (pc + 3) L (r.toList ++ st) (wr ++ w) (cs + mc') (sl + ms')) (kx : ∀ E q w, XP' E q w → GT v l R Qf k pc L st E q (wr ++ w) (cs + mc') (sl + ms')) :
    G v l R Qf k pc L (As.reverse ++ st) ws cs sl := fun p e s m args below meth c A H locs ls C hP hD hS h => by
  obtain ⟨h1, h2, h3, h4, h5, h6, h7, h8, h9, h10, h11, h12, h13⟩ := id C
  exact g_back isC isR hC hR hn hdis C hP hD hS h (vx_runS (As := As) ⟨h1, h2, h3, h4, h8⟩ (cp H.size) ⟨g_cb hv h8 hw, h8 _ w2⟩ ⟨gPre_blind hv _ _ _, g_pre hv isC hC hnC C hP hD hS⟩ rfl rfl h.1 rfl (by show 2 * 0 + _ ≤ 8; omega) d ⟨hcs, hsl⟩) kk kx
end GCall
