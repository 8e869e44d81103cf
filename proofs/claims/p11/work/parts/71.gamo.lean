/-! G: contracts that tell how many cells and slots were made -/
def gSl (H : Heap) : Nat := (H.toList.map (fun c => c.slots.size)).sum
def gHz (H H1 : Heap) (dc ds : Nat) : Prop := H1.size ≤ H.size + dc ∧ gSl H1 ≤ gSl H + ds
theorem gSl_eq {s s' : State} {locs : List Loc} {cells slots : Nat} (h : s.sameButNew s' locs cells slots) : gSl s'.heap = gSl s.heap + ((s'.heap.toList.drop s.heap.size).map (fun c => c.slots.size)).sum := by
  obtain ⟨-, h2, -, -, -, h6⟩ := h
  have ht : (s'.heap.toList.take s.heap.size).map (fun c => c.slots.size) = s.heap.toList.map (fun c => c.slots.size) := by
    apply List.ext_getElem?
    intro j
    rw [List.getElem?_map, List.getElem?_map]
    by_cases hj : j < s.heap.size
    · rw [List.getElem?_take_of_lt hj]
      have e0 : s.heap[j]? = some s.heap[j] := Array.getElem?_eq_getElem hj
      obtain ⟨c', e1, -, e3, -⟩ := h6 j _ e0
      have e2 : s'.heap.toList[j]? = some c' := by rw [Array.getElem?_toList]; exact e1
      have e4 : s.heap.toList[j]? = some s.heap[j] := by rw [Array.getElem?_toList]; exact e0
      rw [e2, e4]
      simp [e3]
    · rw [List.getElem?_eq_none (by rw [List.length_take]; omega), List.getElem?_eq_none (by rw [Array.length_toList]; omega)]
  have e : s'.heap.toList = s'.heap.toList.take s.heap.size ++ s'.heap.toList.drop s.heap.size := (List.take_append_drop _ _).symm
  have e2 : (s'.heap.toList.map (fun c => c.slots.size)).sum = ((s'.heap.toList.take s.heap.size ++ s'.heap.toList.drop s.heap.size).map (fun c => c.slots.size)).sum := congrArg (fun z => (List.map (fun c : Cell => c.slots.size) z).sum) e
  unfold gSl
  rw [e2, List.map_append, List.sum_append, ht]
theorem gHz_of {s s' : State} {locs : List Loc} {cells slots : Nat} (h : s.sameButNew s' locs cells slots) : gHz s.heap s'.heap cells slots := by
  refine ⟨h.2.2.1, ?_⟩
  rw [gSl_eq h]
  exact Nat.add_le_add_left h.2.2.2.2.1 _
theorem gHz_trans {H H1 H2 : Heap} {a b c d : Nat} (h : gHz H H1 a b) (g : gHz H1 H2 c d) : gHz H H2 (a + c) (b + d) := ⟨by have := h.1; have := g.1; omega, by have := h.2; have := g.2; omega⟩
section GTI
variable {p : Program} {l : Launch} {e : Env} {R : Room} {s : State} {m : MethodId} {args : Array Value} {below : List Frame} {meth : Method} {c : Code} {T T' : State} {locs locs' : List Loc} {cs sl cs' sl' dc ds : Nat}
theorem gHz_stand (X : Stand p l e R s m args below meth c T locs cs sl) : gHz s.heap T.heap cs sl := by
  have h := gHz_of X.same
  exact h
theorem stand_tight (X : Stand p l e R s m args below meth c T locs cs sl) (X' : Stand p l e R s m args below meth c T' locs' cs' sl') (hz : gHz T.heap T'.heap dc ds) : Stand p l e R s m args below meth c T' locs' (cs + dc) (sl + ds) := by
  have h1 := gHz_trans (gHz_stand X) hz
  have h2 := gSl_eq X'.same
  have h3 : gSl T'.heap = gSl s.heap + ((T'.heap.toList.drop s.heap.size).map (fun c => c.slots.size)).sum := h2
  refine { X' with same := ⟨X'.same.1, X'.same.2.1, h1.1, X'.same.2.2.2.1, ?_, X'.same.2.2.2.2.2⟩ }
  have h4 := h1.2
  show ((T'.heap.toList.drop s.heap.size).map (fun c => c.slots.size)).sum ≤ sl + ds
  omega
end GTI
def gQA (v : gEnv) (Post : Option Value → va_W → Nat → Nat → Prop) (A : Nat → Prop) : Array Value → State → Outcome → State → Prop := fun _ st o t => (∃ (r : Option Value) (w : va_W) (dc ds : Nat), o = .returned r ∧ Post r w dc ds ∧ gHz st.heap t.heap dc ds ∧ va_P v.1 v.2.1 w t.heap ∧ va_D A w) ∧ va_F A st t
def gXA (v : gEnv) (XP : String → Nat → va_W → Nat → Nat → Prop) (A : Nat → Prop) : String → Addr → State → State → Prop := fun E q st t => (∃ (w : va_W) (dc ds : Nat), XP E q w dc ds ∧ gHz st.heap t.heap dc ds ∧ va_P v.1 v.2.1 w t.heap ∧ va_D A w) ∧ va_F A st t
def gMA (v : gEnv) (Post : Option Value → va_W → Nat → Nat → Prop) (XP : String → Nat → va_W → Nat → Nat → Prop) (mc ms : Nat) : gFin := fun below args s A => vx_MQ below (gQA v Post A) (gXA v XP A) args s mc ms A
/-- as Ct; the ends say how much was made -/
def CtA (v : gEnv) (l : Launch) (y : MethodName) (cc : ByteArray) (nL : Nat) (ret : Option FieldType) (fr lo mc ms : Nat) (av : List Value) (ws : va_W) (Post : Option Value → va_W → Nat → Nat → Prop) (XP : String → Nat → va_W → Nat → Nat → Prop) : Prop :=
  ∀ sz : Nat, vx_Met l y (.code y cc nL ret :: v.2.2.2.2) (gRm fr lo mc ms) (gPre v av ws sz) (gQA v Post (va_A ws sz)) (gXA v XP (va_A ws sz)) mc ms (va_A ws sz)
abbrev gNA : String → Nat → va_W → Nat → Nat → Prop := fun _ _ _ _ _ => False
section GEA
variable {v : gEnv} {l : Launch} {y : MethodName} {cc : ByteArray} {nL fr lo mc ms : Nat} {ret : Option FieldType} {av : List Value} {ws : va_W} {Post : Option Value → va_W → Nat → Nat → Prop} {XP : String → Nat → va_W → Nat → Nat → Prop}
set_option maxHeartbeats 1000000 in
theorem CtA_of (hl0 : l.stackTraces = false) (hy : plainName y.cls = true) (hlen : (lg_sl av).length ≤ nL) (h : G v l (gRm fr lo mc ms) (gMA v Post XP mc ms) (cc, nL, y.cls, ret, [], y.name, fun _ _ => True) 0 (lv_args 0 av) [] ws 0 0) :
    CtA v l y cc nL ret fr lo mc ms av ws Post XP := by
  intro sz
  refine vx_ofW (cc := cc) (maxL := nL) (ret := ret) hy rfl ?_
  intro p e s m args below meth c s₁ B hml ht hpre
  obtain ⟨rfl, hsz, hP, hK, hD, hE⟩ := hpre
  subst hsz
  have hts := atoms_spec (ws := .code y cc nL ret :: v.2.2.2.2) B.pre
  have hl := lv_entry av (n := nL) hlen
  rw [lg_entry_eq]
  generalize (lg_sl av ++ List.replicate (nL - (lg_sl av).length) Slot.unset).toArray = ls at hl ⊢
  have ht0 : c.exceptionTable.toList = [] := by
    cases hx : c.exceptionTable.toList with
    | nil => rfl
    | cons x r => exact absurd (by rw [hx]; exact List.mem_cons_self) (fun z => ht x z)
  exact h p e s m av.toArray below meth c (va_A ws s.heap.size) s.heap [] ls ⟨B.exec, B.bytes, hml, findClass_of_methodNamed B.named, B.returns, ht0, (name_of_methodNamed B.named B.method).1, fun w hw => hts w (List.mem_cons_of_mem _ hw), B.notSynchronized, hK, fun q hq => Or.inr hq, hE, hl0, trivial⟩ hP hD.self va_S.rf hl
/-- a contract with fixed numbers is one -/
theorem CtA_ofCt {P0 : Option Value → va_W → Prop} {X0 : String → Nat → va_W → Prop} (h : Ct v l y cc nL ret fr lo mc ms av ws P0 X0) : CtA v l y cc nL ret fr lo mc ms av ws (fun r w dc ds => P0 r w ∧ dc = mc ∧ ds = ms) (fun E q w dc ds => X0 E q w ∧ dc = mc ∧ ds = ms) := by
  intro sz p e h1 h2 h3 s m args below h4 h5 h6 h7
  obtain ⟨n, o, g1, g2, g3, g4⟩ := h sz p e h1 h2 h3 s m args below h4 h5 h6 h7
  refine ⟨n, o, g1, g2, g3, ?_⟩
  rcases g4 with ⟨⟨⟨r, w, e1, e2, e3, e4⟩, e5⟩, L, e6, e7⟩ | ⟨q, e1, E, ce, L, ⟨⟨w, e2, e3, e4⟩, e5⟩, e6, e7, e8, e9, e10, e11⟩
  · exact Or.inl ⟨⟨⟨r, w, mc, ms, e1, ⟨e2, rfl, rfl⟩, (by have z := gHz_of e6.2.2; exact z), e3, e4⟩, e5⟩, L, e6, e7⟩
  · exact Or.inr ⟨q, e1, E, ce, L, ⟨⟨w, mc, ms, ⟨e2, rfl, rfl⟩, (by have z := gHz_of e10; exact z), e3, e4⟩, e5⟩, e6, e7, e8, e9, e10, e11⟩
end GEA
section GRetA
variable {v : gEnv} {l : Launch} {R : Room} {k : gKey} {pc cs sl mc ms : Nat} {L : List (Nat × Value)} {ws : va_W} {Post : Option Value → va_W → Nat → Nat → Prop} {XP : String → Nat → va_W → Nat → Nat → Prop}
theorem G_iretA {x : Int32} (d : decode k.1 pc = .ok (.ireturn, 1)) (hr : k.2.2.2.1 = some .int) (h1 : cs ≤ mc) (h2 : sl ≤ ms) (hp : Post (some (.int x)) ws cs sl) : G v l R (gMA v Post XP mc ms) k pc L [.int x] ws cs sl := fun p e s m args below meth c A H locs ls C hP hD hS h => by
  intro T hT X
  have hz := gHz_stand X
  rw [hT] at hz
  exact W.widen h1 h2 (vx_ret (W.iret C.1 C.2.1 (C.2.2.2.2.1.trans hr) (fun t ht hW => ⟨⟨_, ws, cs, sl, rfl, hp, by rw [ht]; exact hz, by rw [ht]; exact hP, hD⟩, hS.F ht⟩) hS.2.2 d C.2.2.2.2.2.2.2.2.1)) T hT X
theorem G_zretA {x : Int32} (ty : FieldType) (d : decode k.1 pc = .ok (.ireturn, 1)) (hr : k.2.2.2.1 = some ty) (hx : narrow ty (.int x) = .int x) (h1 : cs ≤ mc) (h2 : sl ≤ ms) (hp : Post (some (.int x)) ws cs sl) : G v l R (gMA v Post XP mc ms) k pc L [.int x] ws cs sl := fun p e s m args below meth c A H locs ls C hP hD hS h => by
  intro T hT X
  have hz := gHz_stand X
  rw [hT] at hz
  exact W.widen h1 h2 (vx_ret (W.zret C.1 C.2.1 (C.2.2.2.2.1.trans hr) hx (fun t ht hW => ⟨⟨_, ws, cs, sl, rfl, hp, by rw [ht]; exact hz, by rw [ht]; exact hP, hD⟩, hS.F ht⟩) hS.2.2 d C.2.2.2.2.2.2.2.2.1)) T hT X
theorem G_lretA {x : Int64} (d : decode k.1 pc = .ok (.lreturn, 1)) (hr : k.2.2.2.1 = some .long) (h1 : cs ≤ mc) (h2 : sl ≤ ms) (hp : Post (some (.long x)) ws cs sl) : G v l R (gMA v Post XP mc ms) k pc L [.long x] ws cs sl := fun p e s m args below meth c A H locs ls C hP hD hS h => by
  intro T hT X
  have hz := gHz_stand X
  rw [hT] at hz
  exact W.widen h1 h2 (vx_ret (W.lret C.1 C.2.1 (C.2.2.2.2.1.trans hr) (fun t ht hW => ⟨⟨_, ws, cs, sl, rfl, hp, by rw [ht]; exact hz, by rw [ht]; exact hP, hD⟩, hS.F ht⟩) hS.2.2 d C.2.2.2.2.2.2.2.2.1)) T hT X
theorem G_aretA {x : Value} (rt : FieldType) (d : decode k.1 pc = .ok (.areturn, 1)) (hr : k.2.2.2.1 = some rt) (hrt : (∃ n, rt = .object n) ∨ ∃ t, rt = .array t) (hx : x = .null ∨ ∃ a, x = .ref a) (h1 : cs ≤ mc) (h2 : sl ≤ ms) (hp : Post (some x) ws cs sl) : G v l R (gMA v Post XP mc ms) k pc L [x] ws cs sl := fun p e s m args below meth c A H locs ls C hP hD hS h => by
  intro T hT X
  have hz := gHz_stand X
  rw [hT] at hz
  exact W.widen h1 h2 (vx_ret (W.aret C.1 C.2.1 (C.2.2.2.2.1.trans hr) hrt hx (fun t ht hW => ⟨⟨_, ws, cs, sl, rfl, hp, by rw [ht]; exact hz, by rw [ht]; exact hP, hD⟩, hS.F ht⟩) hS.2.2 d C.2.2.2.2.2.2.2.2.1)) T hT X
theorem G_vretA (d : decode k.1 pc = .ok (.return_, 1)) (hr : k.2.2.2.1 = none) (h1 : cs ≤ mc) (h2 : sl ≤ ms) (hp : Post none ws cs sl) : G v l R (gMA v Post XP mc ms) k pc L [] ws cs sl := fun p e s m args below meth c A H locs ls C hP hD hS h => by
  intro T hT X
  have hz := gHz_stand X
  rw [hT] at hz
  exact W.widen h1 h2 (vx_ret (W.vret C.1 C.2.1 (C.2.2.2.2.1.trans hr) (fun t ht hW => ⟨⟨_, ws, cs, sl, rfl, hp, by rw [ht]; exact hz, by rw [ht]; exact hP, hD⟩, hS.F ht⟩) hS.2.2 d C.2.2.2.2.2.2.2.2.1)) T hT X
theorem GT_outA {st : List Value} {E : String} {q : Nat} (ht : k.2.2.2.2.1 = []) (h1 : cs ≤ mc) (h2 : sl ≤ ms) (hp : XP E q ws cs sl) : GT v l R (gMA v Post XP mc ms) k pc L st E q ws cs sl := fun p e s m args below meth c A H locs ls ce C hP hD hS h hq hv hcl => by
  intro T hT X
  have hz := gHz_stand X
  rw [hT] at hz
  exact vx_out (fun x hx => by rw [C.2.2.2.2.2.1, ht] at hx; cases hx) C.2.2.2.2.2.2.2.2.1 hq hv hcl (fun t ht hW => ⟨⟨ws, cs, sl, hp, by rw [ht]; exact hz, by rw [ht]; exact hP, hD⟩, hS.F ht⟩) hS.2.2 h1 h2 T hT X
end GRetA
section GCallA
variable {v : gEnv} {l : Launch} {R : Room} {Qf : gFin} {k : gKey} {pc cs sl : Nat} {L : List (Nat × Value)} {st : List Value} {ws wc wr : va_W}
variable {y : MethodName} {cc' : ByteArray} {nL' fr' lo' mc' ms' i b : Nat} {ret' : Option FieldType} {As : List Value} {Post' : Option Value → va_W → Nat → Nat → Prop} {XP' : String → Nat → va_W → Nat → Nat → Prop}
theorem g_backA {p : Program} {e : Env} {s : State} {m : MethodId} {args : Array Value} {below : List Frame} {meth : Method} {c : Code} {A : Nat → Prop} {H : Heap} {locs : List Loc} {ls : Array Slot} {a9 : Array Value} {st0 : List Value} (isC isR : List Nat) (hC : isC.map (fun i => ws[i]?) = wc.map some) (hR : isR.map (fun i => ws[i]?) = wr.map some) (hn : va_nd isR = true) (hdis : ∀ i ∈ isR, i ∉ isC)
    (C : gC v k A p l s m args meth c) (hP : va_P v.1 v.2.1 ws H) (hD : va_D A ws) (hS : va_S A s.heap H locs) (h : lv_has ls k.2.1 L)
    (hr : vx_Run p l e R s m args below meth c H locs cs sl mc' ms' (F0 m pc ls st0) st (gQA v Post' (va_A wc H.size) a9) (gXA v XP' (va_A wc H.size)) (va_A wc H.size))
    (kk : ∀ r w dc ds, Post' r w dc ds → G v l R Qf k (pc + 3) L (r.toList ++ st) (wr ++ w) (cs + dc) (sl + ds)) (kx : ∀ E q w dc ds, XP' E q w dc ds → GT v l R Qf k pc L st E q (wr ++ w) (cs + dc) (sl + ds)) :
    W p l e R s m args below meth c H locs cs sl (Qf below args s A) (F0 m pc ls st0) := by
  have hF := va_free hD hS C.2.2.2.2.2.2.2.2.2.2.1 isC hC
  intro T hT X
  rcases hr T hT X with ⟨r, st₀, t, T', L9, h0, X', hL, e1, e2, ⟨⟨r', w, dc, ds, hv, hp, hzz, hPw, hDw⟩, hz⟩, stp⟩ | ⟨q, st₀, t, T', L9, E, ce, h0, X', hL, e1, e2, ⟨⟨w, dc, ds, hp, hzz, hPw, hDw⟩, hz⟩, hce, hcv, hcl, stp⟩
  · cases hv
    have X2 := stand_tight X X' (dc := dc) (ds := ds) (by rw [hT, e1, ← h0]; exact hzz)
    obtain ⟨k1, k2, k3⟩ := vx_keep (A0 := A) h0 e1 hS (fun q _ z => hF q z) hF hL hz
    rw [← e1] at hPw
    obtain ⟨j1, j2⟩ := va_join hP hD isC isR hC hR hn hdis k2 hF hPw hDw
    obtain ⟨t2, a1, b1⟩ := kk r w dc ds hp p e s m args below meth c A T'.heap (locs ++ L9) ls C j1 j2 k3 h T' rfl X2
    exact ⟨t2, stp t2 a1, b1⟩
  · have X2 := stand_tight X X' (dc := dc) (ds := ds) (by rw [hT, e1, ← h0]; exact hzz)
    obtain ⟨k1, k2, k3⟩ := vx_keep (A0 := A) h0 e1 hS (fun q _ z => hF q z) hF hL hz
    rw [← e1] at hPw hce
    obtain ⟨j1, j2⟩ := va_join hP hD isC isR hC hR hn hdis k2 hF hPw hDw
    obtain ⟨t2, a1, b1⟩ := kx E q w dc ds hp p e s m args below meth c A T'.heap (locs ++ L9) ls ce C j1 j2 k3 h hce hcv hcl T' rfl X2
    exact ⟨t2, stp.trans a1, b1⟩
theorem g_backAM {p : Program} {e : Env} {s : State} {m : MethodId} {args : Array Value} {below : List Frame} {meth : Method} {c : Code} {A : Nat → Prop} {H : Heap} {locs : List Loc} {ls : Array Slot} {a9 : Array Value} {st0 : List Value} (isC isR : List Nat) (hC : isC.map (fun i => ws[i]?) = wc.map some) (hR : isR.map (fun i => ws[i]?) = wr.map some) (hn : va_nd isR = true) (hdis : ∀ i ∈ isR, i ∉ isC)
    (C : gC v k A p l s m args meth c) (hP : va_P v.1 v.2.1 ws H) (hD : va_D A ws) (hS : va_S A s.heap H locs) (h : lv_has ls k.2.1 L)
    (hr : va_Run p l e R s m args below meth c H locs cs sl mc' ms' (F0 m pc ls st0) st (gQA v Post' (va_A wc H.size) a9) (va_A wc H.size))
    (kk : ∀ r w dc ds, Post' r w dc ds → G v l R Qf k (pc + 3) L (r.toList ++ st) (wr ++ w) (cs + dc) (sl + ds)) :
    W p l e R s m args below meth c H locs cs sl (Qf below args s A) (F0 m pc ls st0) :=
  g_backA (XP' := gNA) isC isR hC hR hn hdis C hP hD hS h (fun T hT X => Or.inl (hr T hT X)) kk (fun _ _ _ _ _ z => z.elim)
theorem CtA_met (h : CtA v l y cc' nL' ret' fr' lo' mc' ms' As wc Post' gNA) (sz : Nat) :
    Met l y (.code y cc' nL' ret' :: v.2.2.2.2) (gRm fr' lo' mc' ms') (gPre v As wc sz) (gQA v Post' (va_A wc sz)) mc' ms' (va_A wc sz) := by
  intro p e h1 h2 h3 s m args below h4 h5 h6 h7
  obtain ⟨n, o, g1, g2, g3, g4⟩ := h sz p e h1 h2 h3 s m args below h4 h5 h6 h7
  refine ⟨n, o, g1, g2, g3, ?_⟩
  rcases g4 with g4 | ⟨q, -, E, ce, L, ⟨⟨w, dc, ds, hw, -⟩, -⟩, -⟩
  · exact g4
  · exact hw.elim
theorem G_callVA {ci N : Nat} {fs : List Value} {T : u_T} (hv : gOk v) (cp : CtA v l y cc' nL' ret' fr' lo' mc' ms' (.ref b :: As) wc Post' XP') (d : decode k.1 pc = .ok (.invokevirtual i, 3)) (hw : gCw v R k.2.2.1 i y cc' nL' ret' fr' lo' As.length) (w2 : Cond.instanceMethod y ∈ v.2.2.2.2) (w3 : Cond.selects y.cls y y ∈ v.2.2.2.2)
    (q : Nat) (hq : ws[q]? = some (b, .inr (ci, fs))) (hcl : v.2.1[ci]? = some (y.cls, T, N)) (isC isR : List Nat) (hC : isC.map (fun i => ws[i]?) = wc.map some) (hR : isR.map (fun i => ws[i]?) = wr.map some) (hnC : va_nd isC = true) (hn : va_nd isR = true) (hdis : ∀ i ∈ isR, i ∉ isC)
    (hcs : cs + mc' ≤ R.cells) (hsl : sl + ms' ≤ R.slots) (hcat : (st.map fun u => u.category).sum ≤ 8)
    (kk : ∀ r w dc ds, Post' r w dc ds → G v l R Qf k (pc + 3) L (r.toList ++ st) (wr ++ w) (cs + dc) (sl + ds)) (kx : ∀ E q w dc ds, XP' E q w dc ds → GT v l R Qf k pc L st E q (wr ++ w) (cs + dc) (sl + ds)) :
    G v l R Qf k pc L (As.reverse ++ .ref b :: st) ws cs sl := fun p e s m args below meth c A H locs ls C hP hD hS h => by
  obtain ⟨h1, h2, h3, h4, h5, h6, h7, h8, h9, h10, h11, h12, h13⟩ := id C
  refine g_backA isC isR hC hR hn hdis C hP hD hS h (vx_runV (As := As) ⟨h1, h2, h3, h4, h8⟩ (cp H.size) ⟨g_cb hv h8 hw, h8 _ w2, h8 _ w3⟩ ⟨gPre_blind hv _ _ _, ?_, g_pre hv isC hC hnC C hP hD hS⟩ rfl rfl h.1 rfl (by show 2 * 0 + _ ≤ 8; omega) d ⟨hcs, hsl⟩) kk kx
  exact va_recv h10 hP hcl hq
theorem G_callSA (hv : gOk v) (cp : CtA v l y cc' nL' ret' fr' lo' mc' ms' As wc Post' XP') (d : decode k.1 pc = .ok (.invokestatic i, 3)) (hw : gCw v R k.2.2.1 i y cc' nL' ret' fr' lo' As.length) (w2 : Cond.static y ∈ v.2.2.2.2)
    (isC isR : List Nat) (hC : isC.map (fun i => ws[i]?) = wc.map some) (hR : isR.map (fun i => ws[i]?) = wr.map some) (hnC : va_nd isC = true) (hn : va_nd isR = true) (hdis : ∀ i ∈ isR, i ∉ isC)
    (hcs : cs + mc' ≤ R.cells) (hsl : sl + ms' ≤ R.slots) (hcat : (st.map fun u => u.category).sum ≤ 8)
    (kk : ∀ r w dc ds, Post' r w dc ds → G v l R Qf k (pc + 3) L (r.toList ++ st) (wr ++ w) (cs + dc) (sl + ds)) (kx : ∀ E q w dc ds, XP' E q w dc ds → GT v l R Qf k pc L st E q (wr ++ w) (cs + dc) (sl + ds)) :
    G v l R Qf k pc L (As.reverse ++ st) ws cs sl := fun p e s m args below meth c A H locs ls C hP hD hS h => by
  obtain ⟨h1, h2, h3, h4, h5, h6, h7, h8, h9, h10, h11, h12, h13⟩ := id C
  exact g_backA isC isR hC hR hn hdis C hP hD hS h (vx_runS (As := As) ⟨h1, h2, h3, h4, h8⟩ (cp H.size) ⟨g_cb hv h8 hw, h8 _ w2⟩ ⟨gPre_blind hv _ _ _, g_pre hv isC hC hnC C hP hD hS⟩ rfl rfl h.1 rfl (by show 2 * 0 + _ ≤ 8; omega) d ⟨hcs, hsl⟩) kk kx
theorem G_callIA (hv : gOk v) (cp : CtA v l y cc' nL' none fr' lo' mc' ms' (.ref b :: As) wc Post' gNA) (d : decode k.1 pc = .ok (.invokespecial i, 3)) (hw : gCw v R k.2.2.1 i y cc' nL' none fr' lo' As.length) (w2 : Cond.instanceMethod y ∈ v.2.2.2.2) (hin : y.name = "<init>")
    (isC isR : List Nat) (hC : isC.map (fun i => ws[i]?) = wc.map some) (hR : isR.map (fun i => ws[i]?) = wr.map some) (hnC : va_nd isC = true) (hn : va_nd isR = true) (hdis : ∀ i ∈ isR, i ∉ isC)
    (hcs : cs + mc' ≤ R.cells) (hsl : sl + ms' ≤ R.slots) (hcat : (st.map fun u => u.category).sum ≤ 8)
    (kk : ∀ r w dc ds, Post' r w dc ds → G v l R Qf k (pc + 3) L (r.toList ++ st) (wr ++ w) (cs + dc) (sl + ds)) : G v l R Qf k pc L (As.reverse ++ .ref b :: st) ws cs sl := fun p e s m args below meth c A H locs ls C hP hD hS h => by
  obtain ⟨h1, h2, h3, h4, h5, h6, h7, h8, h9, h10, h11, h12, h13⟩ := id C
  exact g_backAM isC isR hC hR hn hdis C hP hD hS h (va_runI (As := As) ⟨h1, h2, h3, h4, h8⟩ (CtA_met cp H.size) ⟨g_cb hv h8 hw, hin, h8 _ w2⟩ ⟨gPre_blind hv _ _ _, g_pre hv isC hC hnC C hP hD hS⟩ rfl rfl h.1 rfl (by show 2 * 0 + _ ≤ 8; omega) d ⟨hcs, hsl⟩) kk
theorem G_callINA {host : String} (hv : gOk v) (cp : CtA v l y cc' nL' none fr' lo' mc' ms' (.ref b :: As) wc Post' gNA) (d : decode k.1 pc = .ok (.invokespecial i, 3)) (hw : gCn v R k.2.2.1 i y host cc' nL' none fr' lo' As.length) (w2 : Cond.instanceMethod y ∈ v.2.2.2.2) (hin : y.name = "<init>")
    (isC isR : List Nat) (hC : isC.map (fun i => ws[i]?) = wc.map some) (hR : isR.map (fun i => ws[i]?) = wr.map some) (hnC : va_nd isC = true) (hn : va_nd isR = true) (hdis : ∀ i ∈ isR, i ∉ isC)
    (hcs : cs + mc' ≤ R.cells) (hsl : sl + ms' ≤ R.slots) (hcat : (st.map fun u => u.category).sum ≤ 8)
    (kk : ∀ r w dc ds, Post' r w dc ds → G v l R Qf k (pc + 3) L (r.toList ++ st) (wr ++ w) (cs + dc) (sl + ds)) : G v l R Qf k pc L (As.reverse ++ .ref b :: st) ws cs sl := fun p e s m args below meth c A H locs ls C hP hD hS h => by
  obtain ⟨h1, h2, h3, h4, h5, h6, h7, h8, h9, h10, h11, h12, h13⟩ := id C
  exact g_backAM isC isR hC hR hn hdis C hP hD hS h (va_runIN (As := As) ⟨h1, h2, h3, h4, h8⟩ (CtA_met cp H.size) ⟨g_cn hv h8 h12 hw, hin, h8 _ w2⟩ ⟨gPre_blind hv _ _ _, g_pre hv isC hC hnC C hP hD hS⟩ rfl rfl h.1 rfl (by show 2 * 0 + _ ≤ 8; omega) d ⟨hcs, hsl⟩) kk
theorem G_callSNA {host : String} (hv : gOk v) (cp : CtA v l y cc' nL' ret' fr' lo' mc' ms' As wc Post' gNA) (d : decode k.1 pc = .ok (.invokestatic i, 3)) (hw : gCn v R k.2.2.1 i y host cc' nL' ret' fr' lo' As.length) (w2 : Cond.static y ∈ v.2.2.2.2)
    (isC isR : List Nat) (hC : isC.map (fun i => ws[i]?) = wc.map some) (hR : isR.map (fun i => ws[i]?) = wr.map some) (hnC : va_nd isC = true) (hn : va_nd isR = true) (hdis : ∀ i ∈ isR, i ∉ isC)
    (hcs : cs + mc' ≤ R.cells) (hsl : sl + ms' ≤ R.slots) (hcat : (st.map fun u => u.category).sum ≤ 8)
    (kk : ∀ r w dc ds, Post' r w dc ds → G v l R Qf k (pc + 3) L (r.toList ++ st) (wr ++ w) (cs + dc) (sl + ds)) : G v l R Qf k pc L (As.reverse ++ st) ws cs sl := fun p e s m args below meth c A H locs ls C hP hD hS h => by
  obtain ⟨h1, h2, h3, h4, h5, h6, h7, h8, h9, h10, h11, h12, h13⟩ := id C
  exact g_backAM isC isR hC hR hn hdis C hP hD hS h (va_runSN (As := As) ⟨h1, h2, h3, h4, h8⟩ (CtA_met cp H.size) ⟨g_cn hv h8 h12 hw, h8 _ w2, trivial⟩ ⟨gPre_blind hv _ _ _, g_pre hv isC hC hnC C hP hD hS⟩ rfl rfl h.1 rfl (by show 2 * 0 + _ ≤ 8; omega) d ⟨hcs, hsl⟩) kk
end GCallA
