/-! G: constructors, nest mates, Math, throw and catch -/
theorem Ct_met {v : gEnv} {l : Launch} {y : MethodName} {cc : ByteArray} {nL fr lo mc ms : Nat} {ret : Option FieldType} {av : List Value} {ws : va_W} {Post : Option Value → va_W → Prop} (h : Ct v l y cc nL ret fr lo mc ms av ws Post gN) (sz : Nat) :
    Met l y (.code y cc nL ret :: v.2.2.2.2) (gRm fr lo mc ms) (gPre v av ws sz) (gQ v Post (va_A ws sz)) mc ms (va_A ws sz) := by
  intro p e h1 h2 h3 s m args below h4 h5 h6 h7
  obtain ⟨n, o, g1, g2, g3, g4⟩ := h sz p e h1 h2 h3 s m args below h4 h5 h6 h7
  refine ⟨n, o, g1, g2, g3, ?_⟩
  rcases g4 with g4 | ⟨q, -, E, ce, L, ⟨⟨w, hw, -⟩, -⟩, -⟩
  · exact g4
  · exact hw.elim
section GC2
variable {v : gEnv} {l : Launch} {R : Room} {Qf : gFin} {k : gKey} {pc cs sl : Nat} {L L' : List (Nat × Value)} {st : List Value} {ws wc wr : va_W}
variable {y : MethodName} {cc' : ByteArray} {nL' fr' lo' mc' ms' i b : Nat} {ret' : Option FieldType} {As : List Value} {Post' : Option Value → va_W → Prop}
theorem g_backM {p : Program} {e : Env} {s : State} {m : MethodId} {args : Array Value} {below : List Frame} {meth : Method} {c : Code} {A : Nat → Prop} {H : Heap} {locs : List Loc} {ls : Array Slot} {a9 : Array Value} {st0 : List Value} (isC isR : List Nat) (hC : isC.map (fun i => ws[i]?) = wc.map some) (hR : isR.map (fun i => ws[i]?) = wr.map some) (hn : va_nd isR = true) (hdis : ∀ i ∈ isR, i ∉ isC)
    (C : gC v k A p l s m args meth c) (hP : va_P v.1 v.2.1 ws H) (hD : va_D A ws) (hS : va_S A s.heap H locs) (h : lv_has ls k.2.1 L)
    (hr : va_Run p l e R s m args below meth c H locs cs sl mc' ms' (F0 m pc ls st0) st (gQ v Post' (va_A wc H.size) a9) (va_A wc H.size))
    (kk : ∀ r w, Post' r w → G v l R Qf k (pc + 3) L (r.toList ++ st) (wr ++ w) (cs + mc') (sl + ms')) :
    W p l e R s m args below meth c H locs cs sl (Qf below args s A) (F0 m pc ls st0) :=
  g_back (XP' := gN) isC isR hC hR hn hdis C hP hD hS h (fun T hT X => Or.inl (hr T hT X)) kk (fun _ _ _ z => z.elim)
/-- a constructor -/
theorem G_callI (hv : gOk v) (cp : Ct v l y cc' nL' none fr' lo' mc' ms' (.ref b :: As) wc Post' gN) (d : decode k.1 pc = .ok (.invokespecial i, 3)) (hw : gCw v R k.2.2.1 i y cc' nL' none fr' lo' As.length) (w2 : Cond.instanceMethod y ∈ v.2.2.2.2) (hin : y.name = "<init>")
    (isC isR : List Nat) (hC : isC.map (fun i => ws[i]?) = wc.map some) (hR : isR.map (fun i => ws[i]?) = wr.map some) (hnC : va_nd isC = true) (hn : va_nd isR = true) (hdis : ∀ i ∈ isR, i ∉ isC)
    (hcs : cs + mc' ≤ R.cells) (hsl : sl + ms' ≤ R.slots) (hcat : (st.map fun u => u.category).sum ≤ 8)
    (kk : ∀ r w, Post' r w → G v l R Qf k (pc + 3) L (r.toList ++ st) (wr ++ w) (cs + mc') (sl + ms')) : G v l R Qf k pc L (As.reverse ++ .ref b :: st) ws cs sl := fun p e s m args below meth c A H locs ls C hP hD hS h => by
  obtain ⟨h1, h2, h3, h4, h5, h6, h7, h8, h9, h10, h11, h12, h13⟩ := id C
  exact g_backM isC isR hC hR hn hdis C hP hD hS h (va_runI (As := As) ⟨h1, h2, h3, h4, h8⟩ (Ct_met cp H.size) ⟨g_cb hv h8 hw, hin, h8 _ w2⟩ ⟨gPre_blind hv _ _ _, g_pre hv isC hC hnC C hP hD hS⟩ rfl rfl h.1 rfl (by show 2 * 0 + _ ≤ 8; omega) d ⟨hcs, hsl⟩) kk
/-- what a call by a nest mate asks -/
def gCn (v : gEnv) (R : Room) (own : String) (i : Nat) (y : MethodName) (host : String) (cc' : ByteArray) (nL' : Nat) (ret' : Option FieldType) (fr' lo' np : Nat) : Prop :=
  (∀ A s H, v.2.2.2.1 A s H → va_Nw (.methodLinkNest own i y host) s) ∧ Cond.initialized y.cls ∈ v.2.2.2.2 ∧ Cond.code y cc' nL' ret' ∈ v.2.2.2.2 ∧ (y.cls ≠ "java/lang/invoke/MethodHandle" ∧ y.cls ≠ "java/lang/invoke/VarHandle") ∧ (parseMethodDescriptor y.desc).map (fun d => d.parameters.length) = some np ∧ fr' + 1 ≤ R.frames ∧ 8 + (nL' + 11) + lo' ≤ R.locals
theorem g_cn {np : Nat} {own host : String} {s : State} {args : Array Value} {A : Nat → Prop} {H : Heap} (hv : gOk v) (ht : ∀ w ∈ v.2.2.2.2, w.before args s = true) (hE : v.2.2.2.1 A s H) (hw : gCn v R own i y host cc' nL' ret' fr' lo' np) :
    va_CN R s args own i y host cc' nL' ret' (.code y cc' nL' ret' :: v.2.2.2.2) (gRm fr' lo' mc' ms') mc' ms' np := by
  obtain ⟨w1, w2, w3, w4, w5, w6, w7⟩ := hw
  exact va_cnB np ht (fun w hw => by
    rcases List.mem_cons.mp hw with rfl | hw
    · exact ⟨w3, good_of_word (hv.2.2.2 _ w3)⟩
    · exact ⟨hw, good_of_word (hv.2.2.2 _ hw)⟩) rfl rfl rfl (w1 _ _ _ hE) (ht _ w2) ⟨w4.1, w4.2, w5⟩ ⟨w6, w7⟩
theorem G_callIN {host : String} (hv : gOk v) (cp : Ct v l y cc' nL' none fr' lo' mc' ms' (.ref b :: As) wc Post' gN) (d : decode k.1 pc = .ok (.invokespecial i, 3)) (hw : gCn v R k.2.2.1 i y host cc' nL' none fr' lo' As.length) (w2 : Cond.instanceMethod y ∈ v.2.2.2.2) (hin : y.name = "<init>")
    (isC isR : List Nat) (hC : isC.map (fun i => ws[i]?) = wc.map some) (hR : isR.map (fun i => ws[i]?) = wr.map some) (hnC : va_nd isC = true) (hn : va_nd isR = true) (hdis : ∀ i ∈ isR, i ∉ isC)
    (hcs : cs + mc' ≤ R.cells) (hsl : sl + ms' ≤ R.slots) (hcat : (st.map fun u => u.category).sum ≤ 8)
    (kk : ∀ r w, Post' r w → G v l R Qf k (pc + 3) L (r.toList ++ st) (wr ++ w) (cs + mc') (sl + ms')) : G v l R Qf k pc L (As.reverse ++ .ref b :: st) ws cs sl := fun p e s m args below meth c A H locs ls C hP hD hS h => by
  obtain ⟨h1, h2, h3, h4, h5, h6, h7, h8, h9, h10, h11, h12, h13⟩ := id C
  exact g_backM isC isR hC hR hn hdis C hP hD hS h (va_runIN (As := As) ⟨h1, h2, h3, h4, h8⟩ (Ct_met cp H.size) ⟨g_cn hv h8 h12 hw, hin, h8 _ w2⟩ ⟨gPre_blind hv _ _ _, g_pre hv isC hC hnC C hP hD hS⟩ rfl rfl h.1 rfl (by show 2 * 0 + _ ≤ 8; omega) d ⟨hcs, hsl⟩) kk
theorem G_callSN {host : String} (hv : gOk v) (cp : Ct v l y cc' nL' ret' fr' lo' mc' ms' As wc Post' gN) (d : decode k.1 pc = .ok (.invokestatic i, 3)) (hw : gCn v R k.2.2.1 i y host cc' nL' ret' fr' lo' As.length) (w2 : Cond.static y ∈ v.2.2.2.2)
    (isC isR : List Nat) (hC : isC.map (fun i => ws[i]?) = wc.map some) (hR : isR.map (fun i => ws[i]?) = wr.map some) (hnC : va_nd isC = true) (hn : va_nd isR = true) (hdis : ∀ i ∈ isR, i ∉ isC)
    (hcs : cs + mc' ≤ R.cells) (hsl : sl + ms' ≤ R.slots) (hcat : (st.map fun u => u.category).sum ≤ 8)
    (kk : ∀ r w, Post' r w → G v l R Qf k (pc + 3) L (r.toList ++ st) (wr ++ w) (cs + mc') (sl + ms')) : G v l R Qf k pc L (As.reverse ++ st) ws cs sl := fun p e s m args below meth c A H locs ls C hP hD hS h => by
  obtain ⟨h1, h2, h3, h4, h5, h6, h7, h8, h9, h10, h11, h12, h13⟩ := id C
  exact g_backM isC isR hC hR hn hdis C hP hD hS h (va_runSN (As := As) ⟨h1, h2, h3, h4, h8⟩ (Ct_met cp H.size) ⟨g_cn hv h8 h12 hw, h8 _ w2, trivial⟩ ⟨gPre_blind hv _ _ _, g_pre hv isC hC hnC C hP hD hS⟩ rfl rfl h.1 rfl (by show 2 * 0 + _ ≤ 8; omega) d ⟨hcs, hsl⟩) kk
/-- Math.max, Math.min over int -/
theorem G_mmax {x z : Int32} (d : decode k.1 pc = .ok (.invokestatic i, 3)) (w1 : Cond.methodLink k.2.2.1 i Lib.Math.max.name ∈ v.2.2.2.2) (w2 : Cond.static Lib.Math.max.name ∈ v.2.2.2.2) (w3 : Cond.initialized "java/lang/Math" ∈ v.2.2.2.2) (w4 : Cond.code Lib.Math.max.name Lib.Math.max.code 2 (some .int) ∈ v.2.2.2.2)
    (hf : 1 ≤ R.frames) (hlo : (st.map fun u => u.category).sum + 13 ≤ R.locals) (hcs : cs ≤ R.cells) (hsl : sl ≤ R.slots) (n : G v l R Qf k (pc + 3) L (.int (if x < z then z else x) :: st) ws cs sl) : G v l R Qf k pc L (.int z :: .int x :: st) ws cs sl := fun p e s m args below meth c A H locs ls C hP hD hS h => by
  obtain ⟨h1, h2, h3, h4, h5, h6, h7, h8, h9, h10, h11, h12, h13⟩ := id C
  exact va_mmax h1 h2 (by rw [h3]; exact h.1.symm) h4 (h8 _ w1) (h8 _ w2) (h8 _ w3) (h8 _ w4) hf hlo hcs hsl d (n p e s m args below meth c A H locs ls C hP hD hS h)
theorem G_mmin {x z : Int32} (d : decode k.1 pc = .ok (.invokestatic i, 3)) (w1 : Cond.methodLink k.2.2.1 i Lib.Math.min.name ∈ v.2.2.2.2) (w2 : Cond.static Lib.Math.min.name ∈ v.2.2.2.2) (w3 : Cond.initialized "java/lang/Math" ∈ v.2.2.2.2) (w4 : Cond.code Lib.Math.min.name Lib.Math.min.code 2 (some .int) ∈ v.2.2.2.2)
    (hf : 1 ≤ R.frames) (hlo : (st.map fun u => u.category).sum + 13 ≤ R.locals) (hcs : cs ≤ R.cells) (hsl : sl ≤ R.slots) (n : G v l R Qf k (pc + 3) L (.int (if z < x then z else x) :: st) ws cs sl) : G v l R Qf k pc L (.int z :: .int x :: st) ws cs sl := fun p e s m args below meth c A H locs ls C hP hD hS h => by
  obtain ⟨h1, h2, h3, h4, h5, h6, h7, h8, h9, h10, h11, h12, h13⟩ := id C
  exact va_mmin h1 h2 (by rw [h3]; exact h.1.symm) h4 (h8 _ w1) (h8 _ w2) (h8 _ w3) (h8 _ w4) hf hlo hcs hsl d (n p e s m args below meth c A H locs ls C hP hD hS h)
/-- 'throw new E("text")' out of a method without a table -/
theorem G_throwS {Post : Option Value → va_W → Prop} {XP : String → Nat → va_W → Prop} {mc ms ik is ic : Nat} {cls text : String} {names : List String} {B : List Cond}
    (d0 : decode k.1 pc = .ok (.new ik, 3)) (d3 : decode k.1 (pc + 3) = .ok (.dup, 1)) (d4 : decode k.1 (pc + 4) = .ok (.ldc is, 2)) (d6 : decode k.1 (pc + 6) = .ok (.invokespecial ic, 3)) (d9 : decode k.1 (pc + 9) = .ok (.athrow, 1))
    (ht : k.2.2.2.2.1 = []) (hcls : Bundle.fit cls = true) (hnames : ∀ n ∈ names, Bundle.fit n = true) (w1 : Cond.classLink k.2.2.1 ik cls ∈ v.2.2.2.2) (w2 : Cond.initialized cls ∈ v.2.2.2.2)
    (hE : ∀ A s H, v.2.2.2.1 A s H → (∃ sa, vk_R k.2.2.1 is text sa s) ∧ vx_Zq Bundle.tN "UNASSIGNED_STACK" Bundle.steD A s H ∧ vx_Zq Bundle.tN "SUPPRESSED_SENTINEL" Bundle.listD A s H ∧ ∀ w ∈ B, ∀ args, w.before args s = true)
    (hg1 : ∀ w ∈ (vx_atS k.2.2.1 ic cls names).filter goodWord, w ∈ v.2.2.2.2) (hg2 : ∀ w ∈ (vx_atS k.2.2.1 ic cls names).filter (fun w => !goodWord w), w ∈ B)
    (hgood : ∀ w ∈ Cond.classLink k.2.2.1 ik cls :: Cond.initialized cls :: vx_atS k.2.2.1 ic cls names, vx_ot w = true)
    (hf : names.length + 3 < R.frames) (hlo : (st.map fun u => u.category).sum + (13 * (names.length + 1) + 43) ≤ R.locals) (hcs : cs + 1 ≤ R.cells) (hsl : sl + 6 ≤ R.slots) (hc : cs + 1 ≤ mc) (hs : sl + 6 ≤ ms) (hp : ∀ q, XP cls q ws) :
    G v l R (gM v Post XP mc ms) k pc L st ws cs sl := fun p e s m args below meth c A H locs ls C hP hD hS h => by
  obtain ⟨h1, h2, h3, h4, h5, h6, h7, h8, h9, h10, h11, h12, h13⟩ := id C
  obtain ⟨⟨sa, e1⟩, e2, e3, e4⟩ := hE _ _ _ h12
  refine vx_throwS h1 h2 h13.1 h4 hcls hnames (h8 _ w1) (h8 _ w2) e1 (vx_hat (fun w hw => h8 _ (hg1 w hw)) hg2 (fun w hw => e4 w hw args)) hgood e2 e3 hS (h.1.trans h3.symm) d0 d3 d4 d6 d9 (fun x hx => by rw [h6, ht] at hx; cases hx) hf hlo hcs hsl h9 (fun t hW hz hk => ⟨⟨ws, hp _, hP.kept (fun j x hx => hk _ (hP j x hx).lt), hD⟩, Nat.le_trans hS.1 hz, fun q g1 g2 => (hk q (Nat.lt_of_lt_of_le g1 hS.1)).trans (hS.2.1 q g1 g2)⟩) hS.2.2 hc hs
/-- caught in this method, behind rows that don't take it -/
theorem GT_catch {E : String} {q : Nat} {pre suf : List ExceptionTableEntry} {x : ExceptionTableEntry} {name : String} (ht : k.2.2.2.2.1 = pre ++ x :: suf) (hx : covers x pc = true) (h0 : x.catchType ≠ 0) (w1 : Cond.classLink k.2.2.1 x.catchType name ∈ v.2.2.2.2)
    (hE : ∀ A s H, v.2.2.2.1 A s H → va_Nw (.castable E name) s ∧ ∀ z ∈ pre, covers z pc = false ∨ (z.catchType ≠ 0 ∧ ∃ nm : String, Cond.classLink k.2.2.1 z.catchType nm ∈ v.2.2.2.2 ∧ va_Nc E nm s))
    (kk : G v l R Qf k x.handlerPc L [.ref q] ws cs sl) : GT v l R Qf k pc L st E q ws cs sl := fun p e s m args below meth c A H locs ls ce C hP hD hS h hq hv hcl => by
  obtain ⟨h1, h2, h3, h4, h5, h6, h7, h8, h9, h10, h11, h12, h13⟩ := id C
  obtain ⟨e1, e2⟩ := hE _ _ _ h12
  exact vx_catch h4 pre x suf (h6.trans ht) (fun z hz => by
    rcases e2 z hz with g | ⟨g0, nm, g1, g2⟩
    · exact Or.inl g
    · exact Or.inr ⟨g0, nm, h8 _ g1, g2⟩) hx h0 (h8 _ w1) (va_Nw.use rfl e1) hq hv hcl (kk p e s m args below meth c A H locs ls C hP hD hS h)
end GC2
