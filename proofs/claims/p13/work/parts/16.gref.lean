section
/-! G: statics, texts, 'new T[n][k]' of which nothing is kept, a thrown object -/
section GRF
variable {v : gEnv} {l : Launch} {R : Room} {Qf : gFin} {k : gKey} {pc : Nat} {L : List (Nat × Value)} {st : List Value} {ws : va_W} {cs sl i : Nat}
theorem G_gets {C n0 d0 : String} {X : Value → Prop} (d : decode k.1 pc = .ok (.getstatic i, 3)) (hl : Cond.fieldLink k.2.2.1 i C n0 d0 ∈ v.2.2.2.2) (hE : ∀ A s H, v.2.2.2.1 A s H → ∃ x, X x ∧ va_Z C n0 d0 x A s H) (n : ∀ x, X x → G v l R Qf k (pc + 3) L (x :: st) ws cs sl) : G v l R Qf k pc L st ws cs sl := fun p e s m args below meth c A H locs ls C hP hD hS h => by
  obtain ⟨h1, h2, h3, h4, h5, h6, h7, h8, h9, h10, h11, h12, h13⟩ := id C
  obtain ⟨x, g1, g2⟩ := hE _ _ _ h12
  exact va_gets h1 h2 g2 hS h4 (h8 _ hl) (fun _ z => z) d (n x g1 p e s m args below meth c A H locs ls C hP hD hS h)
theorem G_ldcS {tx : String} (d : decode k.1 pc = .ok (.ldc i, 2)) (hE : ∀ A s H, v.2.2.2.1 A s H → ∃ a, vk_R k.2.2.1 i tx a s) (n : ∀ a, G v l R Qf k (pc + 2) L (.ref a :: st) ws cs sl) : G v l R Qf k pc L st ws cs sl := fun p e s m args below meth c A H locs ls C hP hD hS h => by
  obtain ⟨h1, h2, h3, h4, h5, h6, h7, h8, h9, h10, h11, h12, h13⟩ := id C
  obtain ⟨a, g1⟩ := hE _ _ _ h12
  exact va_ldcS h1 h2 h4 g1 d (n a p e s m args below meth c A H locs ls C hP hD hS h)
theorem G_mna0 {ty : FieldType} {z w : Int32} {N K : Nat} (d : decode k.1 pc = .ok (.multianewarray i 2, 4)) (w1 : Cond.classLink k.2.2.1 i ("[" ++ (FieldType.array ty).toString) ∈ v.2.2.2.2) (hE : ∀ A s H, v.2.2.2.1 A s H → gAr ty s) (w3 : Cond.arrayClass ty ∈ v.2.2.2.2)
    (hN : z.toNatClampNeg = N) (hK : w.toNatClampNeg = K) (hz : ¬ z < 0) (hw : ¬ w < 0) (hb1 : N * 4 ≤ 536870912) (hb2 : K * componentBytes ty ≤ 536870912) (hb3 : K ≤ 536870912) (hv : fits ty (defaultValue ty) = true) (hv2 : (defaultValue ty).isDefault = true) (hcs : cs + (1 + N) ≤ R.cells) (hsl : sl + (N + N * K) ≤ R.slots)
    (n : ∀ q : Nat, G v l R Qf k (pc + 4) L (.ref q :: st) ws (cs + 1 + N) (sl + N + N * K)) : G v l R Qf k pc L (.int w :: .int z :: st) ws cs sl := fun p e s m args below meth c A H locs ls C hP hD hS h => by
  obtain ⟨h1, h2, h3, h4, h5, h6, h7, h8, h9, h10, h11, h12, h13⟩ := id C
  refine gm_mna h1 h2 h4 (h8 _ w1) (hE _ _ _ h12) (h8 _ w3) hN hK hz hw hb1 hb2 hb3 hv hv2 hcs hsl d (fun cO cI cz kO kI f1 f2 f3 f4 f5 f6 => ?_)
  have hold : ∀ q : Nat, q < H.size → (H.push (gm_out cO N H.size N) ++ Array.replicate N (gm_in cI K (defaultValue ty)))[q]? = H[q]? := fun q hq => by
    rw [Array.getElem?_append_left (by simp; omega), Array.getElem?_push, if_neg (by omega)]
  exact n H.size p e s m args below meth c A _ locs ls C (hP.kept (fun j x hx => hold _ (hP j x hx).lt)) hD ⟨Nat.le_trans hS.1 (by simp; omega), fun q g1 g2 => (hold q (Nat.lt_of_lt_of_le g1 hS.1)).trans (hS.2.1 q g1 g2), hS.2.2⟩ h
theorem gx_athrow {p : Program} {e : Env} {s : State} {m : MethodId} {args : Array Value} {below : List Frame} {meth : Method} {c : Code} {H : Heap} {locs : List Loc} {Q : State → Prop} {cc : ByteArray} {ls : Array Slot} {q : Nat} (hexec : p.tables.exec = Jvm.exec) (hb : c.code = cc) (hdg : decode cc pc = .ok (.athrow, 1))
    (n : vx_W p l e R s m args below meth c H locs cs sl Q (F0 m pc ls st) q) : W p l e R s m args below meth c H locs cs sl Q (F0 m pc ls (.ref q :: st)) := by
  intro T hT X
  obtain ⟨t, a, b⟩ := n T hT X
  refine ⟨t, ?_, b⟩
  jvm_step X.here [hexec, hb, hdg, athrow.wp_sem]
  exact a
theorem G_athrow {a ci N : Nat} {fs : List Value} {E : String} {T : u_T} (q : Nat) (d : decode k.1 pc = .ok (.athrow, 1)) (he : ws[q]? = some (a, .inr (ci, fs))) (hc : v.2.1[ci]? = some (E, T, N)) (n : GT v l R Qf k pc L st E a ws cs sl) : G v l R Qf k pc L (.ref a :: st) ws cs sl := fun p e s m args below meth c A H locs ls C hP hD hS h => by
  obtain ⟨h1, h2, h3, h4, h5, h6, h7, h8, h9, h10, h11, h12, h13⟩ := id C
  obtain ⟨q', g0, cell, g1, g2, g3, -⟩ := hP q _ he
  exact gx_athrow h1 h2 d (n p e s m args below meth c A H locs ls cell C hP hD hS h g1 g3 (by rw [g2]; exact (h10.1 ci _ hc).2.1))
end GRF
end
section
/-! G: string literals: their cells are old, nobody writes them; they are read by these rules -/
section GSTR
variable {v : gEnv} {l : Launch} {R : Room} {Qf : gFin} {k : gKey} {pc : Nat} {L : List (Nat × Value)} {st : List Value} {ws wc wr : va_W} {cs sl i a N : Nat}
theorem G_ldcK {tx : String} (d : decode k.1 pc = .ok (.ldc i, 2)) (hE : ∀ A s H, v.2.2.2.1 A s H → vk_R k.2.2.1 i tx a s) (n : G v l R Qf k (pc + 2) L (.ref a :: st) ws cs sl) : G v l R Qf k pc L st ws cs sl := fun p e s m args below meth c A H locs ls C hP hD hS h => by
  obtain ⟨h1, h2, h3, h4, h5, h6, h7, h8, h9, h10, h11, h12, h13⟩ := id C
  exact va_ldcS h1 h2 h4 (hE _ _ _ h12) d (n p e s m args below meth c A H locs ls C hP hD hS h)
theorem G_kget {o n0 d0 : String} {x : Value} (d : decode k.1 pc = .ok (.getfield i, 3)) (hl : Cond.fieldLink k.2.2.1 i o n0 d0 ∈ v.2.2.2.2) (hE : ∀ A s H, v.2.2.2.1 A s H → va_OF o n0 d0 x a A s H) (n : G v l R Qf k (pc + 3) L (x :: st) ws cs sl) : G v l R Qf k pc L (.ref a :: st) ws cs sl := fun p e s m args below meth c A H locs ls C hP hD hS h => by
  obtain ⟨h1, h2, h3, h4, h5, h6, h7, h8, h9, h10, h11, h12, h13⟩ := id C
  exact vk_getf h1 h2 (hE _ _ _ h12) hS h4 (h8 _ hl) (fun _ z => z) d (n p e s m args below meth c A H locs ls C hP hD hS h)
theorem G_klen {f : Nat → Value} {ty : FieldType} (d : decode k.1 pc = .ok (.arraylength, 1)) (hE : ∀ A s H, v.2.2.2.1 A s H → va_T ty a N f A s H) (n : G v l R Qf k (pc + 1) L (.int (Int32.ofNat N) :: st) ws cs sl) : G v l R Qf k pc L (.ref a :: st) ws cs sl := fun p e s m args below meth c A H locs ls C hP hD hS h => by
  obtain ⟨h1, h2, h3, h4, h5, h6, h7, h8, h9, h10, h11, h12, h13⟩ := id C
  exact va_tlen h1 h2 (hE _ _ _ h12) hS rfl d (n p e s m args below meth c A H locs ls C hP hD hS h)
theorem G_kbald {f : Nat → Int32} {y : Int32} (d : decode k.1 pc = .ok (.baload, 1)) (hE : ∀ A s H, v.2.2.2.1 A s H → va_T .byte a N (fun j => .int (f j)) A s H) (hin : vp_in y N) (n : G v l R Qf k (pc + 1) L (.int (f y.toNatClampNeg) :: st) ws cs sl) : G v l R Qf k pc L (.int y :: .ref a :: st) ws cs sl := fun p e s m args below meth c A H locs ls C hP hD hS h => by
  obtain ⟨h1, h2, h3, h4, h5, h6, h7, h8, h9, h10, h11, h12, h13⟩ := id C
  exact va_tb h1 h2 (hE _ _ _ h12) hS hin rfl d (n p e s m args below meth c A H locs ls C hP hD hS h)
variable {y : MethodName} {cc' : ByteArray} {nL' fr' lo' mc' ms' b : Nat} {ret' : Option FieldType} {As : List Value} {Post' : Option Value → va_W → Prop} {XP' : String → Nat → va_W → Prop}
theorem G_callVk (hv : gOk v) (cp : Ct v l y cc' nL' ret' fr' lo' mc' ms' (.ref b :: As) wc Post' XP') (d : decode k.1 pc = .ok (.invokevirtual i, 3)) (hw : gCw v R k.2.2.1 i y cc' nL' ret' fr' lo' As.length) (w2 : Cond.instanceMethod y ∈ v.2.2.2.2) (w3 : Cond.selects y.cls y y ∈ v.2.2.2.2)
    (hE : ∀ A s H, v.2.2.2.1 A s H → va_O y.cls b A s H) (isC isR : List Nat) (hC : isC.map (fun i => ws[i]?) = wc.map some) (hR : isR.map (fun i => ws[i]?) = wr.map some) (hnC : va_nd isC = true) (hn : va_nd isR = true) (hdis : ∀ i ∈ isR, i ∉ isC)
    (hcs : cs + mc' ≤ R.cells) (hsl : sl + ms' ≤ R.slots) (hcat : (st.map fun u => u.category).sum ≤ 8)
    (kk : ∀ r w, Post' r w → G v l R Qf k (pc + 3) L (r.toList ++ st) (wr ++ w) (cs + mc') (sl + ms')) (kx : ∀ E q w, XP' E q w → GT v l R Qf k pc L st E q (wr ++ w) (cs + mc') (sl + ms')) :
    G v l R Qf k pc L (As.reverse ++ .ref b :: st) ws cs sl := fun p e s m args below meth c A H locs ls C hP hD hS h => by
  obtain ⟨h1, h2, h3, h4, h5, h6, h7, h8, h9, h10, h11, h12, h13⟩ := id C
  refine g_back isC isR hC hR hn hdis C hP hD hS h (vx_runV (As := As) ⟨h1, h2, h3, h4, h8⟩ (cp H.size) ⟨g_cb hv h8 hw, h8 _ w2, h8 _ w3⟩ ⟨gPre_blind hv _ _ _, ?_, g_pre hv isC hC hnC C hP hD hS⟩ rfl rfl h.1 rfl (by show 2 * 0 + _ ≤ 8; omega) d ⟨hcs, hsl⟩) kk kx
  obtain ⟨cell, e1, e2, e3, -⟩ := (hE _ _ _ h12).kept hS.2.1
  exact ⟨cell, e1, e2, e3⟩
end GSTR
end
section
/-! G: the law's own frame: its script at b, its end -/
/-- the law's key: its script, and that nothing old is free -/
def gL (cc : ByteArray) (nL : Nat) (own : String) (ret : Option FieldType) (nm : String) (b L : Nat) (xs : Nat → Int32) : gKey := (cc, nL, own, ret, [], nm, fun s A => va_X b L xs s s.heap ∧ b < s.heap.size ∧ ∀ q, A q → s.heap.size ≤ q)
section GLW
variable {v : gEnv} {l : Launch} {R : Room} {Qf : gFin} {cc : ByteArray} {nL : Nat} {own nm : String} {ret : Option FieldType} {b M : Nat} {xs : Nat → Int32} {pc : Nat} {L : List (Nat × Value)} {st : List Value} {ws : va_W} {cs sl : Nat}
theorem G_slen (d : decode cc pc = .ok (.arraylength, 1)) (n : G v l R Qf (gL cc nL own ret nm b M xs) (pc + 1) L (.int (Int32.ofNat M) :: st) ws cs sl) : G v l R Qf (gL cc nL own ret nm b M xs) pc L (.ref b :: st) ws cs sl := fun p e s m args below meth c A H locs ls C hP hD hS h => by
  obtain ⟨h1, h2, h3, h4, h5, h6, h7, h8, h9, h10, h11, h12, h13, f1, f2, f3⟩ := id C
  exact va_slen h1 h2 f1 f2 (fun z => Nat.not_le.mpr f2 (f3 b z)) hS d (n p e s m args below meth c A H locs ls C hP hD hS h)
theorem G_sld {y : Int32} (d : decode cc pc = .ok (.iaload, 1)) (hin : vp_in y M) (n : G v l R Qf (gL cc nL own ret nm b M xs) (pc + 1) L (.int (xs y.toNatClampNeg) :: st) ws cs sl) : G v l R Qf (gL cc nL own ret nm b M xs) pc L (.int y :: .ref b :: st) ws cs sl := fun p e s m args below meth c A H locs ls C hP hD hS h => by
  obtain ⟨h1, h2, h3, h4, h5, h6, h7, h8, h9, h10, h11, h12, h13, f1, f2, f3⟩ := id C
  exact va_sld h1 h2 f1 f2 (fun z => Nat.not_le.mpr f2 (f3 b z)) hS hin d (n p e s m args below meth c A H locs ls C hP hD hS h)
/-- a number gets a name -/
theorem G_nam {k : gKey} {x : Int32} (n : ∀ z, z = x → G v l R Qf k pc L (.int z :: st) ws cs sl) : G v l R Qf k pc L (.int x :: st) ws cs sl := n x rfl
end GLW
end
section
/-! THE CLAIM OUT OF ONE WALK OF THE LAW'S BODY. Your part is whole_start (and what it stands on); all else here is the same for every law, but numbers. -/
def R_law : String := "SpillForgeLaw"
def lw_P (b : Addr) (xs : List Int32) (args : Array Value) (s : State) : Prop := args = #[.ref b] ∧ s.IntsAt b xs ∧ xs.length ≤ 3072 ∧ (Jvm.Cond.and given_1 narrow_1).before args s = true
def lw_Q (_ : Array Value) (s : State) (o : Outcome) (t : State) : Prop := o = .returned (some (.int 1)) ∧ Framed s o t [] 601024 7293034
def lw_Z (below : List Frame) (a : Array Value) (s : State) : State → Prop := fun t => ∃ o, t.status = .running ∧ Ended t below o ∧ lw_Q a s o t
/-- the law's own end, with 1 on the stack, nothing written that was there before, its room as the claim has it -/
theorem lw_ret {p : Program} {l : Launch} {e : Env} {s : State} {m : MethodId} {below : List Frame} {meth : Method} {c : Code} {b : Nat} (hx : p.tables.exec = Jvm.exec) (hb : c.code = code) (hr : meth.sig.returnType = ret) (hlocks : meth.locks = false) {pc : Nat} {H : Heap} {ls : Array Slot} (hdg : decode code pc = .ok (.ireturn, 1)) : W p l e room_1 s m #[Value.ref b] below meth c H [] 601024 7293034 (lw_Z below #[Value.ref b] s) (F0 m pc ls [.int 1]) := by
  intro T hT X
  obtain ⟨fs, hret, hrun, hended, hW, hframe⟩ := X.leave (v := some (.int 1)) (hlocks := hlocks) (fun h => by rw [hr] at h; cases h)
  have hmeth' : T.vm.method? m = some meth := X.method'
  refine ⟨T.setFrames fs, ?_, .returned (some (.int 1)), hrun, hended, rfl, ⟨_, rfl⟩, hW, hframe⟩
  jvm_step X.here [X.here.top, hx, hb, hdg, hmeth', hr, ret, narrow_b1]
  (try refine ⟨rfl, ?_⟩); (try refine ⟨rfl, ?_⟩)
  first | (intro acts; rw [hret _ acts rfl rfl rfl]) | rw [hret _ _ rfl rfl rfl]
  exact Steps.refl _
/-- what holds at the law's entry: the machine, the code, the tables' words (any of lw_tbl by 'hts w (by decide +kernel)'), the script of L ints xs at the cell b, what the Statement gives of the start (any of its parts by flat_of_before) -/
def lw_At (p : Program) (s : State) (m : MethodId) (meth : Method) (c : Code) (b L : Nat) (xs : Nat → Int32) : Prop :=
  p.tables.exec = Jvm.exec ∧ c.code = code ∧ meth.sig.returnType = ret ∧ c.maxLocals = 8 ∧ s.vm.findClass R_law = some m.cls ∧ (∀ w ∈ lw_tbl, w.before #[Value.ref b] s = true) ∧ va_X b L xs s s.heap ∧ b < s.heap.size ∧ meth.locks = false ∧ (Jvm.Cond.and given_1 narrow_1).before #[Value.ref b] s = true
/-- the law's end in G -/
theorem G_lend {v : gEnv} {l : Launch} {b M : Nat} {xs : Nat → Int32} {pc cs sl : Nat} {L : List (Nat × Value)} {ws : va_W} (hdg : decode cL_law pc = .ok (.ireturn, 1)) (h1 : cs ≤ 601024) (h2 : sl ≤ 7293034) :
    G v l room_1 (fun below args s _ => lw_Z below args s) (gL cL_law 8 "SpillForgeLaw" (some .boolean) "law" b M xs) pc L [.int 1] ws cs sl := fun p e s m args below meth c A H locs ls C hP hD hS h => by
  obtain ⟨hx, hb, g3, g4, hr, g6, g7, g8, hlocks, g10, g11, g12, g13, f1, f2, f3⟩ := id C
  refine va_forget (fun q hq => f3 _ (hS.2.2 q hq)) ?_
  refine W.widen (k := 601024) (n := 7293034) h1 h2 ?_
  intro T hT X
  obtain ⟨fs, hret, hrun, hended, hW, hframe⟩ := X.leave (v := some (.int 1)) (hlocks := hlocks) (fun h => by rw [hr] at h; cases h)
  have hmeth' : T.vm.method? m = some meth := X.method'
  have hb' : c.code = cL_law := hb
  have hr' : meth.sig.returnType = some .boolean := hr
  refine ⟨T.setFrames fs, ?_, .returned (some (.int 1)), hrun, hended, rfl, ⟨_, rfl⟩, hW, hframe⟩
  jvm_step X.here [X.here.top, hx, hb', hdg, hmeth', hr', narrow_b1]
  (try refine ⟨rfl, ?_⟩); (try refine ⟨rfl, ?_⟩)
  first | (intro acts; rw [hret _ acts rfl rfl rfl]) | rw [hret _ _ rfl rfl rfl]
  exact Steps.refl _
section GJ
variable {x y : Int32} {n : Int}
theorem gj_lt (h : x < y) (e : y.toInt = n) : x.toInt < n := e ▸ Int32.lt_iff_toInt_lt.mp h
theorem gj_nlt (h : ¬ x < y) (e : y.toInt = n) : n ≤ x.toInt := e ▸ Int.not_lt.mp (fun z => h (Int32.lt_iff_toInt_lt.mpr z))
theorem gj_le (h : x ≤ y) (e : y.toInt = n) : x.toInt ≤ n := e ▸ Int32.le_iff_toInt_le.mp h
theorem gj_nle (h : ¬ x ≤ y) (e : y.toInt = n) : n < x.toInt := e ▸ Int.not_le.mp (fun z => h (Int32.le_iff_toInt_le.mpr z))
theorem gj_eq (h : x = y) (e : y.toInt = n) : x.toInt = n := h ▸ e
theorem gj_neq (h : ¬ x = y) (e : y.toInt = n) : x.toInt ≠ n := fun z => h (Int32.toInt_inj.mp (z.trans e.symm))
theorem gj_ltL (h : y < x) (e : y.toInt = n) : n < x.toInt := e ▸ Int32.lt_iff_toInt_lt.mp h
theorem gj_nltL (h : ¬ y < x) (e : y.toInt = n) : x.toInt ≤ n := e ▸ Int.not_lt.mp (fun z => h (Int32.lt_iff_toInt_lt.mpr z))
theorem gj_leL (h : y ≤ x) (e : y.toInt = n) : n ≤ x.toInt := e ▸ Int32.le_iff_toInt_le.mp h
theorem gj_nleL (h : ¬ y ≤ x) (e : y.toInt = n) : x.toInt < n := e ▸ Int.not_le.mp (fun z => h (Int32.le_iff_toInt_le.mpr z))
theorem gj_eqL (h : y = x) (e : y.toInt = n) : x.toInt = n := h ▸ e
theorem gj_neqL (h : ¬ y = x) (e : y.toInt = n) : x.toInt ≠ n := fun z => h (Int32.toInt_inj.mp (e.trans z.symm))
end GJ
end
section
/-! bounds of ints, contents of arrays -/
abbrev gB (x : Int32) (a b : Int) : Prop := a ≤ x.toInt ∧ x.toInt ≤ b
abbrev gF (f : Nat → Int32) (a b : Int) : Prop := ∀ k, a ≤ (f k).toInt ∧ (f k).toInt ≤ b
section GI
variable {x y z : Int32} {a b c d e g n : Int}
theorem gBl (h : x.toInt = n) : gB x n n := ⟨Int.le_of_eq h.symm, Int.le_of_eq h⟩
theorem gB_w (h : gB x a b) (h1 : c ≤ a) (h2 : b ≤ d) : gB x c d := ⟨Int.le_trans h1 h.1, Int.le_trans h.2 h2⟩
theorem gF_w {f : Nat → Int32} (h : gF f a b) (h1 : c ≤ a) (h2 : b ≤ d) : gF f c d := fun k => gB_w (h k) h1 h2
theorem gB_any (x : Int32) : gB x (-2147483648) 2147483647 := ⟨Int32.le_toInt x, by have := Int32.toInt_lt x; omega⟩
theorem gF_any (f : Nat → Int32) : gF f (-2147483648) 2147483647 := fun k => gB_any (f k)
theorem gF_upd {f h : Nat → Int32} {i : Nat} (hh : h = upd f i z) (hf : gF f a b) (hz : gB z a b) : gF h a b := fun k => by
  rw [hh]; unfold upd; split
  · exact hz
  · exact hf k
theorem gF_0 : gF (fun _ => 0) 0 0 := fun _ => ⟨show (0 : Int) ≤ Int32.toInt 0 by decide, show Int32.toInt 0 ≤ 0 by decide⟩
theorem gB_in {N : Nat} (h : gB x a b) (h1 : 0 ≤ a) (h2 : b < N) : vp_in x N := vp_in_iff.mpr ⟨by omega, by omega⟩
theorem gB_inr {N : Nat} (h1 : 0 ≤ x.toInt) (h2 : x.toInt < N) : vp_in x N := vp_in_iff.mpr ⟨h1, h2⟩
theorem gM_of (h1 : -2147483648 ≤ n) (h2 : n ≤ 2147483647) : n.bmod (2 ^ 32) = n := by
  have h : ((2 ^ 32 : Nat) : Int) = 4294967296 := rfl
  exact Int.bmod_eq_of_le (by omega) (by omega)
theorem gI_add (hz : z = x + y) (bx : gB x a b) (bz : gB y c d) (h1 : -2147483648 ≤ a + c) (h2 : b + d ≤ 2147483647) : z.toInt = x.toInt + y.toInt := by
  rw [hz, Int32.toInt_add]; exact gM_of (by omega) (by omega)
theorem gI_sub (hz : z = x - y) (bx : gB x a b) (bz : gB y c d) (h1 : -2147483648 ≤ a - d) (h2 : b - c ≤ 2147483647) : z.toInt = x.toInt - y.toInt := by
  rw [hz, Int32.toInt_sub]; exact gM_of (by omega) (by omega)
theorem gI_inc (hz : z = x + Int32.ofInt n) (hn : (Int32.ofInt n).toInt = n) (bx : gB x a b) (h1 : -2147483648 ≤ a + n) (h2 : b + n ≤ 2147483647) : z.toInt = x.toInt + n := by
  rw [hz, Int32.toInt_add, hn]; exact gM_of (by omega) (by omega)
theorem gI_neg (hz : z = -x) (bx : gB x a b) (h1 : -2147483648 < a) : z.toInt = -x.toInt := by
  have h3 := Int32.toInt_lt x
  rw [hz, Int32.toInt_neg]; exact gM_of (by omega) (by omega)
theorem gI_mulB (bx : gB x a b) (bz : gB y c d) (ha : 0 ≤ a) (hc : 0 ≤ c) : 0 ≤ x.toInt * y.toInt ∧ x.toInt * y.toInt ≤ b * d :=
  ⟨Int.mul_nonneg (by omega) (by omega), Int.mul_le_mul bx.2 bz.2 (by omega) (by omega)⟩
theorem gI_mul (hz : z = x * y) (bx : gB x a b) (bz : gB y c d) (ha : 0 ≤ a) (hc : 0 ≤ c) (h : b * d ≤ 2147483647) : z.toInt = x.toInt * y.toInt := by
  have h3 := gI_mulB bx bz ha hc
  rw [hz, Int32.toInt_mul]; exact gM_of (by omega) (by omega)
theorem gB_mul (hz : z = x * y) (bx : gB x a b) (bz : gB y c d) (ha : 0 ≤ a) (hc : 0 ≤ c) (h : b * d = e) (h2 : e ≤ 2147483647) : gB z 0 e := by
  subst h
  have h3 := gI_mulB bx bz ha hc
  rw [gB, gI_mul hz bx bz ha hc h2]; exact h3
theorem gB_add (h : z.toInt = x.toInt + y.toInt) (bx : gB x a b) (bz : gB y c d) (h1 : a + c = e) (h2 : b + d = g) : gB z e g := by
  subst h1 h2; exact ⟨by omega, by omega⟩
theorem gB_sub (h : z.toInt = x.toInt - y.toInt) (bx : gB x a b) (bz : gB y c d) (h1 : a - d = e) (h2 : b - c = g) : gB z e g := by
  subst h1 h2; exact ⟨by omega, by omega⟩
theorem gB_inc (h : z.toInt = x.toInt + n) (bx : gB x a b) (h1 : a + n = e) (h2 : b + n = g) : gB z e g := by
  subst h1 h2; exact ⟨by omega, by omega⟩
theorem gB_neg (h : z.toInt = -x.toInt) (bx : gB x a b) (h1 : -b = e) (h2 : -a = g) : gB z e g := by
  subst h1 h2; exact ⟨by omega, by omega⟩
theorem gI_shr {k : Nat} (hz : z = x >>> (y &&& 31)) (hy : ((y &&& 31).toBitVec.smod 32).toNat = k) : z.toInt = x.toInt / 2 ^ k := by
  subst hz hy
  show (x.toBitVec.sshiftRight _).toInt = _
  rw [BitVec.toInt_sshiftRight, Int.shiftRight_eq_div_pow]
  rfl
theorem gI_nat (h : 0 ≤ x.toInt) : (x.toBitVec.toNat : Int) = x.toInt := by
  have h1 : x.toInt = x.toBitVec.toInt := rfl
  have h2 := x.toBitVec.isLt
  rw [h1] at h ⊢
  rw [BitVec.toInt_eq_toNat_cond] at h ⊢
  split <;> rename_i h3
  · rfl
  · rw [if_neg h3] at h; omega
theorem gI_ofNat {k : Nat} (h : x.toBitVec.toNat = k) (h2 : k < 2147483648) : x.toInt = k := by
  show x.toBitVec.toInt = _
  rw [BitVec.toInt_eq_toNat_cond, h, if_pos (by omega)]
theorem gI_shl {k : Nat} (hz : z = x <<< (y &&& 31)) (hy : ((y &&& 31).toBitVec.smod 32).toNat = k) (bx : gB x a b) (ha : 0 ≤ a) (hb : b * 2 ^ k ≤ 2147483647) : z.toInt = x.toInt * 2 ^ k := by
  subst hz hy
  have h0 : 0 ≤ x.toInt := by omega
  have h1 := gI_nat h0
  have h5 : x.toInt * 2 ^ ((y &&& 31).toBitVec.smod 32).toNat ≤ b * 2 ^ ((y &&& 31).toBitVec.smod 32).toNat := Int.mul_le_mul_of_nonneg_right bx.2 (Int.le_of_lt (Int.pow_pos (by decide)))
  have h6 : x.toBitVec.toNat * 2 ^ ((y &&& 31).toBitVec.smod 32).toNat < 2147483648 := by
    have : ((x.toBitVec.toNat * 2 ^ ((y &&& 31).toBitVec.smod 32).toNat : Nat) : Int) = x.toInt * 2 ^ ((y &&& 31).toBitVec.smod 32).toNat := by
      rw [← h1]; simp
    omega
  have h7 : (x <<< (y &&& 31)).toBitVec.toNat = x.toBitVec.toNat * 2 ^ ((y &&& 31).toBitVec.smod 32).toNat := by
    show (x.toBitVec <<< ((y &&& 31).toBitVec.smod 32)).toNat = _
    rw [BitVec.shiftLeft_eq', BitVec.toNat_shiftLeft, Nat.shiftLeft_eq, Nat.mod_eq_of_lt (by omega)]
  rw [gI_ofNat h7 h6, ← h1]; simp
theorem gB_and (hz : z = x &&& y) (bz : gB y c d) (hc : 0 ≤ c) : gB z 0 d := by
  have h0 : 0 ≤ y.toInt := by omega
  have h1 := gI_nat h0
  have h2 : z.toBitVec.toNat = x.toBitVec.toNat &&& y.toBitVec.toNat := by rw [hz, Int32.toBitVec_and, BitVec.toNat_and]
  have h3 : x.toBitVec.toNat &&& y.toBitVec.toNat ≤ y.toBitVec.toNat := Nat.and_le_right
  have h5 := Int32.toInt_lt y
  have h4 := gI_ofNat h2 (by omega)
  exact ⟨by omega, by omega⟩
theorem gB_andL (hz : z = y &&& x) (bz : gB y c d) (hc : 0 ≤ c) : gB z 0 d := by
  have h0 : 0 ≤ y.toInt := by omega
  have h1 := gI_nat h0
  have h2 : z.toBitVec.toNat = y.toBitVec.toNat &&& x.toBitVec.toNat := by rw [hz, Int32.toBitVec_and, BitVec.toNat_and]
  have h3 : y.toBitVec.toNat &&& x.toBitVec.toNat ≤ y.toBitVec.toNat := Nat.and_le_left
  have h5 := Int32.toInt_lt y
  have h4 := gI_ofNat h2 (by omega)
  exact ⟨by omega, by omega⟩
theorem gI_or {k m : Nat} (hz : z = x ||| y) (hx : x.toInt = (m * 2 ^ k : Nat)) (bz : gB y 0 d) (hd : d < 2 ^ k) (hm : m * 2 ^ k + 2 ^ k ≤ 2147483648) : z.toInt = x.toInt + y.toInt := by
  have h1 := gI_nat (x := x) (by omega)
  have h2 := gI_nat (x := y) bz.1
  have h4 : x.toBitVec.toNat = m * 2 ^ k := by omega
  have h6 : ((2 ^ k : Nat) : Int) = 2 ^ k := by simp
  have h5 : y.toBitVec.toNat < 2 ^ k := by omega
  have h3 : z.toBitVec.toNat = m * 2 ^ k + y.toBitVec.toNat := by
    rw [hz, Int32.toBitVec_or, BitVec.toNat_or, h4, ← Nat.shiftLeft_eq, Nat.shiftLeft_add_eq_or_of_lt h5]
  rw [gI_ofNat h3 (by omega)]
  omega
theorem gI_div (hz : z = x / y) (bx : gB x a b) (ha : 0 ≤ a) (hy : y.toInt = n) (hn : 0 < n) : z.toInt = x.toInt / n := by
  have h0 : Int32.toInt (-1) = -1 := by decide
  have h : y ≠ -1 := fun h => by rw [h] at hy; omega
  rw [hz, Int32.toInt_div_of_ne_right _ _ h, hy, Int.tdiv_eq_ediv_of_nonneg (by omega)]
theorem gC_cmpE {u w : Int64} (hz : z = lg_cmp u w) (h : z = 0) : u = w := by
  rw [h] at hz; unfold lg_cmp at hz; split at hz
  · exact absurd hz (by decide)
  · split at hz
    · assumption
    · exact absurd hz (by decide)
theorem gC_cmpN {u w : Int64} (hz : z = lg_cmp u w) (h : ¬ z = 0) : ¬ u = w := fun e => h (by rw [hz, e]; simp [lg_cmp])
theorem gB_cmp {u w : Int64} (hz : z = lg_cmp u w) : gB z (-1) 1 := by
  rw [hz]; unfold lg_cmp; split
  · exact ⟨by decide, by decide⟩
  · split
    · exact ⟨by decide, by decide⟩
    · exact ⟨by decide, by decide⟩
theorem gN_bool (h : gB x 0 1) : narrow .boolean (.int x) = .int x := by
  have h1 : x = 0 ∨ x = 1 := by
    rcases (show x.toInt = 0 ∨ x.toInt = 1 by omega) with h2 | h2
    · exact Or.inl (Int32.toInt_inj.mp (h2.trans (by decide)))
    · exact Or.inr (Int32.toInt_inj.mp (h2.trans (by decide)))
  rcases h1 with rfl | rfl <;> rfl
theorem gB_byte : gB (vp_nar .byte x) (-128) 127 := by
  show -128 ≤ (x.toInt8.toInt32).toInt ∧ (x.toInt8.toInt32).toInt ≤ 127
  rw [Int8.toInt_toInt32]
  have h1 := Int8.le_toInt x.toInt8
  have h2 := Int8.toInt_lt x.toInt8
  exact ⟨by omega, by omega⟩
theorem gB_i2b (hz : z = x.toInt8.toInt32) : gB z (-128) 127 := by
  rw [hz, gB, Int8.toInt_toInt32]
  have h1 := Int8.le_toInt x.toInt8
  have h2 := Int8.toInt_lt x.toInt8
  exact ⟨by omega, by omega⟩
theorem gB_i2c (hz : z = (x.toUInt32 % 65536).toInt32) : gB z 0 65535 := by
  have h : z.toBitVec.toNat = x.toUInt32.toNat % 65536 := by rw [hz]; rfl
  have h2 := gI_ofNat h (by omega)
  exact ⟨by omega, by omega⟩
/-- bounds that a comparison gives -/
theorem gB_hi (bx : gB x a b) (bz : gB y c d) (h : x.toInt < y.toInt) (e1 : d - 1 = g) : gB x a g := ⟨bx.1, by omega⟩
theorem gB_lo (bx : gB x a b) (bz : gB y c d) (h : y.toInt < x.toInt) (e1 : c + 1 = g) : gB x g b := ⟨by omega, bx.2⟩
theorem gB_hiE (bx : gB x a b) (bz : gB y c d) (h : x.toInt ≤ y.toInt) : gB x a d := ⟨bx.1, by omega⟩
theorem gB_loE (bx : gB x a b) (bz : gB y c d) (h : y.toInt ≤ x.toInt) : gB x c b := ⟨by omega, bx.2⟩
theorem gC_lt (h : x < y) : x.toInt < y.toInt := Int32.lt_iff_toInt_lt.mp h
theorem gC_nlt (h : ¬ x < y) : y.toInt ≤ x.toInt := Int.not_lt.mp (fun z => h (Int32.lt_iff_toInt_lt.mpr z))
theorem gC_le (h : x ≤ y) : x.toInt ≤ y.toInt := Int32.le_iff_toInt_le.mp h
theorem gC_nle (h : ¬ x ≤ y) : y.toInt < x.toInt := Int.not_le.mp (fun z => h (Int32.le_iff_toInt_le.mpr z))
theorem gC_eq (h : x = y) : x.toInt = y.toInt := by rw [h]
theorem gC_ne (h : ¬ x = y) : x.toInt ≠ y.toInt := fun z => h (Int32.toInt_inj.mp z)
theorem gL0 : Int32.toInt 0 = 0 := by decide
end GI
section GIR
variable {v : gEnv} {l : Launch} {R : Room} {Qf : gFin} {k : gKey} {pc : Nat} {L : List (Nat × Value)} {st : List Value} {ws : va_W} {cs sl a M q t : Nat} {cA : ClassId} {y z : Int32} {f : Nat → Int32}
theorem G_namL {x : Int64} (n : ∀ z, z = x → G v l R Qf k pc L (.long z :: st) ws cs sl) : G v l R Qf k pc L (.long x :: st) ws cs sl := n x rfl
theorem G_iastN (q t : Nat) (d : decode k.1 pc = .ok (.iastore, 1)) (he : ws[q]? = some (a, .inl (cA, M, .inl f))) (ht : v.2.2.1[t]? = some (cA, .int)) (hin : vp_in y M) (n : ∀ h, h = upd f y.toNatClampNeg z → G v l R Qf k (pc + 1) L st (ws.set q (a, .inl (cA, M, .inl h))) cs sl) : G v l R Qf k pc L (.int z :: .int y :: .ref a :: st) ws cs sl := G_iast q t d he ht hin rfl (n _ rfl)
theorem G_bastN (q t : Nat) (d : decode k.1 pc = .ok (.bastore, 1)) (he : ws[q]? = some (a, .inl (cA, M, .inl f))) (ht : v.2.2.1[t]? = some (cA, .byte)) (hin : vp_in y M) (n : ∀ h, h = upd f y.toNatClampNeg (vp_nar .byte z) → G v l R Qf k (pc + 1) L st (ws.set q (a, .inl (cA, M, .inl h))) cs sl) : G v l R Qf k pc L (.int z :: .int y :: .ref a :: st) ws cs sl := G_bast q t d he ht hin rfl (n _ rfl)
theorem G_lastN {g : Nat → Int64} {u : Int64} (q t : Nat) (d : decode k.1 pc = .ok (.lastore, 1)) (he : ws[q]? = some (a, .inl (cA, M, .inr (.inl g)))) (ht : v.2.2.1[t]? = some (cA, .long)) (hin : vp_in y M) (n : ∀ h, h = vp_updL g y.toNatClampNeg u → G v l R Qf k (pc + 1) L st (ws.set q (a, .inl (cA, M, .inr (.inl h)))) cs sl) : G v l R Qf k pc L (.long u :: .int y :: .ref a :: st) ws cs sl := G_last q t d he ht hin rfl (n _ rfl)
end GIR
theorem gI_max {x y z : Int32} (hz : z = if x < y then y else x) : x.toInt ≤ z.toInt ∧ y.toInt ≤ z.toInt ∧ (z.toInt = x.toInt ∨ z.toInt = y.toInt) := by
  split at hz <;> rename_i h <;> subst hz
  · have := gC_lt h; omega
  · have := gC_nlt h; omega
theorem gI_min {x y z : Int32} (hz : z = if y < x then y else x) : x.toInt ≥ z.toInt ∧ y.toInt ≥ z.toInt ∧ (z.toInt = x.toInt ∨ z.toInt = y.toInt) := by
  split at hz <;> rename_i h <;> subst hz
  · have := gC_lt h; omega
  · have := gC_nlt h; omega
end
section
/-! contracts of methods whose class has natives, where the method itself has none -/
theorem vx_ofWF {l : Launch} {y : MethodName} {ws ws' : List Cond} {rm : Room} {Pc : Array Value → State → Prop} {Qc : Array Value → State → Outcome → State → Prop} {XC : String → Addr → State → State → Prop} {mc ms : Nat} {free : Addr → Prop} {cc : ByteArray} {maxL : Nat} {ret : Option FieldType}
    (hy : plainFor y = true) (hw : ws = Cond.code y cc maxL ret :: ws')
    (body : ∀ p e s m args below meth c s₁, BodyLoose p l y (headSpec ws rm) cc maxL ret e s m args below meth c s₁ → c.maxLocals = maxL → (∀ x ∈ c.exceptionTable.toList, False) → Pc args s →
      W p l e (headSpec ws rm).room s m args below meth c s.heap [] 0 0 (vx_MQ below Qc XC args s mc ms free) (entryFrame m args maxL)) : vx_Met l y ws rm Pc Qc XC mc ms free := by
  refine MetFree.of_bodySF (code := cc) (maxLocals := maxL) (ret := ret) hy ?_ ?_
  · intro args s m h hn
    obtain ⟨meth, c, h1, h2, h3, h4, h5, h6, -, -⟩ := Cond.code_spec hn (atoms_spec (ws := ws) h _ (by rw [hw]; exact List.mem_cons_self))
    exact ⟨meth, c, h1, h2, h3, h4, h5, h6⟩
  · intro p e s m args below meth c s₁ B hml hP _
    have hh0 : s₁.heap = s.heap := by rw [B.state]; rfl
    have ht : ∀ x ∈ c.exceptionTable.toList, False := by
      obtain ⟨meth9, c9, h1, h2, -, -, -, -, h7, -⟩ := Cond.code_spec B.named (atoms_spec (ws := ws) B.pre _ (by rw [hw]; exact List.mem_cons_self))
      cases Option.some.inj (h1.symm.trans B.method)
      cases Option.some.inj (h2.symm.trans (Stand.of_body B).code)
      intro x hx
      rw [Array.isEmpty_iff.mp h7] at hx
      cases hx
    obtain ⟨t, a1, o, b1, b2, b3⟩ := body p e s m args below meth c s₁ B hml ht hP s₁ hh0 (Stand.of_body B)
    exact ⟨t, o, a1, b1, b2, b3⟩
set_option maxHeartbeats 1000000 in
theorem Ct_ofF {v : gEnv} {l : Launch} {y : MethodName} {cc : ByteArray} {nL fr lo mc ms : Nat} {ret : Option FieldType} {av : List Value} {ws : va_W} {Post : Option Value → va_W → Prop} {XP : String → Nat → va_W → Prop} (hl0 : l.stackTraces = false) (hy : plainFor y = true) (hlen : (lg_sl av).length ≤ nL) (h : G v l (gRm fr lo mc ms) (gM v Post XP mc ms) (cc, nL, y.cls, ret, [], y.name, fun _ _ => True) 0 (lv_args 0 av) [] ws 0 0) :
    Ct v l y cc nL ret fr lo mc ms av ws Post XP := by
  intro sz
  refine vx_ofWF (cc := cc) (maxL := nL) (ret := ret) hy rfl ?_
  intro p e s m args below meth c s₁ B hml ht hpre
  obtain ⟨rfl, hsz, hP, hK, hD, hE⟩ := hpre
  subst hsz
  have hts := atoms_spec (ws := .code y cc nL ret :: v.2.2.2.2) B.pre
  have hl := lv_entry av (n := nL) hlen
  rw [lg_entry_eq]
  generalize (lg_sl av ++ List.replicate (nL - (lg_sl av).length) Slot.unset).toArray = ls at hl ⊢
  have ht0 : c.exceptionTable.toList = [] := by
    cases hx : c.exceptionTable.toList with
    | nil => rfl
    | cons x r => exact absurd (by rw [hx]; exact List.mem_cons_self) (fun z => ht x z)
  exact h p e s m av.toArray below meth c (va_A ws s.heap.size) s.heap [] ls ⟨B.exec, B.bytes, hml, findClass_of_methodNamed B.named, B.returns, ht0, (name_of_methodNamed B.named B.method).1, fun w hw => hts w (List.mem_cons_of_mem _ hw), B.notSynchronized, hK, fun q hq => Or.inr hq, hE, hl0, trivial⟩ hP hD.self va_S.rf hl
end
section
/-! System.arraycopy between int arrays -/
theorem gF_cpy {f g h : Nat → Int32} {s d n : Nat} {a b : Int} (hh : h = va_cpy f g s d n) (hf : gF f a b) (hg : gF g a b) : gF h a b := fun k => by
  rw [hh]; unfold va_cpy; split
  · exact hf _
  · exact hg k
theorem g_nn {z : Int32} (h : 0 ≤ z.toInt) : (z.toNatClampNeg : Int) = z.toInt := by
  show ((z.toInt.toNat : Nat) : Int) = z.toInt
  omega
theorem g_n0 {z : Int32} (h : 0 ≤ z.toInt) : ¬ z < 0 := fun q => by
  have h1 := gj_lt q (show Int32.toInt 0 = 0 by decide)
  omega
theorem G_copyi {v : gEnv} {l : Launch} {R : Room} {Qf : gFin} {k : gKey} {pc : Nat} {L : List (Nat × Value)} {st : List Value} {ws : va_W} {cs sl i a a0 n0 n1 : Nat} {c0 c1 : ClassId} {f g : Nat → Int32} {sp dp n : Int32} (q0 q1 t0 t1 : Nat) (d : decode k.1 pc = .ok (.invokestatic i, 3))
    (w1 : Cond.methodLink k.2.2.1 i arraycopyName ∈ v.2.2.2.2) (w2 : Cond.native arraycopyName ∈ v.2.2.2.2) (w3 : Cond.static arraycopyName ∈ v.2.2.2.2) (w4 : Cond.initialized "java/lang/System" ∈ v.2.2.2.2)
    (ha0 : ws[q0]? = some (a0, .inl (c0, n0, .inl f))) (ha1 : ws[q1]? = some (a, .inl (c1, n1, .inl g))) (ht0 : v.2.2.1[t0]? = some (c0, .int)) (ht1 : v.2.2.1[t1]? = some (c1, .int))
    (h1 : 0 ≤ sp.toInt) (h2 : 0 ≤ dp.toInt) (h3 : 0 ≤ n.toInt) (h4 : sp.toInt + n.toInt ≤ n0) (h5 : dp.toInt + n.toInt ≤ n1) (hf : 1 ≤ R.frames) (hlo : (st.map fun u => u.category).sum + 18 ≤ R.locals)
    (kk : ∀ h, h = va_cpy f g sp.toNatClampNeg dp.toNatClampNeg n.toNatClampNeg → G v l R Qf k (pc + 3) L st (ws.set q1 (a, .inl (c1, n1, .inl h))) cs sl) : G v l R Qf k pc L (.int n :: .int dp :: .ref a :: .int sp :: .ref a0 :: st) ws cs sl := fun p e s m args below meth c A H locs ls C hP hD hS hl => by
  obtain ⟨g1, g2, g3, g4, g5, g6, g7, g8, g9, g10, g11, g12, g13⟩ := id C
  have e1 := g_nn h1
  have e2 := g_nn h2
  have e3 := g_nn h3
  exact va_copyi g1 g2 (by rw [g3]; exact hl.1.symm) g4 (g8 _ w1) (g8 _ w2) (g8 _ w3) (g8 _ w4) g10 hP hD hS q0 q1 t0 t1 ha0 ha1 ht0 ht1 rfl (g_n0 h1) (g_n0 h2) (g_n0 h3) (by omega) (by omega) (fun _ _ => rfl) hf hlo d (fun H1 locs1 hP hD hS => kk _ rfl p e s m args below meth c A H1 locs1 ls C hP hD hS hl)
end
section
theorem gB_01 {x : Int32} (h : gB x 0 1) : x = 0 ∨ x = 1 := by
  rcases (show x.toInt = 0 ∨ x.toInt = 1 by omega) with h2 | h2
  · exact Or.inl (Int32.toInt_inj.mp (h2.trans (by decide)))
  · exact Or.inr (Int32.toInt_inj.mp (h2.trans (by decide)))
theorem gT_bool {x : Int32} (h : gB x 0 1) : fits .boolean (.int x) = true := by
  rcases gB_01 h with rfl | rfl <;> rfl
theorem gN_char {x : Int32} (h : gB x 0 65535) : narrow .char (.int x) = .int x := by
  have h1 := gI_nat (x := x) h.1
  have h2 : (x.toUInt32 % 65536).toInt32 = x := by
    apply Int32.toBitVec_inj.mp
    apply BitVec.eq_of_toNat_eq
    show x.toUInt32.toNat % 65536 = x.toBitVec.toNat
    have h3 : x.toUInt32.toNat = x.toBitVec.toNat := rfl
    rw [h3]
    omega
  show Value.int _ = Value.int _
  congr 1
theorem gN_byte {x : Int32} (h : gB x (-128) 127) : narrow .byte (.int x) = .int x := by
  show Value.int _ = Value.int _
  congr 1
  apply Int32.toInt_inj.mp
  show (x.toInt8.toInt32).toInt = x.toInt
  rw [Int8.toInt_toInt32, Int32.toInt_toInt8]
  have h3 : ((2 ^ 8 : Nat) : Int) = 256 := rfl
  exact Int.bmod_eq_of_le (by omega) (by omega)
theorem gI_ofN {z : Int32} {n : Nat} (hz : z = Int32.ofNat n) (h : (n : Int) ≤ 65535) : z.toInt = n := by
  subst hz
  exact gI_ofNat (x := Int32.ofNat n) (k := n) (by show n % 2 ^ 32 = n; omega) (by omega)
theorem gC_cmpS {z : Int32} {u w : Int64} (hz : z = lg_cmp u w) (h : z.toInt ≠ 0) : ¬ u = w := gC_cmpN hz (fun e => h (by rw [e]; decide))
end
section
/-! bits of longs: no bit at or above m is set; words of such bits in arrays, wn words to a row -/
def lb_Q (x : Int64) (m : Int) : Prop := ∀ n : Nat, n < 64 → x.toBitVec.getLsbD n = true → (n : Int) < m
section GBITS
variable {x y z : Int64} {m m' : Int}
theorem lb_Q0 : lb_Q 0 m := fun n _ h => by
  have h1 : (0 : Int64).toBitVec.getLsbD n = false := BitVec.getLsbD_zero
  rw [h1] at h; cases h
theorem lb_Qw (h : lb_Q x m) (hm : m ≤ m') : lb_Q x m' := fun n h1 h2 => Int.lt_of_lt_of_le (h n h1 h2) hm
theorem lb_Q64 (x : Int64) (hm : 64 ≤ m) : lb_Q x m := fun n h _ => by omega
theorem lb_Qor (hz : z = x ||| y) (hx : lb_Q x m) (hy : lb_Q y m) : lb_Q z m := fun n h1 h2 => by
  rw [hz, Int64.toBitVec_or, BitVec.getLsbD_or, Bool.or_eq_true] at h2
  rcases h2 with h2 | h2
  · exact hx n h1 h2
  · exact hy n h1 h2
theorem lb_QandL (hz : z = x &&& y) (hx : lb_Q x m) : lb_Q z m := fun n h1 h2 => by
  rw [hz, Int64.toBitVec_and, BitVec.getLsbD_and, Bool.and_eq_true] at h2
  exact hx n h1 h2.1
theorem lb_QandR (hz : z = x &&& y) (hy : lb_Q y m) : lb_Q z m := fun n h1 h2 => by
  rw [hz, Int64.toBitVec_and, BitVec.getLsbD_and, Bool.and_eq_true] at h2
  exact hy n h1 h2.2
/-- 1L << i has the bit i % 64 alone -/
theorem lb_Qtab : ∀ j : Fin 64, ∀ n : Fin 64, ((1 : Int64) <<< (Int64.ofNat j.val)).toBitVec.getLsbD n.val = true → n.val = j.val := by decide +kernel
theorem lb_Qcnt (i : Int32) (h : 0 ≤ i.toInt) : i.toInt64 &&& 63 = Int64.ofNat (i.toInt.toNat % 64) := by
  apply Int64.toBitVec_inj.mp
  apply BitVec.eq_of_toNat_eq
  have h1 := gI_nat h
  have h2 : i.toInt64.toBitVec.toNat = i.toBitVec.toNat := by
    have h3 : i.toInt64.toInt = i.toInt := Int32.toInt_toInt64 i
    have h4 : i.toInt64.toInt = i.toInt64.toBitVec.toInt := rfl
    rw [h4, BitVec.toInt_eq_toNat_cond] at h3
    have h5 := i.toInt64.toBitVec.isLt
    have h6 := Int32.toInt_lt i
    split at h3 <;> omega
  rw [Int64.toBitVec_and, BitVec.toNat_and, h2]
  have h7 : (63 : Int64).toBitVec.toNat = 2 ^ 6 - 1 := by decide
  rw [h7, Nat.and_two_pow_sub_one_eq_mod]
  show _ = (i.toInt.toNat % 64) % 2 ^ 64
  omega
theorem lb_Qshl {i : Int32} (hz : z = 1 <<< (i.toInt64 &&& 63)) (h : 0 ≤ i.toInt) : lb_Q z (i.toInt % 64 + 1) := fun n h1 h2 => by
  rw [hz, lb_Qcnt i h] at h2
  have h3 := lb_Qtab ⟨i.toInt.toNat % 64, Nat.mod_lt _ (by decide)⟩ ⟨n, h1⟩ h2
  have h4 : n = i.toInt.toNat % 64 := h3
  omega
end GBITS
/-- contents: word k of a row of wn words has no bit that stands for nm or more -/
def lb_W (f : Nat → Int64) (N wn nm : Int) : Prop := ∀ k : Nat, (k : Int) < N → lb_Q (f k) (nm - 64 * ((k : Int) % wn))
section GW
variable {f h : Nat → Int64} {N wn nm : Int} {i : Int32} {u : Int64} {w : Int}
theorem lb_Wld (hu : u = f i.toNatClampNeg) (hf : lb_W f N wn nm) (h0 : 0 ≤ i.toInt) (h1 : i.toInt < N) (hw : i.toInt % wn = w) : lb_Q u (nm - 64 * w) := by
  have h2 := g_nn h0
  have h3 := hf i.toNatClampNeg (by omega)
  rw [h2, hw] at h3
  rw [hu]; exact h3
theorem lb_Wst (hh : h = vp_updL f i.toNatClampNeg u) (hf : lb_W f N wn nm) (h0 : 0 ≤ i.toInt) (hw : i.toInt % wn = w) (hu : lb_Q u (nm - 64 * w)) : lb_W h N wn nm := fun k hk => by
  rw [hh]; unfold vp_updL
  have h2 := g_nn h0
  by_cases e : k = i.toNatClampNeg
  · rw [if_pos e, e, h2, hw]; exact hu
  · rw [if_neg e]; exact hf k hk
theorem lb_Wle {N' : Int} (hf : lb_W f N wn nm) (hN : N' ≤ N) : lb_W f N' wn nm := fun k hk => hf k (by omega)
def lb_Z (f : Nat → Int64) (n : Int) : Prop := ∀ k : Nat, (k : Int) < n → f k = 0
theorem lb_Z0 : lb_Z f 0 := fun k hk => absurd hk (by omega)
theorem lb_Zst {n : Int} (hh : h = vp_updL f i.toNatClampNeg 0) (h0 : 0 ≤ i.toInt) (hf : lb_Z f i.toInt) (hn : n = i.toInt + 1) : lb_Z h n := fun k hk => by
  rw [hh]; unfold vp_updL
  have h2 := g_nn h0
  by_cases e : k = i.toNatClampNeg
  · rw [if_pos e]
  · rw [if_neg e]; exact hf k (by omega)
theorem lb_Wz (hf : lb_Z f N) : lb_W f N wn nm := fun k hk => by rw [hf k hk]; exact lb_Q0
theorem lb_Mod0 {a : Int} (h0 : 0 ≤ a) (h1 : a < wn) : a % wn = a := Int.emod_eq_of_lt h0 h1
theorem lb_Mod1 {a b p : Int} (ha : a = p + w) (hp : p = b * wn) (h0 : 0 ≤ w) (h1 : w < wn) : a % wn = w := by
  rw [ha, hp, Int.mul_add_emod_self_right]; exact Int.emod_eq_of_lt h0 h1
theorem lb_Mod2 {a p : Int} (ha : a = p + w) (hp : p % wn = 0) (h0 : 0 ≤ w) (h1 : w < wn) : a % wn = w := by
  rw [ha, Int.add_emod, hp, Int.zero_add, Int.emod_emod_of_dvd _ (Int.dvd_refl _)]; exact Int.emod_eq_of_lt h0 h1
theorem lb_Mod3 {b p : Int} (hp : p = b * wn) : p % wn = 0 := by rw [hp]; exact Int.mul_emod_left b wn
theorem lb_Lt1 {a b p B : Int} (ha : a = p + w) (hp : p = b * wn) (h1 : w < wn) (hw : 0 ≤ wn) (hb : b < B) : a < B * wn := by
  have h2 : (b + 1) * wn ≤ B * wn := Int.mul_le_mul_of_nonneg_right (by omega) hw
  have h3 : (b + 1) * wn = b * wn + wn := by rw [Int.add_mul, Int.one_mul]
  omega
end GW
end
section
section GW2
variable {f h : Nat → Int64} {N wn nm : Int} {i : Int32} {u : Int64} {w : Int}
theorem lb_Zle {n n' : Int} (hf : lb_Z f n) (h1 : n' ≤ n) : lb_Z f n' := fun k hk => hf k (by omega)
theorem lb_Wext (hh : h = vp_updL f i.toNatClampNeg u) (hf : lb_W f i.toInt wn nm) (h0 : 0 ≤ i.toInt) (hw : i.toInt % wn = w) (hu : lb_Q u (nm - 64 * w)) : lb_W h (i.toInt + 1) wn nm := fun k hk => by
  rw [hh]; unfold vp_updL
  have h2 := g_nn h0
  by_cases e : k = i.toNatClampNeg
  · rw [if_pos e, e, h2, hw]; exact hu
  · rw [if_neg e]; exact hf k (by omega)
theorem lb_W0 : lb_W f 0 wn nm := fun k hk => absurd hk (by omega)
theorem lb_Le1 {b p B : Int} (hp : p = b * wn) (hw : 0 ≤ wn) (hb : b < B) : p + wn ≤ B * wn := by
  have h2 : (b + 1) * wn ≤ B * wn := Int.mul_le_mul_of_nonneg_right (by omega) hw
  have h3 : (b + 1) * wn = b * wn + wn := by rw [Int.add_mul, Int.one_mul]
  omega
end GW2
end
section
/-! Long.bitCount as a function; the lowest bit -/
def lb_sh (x : Int64) (y : Int32) : Int64 := (x.toUInt64 >>> (y.toInt64.toUInt64 &&& Int64.toUInt64 63)).toInt64
def lb_b1 (x : Int64) : Int64 := x - (lb_sh x 1 &&& 6148914691236517205)
def lb_b2 (x : Int64) : Int64 := (x &&& 3689348814741910323) + (lb_sh x 2 &&& 3689348814741910323)
def lb_b3 (x : Int64) : Int64 := (x + lb_sh x 4) &&& 1085102592571150095
def lb_b4 (x : Int64) : Int64 := x + lb_sh x 8
def lb_b5 (x : Int64) : Int64 := x + lb_sh x 16
def lb_b6 (x : Int64) : Int64 := x + lb_sh x 32
def lb_bc (x : Int64) : Int32 := (lb_b6 (lb_b5 (lb_b4 (lb_b3 (lb_b2 (lb_b1 x)))))).toInt32 &&& 127
theorem lb_bcT : ∀ j : Fin 64, (lb_bc ((Int64.ofNat (2 ^ j.val)) - 1)).toInt = j.val := by decide +kernel
theorem lb_least {x : BitVec 64} (h : x ≠ 0#64) : ∃ j, j < 64 ∧ x.getLsbD j = true ∧ ∀ i, i < j → x.getLsbD i = false := by
  have h1 : ∃ j, j < 64 ∧ x.getLsbD j = true := by
    refine Classical.byContradiction fun hn => h ?_
    apply BitVec.eq_of_getLsbD_eq
    intro i hi
    rw [BitVec.getLsbD_zero]
    cases hx : x.getLsbD i with
    | false => rfl
    | true => exact absurd ⟨i, hi, hx⟩ hn
  have h2 : ∀ n : Nat, (∃ j, j < n ∧ x.getLsbD j = true) → ∃ j, j < n ∧ x.getLsbD j = true ∧ ∀ i, i < j → x.getLsbD i = false := by
    intro n
    induction n with
    | zero => intro ⟨j, hj, _⟩; omega
    | succ n ih =>
      intro ⟨j, hj, hx⟩
      by_cases hs : ∃ j, j < n ∧ x.getLsbD j = true
      · obtain ⟨k, k1, k2, k3⟩ := ih hs
        exact ⟨k, by omega, k2, k3⟩
      · refine ⟨j, hj, hx, fun i hi => ?_⟩
        cases hxi : x.getLsbD i with
        | false => rfl
        | true => exact absurd ⟨i, by omega, hxi⟩ hs
  exact h2 64 h1
theorem lb_andneg {x : BitVec 64} {j : Nat} (h1 : x.getLsbD j = true) (h2 : ∀ i, i < j → x.getLsbD i = false) : x &&& -x = BitVec.twoPow 64 j := by
  have hj : j < 64 := by
    refine Classical.byContradiction fun hn => ?_
    rw [BitVec.getLsbD_of_ge x j (by omega)] at h1
    cases h1
  apply BitVec.eq_of_getLsbD_eq
  intro i hi
  rw [BitVec.getLsbD_and, BitVec.getLsbD_neg, BitVec.getLsbD_twoPow]
  rcases Nat.lt_trichotomy i j with h | h | h
  · rw [h2 i h]; simp; omega
  · subst h
    have hn : ¬ ∃ k, k < i ∧ x.getLsbD k = true := fun ⟨k, k1, k2⟩ => by rw [h2 k k1] at k2; cases k2
    rw [h1]; simp [hn, hi]
  · have hy : ∃ k, k < i ∧ x.getLsbD k = true := ⟨j, h, h1⟩
    cases x.getLsbD i <;> simp [hi, hy] <;> omega
theorem lb_lowE {x : Int64} {z : Int32} (hx : ¬ x = 0) (hz : z = lb_bc ((x &&& (-x)) - 1)) : 0 ≤ z.toInt ∧ z.toInt ≤ 63 ∧ x.toBitVec.getLsbD z.toInt.toNat = true := by
  have hx' : x.toBitVec ≠ 0#64 := fun h => hx (Int64.toBitVec_inj.mp h)
  obtain ⟨j, h1, h2, h3⟩ := lb_least hx'
  have h4 : x &&& (-x) = Int64.ofNat (2 ^ j) := by
    apply Int64.toBitVec_inj.mp
    rw [Int64.toBitVec_and, Int64.toBitVec_neg, lb_andneg h2 h3]
    show BitVec.twoPow 64 j = BitVec.ofNat 64 (2 ^ j)
    apply BitVec.eq_of_toNat_eq
    rw [BitVec.toNat_twoPow, BitVec.toNat_ofNat]
  have h5 := lb_bcT ⟨j, h1⟩
  rw [h4] at hz
  have h6 : z.toInt = j := by rw [hz]; exact h5
  refine ⟨by omega, by omega, ?_⟩
  rw [h6]; exact h2
theorem lb_lowQ {x : Int64} {z : Int32} {m : Int} (h : 0 ≤ z.toInt ∧ z.toInt ≤ 63 ∧ x.toBitVec.getLsbD z.toInt.toNat = true) (hq : lb_Q x m) : z.toInt < m := by
  have h1 := hq z.toInt.toNat (by omega) h.2.2
  omega
end
section
/-! the first n of an int array lie in 0 .. b - 1 -/
def gP (f : Nat → Int32) (n b : Int) : Prop := ∀ k : Nat, (k : Int) < n → 0 ≤ (f k).toInt ∧ (f k).toInt < b
section GPRE
variable {f h : Nat → Int32} {n b : Int} {i z : Int32}
theorem gP_0 : gP f 0 b := fun k hk => absurd hk (by omega)
theorem gP_le {n' : Int} (hf : gP f n b) (h1 : n' ≤ n) : gP f n' b := fun k hk => hf k (by omega)
theorem gP_ld (hz : z = f i.toNatClampNeg) (hf : gP f n b) (h0 : 0 ≤ i.toInt) (h1 : i.toInt < n) : 0 ≤ z.toInt ∧ z.toInt < b := by
  have h2 := g_nn h0
  rw [hz]; exact hf _ (by omega)
theorem gP_ext (hh : h = upd f i.toNatClampNeg z) (hf : gP f i.toInt b) (h0 : 0 ≤ i.toInt) (h1 : 0 ≤ z.toInt) (h2 : z.toInt < b) : gP h (i.toInt + 1) b := fun k hk => by
  rw [hh]; unfold upd
  have h3 := g_nn h0
  by_cases e : k = i.toNatClampNeg
  · rw [if_pos e]; exact ⟨h1, h2⟩
  · rw [if_neg e]; exact hf k (by omega)
theorem gP_cpy {s d c : Int32} (hh : h = va_cpy f f s.toNatClampNeg d.toNatClampNeg c.toNatClampNeg) (hf : gP f (n + 1) b) (h0 : 0 ≤ d.toInt) (h1 : s.toInt = d.toInt + 1) (h2 : 0 ≤ c.toInt) (h3 : d.toInt + c.toInt = n) : gP h n b := fun k hk => by
  have e1 := g_nn h0
  have e2 := g_nn (z := s) (by omega)
  have e3 := g_nn h2
  rw [hh]; unfold va_cpy
  split
  · exact hf _ (by omega)
  · exact hf _ (by omega)
end GPRE
end
section
abbrev gTx := Nat × (Nat → Int32)
/-- an object with field j set -/
def cF (e : va_E) (j : Nat) (v : Value) : va_E := match e with
  | .inr (c, vs) => .inr (c, vs.set j v)
  | .inl x => .inl x
end
section
theorem d_cX10_size_0 : decode cX10_size 0 = .ok (.aload_n 0, 1) := by decide +kernel
theorem d_cX10_size_1 : decode cX10_size 1 = .ok (.getfield 15, 3) := by decide +kernel
theorem w_1_60 : (Jvm.Cond.fieldLink "SpillForge$Tape" (15 : Nat) "SpillForge$Tape" "size" "I") ∈ gw := gw_1 60 rfl rfl
theorem d_cX10_size_4 : decode cX10_size 4 = .ok (.ireturn, 1) := by decide +kernel
theorem d_cX10_hasRoom_0 : decode cX10_hasRoom 0 = .ok (.aload_n 0, 1) := by decide +kernel
theorem d_cX10_hasRoom_1 : decode cX10_hasRoom 1 = .ok (.getfield 15, 3) := by decide +kernel
theorem d_cX10_hasRoom_4 : decode cX10_hasRoom 4 = .ok (.iload_n 1, 1) := by decide +kernel
theorem d_cX10_hasRoom_5 : decode cX10_hasRoom 5 = .ok (.iadd, 1) := by decide +kernel
theorem d_cX10_hasRoom_6 : decode cX10_hasRoom 6 = .ok (.aload_n 0, 1) := by decide +kernel
theorem d_cX10_hasRoom_7 : decode cX10_hasRoom 7 = .ok (.getfield 9, 3) := by decide +kernel
theorem w_1_59 : (Jvm.Cond.fieldLink "SpillForge$Tape" (9 : Nat) "SpillForge$Tape" "bytes" "[B") ∈ gw := gw_1 59 rfl rfl
theorem d_cX10_hasRoom_10 : decode cX10_hasRoom 10 = .ok (.arraylength, 1) := by decide +kernel
theorem d_cX10_hasRoom_11 : decode cX10_hasRoom 11 = .ok (.if_icmp .gt 7, 3) := by decide +kernel
theorem d_cX10_hasRoom_18 : decode cX10_hasRoom 18 = .ok (.iconst 0, 1) := by decide +kernel
theorem d_cX10_hasRoom_19 : decode cX10_hasRoom 19 = .ok (.ireturn, 1) := by decide +kernel
theorem d_cX10_hasRoom_14 : decode cX10_hasRoom 14 = .ok (.iconst 1, 1) := by decide +kernel
theorem d_cX10_hasRoom_15 : decode cX10_hasRoom 15 = .ok (.goto 4, 3) := by decide +kernel
theorem d_cX10_cutTo_0 : decode cX10_cutTo 0 = .ok (.aload_n 0, 1) := by decide +kernel
theorem d_cX10_cutTo_1 : decode cX10_cutTo 1 = .ok (.iconst 0, 1) := by decide +kernel
theorem d_cX10_cutTo_2 : decode cX10_cutTo 2 = .ok (.iload_n 1, 1) := by decide +kernel
theorem d_cX10_cutTo_3 : decode cX10_cutTo 3 = .ok (.aload_n 0, 1) := by decide +kernel
theorem d_cX10_cutTo_4 : decode cX10_cutTo 4 = .ok (.getfield 15, 3) := by decide +kernel
theorem d_cX10_cutTo_7 : decode cX10_cutTo 7 = .ok (.invokestatic 19, 3) := by decide +kernel
theorem w_3_226 : (Jvm.Cond.methodLink "SpillForge$Tape" (19 : Nat) ({ cls := "java/lang/Math", name := "min", desc := "(II)I" } : Jvm.MethodName)) ∈ gw := gw_3 226 rfl rfl
theorem w_3_227 : (Jvm.Cond.static ({ cls := "java/lang/Math", name := "min", desc := "(II)I" } : Jvm.MethodName)) ∈ gw := gw_3 227 rfl rfl
theorem w_1_6 : (Jvm.Cond.initialized "java/lang/Math") ∈ gw := gw_1 6 rfl rfl
theorem w_3_228 : (Jvm.Cond.code ({ cls := "java/lang/Math", name := "min", desc := "(II)I" } : Jvm.MethodName) prog_32_method_69_code (2 : Nat) (Option.some Jvm.ClassFile.FieldType.int)) ∈ gw := gw_3 228 rfl rfl
theorem d_cX10_cutTo_10 : decode cX10_cutTo 10 = .ok (.invokestatic 25, 3) := by decide +kernel
theorem w_3_229 : (Jvm.Cond.methodLink "SpillForge$Tape" (25 : Nat) ({ cls := "java/lang/Math", name := "max", desc := "(II)I" } : Jvm.MethodName)) ∈ gw := gw_3 229 rfl rfl
theorem w_1_140 : (Jvm.Cond.static ({ cls := "java/lang/Math", name := "max", desc := "(II)I" } : Jvm.MethodName)) ∈ gw := gw_1 140 rfl rfl
theorem w_1_141 : (Jvm.Cond.code ({ cls := "java/lang/Math", name := "max", desc := "(II)I" } : Jvm.MethodName) prog_32_method_65_code (2 : Nat) (Option.some Jvm.ClassFile.FieldType.int)) ∈ gw := gw_1 141 rfl rfl
theorem d_cX10_cutTo_13 : decode cX10_cutTo 13 = .ok (.putfield 15, 3) := by decide +kernel
theorem d_cX10_cutTo_16 : decode cX10_cutTo 16 = .ok (.return_, 1) := by decide +kernel
theorem d_cX10_byteAt_0 : decode cX10_byteAt 0 = .ok (.iload_n 1, 1) := by decide +kernel
theorem d_cX10_byteAt_1 : decode cX10_byteAt 1 = .ok (.ifCond .lt 24, 3) := by decide +kernel
theorem d_cX10_byteAt_25 : decode cX10_byteAt 25 = .ok (.iconst (-1), 1) := by decide +kernel
theorem d_cX10_byteAt_26 : decode cX10_byteAt 26 = .ok (.ireturn, 1) := by decide +kernel
theorem d_cX10_byteAt_4 : decode cX10_byteAt 4 = .ok (.iload_n 1, 1) := by decide +kernel
theorem d_cX10_byteAt_5 : decode cX10_byteAt 5 = .ok (.aload_n 0, 1) := by decide +kernel
theorem d_cX10_byteAt_6 : decode cX10_byteAt 6 = .ok (.getfield 15, 3) := by decide +kernel
theorem d_cX10_byteAt_9 : decode cX10_byteAt 9 = .ok (.if_icmp .ge 16, 3) := by decide +kernel
theorem d_cX10_byteAt_12 : decode cX10_byteAt 12 = .ok (.aload_n 0, 1) := by decide +kernel
theorem d_cX10_byteAt_13 : decode cX10_byteAt 13 = .ok (.getfield 9, 3) := by decide +kernel
theorem d_cX10_byteAt_16 : decode cX10_byteAt 16 = .ok (.iload_n 1, 1) := by decide +kernel
theorem d_cX10_byteAt_17 : decode cX10_byteAt 17 = .ok (.baload, 1) := by decide +kernel
theorem d_cX10_byteAt_18 : decode cX10_byteAt 18 = .ok (.sipush 255, 3) := by decide +kernel
theorem d_cX10_byteAt_21 : decode cX10_byteAt 21 = .ok (.iand, 1) := by decide +kernel
theorem d_cX10_byteAt_22 : decode cX10_byteAt 22 = .ok (.goto 4, 3) := by decide +kernel
theorem d_cX10_addInt_0 : decode cX10_addInt 0 = .ok (.bipush 24, 2) := by decide +kernel
theorem d_cX10_addInt_2 : decode cX10_addInt 2 = .ok (.istore_n 2, 1) := by decide +kernel
theorem d_cX10_addInt_3 : decode cX10_addInt 3 = .ok (.iload_n 2, 1) := by decide +kernel
theorem d_cX10_addInt_4 : decode cX10_addInt 4 = .ok (.ifCond .lt 44, 3) := by decide +kernel
theorem d_cX10_addInt_48 : decode cX10_addInt 48 = .ok (.return_, 1) := by decide +kernel
theorem d_cX10_addInt_7 : decode cX10_addInt 7 = .ok (.aload_n 0, 1) := by decide +kernel
theorem d_cX10_addInt_8 : decode cX10_addInt 8 = .ok (.getfield 15, 3) := by decide +kernel
theorem d_cX10_addInt_11 : decode cX10_addInt 11 = .ok (.aload_n 0, 1) := by decide +kernel
theorem d_cX10_addInt_12 : decode cX10_addInt 12 = .ok (.getfield 9, 3) := by decide +kernel
theorem d_cX10_addInt_15 : decode cX10_addInt 15 = .ok (.arraylength, 1) := by decide +kernel
theorem d_cX10_addInt_16 : decode cX10_addInt 16 = .ok (.if_icmp .ge 32, 3) := by decide +kernel
theorem d_cX10_addInt_19 : decode cX10_addInt 19 = .ok (.aload_n 0, 1) := by decide +kernel
theorem d_cX10_addInt_20 : decode cX10_addInt 20 = .ok (.getfield 9, 3) := by decide +kernel
theorem d_cX10_addInt_23 : decode cX10_addInt 23 = .ok (.aload_n 0, 1) := by decide +kernel
theorem d_cX10_addInt_24 : decode cX10_addInt 24 = .ok (.getfield 15, 3) := by decide +kernel
theorem d_cX10_addInt_27 : decode cX10_addInt 27 = .ok (.iload_n 1, 1) := by decide +kernel
theorem d_cX10_addInt_28 : decode cX10_addInt 28 = .ok (.iload_n 2, 1) := by decide +kernel
theorem d_cX10_addInt_29 : decode cX10_addInt 29 = .ok (.ishr, 1) := by decide +kernel
theorem d_cX10_addInt_30 : decode cX10_addInt 30 = .ok (.i2b, 1) := by decide +kernel
theorem d_cX10_addInt_31 : decode cX10_addInt 31 = .ok (.bastore, 1) := by decide +kernel
theorem d_cX10_addInt_32 : decode cX10_addInt 32 = .ok (.aload_n 0, 1) := by decide +kernel
theorem d_cX10_addInt_33 : decode cX10_addInt 33 = .ok (.dup, 1) := by decide +kernel
theorem d_cX10_addInt_34 : decode cX10_addInt 34 = .ok (.getfield 15, 3) := by decide +kernel
theorem d_cX10_addInt_37 : decode cX10_addInt 37 = .ok (.iconst 1, 1) := by decide +kernel
theorem d_cX10_addInt_38 : decode cX10_addInt 38 = .ok (.iadd, 1) := by decide +kernel
theorem d_cX10_addInt_39 : decode cX10_addInt 39 = .ok (.putfield 15, 3) := by decide +kernel
theorem d_cX10_addInt_42 : decode cX10_addInt 42 = .ok (.iinc 2 (-8), 3) := by decide +kernel
theorem d_cX10_addInt_45 : decode cX10_addInt 45 = .ok (.goto (-42), 3) := by decide +kernel
theorem d_cX10_intAt_0 : decode cX10_intAt 0 = .ok (.iconst 0, 1) := by decide +kernel
theorem d_cX10_intAt_1 : decode cX10_intAt 1 = .ok (.istore_n 2, 1) := by decide +kernel
theorem d_cX10_intAt_2 : decode cX10_intAt 2 = .ok (.iconst 0, 1) := by decide +kernel
theorem d_cX10_intAt_3 : decode cX10_intAt 3 = .ok (.istore_n 3, 1) := by decide +kernel
theorem d_cX10_intAt_4 : decode cX10_intAt 4 = .ok (.iload_n 3, 1) := by decide +kernel
theorem d_cX10_intAt_5 : decode cX10_intAt 5 = .ok (.iconst 4, 1) := by decide +kernel
theorem d_cX10_intAt_6 : decode cX10_intAt 6 = .ok (.if_icmp .ge 26, 3) := by decide +kernel
theorem d_cX10_intAt_32 : decode cX10_intAt 32 = .ok (.iload_n 2, 1) := by decide +kernel
theorem d_cX10_intAt_33 : decode cX10_intAt 33 = .ok (.ireturn, 1) := by decide +kernel
theorem d_cX10_intAt_9 : decode cX10_intAt 9 = .ok (.iload_n 2, 1) := by decide +kernel
theorem d_cX10_intAt_10 : decode cX10_intAt 10 = .ok (.bipush 8, 2) := by decide +kernel
theorem d_cX10_intAt_12 : decode cX10_intAt 12 = .ok (.ishl, 1) := by decide +kernel
theorem d_cX10_intAt_13 : decode cX10_intAt 13 = .ok (.aload_n 0, 1) := by decide +kernel
theorem d_cX10_intAt_14 : decode cX10_intAt 14 = .ok (.iload_n 1, 1) := by decide +kernel
theorem d_cX10_intAt_15 : decode cX10_intAt 15 = .ok (.iload_n 3, 1) := by decide +kernel
theorem d_cX10_intAt_16 : decode cX10_intAt 16 = .ok (.iadd, 1) := by decide +kernel
theorem d_cX10_intAt_17 : decode cX10_intAt 17 = .ok (.invokevirtual 28, 3) := by decide +kernel
theorem w_4_182 : (Jvm.Cond.methodLink "SpillForge$Tape" (28 : Nat) ({ cls := "SpillForge$Tape", name := "byteAt", desc := "(I)I" } : Jvm.MethodName)) ∈ gw := gw_4 182 rfl rfl
theorem w_1_2 : (Jvm.Cond.initialized "SpillForge$Tape") ∈ gw := gw_1 2 rfl rfl
theorem w_3_23 : (Jvm.Cond.code ({ cls := "SpillForge$Tape", name := "byteAt", desc := "(I)I" } : Jvm.MethodName) prog_12_method_6_code (2 : Nat) (Option.some Jvm.ClassFile.FieldType.int)) ∈ gw := gw_3 23 rfl rfl
theorem w_3_21 : (Jvm.Cond.instanceMethod ({ cls := "SpillForge$Tape", name := "byteAt", desc := "(I)I" } : Jvm.MethodName)) ∈ gw := gw_3 21 rfl rfl
theorem w_3_22 : (Jvm.Cond.selects "SpillForge$Tape" ({ cls := "SpillForge$Tape", name := "byteAt", desc := "(I)I" } : Jvm.MethodName) ({ cls := "SpillForge$Tape", name := "byteAt", desc := "(I)I" } : Jvm.MethodName)) ∈ gw := gw_3 22 rfl rfl
theorem d_cX10_intAt_20 : decode cX10_intAt 20 = .ok (.sipush 255, 3) := by decide +kernel
theorem d_cX10_intAt_23 : decode cX10_intAt 23 = .ok (.iand, 1) := by decide +kernel
theorem d_cX10_intAt_24 : decode cX10_intAt 24 = .ok (.ior, 1) := by decide +kernel
theorem d_cX10_intAt_25 : decode cX10_intAt 25 = .ok (.istore_n 2, 1) := by decide +kernel
theorem d_cX10_intAt_26 : decode cX10_intAt 26 = .ok (.iinc 3 1, 3) := by decide +kernel
theorem d_cX10_intAt_29 : decode cX10_intAt 29 = .ok (.goto (-25), 3) := by decide +kernel
theorem d_cX9_kind_0 : decode cX9_kind 0 = .ok (.aload_n 0, 1) := by decide +kernel
theorem d_cX9_kind_1 : decode cX9_kind 1 = .ok (.getfield 15, 3) := by decide +kernel
theorem w_1_80 : (Jvm.Cond.fieldLink "SpillForge$Signs" (15 : Nat) "SpillForge$Signs" "kind" "I") ∈ gw := gw_1 80 rfl rfl
theorem d_cX9_kind_4 : decode cX9_kind 4 = .ok (.ireturn, 1) := by decide +kernel
theorem d_cX9_value_0 : decode cX9_value 0 = .ok (.aload_n 0, 1) := by decide +kernel
theorem d_cX9_value_1 : decode cX9_value 1 = .ok (.getfield 19, 3) := by decide +kernel
theorem w_1_81 : (Jvm.Cond.fieldLink "SpillForge$Signs" (19 : Nat) "SpillForge$Signs" "value" "I") ∈ gw := gw_1 81 rfl rfl
theorem d_cX9_value_4 : decode cX9_value 4 = .ok (.ireturn, 1) := by decide +kernel
theorem d_cX9_place_0 : decode cX9_place 0 = .ok (.aload_n 0, 1) := by decide +kernel
theorem d_cX9_place_1 : decode cX9_place 1 = .ok (.getfield 22, 3) := by decide +kernel
theorem w_1_82 : (Jvm.Cond.fieldLink "SpillForge$Signs" (22 : Nat) "SpillForge$Signs" "place" "I") ∈ gw := gw_1 82 rfl rfl
theorem d_cX9_place_4 : decode cX9_place 4 = .ok (.ireturn, 1) := by decide +kernel
theorem d_cX9_isDigit_0 : decode cX9_isDigit 0 = .ok (.iload_n 0, 1) := by decide +kernel
theorem d_cX9_isDigit_1 : decode cX9_isDigit 1 = .ok (.bipush 48, 2) := by decide +kernel
theorem d_cX9_isDigit_3 : decode cX9_isDigit 3 = .ok (.if_icmp .lt 13, 3) := by decide +kernel
theorem d_cX9_isDigit_16 : decode cX9_isDigit 16 = .ok (.iconst 0, 1) := by decide +kernel
theorem d_cX9_isDigit_17 : decode cX9_isDigit 17 = .ok (.ireturn, 1) := by decide +kernel
theorem d_cX9_isDigit_6 : decode cX9_isDigit 6 = .ok (.iload_n 0, 1) := by decide +kernel
theorem d_cX9_isDigit_7 : decode cX9_isDigit 7 = .ok (.bipush 57, 2) := by decide +kernel
theorem d_cX9_isDigit_9 : decode cX9_isDigit 9 = .ok (.if_icmp .gt 7, 3) := by decide +kernel
theorem d_cX9_isDigit_12 : decode cX9_isDigit 12 = .ok (.iconst 1, 1) := by decide +kernel
theorem d_cX9_isDigit_13 : decode cX9_isDigit 13 = .ok (.goto 4, 3) := by decide +kernel
theorem d_cX9_isLetter_0 : decode cX9_isLetter 0 = .ok (.iload_n 0, 1) := by decide +kernel
theorem d_cX9_isLetter_1 : decode cX9_isLetter 1 = .ok (.bipush 97, 2) := by decide +kernel
theorem d_cX9_isLetter_3 : decode cX9_isLetter 3 = .ok (.if_icmp .lt 13, 3) := by decide +kernel
theorem d_cX9_isLetter_16 : decode cX9_isLetter 16 = .ok (.iconst 0, 1) := by decide +kernel
theorem d_cX9_isLetter_17 : decode cX9_isLetter 17 = .ok (.ireturn, 1) := by decide +kernel
theorem d_cX9_isLetter_6 : decode cX9_isLetter 6 = .ok (.iload_n 0, 1) := by decide +kernel
theorem d_cX9_isLetter_7 : decode cX9_isLetter 7 = .ok (.bipush 122, 2) := by decide +kernel
theorem d_cX9_isLetter_9 : decode cX9_isLetter 9 = .ok (.if_icmp .gt 7, 3) := by decide +kernel
theorem d_cX9_isLetter_12 : decode cX9_isLetter 12 = .ok (.iconst 1, 1) := by decide +kernel
theorem d_cX9_isLetter_13 : decode cX9_isLetter 13 = .ok (.goto 4, 3) := by decide +kernel
theorem d_cX9_skipBlanks_0 : decode cX9_skipBlanks 0 = .ok (.iconst 0, 1) := by decide +kernel
theorem d_cX9_skipBlanks_1 : decode cX9_skipBlanks 1 = .ok (.istore_n 2, 1) := by decide +kernel
theorem d_cX9_skipBlanks_2 : decode cX9_skipBlanks 2 = .ok (.iload_n 1, 1) := by decide +kernel
theorem d_cX9_skipBlanks_3 : decode cX9_skipBlanks 3 = .ok (.istore_n 3, 1) := by decide +kernel
theorem d_cX9_skipBlanks_4 : decode cX9_skipBlanks 4 = .ok (.iload_n 3, 1) := by decide +kernel
theorem d_cX9_skipBlanks_5 : decode cX9_skipBlanks 5 = .ok (.aload_n 0, 1) := by decide +kernel
theorem d_cX9_skipBlanks_6 : decode cX9_skipBlanks 6 = .ok (.getfield 9, 3) := by decide +kernel
theorem w_1_79 : (Jvm.Cond.fieldLink "SpillForge$Signs" (9 : Nat) "SpillForge$Signs" "tape" "LSpillForge$Tape;") ∈ gw := gw_1 79 rfl rfl
theorem d_cX9_skipBlanks_9 : decode cX9_skipBlanks 9 = .ok (.invokevirtual 61, 3) := by decide +kernel
theorem w_3_16 : (Jvm.Cond.methodLink "SpillForge$Signs" (61 : Nat) ({ cls := "SpillForge$Tape", name := "size", desc := "()I" } : Jvm.MethodName)) ∈ gw := gw_3 16 rfl rfl
theorem w_3_19 : (Jvm.Cond.code ({ cls := "SpillForge$Tape", name := "size", desc := "()I" } : Jvm.MethodName) prog_12_method_2_code (1 : Nat) (Option.some Jvm.ClassFile.FieldType.int)) ∈ gw := gw_3 19 rfl rfl
theorem w_3_17 : (Jvm.Cond.instanceMethod ({ cls := "SpillForge$Tape", name := "size", desc := "()I" } : Jvm.MethodName)) ∈ gw := gw_3 17 rfl rfl
theorem w_3_18 : (Jvm.Cond.selects "SpillForge$Tape" ({ cls := "SpillForge$Tape", name := "size", desc := "()I" } : Jvm.MethodName) ({ cls := "SpillForge$Tape", name := "size", desc := "()I" } : Jvm.MethodName)) ∈ gw := gw_3 18 rfl rfl
theorem d_cX9_skipBlanks_12 : decode cX9_skipBlanks 12 = .ok (.if_icmp .ge 77, 3) := by decide +kernel
theorem d_cX9_skipBlanks_89 : decode cX9_skipBlanks 89 = .ok (.aload_n 0, 1) := by decide +kernel
theorem d_cX9_skipBlanks_90 : decode cX9_skipBlanks 90 = .ok (.getfield 9, 3) := by decide +kernel
theorem d_cX9_skipBlanks_93 : decode cX9_skipBlanks 93 = .ok (.invokevirtual 61, 3) := by decide +kernel
theorem d_cX9_skipBlanks_96 : decode cX9_skipBlanks 96 = .ok (.ireturn, 1) := by decide +kernel
theorem d_cX9_skipBlanks_15 : decode cX9_skipBlanks 15 = .ok (.aload_n 0, 1) := by decide +kernel
theorem d_cX9_skipBlanks_16 : decode cX9_skipBlanks 16 = .ok (.getfield 9, 3) := by decide +kernel
theorem d_cX9_skipBlanks_19 : decode cX9_skipBlanks 19 = .ok (.iload_n 3, 1) := by decide +kernel
theorem d_cX9_skipBlanks_20 : decode cX9_skipBlanks 20 = .ok (.invokevirtual 35, 3) := by decide +kernel
theorem w_3_20 : (Jvm.Cond.methodLink "SpillForge$Signs" (35 : Nat) ({ cls := "SpillForge$Tape", name := "byteAt", desc := "(I)I" } : Jvm.MethodName)) ∈ gw := gw_3 20 rfl rfl
theorem d_cX9_skipBlanks_23 : decode cX9_skipBlanks 23 = .ok (.istore 4, 2) := by decide +kernel
theorem d_cX9_skipBlanks_25 : decode cX9_skipBlanks 25 = .ok (.iload 4, 2) := by decide +kernel
theorem d_cX9_skipBlanks_27 : decode cX9_skipBlanks 27 = .ok (.bipush 10, 2) := by decide +kernel
theorem d_cX9_skipBlanks_29 : decode cX9_skipBlanks 29 = .ok (.if_icmp .eq 18, 3) := by decide +kernel
theorem d_cX9_skipBlanks_47 : decode cX9_skipBlanks 47 = .ok (.iconst 0, 1) := by decide +kernel
theorem d_cX9_skipBlanks_48 : decode cX9_skipBlanks 48 = .ok (.istore_n 2, 1) := by decide +kernel
theorem d_cX9_skipBlanks_49 : decode cX9_skipBlanks 49 = .ok (.iload_n 2, 1) := by decide +kernel
theorem d_cX9_skipBlanks_50 : decode cX9_skipBlanks 50 = .ok (.ifCond .ne 33, 3) := by decide +kernel
theorem d_cX9_skipBlanks_53 : decode cX9_skipBlanks 53 = .ok (.iload 4, 2) := by decide +kernel
theorem d_cX9_skipBlanks_55 : decode cX9_skipBlanks 55 = .ok (.bipush 9, 2) := by decide +kernel
theorem d_cX9_skipBlanks_57 : decode cX9_skipBlanks 57 = .ok (.if_icmp .eq 26, 3) := by decide +kernel
theorem d_cX9_skipBlanks_60 : decode cX9_skipBlanks 60 = .ok (.iload 4, 2) := by decide +kernel
theorem d_cX9_skipBlanks_62 : decode cX9_skipBlanks 62 = .ok (.bipush 10, 2) := by decide +kernel
theorem d_cX9_skipBlanks_64 : decode cX9_skipBlanks 64 = .ok (.if_icmp .eq 19, 3) := by decide +kernel
theorem d_cX9_skipBlanks_83 : decode cX9_skipBlanks 83 = .ok (.iinc 3 1, 3) := by decide +kernel
theorem d_cX9_skipBlanks_86 : decode cX9_skipBlanks 86 = .ok (.goto (-82), 3) := by decide +kernel
theorem d_cX9_skipBlanks_32 : decode cX9_skipBlanks 32 = .ok (.iload_n 2, 1) := by decide +kernel
theorem d_cX9_skipBlanks_33 : decode cX9_skipBlanks 33 = .ok (.ifCond .ne 10, 3) := by decide +kernel
theorem d_cX9_skipBlanks_43 : decode cX9_skipBlanks 43 = .ok (.iconst 1, 1) := by decide +kernel
theorem d_cX9_skipBlanks_44 : decode cX9_skipBlanks 44 = .ok (.goto 4, 3) := by decide +kernel
theorem d_cX9_skipBlanks_36 : decode cX9_skipBlanks 36 = .ok (.iload 4, 2) := by decide +kernel
theorem d_cX9_skipBlanks_38 : decode cX9_skipBlanks 38 = .ok (.bipush 59, 2) := by decide +kernel
theorem d_cX9_skipBlanks_40 : decode cX9_skipBlanks 40 = .ok (.if_icmp .ne 7, 3) := by decide +kernel
theorem d_cX9_skipBlanks_67 : decode cX9_skipBlanks 67 = .ok (.iload 4, 2) := by decide +kernel
theorem d_cX9_skipBlanks_69 : decode cX9_skipBlanks 69 = .ok (.bipush 13, 2) := by decide +kernel
theorem d_cX9_skipBlanks_71 : decode cX9_skipBlanks 71 = .ok (.if_icmp .eq 12, 3) := by decide +kernel
theorem d_cX9_skipBlanks_74 : decode cX9_skipBlanks 74 = .ok (.iload 4, 2) := by decide +kernel
theorem d_cX9_skipBlanks_76 : decode cX9_skipBlanks 76 = .ok (.bipush 32, 2) := by decide +kernel
theorem d_cX9_skipBlanks_78 : decode cX9_skipBlanks 78 = .ok (.if_icmp .eq 5, 3) := by decide +kernel
theorem d_cX9_skipBlanks_81 : decode cX9_skipBlanks 81 = .ok (.iload_n 3, 1) := by decide +kernel
theorem d_cX9_skipBlanks_82 : decode cX9_skipBlanks 82 = .ok (.ireturn, 1) := by decide +kernel
theorem d_cJ9_min_f86c9_0 : decode cJ9_min_f86c9 0 = .ok (.lload_n 0, 1) := by decide +kernel
theorem d_cJ9_min_f86c9_1 : decode cJ9_min_f86c9 1 = .ok (.lload_n 2, 1) := by decide +kernel
theorem d_cJ9_min_f86c9_2 : decode cJ9_min_f86c9 2 = .ok (.lcmp, 1) := by decide +kernel
theorem d_cJ9_min_f86c9_3 : decode cJ9_min_f86c9 3 = .ok (.ifCond .gt 7, 3) := by decide +kernel
theorem d_cJ9_min_f86c9_10 : decode cJ9_min_f86c9 10 = .ok (.lload_n 2, 1) := by decide +kernel
theorem d_cJ9_min_f86c9_11 : decode cJ9_min_f86c9 11 = .ok (.lreturn, 1) := by decide +kernel
theorem d_cJ9_min_f86c9_6 : decode cJ9_min_f86c9 6 = .ok (.lload_n 0, 1) := by decide +kernel
theorem d_cJ9_min_f86c9_7 : decode cJ9_min_f86c9 7 = .ok (.goto 4, 3) := by decide +kernel
theorem d_cX9_takeDigits_0 : decode cX9_takeDigits 0 = .ok (.lconst 0, 1) := by decide +kernel
theorem d_cX9_takeDigits_1 : decode cX9_takeDigits 1 = .ok (.lstore_n 2, 1) := by decide +kernel
theorem d_cX9_takeDigits_2 : decode cX9_takeDigits 2 = .ok (.iload_n 1, 1) := by decide +kernel
theorem d_cX9_takeDigits_3 : decode cX9_takeDigits 3 = .ok (.istore 4, 2) := by decide +kernel
theorem d_cX9_takeDigits_5 : decode cX9_takeDigits 5 = .ok (.iload 4, 2) := by decide +kernel
theorem d_cX9_takeDigits_7 : decode cX9_takeDigits 7 = .ok (.aload_n 0, 1) := by decide +kernel
theorem d_cX9_takeDigits_8 : decode cX9_takeDigits 8 = .ok (.getfield 9, 3) := by decide +kernel
theorem d_cX9_takeDigits_11 : decode cX9_takeDigits 11 = .ok (.invokevirtual 61, 3) := by decide +kernel
theorem d_cX9_takeDigits_14 : decode cX9_takeDigits 14 = .ok (.if_icmp .ge 51, 3) := by decide +kernel
theorem d_cX9_takeDigits_65 : decode cX9_takeDigits 65 = .ok (.aload_n 0, 1) := by decide +kernel
theorem d_cX9_takeDigits_66 : decode cX9_takeDigits 66 = .ok (.iload 4, 2) := by decide +kernel
theorem d_cX9_takeDigits_68 : decode cX9_takeDigits 68 = .ok (.putfield 25, 3) := by decide +kernel
theorem w_1_83 : (Jvm.Cond.fieldLink "SpillForge$Signs" (25 : Nat) "SpillForge$Signs" "behind" "I") ∈ gw := gw_1 83 rfl rfl
theorem d_cX9_takeDigits_71 : decode cX9_takeDigits 71 = .ok (.lload_n 2, 1) := by decide +kernel
theorem d_cX9_takeDigits_72 : decode cX9_takeDigits 72 = .ok (.lreturn, 1) := by decide +kernel
theorem d_cX9_takeDigits_17 : decode cX9_takeDigits 17 = .ok (.aload_n 0, 1) := by decide +kernel
theorem d_cX9_takeDigits_18 : decode cX9_takeDigits 18 = .ok (.getfield 9, 3) := by decide +kernel
theorem d_cX9_takeDigits_21 : decode cX9_takeDigits 21 = .ok (.iload 4, 2) := by decide +kernel
theorem d_cX9_takeDigits_23 : decode cX9_takeDigits 23 = .ok (.invokevirtual 35, 3) := by decide +kernel
theorem d_cX9_takeDigits_26 : decode cX9_takeDigits 26 = .ok (.invokestatic 40, 3) := by decide +kernel
theorem w_3_24 : (Jvm.Cond.methodLink "SpillForge$Signs" (40 : Nat) ({ cls := "SpillForge$Signs", name := "isDigit", desc := "(I)Z" } : Jvm.MethodName)) ∈ gw := gw_3 24 rfl rfl
theorem w_1_4 : (Jvm.Cond.initialized "SpillForge$Signs") ∈ gw := gw_1 4 rfl rfl
theorem w_3_26 : (Jvm.Cond.code ({ cls := "SpillForge$Signs", name := "isDigit", desc := "(I)Z" } : Jvm.MethodName) prog_11_method_15_code (1 : Nat) (Option.some Jvm.ClassFile.FieldType.boolean)) ∈ gw := gw_3 26 rfl rfl
theorem w_3_25 : (Jvm.Cond.static ({ cls := "SpillForge$Signs", name := "isDigit", desc := "(I)Z" } : Jvm.MethodName)) ∈ gw := gw_3 25 rfl rfl
theorem d_cX9_takeDigits_29 : decode cX9_takeDigits 29 = .ok (.ifCond .eq 36, 3) := by decide +kernel
theorem d_cX9_takeDigits_32 : decode cX9_takeDigits 32 = .ok (.lload_n 2, 1) := by decide +kernel
theorem d_cX9_takeDigits_33 : decode cX9_takeDigits 33 = .ok (.ldc2_w 69, 3) := by decide +kernel
theorem w_3_35 : (Jvm.Cond.constantLong "SpillForge$Signs" (69 : Nat) (10 : Int64)) ∈ gw := gw_3 35 rfl rfl
theorem d_cX9_takeDigits_36 : decode cX9_takeDigits 36 = .ok (.lmul, 1) := by decide +kernel
theorem d_cX9_takeDigits_37 : decode cX9_takeDigits 37 = .ok (.aload_n 0, 1) := by decide +kernel
theorem d_cX9_takeDigits_38 : decode cX9_takeDigits 38 = .ok (.getfield 9, 3) := by decide +kernel
theorem d_cX9_takeDigits_41 : decode cX9_takeDigits 41 = .ok (.iload 4, 2) := by decide +kernel
theorem d_cX9_takeDigits_43 : decode cX9_takeDigits 43 = .ok (.invokevirtual 35, 3) := by decide +kernel
theorem d_cX9_takeDigits_46 : decode cX9_takeDigits 46 = .ok (.i2l, 1) := by decide +kernel
theorem d_cX9_takeDigits_47 : decode cX9_takeDigits 47 = .ok (.ladd, 1) := by decide +kernel
theorem d_cX9_takeDigits_48 : decode cX9_takeDigits 48 = .ok (.ldc2_w 71, 3) := by decide +kernel
theorem w_3_36 : (Jvm.Cond.constantLong "SpillForge$Signs" (71 : Nat) (48 : Int64)) ∈ gw := gw_3 36 rfl rfl
theorem d_cX9_takeDigits_51 : decode cX9_takeDigits 51 = .ok (.lsub, 1) := by decide +kernel
theorem d_cX9_takeDigits_52 : decode cX9_takeDigits 52 = .ok (.ldc2_w 73, 3) := by decide +kernel
theorem w_3_37 : (Jvm.Cond.constantLong "SpillForge$Signs" (73 : Nat) (1099511627776 : Int64)) ∈ gw := gw_3 37 rfl rfl
theorem d_cX9_takeDigits_55 : decode cX9_takeDigits 55 = .ok (.invokestatic 75, 3) := by decide +kernel
theorem w_3_38 : (Jvm.Cond.methodLink "SpillForge$Signs" (75 : Nat) ({ cls := "java/lang/Math", name := "min", desc := "(JJ)J" } : Jvm.MethodName)) ∈ gw := gw_3 38 rfl rfl
theorem w_3_40 : (Jvm.Cond.code ({ cls := "java/lang/Math", name := "min", desc := "(JJ)J" } : Jvm.MethodName) prog_32_method_70_code (4 : Nat) (Option.some Jvm.ClassFile.FieldType.long)) ∈ gw := gw_3 40 rfl rfl
theorem w_3_39 : (Jvm.Cond.static ({ cls := "java/lang/Math", name := "min", desc := "(JJ)J" } : Jvm.MethodName)) ∈ gw := gw_3 39 rfl rfl
theorem d_cX9_takeDigits_58 : decode cX9_takeDigits 58 = .ok (.lstore_n 2, 1) := by decide +kernel
theorem d_cX9_takeDigits_59 : decode cX9_takeDigits 59 = .ok (.iinc 4 1, 3) := by decide +kernel
theorem d_cX9_takeDigits_62 : decode cX9_takeDigits 62 = .ok (.goto (-57), 3) := by decide +kernel
theorem d_cX9_takeNumber_0 : decode cX9_takeNumber 0 = .ok (.aload_n 0, 1) := by decide +kernel
theorem d_cX9_takeNumber_1 : decode cX9_takeNumber 1 = .ok (.iload_n 1, 1) := by decide +kernel
theorem d_cX9_takeNumber_2 : decode cX9_takeNumber 2 = .ok (.ifCond .eq 12, 3) := by decide +kernel
theorem d_cX9_takeNumber_14 : decode cX9_takeNumber 14 = .ok (.aload_n 0, 1) := by decide +kernel
theorem d_cX9_takeNumber_15 : decode cX9_takeNumber 15 = .ok (.getfield 22, 3) := by decide +kernel
theorem d_cX9_takeNumber_18 : decode cX9_takeNumber 18 = .ok (.invokevirtual 65, 3) := by decide +kernel
theorem w_3_31 : (Jvm.Cond.methodLink "SpillForge$Signs" (65 : Nat) ({ cls := "SpillForge$Signs", name := "takeDigits", desc := "(I)J" } : Jvm.MethodName)) ∈ gw := gw_3 31 rfl rfl
theorem w_3_34 : (Jvm.Cond.code ({ cls := "SpillForge$Signs", name := "takeDigits", desc := "(I)J" } : Jvm.MethodName) prog_11_method_10_code (5 : Nat) (Option.some Jvm.ClassFile.FieldType.long)) ∈ gw := gw_3 34 rfl rfl
theorem w_3_33 : (Jvm.Cond.instanceMethod ({ cls := "SpillForge$Signs", name := "takeDigits", desc := "(I)J" } : Jvm.MethodName)) ∈ gw := gw_3 33 rfl rfl
theorem w_p_2 : Cond.selects "SpillForge$Signs" ⟨"SpillForge$Signs", "takeDigits", "(I)J"⟩ ⟨"SpillForge$Signs", "takeDigits", "(I)J"⟩ ∈ gw := gw_p _ 2 rfl rfl rfl
theorem d_cX9_takeNumber_21 : decode cX9_takeNumber 21 = .ok (.lstore_n 2, 1) := by decide +kernel
theorem d_cX9_takeNumber_22 : decode cX9_takeNumber 22 = .ok (.iload_n 1, 1) := by decide +kernel
theorem d_cX9_takeNumber_23 : decode cX9_takeNumber 23 = .ok (.ifCond .eq 8, 3) := by decide +kernel
theorem d_cX9_takeNumber_31 : decode cX9_takeNumber 31 = .ok (.lload_n 2, 1) := by decide +kernel
theorem d_cX9_takeNumber_32 : decode cX9_takeNumber 32 = .ok (.lstore 4, 2) := by decide +kernel
theorem d_cX9_takeNumber_34 : decode cX9_takeNumber 34 = .ok (.aload_n 0, 1) := by decide +kernel
theorem d_cX9_takeNumber_35 : decode cX9_takeNumber 35 = .ok (.lload 4, 2) := by decide +kernel
theorem d_cX9_takeNumber_37 : decode cX9_takeNumber 37 = .ok (.l2i, 1) := by decide +kernel
theorem d_cX9_takeNumber_38 : decode cX9_takeNumber 38 = .ok (.putfield 19, 3) := by decide +kernel
theorem d_cX9_takeNumber_41 : decode cX9_takeNumber 41 = .ok (.aload_n 0, 1) := by decide +kernel
theorem d_cX9_takeNumber_42 : decode cX9_takeNumber 42 = .ok (.aload_n 0, 1) := by decide +kernel
theorem d_cX9_takeNumber_43 : decode cX9_takeNumber 43 = .ok (.getfield 19, 3) := by decide +kernel
theorem d_cX9_takeNumber_46 : decode cX9_takeNumber 46 = .ok (.i2l, 1) := by decide +kernel
theorem d_cX9_takeNumber_47 : decode cX9_takeNumber 47 = .ok (.lload 4, 2) := by decide +kernel
theorem d_cX9_takeNumber_49 : decode cX9_takeNumber 49 = .ok (.lcmp, 1) := by decide +kernel
theorem d_cX9_takeNumber_50 : decode cX9_takeNumber 50 = .ok (.ifCond .ne 7, 3) := by decide +kernel
theorem d_cX9_takeNumber_57 : decode cX9_takeNumber 57 = .ok (.iconst 0, 1) := by decide +kernel
theorem d_cX9_takeNumber_58 : decode cX9_takeNumber 58 = .ok (.putfield 15, 3) := by decide +kernel
theorem d_cX9_takeNumber_61 : decode cX9_takeNumber 61 = .ok (.return_, 1) := by decide +kernel
theorem d_cX9_takeNumber_53 : decode cX9_takeNumber 53 = .ok (.iconst 4, 1) := by decide +kernel
theorem d_cX9_takeNumber_54 : decode cX9_takeNumber 54 = .ok (.goto 4, 3) := by decide +kernel
theorem d_cX9_takeNumber_5 : decode cX9_takeNumber 5 = .ok (.aload_n 0, 1) := by decide +kernel
theorem d_cX9_takeNumber_6 : decode cX9_takeNumber 6 = .ok (.getfield 22, 3) := by decide +kernel
theorem d_cX9_takeNumber_9 : decode cX9_takeNumber 9 = .ok (.iconst 1, 1) := by decide +kernel
theorem d_cX9_takeNumber_10 : decode cX9_takeNumber 10 = .ok (.iadd, 1) := by decide +kernel
theorem d_cX9_takeNumber_11 : decode cX9_takeNumber 11 = .ok (.goto 7, 3) := by decide +kernel
theorem d_cX9_takeNumber_26 : decode cX9_takeNumber 26 = .ok (.lload_n 2, 1) := by decide +kernel
theorem d_cX9_takeNumber_27 : decode cX9_takeNumber 27 = .ok (.lneg, 1) := by decide +kernel
theorem d_cX9_takeNumber_28 : decode cX9_takeNumber 28 = .ok (.goto 4, 3) := by decide +kernel
theorem d_cX9_takeNamed_0 : decode cX9_takeNamed 0 = .ok (.aload_n 0, 1) := by decide +kernel
theorem d_cX9_takeNamed_1 : decode cX9_takeNamed 1 = .ok (.aload_n 0, 1) := by decide +kernel
theorem d_cX9_takeNamed_2 : decode cX9_takeNamed 2 = .ok (.getfield 22, 3) := by decide +kernel
theorem d_cX9_takeNamed_5 : decode cX9_takeNamed 5 = .ok (.iconst 1, 1) := by decide +kernel
theorem d_cX9_takeNamed_6 : decode cX9_takeNamed 6 = .ok (.iadd, 1) := by decide +kernel
theorem d_cX9_takeNamed_7 : decode cX9_takeNamed 7 = .ok (.invokevirtual 65, 3) := by decide +kernel
theorem d_cX9_takeNamed_10 : decode cX9_takeNamed 10 = .ok (.lstore_n 3, 1) := by decide +kernel
theorem d_cX9_takeNamed_11 : decode cX9_takeNamed 11 = .ok (.aload_n 0, 1) := by decide +kernel
theorem d_cX9_takeNamed_12 : decode cX9_takeNamed 12 = .ok (.lload_n 3, 1) := by decide +kernel
theorem d_cX9_takeNamed_13 : decode cX9_takeNamed 13 = .ok (.l2i, 1) := by decide +kernel
theorem d_cX9_takeNamed_14 : decode cX9_takeNamed 14 = .ok (.putfield 19, 3) := by decide +kernel
theorem d_cX9_takeNamed_17 : decode cX9_takeNamed 17 = .ok (.aload_n 0, 1) := by decide +kernel
theorem d_cX9_takeNamed_18 : decode cX9_takeNamed 18 = .ok (.lload_n 3, 1) := by decide +kernel
theorem d_cX9_takeNamed_19 : decode cX9_takeNamed 19 = .ok (.iload_n 2, 1) := by decide +kernel
theorem d_cX9_takeNamed_20 : decode cX9_takeNamed 20 = .ok (.i2l, 1) := by decide +kernel
theorem d_cX9_takeNamed_21 : decode cX9_takeNamed 21 = .ok (.lcmp, 1) := by decide +kernel
theorem d_cX9_takeNamed_22 : decode cX9_takeNamed 22 = .ok (.ifCond .ge 7, 3) := by decide +kernel
theorem d_cX9_takeNamed_29 : decode cX9_takeNamed 29 = .ok (.iconst 0, 1) := by decide +kernel
theorem d_cX9_takeNamed_30 : decode cX9_takeNamed 30 = .ok (.putfield 15, 3) := by decide +kernel
theorem d_cX9_takeNamed_33 : decode cX9_takeNamed 33 = .ok (.return_, 1) := by decide +kernel
theorem d_cX9_takeNamed_25 : decode cX9_takeNamed 25 = .ok (.iload_n 1, 1) := by decide +kernel
theorem d_cX9_takeNamed_26 : decode cX9_takeNamed 26 = .ok (.goto 4, 3) := by decide +kernel
theorem d_cX0_clear_0 : decode cX0_clear 0 = .ok (.aload_n 0, 1) := by decide +kernel
theorem d_cX0_clear_1 : decode cX0_clear 1 = .ok (.iconst 0, 1) := by decide +kernel
theorem d_cX0_clear_2 : decode cX0_clear 2 = .ok (.putfield 45, 3) := by decide +kernel
theorem w_1_187 : (Jvm.Cond.fieldLink "SpillForge$Code" (45 : Nat) "SpillForge$Code" "blocks" "I") ∈ gw := gw_1 187 rfl rfl
theorem d_cX0_clear_5 : decode cX0_clear 5 = .ok (.aload_n 0, 1) := by decide +kernel
theorem d_cX0_clear_6 : decode cX0_clear 6 = .ok (.iconst 0, 1) := by decide +kernel
theorem d_cX0_clear_7 : decode cX0_clear 7 = .ok (.putfield 49, 3) := by decide +kernel
theorem w_1_197 : (Jvm.Cond.fieldLink "SpillForge$Code" (49 : Nat) "SpillForge$Code" "lines" "I") ∈ gw := gw_1 197 rfl rfl
theorem d_cX0_clear_10 : decode cX0_clear 10 = .ok (.aload_n 0, 1) := by decide +kernel
theorem d_cX0_clear_11 : decode cX0_clear 11 = .ok (.iconst 0, 1) := by decide +kernel
theorem d_cX0_clear_12 : decode cX0_clear 12 = .ok (.putfield 52, 3) := by decide +kernel
theorem w_1_200 : (Jvm.Cond.fieldLink "SpillForge$Code" (52 : Nat) "SpillForge$Code" "isFull" "Z") ∈ gw := gw_1 200 rfl rfl
theorem d_cX0_clear_15 : decode cX0_clear 15 = .ok (.return_, 1) := by decide +kernel
abbrev ky_5_Tape_size : gKey := (cX10_size, 1, yX10_size.cls, (some FieldType.int), [], yX10_size.name, fun _ _ => True)
abbrev po_5_Tape_size (I : FieldType → ClassId) (q1 : Nat) (q2 : Nat) (p3 : Int32) (f4 : Nat → Int32) : Option Value → va_W → Prop := fun r w => r = some (.int p3) ∧ w = [(q1, .inr (15, [.ref q2, .int p3])), (q2, .inl (I .byte, 8192, .inl f4))]
set_option maxRecDepth 100000 in
set_option maxHeartbeats 4000000 in
theorem ct_5_Tape_size (l : Launch) (hl0 : l.stackTraces = false) (D : va_G) (I : FieldType → ClassId) (q1 : Nat) (q2 : Nat) (p3 : Int32) (f4 : Nat → Int32) (bp3 : gB p3 0 8192) (bf4 : gF f4 (-128) 127) : Ct (gV D I) l yX10_size cX10_size 1 (some FieldType.int) 0 0 0 0 [.ref q1] [(q1, .inr (15, [.ref q2, .int p3])), (q2, .inl (I .byte, 8192, .inl f4))] (po_5_Tape_size I q1 q2 p3 f4) gN := by
  refine Ct_of hl0 (by decide) (Nat.le_of_ble_eq_true rfl) ?_
  refine G_aload_n 0 d_cX10_size_0 rfl ?_
  refine G_getf 0 1 d_cX10_size_1 rfl (gk_X10 D I) (Nat.le_of_ble_eq_true rfl) w_1_60 rfl ?_
  exact G_iret d_cX10_size_4 rfl (Nat.le_of_ble_eq_true rfl) (Nat.le_of_ble_eq_true rfl) ⟨rfl, rfl⟩
/- tr_Tape_hasRoom: result -/
def tr_Tape_hasRoom (a1 : Int32) (Tape_size : Int32) (o1 : Int32) : Prop := ∀ R : (Int32) → Prop,
  (∀ (x1 : Int32), x1.toInt = Tape_size.toInt + a1.toInt → 8192 < x1.toInt → R (0 : Int32)) →
  (∀ (x1 : Int32), x1.toInt = Tape_size.toInt + a1.toInt → x1.toInt ≤ 8192 → R (1 : Int32)) →
  R o1
abbrev ky_11_Tape_hasRoom : gKey := (cX10_hasRoom, 2, yX10_hasRoom.cls, (some FieldType.boolean), [], yX10_hasRoom.name, fun _ _ => True)
abbrev po_11_Tape_hasRoom (I : FieldType → ClassId) (q6 : Nat) (q7 : Nat) (p8 : Int32) (p9 : Int32) (f10 : Nat → Int32) : Option Value → va_W → Prop := fun r w => ∃ (o16 : Int32), r = some (.int o16) ∧ w = [(q6, .inr (15, [.ref q7, .int p9])), (q7, .inl (I .byte, 8192, .inl f10))] ∧ gB o16 0 1 ∧ ((o16.toInt = 1 ∧ p9.toInt + p8.toInt ≤ 8192) ∨ (o16.toInt = 0 ∧ 8192 < p9.toInt + p8.toInt)) ∧ tr_Tape_hasRoom p8 p9 o16
set_option maxRecDepth 100000 in
set_option maxHeartbeats 4000000 in
theorem ct_11_Tape_hasRoom (l : Launch) (hl0 : l.stackTraces = false) (D : va_G) (I : FieldType → ClassId) (q6 : Nat) (q7 : Nat) (p8 : Int32) (p9 : Int32) (f10 : Nat → Int32) (bp8 : gB p8 0 8192) (bp9 : gB p9 0 8192) (bf10 : gF f10 (-128) 127) : Ct (gV D I) l yX10_hasRoom cX10_hasRoom 2 (some FieldType.boolean) 0 0 0 0 [.ref q6, .int p8] [(q6, .inr (15, [.ref q7, .int p9])), (q7, .inl (I .byte, 8192, .inl f10))] (po_11_Tape_hasRoom I q6 q7 p8 p9 f10) gN := by
  refine Ct_of hl0 (by decide) (Nat.le_of_ble_eq_true rfl) ?_
  refine G_aload_n 0 d_cX10_hasRoom_0 rfl ?_
  refine G_getf 0 1 d_cX10_hasRoom_1 rfl (gk_X10 D I) (Nat.le_of_ble_eq_true rfl) w_1_60 rfl ?_
  refine G_iload_n 1 d_cX10_hasRoom_4 rfl ?_
  refine G_iadd d_cX10_hasRoom_5 (G_nam fun z12 hz12 => ?_)
  have ez12 : z12.toInt = p9.toInt + p8.toInt := by rw [gI_add hz12 bp9 bp8 (by decide) (by decide)]
  have bz12 : gB z12 0 16384 := gB_add (gI_add hz12 bp9 bp8 (by decide) (by decide)) bp9 bp8 (by decide) (by decide)
  refine G_aload_n 0 d_cX10_hasRoom_6 rfl ?_
  refine G_getf 0 0 d_cX10_hasRoom_7 rfl (gk_X10 D I) (Nat.le_of_ble_eq_true rfl) w_1_59 rfl ?_
  refine G_alen 8192 1 1 d_cX10_hasRoom_10 rfl rfl rfl ?_
  refine G_icmp_gt 18 d_cX10_hasRoom_11 (by decide +kernel) (fun hc13 => ?_) (fun hc13 => ?_)
  · have r14 : 8192 < z12.toInt := gj_ltL hc13 (show Int32.toInt 8192 = 8192 by decide)
    have bz12' : gB z12 8193 16384 := ⟨by omega, by omega⟩
    refine G_iconst 0 d_cX10_hasRoom_18 (by decide +kernel) ?_
    exact G_zret FieldType.boolean d_cX10_hasRoom_19 rfl rfl (Nat.le_of_ble_eq_true rfl) (Nat.le_of_ble_eq_true rfl) ⟨0, rfl, rfl, (gB_w (gBl (show Int32.toInt 0 = 0 by decide)) (by decide) (by decide)), (by have qa0 : Int32.toInt 0 = 0 := (by decide); omega), (fun R c1 c2 => c1 z12 ez12 r14)⟩
  · have r15 : z12.toInt ≤ 8192 := gj_nltL hc13 (show Int32.toInt 8192 = 8192 by decide)
    have bz12' : gB z12 0 8192 := ⟨by omega, by omega⟩
    refine G_iconst 1 d_cX10_hasRoom_14 (by decide +kernel) ?_
    refine G_goto 19 d_cX10_hasRoom_15 (by decide +kernel) ?_
    exact G_zret FieldType.boolean d_cX10_hasRoom_19 rfl rfl (Nat.le_of_ble_eq_true rfl) (Nat.le_of_ble_eq_true rfl) ⟨1, rfl, rfl, (gB_w (gBl (show Int32.toInt 1 = 1 by decide)) (by decide) (by decide)), (by have qa0 : Int32.toInt 1 = 1 := (by decide); omega), (fun R c1 c2 => c2 z12 ez12 r15)⟩
/- tr_Tape_cutTo: Tape_size -/
def tr_Tape_cutTo (a1 : Int32) (Tape_size : Int32) (o1 : Int32) : Prop := ∀ R : (Int32) → Prop,
  (∀ (x1 : Int32) (x2 : Int32), (a1.toInt ≥ x1.toInt ∧ Tape_size.toInt ≥ x1.toInt ∧ (x1.toInt = a1.toInt ∨ x1.toInt = Tape_size.toInt)) → (0 ≤ x2.toInt ∧ x1.toInt ≤ x2.toInt ∧ (x2.toInt = 0 ∨ x2.toInt = x1.toInt)) → R x2) →
  R o1
abbrev ky_22_Tape_cutTo : gKey := (cX10_cutTo, 2, yX10_cutTo.cls, none, [], yX10_cutTo.name, fun _ _ => True)
abbrev po_22_Tape_cutTo (I : FieldType → ClassId) (q17 : Nat) (q18 : Nat) (p19 : Int32) (p20 : Int32) (f21 : Nat → Int32) : Option Value → va_W → Prop := fun r w => ∃ (o25 : Int32), r = none ∧ w = [(q17, .inr (15, [.ref q18, .int o25])), (q18, .inl (I .byte, 8192, .inl f21))] ∧ gB o25 0 8192 ∧ (p19.toInt < 0 ∨ p20.toInt < p19.toInt ∨ o25.toInt = p19.toInt) ∧ tr_Tape_cutTo p19 p20 o25
set_option maxRecDepth 100000 in
set_option maxHeartbeats 4000000 in
theorem ct_22_Tape_cutTo (l : Launch) (hl0 : l.stackTraces = false) (D : va_G) (I : FieldType → ClassId) (q17 : Nat) (q18 : Nat) (p19 : Int32) (p20 : Int32) (f21 : Nat → Int32) (bp20 : gB p20 0 8192) (bf21 : gF f21 (-128) 127) : Ct (gV D I) l yX10_cutTo cX10_cutTo 2 none 1 15 0 0 [.ref q17, .int p19] [(q17, .inr (15, [.ref q18, .int p20])), (q18, .inl (I .byte, 8192, .inl f21))] (po_22_Tape_cutTo I q17 q18 p19 p20 f21) gN := by
  refine Ct_of hl0 (by decide) (Nat.le_of_ble_eq_true rfl) ?_
  have bp19 := gB_any p19
  refine G_aload_n 0 d_cX10_cutTo_0 rfl ?_
  refine G_iconst 0 d_cX10_cutTo_1 (by decide +kernel) ?_
  refine G_iload_n 1 d_cX10_cutTo_2 rfl ?_
  refine G_aload_n 0 d_cX10_cutTo_3 rfl ?_
  refine G_getf 0 1 d_cX10_cutTo_4 rfl (gk_X10 D I) (Nat.le_of_ble_eq_true rfl) w_1_60 rfl ?_
  refine G_mmin d_cX10_cutTo_7 w_3_226 w_3_227 w_1_6 w_3_228 (Nat.le_of_ble_eq_true rfl) (Nat.le_of_ble_eq_true rfl) (Nat.le_of_ble_eq_true rfl) (Nat.le_of_ble_eq_true rfl) (G_nam fun z23 hz23 => ?_)
  have ez23 : p19.toInt ≥ z23.toInt ∧ p20.toInt ≥ z23.toInt ∧ (z23.toInt = p19.toInt ∨ z23.toInt = p20.toInt) := by have := gI_min hz23; omega
  have bz23 : gB z23 (-2147483648) 8192 := ⟨by omega, by omega⟩
  refine G_mmax d_cX10_cutTo_10 w_3_229 w_1_140 w_1_6 w_1_141 (Nat.le_of_ble_eq_true rfl) (Nat.le_of_ble_eq_true rfl) (Nat.le_of_ble_eq_true rfl) (Nat.le_of_ble_eq_true rfl) (G_nam fun z24 hz24 => ?_)
  have ez24 : 0 ≤ z24.toInt ∧ z23.toInt ≤ z24.toInt ∧ (z24.toInt = 0 ∨ z24.toInt = z23.toInt) := by have := gI_max hz24; rw [show Int32.toInt 0 = 0 from by decide] at this; omega
  have bz24 : gB z24 0 8192 := ⟨by omega, by omega⟩
  refine G_putf (ws' := [(q17, .inr (15, [.ref q18, .int z24])), (q18, .inl (I .byte, 8192, .inl f21))]) 0 1 d_cX10_cutTo_13 rfl (gk_X10 D I) (Nat.le_of_ble_eq_true rfl) w_1_60 rfl rfl rfl (Nat.le_of_ble_eq_true rfl) rfl ?_
  exact G_vret d_cX10_cutTo_16 rfl (Nat.le_of_ble_eq_true rfl) (Nat.le_of_ble_eq_true rfl) ⟨z24, rfl, rfl, bz24, (by omega), (fun R c1 => c1 z23 z24 ez23 ez24)⟩
/- tr_Tape_byteAt: result -/
def tr_Tape_byteAt (a1 : Int32) (Tape_size : Int32) (Tape_bytes : Nat → Int32) (o1 : Int32) : Prop := ∀ R : (Int32) → Prop,
  (a1.toInt < 0 → R (-1 : Int32)) →
  (0 ≤ a1.toInt → Tape_size.toInt ≤ a1.toInt → R (-1 : Int32)) →
  (∀ (x1 : Int32) (x2 : Int32), 0 ≤ a1.toInt → a1.toInt < Tape_size.toInt → x1 = Tape_bytes a1.toNatClampNeg → gB x1 (-128) 127 → x2 = x1 &&& (255 : Int32) → R x2) →
  R o1
abbrev ky_31_Tape_byteAt : gKey := (cX10_byteAt, 2, yX10_byteAt.cls, (some FieldType.int), [], yX10_byteAt.name, fun _ _ => True)
abbrev po_31_Tape_byteAt (I : FieldType → ClassId) (q26 : Nat) (q27 : Nat) (p28 : Int32) (p29 : Int32) (f30 : Nat → Int32) : Option Value → va_W → Prop := fun r w => ∃ (o40 : Int32), r = some (.int o40) ∧ w = [(q26, .inr (15, [.ref q27, .int p29])), (q27, .inl (I .byte, 8192, .inl f30))] ∧ gB o40 (-1) 255 ∧ tr_Tape_byteAt p28 p29 f30 o40
set_option maxRecDepth 100000 in
set_option maxHeartbeats 4000000 in
theorem ct_31_Tape_byteAt (l : Launch) (hl0 : l.stackTraces = false) (D : va_G) (I : FieldType → ClassId) (q26 : Nat) (q27 : Nat) (p28 : Int32) (p29 : Int32) (f30 : Nat → Int32) (bp29 : gB p29 0 8192) (bf30 : gF f30 (-128) 127) : Ct (gV D I) l yX10_byteAt cX10_byteAt 2 (some FieldType.int) 0 0 0 0 [.ref q26, .int p28] [(q26, .inr (15, [.ref q27, .int p29])), (q27, .inl (I .byte, 8192, .inl f30))] (po_31_Tape_byteAt I q26 q27 p28 p29 f30) gN := by
  refine Ct_of hl0 (by decide) (Nat.le_of_ble_eq_true rfl) ?_
  have bp28 := gB_any p28
  refine G_iload_n 1 d_cX10_byteAt_0 rfl ?_
  refine G_if_lt 25 d_cX10_byteAt_1 (by decide +kernel) (fun hc32 => ?_) (fun hc32 => ?_)
  · have r33 : p28.toInt < 0 := gj_lt hc32 (show Int32.toInt 0 = 0 by decide)
    have bp28' : gB p28 (-2147483648) (-1) := ⟨by omega, by omega⟩
    refine G_iconst (-1) d_cX10_byteAt_25 (by decide +kernel) ?_
    exact G_iret d_cX10_byteAt_26 rfl (Nat.le_of_ble_eq_true rfl) (Nat.le_of_ble_eq_true rfl) ⟨(-1), rfl, rfl, (gB_w (gBl (show Int32.toInt (-1) = (-1) by decide)) (by decide) (by decide)), (fun R c1 c2 c3 => c1 r33)⟩
  · have r34 : 0 ≤ p28.toInt := gj_nlt hc32 (show Int32.toInt 0 = 0 by decide)
    have bp28' : gB p28 0 2147483647 := ⟨by omega, by omega⟩
    refine G_iload_n 1 d_cX10_byteAt_4 rfl ?_
    refine G_aload_n 0 d_cX10_byteAt_5 rfl ?_
    refine G_getf 0 1 d_cX10_byteAt_6 rfl (gk_X10 D I) (Nat.le_of_ble_eq_true rfl) w_1_60 rfl ?_
    refine G_icmp_ge 25 d_cX10_byteAt_9 (by decide +kernel) (fun hc35 => ?_) (fun hc35 => ?_)
    · have r36 : p29.toInt ≤ p28.toInt := gC_le hc35
      refine G_iconst (-1) d_cX10_byteAt_25 (by decide +kernel) ?_
      exact G_iret d_cX10_byteAt_26 rfl (Nat.le_of_ble_eq_true rfl) (Nat.le_of_ble_eq_true rfl) ⟨(-1), rfl, rfl, (gB_w (gBl (show Int32.toInt (-1) = (-1) by decide)) (by decide) (by decide)), (fun R c1 c2 c3 => c2 r34 r36)⟩
    · have r37 : p28.toInt < p29.toInt := gC_nle hc35
      have bp28'' : gB p28 0 8191 := ⟨by omega, by omega⟩
      have bp29' : gB p29 1 8192 := ⟨by omega, by omega⟩
      refine G_aload_n 0 d_cX10_byteAt_12 rfl ?_
      refine G_getf 0 0 d_cX10_byteAt_13 rfl (gk_X10 D I) (Nat.le_of_ble_eq_true rfl) w_1_59 rfl ?_
      refine G_iload_n 1 d_cX10_byteAt_16 rfl ?_
      refine G_bald 1 1 d_cX10_byteAt_17 rfl rfl (gB_in bp28'' (by decide) (by decide)) (G_nam fun z38 hz38 => ?_)
      have bz38 : gB z38 (-128) 127 := by rw [hz38]; exact bf30 _
      refine G_sipush 255 d_cX10_byteAt_18 (by decide +kernel) ?_
      refine G_iand d_cX10_byteAt_21 (G_nam fun z39 hz39 => ?_)
      have bz39 : gB z39 0 255 := gB_and hz39 (gBl (show Int32.toInt 255 = 255 by decide)) (by decide)
      refine G_goto 26 d_cX10_byteAt_22 (by decide +kernel) ?_
      exact G_iret d_cX10_byteAt_26 rfl (Nat.le_of_ble_eq_true rfl) (Nat.le_of_ble_eq_true rfl) ⟨z39, rfl, rfl, (gB_w bz39 (by decide) (by decide)), (fun R c1 c2 c3 => c3 z38 z39 r34 r37 hz38 bz38 hz39)⟩
/- tl_Tape_addInt_3: l2, Tape_size, Tape_bytes; out: Tape_size, Tape_bytes -/
def tl_Tape_addInt_3 (a1 : Int32) (s1 : Int32) (s2 : Int32) (s3 : Nat → Int32) (k : Nat) (e1 : Int32) (e2 : Nat → Int32) : Prop := ∀ R : (Int32) → (Int32) → (Nat → Int32) → Nat → (Int32) → (Nat → Int32) → Prop,
  (∀ (l2_1 : Int32) (Tape_size_1 : Int32) (Tape_bytes_1 : Nat → Int32), gB l2_1 (-8) 24 → gB Tape_size_1 0 8192 → l2_1.toInt < 0 → R l2_1 Tape_size_1 Tape_bytes_1 48 Tape_size_1 Tape_bytes_1) →
  (∀ (l2_1 : Int32) (Tape_size_1 : Int32) (Tape_bytes_1 : Nat → Int32), gB l2_1 (-8) 24 → gB Tape_size_1 0 8192 → 0 ≤ l2_1.toInt → 8192 ≤ Tape_size_1.toInt → R l2_1 Tape_size_1 Tape_bytes_1 48 Tape_size_1 Tape_bytes_1) →
  (∀ (l2_1 : Int32) (Tape_size_1 : Int32) (Tape_bytes_1 : Nat → Int32) (x1 : Int32) (x2 : Int32) (x3 : Nat → Int32) (x4 : Int32) (x5 : Int32) (k : Nat) (e1 : Int32) (e2 : Nat → Int32), gB l2_1 (-8) 24 → gB Tape_size_1 0 8192 → 0 ≤ l2_1.toInt → Tape_size_1.toInt < 8192 → x1 = a1 >>> (l2_1 &&& 31) → x2 = x1.toInt8.toInt32 → x3 = upd Tape_bytes_1 Tape_size_1.toNatClampNeg (vp_nar .byte x2) → x4.toInt = Tape_size_1.toInt + 1 → x5.toInt = l2_1.toInt + (-8) → R x5 x4 x3 k e1 e2 → R l2_1 Tape_size_1 Tape_bytes_1 k e1 e2) →
  R s1 s2 s3 k e1 e2
/- tr_Tape_addInt: Tape_size, Tape_bytes -/
def tr_Tape_addInt (a1 : Int32) (Tape_size : Int32) (Tape_bytes : Nat → Int32) (o1 : Int32) (o2 : Nat → Int32) : Prop := ∀ R : (Int32) → (Nat → Int32) → Prop,
  (∀ (x1 : Int32) (x2 : Nat → Int32), tl_Tape_addInt_3 a1 (24 : Int32) Tape_size Tape_bytes 48 x1 x2 → R x1 x2) →
  R o1 o2
abbrev ky_48_Tape_addInt : gKey := (cX10_addInt, 3, yX10_addInt.cls, none, [], yX10_addInt.name, fun _ _ => True)
abbrev po_48_Tape_addInt (I : FieldType → ClassId) (q41 : Nat) (q42 : Nat) (p43 : Int32) (p44 : Int32) (f45 : Nat → Int32) (N47 : Int) : Option Value → va_W → Prop := fun r w => ∃ (o134 : Int32) (f135 : Nat → Int32), r = none ∧ w = [(q41, .inr (15, [.ref q42, .int o134])), (q42, .inl (I .byte, 8192, .inl f135))] ∧ gB o134 0 8192 ∧ gF f135 (-128) 127 ∧ (8188 < N47 ∨ o134.toInt = N47 + 4) ∧ tr_Tape_addInt p43 p44 f45 o134 f135
set_option maxRecDepth 100000 in
set_option maxHeartbeats 4000000 in
theorem ct_48_Tape_addInt (l : Launch) (hl0 : l.stackTraces = false) (D : va_G) (I : FieldType → ClassId) (q41 : Nat) (q42 : Nat) (p43 : Int32) (p44 : Int32) (f45 : Nat → Int32) (N47 : Int) (bp44 : gB p44 0 8192) (bf45 : gF f45 (-128) 127) (x46 : p44.toInt = N47) : Ct (gV D I) l yX10_addInt cX10_addInt 3 none 0 0 0 0 [.ref q41, .int p43] [(q41, .inr (15, [.ref q42, .int p44])), (q42, .inl (I .byte, 8192, .inl f45))] (po_48_Tape_addInt I q41 q42 p43 p44 f45 N47) gN := by
  refine Ct_of hl0 (by decide) (Nat.le_of_ble_eq_true rfl) ?_
  have bp43 := gB_any p43
  refine G_bipush 24 d_cX10_addInt_0 (by decide +kernel) ?_
  refine G_istore_n (L' := [(2, .int 24), (0, .ref q41), (1, .int p43)]) d_cX10_addInt_2 (Nat.le_of_ble_eq_true rfl) rfl ?_
  have hlp3_120 : ∀ (n3_120 : Nat) (g117 : Int32) (g118 : Int32) (f119 : Nat → Int32), gB g117 (-8) 24 → gB g118 0 8192 → gF f119 (-128) 127 → 8 * (g118.toInt - N47) + g117.toInt = 24 → (∀ (k : Nat) (e1 : Int32) (e2 : Nat → Int32), tl_Tape_addInt_3 p43 g117 g118 f119 k e1 e2 → tl_Tape_addInt_3 p43 (24 : Int32) p44 f45 k e1 e2) → ((g117.toInt : Int) - (-9)).toNat < n3_120 → G (gV D I) l (gRm 0 0 0 0) (gM (gV D I) (po_48_Tape_addInt I q41 q42 p43 p44 f45 N47) gN 0 0) ky_48_Tape_addInt 3 [(2, .int g117), (0, .ref q41), (1, .int p43)] [] [(q41, .inr (15, [.ref q42, .int g118])), (q42, .inl (I .byte, 8192, .inl f119))] 0 0 := by
    intro n3_120
    induction n3_120 with
    | zero => intro g117 g118 f119 bg117 bg118 bf119 x120 kt3_120 hm3_120; exact absurd hm3_120 (Nat.not_lt_zero _)
    | succ n3_120 ih3_120 =>
      intro g117 g118 f119 bg117 bg118 bf119 x120 kt3_120 hm3_120
      refine G_iload_n 0 d_cX10_addInt_3 rfl ?_
      refine G_if_lt 48 d_cX10_addInt_4 (by decide +kernel) (fun hc121 => ?_) (fun hc121 => ?_)
      · have r122 : g117.toInt < 0 := gj_lt hc121 (show Int32.toInt 0 = 0 by decide)
        have bg117' : gB g117 (-8) (-1) := ⟨by omega, by omega⟩
        have hx123 : tl_Tape_addInt_3 p43 (24 : Int32) p44 f45 48 g118 f119 := kt3_120 48 g118 f119 (fun R c1 c2 c3 => c1 g117 g118 f119 bg117 bg118 r122)
        exact G_vret d_cX10_addInt_48 rfl (Nat.le_of_ble_eq_true rfl) (Nat.le_of_ble_eq_true rfl) ⟨g118, f119, rfl, rfl, bg118, bf119, (by omega), (fun R c1 => c1 g118 f119 hx123)⟩
      · have r124 : 0 ≤ g117.toInt := gj_nlt hc121 (show Int32.toInt 0 = 0 by decide)
        have bg117' : gB g117 0 24 := ⟨by omega, by omega⟩
        refine G_aload_n 1 d_cX10_addInt_7 rfl ?_
        refine G_getf 0 1 d_cX10_addInt_8 rfl (gk_X10 D I) (Nat.le_of_ble_eq_true rfl) w_1_60 rfl ?_
        refine G_aload_n 1 d_cX10_addInt_11 rfl ?_
        refine G_getf 0 0 d_cX10_addInt_12 rfl (gk_X10 D I) (Nat.le_of_ble_eq_true rfl) w_1_59 rfl ?_
        refine G_alen 8192 1 1 d_cX10_addInt_15 rfl rfl rfl ?_
        refine G_icmp_ge 48 d_cX10_addInt_16 (by decide +kernel) (fun hc125 => ?_) (fun hc125 => ?_)
        · have r126 : 8192 ≤ g118.toInt := gj_leL hc125 (show Int32.toInt 8192 = 8192 by decide)
          have bg118' : gB g118 8192 8192 := ⟨by omega, by omega⟩
          have hx127 : tl_Tape_addInt_3 p43 (24 : Int32) p44 f45 48 g118 f119 := kt3_120 48 g118 f119 (fun R c1 c2 c3 => c2 g117 g118 f119 bg117 bg118 r124 r126)
          exact G_vret d_cX10_addInt_48 rfl (Nat.le_of_ble_eq_true rfl) (Nat.le_of_ble_eq_true rfl) ⟨g118, f119, rfl, rfl, (gB_w bg118' (by decide) (by decide)), bf119, (by omega), (fun R c1 => c1 g118 f119 hx127)⟩
        · have r128 : g118.toInt < 8192 := gj_nleL hc125 (show Int32.toInt 8192 = 8192 by decide)
          have bg118' : gB g118 0 8191 := ⟨by omega, by omega⟩
          refine G_aload_n 1 d_cX10_addInt_19 rfl ?_
          refine G_getf 0 0 d_cX10_addInt_20 rfl (gk_X10 D I) (Nat.le_of_ble_eq_true rfl) w_1_59 rfl ?_
          refine G_aload_n 1 d_cX10_addInt_23 rfl ?_
          refine G_getf 0 1 d_cX10_addInt_24 rfl (gk_X10 D I) (Nat.le_of_ble_eq_true rfl) w_1_60 rfl ?_
          refine G_iload_n 2 d_cX10_addInt_27 rfl ?_
          refine G_iload_n 0 d_cX10_addInt_28 rfl ?_
          refine G_ishr d_cX10_addInt_29 (G_nam fun z129 hz129 => ?_)
          have bz129 : gB z129 (-2147483648) 2147483647 := gB_any z129
          refine G_i2b d_cX10_addInt_30 (G_nam fun z130 hz130 => ?_)
          have bz130 : gB z130 (-128) 127 := gB_i2b hz130
          refine G_bastN 1 1 d_cX10_addInt_31 rfl rfl (gB_in bg118' (by decide) (by decide)) (fun f131 hf131 => ?_)
          refine G_ws (ws' := [(q41, .inr (15, [.ref q42, .int g118])), (q42, .inl (I .byte, 8192, .inl f131))]) (cs' := 0) (sl' := 0) rfl rfl rfl ?_
          have bf131 : gF f131 (-128) 127 := gF_upd hf131 bf119 gB_byte
          refine G_aload_n 1 d_cX10_addInt_32 rfl ?_
          refine G_dup d_cX10_addInt_33 rfl ?_
          refine G_getf 0 1 d_cX10_addInt_34 rfl (gk_X10 D I) (Nat.le_of_ble_eq_true rfl) w_1_60 rfl ?_
          refine G_iconst 1 d_cX10_addInt_37 (by decide +kernel) ?_
          refine G_iadd d_cX10_addInt_38 (G_nam fun z132 hz132 => ?_)
          have ez132 : z132.toInt = g118.toInt + 1 := by rw [gI_add hz132 bg118' (gBl (show Int32.toInt 1 = 1 by decide)) (by decide) (by decide), show Int32.toInt 1 = 1 from by decide]
          have bz132 : gB z132 1 8192 := gB_add (gI_add hz132 bg118' (gBl (show Int32.toInt 1 = 1 by decide)) (by decide) (by decide)) bg118' (gBl (show Int32.toInt 1 = 1 by decide)) (by decide) (by decide)
          refine G_putf (ws' := [(q41, .inr (15, [.ref q42, .int z132])), (q42, .inl (I .byte, 8192, .inl f131))]) 0 1 d_cX10_addInt_39 rfl (gk_X10 D I) (Nat.le_of_ble_eq_true rfl) w_1_60 rfl rfl rfl (Nat.le_of_ble_eq_true rfl) rfl ?_
          obtain ⟨z133, hz133⟩ : ∃ z : Int32, z = g117 + Int32.ofInt (-8) := ⟨_, rfl⟩
          have ez133 : z133.toInt = g117.toInt + (-8) := gI_inc hz133 (by decide) bg117' (by decide) (by decide)
          have bz133 : gB z133 (-8) 16 := ⟨by omega, by omega⟩
          refine G_iinc (L' := [(2, .int z133), (0, .ref q41), (1, .int p43)]) z133 0 d_cX10_addInt_42 rfl hz133.symm (Nat.le_of_ble_eq_true rfl) rfl ?_
          refine G_goto 3 d_cX10_addInt_45 (by decide +kernel) ?_
          exact ih3_120 z133 z132 f131 (gB_w bz133 (by decide) (by decide)) (gB_w bz132 (by decide) (by decide)) bf131 (by omega) (fun k e1 e2 ht => kt3_120 k e1 e2 (fun R c1 c2 c3 => c3 g117 g118 f119 z129 z130 f131 z132 z133 k e1 e2 bg117 bg118 r124 r128 hz129 hz130 hf131 ez132 ez133 (ht R c1 c2 c3))) (by omega)
  exact hlp3_120 (((24 : Int) - (-9)).toNat + 1) 24 p44 f45 (gB_w (gBl (show Int32.toInt 24 = 24 by decide)) (by decide) (by decide)) bp44 bf45 (by have qa0 : Int32.toInt 24 = 24 := (by decide); omega) (fun k e1 e2 ht => ht) (Nat.lt_succ_self _)
/- tl_Tape_intAt_4: l3, l2; out: l2 -/
def tl_Tape_intAt_4 (a1 : Int32) (Tape_size : Int32) (Tape_bytes : Nat → Int32) (s1 : Int32) (s2 : Int32) (k : Nat) (e1 : Int32) : Prop := ∀ R : (Int32) → (Int32) → Nat → (Int32) → Prop,
  (∀ (l3_1 : Int32) (l2_1 : Int32), gB l3_1 0 4 → 4 ≤ l3_1.toInt → R l3_1 l2_1 32 l2_1) →
  (∀ (l3_1 : Int32) (l2_1 : Int32) (x1 : Int32) (x2 : Int32) (x3 : Int32) (x4 : Int32) (x5 : Int32) (x6 : Int32) (k : Nat) (e1 : Int32), gB l3_1 0 4 → l3_1.toInt < 4 → x1 = l2_1 <<< ((8 : Int32) &&& 31) → x2 = a1 + l3_1 → gB x3 (-1) 255 → tr_Tape_byteAt x2 Tape_size Tape_bytes x3 → x4 = x3 &&& (255 : Int32) → x5 = x1 ||| x4 → x6.toInt = l3_1.toInt + 1 → R x6 x5 k e1 → R l3_1 l2_1 k e1) →
  R s1 s2 k e1
/- tr_Tape_intAt: result -/
def tr_Tape_intAt (a1 : Int32) (Tape_size : Int32) (Tape_bytes : Nat → Int32) (o1 : Int32) : Prop := ∀ R : (Int32) → Prop,
  (∀ (x1 : Int32), tl_Tape_intAt_4 a1 Tape_size Tape_bytes (0 : Int32) (0 : Int32) 32 x1 → R x1) →
  R o1
abbrev ky_141_Tape_intAt : gKey := (cX10_intAt, 4, yX10_intAt.cls, (some FieldType.int), [], yX10_intAt.name, fun _ _ => True)
abbrev po_141_Tape_intAt (I : FieldType → ClassId) (q136 : Nat) (q137 : Nat) (p138 : Int32) (p139 : Int32) (f140 : Nat → Int32) : Option Value → va_W → Prop := fun r w => ∃ (o212 : Int32), r = some (.int o212) ∧ w = [(q136, .inr (15, [.ref q137, .int p139])), (q137, .inl (I .byte, 8192, .inl f140))] ∧ gB o212 (-2147483648) 2147483647 ∧ tr_Tape_intAt p138 p139 f140 o212
set_option maxRecDepth 100000 in
set_option maxHeartbeats 4000000 in
theorem ct_141_Tape_intAt (l : Launch) (hl0 : l.stackTraces = false) (D : va_G) (I : FieldType → ClassId) (q136 : Nat) (q137 : Nat) (p138 : Int32) (p139 : Int32) (f140 : Nat → Int32) (bp139 : gB p139 0 8192) (bf140 : gF f140 (-128) 127) : Ct (gV D I) l yX10_intAt cX10_intAt 4 (some FieldType.int) 1 21 0 0 [.ref q136, .int p138] [(q136, .inr (15, [.ref q137, .int p139])), (q137, .inl (I .byte, 8192, .inl f140))] (po_141_Tape_intAt I q136 q137 p138 p139 f140) gN := by
  refine Ct_of hl0 (by decide) (Nat.le_of_ble_eq_true rfl) ?_
  have bp138 := gB_any p138
  refine G_iconst 0 d_cX10_intAt_0 (by decide +kernel) ?_
  refine G_istore_n (L' := [(2, .int 0), (0, .ref q136), (1, .int p138)]) d_cX10_intAt_1 (Nat.le_of_ble_eq_true rfl) rfl ?_
  refine G_iconst 0 d_cX10_intAt_2 (by decide +kernel) ?_
  refine G_istore_n (L' := [(3, .int 0), (2, .int 0), (0, .ref q136), (1, .int p138)]) d_cX10_intAt_3 (Nat.le_of_ble_eq_true rfl) rfl ?_
  have hlp4_200 : ∀ (n4_200 : Nat) (g199 : Int32) (g200 : Int32), gB g199 0 4 → gB g200 (-2147483648) 2147483647 → (∀ (k : Nat) (e1 : Int32), tl_Tape_intAt_4 p138 p139 f140 g199 g200 k e1 → tl_Tape_intAt_4 p138 p139 f140 (0 : Int32) (0 : Int32) k e1) → ((5 : Int) - g199.toInt).toNat < n4_200 → G (gV D I) l (gRm 1 21 0 0) (gM (gV D I) (po_141_Tape_intAt I q136 q137 p138 p139 f140) gN 0 0) ky_141_Tape_intAt 4 [(3, .int g199), (2, .int g200), (0, .ref q136), (1, .int p138)] [] [(q136, .inr (15, [.ref q137, .int p139])), (q137, .inl (I .byte, 8192, .inl f140))] 0 0 := by
    intro n4_200
    induction n4_200 with
    | zero => intro g199 g200 bg199 bg200 kt4_200 hm4_200; exact absurd hm4_200 (Nat.not_lt_zero _)
    | succ n4_200 ih4_200 =>
      intro g199 g200 bg199 bg200 kt4_200 hm4_200
      refine G_iload_n 0 d_cX10_intAt_4 rfl ?_
      refine G_iconst 4 d_cX10_intAt_5 (by decide +kernel) ?_
      refine G_icmp_ge 32 d_cX10_intAt_6 (by decide +kernel) (fun hc201 => ?_) (fun hc201 => ?_)
      · have r202 : 4 ≤ g199.toInt := gj_leL hc201 (show Int32.toInt 4 = 4 by decide)
        have bg199' : gB g199 4 4 := ⟨by omega, by omega⟩
        have hx203 : tl_Tape_intAt_4 p138 p139 f140 (0 : Int32) (0 : Int32) 32 g200 := kt4_200 32 g200 (fun R c1 c2 => c1 g199 g200 bg199 r202)
        refine G_iload_n 1 d_cX10_intAt_32 rfl ?_
        exact G_iret d_cX10_intAt_33 rfl (Nat.le_of_ble_eq_true rfl) (Nat.le_of_ble_eq_true rfl) ⟨g200, rfl, rfl, bg200, (fun R c1 => c1 g200 hx203)⟩
      · have r204 : g199.toInt < 4 := gj_nleL hc201 (show Int32.toInt 4 = 4 by decide)
        have bg199' : gB g199 0 3 := ⟨by omega, by omega⟩
        refine G_iload_n 1 d_cX10_intAt_9 rfl ?_
        refine G_bipush 8 d_cX10_intAt_10 (by decide +kernel) ?_
        refine G_ishl d_cX10_intAt_12 (G_nam fun z205 hz205 => ?_)
        have bz205 : gB z205 (-2147483648) 2147483647 := gB_any z205
        refine G_aload_n 2 d_cX10_intAt_13 rfl ?_
        refine G_iload_n 3 d_cX10_intAt_14 rfl ?_
        refine G_iload_n 0 d_cX10_intAt_15 rfl ?_
        refine G_iadd d_cX10_intAt_16 (G_nam fun z206 hz206 => ?_)
        have bz206 : gB z206 (-2147483648) 2147483647 := gB_any z206
        refine G_callV (As := [.int z206]) (wr := []) (gV_ok D I) (ct_31_Tape_byteAt l hl0 D I q136 q137 z206 p139 f140 bp139 bf140) d_cX10_intAt_17 ⟨w_4_182, w_1_2, w_3_23, by decide, rfl, (Nat.le_of_ble_eq_true rfl), (Nat.le_of_ble_eq_true rfl)⟩ w_3_21 w_3_22 0 rfl rfl [0, 1] [] rfl rfl rfl rfl (by decide) (Nat.le_of_ble_eq_true rfl) (Nat.le_of_ble_eq_true rfl) (Nat.le_of_ble_eq_true rfl) (fun r w hp => ?_) (fun _ _ _ z => z.elim)
        obtain ⟨o207, rfl, rfl, bo207, ht208⟩ := hp
        change G _ _ _ _ _ _ _ (.int o207 :: _) _ _ _
        refine G_ws (ws' := [(q136, .inr (15, [.ref q137, .int p139])), (q137, .inl (I .byte, 8192, .inl f140))]) (cs' := 0) (sl' := 0) rfl rfl rfl ?_
        refine G_sipush 255 d_cX10_intAt_20 (by decide +kernel) ?_
        refine G_iand d_cX10_intAt_23 (G_nam fun z209 hz209 => ?_)
        have bz209 : gB z209 0 255 := gB_and hz209 (gBl (show Int32.toInt 255 = 255 by decide)) (by decide)
        refine G_ior d_cX10_intAt_24 (G_nam fun z210 hz210 => ?_)
        have bz210 : gB z210 (-2147483648) 2147483647 := gB_any z210
        refine G_istore_n (L' := [(2, .int z210), (3, .int g199), (0, .ref q136), (1, .int p138)]) d_cX10_intAt_25 (Nat.le_of_ble_eq_true rfl) rfl ?_
        obtain ⟨z211, hz211⟩ : ∃ z : Int32, z = g199 + Int32.ofInt 1 := ⟨_, rfl⟩
        have ez211 : z211.toInt = g199.toInt + 1 := gI_inc hz211 (by decide) bg199' (by decide) (by decide)
        have bz211 : gB z211 1 4 := ⟨by omega, by omega⟩
        refine G_iinc (L' := [(3, .int z211), (2, .int z210), (0, .ref q136), (1, .int p138)]) z211 1 d_cX10_intAt_26 rfl hz211.symm (Nat.le_of_ble_eq_true rfl) rfl ?_
        refine G_goto 4 d_cX10_intAt_29 (by decide +kernel) ?_
        exact ih4_200 z211 z210 (gB_w bz211 (by decide) (by decide)) bz210 (fun k e1 ht => kt4_200 k e1 (fun R c1 c2 => c2 g199 g200 z205 z206 o207 z209 z210 z211 k e1 bg199 r204 hz205 hz206 bo207 ht208 hz209 hz210 ez211 (ht R c1 c2))) (by omega)
  exact hlp4_200 (((5 : Int) - 0).toNat + 1) 0 0 (gB_w (gBl (show Int32.toInt 0 = 0 by decide)) (by decide) (by decide)) (gB_w (gBl (show Int32.toInt 0 = 0 by decide)) (by decide) (by decide)) (fun k e1 ht => ht) (Nat.lt_succ_self _)
abbrev ky_223_Signs_kind : gKey := (cX9_kind, 1, yX9_kind.cls, (some FieldType.int), [], yX9_kind.name, fun _ _ => True)
abbrev po_223_Signs_kind (I : FieldType → ClassId) (q213 : Nat) (q214 : Nat) (q215 : Nat) (p216 : Int32) (p217 : Int32) (p218 : Int32) (p219 : Int32) (p220 : Int32) (f221 : Nat → Int32) : Option Value → va_W → Prop := fun r w => r = some (.int p216) ∧ w = [(q213, .inr (14, [.ref q214, .int p216, .int p217, .int p218, .int p219])), (q214, .inr (15, [.ref q215, .int p220])), (q215, .inl (I .byte, 8192, .inl f221))]
set_option maxRecDepth 100000 in
set_option maxHeartbeats 4000000 in
theorem ct_223_Signs_kind (l : Launch) (hl0 : l.stackTraces = false) (D : va_G) (I : FieldType → ClassId) (q213 : Nat) (q214 : Nat) (q215 : Nat) (p216 : Int32) (p217 : Int32) (p218 : Int32) (p219 : Int32) (p220 : Int32) (f221 : Nat → Int32) (bp220 : gB p220 0 8192) (bf221 : gF f221 (-128) 127) (x222 : (p216.toInt ≠ 5 ∨ (0 ≤ p217.toInt ∧ p217.toInt ≤ 13))) : Ct (gV D I) l yX9_kind cX9_kind 1 (some FieldType.int) 0 0 0 0 [.ref q213] [(q213, .inr (14, [.ref q214, .int p216, .int p217, .int p218, .int p219])), (q214, .inr (15, [.ref q215, .int p220])), (q215, .inl (I .byte, 8192, .inl f221))] (po_223_Signs_kind I q213 q214 q215 p216 p217 p218 p219 p220 f221) gN := by
  refine Ct_of hl0 (by decide) (Nat.le_of_ble_eq_true rfl) ?_
  have bp216 := gB_any p216
  have bp217 := gB_any p217
  have bp218 := gB_any p218
  have bp219 := gB_any p219
  refine G_aload_n 0 d_cX9_kind_0 rfl ?_
  refine G_getf 0 1 d_cX9_kind_1 rfl (gk_X9 D I) (Nat.le_of_ble_eq_true rfl) w_1_80 rfl ?_
  exact G_iret d_cX9_kind_4 rfl (Nat.le_of_ble_eq_true rfl) (Nat.le_of_ble_eq_true rfl) ⟨rfl, rfl⟩
abbrev ky_234_Signs_value : gKey := (cX9_value, 1, yX9_value.cls, (some FieldType.int), [], yX9_value.name, fun _ _ => True)
abbrev po_234_Signs_value (I : FieldType → ClassId) (q224 : Nat) (q225 : Nat) (q226 : Nat) (p227 : Int32) (p228 : Int32) (p229 : Int32) (p230 : Int32) (p231 : Int32) (f232 : Nat → Int32) : Option Value → va_W → Prop := fun r w => r = some (.int p228) ∧ w = [(q224, .inr (14, [.ref q225, .int p227, .int p228, .int p229, .int p230])), (q225, .inr (15, [.ref q226, .int p231])), (q226, .inl (I .byte, 8192, .inl f232))]
set_option maxRecDepth 100000 in
set_option maxHeartbeats 4000000 in
theorem ct_234_Signs_value (l : Launch) (hl0 : l.stackTraces = false) (D : va_G) (I : FieldType → ClassId) (q224 : Nat) (q225 : Nat) (q226 : Nat) (p227 : Int32) (p228 : Int32) (p229 : Int32) (p230 : Int32) (p231 : Int32) (f232 : Nat → Int32) (bp231 : gB p231 0 8192) (bf232 : gF f232 (-128) 127) (x233 : (p227.toInt ≠ 5 ∨ (0 ≤ p228.toInt ∧ p228.toInt ≤ 13))) : Ct (gV D I) l yX9_value cX9_value 1 (some FieldType.int) 0 0 0 0 [.ref q224] [(q224, .inr (14, [.ref q225, .int p227, .int p228, .int p229, .int p230])), (q225, .inr (15, [.ref q226, .int p231])), (q226, .inl (I .byte, 8192, .inl f232))] (po_234_Signs_value I q224 q225 q226 p227 p228 p229 p230 p231 f232) gN := by
  refine Ct_of hl0 (by decide) (Nat.le_of_ble_eq_true rfl) ?_
  have bp227 := gB_any p227
  have bp228 := gB_any p228
  have bp229 := gB_any p229
  have bp230 := gB_any p230
  refine G_aload_n 0 d_cX9_value_0 rfl ?_
  refine G_getf 0 2 d_cX9_value_1 rfl (gk_X9 D I) (Nat.le_of_ble_eq_true rfl) w_1_81 rfl ?_
  exact G_iret d_cX9_value_4 rfl (Nat.le_of_ble_eq_true rfl) (Nat.le_of_ble_eq_true rfl) ⟨rfl, rfl⟩
abbrev ky_245_Signs_place : gKey := (cX9_place, 1, yX9_place.cls, (some FieldType.int), [], yX9_place.name, fun _ _ => True)
abbrev po_245_Signs_place (I : FieldType → ClassId) (q235 : Nat) (q236 : Nat) (q237 : Nat) (p238 : Int32) (p239 : Int32) (p240 : Int32) (p241 : Int32) (p242 : Int32) (f243 : Nat → Int32) : Option Value → va_W → Prop := fun r w => r = some (.int p240) ∧ w = [(q235, .inr (14, [.ref q236, .int p238, .int p239, .int p240, .int p241])), (q236, .inr (15, [.ref q237, .int p242])), (q237, .inl (I .byte, 8192, .inl f243))]
set_option maxRecDepth 100000 in
set_option maxHeartbeats 4000000 in
theorem ct_245_Signs_place (l : Launch) (hl0 : l.stackTraces = false) (D : va_G) (I : FieldType → ClassId) (q235 : Nat) (q236 : Nat) (q237 : Nat) (p238 : Int32) (p239 : Int32) (p240 : Int32) (p241 : Int32) (p242 : Int32) (f243 : Nat → Int32) (bp242 : gB p242 0 8192) (bf243 : gF f243 (-128) 127) (x244 : (p238.toInt ≠ 5 ∨ (0 ≤ p239.toInt ∧ p239.toInt ≤ 13))) : Ct (gV D I) l yX9_place cX9_place 1 (some FieldType.int) 0 0 0 0 [.ref q235] [(q235, .inr (14, [.ref q236, .int p238, .int p239, .int p240, .int p241])), (q236, .inr (15, [.ref q237, .int p242])), (q237, .inl (I .byte, 8192, .inl f243))] (po_245_Signs_place I q235 q236 q237 p238 p239 p240 p241 p242 f243) gN := by
  refine Ct_of hl0 (by decide) (Nat.le_of_ble_eq_true rfl) ?_
  have bp238 := gB_any p238
  have bp239 := gB_any p239
  have bp240 := gB_any p240
  have bp241 := gB_any p241
  refine G_aload_n 0 d_cX9_place_0 rfl ?_
  refine G_getf 0 3 d_cX9_place_1 rfl (gk_X9 D I) (Nat.le_of_ble_eq_true rfl) w_1_82 rfl ?_
  exact G_iret d_cX9_place_4 rfl (Nat.le_of_ble_eq_true rfl) (Nat.le_of_ble_eq_true rfl) ⟨rfl, rfl⟩
/- tr_Signs_isDigit: result -/
def tr_Signs_isDigit (a0 : Int32) (o1 : Int32) : Prop := ∀ R : (Int32) → Prop,
  (a0.toInt < 48 → R (0 : Int32)) →
  (48 ≤ a0.toInt → 57 < a0.toInt → R (0 : Int32)) →
  (48 ≤ a0.toInt → a0.toInt ≤ 57 → R (1 : Int32)) →
  R o1
abbrev ky_247_Signs_isDigit : gKey := (cX9_isDigit, 1, yX9_isDigit.cls, (some FieldType.boolean), [], yX9_isDigit.name, fun _ _ => True)
abbrev po_247_Signs_isDigit (I : FieldType → ClassId) (p246 : Int32) : Option Value → va_W → Prop := fun r w => ∃ (o254 : Int32), r = some (.int o254) ∧ w = [] ∧ gB o254 0 1 ∧ tr_Signs_isDigit p246 o254
set_option maxRecDepth 100000 in
set_option maxHeartbeats 4000000 in
theorem ct_247_Signs_isDigit (l : Launch) (hl0 : l.stackTraces = false) (D : va_G) (I : FieldType → ClassId) (p246 : Int32)  : Ct (gV D I) l yX9_isDigit cX9_isDigit 1 (some FieldType.boolean) 0 0 0 0 [.int p246] [] (po_247_Signs_isDigit I p246) gN := by
  refine Ct_of hl0 (by decide) (Nat.le_of_ble_eq_true rfl) ?_
  have bp246 := gB_any p246
  refine G_iload_n 0 d_cX9_isDigit_0 rfl ?_
  refine G_bipush 48 d_cX9_isDigit_1 (by decide +kernel) ?_
  refine G_icmp_lt 16 d_cX9_isDigit_3 (by decide +kernel) (fun hc248 => ?_) (fun hc248 => ?_)
  · have r249 : p246.toInt < 48 := gj_lt hc248 (show Int32.toInt 48 = 48 by decide)
    have bp246' : gB p246 (-2147483648) 47 := ⟨by omega, by omega⟩
    refine G_iconst 0 d_cX9_isDigit_16 (by decide +kernel) ?_
    exact G_zret FieldType.boolean d_cX9_isDigit_17 rfl rfl (Nat.le_of_ble_eq_true rfl) (Nat.le_of_ble_eq_true rfl) ⟨0, rfl, rfl, (gB_w (gBl (show Int32.toInt 0 = 0 by decide)) (by decide) (by decide)), (fun R c1 c2 c3 => c1 r249)⟩
  · have r250 : 48 ≤ p246.toInt := gj_nlt hc248 (show Int32.toInt 48 = 48 by decide)
    have bp246' : gB p246 48 2147483647 := ⟨by omega, by omega⟩
    refine G_iload_n 0 d_cX9_isDigit_6 rfl ?_
    refine G_bipush 57 d_cX9_isDigit_7 (by decide +kernel) ?_
    refine G_icmp_gt 16 d_cX9_isDigit_9 (by decide +kernel) (fun hc251 => ?_) (fun hc251 => ?_)
    · have r252 : 57 < p246.toInt := gj_ltL hc251 (show Int32.toInt 57 = 57 by decide)
      have bp246'' : gB p246 58 2147483647 := ⟨by omega, by omega⟩
      refine G_iconst 0 d_cX9_isDigit_16 (by decide +kernel) ?_
      exact G_zret FieldType.boolean d_cX9_isDigit_17 rfl rfl (Nat.le_of_ble_eq_true rfl) (Nat.le_of_ble_eq_true rfl) ⟨0, rfl, rfl, (gB_w (gBl (show Int32.toInt 0 = 0 by decide)) (by decide) (by decide)), (fun R c1 c2 c3 => c2 r250 r252)⟩
    · have r253 : p246.toInt ≤ 57 := gj_nltL hc251 (show Int32.toInt 57 = 57 by decide)
      have bp246'' : gB p246 48 57 := ⟨by omega, by omega⟩
      refine G_iconst 1 d_cX9_isDigit_12 (by decide +kernel) ?_
      refine G_goto 17 d_cX9_isDigit_13 (by decide +kernel) ?_
      exact G_zret FieldType.boolean d_cX9_isDigit_17 rfl rfl (Nat.le_of_ble_eq_true rfl) (Nat.le_of_ble_eq_true rfl) ⟨1, rfl, rfl, (gB_w (gBl (show Int32.toInt 1 = 1 by decide)) (by decide) (by decide)), (fun R c1 c2 c3 => c3 r250 r253)⟩
/- tr_Signs_isLetter: result -/
def tr_Signs_isLetter (a0 : Int32) (o1 : Int32) : Prop := ∀ R : (Int32) → Prop,
  (a0.toInt < 97 → R (0 : Int32)) →
  (97 ≤ a0.toInt → 122 < a0.toInt → R (0 : Int32)) →
  (97 ≤ a0.toInt → a0.toInt ≤ 122 → R (1 : Int32)) →
  R o1
abbrev ky_256_Signs_isLetter : gKey := (cX9_isLetter, 1, yX9_isLetter.cls, (some FieldType.boolean), [], yX9_isLetter.name, fun _ _ => True)
abbrev po_256_Signs_isLetter (I : FieldType → ClassId) (p255 : Int32) : Option Value → va_W → Prop := fun r w => ∃ (o263 : Int32), r = some (.int o263) ∧ w = [] ∧ gB o263 0 1 ∧ tr_Signs_isLetter p255 o263
set_option maxRecDepth 100000 in
set_option maxHeartbeats 4000000 in
theorem ct_256_Signs_isLetter (l : Launch) (hl0 : l.stackTraces = false) (D : va_G) (I : FieldType → ClassId) (p255 : Int32)  : Ct (gV D I) l yX9_isLetter cX9_isLetter 1 (some FieldType.boolean) 0 0 0 0 [.int p255] [] (po_256_Signs_isLetter I p255) gN := by
  refine Ct_of hl0 (by decide) (Nat.le_of_ble_eq_true rfl) ?_
  have bp255 := gB_any p255
  refine G_iload_n 0 d_cX9_isLetter_0 rfl ?_
  refine G_bipush 97 d_cX9_isLetter_1 (by decide +kernel) ?_
  refine G_icmp_lt 16 d_cX9_isLetter_3 (by decide +kernel) (fun hc257 => ?_) (fun hc257 => ?_)
  · have r258 : p255.toInt < 97 := gj_lt hc257 (show Int32.toInt 97 = 97 by decide)
    have bp255' : gB p255 (-2147483648) 96 := ⟨by omega, by omega⟩
    refine G_iconst 0 d_cX9_isLetter_16 (by decide +kernel) ?_
    exact G_zret FieldType.boolean d_cX9_isLetter_17 rfl rfl (Nat.le_of_ble_eq_true rfl) (Nat.le_of_ble_eq_true rfl) ⟨0, rfl, rfl, (gB_w (gBl (show Int32.toInt 0 = 0 by decide)) (by decide) (by decide)), (fun R c1 c2 c3 => c1 r258)⟩
  · have r259 : 97 ≤ p255.toInt := gj_nlt hc257 (show Int32.toInt 97 = 97 by decide)
    have bp255' : gB p255 97 2147483647 := ⟨by omega, by omega⟩
    refine G_iload_n 0 d_cX9_isLetter_6 rfl ?_
    refine G_bipush 122 d_cX9_isLetter_7 (by decide +kernel) ?_
    refine G_icmp_gt 16 d_cX9_isLetter_9 (by decide +kernel) (fun hc260 => ?_) (fun hc260 => ?_)
    · have r261 : 122 < p255.toInt := gj_ltL hc260 (show Int32.toInt 122 = 122 by decide)
      have bp255'' : gB p255 123 2147483647 := ⟨by omega, by omega⟩
      refine G_iconst 0 d_cX9_isLetter_16 (by decide +kernel) ?_
      exact G_zret FieldType.boolean d_cX9_isLetter_17 rfl rfl (Nat.le_of_ble_eq_true rfl) (Nat.le_of_ble_eq_true rfl) ⟨0, rfl, rfl, (gB_w (gBl (show Int32.toInt 0 = 0 by decide)) (by decide) (by decide)), (fun R c1 c2 c3 => c2 r259 r261)⟩
    · have r262 : p255.toInt ≤ 122 := gj_nltL hc260 (show Int32.toInt 122 = 122 by decide)
      have bp255'' : gB p255 97 122 := ⟨by omega, by omega⟩
      refine G_iconst 1 d_cX9_isLetter_12 (by decide +kernel) ?_
      refine G_goto 17 d_cX9_isLetter_13 (by decide +kernel) ?_
      exact G_zret FieldType.boolean d_cX9_isLetter_17 rfl rfl (Nat.le_of_ble_eq_true rfl) (Nat.le_of_ble_eq_true rfl) ⟨1, rfl, rfl, (gB_w (gBl (show Int32.toInt 1 = 1 by decide)) (by decide) (by decide)), (fun R c1 c2 c3 => c3 r259 r262)⟩
/- tl_Signs_skipBlanks_4: l3, l2; out: l3 -/
def tl_Signs_skipBlanks_4 (Tape_size : Int32) (Tape_bytes : Nat → Int32) (s1 : Int32) (s2 : Int32) (k : Nat) (e1 : Int32) : Prop := ∀ R : (Int32) → (Int32) → Nat → (Int32) → Prop,
  (∀ (l3_1 : Int32) (l2_1 : Int32), gB l2_1 0 1 → Tape_size.toInt ≤ l3_1.toInt → R l3_1 l2_1 89 (0 : Int32)) →
  (∀ (l3_1 : Int32) (l2_1 : Int32) (x1 : Int32) (x2 : Int32) (k : Nat) (e1 : Int32), gB l2_1 0 1 → l3_1.toInt < Tape_size.toInt → gB x1 (-1) 255 → tr_Tape_byteAt l3_1 Tape_size Tape_bytes x1 → x1.toInt = 10 → x2.toInt = l3_1.toInt + 1 → R x2 (0 : Int32) k e1 → R l3_1 l2_1 k e1) →
  (∀ (l3_1 : Int32) (l2_1 : Int32) (x1 : Int32) (x2 : Int32) (k : Nat) (e1 : Int32), gB l2_1 0 1 → l3_1.toInt < Tape_size.toInt → gB x1 (-1) 255 → tr_Tape_byteAt l3_1 Tape_size Tape_bytes x1 → x1.toInt ≠ 10 → l2_1.toInt ≠ 0 → x2.toInt = l3_1.toInt + 1 → R x2 (1 : Int32) k e1 → R l3_1 l2_1 k e1) →
  (∀ (l3_1 : Int32) (l2_1 : Int32) (x1 : Int32) (x2 : Int32) (k : Nat) (e1 : Int32), gB l2_1 0 1 → l3_1.toInt < Tape_size.toInt → gB x1 (-1) 255 → tr_Tape_byteAt l3_1 Tape_size Tape_bytes x1 → x1.toInt ≠ 10 → l2_1.toInt = 0 → x1.toInt ≠ 59 → x1.toInt = 9 → x2.toInt = l3_1.toInt + 1 → R x2 (0 : Int32) k e1 → R l3_1 l2_1 k e1) →
  (∀ (l3_1 : Int32) (l2_1 : Int32) (x1 : Int32) (x2 : Int32) (k : Nat) (e1 : Int32), gB l2_1 0 1 → l3_1.toInt < Tape_size.toInt → gB x1 (-1) 255 → tr_Tape_byteAt l3_1 Tape_size Tape_bytes x1 → x1.toInt ≠ 10 → l2_1.toInt = 0 → x1.toInt ≠ 59 → x1.toInt ≠ 9 → x1.toInt = 10 → x2.toInt = l3_1.toInt + 1 → R x2 (0 : Int32) k e1 → R l3_1 l2_1 k e1) →
  (∀ (l3_1 : Int32) (l2_1 : Int32) (x1 : Int32) (x2 : Int32) (k : Nat) (e1 : Int32), gB l2_1 0 1 → l3_1.toInt < Tape_size.toInt → gB x1 (-1) 255 → tr_Tape_byteAt l3_1 Tape_size Tape_bytes x1 → x1.toInt ≠ 10 → l2_1.toInt = 0 → x1.toInt ≠ 59 → x1.toInt ≠ 9 → x1.toInt ≠ 10 → x1.toInt = 13 → x2.toInt = l3_1.toInt + 1 → R x2 (0 : Int32) k e1 → R l3_1 l2_1 k e1) →
  (∀ (l3_1 : Int32) (l2_1 : Int32) (x1 : Int32) (x2 : Int32) (k : Nat) (e1 : Int32), gB l2_1 0 1 → l3_1.toInt < Tape_size.toInt → gB x1 (-1) 255 → tr_Tape_byteAt l3_1 Tape_size Tape_bytes x1 → x1.toInt ≠ 10 → l2_1.toInt = 0 → x1.toInt ≠ 59 → x1.toInt ≠ 9 → x1.toInt ≠ 10 → x1.toInt ≠ 13 → x1.toInt = 32 → x2.toInt = l3_1.toInt + 1 → R x2 (0 : Int32) k e1 → R l3_1 l2_1 k e1) →
  (∀ (l3_1 : Int32) (l2_1 : Int32) (x1 : Int32), gB l2_1 0 1 → l3_1.toInt < Tape_size.toInt → gB x1 (-1) 255 → tr_Tape_byteAt l3_1 Tape_size Tape_bytes x1 → x1.toInt ≠ 10 → l2_1.toInt = 0 → x1.toInt ≠ 59 → x1.toInt ≠ 9 → x1.toInt ≠ 10 → x1.toInt ≠ 13 → x1.toInt ≠ 32 → R l3_1 l2_1 81 l3_1) →
  (∀ (l3_1 : Int32) (l2_1 : Int32) (x1 : Int32) (x2 : Int32) (k : Nat) (e1 : Int32), gB l2_1 0 1 → l3_1.toInt < Tape_size.toInt → gB x1 (-1) 255 → tr_Tape_byteAt l3_1 Tape_size Tape_bytes x1 → x1.toInt ≠ 10 → l2_1.toInt = 0 → x1.toInt = 59 → x2.toInt = l3_1.toInt + 1 → R x2 (1 : Int32) k e1 → R l3_1 l2_1 k e1) →
  R s1 s2 k e1
/- tr_Signs_skipBlanks: result -/
def tr_Signs_skipBlanks (a1 : Int32) (Tape_size : Int32) (Tape_bytes : Nat → Int32) (o1 : Int32) : Prop := ∀ R : (Int32) → Prop,
  (tl_Signs_skipBlanks_4 Tape_size Tape_bytes a1 (0 : Int32) 89 (0 : Int32) → R Tape_size) →
  (∀ (x1 : Int32), tl_Signs_skipBlanks_4 Tape_size Tape_bytes a1 (0 : Int32) 81 x1 → R x1) →
  R o1
abbrev ky_275_Signs_skipBlanks : gKey := (cX9_skipBlanks, 5, yX9_skipBlanks.cls, (some FieldType.int), [], yX9_skipBlanks.name, fun _ _ => True)
abbrev po_275_Signs_skipBlanks (I : FieldType → ClassId) (q264 : Nat) (q265 : Nat) (q266 : Nat) (p267 : Int32) (p268 : Int32) (p269 : Int32) (p270 : Int32) (p271 : Int32) (p272 : Int32) (f273 : Nat → Int32) : Option Value → va_W → Prop := fun r w => ∃ (o377 : Int32), r = some (.int o377) ∧ w = [(q264, .inr (14, [.ref q265, .int p268, .int p269, .int p270, .int p271])), (q265, .inr (15, [.ref q266, .int p272])), (q266, .inl (I .byte, 8192, .inl f273))] ∧ gB o377 (-2147483648) 8192 ∧ tr_Signs_skipBlanks p267 p272 f273 o377
set_option maxRecDepth 100000 in
set_option maxHeartbeats 4000000 in
theorem ct_275_Signs_skipBlanks (l : Launch) (hl0 : l.stackTraces = false) (D : va_G) (I : FieldType → ClassId) (q264 : Nat) (q265 : Nat) (q266 : Nat) (p267 : Int32) (p268 : Int32) (p269 : Int32) (p270 : Int32) (p271 : Int32) (p272 : Int32) (f273 : Nat → Int32) (bp272 : gB p272 0 8192) (bf273 : gF f273 (-128) 127) (x274 : (p268.toInt ≠ 5 ∨ (0 ≤ p269.toInt ∧ p269.toInt ≤ 13))) : Ct (gV D I) l yX9_skipBlanks cX9_skipBlanks 5 (some FieldType.int) 1 21 0 0 [.ref q264, .int p267] [(q264, .inr (14, [.ref q265, .int p268, .int p269, .int p270, .int p271])), (q265, .inr (15, [.ref q266, .int p272])), (q266, .inl (I .byte, 8192, .inl f273))] (po_275_Signs_skipBlanks I q264 q265 q266 p267 p268 p269 p270 p271 p272 f273) gN := by
  refine Ct_of hl0 (by decide) (Nat.le_of_ble_eq_true rfl) ?_
  have bp267 := gB_any p267
  have bp268 := gB_any p268
  have bp269 := gB_any p269
  have bp270 := gB_any p270
  have bp271 := gB_any p271
  refine G_iconst 0 d_cX9_skipBlanks_0 (by decide +kernel) ?_
  refine G_istore_n (L' := [(2, .int 0), (0, .ref q264), (1, .int p267)]) d_cX9_skipBlanks_1 (Nat.le_of_ble_eq_true rfl) rfl ?_
  refine G_iload_n 2 d_cX9_skipBlanks_2 rfl ?_
  refine G_istore_n (L' := [(3, .int p267), (2, .int 0), (0, .ref q264), (1, .int p267)]) d_cX9_skipBlanks_3 (Nat.le_of_ble_eq_true rfl) rfl ?_
  have hlp4_341 : ∀ (n4_341 : Nat) (g340 : Int32) (g341 : Int32), gB g340 (-2147483648) 2147483647 → gB g341 0 1 → (∀ (k : Nat) (e1 : Int32), tl_Signs_skipBlanks_4 p272 f273 g340 g341 k e1 → tl_Signs_skipBlanks_4 p272 f273 p267 (0 : Int32) k e1) → ((2147483648 : Int) - g340.toInt).toNat < n4_341 → G (gV D I) l (gRm 1 21 0 0) (gM (gV D I) (po_275_Signs_skipBlanks I q264 q265 q266 p267 p268 p269 p270 p271 p272 f273) gN 0 0) ky_275_Signs_skipBlanks 4 [(3, .int g340), (2, .int g341), (0, .ref q264), (1, .int p267)] [] [(q264, .inr (14, [.ref q265, .int p268, .int p269, .int p270, .int p271])), (q265, .inr (15, [.ref q266, .int p272])), (q266, .inl (I .byte, 8192, .inl f273))] 0 0 := by
    intro n4_341
    induction n4_341 with
    | zero => intro g340 g341 bg340 bg341 kt4_341 hm4_341; exact absurd hm4_341 (Nat.not_lt_zero _)
    | succ n4_341 ih4_341 =>
      intro g340 g341 bg340 bg341 kt4_341 hm4_341
      refine G_iload_n 0 d_cX9_skipBlanks_4 rfl ?_
      refine G_aload_n 2 d_cX9_skipBlanks_5 rfl ?_
      refine G_getf 0 0 d_cX9_skipBlanks_6 rfl (gk_X9 D I) (Nat.le_of_ble_eq_true rfl) w_1_79 rfl ?_
      refine G_callV (As := []) (wr := [(q264, .inr (14, [.ref q265, .int p268, .int p269, .int p270, .int p271]))]) (gV_ok D I) (ct_5_Tape_size l hl0 D I q265 q266 p272 f273 bp272 bf273) d_cX9_skipBlanks_9 ⟨w_3_16, w_1_2, w_3_19, by decide, rfl, (Nat.le_of_ble_eq_true rfl), (Nat.le_of_ble_eq_true rfl)⟩ w_3_17 w_3_18 1 rfl rfl [1, 2] [0] rfl rfl rfl rfl (by decide) (Nat.le_of_ble_eq_true rfl) (Nat.le_of_ble_eq_true rfl) (Nat.le_of_ble_eq_true rfl) (fun r w hp => ?_) (fun _ _ _ z => z.elim)
      obtain ⟨rfl, rfl⟩ := hp
      change G _ _ _ _ _ _ _ (.int p272 :: _) _ _ _
      refine G_ws (ws' := [(q264, .inr (14, [.ref q265, .int p268, .int p269, .int p270, .int p271])), (q265, .inr (15, [.ref q266, .int p272])), (q266, .inl (I .byte, 8192, .inl f273))]) (cs' := 0) (sl' := 0) rfl rfl rfl ?_
      refine G_icmp_ge 89 d_cX9_skipBlanks_12 (by decide +kernel) (fun hc342 => ?_) (fun hc342 => ?_)
      · have r343 : p272.toInt ≤ g340.toInt := gC_le hc342
        have bg340' : gB g340 0 2147483647 := ⟨by omega, by omega⟩
        have hx344 : tl_Signs_skipBlanks_4 p272 f273 p267 (0 : Int32) 89 (0 : Int32) := kt4_341 89 (0 : Int32) (fun R c1 c2 c3 c4 c5 c6 c7 c8 c9 => c1 g340 g341 bg341 r343)
        refine G_aload_n 2 d_cX9_skipBlanks_89 rfl ?_
        refine G_getf 0 0 d_cX9_skipBlanks_90 rfl (gk_X9 D I) (Nat.le_of_ble_eq_true rfl) w_1_79 rfl ?_
        refine G_callV (As := []) (wr := [(q264, .inr (14, [.ref q265, .int p268, .int p269, .int p270, .int p271]))]) (gV_ok D I) (ct_5_Tape_size l hl0 D I q265 q266 p272 f273 bp272 bf273) d_cX9_skipBlanks_93 ⟨w_3_16, w_1_2, w_3_19, by decide, rfl, (Nat.le_of_ble_eq_true rfl), (Nat.le_of_ble_eq_true rfl)⟩ w_3_17 w_3_18 1 rfl rfl [1, 2] [0] rfl rfl rfl rfl (by decide) (Nat.le_of_ble_eq_true rfl) (Nat.le_of_ble_eq_true rfl) (Nat.le_of_ble_eq_true rfl) (fun r w hp => ?_) (fun _ _ _ z => z.elim)
        obtain ⟨rfl, rfl⟩ := hp
        change G _ _ _ _ _ _ _ (.int p272 :: _) _ _ _
        refine G_ws (ws' := [(q264, .inr (14, [.ref q265, .int p268, .int p269, .int p270, .int p271])), (q265, .inr (15, [.ref q266, .int p272])), (q266, .inl (I .byte, 8192, .inl f273))]) (cs' := 0) (sl' := 0) rfl rfl rfl ?_
        exact G_iret d_cX9_skipBlanks_96 rfl (Nat.le_of_ble_eq_true rfl) (Nat.le_of_ble_eq_true rfl) ⟨p272, rfl, rfl, (gB_w bp272 (by decide) (by decide)), (fun R c1 c2 => c1 hx344)⟩
      · have r345 : g340.toInt < p272.toInt := gC_nle hc342
        have bg340' : gB g340 (-2147483648) 8191 := ⟨by omega, by omega⟩
        refine G_aload_n 2 d_cX9_skipBlanks_15 rfl ?_
        refine G_getf 0 0 d_cX9_skipBlanks_16 rfl (gk_X9 D I) (Nat.le_of_ble_eq_true rfl) w_1_79 rfl ?_
        refine G_iload_n 0 d_cX9_skipBlanks_19 rfl ?_
        refine G_callV (As := [.int g340]) (wr := [(q264, .inr (14, [.ref q265, .int p268, .int p269, .int p270, .int p271]))]) (gV_ok D I) (ct_31_Tape_byteAt l hl0 D I q265 q266 g340 p272 f273 bp272 bf273) d_cX9_skipBlanks_20 ⟨w_3_20, w_1_2, w_3_23, by decide, rfl, (Nat.le_of_ble_eq_true rfl), (Nat.le_of_ble_eq_true rfl)⟩ w_3_21 w_3_22 1 rfl rfl [1, 2] [0] rfl rfl rfl rfl (by decide) (Nat.le_of_ble_eq_true rfl) (Nat.le_of_ble_eq_true rfl) (Nat.le_of_ble_eq_true rfl) (fun r w hp => ?_) (fun _ _ _ z => z.elim)
        obtain ⟨o346, rfl, rfl, bo346, ht347⟩ := hp
        change G _ _ _ _ _ _ _ (.int o346 :: _) _ _ _
        refine G_ws (ws' := [(q264, .inr (14, [.ref q265, .int p268, .int p269, .int p270, .int p271])), (q265, .inr (15, [.ref q266, .int p272])), (q266, .inl (I .byte, 8192, .inl f273))]) (cs' := 0) (sl' := 0) rfl rfl rfl ?_
        refine G_istore (L' := [(4, .int o346), (3, .int g340), (2, .int g341), (0, .ref q264), (1, .int p267)]) d_cX9_skipBlanks_23 (Nat.le_of_ble_eq_true rfl) rfl ?_
        refine G_iload 0 d_cX9_skipBlanks_25 rfl ?_
        refine G_bipush 10 d_cX9_skipBlanks_27 (by decide +kernel) ?_
        refine G_icmp_eq 47 d_cX9_skipBlanks_29 (by decide +kernel) (fun hc348 => ?_) (fun hc348 => ?_)
        · have r349 : o346.toInt = 10 := gj_eq hc348 (show Int32.toInt 10 = 10 by decide)
          have bo346' : gB o346 10 10 := ⟨by omega, by omega⟩
          refine G_iconst 0 d_cX9_skipBlanks_47 (by decide +kernel) ?_
          refine G_istore_n (L' := [(2, .int 0), (4, .int o346), (3, .int g340), (0, .ref q264), (1, .int p267)]) d_cX9_skipBlanks_48 (Nat.le_of_ble_eq_true rfl) rfl ?_
          refine G_iload_n 0 d_cX9_skipBlanks_49 rfl ?_
          refine G_if_ne 83 d_cX9_skipBlanks_50 (by decide +kernel) (fun hc => absurd hc (by decide)) (fun _ => ?_)
          refine G_iload 1 d_cX9_skipBlanks_53 rfl ?_
          refine G_bipush 9 d_cX9_skipBlanks_55 (by decide +kernel) ?_
          refine G_icmp_eq 83 d_cX9_skipBlanks_57 (by decide +kernel) (fun hc => absurd (show False by have := gj_eq hc (show Int32.toInt 9 = 9 by decide); omega) not_false) (fun _ => ?_)
          refine G_iload 1 d_cX9_skipBlanks_60 rfl ?_
          refine G_bipush 10 d_cX9_skipBlanks_62 (by decide +kernel) ?_
          refine G_icmp_eq 83 d_cX9_skipBlanks_64 (by decide +kernel) (fun _ => ?_) (fun hc => absurd (show False by have := gj_neq hc (show Int32.toInt 10 = 10 by decide); omega) not_false)
          obtain ⟨z350, hz350⟩ : ∃ z : Int32, z = g340 + Int32.ofInt 1 := ⟨_, rfl⟩
          have ez350 : z350.toInt = g340.toInt + 1 := gI_inc hz350 (by decide) bg340' (by decide) (by decide)
          have bz350 : gB z350 (-2147483647) 8192 := ⟨by omega, by omega⟩
          refine G_iinc (L' := [(3, .int z350), (2, .int 0), (4, .int o346), (0, .ref q264), (1, .int p267)]) z350 2 d_cX9_skipBlanks_83 rfl hz350.symm (Nat.le_of_ble_eq_true rfl) rfl ?_
          refine G_goto 4 d_cX9_skipBlanks_86 (by decide +kernel) ?_
          refine G_lv (L' := [(3, .int z350), (2, .int 0), (0, .ref q264), (1, .int p267)]) [0, 1, 3, 4] rfl ?_
          exact ih4_341 z350 0 (gB_w bz350 (by decide) (by decide)) (gB_w (gBl (show Int32.toInt 0 = 0 by decide)) (by decide) (by decide)) (fun k e1 ht => kt4_341 k e1 (fun R c1 c2 c3 c4 c5 c6 c7 c8 c9 => c2 g340 g341 o346 z350 k e1 bg341 r345 bo346 ht347 r349 ez350 (ht R c1 c2 c3 c4 c5 c6 c7 c8 c9))) (by have qa0 : Int32.toInt 0 = 0 := (by decide); omega)
        · have r351 : o346.toInt ≠ 10 := gj_neq hc348 (show Int32.toInt 10 = 10 by decide)
          refine G_iload_n 2 d_cX9_skipBlanks_32 rfl ?_
          refine G_if_ne 43 d_cX9_skipBlanks_33 (by decide +kernel) (fun hc352 => ?_) (fun hc352 => ?_)
          · have r353 : g341.toInt ≠ 0 := gj_neq hc352 (show Int32.toInt 0 = 0 by decide)
            have bg341' : gB g341 1 1 := ⟨by omega, by omega⟩
            refine G_iconst 1 d_cX9_skipBlanks_43 (by decide +kernel) ?_
            refine G_goto 48 d_cX9_skipBlanks_44 (by decide +kernel) ?_
            refine G_istore_n (L' := [(2, .int 1), (4, .int o346), (3, .int g340), (0, .ref q264), (1, .int p267)]) d_cX9_skipBlanks_48 (Nat.le_of_ble_eq_true rfl) rfl ?_
            refine G_iload_n 0 d_cX9_skipBlanks_49 rfl ?_
            refine G_if_ne 83 d_cX9_skipBlanks_50 (by decide +kernel) (fun _ => ?_) (fun hc => absurd hc (by decide))
            obtain ⟨z354, hz354⟩ : ∃ z : Int32, z = g340 + Int32.ofInt 1 := ⟨_, rfl⟩
            have ez354 : z354.toInt = g340.toInt + 1 := gI_inc hz354 (by decide) bg340' (by decide) (by decide)
            have bz354 : gB z354 (-2147483647) 8192 := ⟨by omega, by omega⟩
            refine G_iinc (L' := [(3, .int z354), (2, .int 1), (4, .int o346), (0, .ref q264), (1, .int p267)]) z354 2 d_cX9_skipBlanks_83 rfl hz354.symm (Nat.le_of_ble_eq_true rfl) rfl ?_
            refine G_goto 4 d_cX9_skipBlanks_86 (by decide +kernel) ?_
            refine G_lv (L' := [(3, .int z354), (2, .int 1), (0, .ref q264), (1, .int p267)]) [0, 1, 3, 4] rfl ?_
            exact ih4_341 z354 1 (gB_w bz354 (by decide) (by decide)) (gB_w (gBl (show Int32.toInt 1 = 1 by decide)) (by decide) (by decide)) (fun k e1 ht => kt4_341 k e1 (fun R c1 c2 c3 c4 c5 c6 c7 c8 c9 => c3 g340 g341 o346 z354 k e1 bg341 r345 bo346 ht347 r351 r353 ez354 (ht R c1 c2 c3 c4 c5 c6 c7 c8 c9))) (by have qa0 : Int32.toInt 1 = 1 := (by decide); omega)
          · have r355 : g341.toInt = 0 := gj_eq hc352 (show Int32.toInt 0 = 0 by decide)
            have bg341' : gB g341 0 0 := ⟨by omega, by omega⟩
            refine G_iload 0 d_cX9_skipBlanks_36 rfl ?_
            refine G_bipush 59 d_cX9_skipBlanks_38 (by decide +kernel) ?_
            refine G_icmp_ne 47 d_cX9_skipBlanks_40 (by decide +kernel) (fun hc356 => ?_) (fun hc356 => ?_)
            · have r357 : o346.toInt ≠ 59 := gj_neq hc356 (show Int32.toInt 59 = 59 by decide)
              refine G_iconst 0 d_cX9_skipBlanks_47 (by decide +kernel) ?_
              refine G_istore_n (L' := [(2, .int 0), (4, .int o346), (3, .int g340), (0, .ref q264), (1, .int p267)]) d_cX9_skipBlanks_48 (Nat.le_of_ble_eq_true rfl) rfl ?_
              refine G_iload_n 0 d_cX9_skipBlanks_49 rfl ?_
              refine G_if_ne 83 d_cX9_skipBlanks_50 (by decide +kernel) (fun hc => absurd hc (by decide)) (fun _ => ?_)
              refine G_iload 1 d_cX9_skipBlanks_53 rfl ?_
              refine G_bipush 9 d_cX9_skipBlanks_55 (by decide +kernel) ?_
              refine G_icmp_eq 83 d_cX9_skipBlanks_57 (by decide +kernel) (fun hc358 => ?_) (fun hc358 => ?_)
              · have r359 : o346.toInt = 9 := gj_eq hc358 (show Int32.toInt 9 = 9 by decide)
                have bo346' : gB o346 9 9 := ⟨by omega, by omega⟩
                obtain ⟨z360, hz360⟩ : ∃ z : Int32, z = g340 + Int32.ofInt 1 := ⟨_, rfl⟩
                have ez360 : z360.toInt = g340.toInt + 1 := gI_inc hz360 (by decide) bg340' (by decide) (by decide)
                have bz360 : gB z360 (-2147483647) 8192 := ⟨by omega, by omega⟩
                refine G_iinc (L' := [(3, .int z360), (2, .int 0), (4, .int o346), (0, .ref q264), (1, .int p267)]) z360 2 d_cX9_skipBlanks_83 rfl hz360.symm (Nat.le_of_ble_eq_true rfl) rfl ?_
                refine G_goto 4 d_cX9_skipBlanks_86 (by decide +kernel) ?_
                refine G_lv (L' := [(3, .int z360), (2, .int 0), (0, .ref q264), (1, .int p267)]) [0, 1, 3, 4] rfl ?_
                exact ih4_341 z360 0 (gB_w bz360 (by decide) (by decide)) (gB_w (gBl (show Int32.toInt 0 = 0 by decide)) (by decide) (by decide)) (fun k e1 ht => kt4_341 k e1 (fun R c1 c2 c3 c4 c5 c6 c7 c8 c9 => c4 g340 g341 o346 z360 k e1 bg341 r345 bo346 ht347 r351 r355 r357 r359 ez360 (ht R c1 c2 c3 c4 c5 c6 c7 c8 c9))) (by have qa0 : Int32.toInt 0 = 0 := (by decide); omega)
              · have r361 : o346.toInt ≠ 9 := gj_neq hc358 (show Int32.toInt 9 = 9 by decide)
                refine G_iload 1 d_cX9_skipBlanks_60 rfl ?_
                refine G_bipush 10 d_cX9_skipBlanks_62 (by decide +kernel) ?_
                refine G_icmp_eq 83 d_cX9_skipBlanks_64 (by decide +kernel) (fun hc362 => ?_) (fun hc362 => ?_)
                · have r363 : o346.toInt = 10 := gj_eq hc362 (show Int32.toInt 10 = 10 by decide)
                  have bo346' : gB o346 10 10 := ⟨by omega, by omega⟩
                  obtain ⟨z364, hz364⟩ : ∃ z : Int32, z = g340 + Int32.ofInt 1 := ⟨_, rfl⟩
                  have ez364 : z364.toInt = g340.toInt + 1 := gI_inc hz364 (by decide) bg340' (by decide) (by decide)
                  have bz364 : gB z364 (-2147483647) 8192 := ⟨by omega, by omega⟩
                  refine G_iinc (L' := [(3, .int z364), (2, .int 0), (4, .int o346), (0, .ref q264), (1, .int p267)]) z364 2 d_cX9_skipBlanks_83 rfl hz364.symm (Nat.le_of_ble_eq_true rfl) rfl ?_
                  refine G_goto 4 d_cX9_skipBlanks_86 (by decide +kernel) ?_
                  refine G_lv (L' := [(3, .int z364), (2, .int 0), (0, .ref q264), (1, .int p267)]) [0, 1, 3, 4] rfl ?_
                  exact ih4_341 z364 0 (gB_w bz364 (by decide) (by decide)) (gB_w (gBl (show Int32.toInt 0 = 0 by decide)) (by decide) (by decide)) (fun k e1 ht => kt4_341 k e1 (fun R c1 c2 c3 c4 c5 c6 c7 c8 c9 => c5 g340 g341 o346 z364 k e1 bg341 r345 bo346 ht347 r351 r355 r357 r361 r363 ez364 (ht R c1 c2 c3 c4 c5 c6 c7 c8 c9))) (by have qa0 : Int32.toInt 0 = 0 := (by decide); omega)
                · have r365 : o346.toInt ≠ 10 := gj_neq hc362 (show Int32.toInt 10 = 10 by decide)
                  refine G_iload 1 d_cX9_skipBlanks_67 rfl ?_
                  refine G_bipush 13 d_cX9_skipBlanks_69 (by decide +kernel) ?_
                  refine G_icmp_eq 83 d_cX9_skipBlanks_71 (by decide +kernel) (fun hc366 => ?_) (fun hc366 => ?_)
                  · have r367 : o346.toInt = 13 := gj_eq hc366 (show Int32.toInt 13 = 13 by decide)
                    have bo346' : gB o346 13 13 := ⟨by omega, by omega⟩
                    obtain ⟨z368, hz368⟩ : ∃ z : Int32, z = g340 + Int32.ofInt 1 := ⟨_, rfl⟩
                    have ez368 : z368.toInt = g340.toInt + 1 := gI_inc hz368 (by decide) bg340' (by decide) (by decide)
                    have bz368 : gB z368 (-2147483647) 8192 := ⟨by omega, by omega⟩
                    refine G_iinc (L' := [(3, .int z368), (2, .int 0), (4, .int o346), (0, .ref q264), (1, .int p267)]) z368 2 d_cX9_skipBlanks_83 rfl hz368.symm (Nat.le_of_ble_eq_true rfl) rfl ?_
                    refine G_goto 4 d_cX9_skipBlanks_86 (by decide +kernel) ?_
                    refine G_lv (L' := [(3, .int z368), (2, .int 0), (0, .ref q264), (1, .int p267)]) [0, 1, 3, 4] rfl ?_
                    exact ih4_341 z368 0 (gB_w bz368 (by decide) (by decide)) (gB_w (gBl (show Int32.toInt 0 = 0 by decide)) (by decide) (by decide)) (fun k e1 ht => kt4_341 k e1 (fun R c1 c2 c3 c4 c5 c6 c7 c8 c9 => c6 g340 g341 o346 z368 k e1 bg341 r345 bo346 ht347 r351 r355 r357 r361 r365 r367 ez368 (ht R c1 c2 c3 c4 c5 c6 c7 c8 c9))) (by have qa0 : Int32.toInt 0 = 0 := (by decide); omega)
                  · have r369 : o346.toInt ≠ 13 := gj_neq hc366 (show Int32.toInt 13 = 13 by decide)
                    refine G_iload 1 d_cX9_skipBlanks_74 rfl ?_
                    refine G_bipush 32 d_cX9_skipBlanks_76 (by decide +kernel) ?_
                    refine G_icmp_eq 83 d_cX9_skipBlanks_78 (by decide +kernel) (fun hc370 => ?_) (fun hc370 => ?_)
                    · have r371 : o346.toInt = 32 := gj_eq hc370 (show Int32.toInt 32 = 32 by decide)
                      have bo346' : gB o346 32 32 := ⟨by omega, by omega⟩
                      obtain ⟨z372, hz372⟩ : ∃ z : Int32, z = g340 + Int32.ofInt 1 := ⟨_, rfl⟩
                      have ez372 : z372.toInt = g340.toInt + 1 := gI_inc hz372 (by decide) bg340' (by decide) (by decide)
                      have bz372 : gB z372 (-2147483647) 8192 := ⟨by omega, by omega⟩
                      refine G_iinc (L' := [(3, .int z372), (2, .int 0), (4, .int o346), (0, .ref q264), (1, .int p267)]) z372 2 d_cX9_skipBlanks_83 rfl hz372.symm (Nat.le_of_ble_eq_true rfl) rfl ?_
                      refine G_goto 4 d_cX9_skipBlanks_86 (by decide +kernel) ?_
                      refine G_lv (L' := [(3, .int z372), (2, .int 0), (0, .ref q264), (1, .int p267)]) [0, 1, 3, 4] rfl ?_
                      exact ih4_341 z372 0 (gB_w bz372 (by decide) (by decide)) (gB_w (gBl (show Int32.toInt 0 = 0 by decide)) (by decide) (by decide)) (fun k e1 ht => kt4_341 k e1 (fun R c1 c2 c3 c4 c5 c6 c7 c8 c9 => c7 g340 g341 o346 z372 k e1 bg341 r345 bo346 ht347 r351 r355 r357 r361 r365 r369 r371 ez372 (ht R c1 c2 c3 c4 c5 c6 c7 c8 c9))) (by have qa0 : Int32.toInt 0 = 0 := (by decide); omega)
                    · have r373 : o346.toInt ≠ 32 := gj_neq hc370 (show Int32.toInt 32 = 32 by decide)
                      have hx374 : tl_Signs_skipBlanks_4 p272 f273 p267 (0 : Int32) 81 g340 := kt4_341 81 g340 (fun R c1 c2 c3 c4 c5 c6 c7 c8 c9 => c8 g340 g341 o346 bg341 r345 bo346 ht347 r351 r355 r357 r361 r365 r369 r373)
                      refine G_iload_n 2 d_cX9_skipBlanks_81 rfl ?_
                      exact G_iret d_cX9_skipBlanks_82 rfl (Nat.le_of_ble_eq_true rfl) (Nat.le_of_ble_eq_true rfl) ⟨g340, rfl, rfl, (gB_w bg340' (by decide) (by decide)), (fun R c1 c2 => c2 g340 hx374)⟩
            · have r375 : o346.toInt = 59 := gj_eq hc356 (show Int32.toInt 59 = 59 by decide)
              have bo346' : gB o346 59 59 := ⟨by omega, by omega⟩
              refine G_iconst 1 d_cX9_skipBlanks_43 (by decide +kernel) ?_
              refine G_goto 48 d_cX9_skipBlanks_44 (by decide +kernel) ?_
              refine G_istore_n (L' := [(2, .int 1), (4, .int o346), (3, .int g340), (0, .ref q264), (1, .int p267)]) d_cX9_skipBlanks_48 (Nat.le_of_ble_eq_true rfl) rfl ?_
              refine G_iload_n 0 d_cX9_skipBlanks_49 rfl ?_
              refine G_if_ne 83 d_cX9_skipBlanks_50 (by decide +kernel) (fun _ => ?_) (fun hc => absurd hc (by decide))
              obtain ⟨z376, hz376⟩ : ∃ z : Int32, z = g340 + Int32.ofInt 1 := ⟨_, rfl⟩
              have ez376 : z376.toInt = g340.toInt + 1 := gI_inc hz376 (by decide) bg340' (by decide) (by decide)
              have bz376 : gB z376 (-2147483647) 8192 := ⟨by omega, by omega⟩
              refine G_iinc (L' := [(3, .int z376), (2, .int 1), (4, .int o346), (0, .ref q264), (1, .int p267)]) z376 2 d_cX9_skipBlanks_83 rfl hz376.symm (Nat.le_of_ble_eq_true rfl) rfl ?_
              refine G_goto 4 d_cX9_skipBlanks_86 (by decide +kernel) ?_
              refine G_lv (L' := [(3, .int z376), (2, .int 1), (0, .ref q264), (1, .int p267)]) [0, 1, 3, 4] rfl ?_
              exact ih4_341 z376 1 (gB_w bz376 (by decide) (by decide)) (gB_w (gBl (show Int32.toInt 1 = 1 by decide)) (by decide) (by decide)) (fun k e1 ht => kt4_341 k e1 (fun R c1 c2 c3 c4 c5 c6 c7 c8 c9 => c9 g340 g341 o346 z376 k e1 bg341 r345 bo346 ht347 r351 r355 r375 ez376 (ht R c1 c2 c3 c4 c5 c6 c7 c8 c9))) (by have qa0 : Int32.toInt 1 = 1 := (by decide); omega)
  exact hlp4_341 (((2147483648 : Int) - p267.toInt).toNat + 1) p267 0 bp267 (gB_w (gBl (show Int32.toInt 0 = 0 by decide)) (by decide) (by decide)) (fun k e1 ht => ht) (Nat.lt_succ_self _)
/- tr_Math_min: result -/
def tr_Math_min (a0 : Int64) (a1 : Int64) (o1 : Int64) : Prop := ∀ R : (Int64) → Prop,
  (∀ (x1 : Int32), x1 = lg_cmp a0 a1 → 0 < x1.toInt → R a1) →
  (∀ (x1 : Int32), x1 = lg_cmp a0 a1 → x1.toInt ≤ 0 → R a0) →
  R o1
abbrev ky_408_Math_min : gKey := (cJ9_min_f86c9, 4, yJ9_min_f86c9.cls, (some FieldType.long), [], yJ9_min_f86c9.name, fun _ _ => True)
abbrev po_408_Math_min (I : FieldType → ClassId) (pl406 : Int64) (pl407 : Int64) : Option Value → va_W → Prop := fun r w => ∃ (ol413 : Int64), r = some (.long ol413) ∧ w = [] ∧ tr_Math_min pl406 pl407 ol413
set_option maxRecDepth 100000 in
set_option maxHeartbeats 4000000 in
theorem ct_408_Math_min (l : Launch) (hl0 : l.stackTraces = false) (D : va_G) (I : FieldType → ClassId) (pl406 : Int64) (pl407 : Int64)  : Ct (gV D I) l yJ9_min_f86c9 cJ9_min_f86c9 4 (some FieldType.long) 0 0 0 0 [.long pl406, .long pl407] [] (po_408_Math_min I pl406 pl407) gN := by
  refine Ct_ofF hl0 (by decide +kernel) (Nat.le_of_ble_eq_true rfl) ?_
  refine G_lload_n 0 d_cJ9_min_f86c9_0 rfl ?_
  refine G_lload_n 1 d_cJ9_min_f86c9_1 rfl ?_
  refine G_lcmp d_cJ9_min_f86c9_2 (G_nam fun z409 hz409 => ?_)
  have bz409 : gB z409 (-1) 1 := gB_cmp hz409
  refine G_if_gt 10 d_cJ9_min_f86c9_3 (by decide +kernel) (fun hc410 => ?_) (fun hc410 => ?_)
  · have r411 : 0 < z409.toInt := gj_ltL hc410 (show Int32.toInt 0 = 0 by decide)
    have bz409' : gB z409 1 1 := ⟨by omega, by omega⟩
    have lhc410 := gC_cmpS hz409 (by omega)
    refine G_lload_n 1 d_cJ9_min_f86c9_10 rfl ?_
    exact G_lret d_cJ9_min_f86c9_11 rfl (Nat.le_of_ble_eq_true rfl) (Nat.le_of_ble_eq_true rfl) ⟨pl407, rfl, rfl, (fun R c1 c2 => c1 z409 hz409 r411)⟩
  · have r412 : z409.toInt ≤ 0 := gj_nltL hc410 (show Int32.toInt 0 = 0 by decide)
    have bz409' : gB z409 (-1) 0 := ⟨by omega, by omega⟩
    refine G_lload_n 0 d_cJ9_min_f86c9_6 rfl ?_
    refine G_goto 11 d_cJ9_min_f86c9_7 (by decide +kernel) ?_
    exact G_lret d_cJ9_min_f86c9_11 rfl (Nat.le_of_ble_eq_true rfl) (Nat.le_of_ble_eq_true rfl) ⟨pl406, rfl, rfl, (fun R c1 c2 => c2 z409 hz409 r412)⟩
/- tl_Signs_takeDigits_5: l4, l2; out: l4, l2 -/
def tl_Signs_takeDigits_5 (Tape_size : Int32) (Tape_bytes : Nat → Int32) (s1 : Int32) (s2 : Int64) (k : Nat) (e1 : Int32) (e2 : Int64) : Prop := ∀ R : (Int32) → (Int64) → Nat → (Int32) → (Int64) → Prop,
  (∀ (l4_1 : Int32) (l2_1 : Int64), Tape_size.toInt ≤ l4_1.toInt → R l4_1 l2_1 65 l4_1 l2_1) →
  (∀ (l4_1 : Int32) (l2_1 : Int64) (x1 : Int32) (x2 : Int32), l4_1.toInt < Tape_size.toInt → gB x1 (-1) 255 → tr_Tape_byteAt l4_1 Tape_size Tape_bytes x1 → gB x2 0 1 → tr_Signs_isDigit x1 x2 → x2.toInt = 0 → R l4_1 l2_1 65 l4_1 l2_1) →
  (∀ (l4_1 : Int32) (l2_1 : Int64) (x1 : Int32) (x2 : Int32) (x3 : Int64) (x4 : Int32) (x5 : Int64) (x6 : Int64) (x7 : Int64) (x8 : Int64) (x9 : Int32) (k : Nat) (e1 : Int32) (e2 : Int64), l4_1.toInt < Tape_size.toInt → gB x1 (-1) 255 → tr_Tape_byteAt l4_1 Tape_size Tape_bytes x1 → gB x2 0 1 → tr_Signs_isDigit x1 x2 → x2.toInt ≠ 0 → x3 = l2_1 * (10 : Int64) → gB x4 (-1) 255 → tr_Tape_byteAt l4_1 Tape_size Tape_bytes x4 → x5 = x4.toInt64 → x6 = x3 + x5 → x7 = x6 - (48 : Int64) → tr_Math_min x7 (1099511627776 : Int64) x8 → x9.toInt = l4_1.toInt + 1 → R x9 x8 k e1 e2 → R l4_1 l2_1 k e1 e2) →
  R s1 s2 k e1 e2
/- tr_Signs_takeDigits: result, Signs_behind -/
def tr_Signs_takeDigits (a1 : Int32) (Tape_size : Int32) (Tape_bytes : Nat → Int32) (o1 : Int64) (o2 : Int32) : Prop := ∀ R : (Int64) → (Int32) → Prop,
  (∀ (x1 : Int32) (x2 : Int64), tl_Signs_takeDigits_5 Tape_size Tape_bytes a1 (0 : Int64) 65 x1 x2 → R x2 x1) →
  R o1 o2
abbrev ky_389_Signs_takeDigits : gKey := (cX9_takeDigits, 5, yX9_takeDigits.cls, (some FieldType.long), [], yX9_takeDigits.name, fun _ _ => True)
abbrev po_389_Signs_takeDigits (I : FieldType → ClassId) (q378 : Nat) (q379 : Nat) (q380 : Nat) (p381 : Int32) (p382 : Int32) (p383 : Int32) (p384 : Int32) (p385 : Int32) (p386 : Int32) (f387 : Nat → Int32) : Option Value → va_W → Prop := fun r w => ∃ (ol462 : Int64) (o461 : Int32), r = some (.long ol462) ∧ w = [(q378, .inr (14, [.ref q379, .int p382, .int p383, .int p384, .int o461])), (q379, .inr (15, [.ref q380, .int p386])), (q380, .inl (I .byte, 8192, .inl f387))] ∧ gB o461 (-2147483648) 2147483647 ∧ tr_Signs_takeDigits p381 p386 f387 ol462 o461
set_option maxRecDepth 100000 in
set_option maxHeartbeats 4000000 in
theorem ct_389_Signs_takeDigits (l : Launch) (hl0 : l.stackTraces = false) (D : va_G) (I : FieldType → ClassId) (q378 : Nat) (q379 : Nat) (q380 : Nat) (p381 : Int32) (p382 : Int32) (p383 : Int32) (p384 : Int32) (p385 : Int32) (p386 : Int32) (f387 : Nat → Int32) (bp386 : gB p386 0 8192) (bf387 : gF f387 (-128) 127) (x388 : (p382.toInt ≠ 5 ∨ (0 ≤ p383.toInt ∧ p383.toInt ≤ 13))) : Ct (gV D I) l yX9_takeDigits cX9_takeDigits 5 (some FieldType.long) 1 23 0 0 [.ref q378, .int p381] [(q378, .inr (14, [.ref q379, .int p382, .int p383, .int p384, .int p385])), (q379, .inr (15, [.ref q380, .int p386])), (q380, .inl (I .byte, 8192, .inl f387))] (po_389_Signs_takeDigits I q378 q379 q380 p381 p382 p383 p384 p385 p386 f387) gN := by
  refine Ct_of hl0 (by decide) (Nat.le_of_ble_eq_true rfl) ?_
  have bp381 := gB_any p381
  have bp382 := gB_any p382
  have bp383 := gB_any p383
  have bp384 := gB_any p384
  have bp385 := gB_any p385
  refine G_lconst 0 d_cX9_takeDigits_0 rfl ?_
  refine G_lstore_n (L' := [(2, .long 0), (0, .ref q378), (1, .int p381)]) d_cX9_takeDigits_1 (Nat.le_of_ble_eq_true rfl) rfl ?_
  refine G_iload_n 2 d_cX9_takeDigits_2 rfl ?_
  refine G_istore (L' := [(4, .int p381), (2, .long 0), (0, .ref q378), (1, .int p381)]) d_cX9_takeDigits_3 (Nat.le_of_ble_eq_true rfl) rfl ?_
  have hlp5_439 : ∀ (n5_439 : Nat) (g438 : Int32) (gl439 : Int64), gB g438 (-2147483648) 2147483647 → (∀ (k : Nat) (e1 : Int32) (e2 : Int64), tl_Signs_takeDigits_5 p386 f387 g438 gl439 k e1 e2 → tl_Signs_takeDigits_5 p386 f387 p381 (0 : Int64) k e1 e2) → ((2147483648 : Int) - g438.toInt).toNat < n5_439 → G (gV D I) l (gRm 1 23 0 0) (gM (gV D I) (po_389_Signs_takeDigits I q378 q379 q380 p381 p382 p383 p384 p385 p386 f387) gN 0 0) ky_389_Signs_takeDigits 5 [(4, .int g438), (2, .long gl439), (0, .ref q378), (1, .int p381)] [] [(q378, .inr (14, [.ref q379, .int p382, .int p383, .int p384, .int p385])), (q379, .inr (15, [.ref q380, .int p386])), (q380, .inl (I .byte, 8192, .inl f387))] 0 0 := by
    intro n5_439
    induction n5_439 with
    | zero => intro g438 gl439 bg438 kt5_439 hm5_439; exact absurd hm5_439 (Nat.not_lt_zero _)
    | succ n5_439 ih5_439 =>
      intro g438 gl439 bg438 kt5_439 hm5_439
      refine G_iload 0 d_cX9_takeDigits_5 rfl ?_
      refine G_aload_n 2 d_cX9_takeDigits_7 rfl ?_
      refine G_getf 0 0 d_cX9_takeDigits_8 rfl (gk_X9 D I) (Nat.le_of_ble_eq_true rfl) w_1_79 rfl ?_
      refine G_callV (As := []) (wr := [(q378, .inr (14, [.ref q379, .int p382, .int p383, .int p384, .int p385]))]) (gV_ok D I) (ct_5_Tape_size l hl0 D I q379 q380 p386 f387 bp386 bf387) d_cX9_takeDigits_11 ⟨w_3_16, w_1_2, w_3_19, by decide, rfl, (Nat.le_of_ble_eq_true rfl), (Nat.le_of_ble_eq_true rfl)⟩ w_3_17 w_3_18 1 rfl rfl [1, 2] [0] rfl rfl rfl rfl (by decide) (Nat.le_of_ble_eq_true rfl) (Nat.le_of_ble_eq_true rfl) (Nat.le_of_ble_eq_true rfl) (fun r w hp => ?_) (fun _ _ _ z => z.elim)
      obtain ⟨rfl, rfl⟩ := hp
      change G _ _ _ _ _ _ _ (.int p386 :: _) _ _ _
      refine G_ws (ws' := [(q378, .inr (14, [.ref q379, .int p382, .int p383, .int p384, .int p385])), (q379, .inr (15, [.ref q380, .int p386])), (q380, .inl (I .byte, 8192, .inl f387))]) (cs' := 0) (sl' := 0) rfl rfl rfl ?_
      refine G_icmp_ge 65 d_cX9_takeDigits_14 (by decide +kernel) (fun hc440 => ?_) (fun hc440 => ?_)
      · have r441 : p386.toInt ≤ g438.toInt := gC_le hc440
        have bg438' : gB g438 0 2147483647 := ⟨by omega, by omega⟩
        have hx442 : tl_Signs_takeDigits_5 p386 f387 p381 (0 : Int64) 65 g438 gl439 := kt5_439 65 g438 gl439 (fun R c1 c2 c3 => c1 g438 gl439 r441)
        refine G_aload_n 2 d_cX9_takeDigits_65 rfl ?_
        refine G_iload 0 d_cX9_takeDigits_66 rfl ?_
        refine G_putf (ws' := [(q378, .inr (14, [.ref q379, .int p382, .int p383, .int p384, .int g438])), (q379, .inr (15, [.ref q380, .int p386])), (q380, .inl (I .byte, 8192, .inl f387))]) 0 4 d_cX9_takeDigits_68 rfl (gk_X9 D I) (Nat.le_of_ble_eq_true rfl) w_1_83 rfl rfl rfl (Nat.le_of_ble_eq_true rfl) rfl ?_
        refine G_lload_n 1 d_cX9_takeDigits_71 rfl ?_
        exact G_lret d_cX9_takeDigits_72 rfl (Nat.le_of_ble_eq_true rfl) (Nat.le_of_ble_eq_true rfl) ⟨gl439, g438, rfl, rfl, (gB_w bg438' (by decide) (by decide)), (fun R c1 => c1 g438 gl439 hx442)⟩
      · have r443 : g438.toInt < p386.toInt := gC_nle hc440
        have bg438' : gB g438 (-2147483648) 8191 := ⟨by omega, by omega⟩
        refine G_aload_n 2 d_cX9_takeDigits_17 rfl ?_
        refine G_getf 0 0 d_cX9_takeDigits_18 rfl (gk_X9 D I) (Nat.le_of_ble_eq_true rfl) w_1_79 rfl ?_
        refine G_iload 0 d_cX9_takeDigits_21 rfl ?_
        refine G_callV (As := [.int g438]) (wr := [(q378, .inr (14, [.ref q379, .int p382, .int p383, .int p384, .int p385]))]) (gV_ok D I) (ct_31_Tape_byteAt l hl0 D I q379 q380 g438 p386 f387 bp386 bf387) d_cX9_takeDigits_23 ⟨w_3_20, w_1_2, w_3_23, by decide, rfl, (Nat.le_of_ble_eq_true rfl), (Nat.le_of_ble_eq_true rfl)⟩ w_3_21 w_3_22 1 rfl rfl [1, 2] [0] rfl rfl rfl rfl (by decide) (Nat.le_of_ble_eq_true rfl) (Nat.le_of_ble_eq_true rfl) (Nat.le_of_ble_eq_true rfl) (fun r w hp => ?_) (fun _ _ _ z => z.elim)
        obtain ⟨o444, rfl, rfl, bo444, ht445⟩ := hp
        change G _ _ _ _ _ _ _ (.int o444 :: _) _ _ _
        refine G_ws (ws' := [(q378, .inr (14, [.ref q379, .int p382, .int p383, .int p384, .int p385])), (q379, .inr (15, [.ref q380, .int p386])), (q380, .inl (I .byte, 8192, .inl f387))]) (cs' := 0) (sl' := 0) rfl rfl rfl ?_
        refine G_callS (As := [.int o444]) (wr := [(q378, .inr (14, [.ref q379, .int p382, .int p383, .int p384, .int p385])), (q379, .inr (15, [.ref q380, .int p386])), (q380, .inl (I .byte, 8192, .inl f387))]) (gV_ok D I) (ct_247_Signs_isDigit l hl0 D I o444 ) d_cX9_takeDigits_26 ⟨w_3_24, w_1_4, w_3_26, by decide, rfl, (Nat.le_of_ble_eq_true rfl), (Nat.le_of_ble_eq_true rfl)⟩ w_3_25 [] [0, 1, 2] rfl rfl rfl rfl (by decide) (Nat.le_of_ble_eq_true rfl) (Nat.le_of_ble_eq_true rfl) (Nat.le_of_ble_eq_true rfl) (fun r w hp => ?_) (fun _ _ _ z => z.elim)
        obtain ⟨o446, rfl, rfl, bo446, ht447⟩ := hp
        change G _ _ _ _ _ _ _ (.int o446 :: _) _ _ _
        refine G_ws (ws' := [(q378, .inr (14, [.ref q379, .int p382, .int p383, .int p384, .int p385])), (q379, .inr (15, [.ref q380, .int p386])), (q380, .inl (I .byte, 8192, .inl f387))]) (cs' := 0) (sl' := 0) rfl rfl rfl ?_
        refine G_if_eq 65 d_cX9_takeDigits_29 (by decide +kernel) (fun hc448 => ?_) (fun hc448 => ?_)
        · have r449 : o446.toInt = 0 := gj_eq hc448 (show Int32.toInt 0 = 0 by decide)
          have bo446' : gB o446 0 0 := ⟨by omega, by omega⟩
          have hx450 : tl_Signs_takeDigits_5 p386 f387 p381 (0 : Int64) 65 g438 gl439 := kt5_439 65 g438 gl439 (fun R c1 c2 c3 => c2 g438 gl439 o444 o446 r443 bo444 ht445 bo446 ht447 r449)
          refine G_aload_n 2 d_cX9_takeDigits_65 rfl ?_
          refine G_iload 0 d_cX9_takeDigits_66 rfl ?_
          refine G_putf (ws' := [(q378, .inr (14, [.ref q379, .int p382, .int p383, .int p384, .int g438])), (q379, .inr (15, [.ref q380, .int p386])), (q380, .inl (I .byte, 8192, .inl f387))]) 0 4 d_cX9_takeDigits_68 rfl (gk_X9 D I) (Nat.le_of_ble_eq_true rfl) w_1_83 rfl rfl rfl (Nat.le_of_ble_eq_true rfl) rfl ?_
          refine G_lload_n 1 d_cX9_takeDigits_71 rfl ?_
          exact G_lret d_cX9_takeDigits_72 rfl (Nat.le_of_ble_eq_true rfl) (Nat.le_of_ble_eq_true rfl) ⟨gl439, g438, rfl, rfl, (gB_w bg438' (by decide) (by decide)), (fun R c1 => c1 g438 gl439 hx450)⟩
        · have r451 : o446.toInt ≠ 0 := gj_neq hc448 (show Int32.toInt 0 = 0 by decide)
          have bo446' : gB o446 1 1 := ⟨by omega, by omega⟩
          refine G_lload_n 1 d_cX9_takeDigits_32 rfl ?_
          refine G_ldc2 10 d_cX9_takeDigits_33 w_3_35 ?_
          refine G_lmul d_cX9_takeDigits_36 (G_namL fun u452 hu452 => ?_)
          refine G_aload_n 2 d_cX9_takeDigits_37 rfl ?_
          refine G_getf 0 0 d_cX9_takeDigits_38 rfl (gk_X9 D I) (Nat.le_of_ble_eq_true rfl) w_1_79 rfl ?_
          refine G_iload 0 d_cX9_takeDigits_41 rfl ?_
          refine G_callV (As := [.int g438]) (wr := [(q378, .inr (14, [.ref q379, .int p382, .int p383, .int p384, .int p385]))]) (gV_ok D I) (ct_31_Tape_byteAt l hl0 D I q379 q380 g438 p386 f387 bp386 bf387) d_cX9_takeDigits_43 ⟨w_3_20, w_1_2, w_3_23, by decide, rfl, (Nat.le_of_ble_eq_true rfl), (Nat.le_of_ble_eq_true rfl)⟩ w_3_21 w_3_22 1 rfl rfl [1, 2] [0] rfl rfl rfl rfl (by decide) (Nat.le_of_ble_eq_true rfl) (Nat.le_of_ble_eq_true rfl) (Nat.le_of_ble_eq_true rfl) (fun r w hp => ?_) (fun _ _ _ z => z.elim)
          obtain ⟨o453, rfl, rfl, bo453, ht454⟩ := hp
          change G _ _ _ _ _ _ _ (.int o453 :: _) _ _ _
          refine G_ws (ws' := [(q378, .inr (14, [.ref q379, .int p382, .int p383, .int p384, .int p385])), (q379, .inr (15, [.ref q380, .int p386])), (q380, .inl (I .byte, 8192, .inl f387))]) (cs' := 0) (sl' := 0) rfl rfl rfl ?_
          refine G_i2l d_cX9_takeDigits_46 (G_namL fun u455 hu455 => ?_)
          refine G_ladd d_cX9_takeDigits_47 (G_namL fun u456 hu456 => ?_)
          refine G_ldc2 48 d_cX9_takeDigits_48 w_3_36 ?_
          refine G_lsub d_cX9_takeDigits_51 (G_namL fun u457 hu457 => ?_)
          refine G_ldc2 1099511627776 d_cX9_takeDigits_52 w_3_37 ?_
          refine G_callS (As := [.long u457, .long 1099511627776]) (wr := [(q378, .inr (14, [.ref q379, .int p382, .int p383, .int p384, .int p385])), (q379, .inr (15, [.ref q380, .int p386])), (q380, .inl (I .byte, 8192, .inl f387))]) (gV_ok D I) (ct_408_Math_min l hl0 D I u457 1099511627776 ) d_cX9_takeDigits_55 ⟨w_3_38, w_1_6, w_3_40, by decide, rfl, (Nat.le_of_ble_eq_true rfl), (Nat.le_of_ble_eq_true rfl)⟩ w_3_39 [] [0, 1, 2] rfl rfl rfl rfl (by decide) (Nat.le_of_ble_eq_true rfl) (Nat.le_of_ble_eq_true rfl) (Nat.le_of_ble_eq_true rfl) (fun r w hp => ?_) (fun _ _ _ z => z.elim)
          obtain ⟨ol458, rfl, rfl, ht459⟩ := hp
          change G _ _ _ _ _ _ _ (.long ol458 :: _) _ _ _
          refine G_ws (ws' := [(q378, .inr (14, [.ref q379, .int p382, .int p383, .int p384, .int p385])), (q379, .inr (15, [.ref q380, .int p386])), (q380, .inl (I .byte, 8192, .inl f387))]) (cs' := 0) (sl' := 0) rfl rfl rfl ?_
          refine G_lstore_n (L' := [(2, .long ol458), (4, .int g438), (0, .ref q378), (1, .int p381)]) d_cX9_takeDigits_58 (Nat.le_of_ble_eq_true rfl) rfl ?_
          obtain ⟨z460, hz460⟩ : ∃ z : Int32, z = g438 + Int32.ofInt 1 := ⟨_, rfl⟩
          have ez460 : z460.toInt = g438.toInt + 1 := gI_inc hz460 (by decide) bg438' (by decide) (by decide)
          have bz460 : gB z460 (-2147483647) 8192 := ⟨by omega, by omega⟩
          refine G_iinc (L' := [(4, .int z460), (2, .long ol458), (0, .ref q378), (1, .int p381)]) z460 1 d_cX9_takeDigits_59 rfl hz460.symm (Nat.le_of_ble_eq_true rfl) rfl ?_
          refine G_goto 5 d_cX9_takeDigits_62 (by decide +kernel) ?_
          exact ih5_439 z460 ol458 (gB_w bz460 (by decide) (by decide)) (fun k e1 e2 ht => kt5_439 k e1 e2 (fun R c1 c2 c3 => c3 g438 gl439 o444 o446 u452 o453 u455 u456 u457 ol458 z460 k e1 e2 r443 bo444 ht445 bo446 ht447 r451 hu452 bo453 ht454 hu455 hu456 hu457 ht459 ez460 (ht R c1 c2 c3))) (by omega)
  exact hlp5_439 (((2147483648 : Int) - p381.toInt).toNat + 1) p381 0 bp381 (fun k e1 e2 ht => ht) (Nat.lt_succ_self _)
/- tr_Signs_takeNumber: Signs_kind, Signs_value, Signs_behind -/
def tr_Signs_takeNumber (a1 : Int32) (Signs_place : Int32) (Tape_size : Int32) (Tape_bytes : Nat → Int32) (o1 : Int32) (o2 : Int32) (o3 : Int32) : Prop := ∀ R : (Int32) → (Int32) → (Int32) → Prop,
  (∀ (x1 : Int64) (x2 : Int32) (x3 : Int32) (x4 : Int64), a1.toInt = 0 → tr_Signs_takeDigits Signs_place Tape_size Tape_bytes x1 x2 → x3 = x1.toInt32 → x4 = x3.toInt64 → (¬ x4 = x1) → R (0 : Int32) x3 x2) →
  (∀ (x1 : Int64) (x2 : Int32) (x3 : Int32) (x4 : Int64), a1.toInt = 0 → tr_Signs_takeDigits Signs_place Tape_size Tape_bytes x1 x2 → x3 = x1.toInt32 → x4 = x3.toInt64 → x4 = x1 → R (4 : Int32) x3 x2) →
  (∀ (x1 : Int32) (x2 : Int64) (x3 : Int32) (x4 : Int64) (x5 : Int32) (x6 : Int64), a1.toInt ≠ 0 → x1 = Signs_place + (1 : Int32) → tr_Signs_takeDigits x1 Tape_size Tape_bytes x2 x3 → x4 = -x2 → x5 = x4.toInt32 → x6 = x5.toInt64 → (¬ x6 = x4) → R (0 : Int32) x5 x3) →
  (∀ (x1 : Int32) (x2 : Int64) (x3 : Int32) (x4 : Int64) (x5 : Int32) (x6 : Int64), a1.toInt ≠ 0 → x1 = Signs_place + (1 : Int32) → tr_Signs_takeDigits x1 Tape_size Tape_bytes x2 x3 → x4 = -x2 → x5 = x4.toInt32 → x6 = x5.toInt64 → x6 = x4 → R (4 : Int32) x5 x3) →
  R o1 o2 o3
abbrev ky_474_Signs_takeNumber : gKey := (cX9_takeNumber, 6, yX9_takeNumber.cls, none, [], yX9_takeNumber.name, fun _ _ => True)
abbrev po_474_Signs_takeNumber (I : FieldType → ClassId) (q463 : Nat) (q464 : Nat) (q465 : Nat) (p466 : Int32) (p467 : Int32) (p468 : Int32) (p469 : Int32) (p470 : Int32) (p471 : Int32) (f472 : Nat → Int32) : Option Value → va_W → Prop := fun r w => ∃ (o498 : Int32) (o499 : Int32) (o500 : Int32), r = none ∧ w = [(q463, .inr (14, [.ref q464, .int o498, .int o499, .int p469, .int o500])), (q464, .inr (15, [.ref q465, .int p471])), (q465, .inl (I .byte, 8192, .inl f472))] ∧ gB o498 0 4 ∧ gB o499 (-2147483648) 2147483647 ∧ gB o500 (-2147483648) 2147483647 ∧ (o498.toInt ≠ 5 ∨ (0 ≤ o499.toInt ∧ o499.toInt ≤ 13)) ∧ tr_Signs_takeNumber p466 p469 p471 f472 o498 o499 o500
set_option maxRecDepth 100000 in
set_option maxHeartbeats 4000000 in
theorem ct_474_Signs_takeNumber (l : Launch) (hl0 : l.stackTraces = false) (D : va_G) (I : FieldType → ClassId) (q463 : Nat) (q464 : Nat) (q465 : Nat) (p466 : Int32) (p467 : Int32) (p468 : Int32) (p469 : Int32) (p470 : Int32) (p471 : Int32) (f472 : Nat → Int32) (bp466 : gB p466 0 1) (bp471 : gB p471 0 8192) (bf472 : gF f472 (-128) 127) (x473 : (p467.toInt ≠ 5 ∨ (0 ≤ p468.toInt ∧ p468.toInt ≤ 13))) : Ct (gV D I) l yX9_takeNumber cX9_takeNumber 6 none 2 47 0 0 [.ref q463, .int p466] [(q463, .inr (14, [.ref q464, .int p467, .int p468, .int p469, .int p470])), (q464, .inr (15, [.ref q465, .int p471])), (q465, .inl (I .byte, 8192, .inl f472))] (po_474_Signs_takeNumber I q463 q464 q465 p466 p467 p468 p469 p470 p471 f472) gN := by
  refine Ct_of hl0 (by decide) (Nat.le_of_ble_eq_true rfl) ?_
  have bp467 := gB_any p467
  have bp468 := gB_any p468
  have bp469 := gB_any p469
  have bp470 := gB_any p470
  refine G_aload_n 0 d_cX9_takeNumber_0 rfl ?_
  refine G_iload_n 1 d_cX9_takeNumber_1 rfl ?_
  refine G_if_eq 14 d_cX9_takeNumber_2 (by decide +kernel) (fun hc475 => ?_) (fun hc475 => ?_)
  · have r476 : p466.toInt = 0 := gj_eq hc475 (show Int32.toInt 0 = 0 by decide)
    have bp466' : gB p466 0 0 := ⟨by omega, by omega⟩
    refine G_aload_n 0 d_cX9_takeNumber_14 rfl ?_
    refine G_getf 0 3 d_cX9_takeNumber_15 rfl (gk_X9 D I) (Nat.le_of_ble_eq_true rfl) w_1_82 rfl ?_
    refine G_callV (As := [.int p469]) (wr := []) (gV_ok D I) (ct_389_Signs_takeDigits l hl0 D I q463 q464 q465 p469 p467 p468 p469 p470 p471 f472 bp471 bf472 (by omega)) d_cX9_takeNumber_18 ⟨w_3_31, w_1_4, w_3_34, by decide, rfl, (Nat.le_of_ble_eq_true rfl), (Nat.le_of_ble_eq_true rfl)⟩ w_3_33 w_p_2 0 rfl rfl [0, 1, 2] [] rfl rfl rfl rfl (by decide) (Nat.le_of_ble_eq_true rfl) (Nat.le_of_ble_eq_true rfl) (Nat.le_of_ble_eq_true rfl) (fun r w hp => ?_) (fun _ _ _ z => z.elim)
    obtain ⟨ol477, o478, rfl, rfl, bo478, ht479⟩ := hp
    change G _ _ _ _ _ _ _ (.long ol477 :: _) _ _ _
    refine G_ws (ws' := [(q463, .inr (14, [.ref q464, .int p467, .int p468, .int p469, .int o478])), (q464, .inr (15, [.ref q465, .int p471])), (q465, .inl (I .byte, 8192, .inl f472))]) (cs' := 0) (sl' := 0) rfl rfl rfl ?_
    refine G_lstore_n (L' := [(2, .long ol477), (0, .ref q463), (1, .int p466)]) d_cX9_takeNumber_21 (Nat.le_of_ble_eq_true rfl) rfl ?_
    refine G_iload_n 2 d_cX9_takeNumber_22 rfl ?_
    refine G_if_eq 31 d_cX9_takeNumber_23 (by decide +kernel) (fun _ => ?_) (fun hc => absurd (show False by have := gj_neq hc (show Int32.toInt 0 = 0 by decide); omega) not_false)
    refine G_lload_n 0 d_cX9_takeNumber_31 rfl ?_
    refine G_lstore (L' := [(4, .long ol477), (2, .long ol477), (0, .ref q463), (1, .int p466)]) d_cX9_takeNumber_32 (Nat.le_of_ble_eq_true rfl) rfl ?_
    refine G_aload_n 2 d_cX9_takeNumber_34 rfl ?_
    refine G_lload 0 d_cX9_takeNumber_35 rfl ?_
    refine G_l2i d_cX9_takeNumber_37 (G_nam fun z480 hz480 => ?_)
    have bz480 : gB z480 (-2147483648) 2147483647 := gB_any z480
    refine G_putf (ws' := [(q463, .inr (14, [.ref q464, .int p467, .int z480, .int p469, .int o478])), (q464, .inr (15, [.ref q465, .int p471])), (q465, .inl (I .byte, 8192, .inl f472))]) 0 2 d_cX9_takeNumber_38 rfl (gk_X9 D I) (Nat.le_of_ble_eq_true rfl) w_1_81 rfl rfl rfl (Nat.le_of_ble_eq_true rfl) rfl ?_
    refine G_aload_n 2 d_cX9_takeNumber_41 rfl ?_
    refine G_aload_n 2 d_cX9_takeNumber_42 rfl ?_
    refine G_getf 0 2 d_cX9_takeNumber_43 rfl (gk_X9 D I) (Nat.le_of_ble_eq_true rfl) w_1_81 rfl ?_
    refine G_i2l d_cX9_takeNumber_46 (G_namL fun u481 hu481 => ?_)
    refine G_lload 0 d_cX9_takeNumber_47 rfl ?_
    refine G_lcmp d_cX9_takeNumber_49 (G_nam fun z482 hz482 => ?_)
    have bz482 : gB z482 (-1) 1 := gB_cmp hz482
    refine G_if_ne 57 d_cX9_takeNumber_50 (by decide +kernel) (fun hc483 => ?_) (fun hc483 => ?_)
    · have r484 : z482.toInt ≠ 0 := gj_neq hc483 (show Int32.toInt 0 = 0 by decide)
      have lhc483 := gC_cmpN hz482 hc483
      refine G_iconst 0 d_cX9_takeNumber_57 (by decide +kernel) ?_
      refine G_putf (ws' := [(q463, .inr (14, [.ref q464, .int 0, .int z480, .int p469, .int o478])), (q464, .inr (15, [.ref q465, .int p471])), (q465, .inl (I .byte, 8192, .inl f472))]) 0 1 d_cX9_takeNumber_58 rfl (gk_X9 D I) (Nat.le_of_ble_eq_true rfl) w_1_80 rfl rfl rfl (Nat.le_of_ble_eq_true rfl) rfl ?_
      exact G_vret d_cX9_takeNumber_61 rfl (Nat.le_of_ble_eq_true rfl) (Nat.le_of_ble_eq_true rfl) ⟨0, z480, o478, rfl, rfl, (gB_w (gBl (show Int32.toInt 0 = 0 by decide)) (by decide) (by decide)), bz480, bo478, (by have qa0 : Int32.toInt 0 = 0 := (by decide); omega), (fun R c1 c2 c3 c4 => c1 ol477 o478 z480 u481 r476 ht479 hz480 hu481 lhc483)⟩
    · have r485 : z482.toInt = 0 := gj_eq hc483 (show Int32.toInt 0 = 0 by decide)
      have bz482' : gB z482 0 0 := ⟨by omega, by omega⟩
      have lhc483 := gC_cmpE hz482 hc483
      refine G_iconst 4 d_cX9_takeNumber_53 (by decide +kernel) ?_
      refine G_goto 58 d_cX9_takeNumber_54 (by decide +kernel) ?_
      refine G_putf (ws' := [(q463, .inr (14, [.ref q464, .int 4, .int z480, .int p469, .int o478])), (q464, .inr (15, [.ref q465, .int p471])), (q465, .inl (I .byte, 8192, .inl f472))]) 0 1 d_cX9_takeNumber_58 rfl (gk_X9 D I) (Nat.le_of_ble_eq_true rfl) w_1_80 rfl rfl rfl (Nat.le_of_ble_eq_true rfl) rfl ?_
      exact G_vret d_cX9_takeNumber_61 rfl (Nat.le_of_ble_eq_true rfl) (Nat.le_of_ble_eq_true rfl) ⟨4, z480, o478, rfl, rfl, (gB_w (gBl (show Int32.toInt 4 = 4 by decide)) (by decide) (by decide)), bz480, bo478, (by have qa0 : Int32.toInt 4 = 4 := (by decide); omega), (fun R c1 c2 c3 c4 => c2 ol477 o478 z480 u481 r476 ht479 hz480 hu481 lhc483)⟩
  · have r486 : p466.toInt ≠ 0 := gj_neq hc475 (show Int32.toInt 0 = 0 by decide)
    have bp466' : gB p466 1 1 := ⟨by omega, by omega⟩
    refine G_aload_n 0 d_cX9_takeNumber_5 rfl ?_
    refine G_getf 0 3 d_cX9_takeNumber_6 rfl (gk_X9 D I) (Nat.le_of_ble_eq_true rfl) w_1_82 rfl ?_
    refine G_iconst 1 d_cX9_takeNumber_9 (by decide +kernel) ?_
    refine G_iadd d_cX9_takeNumber_10 (G_nam fun z487 hz487 => ?_)
    have bz487 : gB z487 (-2147483648) 2147483647 := gB_any z487
    refine G_goto 18 d_cX9_takeNumber_11 (by decide +kernel) ?_
    refine G_callV (As := [.int z487]) (wr := []) (gV_ok D I) (ct_389_Signs_takeDigits l hl0 D I q463 q464 q465 z487 p467 p468 p469 p470 p471 f472 bp471 bf472 (by omega)) d_cX9_takeNumber_18 ⟨w_3_31, w_1_4, w_3_34, by decide, rfl, (Nat.le_of_ble_eq_true rfl), (Nat.le_of_ble_eq_true rfl)⟩ w_3_33 w_p_2 0 rfl rfl [0, 1, 2] [] rfl rfl rfl rfl (by decide) (Nat.le_of_ble_eq_true rfl) (Nat.le_of_ble_eq_true rfl) (Nat.le_of_ble_eq_true rfl) (fun r w hp => ?_) (fun _ _ _ z => z.elim)
    obtain ⟨ol488, o489, rfl, rfl, bo489, ht490⟩ := hp
    change G _ _ _ _ _ _ _ (.long ol488 :: _) _ _ _
    refine G_ws (ws' := [(q463, .inr (14, [.ref q464, .int p467, .int p468, .int p469, .int o489])), (q464, .inr (15, [.ref q465, .int p471])), (q465, .inl (I .byte, 8192, .inl f472))]) (cs' := 0) (sl' := 0) rfl rfl rfl ?_
    refine G_lstore_n (L' := [(2, .long ol488), (0, .ref q463), (1, .int p466)]) d_cX9_takeNumber_21 (Nat.le_of_ble_eq_true rfl) rfl ?_
    refine G_iload_n 2 d_cX9_takeNumber_22 rfl ?_
    refine G_if_eq 31 d_cX9_takeNumber_23 (by decide +kernel) (fun hc => absurd (show False by have := gj_eq hc (show Int32.toInt 0 = 0 by decide); omega) not_false) (fun _ => ?_)
    refine G_lload_n 0 d_cX9_takeNumber_26 rfl ?_
    refine G_lneg d_cX9_takeNumber_27 (G_namL fun u491 hu491 => ?_)
    refine G_goto 32 d_cX9_takeNumber_28 (by decide +kernel) ?_
    refine G_lstore (L' := [(4, .long u491), (2, .long ol488), (0, .ref q463), (1, .int p466)]) d_cX9_takeNumber_32 (Nat.le_of_ble_eq_true rfl) rfl ?_
    refine G_aload_n 2 d_cX9_takeNumber_34 rfl ?_
    refine G_lload 0 d_cX9_takeNumber_35 rfl ?_
    refine G_l2i d_cX9_takeNumber_37 (G_nam fun z492 hz492 => ?_)
    have bz492 : gB z492 (-2147483648) 2147483647 := gB_any z492
    refine G_putf (ws' := [(q463, .inr (14, [.ref q464, .int p467, .int z492, .int p469, .int o489])), (q464, .inr (15, [.ref q465, .int p471])), (q465, .inl (I .byte, 8192, .inl f472))]) 0 2 d_cX9_takeNumber_38 rfl (gk_X9 D I) (Nat.le_of_ble_eq_true rfl) w_1_81 rfl rfl rfl (Nat.le_of_ble_eq_true rfl) rfl ?_
    refine G_aload_n 2 d_cX9_takeNumber_41 rfl ?_
    refine G_aload_n 2 d_cX9_takeNumber_42 rfl ?_
    refine G_getf 0 2 d_cX9_takeNumber_43 rfl (gk_X9 D I) (Nat.le_of_ble_eq_true rfl) w_1_81 rfl ?_
    refine G_i2l d_cX9_takeNumber_46 (G_namL fun u493 hu493 => ?_)
    refine G_lload 0 d_cX9_takeNumber_47 rfl ?_
    refine G_lcmp d_cX9_takeNumber_49 (G_nam fun z494 hz494 => ?_)
    have bz494 : gB z494 (-1) 1 := gB_cmp hz494
    refine G_if_ne 57 d_cX9_takeNumber_50 (by decide +kernel) (fun hc495 => ?_) (fun hc495 => ?_)
    · have r496 : z494.toInt ≠ 0 := gj_neq hc495 (show Int32.toInt 0 = 0 by decide)
      have lhc495 := gC_cmpN hz494 hc495
      refine G_iconst 0 d_cX9_takeNumber_57 (by decide +kernel) ?_
      refine G_putf (ws' := [(q463, .inr (14, [.ref q464, .int 0, .int z492, .int p469, .int o489])), (q464, .inr (15, [.ref q465, .int p471])), (q465, .inl (I .byte, 8192, .inl f472))]) 0 1 d_cX9_takeNumber_58 rfl (gk_X9 D I) (Nat.le_of_ble_eq_true rfl) w_1_80 rfl rfl rfl (Nat.le_of_ble_eq_true rfl) rfl ?_
      exact G_vret d_cX9_takeNumber_61 rfl (Nat.le_of_ble_eq_true rfl) (Nat.le_of_ble_eq_true rfl) ⟨0, z492, o489, rfl, rfl, (gB_w (gBl (show Int32.toInt 0 = 0 by decide)) (by decide) (by decide)), bz492, bo489, (by have qa0 : Int32.toInt 0 = 0 := (by decide); omega), (fun R c1 c2 c3 c4 => c3 z487 ol488 o489 u491 z492 u493 r486 hz487 ht490 hu491 hz492 hu493 lhc495)⟩
    · have r497 : z494.toInt = 0 := gj_eq hc495 (show Int32.toInt 0 = 0 by decide)
      have bz494' : gB z494 0 0 := ⟨by omega, by omega⟩
      have lhc495 := gC_cmpE hz494 hc495
      refine G_iconst 4 d_cX9_takeNumber_53 (by decide +kernel) ?_
      refine G_goto 58 d_cX9_takeNumber_54 (by decide +kernel) ?_
      refine G_putf (ws' := [(q463, .inr (14, [.ref q464, .int 4, .int z492, .int p469, .int o489])), (q464, .inr (15, [.ref q465, .int p471])), (q465, .inl (I .byte, 8192, .inl f472))]) 0 1 d_cX9_takeNumber_58 rfl (gk_X9 D I) (Nat.le_of_ble_eq_true rfl) w_1_80 rfl rfl rfl (Nat.le_of_ble_eq_true rfl) rfl ?_
      exact G_vret d_cX9_takeNumber_61 rfl (Nat.le_of_ble_eq_true rfl) (Nat.le_of_ble_eq_true rfl) ⟨4, z492, o489, rfl, rfl, (gB_w (gBl (show Int32.toInt 4 = 4 by decide)) (by decide) (by decide)), bz492, bo489, (by have qa0 : Int32.toInt 4 = 4 := (by decide); omega), (fun R c1 c2 c3 c4 => c4 z487 ol488 o489 u491 z492 u493 r486 hz487 ht490 hu491 hz492 hu493 lhc495)⟩
/- tr_Signs_takeNamed: Signs_kind, Signs_value, Signs_behind -/
def tr_Signs_takeNamed (a1 : Int32) (a2 : Int32) (Signs_place : Int32) (Tape_size : Int32) (Tape_bytes : Nat → Int32) (o1 : Int32) (o2 : Int32) (o3 : Int32) : Prop := ∀ R : (Int32) → (Int32) → (Int32) → Prop,
  (∀ (x1 : Int32) (x2 : Int64) (x3 : Int32) (x4 : Int32) (x5 : Int64) (x6 : Int32), x1 = Signs_place + (1 : Int32) → tr_Signs_takeDigits x1 Tape_size Tape_bytes x2 x3 → x4 = x2.toInt32 → x5 = a2.toInt64 → x6 = lg_cmp x2 x5 → 0 ≤ x6.toInt → R (0 : Int32) x4 x3) →
  (∀ (x1 : Int32) (x2 : Int64) (x3 : Int32) (x4 : Int32) (x5 : Int64) (x6 : Int32), x1 = Signs_place + (1 : Int32) → tr_Signs_takeDigits x1 Tape_size Tape_bytes x2 x3 → x4 = x2.toInt32 → x5 = a2.toInt64 → x6 = lg_cmp x2 x5 → x6.toInt < 0 → R a1 x4 x3) →
  R o1 o2 o3
abbrev ky_513_Signs_takeNamed : gKey := (cX9_takeNamed, 5, yX9_takeNamed.cls, none, [], yX9_takeNamed.name, fun _ _ => True)
abbrev po_513_Signs_takeNamed (I : FieldType → ClassId) (q501 : Nat) (q502 : Nat) (q503 : Nat) (p504 : Int32) (p505 : Int32) (p506 : Int32) (p507 : Int32) (p508 : Int32) (p509 : Int32) (p510 : Int32) (f511 : Nat → Int32) : Option Value → va_W → Prop := fun r w => ∃ (o524 : Int32) (o525 : Int32) (o526 : Int32), r = none ∧ w = [(q501, .inr (14, [.ref q502, .int o524, .int o525, .int p508, .int o526])), (q502, .inr (15, [.ref q503, .int p510])), (q503, .inl (I .byte, 8192, .inl f511))] ∧ gB o524 0 3 ∧ gB o525 (-2147483648) 2147483647 ∧ gB o526 (-2147483648) 2147483647 ∧ (o524.toInt ≠ 5 ∨ (0 ≤ o525.toInt ∧ o525.toInt ≤ 13)) ∧ tr_Signs_takeNamed p504 p505 p508 p510 f511 o524 o525 o526
set_option maxRecDepth 100000 in
set_option maxHeartbeats 4000000 in
theorem ct_513_Signs_takeNamed (l : Launch) (hl0 : l.stackTraces = false) (D : va_G) (I : FieldType → ClassId) (q501 : Nat) (q502 : Nat) (q503 : Nat) (p504 : Int32) (p505 : Int32) (p506 : Int32) (p507 : Int32) (p508 : Int32) (p509 : Int32) (p510 : Int32) (f511 : Nat → Int32) (bp504 : gB p504 2 3) (bp510 : gB p510 0 8192) (bf511 : gF f511 (-128) 127) (x512 : (p506.toInt ≠ 5 ∨ (0 ≤ p507.toInt ∧ p507.toInt ≤ 13))) : Ct (gV D I) l yX9_takeNamed cX9_takeNamed 5 none 2 47 0 0 [.ref q501, .int p504, .int p505] [(q501, .inr (14, [.ref q502, .int p506, .int p507, .int p508, .int p509])), (q502, .inr (15, [.ref q503, .int p510])), (q503, .inl (I .byte, 8192, .inl f511))] (po_513_Signs_takeNamed I q501 q502 q503 p504 p505 p506 p507 p508 p509 p510 f511) gN := by
  refine Ct_of hl0 (by decide) (Nat.le_of_ble_eq_true rfl) ?_
  have bp505 := gB_any p505
  have bp506 := gB_any p506
  have bp507 := gB_any p507
  have bp508 := gB_any p508
  have bp509 := gB_any p509
  refine G_aload_n 0 d_cX9_takeNamed_0 rfl ?_
  refine G_aload_n 0 d_cX9_takeNamed_1 rfl ?_
  refine G_getf 0 3 d_cX9_takeNamed_2 rfl (gk_X9 D I) (Nat.le_of_ble_eq_true rfl) w_1_82 rfl ?_
  refine G_iconst 1 d_cX9_takeNamed_5 (by decide +kernel) ?_
  refine G_iadd d_cX9_takeNamed_6 (G_nam fun z514 hz514 => ?_)
  have bz514 : gB z514 (-2147483648) 2147483647 := gB_any z514
  refine G_callV (As := [.int z514]) (wr := []) (gV_ok D I) (ct_389_Signs_takeDigits l hl0 D I q501 q502 q503 z514 p506 p507 p508 p509 p510 f511 bp510 bf511 (by omega)) d_cX9_takeNamed_7 ⟨w_3_31, w_1_4, w_3_34, by decide, rfl, (Nat.le_of_ble_eq_true rfl), (Nat.le_of_ble_eq_true rfl)⟩ w_3_33 w_p_2 0 rfl rfl [0, 1, 2] [] rfl rfl rfl rfl (by decide) (Nat.le_of_ble_eq_true rfl) (Nat.le_of_ble_eq_true rfl) (Nat.le_of_ble_eq_true rfl) (fun r w hp => ?_) (fun _ _ _ z => z.elim)
  obtain ⟨ol515, o516, rfl, rfl, bo516, ht517⟩ := hp
  change G _ _ _ _ _ _ _ (.long ol515 :: _) _ _ _
  refine G_ws (ws' := [(q501, .inr (14, [.ref q502, .int p506, .int p507, .int p508, .int o516])), (q502, .inr (15, [.ref q503, .int p510])), (q503, .inl (I .byte, 8192, .inl f511))]) (cs' := 0) (sl' := 0) rfl rfl rfl ?_
  refine G_lstore_n (L' := [(3, .long ol515), (0, .ref q501), (1, .int p504), (2, .int p505)]) d_cX9_takeNamed_10 (Nat.le_of_ble_eq_true rfl) rfl ?_
  refine G_aload_n 1 d_cX9_takeNamed_11 rfl ?_
  refine G_lload_n 0 d_cX9_takeNamed_12 rfl ?_
  refine G_l2i d_cX9_takeNamed_13 (G_nam fun z518 hz518 => ?_)
  have bz518 : gB z518 (-2147483648) 2147483647 := gB_any z518
  refine G_putf (ws' := [(q501, .inr (14, [.ref q502, .int p506, .int z518, .int p508, .int o516])), (q502, .inr (15, [.ref q503, .int p510])), (q503, .inl (I .byte, 8192, .inl f511))]) 0 2 d_cX9_takeNamed_14 rfl (gk_X9 D I) (Nat.le_of_ble_eq_true rfl) w_1_81 rfl rfl rfl (Nat.le_of_ble_eq_true rfl) rfl ?_
  refine G_aload_n 1 d_cX9_takeNamed_17 rfl ?_
  refine G_lload_n 0 d_cX9_takeNamed_18 rfl ?_
  refine G_iload_n 3 d_cX9_takeNamed_19 rfl ?_
  refine G_i2l d_cX9_takeNamed_20 (G_namL fun u519 hu519 => ?_)
  refine G_lcmp d_cX9_takeNamed_21 (G_nam fun z520 hz520 => ?_)
  have bz520 : gB z520 (-1) 1 := gB_cmp hz520
  refine G_if_ge 29 d_cX9_takeNamed_22 (by decide +kernel) (fun hc521 => ?_) (fun hc521 => ?_)
  · have r522 : 0 ≤ z520.toInt := gj_leL hc521 (show Int32.toInt 0 = 0 by decide)
    have bz520' : gB z520 0 1 := ⟨by omega, by omega⟩
    refine G_iconst 0 d_cX9_takeNamed_29 (by decide +kernel) ?_
    refine G_putf (ws' := [(q501, .inr (14, [.ref q502, .int 0, .int z518, .int p508, .int o516])), (q502, .inr (15, [.ref q503, .int p510])), (q503, .inl (I .byte, 8192, .inl f511))]) 0 1 d_cX9_takeNamed_30 rfl (gk_X9 D I) (Nat.le_of_ble_eq_true rfl) w_1_80 rfl rfl rfl (Nat.le_of_ble_eq_true rfl) rfl ?_
    exact G_vret d_cX9_takeNamed_33 rfl (Nat.le_of_ble_eq_true rfl) (Nat.le_of_ble_eq_true rfl) ⟨0, z518, o516, rfl, rfl, (gB_w (gBl (show Int32.toInt 0 = 0 by decide)) (by decide) (by decide)), bz518, bo516, (by have qa0 : Int32.toInt 0 = 0 := (by decide); omega), (fun R c1 c2 => c1 z514 ol515 o516 z518 u519 z520 hz514 ht517 hz518 hu519 hz520 r522)⟩
  · have r523 : z520.toInt < 0 := gj_nleL hc521 (show Int32.toInt 0 = 0 by decide)
    have bz520' : gB z520 (-1) (-1) := ⟨by omega, by omega⟩
    have lhc521 := gC_cmpS hz520 (by omega)
    refine G_iload_n 2 d_cX9_takeNamed_25 rfl ?_
    refine G_goto 30 d_cX9_takeNamed_26 (by decide +kernel) ?_
    refine G_putf (ws' := [(q501, .inr (14, [.ref q502, .int p504, .int z518, .int p508, .int o516])), (q502, .inr (15, [.ref q503, .int p510])), (q503, .inl (I .byte, 8192, .inl f511))]) 0 1 d_cX9_takeNamed_30 rfl (gk_X9 D I) (Nat.le_of_ble_eq_true rfl) w_1_80 rfl rfl rfl (Nat.le_of_ble_eq_true rfl) rfl ?_
    exact G_vret d_cX9_takeNamed_33 rfl (Nat.le_of_ble_eq_true rfl) (Nat.le_of_ble_eq_true rfl) ⟨p504, z518, o516, rfl, rfl, (gB_w bp504 (by decide) (by decide)), bz518, bo516, (by omega), (fun R c1 c2 => c2 z514 ol515 o516 z518 u519 z520 hz514 ht517 hz518 hu519 hz520 r523)⟩
/- tr_Code_clear: Code_blocks, Code_lines, Code_isFull -/
def tr_Code_clear (o1 : Int32) (o2 : Int32) (o3 : Int32) : Prop := ∀ R : (Int32) → (Int32) → (Int32) → Prop,
  (R (0 : Int32) (0 : Int32) (0 : Int32)) →
  R o1 o2 o3
abbrev ky_549_Code_clear : gKey := (cX0_clear, 1, yX0_clear.cls, none, [], yX0_clear.name, fun _ _ => True)
abbrev po_549_Code_clear (I : FieldType → ClassId) (q527 : Nat) (q528 : Nat) (q529 : Nat) (q530 : Nat) (q531 : Nat) (q532 : Nat) (q533 : Nat) (q534 : Nat) (q535 : Nat) (q536 : Nat) (p537 : Int32) (p538 : Int32) (p539 : Int32) (f540 : Nat → Int32) (f541 : Nat → Int32) (f542 : Nat → Int32) (f543 : Nat → Int32) (f544 : Nat → Int32) (f545 : Nat → Int32) (f546 : Nat → Int32) (f547 : Nat → Int32) (f548 : Nat → Int32) : Option Value → va_W → Prop := fun r w => ∃ (o550 : Int32) (o551 : Int32) (o552 : Int32), r = none ∧ w = [(q527, .inr (5, [.ref q528, .ref q529, .ref q530, .ref q531, .ref q532, .ref q533, .ref q534, .ref q535, .ref q536, .int o550, .int o551, .int o552])), (q528, .inl (I .int, 40, .inl f540)), (q529, .inl (I .int, 40, .inl f541)), (q530, .inl (I .int, 40, .inl f542)), (q531, .inl (I .int, 200, .inl f543)), (q532, .inl (I .int, 200, .inl f544)), (q533, .inl (I .int, 200, .inl f545)), (q534, .inl (I .int, 200, .inl f546)), (q535, .inl (I .int, 200, .inl f547)), (q536, .inl (I .int, 200, .inl f548))] ∧ gB o550 0 0 ∧ gB o551 0 0 ∧ gB o552 0 0 ∧ tr_Code_clear o550 o551 o552
set_option maxRecDepth 100000 in
set_option maxHeartbeats 4000000 in
theorem ct_549_Code_clear (l : Launch) (hl0 : l.stackTraces = false) (D : va_G) (I : FieldType → ClassId) (q527 : Nat) (q528 : Nat) (q529 : Nat) (q530 : Nat) (q531 : Nat) (q532 : Nat) (q533 : Nat) (q534 : Nat) (q535 : Nat) (q536 : Nat) (p537 : Int32) (p538 : Int32) (p539 : Int32) (f540 : Nat → Int32) (f541 : Nat → Int32) (f542 : Nat → Int32) (f543 : Nat → Int32) (f544 : Nat → Int32) (f545 : Nat → Int32) (f546 : Nat → Int32) (f547 : Nat → Int32) (f548 : Nat → Int32) (bp537 : gB p537 0 40) (bp538 : gB p538 0 200) (bp539 : gB p539 0 1) (bf540 : gF f540 0 200) (bf543 : gF f543 0 21) : Ct (gV D I) l yX0_clear cX0_clear 1 none 0 0 0 0 [.ref q527] [(q527, .inr (5, [.ref q528, .ref q529, .ref q530, .ref q531, .ref q532, .ref q533, .ref q534, .ref q535, .ref q536, .int p537, .int p538, .int p539])), (q528, .inl (I .int, 40, .inl f540)), (q529, .inl (I .int, 40, .inl f541)), (q530, .inl (I .int, 40, .inl f542)), (q531, .inl (I .int, 200, .inl f543)), (q532, .inl (I .int, 200, .inl f544)), (q533, .inl (I .int, 200, .inl f545)), (q534, .inl (I .int, 200, .inl f546)), (q535, .inl (I .int, 200, .inl f547)), (q536, .inl (I .int, 200, .inl f548))] (po_549_Code_clear I q527 q528 q529 q530 q531 q532 q533 q534 q535 q536 p537 p538 p539 f540 f541 f542 f543 f544 f545 f546 f547 f548) gN := by
  refine Ct_of hl0 (by decide) (Nat.le_of_ble_eq_true rfl) ?_
  refine G_aload_n 0 d_cX0_clear_0 rfl ?_
  refine G_iconst 0 d_cX0_clear_1 (by decide +kernel) ?_
  refine G_putf (ws' := [(q527, .inr (5, [.ref q528, .ref q529, .ref q530, .ref q531, .ref q532, .ref q533, .ref q534, .ref q535, .ref q536, .int 0, .int p538, .int p539])), (q528, .inl (I .int, 40, .inl f540)), (q529, .inl (I .int, 40, .inl f541)), (q530, .inl (I .int, 40, .inl f542)), (q531, .inl (I .int, 200, .inl f543)), (q532, .inl (I .int, 200, .inl f544)), (q533, .inl (I .int, 200, .inl f545)), (q534, .inl (I .int, 200, .inl f546)), (q535, .inl (I .int, 200, .inl f547)), (q536, .inl (I .int, 200, .inl f548))]) 0 9 d_cX0_clear_2 rfl (gk_X0 D I) (Nat.le_of_ble_eq_true rfl) w_1_187 rfl rfl rfl (Nat.le_of_ble_eq_true rfl) rfl ?_
  refine G_aload_n 0 d_cX0_clear_5 rfl ?_
  refine G_iconst 0 d_cX0_clear_6 (by decide +kernel) ?_
  refine G_putf (ws' := [(q527, .inr (5, [.ref q528, .ref q529, .ref q530, .ref q531, .ref q532, .ref q533, .ref q534, .ref q535, .ref q536, .int 0, .int 0, .int p539])), (q528, .inl (I .int, 40, .inl f540)), (q529, .inl (I .int, 40, .inl f541)), (q530, .inl (I .int, 40, .inl f542)), (q531, .inl (I .int, 200, .inl f543)), (q532, .inl (I .int, 200, .inl f544)), (q533, .inl (I .int, 200, .inl f545)), (q534, .inl (I .int, 200, .inl f546)), (q535, .inl (I .int, 200, .inl f547)), (q536, .inl (I .int, 200, .inl f548))]) 0 10 d_cX0_clear_7 rfl (gk_X0 D I) (Nat.le_of_ble_eq_true rfl) w_1_197 rfl rfl rfl (Nat.le_of_ble_eq_true rfl) rfl ?_
  refine G_aload_n 0 d_cX0_clear_10 rfl ?_
  refine G_iconst 0 d_cX0_clear_11 (by decide +kernel) ?_
  refine G_putf (ws' := [(q527, .inr (5, [.ref q528, .ref q529, .ref q530, .ref q531, .ref q532, .ref q533, .ref q534, .ref q535, .ref q536, .int 0, .int 0, .int 0])), (q528, .inl (I .int, 40, .inl f540)), (q529, .inl (I .int, 40, .inl f541)), (q530, .inl (I .int, 40, .inl f542)), (q531, .inl (I .int, 200, .inl f543)), (q532, .inl (I .int, 200, .inl f544)), (q533, .inl (I .int, 200, .inl f545)), (q534, .inl (I .int, 200, .inl f546)), (q535, .inl (I .int, 200, .inl f547)), (q536, .inl (I .int, 200, .inl f548))]) 0 11 d_cX0_clear_12 rfl (gk_X0 D I) (Nat.le_of_ble_eq_true rfl) w_1_200 rfl rfl rfl (Nat.le_of_ble_eq_true rfl) rfl ?_
  exact G_vret d_cX0_clear_15 rfl (Nat.le_of_ble_eq_true rfl) (Nat.le_of_ble_eq_true rfl) ⟨0, 0, 0, rfl, rfl, (gBl (show Int32.toInt 0 = 0 by decide)), (gBl (show Int32.toInt 0 = 0 by decide)), (gBl (show Int32.toInt 0 = 0 by decide)), (fun R c1 => c1)⟩
/- tr_Code_rows: result -/
def tr_Code_rows (Code_blocks : Int32) (Code_lines : Int32) (o1 : Int32) : Prop := ∀ R : (Int32) → Prop,
  (∀ (x1 : Int32), x1.toInt = Code_lines.toInt - Code_blocks.toInt → R x1) →
  R o1
end
