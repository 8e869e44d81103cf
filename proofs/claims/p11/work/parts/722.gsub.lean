theorem gs_sel {C : String} {x y : MethodName} {s : State} {args : Array Value} {n : Nat} (hy : y.cls ≠ "java/lang/invoke/MethodHandle" ∧ y.cls ≠ "java/lang/invoke/VarHandle") (hins : (Cond.instantiable C n).before args s = true) (hpriv : (Cond.privateMethod y).before args s = true) (hinst : (Cond.instanceMethod y).before args s = true) (hx : (Cond.selects C x x).before args s = true) (hxy : x.cls = y.cls) : (Cond.selects C y y).before args s = true := by
  obtain ⟨c, k, hc, hk, -⟩ := Cond.instantiable_spec hins
  obtain ⟨mk, methM, hnamed, hmethM, -, -⟩ := Cond.instanceMethod_spec hinst
  have hfound : s.methodFound? y.cls y.name y.desc = some mk := State.methodFound?_of_named hnamed hy
  have hsel : selectMethod {} s.vm c mk = .method mk := selectMethod_private hmethM (Cond.privateMethod_at hpriv mk methM hnamed hmethM)
  obtain ⟨c2, r, m, e1, e2, e3, e4, kk, e5, e6⟩ := Cond.selects_spec hx
  have hm : m.cls = mk.cls := by
    have h1 := findClass_of_methodNamed e3
    have h2 := findClass_of_methodNamed hnamed
    rw [hxy] at h1
    exact Option.some.inj (h1.symm.trans h2)
  rw [hm] at e5
  simp only [Cond.before, Cond.holds, Cond.value, hc, hfound, hnamed, hsel, e5]
  simp
  exact e6
theorem G_callVB {l : Launch} {R : Room} {Qf : gFin} {k : gKey} {pc i cs sl b : Nat} {L : List (Nat × Value)} {st As : List Value} {v : gEnv} {y : MethodName} {cc' : ByteArray} {nL' fr' lo' mc' ms' : Nat} {ret' : Option FieldType} {ws wc wr : va_W} {Post' : Option Value → va_W → Nat → Nat → Prop} {XP' : String → Nat → va_W → Nat → Nat → Prop} {C : String} {ci N : Nat} {fs : List Value} {T : u_T} (hv : gOk v) (cp : CtA v l y cc' nL' ret' fr' lo' mc' ms' (.ref b :: As) wc Post' XP') (d : decode k.1 pc = .ok (.invokevirtual i, 3)) (hw : gCw v R k.2.2.1 i y cc' nL' ret' fr' lo' As.length) (w2 : Cond.instanceMethod y ∈ v.2.2.2.2) (w3 : Cond.selects C y y ∈ v.2.2.2.2)
    (q : Nat) (hq : ws[q]? = some (b, .inr (ci, fs))) (hcl : v.2.1[ci]? = some (C, T, N)) (isC isR : List Nat) (hC : isC.map (fun i => ws[i]?) = wc.map some) (hR : isR.map (fun i => ws[i]?) = wr.map some) (hnC : va_nd isC = true) (hn : va_nd isR = true) (hdis : ∀ i ∈ isR, i ∉ isC)
    (hcs : cs + mc' ≤ R.cells) (hsl : sl + ms' ≤ R.slots) (hcat : (st.map fun u => u.category).sum ≤ 8)
    (kk : ∀ r w dc ds, Post' r w dc ds → G v l R Qf k (pc + 3) L (r.toList ++ st) (wr ++ w) (cs + dc) (sl + ds)) (kx : ∀ E q w dc ds, XP' E q w dc ds → GT v l R Qf k pc L st E q (wr ++ w) (cs + dc) (sl + ds)) :
    G v l R Qf k pc L (As.reverse ++ .ref b :: st) ws cs sl := fun p e s m args below meth c A H locs ls C' hP hD hS h => by
  obtain ⟨h1, h2, h3, h4, h5, h6, h7, h8, h9, h10, h11, h12, h13⟩ := id C'
  refine g_backA isC isR hC hR hn hdis C' hP hD hS h (vx_runV (As := As) ⟨h1, h2, h3, h4, h8⟩ (cp H.size) ⟨g_cb hv h8 hw, h8 _ w2, h8 _ w3⟩ ⟨gPre_blind hv _ _ _, ?_, g_pre hv isC hC hnC C' hP hD hS⟩ rfl rfl h.1 rfl (by show 2 * 0 + _ ≤ 8; omega) d ⟨hcs, hsl⟩) kk kx
  exact va_recv h10 hP hcl hq
theorem Gw_callVB {l : Launch} {R : Room} {Qf : gFin} {k : gKey} {pc i cs sl b : Nat} {L : List (Nat × Value)} {st As : List Value} {v : gEnv} {y : MethodName} {cc' : ByteArray} {nL' fr' lo' mc' ms' : Nat} {ret' : Option FieldType} {P : List Nat} {F : Nat → va_E} {Post' : Option Value → va_W → Nat → Nat → Prop} {XP' : String → Nat → va_W → Nat → Nat → Prop} {C : String} {ci N : Nat} {fs : List Value} {T : u_T} (hv : gOk v) (cp : CtA v l y cc' nL' ret' fr' lo' mc' ms' (.ref b :: As) (va_pl P F) Post' XP') (d : decode k.1 pc = .ok (.invokevirtual i, 3)) (hw : gCw v R k.2.2.1 i y cc' nL' ret' fr' lo' As.length) (w2 : Cond.instanceMethod y ∈ v.2.2.2.2) (w3 : Cond.selects C y y ∈ v.2.2.2.2)
    (hb : b ∈ P) (he : F b = .inr (ci, fs)) (hcl : v.2.1[ci]? = some (C, T, N)) (hcs : cs + mc' ≤ R.cells) (hsl : sl + ms' ≤ R.slots) (hcat : (st.map fun u => u.category).sum ≤ 8)
    (kk : ∀ r w dc ds, Post' r w dc ds → G v l R Qf k (pc + 3) L (r.toList ++ st) w (cs + dc) (sl + ds)) (kx : ∀ E q w dc ds, XP' E q w dc ds → GT v l R Qf k pc L st E q w (cs + dc) (sl + ds)) :
    G v l R Qf k pc L (As.reverse ++ .ref b :: st) (va_pl P F) cs sl := by
  obtain ⟨q, hq⟩ := va_pl_get (X := []) (f := F) hb
  exact G_callVB (wr := []) hv cp d hw w2 w3 q (by rw [← he]; exact hq) hcl (List.range (va_pl P F).length) [] (gw_all _) rfl (r_nd _ List.nodup_range) rfl (fun i hi => nomatch hi) hcs hsl hcat kk kx
