/-! contracts of methods with a table that tell how much was made; the model's cell -/
def CtWA (v : gEnv) (l : Launch) (y : MethodName) (cc : ByteArray) (nL : Nat) (ret : Option FieldType) (hh : List (Nat × Nat × Nat × Nat)) (fr lo mc ms : Nat) (av : List Value) (ws : va_W) (Post : Option Value → va_W → Nat → Nat → Prop) (XP : String → Nat → va_W → Nat → Nat → Prop) : Prop :=
  ∀ sz : Nat, vx_Met l y (.codeWith y cc nL ret hh :: v.2.2.2.2) (gRm fr lo mc ms) (gPre v av ws sz) (gQA v Post (va_A ws sz)) (gXA v XP (va_A ws sz)) mc ms (va_A ws sz)
section GEWA
variable {v : gEnv} {l : Launch} {y : MethodName} {cc : ByteArray} {nL fr lo mc ms : Nat} {ret : Option FieldType} {hh : List (Nat × Nat × Nat × Nat)} {av : List Value} {ws : va_W} {Post : Option Value → va_W → Nat → Nat → Prop} {XP : String → Nat → va_W → Nat → Nat → Prop}
set_option maxHeartbeats 1000000 in
theorem CtWA_of (hl0 : l.stackTraces = false) (hy : plainName y.cls = true) (hlen : (lg_sl av).length ≤ nL) (h : G v l (gRm fr lo mc ms) (gMA v Post XP mc ms) (cc, nL, y.cls, ret, tableOf hh, y.name, fun _ _ => True) 0 (lv_args 0 av) [] ws 0 0) :
    CtWA v l y cc nL ret hh fr lo mc ms av ws Post XP := by
  intro sz
  refine vx_ofWH (cc := cc) (maxL := nL) (ret := ret) (hh := hh) hy rfl ?_
  intro p e s m args below meth c s₁ B hml hpre
  obtain ⟨rfl, hsz, hP, hK, hD, hE⟩ := hpre
  subst hsz
  have hts := atoms_spec (ws := .codeWith y cc nL ret hh :: v.2.2.2.2) B.pre
  have ht := vx_table (x := y) B (hts _ List.mem_cons_self)
  have hl := lv_entry av (n := nL) hlen
  rw [lg_entry_eq]
  generalize (lg_sl av ++ List.replicate (nL - (lg_sl av).length) Slot.unset).toArray = ls at hl ⊢
  exact h p e s m av.toArray below meth c (va_A ws s.heap.size) s.heap [] ls ⟨B.exec, B.bytes, hml, findClass_of_methodNamed B.named, B.returns, ht, (name_of_methodNamed B.named B.method).1, fun w hw => hts w (List.mem_cons_of_mem _ hw), B.notSynchronized, hK, fun q hq => Or.inr hq, hE, hl0, trivial⟩ hP hD.self va_S.rf hl
end GEWA
section GCWA
variable {v : gEnv} {l : Launch} {R : Room} {Qf : gFin} {k : gKey} {pc cs sl : Nat} {L : List (Nat × Value)} {st : List Value} {ws wc wr : va_W}
variable {y : MethodName} {cc' : ByteArray} {nL' fr' lo' mc' ms' i b : Nat} {ret' : Option FieldType} {hh : List (Nat × Nat × Nat × Nat)} {As : List Value} {Post' : Option Value → va_W → Nat → Nat → Prop} {XP' : String → Nat → va_W → Nat → Nat → Prop}
theorem G_callVWA {ci N : Nat} {fs : List Value} {T : u_T} (hv : gOk v) (cp : CtWA v l y cc' nL' ret' hh fr' lo' mc' ms' (.ref b :: As) wc Post' XP') (d : decode k.1 pc = .ok (.invokevirtual i, 3)) (hw : gCwT v R k.2.2.1 i y cc' nL' ret' hh fr' lo' As.length) (w2 : Cond.instanceMethod y ∈ v.2.2.2.2) (w3 : Cond.selects y.cls y y ∈ v.2.2.2.2)
    (q : Nat) (hq : ws[q]? = some (b, .inr (ci, fs))) (hcl : v.2.1[ci]? = some (y.cls, T, N)) (isC isR : List Nat) (hC : isC.map (fun i => ws[i]?) = wc.map some) (hR : isR.map (fun i => ws[i]?) = wr.map some) (hnC : va_nd isC = true) (hn : va_nd isR = true) (hdis : ∀ i ∈ isR, i ∉ isC)
    (hcs : cs + mc' ≤ R.cells) (hsl : sl + ms' ≤ R.slots) (hcat : (st.map fun u => u.category).sum ≤ 8)
    (kk : ∀ r w dc ds, Post' r w dc ds → G v l R Qf k (pc + 3) L (r.toList ++ st) (wr ++ w) (cs + dc) (sl + ds)) (kx : ∀ E q w dc ds, XP' E q w dc ds → GT v l R Qf k pc L st E q (wr ++ w) (cs + dc) (sl + ds)) :
    G v l R Qf k pc L (As.reverse ++ .ref b :: st) ws cs sl := fun p e s m args below meth c A H locs ls C hP hD hS h => by
  obtain ⟨h1, h2, h3, h4, h5, h6, h7, h8, h9, h10, h11, h12, h13⟩ := id C
  obtain ⟨g1, g2, g3, g4, g5, g6⟩ := g_wt (mc' := mc') (ms' := ms') hv h8 hw
  exact g_backA isC isR hC hR hn hdis C hP hD hS h (vx_runVX (As := As) (hh := hh) ⟨h1, h2, h3, h4, h8⟩ (cp H.size) ⟨g1, g2, g3, g4, g5, g6, h8 _ w2, h8 _ w3⟩ ⟨gPre_blind hv _ _ _, va_recv h10 hP hcl hq, g_pre hv isC hC hnC C hP hD hS⟩ rfl rfl h.1 rfl (by show 2 * 0 + _ ≤ 8; omega) d ⟨hcs, hsl⟩) kk kx
end GCWA
/-- the model's cell -/
abbrev mdE (γ : Nat → Nat → Nat) (r28 r35 : Nat) (v9 v10 v11 v12 v13 v14 v23 v24 v25 v26 v27 v30 v32 v33 v34 : Int32) : va_E := .inr (22, [.ref (γ 9 0), .ref (γ 9 1), .ref (γ 9 2), .ref (γ 9 3), .ref (γ 9 4), .ref (γ 9 5), .ref (γ 9 6), .ref (γ 9 7), .ref (γ 9 8), .int v9, .int v10, .int v11, .int v12, .int v13, .int v14, .ref (γ 9 15), .ref (γ 9 16), .ref (γ 9 17), .ref (γ 9 18), .ref (γ 9 19), .ref (γ 9 20), .ref (γ 9 21), .ref (γ 9 22), .int v23, .int v24, .int v25, .int v26, .int v27, .ref r28, .ref (γ 9 29), .int v30, .ref (γ 9 31), .int v32, .int v33, .int v34, .ref r35])
def mdK (γ : Nat → Nat → Nat) (r28 r35 : Nat) : Prop := rKd γ r28 98 ∧ rKd γ r35 96 ∧ rKd γ (γ 9 0) 12 ∧ rKd γ (γ 9 1) 13 ∧ rKd γ (γ 9 2) 35 ∧ rKd γ (γ 9 3) 14 ∧ rKd γ (γ 9 4) 16 ∧ rKd γ (γ 9 5) 17 ∧ rKd γ (γ 9 6) 9 ∧ rKd γ (γ 9 7) 9 ∧ rKd γ (γ 9 8) 9 ∧ rKd γ (γ 9 15) 18 ∧ rKd γ (γ 9 16) 19 ∧ rKd γ (γ 9 17) 20 ∧ rKd γ (γ 9 18) 15 ∧ rKd γ (γ 9 19) 21 ∧ rKd γ (γ 9 20) 22 ∧ rKd γ (γ 9 21) 23 ∧ rKd γ (γ 9 22) 97 ∧ rKd γ (γ 9 29) 28 ∧ rKd γ (γ 9 31) 99 ∧ rF1 γ (γ 9 6) 0 ∧ rF1 γ (γ 9 7) 1 ∧ rF1 γ (γ 9 8) 2
section MDE
variable {D : va_G} {I : FieldType → ClassId} {P P1 : List Nat} {F F1 : Nat → va_E} {γ el : Nat → Nat → Nat} {m r28 r35 : Nat} {v9 v10 v11 v12 v13 v14 v23 v24 v25 v26 v27 v30 v32 v33 v34 : Int32}
theorem rk10_m {e : va_E} (h : rk_10 γ e) : ∃ (r28 r35 : Nat) (v9 v10 v11 v12 v13 v14 v23 v24 v25 v26 v27 v30 v32 v33 v34 : Int32), e = mdE γ r28 r35 v9 v10 v11 v12 v13 v14 v23 v24 v25 v26 v27 v30 v32 v33 v34 ∧ rM1 v9 v10 v11 v14 v25 v26 v27 v32 v34 ∧ mdK γ r28 r35 ∧ rM2 γ v9 v10 v34 r35 := by
  obtain ⟨r28, r35, v9, v10, v11, v12, v13, v14, v23, v24, v25, v26, v27, v30, v32, v33, v34, h0, h1, h2, h3, h4, h5, h6, h7, h8, h9, h10, h11, h12, h13, h14, h15, h16, h17, h18, h19, h20, h21, h22, h23, h24, h25, h26⟩ := h
  exact ⟨r28, r35, v9, v10, v11, v12, v13, v14, v23, v24, v25, v26, v27, v30, v32, v33, v34, h0, h1, ⟨h2, h3, h4, h5, h6, h7, h8, h9, h10, h11, h12, h13, h14, h15, h16, h17, h18, h19, h20, h21, h22, h23, h24, h25⟩, h26⟩
theorem rk10_b {e : va_E} (h0 : e = mdE γ r28 r35 v9 v10 v11 v12 v13 v14 v23 v24 v25 v26 v27 v30 v32 v33 v34) (h1 : rM1 v9 v10 v11 v14 v25 v26 v27 v32 v34) (hk : mdK γ r28 r35) (h26 : rM2 γ v9 v10 v34 r35) : rk_10 γ e := by
  obtain ⟨h2, h3, h4, h5, h6, h7, h8, h9, h10, h11, h12, h13, h14, h15, h16, h17, h18, h19, h20, h21, h22, h23, h24, h25⟩ := hk
  exact ⟨r28, r35, v9, v10, v11, v12, v13, v14, v23, v24, v25, v26, v27, v30, v32, v33, v34, h0, h1, h2, h3, h4, h5, h6, h7, h8, h9, h10, h11, h12, h13, h14, h15, h16, h17, h18, h19, h20, h21, h22, h23, h24, h25, h26⟩
/-- the model's cell was written -/
theorem RS_md (hT : RS D I P F γ el) (hm : γ 0 m = 10) (n : ∀ b, b ≠ m → F1 b = F b) (h0 : F1 m = mdE γ r28 r35 v9 v10 v11 v12 v13 v14 v23 v24 v25 v26 v27 v30 v32 v33 v34) (h1 : rM1 v9 v10 v11 v14 v25 v26 v27 v32 v34) (hk : mdK γ r28 r35) (h2 : rM2 γ v9 v10 v34 r35) : RS D I P F1 γ el :=
  RS_set hT n hm (by decide) (rk10_b h0 h1 hk h2)
end MDE
/-- what text leaves of the program: it holds what the tape says, or the tape says none -/
def txQ (γ el : Nat → Nat → Nat) (F : Nat → va_E) (m c : Nat) (B : Int → Int) (n : Int) : Prop := ((fI (F m) 9).toInt = 1 ∧ ∃ Q, okP B n Q ∧ rfP γ el F c Q) ∨ ((fI (F m) 9).toInt = 0 ∧ ∀ Q, ¬ okP B n Q)
theorem rfP_ow {D : va_G} {I : FieldType → ClassId} {P : List Nat} {F F1 : Nat → va_E} {γ el : Nat → Nat → Nat} {c f : Nat} {Q : gPg} {W : List Nat} (hT : RS D I P F γ el) (h : rfP γ el F c Q) (c0 : γ 0 c = 9) (c1 : γ 1 c = f) (h6 : 0 < γ 6 f) (hfr : rFr W P F F1) (hW : ∀ w, w ∈ W → γ 0 w ≠ 1 ∧ γ 0 w ≠ 2 ∧ γ 0 w ≠ 9) : rfP γ el F1 c Q := by
  obtain ⟨lb, lr, rn, md, w1, ⟨g1, g2, g3⟩, w3, w4, w5, w6, w7, w8, w9, w10, w11, w12, w13, w14, -⟩ := show rk_9 γ el c (F c) from RS_o hT c0
  obtain ⟨h1, h2⟩ := h
  have e : F1 c = F c := hfr c (hT.1 c (by omega)) (fun z => (hW c z).2.2 c0)
  refine ⟨by rw [e]; exact h1, rfI_ow hT h2 (fun i hi => ?_) hfr (fun w hw => ⟨(hW w hw).1, (hW w hw).2.1⟩)⟩
  have h3 : md.toInt = (Q.1 : Int) := by rw [w1] at h1; exact h1
  rw [g1]
  exact (w14 i (by omega)).resolve_right (fun z => by rw [c1] at z; omega)
/-- what text leaves -/
def txP (D : va_G) (I : FieldType → ClassId) (P : List Nat) (F : Nat → va_E) (γ el : Nat → Nat → Nat) (m : Nat) : Option Value → va_W → Nat → Nat → Prop := fun r w dc ds => ∃ (P1 : List Nat) (F1 : Nat → va_E) (γ1 el1 : Nat → Nat → Nat) (x : Int32),
  r = some (.int x) ∧ w = va_pl P1 F1 ∧ rSk 0 pgK (10 :: pgF) D I P F γ el P1 F1 γ1 el1 ∧ γ1 7 0 = 0 ∧ ((fI (F1 m) 9).toInt = 0 ∨ (0 < γ1 6 0 ∧ γ1 16 0 ≤ 160)) ∧ ((fI (F1 m) 10).toInt = 0 ∨ fI (F1 m) 10 = fI (F m) 10) ∧ (fI (F1 m) 32).toInt = 0 ∧
  18 * (dc : Int) + (rPh γ el 0 : Int) ≤ (rPh γ1 el1 0 : Int) + 360 * (fI (F m) 32).toInt + 1100 ∧ (ds : Int) + (rPh γ el 0 : Int) ≤ (rPh γ1 el1 0 : Int) + 232 * (fI (F m) 32).toInt + 1100 ∧ (rM γ1 el1 0 : Int) ≤ (rM γ el 0 : Int) + 41 * (fI (F m) 32).toInt + 300 ∧ fR (F1 m) 35 = fR (F m) 35 ∧ ∃ ft, F (γ 9 31) = .inl (I .byte, 8192, .inl ft) ∧ gF ft (-128) 127 ∧ txQ γ1 el1 F1 m (γ 9 6) (bA ft (fI (F m) 32).toInt) (fI (F m) 32).toInt ∧ mO (F1 m) = mO (F m) ∧ (((fI (F1 m) 9).toInt = 0 ∧ fI (F1 m) 10 = fI (F m) 10) ∨ ((fI (F1 m) 9).toInt = 1 ∧ (fI (F1 m) 10).toInt = 0))
section TXN
variable {M n a cs1 sl1 mc ms Φ0 R0 : Int}
theorem txA (hM : R0 + 41 * n + 600 ≤ M) (hMC : M + 360 * n + 1200 ≤ 18 * mc + Φ0) (hMS : M + 232 * n + 1400 ≤ ms + Φ0) (h0 : 0 ≤ a) (han : a ≤ n) (hc : cs1 ≤ 16 * a + 3) (hs : sl1 ≤ 160 * a + 46) (sz : Φ0 + 100 ≤ R0) :
    R0 + 41 * (n - a) + 600 ≤ M ∧ M + 360 * (n - a) + 1000 ≤ 18 * (mc - cs1) + Φ0 ∧ M + 192 * (n - a) + 40 * n + 1200 ≤ (ms - sl1) + Φ0 ∧ cs1 ≤ mc ∧ sl1 ≤ ms := ⟨by omega, by omega, by omega, by omega, by omega⟩
theorem txB {dc ds Φ1 R1 : Int} (hM : R0 + 41 * n + 600 ≤ M) (hMC : M + 360 * n + 1200 ≤ 18 * mc + Φ0) (hMS : M + 232 * n + 1400 ≤ ms + Φ0) (h0 : 0 ≤ a) (han : a ≤ n) (hc : cs1 ≤ 16 * a + 3) (hs : sl1 ≤ 160 * a + 46)
    (e1 : 18 * dc + Φ0 ≤ Φ1 + 360 * (n - a) + 900) (e2 : ds + Φ0 ≤ Φ1 + 192 * (n - a) + 40 * n + 900) (e3 : R1 ≤ R0 + 41 * (n - a) + 300) (sz : Φ1 + 100 ≤ R1) :
    cs1 + dc ≤ mc ∧ sl1 + ds ≤ ms ∧ 18 * (cs1 + dc) + Φ0 ≤ Φ1 + 360 * n + 1100 ∧ (sl1 + ds) + Φ0 ≤ Φ1 + 232 * n + 1100 ∧ R1 ≤ R0 + 41 * n + 300 := ⟨by omega, by omega, by omega, by omega, by omega⟩
end TXN
