section GZR
variable {D : va_G} {I : FieldType → ClassId} {P : List Nat} {F : Nat → va_E} {γ0 el0 : Nat → Nat → Nat} {f : Nat} {Q : gPg}
theorem ldT_Z (hb : ∀ b, b < Q.1 → blC (Q.2.1 b) (Q.2.2.1 b) (Q.2.2.2 b)) : ldT (pgZ Q) := fun b i hb1 hi h17 => by
  have old : ∀ b j, b < Q.1 → j < Q.2.1 b → Q.2.2.1 b j 0 ≠ 17 := fun b j h1 h2 => by
    obtain ⟨c0, c1, c2, c3⟩ := hb b h1
    by_cases e : j + 1 < Q.2.1 b
    · have := (c1 j e).1; omega
    · rw [show Q.2.1 b - 1 = j by omega] at c3
      rcases c3 with c3 | c3 | c3 <;> omega
  have hi2 : i < if b = 0 then cntP (lz Q) 100 + Q.2.1 0 else Q.2.1 b := hi
  have h17' : (if b = 0 then (if i < cntP (lz Q) 100 then mkL 14 (nthT (lz Q) 100 i : Int) (-1) 0 (-1) 0 else Q.2.2.1 0 (i - cntP (lz Q) 100)) else Q.2.2.1 b i) 0 = 17 := h17
  have hb2 : b < Q.1 := hb1
  by_cases e : b = 0
  · rw [if_pos e] at hi2 h17'
    by_cases g : i < cntP (lz Q) 100
    · rw [if_pos g] at h17'; exact absurd (show (14 : Int) = 17 from h17') (by decide)
    · rw [if_neg g] at h17'; exact absurd h17' (old 0 _ (by omega) (by omega))
  · rw [if_neg e] at hi2 h17'
    exact absurd h17' (old b i hb2 hi2)
theorem gal_r {q0 : Nat} {q1 : Nat} {a2 : Int32} {o1 : Int32} {o2 : List Nat} {o3 : Nat → va_E} {o4 : Nat → Nat → Nat} {o5 : Nat → Nat → Nat} (hT : RS D I P F γ0 el0) (hm : γ0 0 q0 = 10) (hc : γ0 0 q1 = 9) (hcf : γ0 1 q1 = f) (hQ6 : γ0 6 f = Q.1) (hq : rfW γ0 el0 F q1 Q) (hO : qOk Q) (hbl : ∀ b, b < Q.1 → blC (Q.2.1 b) (Q.2.2.1 b) (Q.2.2.2 b)) (hgi : gvI (pgZ Q) 100) (hQ40 : Q.1 ≤ 40) (hP0 : 0 < Q.1) (hT100 : ∀ v, 100 ≤ v → ¬ lz Q v) (hk1 : 1 ≤ a2.toInt) (hk2 : a2.toInt ≤ 32) (h : tr_RModel_giveAll D I γ0 el0 f P F q0 q1 a2 o1 o2 o3 o4 o5) : ∃ Z, GVr a2.toInt (dpt Q) 40 1 (pgZ Q) 100 0 o1.toInt Z ∧ ((1 ≤ o1.toInt ∧ (okZ a2.toInt Z → rfX o4 o5 o3 q1 (fnP Z) ∧ kdX γ0 o4 f q0 q1 Z.1)) ∨ o1.toInt = -1) := by
  refine h (fun o1 o2 o3 o4 o5 => ∃ Z, GVr a2.toInt (dpt Q) 40 1 (pgZ Q) 100 0 o1.toInt Z ∧ ((1 ≤ o1.toInt ∧ (okZ a2.toInt Z → rfX o4 o5 o3 q1 (fnP Z) ∧ kdX γ0 o4 f q0 q1 Z.1)) ∨ o1.toInt = -1)) ?_ ?_ ?_ ?_
  · intro x1 x2 x3 x4 x5 x6 x7 x8 x9 x10 x11 x12 x13 x14 h1 h2 h3 h4 h5 h6 h7 h8 h9 h10 h11 h12 h13 h14 h15 h16 h17 h18
    have eg := h1
    have ee := h2
    subst eg
    subst ee
    have f6 : ∀ a, a ≠ q0 → x6 a = F a := fun a ha => by rw [h9 a ha, h7 a ha, h5 a ha, h3 a ha]
    obtain ⟨r28, r35, v9, v10, v11, v12, v13, v14, v23, v24, v25, v26, v27, v30, v32, v33, v34, he, ⟨m1, m2, m3, m4, m5⟩, hK, hM2⟩ := rk10_m (show rk_10 x1 (F q0) from RS_o hT hm)
    have e6 : x6 q0 = mdE x1 r28 r35 v9 v10 0 0 0 100 v23 v24 v25 v26 v27 v30 v32 v33 v34 := by rw [h10, h8, h6, h4, he]; rfl
    have T6 : RS D I P x6 x1 x2 := RS_md hT hm f6 e6 ⟨m1, m2, ⟨by decide, by decide⟩, ⟨by decide, by decide⟩, m5⟩ hK hM2
    have hB := hB2_ hT hc hcf hQ6
    have q6 : rfX x1 x2 x6 q1 Q := rfX_fr hT hc hcf hQ6 (rfX_W.mpr hq) (fun a ha => f6 a (fun e => by rw [e, hm] at ha; omega))
    obtain ⟨z1, z2⟩ := zr_tr T6 hm hc hcf hQ6 hP0 hQ40 (rfX_W.mp q6) hO hB hT100 h17
    have skZ := h11
    have e8 : x8 q0 = x6 q0 := h16
    obtain ⟨r, Z, r1, r2, r3⟩ := ga28_r (dp := dpt Q) hk1 hk2 h18 (pgZ Q) 100 0 1 (by decide) (Nat.le_refl _) (by decide) (rfX_W.mpr z1) (qZ hO hP0) hgi (ldT_Z hbl) ⟨rSk_k skZ (show rKd x1 q1 9 from hc) (by decide) (by decide), rSk_1 skZ (show rKd x1 q1 9 from hc) (by decide) hcf, rSk_k skZ (show rKd x1 q0 10 from hm) (by decide) (by decide), rSk_9 skZ, (h12).trans hQ6⟩ dptZ (by rw [e8, e6]; rfl) (by rw [e8, e6]; rfl)
    rw [r3 (by decide)] at r1
    exact ⟨Z, r1, Or.inr (by decide)⟩
  · intro x1 x2 x3 x4 x5 x6 x7 x8 x9 x10 x11 x12 x13 x14 h1 h2 h3 h4 h5 h6 h7 h8 h9 h10 h11 h12 h13 h14 h15 h16 h17 h18
    have eg := h1
    have ee := h2
    subst eg
    subst ee
    have f6 : ∀ a, a ≠ q0 → x6 a = F a := fun a ha => by rw [h9 a ha, h7 a ha, h5 a ha, h3 a ha]
    obtain ⟨r28, r35, v9, v10, v11, v12, v13, v14, v23, v24, v25, v26, v27, v30, v32, v33, v34, he, ⟨m1, m2, m3, m4, m5⟩, hK, hM2⟩ := rk10_m (show rk_10 x1 (F q0) from RS_o hT hm)
    have e6 : x6 q0 = mdE x1 r28 r35 v9 v10 0 0 0 100 v23 v24 v25 v26 v27 v30 v32 v33 v34 := by rw [h10, h8, h6, h4, he]; rfl
    have T6 : RS D I P x6 x1 x2 := RS_md hT hm f6 e6 ⟨m1, m2, ⟨by decide, by decide⟩, ⟨by decide, by decide⟩, m5⟩ hK hM2
    have hB := hB2_ hT hc hcf hQ6
    have q6 : rfX x1 x2 x6 q1 Q := rfX_fr hT hc hcf hQ6 (rfX_W.mpr hq) (fun a ha => f6 a (fun e => by rw [e, hm] at ha; omega))
    obtain ⟨z1, z2⟩ := zr_tr T6 hm hc hcf hQ6 hP0 hQ40 (rfX_W.mp q6) hO hB hT100 h17
    have skZ := h11
    have e8 : x8 q0 = x6 q0 := h16
    obtain ⟨r, Z, r1, r2, r3⟩ := ga28_r (dp := dpt Q) hk1 hk2 h18 (pgZ Q) 100 0 1 (by decide) (Nat.le_refl _) (by decide) (rfX_W.mpr z1) (qZ hO hP0) hgi (ldT_Z hbl) ⟨rSk_k skZ (show rKd x1 q1 9 from hc) (by decide) (by decide), rSk_1 skZ (show rKd x1 q1 9 from hc) (by decide) hcf, rSk_k skZ (show rKd x1 q0 10 from hm) (by decide) (by decide), rSk_9 skZ, (h12).trans hQ6⟩ dptZ (by rw [e8, e6]; rfl) (by rw [e8, e6]; rfl)
    rw [r3 (by decide)] at r1
    exact ⟨Z, r1, Or.inr (by decide)⟩
  · intro x1 x2 x3 x4 x5 x6 x7 x8 x9 x10 x11 x12 x13 x14 x15 x16 x17 x18 x19 x20 h1 h2 h3 h4 h5 h6 h7 h8 h9 h10 h11 h12 h13 h14 h15 h16 h17 h18 h19 h20 h21 h22 h23 h24
    have eg := h1
    have ee := h2
    subst eg
    subst ee
    have f6 : ∀ a, a ≠ q0 → x6 a = F a := fun a ha => by rw [h9 a ha, h7 a ha, h5 a ha, h3 a ha]
    obtain ⟨r28, r35, v9, v10, v11, v12, v13, v14, v23, v24, v25, v26, v27, v30, v32, v33, v34, he, ⟨m1, m2, m3, m4, m5⟩, hK, hM2⟩ := rk10_m (show rk_10 x1 (F q0) from RS_o hT hm)
    have e6 : x6 q0 = mdE x1 r28 r35 v9 v10 0 0 0 100 v23 v24 v25 v26 v27 v30 v32 v33 v34 := by rw [h10, h8, h6, h4, he]; rfl
    have T6 : RS D I P x6 x1 x2 := RS_md hT hm f6 e6 ⟨m1, m2, ⟨by decide, by decide⟩, ⟨by decide, by decide⟩, m5⟩ hK hM2
    have hB := hB2_ hT hc hcf hQ6
    have q6 : rfX x1 x2 x6 q1 Q := rfX_fr hT hc hcf hQ6 (rfX_W.mpr hq) (fun a ha => f6 a (fun e => by rw [e, hm] at ha; omega))
    obtain ⟨z1, z2⟩ := zr_tr T6 hm hc hcf hQ6 hP0 hQ40 (rfX_W.mp q6) hO hB hT100 h17
    have skZ := h11
    have e8 : x8 q0 = x6 q0 := h16
    obtain ⟨r, Z, r1, r2, r3⟩ := ga28_r (dp := dpt Q) hk1 hk2 h18 (pgZ Q) 100 0 1 (by decide) (Nat.le_refl _) (by decide) (rfX_W.mpr z1) (qZ hO hP0) hgi (ldT_Z hbl) ⟨rSk_k skZ (show rKd x1 q1 9 from hc) (by decide) (by decide), rSk_1 skZ (show rKd x1 q1 9 from hc) (by decide) hcf, rSk_k skZ (show rKd x1 q0 10 from hm) (by decide) (by decide), rSk_9 skZ, (h12).trans hQ6⟩ dptZ (by rw [e8, e6]; rfl) (by rw [e8, e6]; rfl)
    obtain ⟨y1, y2, y3, y4, y5, y6⟩ := r2 rfl
    rw [y1] at r1 y2
    refine ⟨Z, r1, Or.inl ⟨y2, fun hZ => ?_⟩⟩
    obtain ⟨w1, w2, w3, w4, w5⟩ := id y4
    obtain ⟨⟨k1, k2, k3, k4⟩, k5, k6⟩ := ga90_r (R := Z.1) (col := Z.2.1) hm hc hcf hZ.1 (fun v hv => by rw [← w4]; exact y5 v hv) (fun v hv => by have q := hZ.2.2.2.2 v hv; omega) h19 0 (by decide) (Nat.zero_le _) w5 (hf_0 y3)
    rw [← k2] at y4 w1 w2 w3 w5
    have sh := shr_r (R := rmP Z.1 Z.2.1) (sl := Z.2.2) k6 w3 w1 (by rw [w2]; exact w5) hZ.2.1.choose_spec.2.2.2.2.1 (qOk_rm hk2 hZ) k5 (by rw [k4]; exact y6) hZ.2.2.2.1 (soO_rm hZ.2.2.1) h24
    exact ⟨sh, y4⟩
  · intro x1 x2 x3 x4 x5 x6 x7 x8 x9 x10 x11 x12 x13 x14 h1 h2 h3 h4 h5 h6 h7 h8 h9 h10 h11 h12 h13 h14 h15 h16 h17 h18
    have eg := h1
    have ee := h2
    subst eg
    subst ee
    have f6 : ∀ a, a ≠ q0 → x6 a = F a := fun a ha => by rw [h9 a ha, h7 a ha, h5 a ha, h3 a ha]
    obtain ⟨r28, r35, v9, v10, v11, v12, v13, v14, v23, v24, v25, v26, v27, v30, v32, v33, v34, he, ⟨m1, m2, m3, m4, m5⟩, hK, hM2⟩ := rk10_m (show rk_10 x1 (F q0) from RS_o hT hm)
    have e6 : x6 q0 = mdE x1 r28 r35 v9 v10 0 0 0 100 v23 v24 v25 v26 v27 v30 v32 v33 v34 := by rw [h10, h8, h6, h4, he]; rfl
    have T6 : RS D I P x6 x1 x2 := RS_md hT hm f6 e6 ⟨m1, m2, ⟨by decide, by decide⟩, ⟨by decide, by decide⟩, m5⟩ hK hM2
    have hB := hB2_ hT hc hcf hQ6
    have q6 : rfX x1 x2 x6 q1 Q := rfX_fr hT hc hcf hQ6 (rfX_W.mpr hq) (fun a ha => f6 a (fun e => by rw [e, hm] at ha; omega))
    obtain ⟨z1, z2⟩ := zr_tr T6 hm hc hcf hQ6 hP0 hQ40 (rfX_W.mp q6) hO hB hT100 h17
    have skZ := h11
    have e8 : x8 q0 = x6 q0 := h16
    obtain ⟨r, Z, r1, r2, r3⟩ := ga28_r (dp := dpt Q) hk1 hk2 h18 (pgZ Q) 100 0 1 (by decide) (Nat.le_refl _) (by decide) (rfX_W.mpr z1) (qZ hO hP0) hgi (ldT_Z hbl) ⟨rSk_k skZ (show rKd x1 q1 9 from hc) (by decide) (by decide), rSk_1 skZ (show rKd x1 q1 9 from hc) (by decide) hcf, rSk_k skZ (show rKd x1 q0 10 from hm) (by decide) (by decide), rSk_9 skZ, (h12).trans hQ6⟩ dptZ (by rw [e8, e6]; rfl) (by rw [e8, e6]; rfl)
    rw [r3 (by decide)] at r1
    exact ⟨Z, r1, Or.inr (by decide)⟩
/-- what give answers, and what it leaves -/
def gvA (γ el : Nat → Nat → Nat) (F : Nat → va_E) (q0 p f : Nat) (Q : gPg) (a1 r err : Int32) : Prop := ((a1.toInt < 1 ∨ 32 < a1.toInt) ∧ err.toInt = 1) ∨ (1 ≤ a1.toInt ∧ a1.toInt ≤ 32 ∧ err.toInt = 0 ∧ ∃ Z, GVr a1.toInt (dpt Q) 40 1 (pgZ Q) 100 0 r.toInt Z ∧ ((r.toInt ≠ -1 ∧ (fI (F q0) 10).toInt ≠ 0 ∧ (okZ a1.toInt Z → rfX γ el F p (fnP Z) ∧ γ 6 f = (fnP Z).1)) ∨ (r.toInt = -1 ∧ (fI (F q0) 10).toInt = 0)))
theorem giv_r {fo : Nat} {q0 : Nat} {a1 : Int32} {p : Nat} {p2 : Nat} {o1 : Int32} {o2 : List Nat} {o3 : Nat → va_E} {o4 : Nat → Nat → Nat} {o5 : Nat → Nat → Nat} (hT : RS D I P F γ0 el0) (hm : γ0 0 q0 = 10) (hp9 : γ0 0 p = 9) (hpf : γ0 1 p = f) (ho9 : γ0 0 p2 = 9) (hof : γ0 1 p2 = fo) (hne : fo ≠ f) (hQ6 : γ0 6 fo = Q.1) (hq : rfP γ0 el0 F p2 Q) (hO : qOk Q) (hbl : ∀ b, b < Q.1 → blC (Q.2.1 b) (Q.2.2.1 b) (Q.2.2.2 b)) (hgi : gvI (pgZ Q) 100) (hQ40 : Q.1 ≤ 40) (hP0 : 0 < Q.1) (hT100 : ∀ v, 100 ≤ v → ¬ lz Q v) (hB2 : ∀ i, i < Q.1 → γ0 0 (el0 (γ0 14 p2) i) = 2) (h : tr_RModel_give D I γ0 el0 f fo P F q0 a1 p p2 o1 o2 o3 o4 o5) : (fI (F q0) 9).toInt ≠ 0 → gvA o4 o5 o3 q0 p f Q a1 o1 (fI (o3 q0) 30) := by
  refine h (fun o1 o2 o3 o4 o5 => (fI (F q0) 9).toInt ≠ 0 → gvA o4 o5 o3 q0 p f Q a1 o1 (fI (o3 q0) 30)) ?_ ?_ ?_ ?_ ?_
  · intro x1 x2 x3 x4 h1 h2 h3 h4 h5 h6 h7 h8 h9 h10
    intro h9
    have eg := h1
    have ee := h2
    subst eg
    subst ee
    have hk10 : rk_10 x1 (F q0) := RS_o hT hm
    have hT3 : RS D I P x3 x1 x2 := rs_30 hT hm h3 h4
    have hm3 : rk_10 x1 (x3 q0) := RS_o hT3 hm
    have e39 : fI (x3 q0) 9 = fI (F q0) 9 := by rw [h4]; exact (cF30 hk10).2 9 (by decide)
    have er : fI (x4 q0) 30 = 1 := by rw [no_tr h10]; exact (cF30 hm3).1
    rw [er]
    exact Or.inl ⟨by omega, by decide⟩
  · intro x1 x2 x3 x4 x5 x6 x7 x8 x9 x10 x11 x12 x13 x14 h1 h2 h3 h4 h5 h6 h7 h8 h9 h10 h11 h12 h13 h14 h15 h16 h17 h18 h19 h20 h21 h22 h23 h24
    intro h9
    have eg := h1
    have ee := h2
    subst eg
    subst ee
    have hk10 : rk_10 x1 (F q0) := RS_o hT hm
    have hT3 : RS D I P x3 x1 x2 := rs_30 hT hm h3 h4
    have hm3 : rk_10 x1 (x3 q0) := RS_o hT3 hm
    have e39 : fI (x3 q0) 9 = fI (F q0) 9 := by rw [h4]; exact (cF30 hk10).2 9 (by decide)
    have hs3 : rStr x1 [] F x3 := fun a ha hk _ => h3 a (fun e => by rw [e, hm] at hk; omega)
    have hq3 : rfP x1 x2 x3 p2 Q := rfP_rs hT hq ho9 hB2 hs3
    obtain ⟨c1, c2⟩ := cp_tr hT3 ho9 (by rw [hof]; exact hne) hp9 hpf hq3 hB2 h16
    have sk := h11
    have T6 : RS D I x5 x6 x7 x8 := sk.1
    have m6 : x7 0 q0 = 10 := rSk_k sk (show rKd x1 q0 10 from hm) (by decide) (by decide)
    have p6 : x7 0 p = 9 := rSk_k sk (show rKd x1 p 9 from hp9) (by decide) (by decide)
    have pf6 : x7 1 p = f := rSk_1 sk (show rKd x1 p 9 from hp9) (by decide) hpf
    have g := gal_r (Q := Q) T6 m6 p6 pf6 ((h12).trans hQ6) (rfP_w hbl c1) hO hbl hgi hQ40 hP0 hT100 h5 h6 h21
    have skG := h18
    have eq6 : x6 q0 = x3 q0 := rSk_F sk (show rKd x1 q0 10 from hm) (by decide) (by decide)
    have m11 : x11 0 q0 = 10 := rSk_k skG (show rKd x7 q0 10 from m6) (by decide) (by decide)
    have T10 : RS D I x9 x10 x11 x12 := skG.1
    obtain ⟨r28, r35, v9, v10, v11, v12, v13, v14, v23, v24, v25, v26, v27, v30, v32, v33, v34, he, -⟩ := rk10_m (show rk_10 x11 (x10 q0) from RS_o T10 m11)
    have er : fI (x14 q0) 30 = fI (x10 q0) 30 := by rw [h24, he]; rfl
    have e30 : (fI (x10 q0) 30).toInt = 0 := by rw [mKp_30 h20, eq6, h4, (cF30 hk10).1]; decide
    rw [er]
    have e10 : fI (x14 q0) 10 = 0 := by rw [h24, he]; rfl
    obtain ⟨Z, g1, g2⟩ := g
    refine Or.inr ⟨h5, h6, e30, Z, g1, ?_⟩
    rcases g2 with ⟨g2, g3⟩ | g2
    · have := h22; omega
    · exact Or.inr ⟨g2, by rw [e10]; decide⟩
  · intro x1 x2 x3 x4 x5 x6 x7 x8 x9 x10 x11 x12 x13 x14 h1 h2 h3 h4 h5 h6 h7 h8 h9 h10 h11 h12 h13 h14 h15 h16 h17 h18 h19 h20 h21 h22 h23 h24
    intro h9
    have eg := h1
    have ee := h2
    subst eg
    subst ee
    have hk10 : rk_10 x1 (F q0) := RS_o hT hm
    have hT3 : RS D I P x3 x1 x2 := rs_30 hT hm h3 h4
    have hm3 : rk_10 x1 (x3 q0) := RS_o hT3 hm
    have e39 : fI (x3 q0) 9 = fI (F q0) 9 := by rw [h4]; exact (cF30 hk10).2 9 (by decide)
    have hs3 : rStr x1 [] F x3 := fun a ha hk _ => h3 a (fun e => by rw [e, hm] at hk; omega)
    have hq3 : rfP x1 x2 x3 p2 Q := rfP_rs hT hq ho9 hB2 hs3
    obtain ⟨c1, c2⟩ := cp_tr hT3 ho9 (by rw [hof]; exact hne) hp9 hpf hq3 hB2 h16
    have sk := h11
    have T6 : RS D I x5 x6 x7 x8 := sk.1
    have m6 : x7 0 q0 = 10 := rSk_k sk (show rKd x1 q0 10 from hm) (by decide) (by decide)
    have p6 : x7 0 p = 9 := rSk_k sk (show rKd x1 p 9 from hp9) (by decide) (by decide)
    have pf6 : x7 1 p = f := rSk_1 sk (show rKd x1 p 9 from hp9) (by decide) hpf
    have g := gal_r (Q := Q) T6 m6 p6 pf6 ((h12).trans hQ6) (rfP_w hbl c1) hO hbl hgi hQ40 hP0 hT100 h5 h6 h21
    have skG := h18
    have eq6 : x6 q0 = x3 q0 := rSk_F sk (show rKd x1 q0 10 from hm) (by decide) (by decide)
    have m11 : x11 0 q0 = 10 := rSk_k skG (show rKd x7 q0 10 from m6) (by decide) (by decide)
    have T10 : RS D I x9 x10 x11 x12 := skG.1
    obtain ⟨r28, r35, v9, v10, v11, v12, v13, v14, v23, v24, v25, v26, v27, v30, v32, v33, v34, he, -⟩ := rk10_m (show rk_10 x11 (x10 q0) from RS_o T10 m11)
    have er : fI (x14 q0) 30 = fI (x10 q0) 30 := by rw [h24, he]; rfl
    have e30 : (fI (x10 q0) 30).toInt = 0 := by rw [mKp_30 h20, eq6, h4, (cF30 hk10).1]; decide
    rw [er]
    have e10 : fI (x14 q0) 10 = 1 := by rw [h24, he]; rfl
    obtain ⟨Z, g1, g2⟩ := g
    refine Or.inr ⟨h5, h6, e30, Z, g1, ?_⟩
    rcases g2 with ⟨g2, g3⟩ | g2
    · refine Or.inl ⟨by omega, by rw [e10]; decide, fun hZ => ?_⟩
      obtain ⟨y1, y2⟩ := g3 hZ
      have c9 : x11 0 p = 9 := y2.1
      have c1f : x11 1 p = f := y2.2.1
      exact ⟨rfX_fr T10 c9 c1f (by exact y2.2.2.2.2) y1 (fun a ha => h23 a (fun e => by rw [e, m11] at ha; omega)), y2.2.2.2.2⟩
    · have := h22; omega
  · intro x1 x2 x3 x4 x5 h1 h2 h3 h4 h5 h6 h7 h8 h9 h10 h11 h12 h13
    intro h9
    have eg := h1
    have ee := h2
    subst eg
    subst ee
    have hk10 : rk_10 x1 (F q0) := RS_o hT hm
    have hT3 : RS D I P x3 x1 x2 := rs_30 hT hm h3 h4
    have hm3 : rk_10 x1 (x3 q0) := RS_o hT3 hm
    have e39 : fI (x3 q0) 9 = fI (F q0) 9 := by rw [h4]; exact (cF30 hk10).2 9 (by decide)
    rw [← e39, h7] at h9
    exact absurd h8 h9
  · intro x1 x2 x3 x4 h1 h2 h3 h4 h5 h6 h7 h8 h9 h10 h11
    intro h9
    have eg := h1
    have ee := h2
    subst eg
    subst ee
    have hk10 : rk_10 x1 (F q0) := RS_o hT hm
    have hT3 : RS D I P x3 x1 x2 := rs_30 hT hm h3 h4
    have hm3 : rk_10 x1 (x3 q0) := RS_o hT3 hm
    have e39 : fI (x3 q0) 9 = fI (F q0) 9 := by rw [h4]; exact (cF30 hk10).2 9 (by decide)
    have er : fI (x4 q0) 30 = 1 := by rw [no_tr h11]; exact (cF30 hm3).1
    rw [er]
    exact Or.inl ⟨by omega, by decide⟩
end GZR
