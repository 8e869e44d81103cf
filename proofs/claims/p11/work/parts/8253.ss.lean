section SSR
variable {D : va_G} {I : FieldType → ClassId} {P : List Nat} {F : Nat → va_E} {γ0 el0 : Nat → Nat → Nat} {f b n j : Nat} {Q R : gPg} {so : Nat → Int}
theorem uA_tr3 {op ra r : Int32} (h : tr_RRow_usesA3 op ra r) : (r.toInt = 1 ∧ op.toInt ≠ 20 ∧ op.toInt ≠ 21 ∧ op.toInt ≠ 30 ∧ ra.toInt ≠ 0) ∨ (r.toInt = 0 ∧ (op.toInt = 20 ∨ op.toInt = 21 ∨ op.toInt = 30 ∨ ra.toInt = 0)) := by
  have o1 := px_1
  have o0 := px_0
  refine h (fun r => (r.toInt = 1 ∧ op.toInt ≠ 20 ∧ op.toInt ≠ 21 ∧ op.toInt ≠ 30 ∧ ra.toInt ≠ 0) ∨ (r.toInt = 0 ∧ (op.toInt = 20 ∨ op.toInt = 21 ∨ op.toInt = 30 ∨ ra.toInt = 0))) ?_ ?_ ?_ ?_ ?_
  · intro h1
    omega
  · intro h1 h2
    omega
  · intro h1 h2 h3
    omega
  · intro h1 h2 h3 h4
    omega
  · intro h1 h2 h3 h4
    omega
theorem uB_tr3 {op ra r : Int32} (h : tr_RRow_usesB3 op ra r) : (r.toInt = 1 ∧ 0 < op.toInt ∧ op.toInt < 20 ∧ ra.toInt ≠ 0) ∨ (r.toInt = 0 ∧ (op.toInt ≤ 0 ∨ 20 ≤ op.toInt ∨ ra.toInt = 0)) := by
  have o1 := px_1
  have o0 := px_0
  refine h (fun r => (r.toInt = 1 ∧ 0 < op.toInt ∧ op.toInt < 20 ∧ ra.toInt ≠ 0) ∨ (r.toInt = 0 ∧ (op.toInt ≤ 0 ∨ 20 ≤ op.toInt ∨ ra.toInt = 0))) ?_ ?_ ?_ ?_
  · intro h1
    omega
  · intro h1 h2
    omega
  · intro h1 h2 h3
    omega
  · intro h1 h2 h3
    omega
theorem ss_tr3 {op r : Int32} (h : tr_RRow_sets3 op r) : (r.toInt = 1 ∧ op.toInt ≤ 21) ∨ (r.toInt = 0 ∧ 21 < op.toInt) := by
  have o1 := px_1
  have o0 := px_0
  refine h (fun r => (r.toInt = 1 ∧ op.toInt ≤ 21) ∨ (r.toInt = 0 ∧ 21 < op.toInt)) ?_ ?_
  · intro h1
    omega
  · intro h1
    omega
theorem lod_r {q0 : Nat} {q1 : Nat} {q2 : Nat} {a3 : Int32} {a4 : Int32} {o1 : Int32} {o2 : List Nat} {o3 : Nat → va_E} {o4 : Nat → Nat → Nat} {o5 : Nat → Nat → Nat} (hT : RS D I P F γ0 el0) (hm : γ0 0 q0 = 10) (hc : γ0 0 q1 = 9) (hcf : γ0 1 q1 = f) (hQ6 : γ0 6 f = Q.1) (hq : rfX γ0 el0 F q1 Q) (hb : b < Q.1) (hc1 : el0 (γ0 14 q1) b = q2) (hj : a3.toInt = (j : Int)) (hj2 : j < Q.2.1 b) (ht : (fI (F q0) 14).toInt = (n : Int)) (hn : n < 2000) (ha0 : 0 ≤ a4.toInt) (ha1 : a4.toInt ≤ 1999) (h : tr_RModel_load D I γ0 el0 f P F q0 q1 q2 a3 a4 o1 o2 o3 o4 o5) : o1.toInt = (n : Int) ∧ rfX o4 o5 o3 q1 (pgIns Q b j (mkL 17 (n : Int) (-1) 0 (-1) a4.toInt)) ∧ (fI (o3 q0) 14).toInt = ((n + 1 : Nat) : Int) ∧ o5 (o4 14 q1) b = q2 := by
  refine h (fun o1 o2 o3 o4 o5 => o1.toInt = (n : Int) ∧ rfX o4 o5 o3 q1 (pgIns Q b j (mkL 17 (n : Int) (-1) 0 (-1) a4.toInt)) ∧ (fI (o3 q0) 14).toInt = ((n + 1 : Nat) : Int) ∧ o5 (o4 14 q1) b = q2) ?_ ?_
  · intro x1 x2 x3 x4 x5 x6 x7 x8 x9 x10 x11 x12 x13 x14 x15 x16 x17 x18 x19 x20 x21 x22 x23 x24 h1 h2 h3 h4 h5 h6 h7 h8 h9 h10 h11 h12 h13 h14 h15 h16 h17 h18 h19
    have eg := h1
    have ee := h2
    subst eg
    subst ee
    rw [h3] at ht
    have hR := h5
    obtain ⟨r1, rE⟩ := rfX_rw hT hc hcf hQ6 hq hR
    obtain ⟨sq, k0, -⟩ := hR
    have sk := rSk_of sq
    have c9 : x6 0 q1 = 9 := rSk_k sk (show rKd x1 q1 9 from hc) (by decide) (by decide)
    have cf' : x6 1 q1 = f := rSk_1 sk (show rKd x1 q1 9 from hc) (by decide) hcf
    have m10 : x6 0 q0 = 10 := rSk_k sk (show rKd x1 q0 10 from hm) (by decide) (by decide)
    have eq0 : x5 q0 = F q0 := rSk_F sk (show rKd x1 q0 10 from hm) (by decide) (by decide)
    have s0 : rwS (x5 x8) := rwS_R (RS_o sq.1 k0)
    have nq : q0 ≠ x8 := fun e => by rw [← e, m10] at k0; cases k0
    have fr : ∀ a, a ≠ x8 → x14 a = x5 a := fun a ha => by rw [h11 a ha, h9 a ha, h6 a ha]
    have r2 : rfX x6 x7 x14 q1 Q := rfX_fr sq.1 c9 cf' rE r1 (fun a ha => fr a (fun e => by rw [e, k0] at ha; omega))
    obtain ⟨z1, y10, y11, y12, y13, y14, y15, y16⟩ := cw_0 s0 h7
    obtain ⟨z2, y20, y21, y22, y23, y24, y25, y26⟩ := cw_1 z1 h10
    obtain ⟨z3, y30, y31, y32, y33, y34, y35, y36⟩ := cw_4 z2 h12
    have e12 : x12 = x3 := by
      rw [← h8, h6 q0 nq, eq0]
      exact h3
    have b14 := (rSk_s sk (show rKd x1 q1 9 from hc) (by decide)).2.1
    have hT14 : rfX x6 x7 x14 q1 Q := r2
    have e15 : x15 = rwL x6 x7 q1 b := by
      have bq := hB2_ sq.1 c9 cf' rE b hb
      obtain ⟨ll, nn, pp, ss, v1, ⟨g1, g2, g3⟩, -⟩ := show rk_2 x6 (x7 (x6 14 q1) b) (x5 (x7 (x6 14 q1) b)) from RS_o sq.1 bq
      have ec : x7 (x6 14 q1) b = q2 := by
        rw [b14, ((h5).2.2.2.2.2.2.2.2.1 (x1 14 q1) (by rw [(rc_at hT hc hcf).2.1]; decide) (by rw [(rc_at hT hc hcf).2.1]; decide)).2]
        exact hc1
      have e2 : x14 q2 = x5 q2 := fr q2 (fun e => by rw [← e, ← ec, bq] at k0; cases k0)
      rw [← h13, e2, ← ec, v1]
      show ll = x6 14 (x7 (x6 14 q1) b)
      rw [g1]
    have hI := h14
    rw [e15, show a3.toInt.toNat = j by rw [hj]; rfl] at hI
    have hTx : RS D I x4 x14 x6 x7 := by
      obtain ⟨op, t', a, b', s', ra, rb, he, p1, p2, p3, p4, p5, p6, p7, p8⟩ := show rkR (x5 x8) from RS_o sq.1 k0
      have e14 : x14 x8 = .inr (20, [.int 21, .int x12, .int a, .int b', .int a4, .int ra, .int rb]) := by rw [h12, h10, h7, he]; rfl
      have t1 : x12.toInt = (n : Int) := by rw [e12]; exact ht
      have hRk : rkR (x14 x8) := ⟨21, x12, a, b', a4, ra, rb, e14, ⟨by decide, by decide⟩, ⟨by omega, by omega⟩, ⟨by omega, by omega⟩, p4, p5, Or.inr (by decide), p7, p8⟩
      exact RS_ow sq.1 rSub_rf (fun a _ ha => fr a (fun e => ha (e ▸ List.mem_cons_self))) (wm_c (Or.inr (fit_101 k0 hRk)) wm_n)
    obtain ⟨r3, rF⟩ := rfX_ins (l := mkL 17 (n : Int) (-1) 0 (-1) a4.toInt) hTx c9 cf' rE r2 hI hb hj2 (by
      unfold lnX
      rw [if_pos rfl]
      refine ⟨fun z => absurd (show (17 : Int) ≤ 13 from z) (by decide), fun z => absurd (show (17 : Int) = 14 from z) (by decide), fun z => absurd (show (17 : Int) = 15 from z) (by decide), fun z => absurd (show (17 : Int) = 16 from z) (by decide), fun _ => ⟨?_, ?_, ?_⟩, fun z => absurd (show (17 : Int) = 18 from z) (by decide)⟩
      · rw [y30, y20, y10]; decide
      · show (fI (x14 x8) 1).toInt = (n : Int)
        rw [y31, y21, e12]; exact ht
      · show (fI (x14 x8) 4).toInt = a4.toInt
        rw [y34])
    have sq2 := hI.1
    have sk2 := rSk_of sq2
    have d9 : x18 0 q1 = 9 := rSk_k sk2 (show rKd x6 q1 9 from c9) (by decide) (by decide)
    have df : x18 1 q1 = f := rSk_1 sk2 (show rKd x6 q1 9 from c9) (by decide) cf'
    have dm : x18 0 q0 = 10 := rSk_k sk2 (show rKd x6 q0 10 from m10) (by decide) (by decide)
    have eq1 : x17 q0 = x14 q0 := rSk_F sk2 (show rKd x6 q0 10 from m10) (by decide) (by decide)
    have e22 : x22 = x3 := by
      rw [← h15, eq1, fr q0 nq, eq0]
      exact h3
    have jn := h17
    refine ⟨by rw [e12]; exact ht, rfX_fr sq2.1 d9 df rF r3 (fun a ha => jn a (fun e => by rw [e, dm] at ha; omega)), ?_, ?_⟩
    · obtain ⟨r28, r35, v9, v10, v11, v12, v13, v14, v23, v24, v25, v26, v27, v30, v32, v33, v34, he, -⟩ := rk10_m (show rk_10 x18 (x17 q0) from RS_o sq2.1 dm)
      rw [h18, he]
      show x23.toInt = _
      rw [h16, e22]
      omega
    · have a14 := (rSk_s sk2 (show rKd x6 q1 9 from c9) (by decide)).2.1
      have nl : x6 14 q1 ≠ rwL x6 x7 q1 b := fun e => by
        have y1 := (rBk_at sq.1 c9 cf' (show b < x6 6 f by omega)).2.2.2.1
        have y2 := (rc_at sq.1 c9 cf').2.1
        rw [← e, y2] at y1; cases y1
      rw [a14, (hI.2.2.2.2.1 (x6 14 q1) (by rw [(rc_at sq.1 c9 cf').2.1]; decide) nl).2, b14, ((h5).2.2.2.2.2.2.2.2.1 (x1 14 q1) (by rw [(rc_at hT hc hcf).2.1]; decide) (by rw [(rc_at hT hc hcf).2.1]; decide)).2]
      exact hc1
  · intro x1 x2 x3 h1 h2 h3 h4
    have eg := h1
    have ee := h2
    subst eg
    subst ee
    rw [h3] at ht
    omega
end SSR
