section
section SSR
variable {D : va_G} {I : FieldType → ClassId} {P : List Nat} {F : Nat → va_E} {γ0 el0 : Nat → Nat → Nat} {f b n j : Nat} {Q R : gPg} {so : Nat → Int}
theorem uA_tr3 {op ra r : Int32} (h : tr_RRow_usesA3 op ra r) : (r.toInt = 1 ∧ op.toInt ≠ 20 ∧ op.toInt ≠ 21 ∧ op.toInt ≠ 30 ∧ ra.toInt ≠ 0) ∨ (r.toInt = 0 ∧ (op.toInt = 20 ∨ op.toInt = 21 ∨ op.toInt = 30 ∨ ra.toInt = 0)) := by
  have o1 := px_1
  have o0 := px_0
  refine h (fun r => (r.toInt = 1 ∧ op.toInt ≠ 20 ∧ op.toInt ≠ 21 ∧ op.toInt ≠ 30 ∧ ra.toInt ≠ 0) ∨ (r.toInt = 0 ∧ (op.toInt = 20 ∨ op.toInt = 21 ∨ op.toInt = 30 ∨ ra.toInt = 0))) ?_ ?_ ?_ ?_ ?_
  · intro h1
    omega
  · intro h1 h2
    omega
  · intro h1 h2 h3
    omega
  · intro h1 h2 h3 h4
    omega
  · intro h1 h2 h3 h4
    omega
theorem uB_tr3 {op ra r : Int32} (h : tr_RRow_usesB3 op ra r) : (r.toInt = 1 ∧ 0 < op.toInt ∧ op.toInt < 20 ∧ ra.toInt ≠ 0) ∨ (r.toInt = 0 ∧ (op.toInt ≤ 0 ∨ 20 ≤ op.toInt ∨ ra.toInt = 0)) := by
  have o1 := px_1
  have o0 := px_0
  refine h (fun r => (r.toInt = 1 ∧ 0 < op.toInt ∧ op.toInt < 20 ∧ ra.toInt ≠ 0) ∨ (r.toInt = 0 ∧ (op.toInt ≤ 0 ∨ 20 ≤ op.toInt ∨ ra.toInt = 0))) ?_ ?_ ?_ ?_
  · intro h1
    omega
  · intro h1 h2
    omega
  · intro h1 h2 h3
    omega
  · intro h1 h2 h3
    omega
theorem ss_tr3 {op r : Int32} (h : tr_RRow_sets3 op r) : (r.toInt = 1 ∧ op.toInt ≤ 21) ∨ (r.toInt = 0 ∧ 21 < op.toInt) := by
  have o1 := px_1
  have o0 := px_0
  refine h (fun r => (r.toInt = 1 ∧ op.toInt ≤ 21) ∨ (r.toInt = 0 ∧ 21 < op.toInt)) ?_ ?_
  · intro h1
    omega
  · intro h1
    omega
theorem lod_r {q0 : Nat} {q1 : Nat} {q2 : Nat} {a3 : Int32} {a4 : Int32} {o1 : Int32} {o2 : List Nat} {o3 : Nat → va_E} {o4 : Nat → Nat → Nat} {o5 : Nat → Nat → Nat} (hT : RS D I P F γ0 el0) (hm : γ0 0 q0 = 10) (hc : γ0 0 q1 = 9) (hcf : γ0 1 q1 = f) (hQ6 : γ0 6 f = Q.1) (hq : rfX γ0 el0 F q1 Q) (hb : b < Q.1) (hc1 : el0 (γ0 14 q1) b = q2) (hj : a3.toInt = (j : Int)) (hj2 : j < Q.2.1 b) (ht : (fI (F q0) 14).toInt = (n : Int)) (hn : n < 2000) (ha0 : 0 ≤ a4.toInt) (ha1 : a4.toInt ≤ 1999) (h : tr_RModel_load D I γ0 el0 f P F q0 q1 q2 a3 a4 o1 o2 o3 o4 o5) : o1.toInt = (n : Int) ∧ rfX o4 o5 o3 q1 (pgIns Q b j (mkL 17 (n : Int) (-1) 0 (-1) a4.toInt)) ∧ (fI (o3 q0) 14).toInt = ((n + 1 : Nat) : Int) ∧ o5 (o4 14 q1) b = q2 := by
  refine h (fun o1 o2 o3 o4 o5 => o1.toInt = (n : Int) ∧ rfX o4 o5 o3 q1 (pgIns Q b j (mkL 17 (n : Int) (-1) 0 (-1) a4.toInt)) ∧ (fI (o3 q0) 14).toInt = ((n + 1 : Nat) : Int) ∧ o5 (o4 14 q1) b = q2) ?_ ?_
  · intro x1 x2 x3 x4 x5 x6 x7 x8 x9 x10 x11 x12 x13 x14 x15 x16 x17 x18 x19 x20 x21 x22 x23 x24 h1 h2 h3 h4 h5 h6 h7 h8 h9 h10 h11 h12 h13 h14 h15 h16 h17 h18 h19
    have eg := h1
    have ee := h2
    subst eg
    subst ee
    rw [h3] at ht
    have hR := h5
    obtain ⟨r1, rE⟩ := rfX_rw hT hc hcf hQ6 hq hR
    obtain ⟨sq, k0, -⟩ := hR
    have sk := rSk_of sq
    have c9 : x6 0 q1 = 9 := rSk_k sk (show rKd x1 q1 9 from hc) (by decide) (by decide)
    have cf' : x6 1 q1 = f := rSk_1 sk (show rKd x1 q1 9 from hc) (by decide) hcf
    have m10 : x6 0 q0 = 10 := rSk_k sk (show rKd x1 q0 10 from hm) (by decide) (by decide)
    have eq0 : x5 q0 = F q0 := rSk_F sk (show rKd x1 q0 10 from hm) (by decide) (by decide)
    have s0 : rwS (x5 x8) := rwS_R (RS_o sq.1 k0)
    have nq : q0 ≠ x8 := fun e => by rw [← e, m10] at k0; cases k0
    have fr : ∀ a, a ≠ x8 → x14 a = x5 a := fun a ha => by rw [h11 a ha, h9 a ha, h6 a ha]
    have r2 : rfX x6 x7 x14 q1 Q := rfX_fr sq.1 c9 cf' rE r1 (fun a ha => fr a (fun e => by rw [e, k0] at ha; omega))
    obtain ⟨z1, y10, y11, y12, y13, y14, y15, y16⟩ := cw_0 s0 h7
    obtain ⟨z2, y20, y21, y22, y23, y24, y25, y26⟩ := cw_1 z1 h10
    obtain ⟨z3, y30, y31, y32, y33, y34, y35, y36⟩ := cw_4 z2 h12
    have e12 : x12 = x3 := by
      rw [← h8, h6 q0 nq, eq0]
      exact h3
    have b14 := (rSk_s sk (show rKd x1 q1 9 from hc) (by decide)).2.1
    have hT14 : rfX x6 x7 x14 q1 Q := r2
    have e15 : x15 = rwL x6 x7 q1 b := by
      have bq := hB2_ sq.1 c9 cf' rE b hb
      obtain ⟨ll, nn, pp, ss, v1, ⟨g1, g2, g3⟩, -⟩ := show rk_2 x6 (x7 (x6 14 q1) b) (x5 (x7 (x6 14 q1) b)) from RS_o sq.1 bq
      have ec : x7 (x6 14 q1) b = q2 := by
        rw [b14, ((h5).2.2.2.2.2.2.2.2.1 (x1 14 q1) (by rw [(rc_at hT hc hcf).2.1]; decide) (by rw [(rc_at hT hc hcf).2.1]; decide)).2]
        exact hc1
      have e2 : x14 q2 = x5 q2 := fr q2 (fun e => by rw [← e, ← ec, bq] at k0; cases k0)
      rw [← h13, e2, ← ec, v1]
      show ll = x6 14 (x7 (x6 14 q1) b)
      rw [g1]
    have hI := h14
    rw [e15, show a3.toInt.toNat = j by rw [hj]; rfl] at hI
    have hTx : RS D I x4 x14 x6 x7 := by
      obtain ⟨op, t', a, b', s', ra, rb, he, p1, p2, p3, p4, p5, p6, p7, p8⟩ := show rkR (x5 x8) from RS_o sq.1 k0
      have e14 : x14 x8 = .inr (20, [.int 21, .int x12, .int a, .int b', .int a4, .int ra, .int rb]) := by rw [h12, h10, h7, he]; rfl
      have t1 : x12.toInt = (n : Int) := by rw [e12]; exact ht
      have hRk : rkR (x14 x8) := ⟨21, x12, a, b', a4, ra, rb, e14, ⟨by decide, by decide⟩, ⟨by omega, by omega⟩, ⟨by omega, by omega⟩, p4, p5, Or.inr (by decide), p7, p8⟩
      exact RS_ow sq.1 rSub_rf (fun a _ ha => fr a (fun e => ha (e ▸ List.mem_cons_self))) (wm_c (Or.inr (fit_101 k0 hRk)) wm_n)
    obtain ⟨r3, rF⟩ := rfX_ins (l := mkL 17 (n : Int) (-1) 0 (-1) a4.toInt) hTx c9 cf' rE r2 hI hb hj2 (by
      unfold lnX
      rw [if_pos rfl]
      refine ⟨fun z => absurd (show (17 : Int) ≤ 13 from z) (by decide), fun z => absurd (show (17 : Int) = 14 from z) (by decide), fun z => absurd (show (17 : Int) = 15 from z) (by decide), fun z => absurd (show (17 : Int) = 16 from z) (by decide), fun _ => ⟨?_, ?_, ?_⟩, fun z => absurd (show (17 : Int) = 18 from z) (by decide)⟩
      · rw [y30, y20, y10]; decide
      · show (fI (x14 x8) 1).toInt = (n : Int)
        rw [y31, y21, e12]; exact ht
      · show (fI (x14 x8) 4).toInt = a4.toInt
        rw [y34])
    have sq2 := hI.1
    have sk2 := rSk_of sq2
    have d9 : x18 0 q1 = 9 := rSk_k sk2 (show rKd x6 q1 9 from c9) (by decide) (by decide)
    have df : x18 1 q1 = f := rSk_1 sk2 (show rKd x6 q1 9 from c9) (by decide) cf'
    have dm : x18 0 q0 = 10 := rSk_k sk2 (show rKd x6 q0 10 from m10) (by decide) (by decide)
    have eq1 : x17 q0 = x14 q0 := rSk_F sk2 (show rKd x6 q0 10 from m10) (by decide) (by decide)
    have e22 : x22 = x3 := by
      rw [← h15, eq1, fr q0 nq, eq0]
      exact h3
    have jn := h17
    refine ⟨by rw [e12]; exact ht, rfX_fr sq2.1 d9 df rF r3 (fun a ha => jn a (fun e => by rw [e, dm] at ha; omega)), ?_, ?_⟩
    · obtain ⟨r28, r35, v9, v10, v11, v12, v13, v14, v23, v24, v25, v26, v27, v30, v32, v33, v34, he, -⟩ := rk10_m (show rk_10 x18 (x17 q0) from RS_o sq2.1 dm)
      rw [h18, he]
      show x23.toInt = _
      rw [h16, e22]
      omega
    · have a14 := (rSk_s sk2 (show rKd x6 q1 9 from c9) (by decide)).2.1
      have nl : x6 14 q1 ≠ rwL x6 x7 q1 b := fun e => by
        have y1 := (rBk_at sq.1 c9 cf' (show b < x6 6 f by omega)).2.2.2.1
        have y2 := (rc_at sq.1 c9 cf').2.1
        rw [← e, y2] at y1; cases y1
      rw [a14, (hI.2.2.2.2.1 (x6 14 q1) (by rw [(rc_at sq.1 c9 cf').2.1]; decide) nl).2, b14, ((h5).2.2.2.2.2.2.2.2.1 (x1 14 q1) (by rw [(rc_at hT hc hcf).2.1]; decide) (by rw [(rc_at hT hc hcf).2.1]; decide)).2]
      exact hc1
  · intro x1 x2 x3 h1 h2 h3 h4
    have eg := h1
    have ee := h2
    subst eg
    subst ee
    rw [h3] at ht
    omega
end SSR
end
section
section STR
variable {D : va_G} {I : FieldType → ClassId} {P : List Nat} {F : Nat → va_E} {γ0 el0 : Nat → Nat → Nat} {f b nm : Nat} {R : gPg} {so : Nat → Int} {S0 : gSp6}
/-- the slots are those of the array -/
def slR (g : Nat → Int32) (so : Nat → Int) : Prop := ∀ v : Nat, v < 2000 → ((g v).toInt < 0 ∧ slf so (v : Int) = -1) ∨ (0 ≤ (g v).toInt ∧ (g v).toInt ≤ 1999 ∧ slf so (v : Int) = (g v).toInt)
theorem slR_u {g : Nat → Int32} {x : Int32} {y : Int} (h : slR g so) (hx : x.toInt = y) (h0 : 0 ≤ y) (h1 : y ≤ 1999) : ((g x.toNatClampNeg).toInt < 0 ∧ slf so y = -1) ∨ (0 ≤ (g x.toNatClampNeg).toInt ∧ (g x.toNatClampNeg).toInt ≤ 1999 ∧ slf so y = (g x.toNatClampNeg).toInt) := by
  have e : y = ((y.toNat : Nat) : Int) := (Int.toNat_of_nonneg h0).symm
  have q := h y.toNat (by omega)
  rw [← e] at q
  rw [nnE (show x.toInt = ((y.toNat : Nat) : Int) by omega)]
  exact q
theorem ldA6 {y : Int} {op a rA r : Int32} (U : (op.toInt ≠ 20 ∧ op.toInt ≠ 21 ∧ op.toInt ≠ 30 ∧ rA.toInt ≠ 0 ∧ a.toInt = y ∧ 0 ≤ y) ∨ ((op.toInt = 20 ∨ op.toInt = 21 ∨ op.toInt = 30 ∨ rA.toInt = 0) ∧ y = -1)) (u : (r.toInt = 1 ∧ op.toInt ≠ 20 ∧ op.toInt ≠ 21 ∧ op.toInt ≠ 30 ∧ rA.toInt ≠ 0) ∨ (r.toInt = 0 ∧ (op.toInt = 20 ∨ op.toInt = 21 ∨ op.toInt = 30 ∨ rA.toInt = 0))) (h : r.toInt ≠ 0) : a.toInt = y ∧ 0 ≤ y := by omega
theorem ldB6 {y : Int} {op a rA r : Int32} (U : (0 < op.toInt ∧ op.toInt < 20 ∧ rA.toInt ≠ 0 ∧ a.toInt = y ∧ 0 ≤ y) ∨ ((op.toInt ≤ 0 ∨ 20 ≤ op.toInt ∨ rA.toInt = 0) ∧ y = -1)) (u : (r.toInt = 1 ∧ 0 < op.toInt ∧ op.toInt < 20 ∧ rA.toInt ≠ 0) ∨ (r.toInt = 0 ∧ (op.toInt ≤ 0 ∨ 20 ≤ op.toInt ∨ rA.toInt = 0))) (h : r.toInt ≠ 0) : a.toInt = y ∧ 0 ≤ y := by omega
theorem ldB0 {y : Int} {op a rA r : Int32} (U : (0 < op.toInt ∧ op.toInt < 20 ∧ rA.toInt ≠ 0 ∧ a.toInt = y ∧ 0 ≤ y) ∨ ((op.toInt ≤ 0 ∨ 20 ≤ op.toInt ∨ rA.toInt = 0) ∧ y = -1)) (u : (r.toInt = 1 ∧ 0 < op.toInt ∧ op.toInt < 20 ∧ rA.toInt ≠ 0) ∨ (r.toInt = 0 ∧ (op.toInt ≤ 0 ∨ 20 ≤ op.toInt ∨ rA.toInt = 0))) (h : r.toInt = 0) : y = -1 := by omega
theorem slf_n {y : Int} (h : y = -1) : slf so y = -1 := by rw [h]; exact if_neg (by decide)
abbrev sp90_M (q0 q1 c1 : Nat) (R : gPg) (b : Nat) (so : Nat → Int) (S0 : gSp6) : (List Nat) → (Nat → va_E) → (Nat → Nat → Nat) → (Nat → Nat → Nat) → (Int32) → Nat → (Nat → va_E) → (List Nat) → (Nat → Nat → Nat) → (Nat → Nat → Nat) → Prop := fun s1 s2 s3 s4 s5 k e1 e2 e3 e4 => ∀ i, i ≤ R.2.1 b → rfX s3 s4 s2 q1 (mid (spB so (R.2.2.1 b) i S0) R b i) ∧ s4 (s3 14 q1) b = c1 ∧ s5.toInt = ((spB so (R.2.2.1 b) i S0).1.2.1 b : Int) ∧ (fI (s2 q0) 14).toInt = ((spB so (R.2.2.1 b) i S0).2 : Int) → k = 425 ∧ rfX e3 e4 e1 q1 (mid (spB so (R.2.2.1 b) (R.2.1 b) S0) R b (R.2.1 b)) ∧ e4 (e3 14 q1) b = c1 ∧ (fI (e1 q0) 14).toInt = ((spB so (R.2.2.1 b) (R.2.1 b) S0).2 : Int)
abbrev sp90_J1 (q0 q1 c1 : Nat) (R : gPg) (b : Nat) (so : Nat → Int) (S0 : gSp6) : (List Nat) → (Nat → va_E) → (Nat → Nat → Nat) → (Nat → Nat → Nat) → (Int32) → (Nat) → Nat → (Nat → va_E) → (List Nat) → (Nat → Nat → Nat) → (Nat → Nat → Nat) → Prop := fun y1 y2 y3 y4 y5 y6 k e1 e2 e3 e4 => ∀ i, i < R.2.1 b → rfX y3 y4 y2 q1 (pgSt (mid (spR so (R.2.2.1 b i) (spB so (R.2.2.1 b) i S0)) R b i) b ((spR so (R.2.2.1 b i) (spB so (R.2.2.1 b) i S0)).1.2.1 b) (mkL ((R.2.2.1 b i) 0) ((R.2.2.1 b i) 1) (ldV so ((R.2.2.1 b i) 2) (spB so (R.2.2.1 b) i S0).2) ((R.2.2.1 b i) 3) (spV so (R.2.2.1 b i) (spB so (R.2.2.1 b) i S0)) ((R.2.2.1 b i) 5))) ∧ y4 (y3 14 q1) b = c1 ∧ y5.toInt = ((spR so (R.2.2.1 b i) (spB so (R.2.2.1 b) i S0)).1.2.1 b : Int) ∧ (fI (y2 q0) 14).toInt = ((spR so (R.2.2.1 b i) (spB so (R.2.2.1 b) i S0)).2 : Int) → k = 425 ∧ rfX e3 e4 e1 q1 (mid (spB so (R.2.2.1 b) (R.2.1 b) S0) R b (R.2.1 b)) ∧ e4 (e3 14 q1) b = c1 ∧ (fI (e1 q0) 14).toInt = ((spB so (R.2.2.1 b) (R.2.1 b) S0).2 : Int)
abbrev sp90_J2 (q0 q1 c1 : Nat) (R : gPg) (b : Nat) (so : Nat → Int) (S0 : gSp6) : (List Nat) → (Nat → va_E) → (Nat → Nat → Nat) → (Nat → Nat → Nat) → (Int32) → (Nat) → (Int32) → (Int32) → Nat → (Nat → va_E) → (List Nat) → (Nat → Nat → Nat) → (Nat → Nat → Nat) → Prop := fun y1 y2 y3 y4 y5 y6 y7 y8 k e1 e2 e3 e4 => ∀ i, i < R.2.1 b → rfX y3 y4 y2 q1 (pgSt (mid (ldN so ((R.2.2.1 b i) 2) (spB so (R.2.2.1 b) i S0)) R b i) b ((ldN so ((R.2.2.1 b i) 2) (spB so (R.2.2.1 b) i S0)).1.2.1 b) (mkL ((R.2.2.1 b i) 0) ((R.2.2.1 b i) 1) (ldV so ((R.2.2.1 b i) 2) (spB so (R.2.2.1 b) i S0).2) ((R.2.2.1 b i) 3) (if (R.2.2.1 b i) 4 = (R.2.2.1 b i) 2 then ldV so ((R.2.2.1 b i) 2) (spB so (R.2.2.1 b) i S0).2 else (R.2.2.1 b i) 4) ((R.2.2.1 b i) 5))) ∧ y4 (y3 14 q1) b = c1 ∧ y5.toInt = ((ldN so ((R.2.2.1 b i) 2) (spB so (R.2.2.1 b) i S0)).1.2.1 b : Int) ∧ (fI (y2 q0) 14).toInt = ((ldN so ((R.2.2.1 b i) 2) (spB so (R.2.2.1 b) i S0)).2 : Int) ∧ y7.toInt = (R.2.2.1 b i) 2 ∧ y8.toInt = (R.2.2.1 b i) 4 → k = 425 ∧ rfX e3 e4 e1 q1 (mid (spB so (R.2.2.1 b) (R.2.1 b) S0) R b (R.2.1 b)) ∧ e4 (e3 14 q1) b = c1 ∧ (fI (e1 q0) 14).toInt = ((spB so (R.2.2.1 b) (R.2.1 b) S0).2 : Int)
set_option maxHeartbeats 4000000 in
theorem sp90_c1 {q0 : Nat} {F_1 : Nat → va_E} {q1 : Nat} {l2_1 : Int32} {c1 : Nat} (hm : γ0 0 q0 = 10) (hc : γ0 0 q1 = 9) (hcf : γ0 1 q1 = f) (hQ6 : γ0 6 f = R.1) (hO : qOk R) (hb : b < R.1) (hl2 : l2_1.toInt = (b : Int)) (hsl : slR (cB (F_1 (γ0 9 19))) so) (hS0 : S0.1.1 = b + 1) (h100 : 100 ≤ S0.2) (hbd : (spB so (R.2.2.1 b) (R.2.1 b) S0).2 ≤ 720) (hld : ∀ i, i < R.2.1 b → R.2.2.1 b i 0 = 17 → slf so (R.2.2.1 b i 1) = -1) : ∀ (P_2 : List Nat) (F_2 : Nat → va_E) (gm_2 : Nat → Nat → Nat) (el_2 : Nat → Nat → Nat) (l4_2 : Int32) (x1 : Nat) (x2 : Int32), gB l4_2 0 1000003 → RS D I P_2 F_2 gm_2 el_2 → rSk f [101] ([1, 3, 5, 6, 8, 9, 101] ++ npk) D I P F γ0 el0 P_2 F_2 gm_2 el_2 → gm_2 6 f = γ0 6 f → gm_2 18 f = γ0 18 f → ((gm_2 7 f : Nat) : Int) = (fI (F_2 q0) 11).toInt → (fI (F_2 q0) 11).toInt = (fI (F_1 q0) 11).toInt → 100 ≤ (fI (F_2 q0) 14).toInt → (F_2 (γ0 9 19) = F_1 (γ0 9 19)) → rPl gm_2 el_2 F_2 q1 (gm_2 6 f) (spQ (cB (F (γ0 9 3))) (cB (F_1 (γ0 9 19))) (l2_1.toInt : Int).toNat (l4_2.toInt : Int).toNat) → (l4_2.toInt : Int) ≤ gm_2 2 (gm_2 14 c1) + 1 → (l2_1.toInt : Int) < gm_2 6 f → (F_2 (γ0 9 3) = F (γ0 9 3)) → mKp (F q0) (F_2 q0) → fR (F_2 c1) 0 = x1 → x2.toInt = (gm_2 2 x1 : Int) → fI (F_2 x1) 2 = x2 → x2.toInt < l4_2.toInt → sp90_M q0 q1 c1 R b so S0 P_2 F_2 gm_2 el_2 l4_2 425 F_2 P_2 gm_2 el_2 := by
  have eb : l2_1.toInt.toNat = b := by rw [hl2]; rfl
  have SBb : ∀ i, (spB so (R.2.2.1 b) i S0).1.1 = b + 1 := fun i => ((spB_k (so := so) (ls := R.2.2.1 b) (s := S0) (by omega) h100 i).1.1).trans hS0
  have SB0 : ∀ i, 0 < (spB so (R.2.2.1 b) i S0).1.1 := fun i => by rw [SBb i]; omega
  have SB2 : ∀ i, 100 ≤ (spB so (R.2.2.1 b) i S0).2 := fun i => (spB_k (so := so) (ls := R.2.2.1 b) (s := S0) (by omega) h100 i).2.2
  have SBn : ∀ i, i < R.2.1 b → (spLn so (R.2.2.1 b i) (spB so (R.2.2.1 b) i S0)).2 ≤ 720 := fun i hi => by
    have q := (spB_m (so := so) (ls := R.2.2.1 b) (s := S0) (by omega) h100 (R.2.1 b - (i + 1)) (i + 1)).1
    rw [show i + 1 + (R.2.1 b - (i + 1)) = R.2.1 b by omega] at q
    exact Nat.le_trans q hbd
  have R2n : ∀ i, (spR so (R.2.2.1 b i) (spB so (R.2.2.1 b) i S0)).2 ≤ (spLn so (R.2.2.1 b i) (spB so (R.2.2.1 b) i S0)).2 := fun i => (spW_k (so := so) (l := (R.2.2.1 b i)) (a := ldV so ((R.2.2.1 b i) 2) (spB so (R.2.2.1 b) i S0).2) (c := spV so (R.2.2.1 b i) (spB so (R.2.2.1 b) i S0)) (spR_1 (SB0 i)) (spR_2 (SB2 i))).2.1
  have R1n : ∀ i, (ldN so ((R.2.2.1 b i) 2) (spB so (R.2.2.1 b) i S0)).2 ≤ (spR so (R.2.2.1 b i) (spB so (R.2.2.1 b) i S0)).2 := fun i => by
    unfold spR
    split
    · exact Nat.le_refl _
    · exact ldN_le
  have lO : ∀ i, i < R.2.1 b → lnO2 (rwB R b i) (R.2.2.1 b i) := fun i hi => qk_l hO hb hi
  intro P_2 F_2 gm_2 el_2 l4_2 x1 x2 h1 h2 h3 h4 h5 h6 h7 h8 h9 h10 h11 h12 h13 h14 h15 h16 h17 h18
  intro i hi hst
  obtain ⟨a1, a2, a3, a4⟩ := hst
  have c9 : gm_2 0 q1 = 9 := rSk_k h3 (show rKd γ0 q1 9 from hc) (by decide) (by decide)
  have cf' : gm_2 1 q1 = f := rSk_1 h3 (show rKd γ0 q1 9 from hc) (by decide) hcf
  have m10 : gm_2 0 q0 = 10 := rSk_k h3 (show rKd γ0 q0 10 from hm) (by decide) (by decide)
  have n9 : gm_2 9 = γ0 9 := rSk_9 h3
  have g6 : gm_2 6 f = R.1 := (h4).trans hQ6
  have bk := hB2_ (Q := R) h2 c9 cf' g6 b hb
  rw [a2] at bk
  obtain ⟨ll, nn, pp, ss, v1, ⟨g1, g2, g3⟩, v3, v4, v5, -⟩ := show rk_2 gm_2 c1 (F_2 c1) from RS_o h2 bk
  have ex1 : x1 = rwL gm_2 el_2 q1 b := by
    rw [← h15, v1]
    show ll = gm_2 14 (el_2 (gm_2 14 q1) b)
    rw [a2, g1]
  have mlen : gm_2 2 (rwL gm_2 el_2 q1 b) + 1 = (spB so (R.2.2.1 b) i S0).1.2.1 b + (R.2.1 b - i) := by
    have q := (a1.2.1 b hb).1
    rw [mid_len] at q
    exact q
  rw [ex1] at h16
  have e : i = R.2.1 b := by omega
  rw [e] at a1 a4
  exact ⟨rfl, a1, a2, a4⟩
set_option maxHeartbeats 4000000 in
theorem sp90_c2 {q0 : Nat} {F_1 : Nat → va_E} {q1 : Nat} {l2_1 : Int32} {c1 : Nat} (hm : γ0 0 q0 = 10) (hc : γ0 0 q1 = 9) (hcf : γ0 1 q1 = f) (hQ6 : γ0 6 f = R.1) (hO : qOk R) (hb : b < R.1) (hl2 : l2_1.toInt = (b : Int)) (hsl : slR (cB (F_1 (γ0 9 19))) so) (hS0 : S0.1.1 = b + 1) (h100 : 100 ≤ S0.2) (hbd : (spB so (R.2.2.1 b) (R.2.1 b) S0).2 ≤ 720) (hld : ∀ i, i < R.2.1 b → R.2.2.1 b i 0 = 17 → slf so (R.2.2.1 b i 1) = -1) : ∀ (y1 : List Nat) (y2 : Nat → va_E) (y3 : Nat → Nat → Nat) (y4 : Nat → Nat → Nat) (y5 : Int32) (y6 : Nat) (x1 : Int32) (x2 : Int32) (x3 : Int32) (k : Nat) (e1 : Nat → va_E) (e2 : List Nat) (e3 : Nat → Nat → Nat) (e4 : Nat → Nat → Nat), gB y5 0 1000001 → RS D I y1 y2 y3 y4 → rSk f [101] ([1, 3, 5, 6, 8, 9, 101] ++ npk) D I P F γ0 el0 y1 y2 y3 y4 → y3 6 f = γ0 6 f → y3 18 f = γ0 18 f → ((y3 7 f : Nat) : Int) = (fI (y2 q0) 11).toInt → (fI (y2 q0) 11).toInt = (fI (F_1 q0) 11).toInt → 100 ≤ (fI (y2 q0) 14).toInt → (y2 (γ0 9 19) = F_1 (γ0 9 19)) → rPl y3 y4 y2 q1 (y3 6 f) (spX (cB (F (γ0 9 3))) (cB (F_1 (γ0 9 19))) (l2_1.toInt : Int).toNat (y5.toInt : Int).toNat) → rAt y3 y4 q1 (l2_1.toInt : Int).toNat (y5.toInt : Int).toNat = y6 → rS2 (cB (F (γ0 9 3))) (cB (F_1 (γ0 9 19))) (y2 y6) → (y5.toInt : Int) ≤ y3 2 (y3 14 c1) → (l2_1.toInt : Int) < y3 6 f → eO y5.toInt (y3 2 (y3 14 c1) : Nat) (fI (y2 y6) 0).toInt → (y2 (γ0 9 3) = F (γ0 9 3)) → mKp (F q0) (y2 q0) → fI (y2 y6) 0 = x1 → gB x2 0 1 → tr_RRow_sets3 x1 x2 → x2.toInt = 0 → x3.toInt = y5.toInt + 1 → sp90_M q0 q1 c1 R b so S0 y1 y2 y3 y4 x3 k e1 e2 e3 e4 → sp90_J1 q0 q1 c1 R b so S0 y1 y2 y3 y4 y5 y6 k e1 e2 e3 e4 := by
  have eb : l2_1.toInt.toNat = b := by rw [hl2]; rfl
  have SBb : ∀ i, (spB so (R.2.2.1 b) i S0).1.1 = b + 1 := fun i => ((spB_k (so := so) (ls := R.2.2.1 b) (s := S0) (by omega) h100 i).1.1).trans hS0
  have SB0 : ∀ i, 0 < (spB so (R.2.2.1 b) i S0).1.1 := fun i => by rw [SBb i]; omega
  have SB2 : ∀ i, 100 ≤ (spB so (R.2.2.1 b) i S0).2 := fun i => (spB_k (so := so) (ls := R.2.2.1 b) (s := S0) (by omega) h100 i).2.2
  have SBn : ∀ i, i < R.2.1 b → (spLn so (R.2.2.1 b i) (spB so (R.2.2.1 b) i S0)).2 ≤ 720 := fun i hi => by
    have q := (spB_m (so := so) (ls := R.2.2.1 b) (s := S0) (by omega) h100 (R.2.1 b - (i + 1)) (i + 1)).1
    rw [show i + 1 + (R.2.1 b - (i + 1)) = R.2.1 b by omega] at q
    exact Nat.le_trans q hbd
  have R2n : ∀ i, (spR so (R.2.2.1 b i) (spB so (R.2.2.1 b) i S0)).2 ≤ (spLn so (R.2.2.1 b i) (spB so (R.2.2.1 b) i S0)).2 := fun i => (spW_k (so := so) (l := (R.2.2.1 b i)) (a := ldV so ((R.2.2.1 b i) 2) (spB so (R.2.2.1 b) i S0).2) (c := spV so (R.2.2.1 b i) (spB so (R.2.2.1 b) i S0)) (spR_1 (SB0 i)) (spR_2 (SB2 i))).2.1
  have R1n : ∀ i, (ldN so ((R.2.2.1 b i) 2) (spB so (R.2.2.1 b) i S0)).2 ≤ (spR so (R.2.2.1 b i) (spB so (R.2.2.1 b) i S0)).2 := fun i => by
    unfold spR
    split
    · exact Nat.le_refl _
    · exact ldN_le
  have lO : ∀ i, i < R.2.1 b → lnO2 (rwB R b i) (R.2.2.1 b i) := fun i hi => qk_l hO hb hi
  intro y1 y2 y3 y4 y5 y6 x1 x2 x3 k e1 e2 e3 e4 h1 h2 h3 h4 h5 h6 h7 h8 h9 h10 h11 h12 h13 h14 h15 h16 h17 h18 h19 h20 h21 h22 ih
  intro i hi2 hst
  obtain ⟨a1, a2, a3, a4⟩ := hst
  have c9 : y3 0 q1 = 9 := rSk_k h3 (show rKd γ0 q1 9 from hc) (by decide) (by decide)
  have cf' : y3 1 q1 = f := rSk_1 h3 (show rKd γ0 q1 9 from hc) (by decide) hcf
  have m10 : y3 0 q0 = 10 := rSk_k h3 (show rKd γ0 q0 10 from hm) (by decide) (by decide)
  have n9 : y3 9 = γ0 9 := rSk_9 h3
  have g6 : y3 6 f = R.1 := (h4).trans hQ6
  have S2b : (spR so (R.2.2.1 b i) (spB so (R.2.2.1 b) i S0)).1.1 = b + 1 := spR_b (SBb i)
  have e6 := h11
  rw [eb, show y5.toInt.toNat = (spR so (R.2.2.1 b i) (spB so (R.2.2.1 b) i S0)).1.2.1 b by rw [a3]; rfl] at e6
  have mL : (mid (spR so (R.2.2.1 b i) (spB so (R.2.2.1 b) i S0)) R b i).2.1 b = (spR so (R.2.2.1 b i) (spB so (R.2.2.1 b) i S0)).1.2.1 b + (R.2.1 b - i) := mid_len
  have rB : rwB (mid (spR so (R.2.2.1 b i) (spB so (R.2.2.1 b) i S0)) R b i) b ((spR so (R.2.2.1 b i) (spB so (R.2.2.1 b) i S0)).1.2.1 b) = rwB R b i := rwB_mid hi2
  have hl5 := a1.2.2 b hb ((spR so (R.2.2.1 b i) (spB so (R.2.2.1 b) i S0)).1.2.1 b) (by
    have q : y3 2 (rwL y3 y4 q1 b) + 1 = (mid (spR so (R.2.2.1 b i) (spB so (R.2.2.1 b) i S0)) R b i).2.1 b := (a1.2.1 b hb).1
    rw [mL] at q
    omega)
  rw [e6] at hl5
  have hl6 : lnX (rwB R b i) (mkL ((R.2.2.1 b i) 0) ((R.2.2.1 b i) 1) (ldV so ((R.2.2.1 b i) 2) (spB so (R.2.2.1 b) i S0).2) ((R.2.2.1 b i) 3) (spV so (R.2.2.1 b i) (spB so (R.2.2.1 b) i S0)) ((R.2.2.1 b i) 5)) (y2 y6) := by
    have q : lnX (rwB (mid (spR so (R.2.2.1 b i) (spB so (R.2.2.1 b) i S0)) R b i) b ((spR so (R.2.2.1 b i) (spB so (R.2.2.1 b) i S0)).1.2.1 b)) ((pgSt (mid (spR so (R.2.2.1 b i) (spB so (R.2.2.1 b) i S0)) R b i) b ((spR so (R.2.2.1 b i) (spB so (R.2.2.1 b) i S0)).1.2.1 b) (mkL ((R.2.2.1 b i) 0) ((R.2.2.1 b i) 1) (ldV so ((R.2.2.1 b i) 2) (spB so (R.2.2.1 b) i S0).2) ((R.2.2.1 b i) 3) (spV so (R.2.2.1 b i) (spB so (R.2.2.1 b) i S0)) ((R.2.2.1 b i) 5))).2.2.1 b ((spR so (R.2.2.1 b i) (spB so (R.2.2.1 b) i S0)).1.2.1 b)) (y2 y6) := hl5
    rw [rB, pgSt_l] at q
    exact q
  have lO' : lnO2 (rwB R b i) (mkL ((R.2.2.1 b i) 0) ((R.2.2.1 b i) 1) (ldV so ((R.2.2.1 b i) 2) (spB so (R.2.2.1 b) i S0).2) ((R.2.2.1 b i) 3) (spV so (R.2.2.1 b i) (spB so (R.2.2.1 b) i S0)) ((R.2.2.1 b i) 5)) := lnO2_W (lO i hi2) (SB2 i) (by have := R2n i; have := SBn i hi2; omega)
  obtain ⟨U1, -, -⟩ := lnU_X lO' hl6
  rw [h18] at U1
  have U1' : (x1.toInt ≤ 21 ∧ (fI (y2 y6) 1).toInt = (R.2.2.1 b i) 1 ∧ 0 ≤ (R.2.2.1 b i) 1) ∨ (21 < x1.toInt ∧ (R.2.2.1 b i) 1 = -1) := U1
  have us := ss_tr3 h20
  have e1 : slf so ((R.2.2.1 b i) 1) = -1 := slf_n (by omega)
  have eL : spLn so (R.2.2.1 b i) (spB so (R.2.2.1 b) i S0) = (pgL (spR so (R.2.2.1 b i) (spB so (R.2.2.1 b) i S0)).1 (mkL ((R.2.2.1 b i) 0) ((R.2.2.1 b i) 1) (ldV so ((R.2.2.1 b i) 2) (spB so (R.2.2.1 b) i S0).2) ((R.2.2.1 b i) 3) (spV so (R.2.2.1 b i) (spB so (R.2.2.1 b) i S0)) ((R.2.2.1 b i) 5)), (spR so (R.2.2.1 b i) (spB so (R.2.2.1 b) i S0)).2) := if_pos e1
  have nx := rfX_A a1 (mid_nxt (n := (spR so (R.2.2.1 b i) (spB so (R.2.2.1 b) i S0)).2) S2b hi2)
  rw [← eL] at nx
  have e0 : (spLn so (R.2.2.1 b i) (spB so (R.2.2.1 b) i S0)).1.2.1 b = (spR so (R.2.2.1 b i) (spB so (R.2.2.1 b) i S0)).1.2.1 b + 1 := by rw [eL]; exact L_len S2b
  refine ih (i + 1) hi2 ⟨nx, a2, ?_, ?_⟩
  · show _ = ((spLn so (R.2.2.1 b i) (spB so (R.2.2.1 b) i S0)).1.2.1 b : Int)
    rw [e0]; omega
  · show _ = ((spLn so (R.2.2.1 b i) (spB so (R.2.2.1 b) i S0)).2 : Int)
    rw [eL]; exact a4
set_option maxHeartbeats 4000000 in
theorem sp90_c3 {q0 : Nat} {F_1 : Nat → va_E} {q1 : Nat} {l2_1 : Int32} {c1 : Nat} (hm : γ0 0 q0 = 10) (hc : γ0 0 q1 = 9) (hcf : γ0 1 q1 = f) (hQ6 : γ0 6 f = R.1) (hO : qOk R) (hb : b < R.1) (hl2 : l2_1.toInt = (b : Int)) (hsl : slR (cB (F_1 (γ0 9 19))) so) (hS0 : S0.1.1 = b + 1) (h100 : 100 ≤ S0.2) (hbd : (spB so (R.2.2.1 b) (R.2.1 b) S0).2 ≤ 720) (hld : ∀ i, i < R.2.1 b → R.2.2.1 b i 0 = 17 → slf so (R.2.2.1 b i 1) = -1) : ∀ (y1 : List Nat) (y2 : Nat → va_E) (y3 : Nat → Nat → Nat) (y4 : Nat → Nat → Nat) (y5 : Int32) (y6 : Nat) (x1 : Int32) (x2 : Int32) (x3 : Int32) (k : Nat) (e1 : Nat → va_E) (e2 : List Nat) (e3 : Nat → Nat → Nat) (e4 : Nat → Nat → Nat), gB y5 0 1000001 → RS D I y1 y2 y3 y4 → rSk f [101] ([1, 3, 5, 6, 8, 9, 101] ++ npk) D I P F γ0 el0 y1 y2 y3 y4 → y3 6 f = γ0 6 f → y3 18 f = γ0 18 f → ((y3 7 f : Nat) : Int) = (fI (y2 q0) 11).toInt → (fI (y2 q0) 11).toInt = (fI (F_1 q0) 11).toInt → 100 ≤ (fI (y2 q0) 14).toInt → (y2 (γ0 9 19) = F_1 (γ0 9 19)) → rPl y3 y4 y2 q1 (y3 6 f) (spX (cB (F (γ0 9 3))) (cB (F_1 (γ0 9 19))) (l2_1.toInt : Int).toNat (y5.toInt : Int).toNat) → rAt y3 y4 q1 (l2_1.toInt : Int).toNat (y5.toInt : Int).toNat = y6 → rS2 (cB (F (γ0 9 3))) (cB (F_1 (γ0 9 19))) (y2 y6) → (y5.toInt : Int) ≤ y3 2 (y3 14 c1) → (l2_1.toInt : Int) < y3 6 f → eO y5.toInt (y3 2 (y3 14 c1) : Nat) (fI (y2 y6) 0).toInt → (y2 (γ0 9 3) = F (γ0 9 3)) → mKp (F q0) (y2 q0) → fI (y2 y6) 0 = x1 → gB x2 0 1 → tr_RRow_sets3 x1 x2 → x2.toInt ≠ 0 → x1.toInt = 21 → x3.toInt = y5.toInt + 1 → sp90_M q0 q1 c1 R b so S0 y1 y2 y3 y4 x3 k e1 e2 e3 e4 → sp90_J1 q0 q1 c1 R b so S0 y1 y2 y3 y4 y5 y6 k e1 e2 e3 e4 := by
  have eb : l2_1.toInt.toNat = b := by rw [hl2]; rfl
  have SBb : ∀ i, (spB so (R.2.2.1 b) i S0).1.1 = b + 1 := fun i => ((spB_k (so := so) (ls := R.2.2.1 b) (s := S0) (by omega) h100 i).1.1).trans hS0
  have SB0 : ∀ i, 0 < (spB so (R.2.2.1 b) i S0).1.1 := fun i => by rw [SBb i]; omega
  have SB2 : ∀ i, 100 ≤ (spB so (R.2.2.1 b) i S0).2 := fun i => (spB_k (so := so) (ls := R.2.2.1 b) (s := S0) (by omega) h100 i).2.2
  have SBn : ∀ i, i < R.2.1 b → (spLn so (R.2.2.1 b i) (spB so (R.2.2.1 b) i S0)).2 ≤ 720 := fun i hi => by
    have q := (spB_m (so := so) (ls := R.2.2.1 b) (s := S0) (by omega) h100 (R.2.1 b - (i + 1)) (i + 1)).1
    rw [show i + 1 + (R.2.1 b - (i + 1)) = R.2.1 b by omega] at q
    exact Nat.le_trans q hbd
  have R2n : ∀ i, (spR so (R.2.2.1 b i) (spB so (R.2.2.1 b) i S0)).2 ≤ (spLn so (R.2.2.1 b i) (spB so (R.2.2.1 b) i S0)).2 := fun i => (spW_k (so := so) (l := (R.2.2.1 b i)) (a := ldV so ((R.2.2.1 b i) 2) (spB so (R.2.2.1 b) i S0).2) (c := spV so (R.2.2.1 b i) (spB so (R.2.2.1 b) i S0)) (spR_1 (SB0 i)) (spR_2 (SB2 i))).2.1
  have R1n : ∀ i, (ldN so ((R.2.2.1 b i) 2) (spB so (R.2.2.1 b) i S0)).2 ≤ (spR so (R.2.2.1 b i) (spB so (R.2.2.1 b) i S0)).2 := fun i => by
    unfold spR
    split
    · exact Nat.le_refl _
    · exact ldN_le
  have lO : ∀ i, i < R.2.1 b → lnO2 (rwB R b i) (R.2.2.1 b i) := fun i hi => qk_l hO hb hi
  intro y1 y2 y3 y4 y5 y6 x1 x2 x3 k e1 e2 e3 e4 h1 h2 h3 h4 h5 h6 h7 h8 h9 h10 h11 h12 h13 h14 h15 h16 h17 h18 h19 h20 h21 h22 h23 ih
  intro i hi2 hst
  obtain ⟨a1, a2, a3, a4⟩ := hst
  have c9 : y3 0 q1 = 9 := rSk_k h3 (show rKd γ0 q1 9 from hc) (by decide) (by decide)
  have cf' : y3 1 q1 = f := rSk_1 h3 (show rKd γ0 q1 9 from hc) (by decide) hcf
  have m10 : y3 0 q0 = 10 := rSk_k h3 (show rKd γ0 q0 10 from hm) (by decide) (by decide)
  have n9 : y3 9 = γ0 9 := rSk_9 h3
  have g6 : y3 6 f = R.1 := (h4).trans hQ6
  have S2b : (spR so (R.2.2.1 b i) (spB so (R.2.2.1 b) i S0)).1.1 = b + 1 := spR_b (SBb i)
  have e6 := h11
  rw [eb, show y5.toInt.toNat = (spR so (R.2.2.1 b i) (spB so (R.2.2.1 b) i S0)).1.2.1 b by rw [a3]; rfl] at e6
  have mL : (mid (spR so (R.2.2.1 b i) (spB so (R.2.2.1 b) i S0)) R b i).2.1 b = (spR so (R.2.2.1 b i) (spB so (R.2.2.1 b) i S0)).1.2.1 b + (R.2.1 b - i) := mid_len
  have rB : rwB (mid (spR so (R.2.2.1 b i) (spB so (R.2.2.1 b) i S0)) R b i) b ((spR so (R.2.2.1 b i) (spB so (R.2.2.1 b) i S0)).1.2.1 b) = rwB R b i := rwB_mid hi2
  have hl5 := a1.2.2 b hb ((spR so (R.2.2.1 b i) (spB so (R.2.2.1 b) i S0)).1.2.1 b) (by
    have q : y3 2 (rwL y3 y4 q1 b) + 1 = (mid (spR so (R.2.2.1 b i) (spB so (R.2.2.1 b) i S0)) R b i).2.1 b := (a1.2.1 b hb).1
    rw [mL] at q
    omega)
  rw [e6] at hl5
  have hl6 : lnX (rwB R b i) (mkL ((R.2.2.1 b i) 0) ((R.2.2.1 b i) 1) (ldV so ((R.2.2.1 b i) 2) (spB so (R.2.2.1 b) i S0).2) ((R.2.2.1 b i) 3) (spV so (R.2.2.1 b i) (spB so (R.2.2.1 b) i S0)) ((R.2.2.1 b i) 5)) (y2 y6) := by
    have q : lnX (rwB (mid (spR so (R.2.2.1 b i) (spB so (R.2.2.1 b) i S0)) R b i) b ((spR so (R.2.2.1 b i) (spB so (R.2.2.1 b) i S0)).1.2.1 b)) ((pgSt (mid (spR so (R.2.2.1 b i) (spB so (R.2.2.1 b) i S0)) R b i) b ((spR so (R.2.2.1 b i) (spB so (R.2.2.1 b) i S0)).1.2.1 b) (mkL ((R.2.2.1 b i) 0) ((R.2.2.1 b i) 1) (ldV so ((R.2.2.1 b i) 2) (spB so (R.2.2.1 b) i S0).2) ((R.2.2.1 b i) 3) (spV so (R.2.2.1 b i) (spB so (R.2.2.1 b) i S0)) ((R.2.2.1 b i) 5))).2.2.1 b ((spR so (R.2.2.1 b i) (spB so (R.2.2.1 b) i S0)).1.2.1 b)) (y2 y6) := hl5
    rw [rB, pgSt_l] at q
    exact q
  have lO' : lnO2 (rwB R b i) (mkL ((R.2.2.1 b i) 0) ((R.2.2.1 b i) 1) (ldV so ((R.2.2.1 b i) 2) (spB so (R.2.2.1 b) i S0).2) ((R.2.2.1 b i) 3) (spV so (R.2.2.1 b i) (spB so (R.2.2.1 b) i S0)) ((R.2.2.1 b i) 5)) := lnO2_W (lO i hi2) (SB2 i) (by have := R2n i; have := SBn i hi2; omega)
  obtain ⟨U1, -, -⟩ := lnU_X lO' hl6
  rw [h18] at U1
  have U1' : (x1.toInt ≤ 21 ∧ (fI (y2 y6) 1).toInt = (R.2.2.1 b i) 1 ∧ 0 ≤ (R.2.2.1 b i) 1) ∨ (21 < x1.toInt ∧ (R.2.2.1 b i) 1 = -1) := U1
  have us := ss_tr3 h20
  have e1 : slf so ((R.2.2.1 b i) 1) = -1 := by
    have q17 := lnX_17 lO' hl6 (by rw [h18]; exact h22)
    exact hld i hi2 q17
  have eL : spLn so (R.2.2.1 b i) (spB so (R.2.2.1 b) i S0) = (pgL (spR so (R.2.2.1 b i) (spB so (R.2.2.1 b) i S0)).1 (mkL ((R.2.2.1 b i) 0) ((R.2.2.1 b i) 1) (ldV so ((R.2.2.1 b i) 2) (spB so (R.2.2.1 b) i S0).2) ((R.2.2.1 b i) 3) (spV so (R.2.2.1 b i) (spB so (R.2.2.1 b) i S0)) ((R.2.2.1 b i) 5)), (spR so (R.2.2.1 b i) (spB so (R.2.2.1 b) i S0)).2) := if_pos e1
  have nx := rfX_A a1 (mid_nxt (n := (spR so (R.2.2.1 b i) (spB so (R.2.2.1 b) i S0)).2) S2b hi2)
  rw [← eL] at nx
  have e0 : (spLn so (R.2.2.1 b i) (spB so (R.2.2.1 b) i S0)).1.2.1 b = (spR so (R.2.2.1 b i) (spB so (R.2.2.1 b) i S0)).1.2.1 b + 1 := by rw [eL]; exact L_len S2b
  refine ih (i + 1) hi2 ⟨nx, a2, ?_, ?_⟩
  · show _ = ((spLn so (R.2.2.1 b i) (spB so (R.2.2.1 b) i S0)).1.2.1 b : Int)
    rw [e0]; omega
  · show _ = ((spLn so (R.2.2.1 b i) (spB so (R.2.2.1 b) i S0)).2 : Int)
    rw [eL]; exact a4
set_option maxHeartbeats 4000000 in
theorem sp90_c4 {q0 : Nat} {F_1 : Nat → va_E} {q1 : Nat} {l2_1 : Int32} {c1 : Nat} (hm : γ0 0 q0 = 10) (hc : γ0 0 q1 = 9) (hcf : γ0 1 q1 = f) (hQ6 : γ0 6 f = R.1) (hO : qOk R) (hb : b < R.1) (hl2 : l2_1.toInt = (b : Int)) (hsl : slR (cB (F_1 (γ0 9 19))) so) (hS0 : S0.1.1 = b + 1) (h100 : 100 ≤ S0.2) (hbd : (spB so (R.2.2.1 b) (R.2.1 b) S0).2 ≤ 720) (hld : ∀ i, i < R.2.1 b → R.2.2.1 b i 0 = 17 → slf so (R.2.2.1 b i 1) = -1) : ∀ (y1 : List Nat) (y2 : Nat → va_E) (y3 : Nat → Nat → Nat) (y4 : Nat → Nat → Nat) (y5 : Int32) (y6 : Nat) (x1 : Int32) (x2 : Int32) (x3 : Int32) (x4 : Nat → Int32) (x5 : Int32) (x6 : Int32) (x7 : Nat → va_E) (x8 : Int32) (x9 : Nat → va_E) (x10 : List Nat) (x11 : Nat → va_E) (x12 : Nat → Nat → Nat) (x13 : Nat → Nat → Nat) (x14 : Nat) (x15 : Nat) (x16 : Nat) (x17 : Nat → va_E) (x18 : Nat → va_E) (x19 : Nat → va_E) (x20 : Nat → va_E) (x21 : Int32) (x22 : Nat) (x23 : List Nat) (x24 : Nat → va_E) (x25 : Nat → Nat → Nat) (x26 : Nat → Nat → Nat) (x27 : Nat) (x28 : Nat) (x29 : Int32) (k : Nat) (e1 : Nat → va_E) (e2 : List Nat) (e3 : Nat → Nat → Nat) (e4 : Nat → Nat → Nat), gB y5 0 1000001 → RS D I y1 y2 y3 y4 → rSk f [101] ([1, 3, 5, 6, 8, 9, 101] ++ npk) D I P F γ0 el0 y1 y2 y3 y4 → y3 6 f = γ0 6 f → y3 18 f = γ0 18 f → ((y3 7 f : Nat) : Int) = (fI (y2 q0) 11).toInt → (fI (y2 q0) 11).toInt = (fI (F_1 q0) 11).toInt → 100 ≤ (fI (y2 q0) 14).toInt → (y2 (γ0 9 19) = F_1 (γ0 9 19)) → rPl y3 y4 y2 q1 (y3 6 f) (spX (cB (F (γ0 9 3))) (cB (F_1 (γ0 9 19))) (l2_1.toInt : Int).toNat (y5.toInt : Int).toNat) → rAt y3 y4 q1 (l2_1.toInt : Int).toNat (y5.toInt : Int).toNat = y6 → rS2 (cB (F (γ0 9 3))) (cB (F_1 (γ0 9 19))) (y2 y6) → (y5.toInt : Int) ≤ y3 2 (y3 14 c1) → (l2_1.toInt : Int) < y3 6 f → eO y5.toInt (y3 2 (y3 14 c1) : Nat) (fI (y2 y6) 0).toInt → (y2 (γ0 9 3) = F (γ0 9 3)) → mKp (F q0) (y2 q0) → fI (y2 y6) 0 = x1 → gB x2 0 1 → tr_RRow_sets3 x1 x2 → x2.toInt ≠ 0 → x1.toInt ≠ 21 → fR (y2 q0) 19 = (y3 9 19) → fI (y2 y6) 1 = x3 → y2 (y3 9 19) = .inl (I .int, 2000, .inl x4) → x5 = x4 x3.toNatClampNeg → gB x5 (-1) 1999 → 0 ≤ x5.toInt → fI (y2 q0) 14 = x6 → x6.toInt ≠ 2000 → (∀ b, b ≠ y6 → x7 b = y2 b) → x7 y6 = cF (y2 y6) 1 (.int x6) → fI (x7 q0) 14 = x6 → x8.toInt = x6.toInt + 1 → (∀ b, b ≠ q0 → x9 b = x7 b) → x9 q0 = cF (x7 q0) 14 (.int x8) → rRq D I y1 x9 y3 y4 f q1 x10 x11 x12 x13 x14 x15 x16 → (∀ b, b ≠ x14 → x17 b = x11 b) → x17 x14 = cF (x11 x14) 0 (.int 23) → (∀ b, b ≠ x14 → x18 b = x17 b) → x18 x14 = cF (x17 x14) 4 (.int x5) → fI (x18 y6) 1 = x6 → (∀ b, b ≠ x14 → x19 b = x18 b) → x19 x14 = cF (x18 x14) 2 (.int x6) → (∀ b, b ≠ x14 → x20 b = x19 b) → x20 x14 = cF (x19 x14) 5 (.int 1) → x21.toInt = y5.toInt + 1 → fR (x20 c1) 0 = x22 → rIq D I x10 x20 x12 x13 f x22 x21.toInt.toNat x14 x23 x24 x25 x26 x27 x28 → x29.toInt = x21.toInt + 1 → sp90_M q0 q1 c1 R b so S0 x23 x24 x25 x26 x29 k e1 e2 e3 e4 → sp90_J1 q0 q1 c1 R b so S0 y1 y2 y3 y4 y5 y6 k e1 e2 e3 e4 := by
  have eb : l2_1.toInt.toNat = b := by rw [hl2]; rfl
  have SBb : ∀ i, (spB so (R.2.2.1 b) i S0).1.1 = b + 1 := fun i => ((spB_k (so := so) (ls := R.2.2.1 b) (s := S0) (by omega) h100 i).1.1).trans hS0
  have SB0 : ∀ i, 0 < (spB so (R.2.2.1 b) i S0).1.1 := fun i => by rw [SBb i]; omega
  have SB2 : ∀ i, 100 ≤ (spB so (R.2.2.1 b) i S0).2 := fun i => (spB_k (so := so) (ls := R.2.2.1 b) (s := S0) (by omega) h100 i).2.2
  have SBn : ∀ i, i < R.2.1 b → (spLn so (R.2.2.1 b i) (spB so (R.2.2.1 b) i S0)).2 ≤ 720 := fun i hi => by
    have q := (spB_m (so := so) (ls := R.2.2.1 b) (s := S0) (by omega) h100 (R.2.1 b - (i + 1)) (i + 1)).1
    rw [show i + 1 + (R.2.1 b - (i + 1)) = R.2.1 b by omega] at q
    exact Nat.le_trans q hbd
  have R2n : ∀ i, (spR so (R.2.2.1 b i) (spB so (R.2.2.1 b) i S0)).2 ≤ (spLn so (R.2.2.1 b i) (spB so (R.2.2.1 b) i S0)).2 := fun i => (spW_k (so := so) (l := (R.2.2.1 b i)) (a := ldV so ((R.2.2.1 b i) 2) (spB so (R.2.2.1 b) i S0).2) (c := spV so (R.2.2.1 b i) (spB so (R.2.2.1 b) i S0)) (spR_1 (SB0 i)) (spR_2 (SB2 i))).2.1
  have R1n : ∀ i, (ldN so ((R.2.2.1 b i) 2) (spB so (R.2.2.1 b) i S0)).2 ≤ (spR so (R.2.2.1 b i) (spB so (R.2.2.1 b) i S0)).2 := fun i => by
    unfold spR
    split
    · exact Nat.le_refl _
    · exact ldN_le
  have lO : ∀ i, i < R.2.1 b → lnO2 (rwB R b i) (R.2.2.1 b i) := fun i hi => qk_l hO hb hi
  intro y1 y2 y3 y4 y5 y6 x1 x2 x3 x4 x5 x6 x7 x8 x9 x10 x11 x12 x13 x14 x15 x16 x17 x18 x19 x20 x21 x22 x23 x24 x25 x26 x27 x28 x29 k e1 e2 e3 e4 h1 h2 h3 h4 h5 h6 h7 h8 h9 h10 h11 h12 h13 h14 h15 h16 h17 h18 h19 h20 h21 h22 h23 h24 h25 h26 h27 h28 h29 h30 h31 h32 h33 h34 h35 h36 h37 h38 h39 h40 h41 h42 h43 h44 h45 h46 h47 h48 h49 h50 ih
  intro i hi2 hst
  obtain ⟨a1, a2, a3, a4⟩ := hst
  have c9 : y3 0 q1 = 9 := rSk_k h3 (show rKd γ0 q1 9 from hc) (by decide) (by decide)
  have cf' : y3 1 q1 = f := rSk_1 h3 (show rKd γ0 q1 9 from hc) (by decide) hcf
  have m10 : y3 0 q0 = 10 := rSk_k h3 (show rKd γ0 q0 10 from hm) (by decide) (by decide)
  have n9 : y3 9 = γ0 9 := rSk_9 h3
  have g6 : y3 6 f = R.1 := (h4).trans hQ6
  have S2b : (spR so (R.2.2.1 b i) (spB so (R.2.2.1 b) i S0)).1.1 = b + 1 := spR_b (SBb i)
  have e6 := h11
  rw [eb, show y5.toInt.toNat = (spR so (R.2.2.1 b i) (spB so (R.2.2.1 b) i S0)).1.2.1 b by rw [a3]; rfl] at e6
  have mL : (mid (spR so (R.2.2.1 b i) (spB so (R.2.2.1 b) i S0)) R b i).2.1 b = (spR so (R.2.2.1 b i) (spB so (R.2.2.1 b) i S0)).1.2.1 b + (R.2.1 b - i) := mid_len
  have rB : rwB (mid (spR so (R.2.2.1 b i) (spB so (R.2.2.1 b) i S0)) R b i) b ((spR so (R.2.2.1 b i) (spB so (R.2.2.1 b) i S0)).1.2.1 b) = rwB R b i := rwB_mid hi2
  have hl5 := a1.2.2 b hb ((spR so (R.2.2.1 b i) (spB so (R.2.2.1 b) i S0)).1.2.1 b) (by
    have q : y3 2 (rwL y3 y4 q1 b) + 1 = (mid (spR so (R.2.2.1 b i) (spB so (R.2.2.1 b) i S0)) R b i).2.1 b := (a1.2.1 b hb).1
    rw [mL] at q
    omega)
  rw [e6] at hl5
  have hl6 : lnX (rwB R b i) (mkL ((R.2.2.1 b i) 0) ((R.2.2.1 b i) 1) (ldV so ((R.2.2.1 b i) 2) (spB so (R.2.2.1 b) i S0).2) ((R.2.2.1 b i) 3) (spV so (R.2.2.1 b i) (spB so (R.2.2.1 b) i S0)) ((R.2.2.1 b i) 5)) (y2 y6) := by
    have q : lnX (rwB (mid (spR so (R.2.2.1 b i) (spB so (R.2.2.1 b) i S0)) R b i) b ((spR so (R.2.2.1 b i) (spB so (R.2.2.1 b) i S0)).1.2.1 b)) ((pgSt (mid (spR so (R.2.2.1 b i) (spB so (R.2.2.1 b) i S0)) R b i) b ((spR so (R.2.2.1 b i) (spB so (R.2.2.1 b) i S0)).1.2.1 b) (mkL ((R.2.2.1 b i) 0) ((R.2.2.1 b i) 1) (ldV so ((R.2.2.1 b i) 2) (spB so (R.2.2.1 b) i S0).2) ((R.2.2.1 b i) 3) (spV so (R.2.2.1 b i) (spB so (R.2.2.1 b) i S0)) ((R.2.2.1 b i) 5))).2.2.1 b ((spR so (R.2.2.1 b i) (spB so (R.2.2.1 b) i S0)).1.2.1 b)) (y2 y6) := hl5
    rw [rB, pgSt_l] at q
    exact q
  have lO' : lnO2 (rwB R b i) (mkL ((R.2.2.1 b i) 0) ((R.2.2.1 b i) 1) (ldV so ((R.2.2.1 b i) 2) (spB so (R.2.2.1 b) i S0).2) ((R.2.2.1 b i) 3) (spV so (R.2.2.1 b i) (spB so (R.2.2.1 b) i S0)) ((R.2.2.1 b i) 5)) := lnO2_W (lO i hi2) (SB2 i) (by have := R2n i; have := SBn i hi2; omega)
  obtain ⟨U1, -, -⟩ := lnU_X lO' hl6
  rw [h18] at U1
  have U1' : (x1.toInt ≤ 21 ∧ (fI (y2 y6) 1).toInt = (R.2.2.1 b i) 1 ∧ 0 ≤ (R.2.2.1 b i) 1) ∨ (21 < x1.toInt ∧ (R.2.2.1 b i) 1 = -1) := U1
  have us := ss_tr3 h20
  rw [h24] at U1'
  have el1 : x3.toInt = (R.2.2.1 b i) 1 := by omega
  have eg : cB (F_1 (γ0 9 19)) = x4 := by rw [← h9, ← n9]; exact cB_of h25
  have sv := slR_u hsl el1 (by omega) (lnO2_le1 (lO i hi2))
  rw [eg, ← h26] at sv
  have e1 : slf so ((R.2.2.1 b i) 1) = x5.toInt := by omega
  have ne1 : ¬ slf so ((R.2.2.1 b i) 1) = -1 := by omega
  have eL : spLn so (R.2.2.1 b i) (spB so (R.2.2.1 b) i S0) = (pgL (pgL (spR so (R.2.2.1 b i) (spB so (R.2.2.1 b) i S0)).1 (mkL ((R.2.2.1 b i) 0) ((spR so (R.2.2.1 b i) (spB so (R.2.2.1 b) i S0)).2 : Int) (ldV so ((R.2.2.1 b i) 2) (spB so (R.2.2.1 b) i S0).2) ((R.2.2.1 b i) 3) (spV so (R.2.2.1 b i) (spB so (R.2.2.1 b) i S0)) ((R.2.2.1 b i) 5))) (mkL 18 (-1) ((spR so (R.2.2.1 b i) (spB so (R.2.2.1 b) i S0)).2 : Int) 0 (-1) (slf so ((R.2.2.1 b i) 1))), (spR so (R.2.2.1 b i) (spB so (R.2.2.1 b) i S0)).2 + 1) := if_neg ne1
  have nn1 : (spR so (R.2.2.1 b i) (spB so (R.2.2.1 b) i S0)).2 + 1 ≤ 720 := by
    have q3 := SBn i hi2
    rw [eL] at q3
    exact q3
  rw [h29] at a4
  have irow : i + 1 < R.2.1 b := by
    refine Classical.byContradiction fun n => ?_
    have q := lO i hi2
    unfold lnO2 rwB at q
    rw [if_neg (by rw [decide_eq_true_iff]; exact n)] at q
    have := q.1.1
    omega
  have kx : y3 0 y6 = 1 := by rw [← e6]; exact (rAt_k h2 c9 cf' (by omega)).1
  have sx : rwS (y2 y6) := rwS_1 (RS_o h2 kx)
  have p1 := set_T (t := ((spR so (R.2.2.1 b i) (spB so (R.2.2.1 b) i S0)).2 : Int)) lO' hl6 sx h32 (by show 0 ≤ (R.2.2.1 b i) 1; omega) a4
  have pt := rfX_put (b := b) (j := (spR so (R.2.2.1 b i) (spB so (R.2.2.1 b) i S0)).1.2.1 b) (l := mkL ((R.2.2.1 b i) 0) ((spR so (R.2.2.1 b i) (spB so (R.2.2.1 b) i S0)).2 : Int) (ldV so ((R.2.2.1 b i) 2) (spB so (R.2.2.1 b) i S0).2) ((R.2.2.1 b i) 3) (spV so (R.2.2.1 b i) (spB so (R.2.2.1 b) i S0)) ((R.2.2.1 b i) 5)) h2 c9 cf' (by exact g6) a1 (hB2_ (Q := R) h2 c9 cf' g6) hb (by
    show (spR so (R.2.2.1 b i) (spB so (R.2.2.1 b) i S0)).1.2.1 b < (mid (spR so (R.2.2.1 b i) (spB so (R.2.2.1 b) i S0)) R b i).2.1 b
    rw [mL]; omega) (by rw [e6]; exact h31) (by rw [pgSt_l]; rfl) (by
    rw [e6]
    show lnX (rwB (mid (spR so (R.2.2.1 b i) (spB so (R.2.2.1 b) i S0)) R b i) b ((spR so (R.2.2.1 b i) (spB so (R.2.2.1 b) i S0)).1.2.1 b)) _ _
    rw [rB]
    exact p1)
  rw [pgSt_2] at pt
  have nqy : q0 ≠ y6 := fun e => by rw [e, kx] at m10; cases m10
  have r9 : rfX y3 y4 x9 q1 (pgSt (mid (spR so (R.2.2.1 b i) (spB so (R.2.2.1 b) i S0)) R b i) b ((spR so (R.2.2.1 b i) (spB so (R.2.2.1 b) i S0)).1.2.1 b) (mkL ((R.2.2.1 b i) 0) ((spR so (R.2.2.1 b i) (spB so (R.2.2.1 b) i S0)).2 : Int) (ldV so ((R.2.2.1 b i) 2) (spB so (R.2.2.1 b) i S0).2) ((R.2.2.1 b i) 3) (spV so (R.2.2.1 b i) (spB so (R.2.2.1 b) i S0)) ((R.2.2.1 b i) 5))) := rfX_fr (F := x7) (rs_7 h2 kx h31 h32 (by omega) (by omega)) c9 cf' (by exact g6) pt (fun a ha => h35 a (fun e => by rw [e, m10] at ha; omega))
  obtain ⟨r1, rE⟩ := rfX_rw (rs_9 (rs_7 h2 kx h31 h32 (by omega) (by omega)) m10 h35 h36 (by omega) (by omega)) c9 cf' (by exact g6) r9 h37
  have hR := h37
  obtain ⟨sq, k0, -⟩ := hR
  have sk := rSk_of sq
  have d9 : x12 0 q1 = 9 := rSk_k sk (show rKd y3 q1 9 from c9) (by decide) (by decide)
  have df : x12 1 q1 = f := rSk_1 sk (show rKd y3 q1 9 from c9) (by decide) cf'
  have dm : x12 0 q0 = 10 := rSk_k sk (show rKd y3 q0 10 from m10) (by decide) (by decide)
  have s0 : rwS (x11 x14) := rwS_R (RS_o sq.1 k0)
  have fr : ∀ a, a ≠ x14 → x20 a = x11 a := fun a ha => by rw [h45 a ha, h43 a ha, h40 a ha, h38 a ha]
  obtain ⟨z1, y10, y11, y12, y13, y14, y15, y16⟩ := cw_0 s0 h39
  obtain ⟨z2, y20, y21, y22, y23, y24, y25, y26⟩ := cw_4 z1 h41
  obtain ⟨z3, y30, y31, y32, y33, y34, y35, y36⟩ := cw_2 z2 h44
  obtain ⟨z4, y40, y41, y42, y43, y44, y45, y46⟩ := cw_5 z3 h46
  have r2 : rfX x12 x13 x20 q1 _ := rfX_fr sq.1 d9 df rE r1 (fun a ha => fr a (fun e => by rw [e, k0] at ha; omega))
  have b14 := (rSk_s sk (show rKd y3 q1 9 from c9) (by decide)).2.1
  have ec : x13 (x12 14 q1) b = c1 := by
    rw [b14, ((h37).2.2.2.2.2.2.2.2.1 (y3 14 q1) (by rw [(rc_at h2 c9 cf').2.1]; decide) (by rw [(rc_at h2 c9 cf').2.1]; decide)).2]
    exact a2
  have bq := hB2_ (Q := R) sq.1 d9 df rE b hb
  have e22 : x22 = rwL x12 x13 q1 b := by
    obtain ⟨ll, nn, pp, ss, v1, ⟨g1, g2, g3⟩, -⟩ := show rk_2 x12 (x13 (x12 14 q1) b) (x11 (x13 (x12 14 q1) b)) from RS_o sq.1 bq
    have e2 : x20 c1 = x11 c1 := fr c1 (fun e => by rw [← e, ← ec, bq] at k0; cases k0)
    rw [← h48, e2, ← ec, v1]
    show ll = x12 14 (x13 (x12 14 q1) b)
    rw [g1]
  have hI := h49
  rw [e22, show x21.toInt.toNat = (spR so (R.2.2.1 b i) (spB so (R.2.2.1 b) i S0)).1.2.1 b + 1 by omega] at hI
  obtain ⟨r3, rF⟩ := rfX_ins (l := mkL 18 (-1) ((spR so (R.2.2.1 b i) (spB so (R.2.2.1 b) i S0)).2 : Int) 0 (-1) x5.toInt) (rs_20 sq.1 k0 fr h39 h41 h44 h46 (by omega) (by omega) (by omega) (by omega)) d9 df (by exact rE) r2 hI hb (by
    show (spR so (R.2.2.1 b i) (spB so (R.2.2.1 b) i S0)).1.2.1 b + 1 < (mid (spR so (R.2.2.1 b i) (spB so (R.2.2.1 b) i S0)) R b i).2.1 b
    rw [mL]; omega) (by
    unfold lnX
    rw [if_pos rfl]
    refine ⟨fun z => absurd (show (18 : Int) ≤ 13 from z) (by decide), fun z => absurd (show (18 : Int) = 14 from z) (by decide), fun z => absurd (show (18 : Int) = 15 from z) (by decide), fun z => absurd (show (18 : Int) = 16 from z) (by decide), fun z => absurd (show (18 : Int) = 17 from z) (by decide), fun _ => ⟨?_, Or.inl ⟨?_, ?_, ?_⟩, ?_⟩⟩
    · rw [y40, y30, y20, y10]; decide
    · rw [y45]; decide
    · show (fI (x20 x14) 2).toInt = ((spR so (R.2.2.1 b i) (spB so (R.2.2.1 b) i S0)).2 : Int)
      rw [y42, y32]; exact a4
    · show (0 : Int) ≤ ((spR so (R.2.2.1 b i) (spB so (R.2.2.1 b) i S0)).2 : Int)
      omega
    · show (fI (x20 x14) 4).toInt = x5.toInt
      rw [y44, y34, y24])
  have nx := rfX_A r3 (mid_sto (n := (spR so (R.2.2.1 b i) (spB so (R.2.2.1 b) i S0)).2 + 1) S2b irow)
  rw [← e1, ← eL] at nx
  have sk2 := rSk_of hI.1
  have e0 : (spLn so (R.2.2.1 b i) (spB so (R.2.2.1 b) i S0)).1.2.1 b = (spR so (R.2.2.1 b i) (spB so (R.2.2.1 b) i S0)).1.2.1 b + 2 := by
    rw [eL]
    show (pgL (pgL (spR so (R.2.2.1 b i) (spB so (R.2.2.1 b) i S0)).1 _) _).2.1 b = _
    rw [L_len (S := (pgL (spR so (R.2.2.1 b i) (spB so (R.2.2.1 b) i S0)).1 (mkL ((R.2.2.1 b i) 0) ((spR so (R.2.2.1 b i) (spB so (R.2.2.1 b) i S0)).2 : Int) (ldV so ((R.2.2.1 b i) 2) (spB so (R.2.2.1 b) i S0).2) ((R.2.2.1 b i) 3) (spV so (R.2.2.1 b i) (spB so (R.2.2.1 b) i S0)) ((R.2.2.1 b i) 5)), 0)) S2b, L_len S2b]
  refine ih (i + 1) hi2 ⟨nx, ?_, ?_, ?_⟩
  · have a14 := (rSk_s sk2 (show rKd x12 q1 9 from d9) (by decide)).2.1
    have nl : x12 14 q1 ≠ rwL x12 x13 q1 b := fun e => by
      have w1 := (rBk_at sq.1 d9 df (show b < x12 6 f by rw [show x12 6 f = R.1 from rE]; exact hb)).2.2.2.1
      have w2 := (rc_at sq.1 d9 df).2.1
      rw [← e, w2] at w1; cases w1
    rw [a14, (hI.2.2.2.2.1 (x12 14 q1) (by rw [(rc_at sq.1 d9 df).2.1]; decide) nl).2]
    exact ec
  · show _ = ((spLn so (R.2.2.1 b i) (spB so (R.2.2.1 b) i S0)).1.2.1 b : Int)
    rw [e0]; omega
  · show _ = ((spLn so (R.2.2.1 b i) (spB so (R.2.2.1 b) i S0)).2 : Int)
    rw [eL, rSk_F sk2 (show rKd x12 q0 10 from dm) (by decide) (by decide), fr q0 (fun e => by rw [← e, dm] at k0; cases k0), rSk_F sk (show rKd y3 q0 10 from m10) (by decide) (by decide), h36]
    obtain ⟨r28, r35, v9, v10, v11, v12, v13, v14, v23, v24, v25, v26, v27, v30, v32, v33, v34, he, -⟩ := rk10_m (show rk_10 y3 (x7 q0) by rw [h31 q0 nqy]; exact RS_o h2 m10)
    rw [he]
    show x8.toInt = _
    rw [h34]
    show _ = (((spR so (R.2.2.1 b i) (spB so (R.2.2.1 b) i S0)).2 + 1 : Nat) : Int)
    omega
set_option maxHeartbeats 4000000 in
theorem sp90_c5 {q0 : Nat} {F_1 : Nat → va_E} {q1 : Nat} {l2_1 : Int32} {c1 : Nat} (hm : γ0 0 q0 = 10) (hc : γ0 0 q1 = 9) (hcf : γ0 1 q1 = f) (hQ6 : γ0 6 f = R.1) (hO : qOk R) (hb : b < R.1) (hl2 : l2_1.toInt = (b : Int)) (hsl : slR (cB (F_1 (γ0 9 19))) so) (hS0 : S0.1.1 = b + 1) (h100 : 100 ≤ S0.2) (hbd : (spB so (R.2.2.1 b) (R.2.1 b) S0).2 ≤ 720) (hld : ∀ i, i < R.2.1 b → R.2.2.1 b i 0 = 17 → slf so (R.2.2.1 b i 1) = -1) : ∀ (y1 : List Nat) (y2 : Nat → va_E) (y3 : Nat → Nat → Nat) (y4 : Nat → Nat → Nat) (y5 : Int32) (y6 : Nat) (x1 : Int32) (x2 : Int32) (x3 : Int32) (x4 : Nat → Int32) (x5 : Int32) (x6 : Int32), gB y5 0 1000001 → RS D I y1 y2 y3 y4 → rSk f [101] ([1, 3, 5, 6, 8, 9, 101] ++ npk) D I P F γ0 el0 y1 y2 y3 y4 → y3 6 f = γ0 6 f → y3 18 f = γ0 18 f → ((y3 7 f : Nat) : Int) = (fI (y2 q0) 11).toInt → (fI (y2 q0) 11).toInt = (fI (F_1 q0) 11).toInt → 100 ≤ (fI (y2 q0) 14).toInt → (y2 (γ0 9 19) = F_1 (γ0 9 19)) → rPl y3 y4 y2 q1 (y3 6 f) (spX (cB (F (γ0 9 3))) (cB (F_1 (γ0 9 19))) (l2_1.toInt : Int).toNat (y5.toInt : Int).toNat) → rAt y3 y4 q1 (l2_1.toInt : Int).toNat (y5.toInt : Int).toNat = y6 → rS2 (cB (F (γ0 9 3))) (cB (F_1 (γ0 9 19))) (y2 y6) → (y5.toInt : Int) ≤ y3 2 (y3 14 c1) → (l2_1.toInt : Int) < y3 6 f → eO y5.toInt (y3 2 (y3 14 c1) : Nat) (fI (y2 y6) 0).toInt → (y2 (γ0 9 3) = F (γ0 9 3)) → mKp (F q0) (y2 q0) → fI (y2 y6) 0 = x1 → gB x2 0 1 → tr_RRow_sets3 x1 x2 → x2.toInt ≠ 0 → x1.toInt ≠ 21 → fR (y2 q0) 19 = (y3 9 19) → fI (y2 y6) 1 = x3 → y2 (y3 9 19) = .inl (I .int, 2000, .inl x4) → x5 = x4 x3.toNatClampNeg → gB x5 (-1) 1999 → 0 ≤ x5.toInt → fI (y2 q0) 14 = x6 → x6.toInt = 2000 → sp90_J1 q0 q1 c1 R b so S0 y1 y2 y3 y4 y5 y6 348 y2 y1 y3 y4 := by
  have eb : l2_1.toInt.toNat = b := by rw [hl2]; rfl
  have SBb : ∀ i, (spB so (R.2.2.1 b) i S0).1.1 = b + 1 := fun i => ((spB_k (so := so) (ls := R.2.2.1 b) (s := S0) (by omega) h100 i).1.1).trans hS0
  have SB0 : ∀ i, 0 < (spB so (R.2.2.1 b) i S0).1.1 := fun i => by rw [SBb i]; omega
  have SB2 : ∀ i, 100 ≤ (spB so (R.2.2.1 b) i S0).2 := fun i => (spB_k (so := so) (ls := R.2.2.1 b) (s := S0) (by omega) h100 i).2.2
  have SBn : ∀ i, i < R.2.1 b → (spLn so (R.2.2.1 b i) (spB so (R.2.2.1 b) i S0)).2 ≤ 720 := fun i hi => by
    have q := (spB_m (so := so) (ls := R.2.2.1 b) (s := S0) (by omega) h100 (R.2.1 b - (i + 1)) (i + 1)).1
    rw [show i + 1 + (R.2.1 b - (i + 1)) = R.2.1 b by omega] at q
    exact Nat.le_trans q hbd
  have R2n : ∀ i, (spR so (R.2.2.1 b i) (spB so (R.2.2.1 b) i S0)).2 ≤ (spLn so (R.2.2.1 b i) (spB so (R.2.2.1 b) i S0)).2 := fun i => (spW_k (so := so) (l := (R.2.2.1 b i)) (a := ldV so ((R.2.2.1 b i) 2) (spB so (R.2.2.1 b) i S0).2) (c := spV so (R.2.2.1 b i) (spB so (R.2.2.1 b) i S0)) (spR_1 (SB0 i)) (spR_2 (SB2 i))).2.1
  have R1n : ∀ i, (ldN so ((R.2.2.1 b i) 2) (spB so (R.2.2.1 b) i S0)).2 ≤ (spR so (R.2.2.1 b i) (spB so (R.2.2.1 b) i S0)).2 := fun i => by
    unfold spR
    split
    · exact Nat.le_refl _
    · exact ldN_le
  have lO : ∀ i, i < R.2.1 b → lnO2 (rwB R b i) (R.2.2.1 b i) := fun i hi => qk_l hO hb hi
  intro y1 y2 y3 y4 y5 y6 x1 x2 x3 x4 x5 x6 h1 h2 h3 h4 h5 h6 h7 h8 h9 h10 h11 h12 h13 h14 h15 h16 h17 h18 h19 h20 h21 h22 h23 h24 h25 h26 h27 h28 h29 h30
  intro i hi2 hst
  obtain ⟨a1, a2, a3, a4⟩ := hst
  have c9 : y3 0 q1 = 9 := rSk_k h3 (show rKd γ0 q1 9 from hc) (by decide) (by decide)
  have cf' : y3 1 q1 = f := rSk_1 h3 (show rKd γ0 q1 9 from hc) (by decide) hcf
  have m10 : y3 0 q0 = 10 := rSk_k h3 (show rKd γ0 q0 10 from hm) (by decide) (by decide)
  have n9 : y3 9 = γ0 9 := rSk_9 h3
  have g6 : y3 6 f = R.1 := (h4).trans hQ6
  have S2b : (spR so (R.2.2.1 b i) (spB so (R.2.2.1 b) i S0)).1.1 = b + 1 := spR_b (SBb i)
  have e6 := h11
  rw [eb, show y5.toInt.toNat = (spR so (R.2.2.1 b i) (spB so (R.2.2.1 b) i S0)).1.2.1 b by rw [a3]; rfl] at e6
  have mL : (mid (spR so (R.2.2.1 b i) (spB so (R.2.2.1 b) i S0)) R b i).2.1 b = (spR so (R.2.2.1 b i) (spB so (R.2.2.1 b) i S0)).1.2.1 b + (R.2.1 b - i) := mid_len
  have rB : rwB (mid (spR so (R.2.2.1 b i) (spB so (R.2.2.1 b) i S0)) R b i) b ((spR so (R.2.2.1 b i) (spB so (R.2.2.1 b) i S0)).1.2.1 b) = rwB R b i := rwB_mid hi2
  have hl5 := a1.2.2 b hb ((spR so (R.2.2.1 b i) (spB so (R.2.2.1 b) i S0)).1.2.1 b) (by
    have q : y3 2 (rwL y3 y4 q1 b) + 1 = (mid (spR so (R.2.2.1 b i) (spB so (R.2.2.1 b) i S0)) R b i).2.1 b := (a1.2.1 b hb).1
    rw [mL] at q
    omega)
  rw [e6] at hl5
  have hl6 : lnX (rwB R b i) (mkL ((R.2.2.1 b i) 0) ((R.2.2.1 b i) 1) (ldV so ((R.2.2.1 b i) 2) (spB so (R.2.2.1 b) i S0).2) ((R.2.2.1 b i) 3) (spV so (R.2.2.1 b i) (spB so (R.2.2.1 b) i S0)) ((R.2.2.1 b i) 5)) (y2 y6) := by
    have q : lnX (rwB (mid (spR so (R.2.2.1 b i) (spB so (R.2.2.1 b) i S0)) R b i) b ((spR so (R.2.2.1 b i) (spB so (R.2.2.1 b) i S0)).1.2.1 b)) ((pgSt (mid (spR so (R.2.2.1 b i) (spB so (R.2.2.1 b) i S0)) R b i) b ((spR so (R.2.2.1 b i) (spB so (R.2.2.1 b) i S0)).1.2.1 b) (mkL ((R.2.2.1 b i) 0) ((R.2.2.1 b i) 1) (ldV so ((R.2.2.1 b i) 2) (spB so (R.2.2.1 b) i S0).2) ((R.2.2.1 b i) 3) (spV so (R.2.2.1 b i) (spB so (R.2.2.1 b) i S0)) ((R.2.2.1 b i) 5))).2.2.1 b ((spR so (R.2.2.1 b i) (spB so (R.2.2.1 b) i S0)).1.2.1 b)) (y2 y6) := hl5
    rw [rB, pgSt_l] at q
    exact q
  have lO' : lnO2 (rwB R b i) (mkL ((R.2.2.1 b i) 0) ((R.2.2.1 b i) 1) (ldV so ((R.2.2.1 b i) 2) (spB so (R.2.2.1 b) i S0).2) ((R.2.2.1 b i) 3) (spV so (R.2.2.1 b i) (spB so (R.2.2.1 b) i S0)) ((R.2.2.1 b i) 5)) := lnO2_W (lO i hi2) (SB2 i) (by have := R2n i; have := SBn i hi2; omega)
  obtain ⟨U1, -, -⟩ := lnU_X lO' hl6
  rw [h18] at U1
  have U1' : (x1.toInt ≤ 21 ∧ (fI (y2 y6) 1).toInt = (R.2.2.1 b i) 1 ∧ 0 ≤ (R.2.2.1 b i) 1) ∨ (21 < x1.toInt ∧ (R.2.2.1 b i) 1 = -1) := U1
  have us := ss_tr3 h20
  rw [h24] at U1'
  have el1 : x3.toInt = (R.2.2.1 b i) 1 := by omega
  have eg : cB (F_1 (γ0 9 19)) = x4 := by rw [← h9, ← n9]; exact cB_of h25
  have sv := slR_u hsl el1 (by omega) (lnO2_le1 (lO i hi2))
  rw [eg, ← h26] at sv
  have e1 : slf so ((R.2.2.1 b i) 1) = x5.toInt := by omega
  have ne1 : ¬ slf so ((R.2.2.1 b i) 1) = -1 := by omega
  have eL : spLn so (R.2.2.1 b i) (spB so (R.2.2.1 b) i S0) = (pgL (pgL (spR so (R.2.2.1 b i) (spB so (R.2.2.1 b) i S0)).1 (mkL ((R.2.2.1 b i) 0) ((spR so (R.2.2.1 b i) (spB so (R.2.2.1 b) i S0)).2 : Int) (ldV so ((R.2.2.1 b i) 2) (spB so (R.2.2.1 b) i S0).2) ((R.2.2.1 b i) 3) (spV so (R.2.2.1 b i) (spB so (R.2.2.1 b) i S0)) ((R.2.2.1 b i) 5))) (mkL 18 (-1) ((spR so (R.2.2.1 b i) (spB so (R.2.2.1 b) i S0)).2 : Int) 0 (-1) (slf so ((R.2.2.1 b i) 1))), (spR so (R.2.2.1 b i) (spB so (R.2.2.1 b) i S0)).2 + 1) := if_neg ne1
  have nn1 : (spR so (R.2.2.1 b i) (spB so (R.2.2.1 b) i S0)).2 + 1 ≤ 720 := by
    have q3 := SBn i hi2
    rw [eL] at q3
    exact q3
  rw [h29] at a4
  omega
set_option maxHeartbeats 4000000 in
theorem sp90_c6 {q0 : Nat} {F_1 : Nat → va_E} {q1 : Nat} {l2_1 : Int32} {c1 : Nat} (hm : γ0 0 q0 = 10) (hc : γ0 0 q1 = 9) (hcf : γ0 1 q1 = f) (hQ6 : γ0 6 f = R.1) (hO : qOk R) (hb : b < R.1) (hl2 : l2_1.toInt = (b : Int)) (hsl : slR (cB (F_1 (γ0 9 19))) so) (hS0 : S0.1.1 = b + 1) (h100 : 100 ≤ S0.2) (hbd : (spB so (R.2.2.1 b) (R.2.1 b) S0).2 ≤ 720) (hld : ∀ i, i < R.2.1 b → R.2.2.1 b i 0 = 17 → slf so (R.2.2.1 b i 1) = -1) : ∀ (y1 : List Nat) (y2 : Nat → va_E) (y3 : Nat → Nat → Nat) (y4 : Nat → Nat → Nat) (y5 : Int32) (y6 : Nat) (x1 : Int32) (x2 : Int32) (x3 : Int32) (x4 : Nat → Int32) (x5 : Int32) (x6 : Int32) (k : Nat) (e1 : Nat → va_E) (e2 : List Nat) (e3 : Nat → Nat → Nat) (e4 : Nat → Nat → Nat), gB y5 0 1000001 → RS D I y1 y2 y3 y4 → rSk f [101] ([1, 3, 5, 6, 8, 9, 101] ++ npk) D I P F γ0 el0 y1 y2 y3 y4 → y3 6 f = γ0 6 f → y3 18 f = γ0 18 f → ((y3 7 f : Nat) : Int) = (fI (y2 q0) 11).toInt → (fI (y2 q0) 11).toInt = (fI (F_1 q0) 11).toInt → 100 ≤ (fI (y2 q0) 14).toInt → (y2 (γ0 9 19) = F_1 (γ0 9 19)) → rPl y3 y4 y2 q1 (y3 6 f) (spX (cB (F (γ0 9 3))) (cB (F_1 (γ0 9 19))) (l2_1.toInt : Int).toNat (y5.toInt : Int).toNat) → rAt y3 y4 q1 (l2_1.toInt : Int).toNat (y5.toInt : Int).toNat = y6 → rS2 (cB (F (γ0 9 3))) (cB (F_1 (γ0 9 19))) (y2 y6) → (y5.toInt : Int) ≤ y3 2 (y3 14 c1) → (l2_1.toInt : Int) < y3 6 f → eO y5.toInt (y3 2 (y3 14 c1) : Nat) (fI (y2 y6) 0).toInt → (y2 (γ0 9 3) = F (γ0 9 3)) → mKp (F q0) (y2 q0) → fI (y2 y6) 0 = x1 → gB x2 0 1 → tr_RRow_sets3 x1 x2 → x2.toInt ≠ 0 → x1.toInt ≠ 21 → fR (y2 q0) 19 = (y3 9 19) → fI (y2 y6) 1 = x3 → y2 (y3 9 19) = .inl (I .int, 2000, .inl x4) → x5 = x4 x3.toNatClampNeg → gB x5 (-1) 1999 → x5.toInt < 0 → x6.toInt = y5.toInt + 1 → sp90_M q0 q1 c1 R b so S0 y1 y2 y3 y4 x6 k e1 e2 e3 e4 → sp90_J1 q0 q1 c1 R b so S0 y1 y2 y3 y4 y5 y6 k e1 e2 e3 e4 := by
  have eb : l2_1.toInt.toNat = b := by rw [hl2]; rfl
  have SBb : ∀ i, (spB so (R.2.2.1 b) i S0).1.1 = b + 1 := fun i => ((spB_k (so := so) (ls := R.2.2.1 b) (s := S0) (by omega) h100 i).1.1).trans hS0
  have SB0 : ∀ i, 0 < (spB so (R.2.2.1 b) i S0).1.1 := fun i => by rw [SBb i]; omega
  have SB2 : ∀ i, 100 ≤ (spB so (R.2.2.1 b) i S0).2 := fun i => (spB_k (so := so) (ls := R.2.2.1 b) (s := S0) (by omega) h100 i).2.2
  have SBn : ∀ i, i < R.2.1 b → (spLn so (R.2.2.1 b i) (spB so (R.2.2.1 b) i S0)).2 ≤ 720 := fun i hi => by
    have q := (spB_m (so := so) (ls := R.2.2.1 b) (s := S0) (by omega) h100 (R.2.1 b - (i + 1)) (i + 1)).1
    rw [show i + 1 + (R.2.1 b - (i + 1)) = R.2.1 b by omega] at q
    exact Nat.le_trans q hbd
  have R2n : ∀ i, (spR so (R.2.2.1 b i) (spB so (R.2.2.1 b) i S0)).2 ≤ (spLn so (R.2.2.1 b i) (spB so (R.2.2.1 b) i S0)).2 := fun i => (spW_k (so := so) (l := (R.2.2.1 b i)) (a := ldV so ((R.2.2.1 b i) 2) (spB so (R.2.2.1 b) i S0).2) (c := spV so (R.2.2.1 b i) (spB so (R.2.2.1 b) i S0)) (spR_1 (SB0 i)) (spR_2 (SB2 i))).2.1
  have R1n : ∀ i, (ldN so ((R.2.2.1 b i) 2) (spB so (R.2.2.1 b) i S0)).2 ≤ (spR so (R.2.2.1 b i) (spB so (R.2.2.1 b) i S0)).2 := fun i => by
    unfold spR
    split
    · exact Nat.le_refl _
    · exact ldN_le
  have lO : ∀ i, i < R.2.1 b → lnO2 (rwB R b i) (R.2.2.1 b i) := fun i hi => qk_l hO hb hi
  intro y1 y2 y3 y4 y5 y6 x1 x2 x3 x4 x5 x6 k e1 e2 e3 e4 h1 h2 h3 h4 h5 h6 h7 h8 h9 h10 h11 h12 h13 h14 h15 h16 h17 h18 h19 h20 h21 h22 h23 h24 h25 h26 h27 h28 h29 ih
  intro i hi2 hst
  obtain ⟨a1, a2, a3, a4⟩ := hst
  have c9 : y3 0 q1 = 9 := rSk_k h3 (show rKd γ0 q1 9 from hc) (by decide) (by decide)
  have cf' : y3 1 q1 = f := rSk_1 h3 (show rKd γ0 q1 9 from hc) (by decide) hcf
  have m10 : y3 0 q0 = 10 := rSk_k h3 (show rKd γ0 q0 10 from hm) (by decide) (by decide)
  have n9 : y3 9 = γ0 9 := rSk_9 h3
  have g6 : y3 6 f = R.1 := (h4).trans hQ6
  have S2b : (spR so (R.2.2.1 b i) (spB so (R.2.2.1 b) i S0)).1.1 = b + 1 := spR_b (SBb i)
  have e6 := h11
  rw [eb, show y5.toInt.toNat = (spR so (R.2.2.1 b i) (spB so (R.2.2.1 b) i S0)).1.2.1 b by rw [a3]; rfl] at e6
  have mL : (mid (spR so (R.2.2.1 b i) (spB so (R.2.2.1 b) i S0)) R b i).2.1 b = (spR so (R.2.2.1 b i) (spB so (R.2.2.1 b) i S0)).1.2.1 b + (R.2.1 b - i) := mid_len
  have rB : rwB (mid (spR so (R.2.2.1 b i) (spB so (R.2.2.1 b) i S0)) R b i) b ((spR so (R.2.2.1 b i) (spB so (R.2.2.1 b) i S0)).1.2.1 b) = rwB R b i := rwB_mid hi2
  have hl5 := a1.2.2 b hb ((spR so (R.2.2.1 b i) (spB so (R.2.2.1 b) i S0)).1.2.1 b) (by
    have q : y3 2 (rwL y3 y4 q1 b) + 1 = (mid (spR so (R.2.2.1 b i) (spB so (R.2.2.1 b) i S0)) R b i).2.1 b := (a1.2.1 b hb).1
    rw [mL] at q
    omega)
  rw [e6] at hl5
  have hl6 : lnX (rwB R b i) (mkL ((R.2.2.1 b i) 0) ((R.2.2.1 b i) 1) (ldV so ((R.2.2.1 b i) 2) (spB so (R.2.2.1 b) i S0).2) ((R.2.2.1 b i) 3) (spV so (R.2.2.1 b i) (spB so (R.2.2.1 b) i S0)) ((R.2.2.1 b i) 5)) (y2 y6) := by
    have q : lnX (rwB (mid (spR so (R.2.2.1 b i) (spB so (R.2.2.1 b) i S0)) R b i) b ((spR so (R.2.2.1 b i) (spB so (R.2.2.1 b) i S0)).1.2.1 b)) ((pgSt (mid (spR so (R.2.2.1 b i) (spB so (R.2.2.1 b) i S0)) R b i) b ((spR so (R.2.2.1 b i) (spB so (R.2.2.1 b) i S0)).1.2.1 b) (mkL ((R.2.2.1 b i) 0) ((R.2.2.1 b i) 1) (ldV so ((R.2.2.1 b i) 2) (spB so (R.2.2.1 b) i S0).2) ((R.2.2.1 b i) 3) (spV so (R.2.2.1 b i) (spB so (R.2.2.1 b) i S0)) ((R.2.2.1 b i) 5))).2.2.1 b ((spR so (R.2.2.1 b i) (spB so (R.2.2.1 b) i S0)).1.2.1 b)) (y2 y6) := hl5
    rw [rB, pgSt_l] at q
    exact q
  have lO' : lnO2 (rwB R b i) (mkL ((R.2.2.1 b i) 0) ((R.2.2.1 b i) 1) (ldV so ((R.2.2.1 b i) 2) (spB so (R.2.2.1 b) i S0).2) ((R.2.2.1 b i) 3) (spV so (R.2.2.1 b i) (spB so (R.2.2.1 b) i S0)) ((R.2.2.1 b i) 5)) := lnO2_W (lO i hi2) (SB2 i) (by have := R2n i; have := SBn i hi2; omega)
  obtain ⟨U1, -, -⟩ := lnU_X lO' hl6
  rw [h18] at U1
  have U1' : (x1.toInt ≤ 21 ∧ (fI (y2 y6) 1).toInt = (R.2.2.1 b i) 1 ∧ 0 ≤ (R.2.2.1 b i) 1) ∨ (21 < x1.toInt ∧ (R.2.2.1 b i) 1 = -1) := U1
  have us := ss_tr3 h20
  rw [h24] at U1'
  have el1 : x3.toInt = (R.2.2.1 b i) 1 := by omega
  have eg : cB (F_1 (γ0 9 19)) = x4 := by rw [← h9, ← n9]; exact cB_of h25
  have sv := slR_u hsl el1 (by omega) (lnO2_le1 (lO i hi2))
  rw [eg, ← h26] at sv
  have e1 : slf so ((R.2.2.1 b i) 1) = -1 := by omega
  have eL : spLn so (R.2.2.1 b i) (spB so (R.2.2.1 b) i S0) = (pgL (spR so (R.2.2.1 b i) (spB so (R.2.2.1 b) i S0)).1 (mkL ((R.2.2.1 b i) 0) ((R.2.2.1 b i) 1) (ldV so ((R.2.2.1 b i) 2) (spB so (R.2.2.1 b) i S0).2) ((R.2.2.1 b i) 3) (spV so (R.2.2.1 b i) (spB so (R.2.2.1 b) i S0)) ((R.2.2.1 b i) 5)), (spR so (R.2.2.1 b i) (spB so (R.2.2.1 b) i S0)).2) := if_pos e1
  have nx := rfX_A a1 (mid_nxt (n := (spR so (R.2.2.1 b i) (spB so (R.2.2.1 b) i S0)).2) S2b hi2)
  rw [← eL] at nx
  have e0 : (spLn so (R.2.2.1 b i) (spB so (R.2.2.1 b) i S0)).1.2.1 b = (spR so (R.2.2.1 b i) (spB so (R.2.2.1 b) i S0)).1.2.1 b + 1 := by rw [eL]; exact L_len S2b
  refine ih (i + 1) hi2 ⟨nx, a2, ?_, ?_⟩
  · show _ = ((spLn so (R.2.2.1 b i) (spB so (R.2.2.1 b) i S0)).1.2.1 b : Int)
    rw [e0]; omega
  · show _ = ((spLn so (R.2.2.1 b i) (spB so (R.2.2.1 b) i S0)).2 : Int)
    rw [eL]; exact a4
set_option maxHeartbeats 4000000 in
theorem sp90_c7 {q0 : Nat} {F_1 : Nat → va_E} {q1 : Nat} {l2_1 : Int32} {c1 : Nat} (hm : γ0 0 q0 = 10) (hc : γ0 0 q1 = 9) (hcf : γ0 1 q1 = f) (hQ6 : γ0 6 f = R.1) (hO : qOk R) (hb : b < R.1) (hl2 : l2_1.toInt = (b : Int)) (hsl : slR (cB (F_1 (γ0 9 19))) so) (hS0 : S0.1.1 = b + 1) (h100 : 100 ≤ S0.2) (hbd : (spB so (R.2.2.1 b) (R.2.1 b) S0).2 ≤ 720) (hld : ∀ i, i < R.2.1 b → R.2.2.1 b i 0 = 17 → slf so (R.2.2.1 b i 1) = -1) : ∀ (y1 : List Nat) (y2 : Nat → va_E) (y3 : Nat → Nat → Nat) (y4 : Nat → Nat → Nat) (y5 : Int32) (y6 : Nat) (y7 : Int32) (y8 : Int32) (k : Nat) (e1 : Nat → va_E) (e2 : List Nat) (e3 : Nat → Nat → Nat) (e4 : Nat → Nat → Nat), gB y5 0 1000001 → gB y7 (-1) 1999 → gB y8 (-1) 1999 → RS D I y1 y2 y3 y4 → rSk f [101] ([1, 3, 5, 6, 8, 9, 101] ++ npk) D I P F γ0 el0 y1 y2 y3 y4 → y3 6 f = γ0 6 f → y3 18 f = γ0 18 f → ((y3 7 f : Nat) : Int) = (fI (y2 q0) 11).toInt → (fI (y2 q0) 11).toInt = (fI (F_1 q0) 11).toInt → 100 ≤ (fI (y2 q0) 14).toInt → (y2 (γ0 9 19) = F_1 (γ0 9 19)) → rPl y3 y4 y2 q1 (y3 6 f) (spX (cB (F (γ0 9 3))) (cB (F_1 (γ0 9 19))) (l2_1.toInt : Int).toNat (y5.toInt : Int).toNat) → rAt y3 y4 q1 (l2_1.toInt : Int).toNat (y5.toInt : Int).toNat = y6 → rS1 (cB (F (γ0 9 3))) (cB (F_1 (γ0 9 19))) (y2 y6) y7.toInt y8.toInt → (y5.toInt : Int) ≤ y3 2 (y3 14 c1) → (l2_1.toInt : Int) < y3 6 f → eO y5.toInt (y3 2 (y3 14 c1) : Nat) (fI (y2 y6) 0).toInt → (y2 (γ0 9 3) = F (γ0 9 3)) → mKp (F q0) (y2 q0) → y8.toInt < 0 → sp90_J1 q0 q1 c1 R b so S0 y1 y2 y3 y4 y5 y6 k e1 e2 e3 e4 → sp90_J2 q0 q1 c1 R b so S0 y1 y2 y3 y4 y5 y6 y7 y8 k e1 e2 e3 e4 := by
  have eb : l2_1.toInt.toNat = b := by rw [hl2]; rfl
  have SBb : ∀ i, (spB so (R.2.2.1 b) i S0).1.1 = b + 1 := fun i => ((spB_k (so := so) (ls := R.2.2.1 b) (s := S0) (by omega) h100 i).1.1).trans hS0
  have SB0 : ∀ i, 0 < (spB so (R.2.2.1 b) i S0).1.1 := fun i => by rw [SBb i]; omega
  have SB2 : ∀ i, 100 ≤ (spB so (R.2.2.1 b) i S0).2 := fun i => (spB_k (so := so) (ls := R.2.2.1 b) (s := S0) (by omega) h100 i).2.2
  have SBn : ∀ i, i < R.2.1 b → (spLn so (R.2.2.1 b i) (spB so (R.2.2.1 b) i S0)).2 ≤ 720 := fun i hi => by
    have q := (spB_m (so := so) (ls := R.2.2.1 b) (s := S0) (by omega) h100 (R.2.1 b - (i + 1)) (i + 1)).1
    rw [show i + 1 + (R.2.1 b - (i + 1)) = R.2.1 b by omega] at q
    exact Nat.le_trans q hbd
  have R2n : ∀ i, (spR so (R.2.2.1 b i) (spB so (R.2.2.1 b) i S0)).2 ≤ (spLn so (R.2.2.1 b i) (spB so (R.2.2.1 b) i S0)).2 := fun i => (spW_k (so := so) (l := (R.2.2.1 b i)) (a := ldV so ((R.2.2.1 b i) 2) (spB so (R.2.2.1 b) i S0).2) (c := spV so (R.2.2.1 b i) (spB so (R.2.2.1 b) i S0)) (spR_1 (SB0 i)) (spR_2 (SB2 i))).2.1
  have R1n : ∀ i, (ldN so ((R.2.2.1 b i) 2) (spB so (R.2.2.1 b) i S0)).2 ≤ (spR so (R.2.2.1 b i) (spB so (R.2.2.1 b) i S0)).2 := fun i => by
    unfold spR
    split
    · exact Nat.le_refl _
    · exact ldN_le
  have lO : ∀ i, i < R.2.1 b → lnO2 (rwB R b i) (R.2.2.1 b i) := fun i hi => qk_l hO hb hi
  intro y1 y2 y3 y4 y5 y6 y7 y8 k e1 e2 e3 e4 h1 h2 h3 h4 h5 h6 h7 h8 h9 h10 h11 h12 h13 h14 h15 h16 h17 h18 h19 h20 ih
  intro i hi2 hst
  obtain ⟨a1, a2, a3, a4, a5, a6⟩ := hst
  have c9 : y3 0 q1 = 9 := rSk_k h5 (show rKd γ0 q1 9 from hc) (by decide) (by decide)
  have cf' : y3 1 q1 = f := rSk_1 h5 (show rKd γ0 q1 9 from hc) (by decide) hcf
  have m10 : y3 0 q0 = 10 := rSk_k h5 (show rKd γ0 q0 10 from hm) (by decide) (by decide)
  have n9 : y3 9 = γ0 9 := rSk_9 h5
  have g6 : y3 6 f = R.1 := (h6).trans hQ6
  by_cases e42 : (R.2.2.1 b i) 4 = (R.2.2.1 b i) 2
  · have eR : (spR so (R.2.2.1 b i) (spB so (R.2.2.1 b) i S0)) = (ldN so ((R.2.2.1 b i) 2) (spB so (R.2.2.1 b) i S0)) := if_pos e42
    have eW : spV so (R.2.2.1 b i) (spB so (R.2.2.1 b) i S0) = ldV so ((R.2.2.1 b i) 2) (spB so (R.2.2.1 b) i S0).2 := if_pos e42
    rw [if_pos e42] at a1
    refine ih i hi2 ?_
    rw [eR, eW]
    exact ⟨a1, a2, a3, a4⟩
  have e1 : slf so ((R.2.2.1 b i) 4) = -1 := slf_n (by have q := lnO2_ge4 (lO i hi2); omega)
  have eR : (spR so (R.2.2.1 b i) (spB so (R.2.2.1 b) i S0)) = (ldN so ((R.2.2.1 b i) 2) (spB so (R.2.2.1 b) i S0)) := (if_neg e42).trans (if_pos e1)
  have eW : spV so (R.2.2.1 b i) (spB so (R.2.2.1 b) i S0) = (R.2.2.1 b i) 4 := (if_neg e42).trans (if_pos e1)
  rw [if_neg e42] at a1
  refine ih i hi2 ?_
  rw [eR, eW]
  exact ⟨a1, a2, a3, a4⟩
end STR
end
section
section STR
variable {D : va_G} {I : FieldType → ClassId} {P : List Nat} {F : Nat → va_E} {γ0 el0 : Nat → Nat → Nat} {f b nm : Nat} {R : gPg} {so : Nat → Int} {S0 : gSp6}
set_option maxHeartbeats 4000000 in
theorem sp90_c8 {q0 : Nat} {F_1 : Nat → va_E} {q1 : Nat} {l2_1 : Int32} {c1 : Nat} (hm : γ0 0 q0 = 10) (hc : γ0 0 q1 = 9) (hcf : γ0 1 q1 = f) (hQ6 : γ0 6 f = R.1) (hO : qOk R) (hb : b < R.1) (hl2 : l2_1.toInt = (b : Int)) (hsl : slR (cB (F_1 (γ0 9 19))) so) (hS0 : S0.1.1 = b + 1) (h100 : 100 ≤ S0.2) (hbd : (spB so (R.2.2.1 b) (R.2.1 b) S0).2 ≤ 720) (hld : ∀ i, i < R.2.1 b → R.2.2.1 b i 0 = 17 → slf so (R.2.2.1 b i 1) = -1) : ∀ (y1 : List Nat) (y2 : Nat → va_E) (y3 : Nat → Nat → Nat) (y4 : Nat → Nat → Nat) (y5 : Int32) (y6 : Nat) (y7 : Int32) (y8 : Int32) (k : Nat) (e1 : Nat → va_E) (e2 : List Nat) (e3 : Nat → Nat → Nat) (e4 : Nat → Nat → Nat), gB y5 0 1000001 → gB y7 (-1) 1999 → gB y8 (-1) 1999 → RS D I y1 y2 y3 y4 → rSk f [101] ([1, 3, 5, 6, 8, 9, 101] ++ npk) D I P F γ0 el0 y1 y2 y3 y4 → y3 6 f = γ0 6 f → y3 18 f = γ0 18 f → ((y3 7 f : Nat) : Int) = (fI (y2 q0) 11).toInt → (fI (y2 q0) 11).toInt = (fI (F_1 q0) 11).toInt → 100 ≤ (fI (y2 q0) 14).toInt → (y2 (γ0 9 19) = F_1 (γ0 9 19)) → rPl y3 y4 y2 q1 (y3 6 f) (spX (cB (F (γ0 9 3))) (cB (F_1 (γ0 9 19))) (l2_1.toInt : Int).toNat (y5.toInt : Int).toNat) → rAt y3 y4 q1 (l2_1.toInt : Int).toNat (y5.toInt : Int).toNat = y6 → rS1 (cB (F (γ0 9 3))) (cB (F_1 (γ0 9 19))) (y2 y6) y7.toInt y8.toInt → (y5.toInt : Int) ≤ y3 2 (y3 14 c1) → (l2_1.toInt : Int) < y3 6 f → eO y5.toInt (y3 2 (y3 14 c1) : Nat) (fI (y2 y6) 0).toInt → (y2 (γ0 9 3) = F (γ0 9 3)) → mKp (F q0) (y2 q0) → 0 ≤ y8.toInt → y8.toInt = y7.toInt → sp90_J1 q0 q1 c1 R b so S0 y1 y2 y3 y4 y5 y6 k e1 e2 e3 e4 → sp90_J2 q0 q1 c1 R b so S0 y1 y2 y3 y4 y5 y6 y7 y8 k e1 e2 e3 e4 := by
  have eb : l2_1.toInt.toNat = b := by rw [hl2]; rfl
  have SBb : ∀ i, (spB so (R.2.2.1 b) i S0).1.1 = b + 1 := fun i => ((spB_k (so := so) (ls := R.2.2.1 b) (s := S0) (by omega) h100 i).1.1).trans hS0
  have SB0 : ∀ i, 0 < (spB so (R.2.2.1 b) i S0).1.1 := fun i => by rw [SBb i]; omega
  have SB2 : ∀ i, 100 ≤ (spB so (R.2.2.1 b) i S0).2 := fun i => (spB_k (so := so) (ls := R.2.2.1 b) (s := S0) (by omega) h100 i).2.2
  have SBn : ∀ i, i < R.2.1 b → (spLn so (R.2.2.1 b i) (spB so (R.2.2.1 b) i S0)).2 ≤ 720 := fun i hi => by
    have q := (spB_m (so := so) (ls := R.2.2.1 b) (s := S0) (by omega) h100 (R.2.1 b - (i + 1)) (i + 1)).1
    rw [show i + 1 + (R.2.1 b - (i + 1)) = R.2.1 b by omega] at q
    exact Nat.le_trans q hbd
  have R2n : ∀ i, (spR so (R.2.2.1 b i) (spB so (R.2.2.1 b) i S0)).2 ≤ (spLn so (R.2.2.1 b i) (spB so (R.2.2.1 b) i S0)).2 := fun i => (spW_k (so := so) (l := (R.2.2.1 b i)) (a := ldV so ((R.2.2.1 b i) 2) (spB so (R.2.2.1 b) i S0).2) (c := spV so (R.2.2.1 b i) (spB so (R.2.2.1 b) i S0)) (spR_1 (SB0 i)) (spR_2 (SB2 i))).2.1
  have R1n : ∀ i, (ldN so ((R.2.2.1 b i) 2) (spB so (R.2.2.1 b) i S0)).2 ≤ (spR so (R.2.2.1 b i) (spB so (R.2.2.1 b) i S0)).2 := fun i => by
    unfold spR
    split
    · exact Nat.le_refl _
    · exact ldN_le
  have lO : ∀ i, i < R.2.1 b → lnO2 (rwB R b i) (R.2.2.1 b i) := fun i hi => qk_l hO hb hi
  intro y1 y2 y3 y4 y5 y6 y7 y8 k e1 e2 e3 e4 h1 h2 h3 h4 h5 h6 h7 h8 h9 h10 h11 h12 h13 h14 h15 h16 h17 h18 h19 h20 h21 ih
  intro i hi2 hst
  obtain ⟨a1, a2, a3, a4, a5, a6⟩ := hst
  have c9 : y3 0 q1 = 9 := rSk_k h5 (show rKd γ0 q1 9 from hc) (by decide) (by decide)
  have cf' : y3 1 q1 = f := rSk_1 h5 (show rKd γ0 q1 9 from hc) (by decide) hcf
  have m10 : y3 0 q0 = 10 := rSk_k h5 (show rKd γ0 q0 10 from hm) (by decide) (by decide)
  have n9 : y3 9 = γ0 9 := rSk_9 h5
  have g6 : y3 6 f = R.1 := (h6).trans hQ6
  have e42 : (R.2.2.1 b i) 4 = (R.2.2.1 b i) 2 := by omega
  have eR : (spR so (R.2.2.1 b i) (spB so (R.2.2.1 b) i S0)) = (ldN so ((R.2.2.1 b i) 2) (spB so (R.2.2.1 b) i S0)) := if_pos e42
  have eW : spV so (R.2.2.1 b i) (spB so (R.2.2.1 b) i S0) = ldV so ((R.2.2.1 b i) 2) (spB so (R.2.2.1 b) i S0).2 := if_pos e42
  rw [if_pos e42] at a1
  refine ih i hi2 ?_
  rw [eR, eW]
  exact ⟨a1, a2, a3, a4⟩
set_option maxHeartbeats 4000000 in
theorem sp90_c9 {q0 : Nat} {F_1 : Nat → va_E} {q1 : Nat} {l2_1 : Int32} {c1 : Nat} (hm : γ0 0 q0 = 10) (hc : γ0 0 q1 = 9) (hcf : γ0 1 q1 = f) (hQ6 : γ0 6 f = R.1) (hO : qOk R) (hb : b < R.1) (hl2 : l2_1.toInt = (b : Int)) (hsl : slR (cB (F_1 (γ0 9 19))) so) (hS0 : S0.1.1 = b + 1) (h100 : 100 ≤ S0.2) (hbd : (spB so (R.2.2.1 b) (R.2.1 b) S0).2 ≤ 720) (hld : ∀ i, i < R.2.1 b → R.2.2.1 b i 0 = 17 → slf so (R.2.2.1 b i 1) = -1) : ∀ (y1 : List Nat) (y2 : Nat → va_E) (y3 : Nat → Nat → Nat) (y4 : Nat → Nat → Nat) (y5 : Int32) (y6 : Nat) (y7 : Int32) (y8 : Int32) (x1 : Nat → Int32) (x2 : Int32) (k : Nat) (e1 : Nat → va_E) (e2 : List Nat) (e3 : Nat → Nat → Nat) (e4 : Nat → Nat → Nat), gB y5 0 1000001 → gB y7 (-1) 1999 → gB y8 (-1) 1999 → RS D I y1 y2 y3 y4 → rSk f [101] ([1, 3, 5, 6, 8, 9, 101] ++ npk) D I P F γ0 el0 y1 y2 y3 y4 → y3 6 f = γ0 6 f → y3 18 f = γ0 18 f → ((y3 7 f : Nat) : Int) = (fI (y2 q0) 11).toInt → (fI (y2 q0) 11).toInt = (fI (F_1 q0) 11).toInt → 100 ≤ (fI (y2 q0) 14).toInt → (y2 (γ0 9 19) = F_1 (γ0 9 19)) → rPl y3 y4 y2 q1 (y3 6 f) (spX (cB (F (γ0 9 3))) (cB (F_1 (γ0 9 19))) (l2_1.toInt : Int).toNat (y5.toInt : Int).toNat) → rAt y3 y4 q1 (l2_1.toInt : Int).toNat (y5.toInt : Int).toNat = y6 → rS1 (cB (F (γ0 9 3))) (cB (F_1 (γ0 9 19))) (y2 y6) y7.toInt y8.toInt → (y5.toInt : Int) ≤ y3 2 (y3 14 c1) → (l2_1.toInt : Int) < y3 6 f → eO y5.toInt (y3 2 (y3 14 c1) : Nat) (fI (y2 y6) 0).toInt → (y2 (γ0 9 3) = F (γ0 9 3)) → mKp (F q0) (y2 q0) → 0 ≤ y8.toInt → y8.toInt ≠ y7.toInt → fR (y2 q0) 19 = (y3 9 19) → y2 (y3 9 19) = .inl (I .int, 2000, .inl x1) → x2 = x1 y8.toNatClampNeg → gB x2 (-1) 1999 → x2.toInt < 0 → sp90_J1 q0 q1 c1 R b so S0 y1 y2 y3 y4 y5 y6 k e1 e2 e3 e4 → sp90_J2 q0 q1 c1 R b so S0 y1 y2 y3 y4 y5 y6 y7 y8 k e1 e2 e3 e4 := by
  have eb : l2_1.toInt.toNat = b := by rw [hl2]; rfl
  have SBb : ∀ i, (spB so (R.2.2.1 b) i S0).1.1 = b + 1 := fun i => ((spB_k (so := so) (ls := R.2.2.1 b) (s := S0) (by omega) h100 i).1.1).trans hS0
  have SB0 : ∀ i, 0 < (spB so (R.2.2.1 b) i S0).1.1 := fun i => by rw [SBb i]; omega
  have SB2 : ∀ i, 100 ≤ (spB so (R.2.2.1 b) i S0).2 := fun i => (spB_k (so := so) (ls := R.2.2.1 b) (s := S0) (by omega) h100 i).2.2
  have SBn : ∀ i, i < R.2.1 b → (spLn so (R.2.2.1 b i) (spB so (R.2.2.1 b) i S0)).2 ≤ 720 := fun i hi => by
    have q := (spB_m (so := so) (ls := R.2.2.1 b) (s := S0) (by omega) h100 (R.2.1 b - (i + 1)) (i + 1)).1
    rw [show i + 1 + (R.2.1 b - (i + 1)) = R.2.1 b by omega] at q
    exact Nat.le_trans q hbd
  have R2n : ∀ i, (spR so (R.2.2.1 b i) (spB so (R.2.2.1 b) i S0)).2 ≤ (spLn so (R.2.2.1 b i) (spB so (R.2.2.1 b) i S0)).2 := fun i => (spW_k (so := so) (l := (R.2.2.1 b i)) (a := ldV so ((R.2.2.1 b i) 2) (spB so (R.2.2.1 b) i S0).2) (c := spV so (R.2.2.1 b i) (spB so (R.2.2.1 b) i S0)) (spR_1 (SB0 i)) (spR_2 (SB2 i))).2.1
  have R1n : ∀ i, (ldN so ((R.2.2.1 b i) 2) (spB so (R.2.2.1 b) i S0)).2 ≤ (spR so (R.2.2.1 b i) (spB so (R.2.2.1 b) i S0)).2 := fun i => by
    unfold spR
    split
    · exact Nat.le_refl _
    · exact ldN_le
  have lO : ∀ i, i < R.2.1 b → lnO2 (rwB R b i) (R.2.2.1 b i) := fun i hi => qk_l hO hb hi
  intro y1 y2 y3 y4 y5 y6 y7 y8 x1 x2 k e1 e2 e3 e4 h1 h2 h3 h4 h5 h6 h7 h8 h9 h10 h11 h12 h13 h14 h15 h16 h17 h18 h19 h20 h21 h22 h23 h24 h25 h26 ih
  intro i hi2 hst
  obtain ⟨a1, a2, a3, a4, a5, a6⟩ := hst
  have c9 : y3 0 q1 = 9 := rSk_k h5 (show rKd γ0 q1 9 from hc) (by decide) (by decide)
  have cf' : y3 1 q1 = f := rSk_1 h5 (show rKd γ0 q1 9 from hc) (by decide) hcf
  have m10 : y3 0 q0 = 10 := rSk_k h5 (show rKd γ0 q0 10 from hm) (by decide) (by decide)
  have n9 : y3 9 = γ0 9 := rSk_9 h5
  have g6 : y3 6 f = R.1 := (h6).trans hQ6
  have e42 : ¬ (R.2.2.1 b i) 4 = (R.2.2.1 b i) 2 := by omega
  have eg : cB (F_1 (γ0 9 19)) = x1 := by rw [← h11, ← n9]; exact cB_of h23
  have sv := slR_u hsl a6 (by omega) (lnO2_le4 (lO i hi2))
  rw [eg, ← h24] at sv
  have e1 : slf so ((R.2.2.1 b i) 4) = -1 := by omega
  have eR : (spR so (R.2.2.1 b i) (spB so (R.2.2.1 b) i S0)) = (ldN so ((R.2.2.1 b i) 2) (spB so (R.2.2.1 b) i S0)) := (if_neg e42).trans (if_pos e1)
  have eW : spV so (R.2.2.1 b i) (spB so (R.2.2.1 b) i S0) = (R.2.2.1 b i) 4 := (if_neg e42).trans (if_pos e1)
  rw [if_neg e42] at a1
  refine ih i hi2 ?_
  rw [eR, eW]
  exact ⟨a1, a2, a3, a4⟩
set_option maxHeartbeats 4000000 in
theorem sp90_c10 {q0 : Nat} {F_1 : Nat → va_E} {q1 : Nat} {l2_1 : Int32} {c1 : Nat} (hm : γ0 0 q0 = 10) (hc : γ0 0 q1 = 9) (hcf : γ0 1 q1 = f) (hQ6 : γ0 6 f = R.1) (hO : qOk R) (hb : b < R.1) (hl2 : l2_1.toInt = (b : Int)) (hsl : slR (cB (F_1 (γ0 9 19))) so) (hS0 : S0.1.1 = b + 1) (h100 : 100 ≤ S0.2) (hbd : (spB so (R.2.2.1 b) (R.2.1 b) S0).2 ≤ 720) (hld : ∀ i, i < R.2.1 b → R.2.2.1 b i 0 = 17 → slf so (R.2.2.1 b i 1) = -1) : ∀ (y1 : List Nat) (y2 : Nat → va_E) (y3 : Nat → Nat → Nat) (y4 : Nat → Nat → Nat) (y5 : Int32) (y6 : Nat) (y7 : Int32) (y8 : Int32) (x1 : Nat → Int32) (x2 : Int32) (x3 : List Nat) (x4 : Nat → va_E) (x5 : Nat → Nat → Nat) (x6 : Nat → Nat → Nat) (x7 : Int32) (x8 : Int32) (x9 : Nat → va_E) (k : Nat) (e1 : Nat → va_E) (e2 : List Nat) (e3 : Nat → Nat → Nat) (e4 : Nat → Nat → Nat), gB y5 0 1000001 → gB y7 (-1) 1999 → gB y8 (-1) 1999 → RS D I y1 y2 y3 y4 → rSk f [101] ([1, 3, 5, 6, 8, 9, 101] ++ npk) D I P F γ0 el0 y1 y2 y3 y4 → y3 6 f = γ0 6 f → y3 18 f = γ0 18 f → ((y3 7 f : Nat) : Int) = (fI (y2 q0) 11).toInt → (fI (y2 q0) 11).toInt = (fI (F_1 q0) 11).toInt → 100 ≤ (fI (y2 q0) 14).toInt → (y2 (γ0 9 19) = F_1 (γ0 9 19)) → rPl y3 y4 y2 q1 (y3 6 f) (spX (cB (F (γ0 9 3))) (cB (F_1 (γ0 9 19))) (l2_1.toInt : Int).toNat (y5.toInt : Int).toNat) → rAt y3 y4 q1 (l2_1.toInt : Int).toNat (y5.toInt : Int).toNat = y6 → rS1 (cB (F (γ0 9 3))) (cB (F_1 (γ0 9 19))) (y2 y6) y7.toInt y8.toInt → (y5.toInt : Int) ≤ y3 2 (y3 14 c1) → (l2_1.toInt : Int) < y3 6 f → eO y5.toInt (y3 2 (y3 14 c1) : Nat) (fI (y2 y6) 0).toInt → (y2 (γ0 9 3) = F (γ0 9 3)) → mKp (F q0) (y2 q0) → 0 ≤ y8.toInt → y8.toInt ≠ y7.toInt → fR (y2 q0) 19 = (y3 9 19) → y2 (y3 9 19) = .inl (I .int, 2000, .inl x1) → x2 = x1 y8.toNatClampNeg → gB x2 (-1) 1999 → 0 ≤ x2.toInt → rSk f [101] ([3, 5, 6, 8, 9, 10, 101]) D I y1 y2 y3 y4 x3 x4 x5 x6 → x5 6 f = y3 6 f → x5 7 f = y3 7 f → x5 18 f = y3 18 f → ((x5 14 c1 = y3 14 c1 ∧ l2_1.toInt.toNat < x5 2 (x5 14 q1) ∧ x6 (x5 14 q1) l2_1.toInt.toNat = c1)) → ((x7.toInt < 0 ∨ (x7.toInt = (fI (y2 q0) 14).toInt ∧ x7.toInt < 2000 ∧ (fI (x4 q0) 14).toInt = x7.toInt + 1 ∧ x5 16 f = y3 16 f + 1 ∧ x5 2 (x5 14 c1) = y3 2 (y3 14 c1) + 1))) → (fI (x4 q0) 11).toInt = (fI (y2 q0) 11).toInt → ((x7.toInt < 0 ∨ rInsP y3 y4 y2 x5 x6 x4 q1 f l2_1.toInt.toNat (y5.toInt : Int).toNat (x7.toInt : Int).toNat)) → ((x7.toInt < 0 ∨ ∀ j : Nat, (y5.toInt : Int).toNat ≤ j → rAt x5 x6 q1 l2_1.toInt.toNat (j + 1) = rAt y3 y4 q1 l2_1.toInt.toNat j)) → mKp (y2 q0) (x4 q0) → tr_RModel_load D I y3 y4 f y1 y2 q0 q1 c1 y5 x2 x7 x3 x4 x5 x6 → 0 ≤ x7.toInt → x8.toInt = y5.toInt + 1 → (∀ b, b ≠ y6 → x9 b = x4 b) → x9 y6 = cF (x4 y6) 3 (.int x7) → sp90_J1 q0 q1 c1 R b so S0 x3 x9 x5 x6 x8 y6 k e1 e2 e3 e4 → sp90_J2 q0 q1 c1 R b so S0 y1 y2 y3 y4 y5 y6 y7 y8 k e1 e2 e3 e4 := by
  have eb : l2_1.toInt.toNat = b := by rw [hl2]; rfl
  have SBb : ∀ i, (spB so (R.2.2.1 b) i S0).1.1 = b + 1 := fun i => ((spB_k (so := so) (ls := R.2.2.1 b) (s := S0) (by omega) h100 i).1.1).trans hS0
  have SB0 : ∀ i, 0 < (spB so (R.2.2.1 b) i S0).1.1 := fun i => by rw [SBb i]; omega
  have SB2 : ∀ i, 100 ≤ (spB so (R.2.2.1 b) i S0).2 := fun i => (spB_k (so := so) (ls := R.2.2.1 b) (s := S0) (by omega) h100 i).2.2
  have SBn : ∀ i, i < R.2.1 b → (spLn so (R.2.2.1 b i) (spB so (R.2.2.1 b) i S0)).2 ≤ 720 := fun i hi => by
    have q := (spB_m (so := so) (ls := R.2.2.1 b) (s := S0) (by omega) h100 (R.2.1 b - (i + 1)) (i + 1)).1
    rw [show i + 1 + (R.2.1 b - (i + 1)) = R.2.1 b by omega] at q
    exact Nat.le_trans q hbd
  have R2n : ∀ i, (spR so (R.2.2.1 b i) (spB so (R.2.2.1 b) i S0)).2 ≤ (spLn so (R.2.2.1 b i) (spB so (R.2.2.1 b) i S0)).2 := fun i => (spW_k (so := so) (l := (R.2.2.1 b i)) (a := ldV so ((R.2.2.1 b i) 2) (spB so (R.2.2.1 b) i S0).2) (c := spV so (R.2.2.1 b i) (spB so (R.2.2.1 b) i S0)) (spR_1 (SB0 i)) (spR_2 (SB2 i))).2.1
  have R1n : ∀ i, (ldN so ((R.2.2.1 b i) 2) (spB so (R.2.2.1 b) i S0)).2 ≤ (spR so (R.2.2.1 b i) (spB so (R.2.2.1 b) i S0)).2 := fun i => by
    unfold spR
    split
    · exact Nat.le_refl _
    · exact ldN_le
  have lO : ∀ i, i < R.2.1 b → lnO2 (rwB R b i) (R.2.2.1 b i) := fun i hi => qk_l hO hb hi
  intro y1 y2 y3 y4 y5 y6 y7 y8 x1 x2 x3 x4 x5 x6 x7 x8 x9 k e1 e2 e3 e4 h1 h2 h3 h4 h5 h6 h7 h8 h9 h10 h11 h12 h13 h14 h15 h16 h17 h18 h19 h20 h21 h22 h23 h24 h25 h26 h27 h28 h29 h30 h31 h32 h33 h34 h35 h36 h37 h38 h39 h40 h41 ih
  intro i hi2 hst
  obtain ⟨a1, a2, a3, a4, a5, a6⟩ := hst
  have c9 : y3 0 q1 = 9 := rSk_k h5 (show rKd γ0 q1 9 from hc) (by decide) (by decide)
  have cf' : y3 1 q1 = f := rSk_1 h5 (show rKd γ0 q1 9 from hc) (by decide) hcf
  have m10 : y3 0 q0 = 10 := rSk_k h5 (show rKd γ0 q0 10 from hm) (by decide) (by decide)
  have n9 : y3 9 = γ0 9 := rSk_9 h5
  have g6 : y3 6 f = R.1 := (h6).trans hQ6
  have e42 : ¬ (R.2.2.1 b i) 4 = (R.2.2.1 b i) 2 := by omega
  have eg : cB (F_1 (γ0 9 19)) = x1 := by rw [← h11, ← n9]; exact cB_of h23
  have sv := slR_u hsl a6 (by omega) (lnO2_le4 (lO i hi2))
  rw [eg, ← h24] at sv
  have e1 : slf so ((R.2.2.1 b i) 4) = x2.toInt := by omega
  have ne1 : ¬ slf so ((R.2.2.1 b i) 4) = -1 := by omega
  have eR : (spR so (R.2.2.1 b i) (spB so (R.2.2.1 b) i S0)) = (pgL (ldN so ((R.2.2.1 b i) 2) (spB so (R.2.2.1 b) i S0)).1 (mkL 17 ((ldN so ((R.2.2.1 b i) 2) (spB so (R.2.2.1 b) i S0)).2 : Int) (-1) 0 (-1) (slf so ((R.2.2.1 b i) 4))), (ldN so ((R.2.2.1 b i) 2) (spB so (R.2.2.1 b) i S0)).2 + 1) := (if_neg e42).trans (if_neg ne1)
  have eW : spV so (R.2.2.1 b i) (spB so (R.2.2.1 b) i S0) = ((ldN so ((R.2.2.1 b i) 2) (spB so (R.2.2.1 b) i S0)).2 : Int) := (if_neg e42).trans (if_neg ne1)
  have nn1 : (ldN so ((R.2.2.1 b i) 2) (spB so (R.2.2.1 b) i S0)).2 + 1 ≤ 720 := by
    have q2 := R2n i
    have q3 := SBn i hi2
    rw [eR] at q2
    have q2' : (ldN so ((R.2.2.1 b i) 2) (spB so (R.2.2.1 b) i S0)).2 + 1 ≤ _ := q2
    omega
  have S1b : (ldN so ((R.2.2.1 b i) 2) (spB so (R.2.2.1 b) i S0)).1.1 = b + 1 := ldN_b (SBb i)
  rw [if_neg e42] at a1
  obtain ⟨t1, t2, t3, t4⟩ := lod_r (n := (ldN so ((R.2.2.1 b i) 2) (spB so (R.2.2.1 b) i S0)).2) (j := (ldN so ((R.2.2.1 b i) 2) (spB so (R.2.2.1 b) i S0)).1.2.1 b) h4 m10 c9 cf' (by exact g6) a1 hb a2 a3 (by
    show (ldN so ((R.2.2.1 b i) 2) (spB so (R.2.2.1 b) i S0)).1.2.1 b < (mid (ldN so ((R.2.2.1 b i) 2) (spB so (R.2.2.1 b) i S0)) R b i).2.1 b
    rw [mid_len]; omega) a4 (by omega) (by omega) (by omega) h37
  have t5 : rfX x5 x6 x4 q1 (pgSt (mid (spR so (R.2.2.1 b i) (spB so (R.2.2.1 b) i S0)) R b i) b ((ldN so ((R.2.2.1 b i) 2) (spB so (R.2.2.1 b) i S0)).1.2.1 b + 1) (mkL ((R.2.2.1 b i) 0) ((R.2.2.1 b i) 1) (ldV so ((R.2.2.1 b i) 2) (spB so (R.2.2.1 b) i S0).2) ((R.2.2.1 b i) 3) ((R.2.2.1 b i) 4) ((R.2.2.1 b i) 5))) := by
    rw [eR, e1]
    exact rfX_A t2 (mid_ins S1b hi2 hb)
  have ln1 : (spR so (R.2.2.1 b i) (spB so (R.2.2.1 b) i S0)).1.2.1 b = (ldN so ((R.2.2.1 b i) 2) (spB so (R.2.2.1 b) i S0)).1.2.1 b + 1 := by rw [eR]; exact L_len S1b
  have skL := h27
  have d9 : x5 0 q1 = 9 := rSk_k skL (show rKd y3 q1 9 from c9) (by decide) (by decide)
  have df : x5 1 q1 = f := rSk_1 skL (show rKd y3 q1 9 from c9) (by decide) cf'
  have d6 : x5 6 f = R.1 := (h28).trans g6
  have hTL : RS D I x3 x4 x5 x6 := skL.1
  have rA : rAt x5 x6 q1 b ((ldN so ((R.2.2.1 b i) 2) (spB so (R.2.2.1 b) i S0)).1.2.1 b + 1) = y6 := by
    have q := (h35).resolve_left (by omega) ((ldN so ((R.2.2.1 b i) 2) (spB so (R.2.2.1 b) i S0)).1.2.1 b) (by rw [a3]; exact Nat.le_refl _)
    rw [eb] at q
    rw [q]
    have e6 := h13
    rw [eb, show y5.toInt.toNat = (ldN so ((R.2.2.1 b i) 2) (spB so (R.2.2.1 b) i S0)).1.2.1 b by rw [a3]; rfl] at e6
    exact e6
  have mL : (mid (spR so (R.2.2.1 b i) (spB so (R.2.2.1 b) i S0)) R b i).2.1 b = (ldN so ((R.2.2.1 b i) 2) (spB so (R.2.2.1 b) i S0)).1.2.1 b + 1 + (R.2.1 b - i) := by rw [mid_len, ln1]
  have rB : rwB (mid (spR so (R.2.2.1 b i) (spB so (R.2.2.1 b) i S0)) R b i) b ((ldN so ((R.2.2.1 b i) 2) (spB so (R.2.2.1 b) i S0)).1.2.1 b + 1) = rwB R b i := by rw [← ln1]; exact rwB_mid hi2
  have hl5 := t5.2.2 b hb ((ldN so ((R.2.2.1 b i) 2) (spB so (R.2.2.1 b) i S0)).1.2.1 b + 1) (by
    have q : x5 2 (rwL x5 x6 q1 b) + 1 = (mid (spR so (R.2.2.1 b i) (spB so (R.2.2.1 b) i S0)) R b i).2.1 b := (t5.2.1 b hb).1
    rw [mL] at q
    omega)
  rw [rA] at hl5
  have hl6 : lnX (rwB R b i) (mkL ((R.2.2.1 b i) 0) ((R.2.2.1 b i) 1) (ldV so ((R.2.2.1 b i) 2) (spB so (R.2.2.1 b) i S0).2) ((R.2.2.1 b i) 3) ((R.2.2.1 b i) 4) ((R.2.2.1 b i) 5)) (x4 y6) := by
    have q : lnX (rwB (mid (spR so (R.2.2.1 b i) (spB so (R.2.2.1 b) i S0)) R b i) b ((ldN so ((R.2.2.1 b i) 2) (spB so (R.2.2.1 b) i S0)).1.2.1 b + 1)) ((pgSt (mid (spR so (R.2.2.1 b i) (spB so (R.2.2.1 b) i S0)) R b i) b ((ldN so ((R.2.2.1 b i) 2) (spB so (R.2.2.1 b) i S0)).1.2.1 b + 1) (mkL ((R.2.2.1 b i) 0) ((R.2.2.1 b i) 1) (ldV so ((R.2.2.1 b i) 2) (spB so (R.2.2.1 b) i S0).2) ((R.2.2.1 b i) 3) ((R.2.2.1 b i) 4) ((R.2.2.1 b i) 5))).2.2.1 b ((ldN so ((R.2.2.1 b i) 2) (spB so (R.2.2.1 b) i S0)).1.2.1 b + 1)) (x4 y6) := hl5
    rw [rB, pgSt_l] at q
    exact q
  have kx : x5 0 y6 = 1 := by rw [← rA]; exact (rAt_k hTL d9 df (by omega)).1
  have sx : rwS (x4 y6) := rwS_1 (RS_o hTL kx)
  have lO' : lnO2 (rwB R b i) (mkL ((R.2.2.1 b i) 0) ((R.2.2.1 b i) 1) (ldV so ((R.2.2.1 b i) 2) (spB so (R.2.2.1 b) i S0).2) ((R.2.2.1 b i) 3) ((R.2.2.1 b i) 4) ((R.2.2.1 b i) 5)) := lnO2_V (lO i hi2) (SB2 i) (by have := R1n i; have := R2n i; have := SBn i hi2; have := ldN_le (so := so) (x := (R.2.2.1 b i) 2) (s := (spB so (R.2.2.1 b) i S0)); omega)
  have p1 := set_B (t := ((ldN so ((R.2.2.1 b i) 2) (spB so (R.2.2.1 b) i S0)).2 : Int)) lO' hl6 sx h41 (by show 0 ≤ (R.2.2.1 b i) 4; omega) t1 (by omega)
  have pt := rfX_put (b := b) (j := (ldN so ((R.2.2.1 b i) 2) (spB so (R.2.2.1 b) i S0)).1.2.1 b + 1) (l := mkL ((R.2.2.1 b i) 0) ((R.2.2.1 b i) 1) (ldV so ((R.2.2.1 b i) 2) (spB so (R.2.2.1 b) i S0).2) ((R.2.2.1 b i) 3) ((ldN so ((R.2.2.1 b i) 2) (spB so (R.2.2.1 b) i S0)).2 : Int) ((R.2.2.1 b i) 5)) hTL d9 df (by exact d6) t5 (hB2_ (Q := R) hTL d9 df d6) hb (by
    show (ldN so ((R.2.2.1 b i) 2) (spB so (R.2.2.1 b) i S0)).1.2.1 b + 1 < (mid (spR so (R.2.2.1 b i) (spB so (R.2.2.1 b) i S0)) R b i).2.1 b
    rw [mL]; omega) (by rw [rA]; exact h40) (by rw [pgSt_l]; rfl) (by
    rw [rA]
    show lnX (rwB (mid (spR so (R.2.2.1 b i) (spB so (R.2.2.1 b) i S0)) R b i) b ((ldN so ((R.2.2.1 b i) 2) (spB so (R.2.2.1 b) i S0)).1.2.1 b + 1)) _ _
    rw [rB]
    exact p1)
  rw [pgSt_2] at pt
  have mq : x9 q0 = x4 q0 := h40 q0 (fun e => by
    have q : x5 0 q0 = 10 := rSk_k skL (show rKd y3 q0 10 from m10) (by decide) (by decide)
    rw [e, kx] at q; cases q)
  refine ih i hi2 ?_
  rw [ln1, eW]
  refine ⟨pt, t4, by omega, ?_⟩
  rw [mq, t3, eR]
set_option maxHeartbeats 4000000 in
theorem sp90_c11 {q0 : Nat} {F_1 : Nat → va_E} {q1 : Nat} {l2_1 : Int32} {c1 : Nat} (hm : γ0 0 q0 = 10) (hc : γ0 0 q1 = 9) (hcf : γ0 1 q1 = f) (hQ6 : γ0 6 f = R.1) (hO : qOk R) (hb : b < R.1) (hl2 : l2_1.toInt = (b : Int)) (hsl : slR (cB (F_1 (γ0 9 19))) so) (hS0 : S0.1.1 = b + 1) (h100 : 100 ≤ S0.2) (hbd : (spB so (R.2.2.1 b) (R.2.1 b) S0).2 ≤ 720) (hld : ∀ i, i < R.2.1 b → R.2.2.1 b i 0 = 17 → slf so (R.2.2.1 b i 1) = -1) : ∀ (y1 : List Nat) (y2 : Nat → va_E) (y3 : Nat → Nat → Nat) (y4 : Nat → Nat → Nat) (y5 : Int32) (y6 : Nat) (y7 : Int32) (y8 : Int32) (x1 : Nat → Int32) (x2 : Int32) (x3 : List Nat) (x4 : Nat → va_E) (x5 : Nat → Nat → Nat) (x6 : Nat → Nat → Nat) (x7 : Int32), gB y5 0 1000001 → gB y7 (-1) 1999 → gB y8 (-1) 1999 → RS D I y1 y2 y3 y4 → rSk f [101] ([1, 3, 5, 6, 8, 9, 101] ++ npk) D I P F γ0 el0 y1 y2 y3 y4 → y3 6 f = γ0 6 f → y3 18 f = γ0 18 f → ((y3 7 f : Nat) : Int) = (fI (y2 q0) 11).toInt → (fI (y2 q0) 11).toInt = (fI (F_1 q0) 11).toInt → 100 ≤ (fI (y2 q0) 14).toInt → (y2 (γ0 9 19) = F_1 (γ0 9 19)) → rPl y3 y4 y2 q1 (y3 6 f) (spX (cB (F (γ0 9 3))) (cB (F_1 (γ0 9 19))) (l2_1.toInt : Int).toNat (y5.toInt : Int).toNat) → rAt y3 y4 q1 (l2_1.toInt : Int).toNat (y5.toInt : Int).toNat = y6 → rS1 (cB (F (γ0 9 3))) (cB (F_1 (γ0 9 19))) (y2 y6) y7.toInt y8.toInt → (y5.toInt : Int) ≤ y3 2 (y3 14 c1) → (l2_1.toInt : Int) < y3 6 f → eO y5.toInt (y3 2 (y3 14 c1) : Nat) (fI (y2 y6) 0).toInt → (y2 (γ0 9 3) = F (γ0 9 3)) → mKp (F q0) (y2 q0) → 0 ≤ y8.toInt → y8.toInt ≠ y7.toInt → fR (y2 q0) 19 = (y3 9 19) → y2 (y3 9 19) = .inl (I .int, 2000, .inl x1) → x2 = x1 y8.toNatClampNeg → gB x2 (-1) 1999 → 0 ≤ x2.toInt → rSk f [101] ([3, 5, 6, 8, 9, 10, 101]) D I y1 y2 y3 y4 x3 x4 x5 x6 → x5 6 f = y3 6 f → x5 7 f = y3 7 f → x5 18 f = y3 18 f → ((x5 14 c1 = y3 14 c1 ∧ l2_1.toInt.toNat < x5 2 (x5 14 q1) ∧ x6 (x5 14 q1) l2_1.toInt.toNat = c1)) → ((x7.toInt < 0 ∨ (x7.toInt = (fI (y2 q0) 14).toInt ∧ x7.toInt < 2000 ∧ (fI (x4 q0) 14).toInt = x7.toInt + 1 ∧ x5 16 f = y3 16 f + 1 ∧ x5 2 (x5 14 c1) = y3 2 (y3 14 c1) + 1))) → (fI (x4 q0) 11).toInt = (fI (y2 q0) 11).toInt → ((x7.toInt < 0 ∨ rInsP y3 y4 y2 x5 x6 x4 q1 f l2_1.toInt.toNat (y5.toInt : Int).toNat (x7.toInt : Int).toNat)) → ((x7.toInt < 0 ∨ ∀ j : Nat, (y5.toInt : Int).toNat ≤ j → rAt x5 x6 q1 l2_1.toInt.toNat (j + 1) = rAt y3 y4 q1 l2_1.toInt.toNat j)) → mKp (y2 q0) (x4 q0) → tr_RModel_load D I y3 y4 f y1 y2 q0 q1 c1 y5 x2 x7 x3 x4 x5 x6 → x7.toInt < 0 → sp90_J2 q0 q1 c1 R b so S0 y1 y2 y3 y4 y5 y6 y7 y8 280 x4 x3 x5 x6 := by
  have eb : l2_1.toInt.toNat = b := by rw [hl2]; rfl
  have SBb : ∀ i, (spB so (R.2.2.1 b) i S0).1.1 = b + 1 := fun i => ((spB_k (so := so) (ls := R.2.2.1 b) (s := S0) (by omega) h100 i).1.1).trans hS0
  have SB0 : ∀ i, 0 < (spB so (R.2.2.1 b) i S0).1.1 := fun i => by rw [SBb i]; omega
  have SB2 : ∀ i, 100 ≤ (spB so (R.2.2.1 b) i S0).2 := fun i => (spB_k (so := so) (ls := R.2.2.1 b) (s := S0) (by omega) h100 i).2.2
  have SBn : ∀ i, i < R.2.1 b → (spLn so (R.2.2.1 b i) (spB so (R.2.2.1 b) i S0)).2 ≤ 720 := fun i hi => by
    have q := (spB_m (so := so) (ls := R.2.2.1 b) (s := S0) (by omega) h100 (R.2.1 b - (i + 1)) (i + 1)).1
    rw [show i + 1 + (R.2.1 b - (i + 1)) = R.2.1 b by omega] at q
    exact Nat.le_trans q hbd
  have R2n : ∀ i, (spR so (R.2.2.1 b i) (spB so (R.2.2.1 b) i S0)).2 ≤ (spLn so (R.2.2.1 b i) (spB so (R.2.2.1 b) i S0)).2 := fun i => (spW_k (so := so) (l := (R.2.2.1 b i)) (a := ldV so ((R.2.2.1 b i) 2) (spB so (R.2.2.1 b) i S0).2) (c := spV so (R.2.2.1 b i) (spB so (R.2.2.1 b) i S0)) (spR_1 (SB0 i)) (spR_2 (SB2 i))).2.1
  have R1n : ∀ i, (ldN so ((R.2.2.1 b i) 2) (spB so (R.2.2.1 b) i S0)).2 ≤ (spR so (R.2.2.1 b i) (spB so (R.2.2.1 b) i S0)).2 := fun i => by
    unfold spR
    split
    · exact Nat.le_refl _
    · exact ldN_le
  have lO : ∀ i, i < R.2.1 b → lnO2 (rwB R b i) (R.2.2.1 b i) := fun i hi => qk_l hO hb hi
  intro y1 y2 y3 y4 y5 y6 y7 y8 x1 x2 x3 x4 x5 x6 x7 h1 h2 h3 h4 h5 h6 h7 h8 h9 h10 h11 h12 h13 h14 h15 h16 h17 h18 h19 h20 h21 h22 h23 h24 h25 h26 h27 h28 h29 h30 h31 h32 h33 h34 h35 h36 h37 h38
  intro i hi2 hst
  obtain ⟨a1, a2, a3, a4, a5, a6⟩ := hst
  have c9 : y3 0 q1 = 9 := rSk_k h5 (show rKd γ0 q1 9 from hc) (by decide) (by decide)
  have cf' : y3 1 q1 = f := rSk_1 h5 (show rKd γ0 q1 9 from hc) (by decide) hcf
  have m10 : y3 0 q0 = 10 := rSk_k h5 (show rKd γ0 q0 10 from hm) (by decide) (by decide)
  have n9 : y3 9 = γ0 9 := rSk_9 h5
  have g6 : y3 6 f = R.1 := (h6).trans hQ6
  have e42 : ¬ (R.2.2.1 b i) 4 = (R.2.2.1 b i) 2 := by omega
  have eg : cB (F_1 (γ0 9 19)) = x1 := by rw [← h11, ← n9]; exact cB_of h23
  have sv := slR_u hsl a6 (by omega) (lnO2_le4 (lO i hi2))
  rw [eg, ← h24] at sv
  have e1 : slf so ((R.2.2.1 b i) 4) = x2.toInt := by omega
  have ne1 : ¬ slf so ((R.2.2.1 b i) 4) = -1 := by omega
  have eR : (spR so (R.2.2.1 b i) (spB so (R.2.2.1 b) i S0)) = (pgL (ldN so ((R.2.2.1 b i) 2) (spB so (R.2.2.1 b) i S0)).1 (mkL 17 ((ldN so ((R.2.2.1 b i) 2) (spB so (R.2.2.1 b) i S0)).2 : Int) (-1) 0 (-1) (slf so ((R.2.2.1 b i) 4))), (ldN so ((R.2.2.1 b i) 2) (spB so (R.2.2.1 b) i S0)).2 + 1) := (if_neg e42).trans (if_neg ne1)
  have eW : spV so (R.2.2.1 b i) (spB so (R.2.2.1 b) i S0) = ((ldN so ((R.2.2.1 b i) 2) (spB so (R.2.2.1 b) i S0)).2 : Int) := (if_neg e42).trans (if_neg ne1)
  have nn1 : (ldN so ((R.2.2.1 b i) 2) (spB so (R.2.2.1 b) i S0)).2 + 1 ≤ 720 := by
    have q2 := R2n i
    have q3 := SBn i hi2
    rw [eR] at q2
    have q2' : (ldN so ((R.2.2.1 b i) 2) (spB so (R.2.2.1 b) i S0)).2 + 1 ≤ _ := q2
    omega
  have S1b : (ldN so ((R.2.2.1 b i) 2) (spB so (R.2.2.1 b) i S0)).1.1 = b + 1 := ldN_b (SBb i)
  rw [if_neg e42] at a1
  obtain ⟨t1, t2, t3, t4⟩ := lod_r (n := (ldN so ((R.2.2.1 b i) 2) (spB so (R.2.2.1 b) i S0)).2) (j := (ldN so ((R.2.2.1 b i) 2) (spB so (R.2.2.1 b) i S0)).1.2.1 b) h4 m10 c9 cf' (by exact g6) a1 hb a2 a3 (by
    show (ldN so ((R.2.2.1 b i) 2) (spB so (R.2.2.1 b) i S0)).1.2.1 b < (mid (ldN so ((R.2.2.1 b i) 2) (spB so (R.2.2.1 b) i S0)) R b i).2.1 b
    rw [mid_len]; omega) a4 (by omega) (by omega) (by omega) h37
  omega
set_option maxHeartbeats 4000000 in
theorem sp90_c12 {q0 : Nat} {F_1 : Nat → va_E} {q1 : Nat} {l2_1 : Int32} {c1 : Nat} (hm : γ0 0 q0 = 10) (hc : γ0 0 q1 = 9) (hcf : γ0 1 q1 = f) (hQ6 : γ0 6 f = R.1) (hO : qOk R) (hb : b < R.1) (hl2 : l2_1.toInt = (b : Int)) (hsl : slR (cB (F_1 (γ0 9 19))) so) (hS0 : S0.1.1 = b + 1) (h100 : 100 ≤ S0.2) (hbd : (spB so (R.2.2.1 b) (R.2.1 b) S0).2 ≤ 720) (hld : ∀ i, i < R.2.1 b → R.2.2.1 b i 0 = 17 → slf so (R.2.2.1 b i 1) = -1) : ∀ (P_2 : List Nat) (F_2 : Nat → va_E) (gm_2 : Nat → Nat → Nat) (el_2 : Nat → Nat → Nat) (l4_2 : Int32) (x1 : Nat) (x2 : Int32) (x3 : Nat) (x4 : Int32) (x5 : Int32) (x6 : Int32) (x7 : Int32) (x8 : Int32) (k : Nat) (e1 : Nat → va_E) (e2 : List Nat) (e3 : Nat → Nat → Nat) (e4 : Nat → Nat → Nat), gB l4_2 0 1000003 → RS D I P_2 F_2 gm_2 el_2 → rSk f [101] ([1, 3, 5, 6, 8, 9, 101] ++ npk) D I P F γ0 el0 P_2 F_2 gm_2 el_2 → gm_2 6 f = γ0 6 f → gm_2 18 f = γ0 18 f → ((gm_2 7 f : Nat) : Int) = (fI (F_2 q0) 11).toInt → (fI (F_2 q0) 11).toInt = (fI (F_1 q0) 11).toInt → 100 ≤ (fI (F_2 q0) 14).toInt → (F_2 (γ0 9 19) = F_1 (γ0 9 19)) → rPl gm_2 el_2 F_2 q1 (gm_2 6 f) (spQ (cB (F (γ0 9 3))) (cB (F_1 (γ0 9 19))) (l2_1.toInt : Int).toNat (l4_2.toInt : Int).toNat) → (l4_2.toInt : Int) ≤ gm_2 2 (gm_2 14 c1) + 1 → (l2_1.toInt : Int) < gm_2 6 f → (F_2 (γ0 9 3) = F (γ0 9 3)) → mKp (F q0) (F_2 q0) → fR (F_2 c1) 0 = x1 → x2.toInt = (gm_2 2 x1 : Int) → fI (F_2 x1) 2 = x2 → l4_2.toInt ≤ x2.toInt → x2.toInt = (gm_2 2 x1 : Int) → x2.toInt ≤ l4_2.toInt → fR (F_2 c1) 1 = x3 → fI (F_2 x3) 0 = x4 → fI (F_2 x3) 5 = x5 → gB x6 0 1 → tr_RRow_usesA3 x4 x5 x6 → x6.toInt = 0 → fI (F_2 x3) 6 = x7 → gB x8 0 1 → tr_RRow_usesB3 x4 x7 x8 → x8.toInt = 0 → sp90_J2 q0 q1 c1 R b so S0 P_2 F_2 gm_2 el_2 l4_2 x3 (-1 : Int32) (-1 : Int32) k e1 e2 e3 e4 → sp90_M q0 q1 c1 R b so S0 P_2 F_2 gm_2 el_2 l4_2 k e1 e2 e3 e4 := by
  have eb : l2_1.toInt.toNat = b := by rw [hl2]; rfl
  have SBb : ∀ i, (spB so (R.2.2.1 b) i S0).1.1 = b + 1 := fun i => ((spB_k (so := so) (ls := R.2.2.1 b) (s := S0) (by omega) h100 i).1.1).trans hS0
  have SB0 : ∀ i, 0 < (spB so (R.2.2.1 b) i S0).1.1 := fun i => by rw [SBb i]; omega
  have SB2 : ∀ i, 100 ≤ (spB so (R.2.2.1 b) i S0).2 := fun i => (spB_k (so := so) (ls := R.2.2.1 b) (s := S0) (by omega) h100 i).2.2
  have SBn : ∀ i, i < R.2.1 b → (spLn so (R.2.2.1 b i) (spB so (R.2.2.1 b) i S0)).2 ≤ 720 := fun i hi => by
    have q := (spB_m (so := so) (ls := R.2.2.1 b) (s := S0) (by omega) h100 (R.2.1 b - (i + 1)) (i + 1)).1
    rw [show i + 1 + (R.2.1 b - (i + 1)) = R.2.1 b by omega] at q
    exact Nat.le_trans q hbd
  have R2n : ∀ i, (spR so (R.2.2.1 b i) (spB so (R.2.2.1 b) i S0)).2 ≤ (spLn so (R.2.2.1 b i) (spB so (R.2.2.1 b) i S0)).2 := fun i => (spW_k (so := so) (l := (R.2.2.1 b i)) (a := ldV so ((R.2.2.1 b i) 2) (spB so (R.2.2.1 b) i S0).2) (c := spV so (R.2.2.1 b i) (spB so (R.2.2.1 b) i S0)) (spR_1 (SB0 i)) (spR_2 (SB2 i))).2.1
  have R1n : ∀ i, (ldN so ((R.2.2.1 b i) 2) (spB so (R.2.2.1 b) i S0)).2 ≤ (spR so (R.2.2.1 b i) (spB so (R.2.2.1 b) i S0)).2 := fun i => by
    unfold spR
    split
    · exact Nat.le_refl _
    · exact ldN_le
  have lO : ∀ i, i < R.2.1 b → lnO2 (rwB R b i) (R.2.2.1 b i) := fun i hi => qk_l hO hb hi
  intro P_2 F_2 gm_2 el_2 l4_2 x1 x2 x3 x4 x5 x6 x7 x8 k e1 e2 e3 e4 h1 h2 h3 h4 h5 h6 h7 h8 h9 h10 h11 h12 h13 h14 h15 h16 h17 h18 h19 h20 h21 h22 h23 h24 h25 h26 h27 h28 h29 h30 ih
  intro i hi hst
  obtain ⟨a1, a2, a3, a4⟩ := hst
  have c9 : gm_2 0 q1 = 9 := rSk_k h3 (show rKd γ0 q1 9 from hc) (by decide) (by decide)
  have cf' : gm_2 1 q1 = f := rSk_1 h3 (show rKd γ0 q1 9 from hc) (by decide) hcf
  have m10 : gm_2 0 q0 = 10 := rSk_k h3 (show rKd γ0 q0 10 from hm) (by decide) (by decide)
  have n9 : gm_2 9 = γ0 9 := rSk_9 h3
  have g6 : gm_2 6 f = R.1 := (h4).trans hQ6
  have bk := hB2_ (Q := R) h2 c9 cf' g6 b hb
  rw [a2] at bk
  obtain ⟨ll, nn, pp, ss, v1, ⟨g1, g2, g3⟩, v3, v4, v5, -⟩ := show rk_2 gm_2 c1 (F_2 c1) from RS_o h2 bk
  have ex1 : x1 = rwL gm_2 el_2 q1 b := by
    rw [← h15, v1]
    show ll = gm_2 14 (el_2 (gm_2 14 q1) b)
    rw [a2, g1]
  have mlen : gm_2 2 (rwL gm_2 el_2 q1 b) + 1 = (spB so (R.2.2.1 b) i S0).1.2.1 b + (R.2.1 b - i) := by
    have q := (a1.2.1 b hb).1
    rw [mid_len] at q
    exact q
  rw [ex1] at h16
  have hi2 : i < R.2.1 b := by omega
  have e3 : x3 = rAt gm_2 el_2 q1 b ((spB so (R.2.2.1 b) i S0).1.2.1 b) := by
    rw [← h21, v1]
    show nn = _
    rw [show rAt gm_2 el_2 q1 b ((spB so (R.2.2.1 b) i S0).1.2.1 b) = gm_2 15 (el_2 (gm_2 14 q1) b) from if_neg (show ¬ (spB so (R.2.2.1 b) i S0).1.2.1 b < gm_2 2 (rwL gm_2 el_2 q1 b) by omega), a2, g2]
  have hl := a1.2.2 b hb ((spB so (R.2.2.1 b) i S0).1.2.1 b) (by omega)
  rw [← e3] at hl
  unfold lnQ at hl
  rw [rwB_mid hi2, mid_cur] at hl
  obtain ⟨U1, U2, U3⟩ := lnU_X (lO i hi2) hl
  have uA := uA_tr3 h25
  have uB := uB_tr3 h29
  rw [h22, h23] at U2
  rw [h22, h27] at U3
  have q0' : rfX gm_2 el_2 F_2 q1 (pgSt (mid (spB so (R.2.2.1 b) i S0) R b i) b ((spB so (R.2.2.1 b) i S0).1.2.1 b) (mkL ((R.2.2.1 b i) 0) ((R.2.2.1 b i) 1) ((R.2.2.1 b i) 2) ((R.2.2.1 b i) 3) ((R.2.2.1 b i) 4) ((R.2.2.1 b i) 5))) := rfX_cur a1 (fun f' hf => by rw [mid_cur]; exact mk6 hf)
  have el2 : (R.2.2.1 b i) 2 = -1 := by omega
  have e1 : slf so ((R.2.2.1 b i) 2) = -1 := slf_n el2
  have m1 : Int32.toInt (-1) = -1 := by decide
  have eN : ldN so ((R.2.2.1 b i) 2) (spB so (R.2.2.1 b) i S0) = (spB so (R.2.2.1 b) i S0) := if_pos e1
  have eV : ldV so ((R.2.2.1 b i) 2) (spB so (R.2.2.1 b) i S0).2 = (R.2.2.1 b i) 2 := if_pos e1
  have eI : (if (R.2.2.1 b i) 4 = (R.2.2.1 b i) 2 then (R.2.2.1 b i) 2 else (R.2.2.1 b i) 4) = (R.2.2.1 b i) 4 := by split <;> omega
  refine ih i hi2 ?_
  rw [eN, eV, eI]
  exact ⟨q0', a2, a3, a4, by omega, by omega⟩
set_option maxHeartbeats 4000000 in
theorem sp90_c13 {q0 : Nat} {F_1 : Nat → va_E} {q1 : Nat} {l2_1 : Int32} {c1 : Nat} (hm : γ0 0 q0 = 10) (hc : γ0 0 q1 = 9) (hcf : γ0 1 q1 = f) (hQ6 : γ0 6 f = R.1) (hO : qOk R) (hb : b < R.1) (hl2 : l2_1.toInt = (b : Int)) (hsl : slR (cB (F_1 (γ0 9 19))) so) (hS0 : S0.1.1 = b + 1) (h100 : 100 ≤ S0.2) (hbd : (spB so (R.2.2.1 b) (R.2.1 b) S0).2 ≤ 720) (hld : ∀ i, i < R.2.1 b → R.2.2.1 b i 0 = 17 → slf so (R.2.2.1 b i 1) = -1) : ∀ (P_2 : List Nat) (F_2 : Nat → va_E) (gm_2 : Nat → Nat → Nat) (el_2 : Nat → Nat → Nat) (l4_2 : Int32) (x1 : Nat) (x2 : Int32) (x3 : Nat) (x4 : Int32) (x5 : Int32) (x6 : Int32) (x7 : Int32) (x8 : Int32) (x9 : Int32) (k : Nat) (e1 : Nat → va_E) (e2 : List Nat) (e3 : Nat → Nat → Nat) (e4 : Nat → Nat → Nat), gB l4_2 0 1000003 → RS D I P_2 F_2 gm_2 el_2 → rSk f [101] ([1, 3, 5, 6, 8, 9, 101] ++ npk) D I P F γ0 el0 P_2 F_2 gm_2 el_2 → gm_2 6 f = γ0 6 f → gm_2 18 f = γ0 18 f → ((gm_2 7 f : Nat) : Int) = (fI (F_2 q0) 11).toInt → (fI (F_2 q0) 11).toInt = (fI (F_1 q0) 11).toInt → 100 ≤ (fI (F_2 q0) 14).toInt → (F_2 (γ0 9 19) = F_1 (γ0 9 19)) → rPl gm_2 el_2 F_2 q1 (gm_2 6 f) (spQ (cB (F (γ0 9 3))) (cB (F_1 (γ0 9 19))) (l2_1.toInt : Int).toNat (l4_2.toInt : Int).toNat) → (l4_2.toInt : Int) ≤ gm_2 2 (gm_2 14 c1) + 1 → (l2_1.toInt : Int) < gm_2 6 f → (F_2 (γ0 9 3) = F (γ0 9 3)) → mKp (F q0) (F_2 q0) → fR (F_2 c1) 0 = x1 → x2.toInt = (gm_2 2 x1 : Int) → fI (F_2 x1) 2 = x2 → l4_2.toInt ≤ x2.toInt → x2.toInt = (gm_2 2 x1 : Int) → x2.toInt ≤ l4_2.toInt → fR (F_2 c1) 1 = x3 → fI (F_2 x3) 0 = x4 → fI (F_2 x3) 5 = x5 → gB x6 0 1 → tr_RRow_usesA3 x4 x5 x6 → x6.toInt = 0 → fI (F_2 x3) 6 = x7 → gB x8 0 1 → tr_RRow_usesB3 x4 x7 x8 → x8.toInt ≠ 0 → fI (F_2 x3) 3 = x9 → sp90_J2 q0 q1 c1 R b so S0 P_2 F_2 gm_2 el_2 l4_2 x3 (-1 : Int32) x9 k e1 e2 e3 e4 → sp90_M q0 q1 c1 R b so S0 P_2 F_2 gm_2 el_2 l4_2 k e1 e2 e3 e4 := by
  have eb : l2_1.toInt.toNat = b := by rw [hl2]; rfl
  have SBb : ∀ i, (spB so (R.2.2.1 b) i S0).1.1 = b + 1 := fun i => ((spB_k (so := so) (ls := R.2.2.1 b) (s := S0) (by omega) h100 i).1.1).trans hS0
  have SB0 : ∀ i, 0 < (spB so (R.2.2.1 b) i S0).1.1 := fun i => by rw [SBb i]; omega
  have SB2 : ∀ i, 100 ≤ (spB so (R.2.2.1 b) i S0).2 := fun i => (spB_k (so := so) (ls := R.2.2.1 b) (s := S0) (by omega) h100 i).2.2
  have SBn : ∀ i, i < R.2.1 b → (spLn so (R.2.2.1 b i) (spB so (R.2.2.1 b) i S0)).2 ≤ 720 := fun i hi => by
    have q := (spB_m (so := so) (ls := R.2.2.1 b) (s := S0) (by omega) h100 (R.2.1 b - (i + 1)) (i + 1)).1
    rw [show i + 1 + (R.2.1 b - (i + 1)) = R.2.1 b by omega] at q
    exact Nat.le_trans q hbd
  have R2n : ∀ i, (spR so (R.2.2.1 b i) (spB so (R.2.2.1 b) i S0)).2 ≤ (spLn so (R.2.2.1 b i) (spB so (R.2.2.1 b) i S0)).2 := fun i => (spW_k (so := so) (l := (R.2.2.1 b i)) (a := ldV so ((R.2.2.1 b i) 2) (spB so (R.2.2.1 b) i S0).2) (c := spV so (R.2.2.1 b i) (spB so (R.2.2.1 b) i S0)) (spR_1 (SB0 i)) (spR_2 (SB2 i))).2.1
  have R1n : ∀ i, (ldN so ((R.2.2.1 b i) 2) (spB so (R.2.2.1 b) i S0)).2 ≤ (spR so (R.2.2.1 b i) (spB so (R.2.2.1 b) i S0)).2 := fun i => by
    unfold spR
    split
    · exact Nat.le_refl _
    · exact ldN_le
  have lO : ∀ i, i < R.2.1 b → lnO2 (rwB R b i) (R.2.2.1 b i) := fun i hi => qk_l hO hb hi
  intro P_2 F_2 gm_2 el_2 l4_2 x1 x2 x3 x4 x5 x6 x7 x8 x9 k e1 e2 e3 e4 h1 h2 h3 h4 h5 h6 h7 h8 h9 h10 h11 h12 h13 h14 h15 h16 h17 h18 h19 h20 h21 h22 h23 h24 h25 h26 h27 h28 h29 h30 h31 ih
  intro i hi hst
  obtain ⟨a1, a2, a3, a4⟩ := hst
  have c9 : gm_2 0 q1 = 9 := rSk_k h3 (show rKd γ0 q1 9 from hc) (by decide) (by decide)
  have cf' : gm_2 1 q1 = f := rSk_1 h3 (show rKd γ0 q1 9 from hc) (by decide) hcf
  have m10 : gm_2 0 q0 = 10 := rSk_k h3 (show rKd γ0 q0 10 from hm) (by decide) (by decide)
  have n9 : gm_2 9 = γ0 9 := rSk_9 h3
  have g6 : gm_2 6 f = R.1 := (h4).trans hQ6
  have bk := hB2_ (Q := R) h2 c9 cf' g6 b hb
  rw [a2] at bk
  obtain ⟨ll, nn, pp, ss, v1, ⟨g1, g2, g3⟩, v3, v4, v5, -⟩ := show rk_2 gm_2 c1 (F_2 c1) from RS_o h2 bk
  have ex1 : x1 = rwL gm_2 el_2 q1 b := by
    rw [← h15, v1]
    show ll = gm_2 14 (el_2 (gm_2 14 q1) b)
    rw [a2, g1]
  have mlen : gm_2 2 (rwL gm_2 el_2 q1 b) + 1 = (spB so (R.2.2.1 b) i S0).1.2.1 b + (R.2.1 b - i) := by
    have q := (a1.2.1 b hb).1
    rw [mid_len] at q
    exact q
  rw [ex1] at h16
  have hi2 : i < R.2.1 b := by omega
  have e3 : x3 = rAt gm_2 el_2 q1 b ((spB so (R.2.2.1 b) i S0).1.2.1 b) := by
    rw [← h21, v1]
    show nn = _
    rw [show rAt gm_2 el_2 q1 b ((spB so (R.2.2.1 b) i S0).1.2.1 b) = gm_2 15 (el_2 (gm_2 14 q1) b) from if_neg (show ¬ (spB so (R.2.2.1 b) i S0).1.2.1 b < gm_2 2 (rwL gm_2 el_2 q1 b) by omega), a2, g2]
  have hl := a1.2.2 b hb ((spB so (R.2.2.1 b) i S0).1.2.1 b) (by omega)
  rw [← e3] at hl
  unfold lnQ at hl
  rw [rwB_mid hi2, mid_cur] at hl
  obtain ⟨U1, U2, U3⟩ := lnU_X (lO i hi2) hl
  have uA := uA_tr3 h25
  have uB := uB_tr3 h29
  rw [h22, h23] at U2
  rw [h22, h27] at U3
  have q0' : rfX gm_2 el_2 F_2 q1 (pgSt (mid (spB so (R.2.2.1 b) i S0) R b i) b ((spB so (R.2.2.1 b) i S0).1.2.1 b) (mkL ((R.2.2.1 b i) 0) ((R.2.2.1 b i) 1) ((R.2.2.1 b i) 2) ((R.2.2.1 b i) 3) ((R.2.2.1 b i) 4) ((R.2.2.1 b i) 5))) := rfX_cur a1 (fun f' hf => by rw [mid_cur]; exact mk6 hf)
  rw [h31] at U3
  have el2 : (R.2.2.1 b i) 2 = -1 := by omega
  have e1 : slf so ((R.2.2.1 b i) 2) = -1 := slf_n el2
  have m1 : Int32.toInt (-1) = -1 := by decide
  have eN : ldN so ((R.2.2.1 b i) 2) (spB so (R.2.2.1 b) i S0) = (spB so (R.2.2.1 b) i S0) := if_pos e1
  have eV : ldV so ((R.2.2.1 b i) 2) (spB so (R.2.2.1 b) i S0).2 = (R.2.2.1 b i) 2 := if_pos e1
  have eI : (if (R.2.2.1 b i) 4 = (R.2.2.1 b i) 2 then (R.2.2.1 b i) 2 else (R.2.2.1 b i) 4) = (R.2.2.1 b i) 4 := by split <;> omega
  refine ih i hi2 ?_
  rw [eN, eV, eI]
  exact ⟨q0', a2, a3, a4, by omega, by omega⟩
set_option maxHeartbeats 4000000 in
theorem sp90_c14 {q0 : Nat} {F_1 : Nat → va_E} {q1 : Nat} {l2_1 : Int32} {c1 : Nat} (hm : γ0 0 q0 = 10) (hc : γ0 0 q1 = 9) (hcf : γ0 1 q1 = f) (hQ6 : γ0 6 f = R.1) (hO : qOk R) (hb : b < R.1) (hl2 : l2_1.toInt = (b : Int)) (hsl : slR (cB (F_1 (γ0 9 19))) so) (hS0 : S0.1.1 = b + 1) (h100 : 100 ≤ S0.2) (hbd : (spB so (R.2.2.1 b) (R.2.1 b) S0).2 ≤ 720) (hld : ∀ i, i < R.2.1 b → R.2.2.1 b i 0 = 17 → slf so (R.2.2.1 b i 1) = -1) : ∀ (P_2 : List Nat) (F_2 : Nat → va_E) (gm_2 : Nat → Nat → Nat) (el_2 : Nat → Nat → Nat) (l4_2 : Int32) (x1 : Nat) (x2 : Int32) (x3 : Nat) (x4 : Int32) (x5 : Int32) (x6 : Int32) (x7 : Int32) (x8 : Int32) (x9 : Int32) (x10 : Nat → Int32) (x11 : Int32) (k : Nat) (e1 : Nat → va_E) (e2 : List Nat) (e3 : Nat → Nat → Nat) (e4 : Nat → Nat → Nat), gB l4_2 0 1000003 → RS D I P_2 F_2 gm_2 el_2 → rSk f [101] ([1, 3, 5, 6, 8, 9, 101] ++ npk) D I P F γ0 el0 P_2 F_2 gm_2 el_2 → gm_2 6 f = γ0 6 f → gm_2 18 f = γ0 18 f → ((gm_2 7 f : Nat) : Int) = (fI (F_2 q0) 11).toInt → (fI (F_2 q0) 11).toInt = (fI (F_1 q0) 11).toInt → 100 ≤ (fI (F_2 q0) 14).toInt → (F_2 (γ0 9 19) = F_1 (γ0 9 19)) → rPl gm_2 el_2 F_2 q1 (gm_2 6 f) (spQ (cB (F (γ0 9 3))) (cB (F_1 (γ0 9 19))) (l2_1.toInt : Int).toNat (l4_2.toInt : Int).toNat) → (l4_2.toInt : Int) ≤ gm_2 2 (gm_2 14 c1) + 1 → (l2_1.toInt : Int) < gm_2 6 f → (F_2 (γ0 9 3) = F (γ0 9 3)) → mKp (F q0) (F_2 q0) → fR (F_2 c1) 0 = x1 → x2.toInt = (gm_2 2 x1 : Int) → fI (F_2 x1) 2 = x2 → l4_2.toInt ≤ x2.toInt → x2.toInt = (gm_2 2 x1 : Int) → x2.toInt ≤ l4_2.toInt → fR (F_2 c1) 1 = x3 → fI (F_2 x3) 0 = x4 → fI (F_2 x3) 5 = x5 → gB x6 0 1 → tr_RRow_usesA3 x4 x5 x6 → x6.toInt ≠ 0 → fI (F_2 x3) 2 = x7 → fI (F_2 x3) 6 = x8 → gB x9 0 1 → tr_RRow_usesB3 x4 x8 x9 → x9.toInt = 0 → fR (F_2 q0) 19 = (gm_2 9 19) → F_2 (gm_2 9 19) = .inl (I .int, 2000, .inl x10) → x11 = x10 x7.toNatClampNeg → gB x11 (-1) 1999 → x11.toInt < 0 → sp90_J2 q0 q1 c1 R b so S0 P_2 F_2 gm_2 el_2 l4_2 x3 x7 (-1 : Int32) k e1 e2 e3 e4 → sp90_M q0 q1 c1 R b so S0 P_2 F_2 gm_2 el_2 l4_2 k e1 e2 e3 e4 := by
  have eb : l2_1.toInt.toNat = b := by rw [hl2]; rfl
  have SBb : ∀ i, (spB so (R.2.2.1 b) i S0).1.1 = b + 1 := fun i => ((spB_k (so := so) (ls := R.2.2.1 b) (s := S0) (by omega) h100 i).1.1).trans hS0
  have SB0 : ∀ i, 0 < (spB so (R.2.2.1 b) i S0).1.1 := fun i => by rw [SBb i]; omega
  have SB2 : ∀ i, 100 ≤ (spB so (R.2.2.1 b) i S0).2 := fun i => (spB_k (so := so) (ls := R.2.2.1 b) (s := S0) (by omega) h100 i).2.2
  have SBn : ∀ i, i < R.2.1 b → (spLn so (R.2.2.1 b i) (spB so (R.2.2.1 b) i S0)).2 ≤ 720 := fun i hi => by
    have q := (spB_m (so := so) (ls := R.2.2.1 b) (s := S0) (by omega) h100 (R.2.1 b - (i + 1)) (i + 1)).1
    rw [show i + 1 + (R.2.1 b - (i + 1)) = R.2.1 b by omega] at q
    exact Nat.le_trans q hbd
  have R2n : ∀ i, (spR so (R.2.2.1 b i) (spB so (R.2.2.1 b) i S0)).2 ≤ (spLn so (R.2.2.1 b i) (spB so (R.2.2.1 b) i S0)).2 := fun i => (spW_k (so := so) (l := (R.2.2.1 b i)) (a := ldV so ((R.2.2.1 b i) 2) (spB so (R.2.2.1 b) i S0).2) (c := spV so (R.2.2.1 b i) (spB so (R.2.2.1 b) i S0)) (spR_1 (SB0 i)) (spR_2 (SB2 i))).2.1
  have R1n : ∀ i, (ldN so ((R.2.2.1 b i) 2) (spB so (R.2.2.1 b) i S0)).2 ≤ (spR so (R.2.2.1 b i) (spB so (R.2.2.1 b) i S0)).2 := fun i => by
    unfold spR
    split
    · exact Nat.le_refl _
    · exact ldN_le
  have lO : ∀ i, i < R.2.1 b → lnO2 (rwB R b i) (R.2.2.1 b i) := fun i hi => qk_l hO hb hi
  intro P_2 F_2 gm_2 el_2 l4_2 x1 x2 x3 x4 x5 x6 x7 x8 x9 x10 x11 k e1 e2 e3 e4 h1 h2 h3 h4 h5 h6 h7 h8 h9 h10 h11 h12 h13 h14 h15 h16 h17 h18 h19 h20 h21 h22 h23 h24 h25 h26 h27 h28 h29 h30 h31 h32 h33 h34 h35 h36 ih
  intro i hi hst
  obtain ⟨a1, a2, a3, a4⟩ := hst
  have c9 : gm_2 0 q1 = 9 := rSk_k h3 (show rKd γ0 q1 9 from hc) (by decide) (by decide)
  have cf' : gm_2 1 q1 = f := rSk_1 h3 (show rKd γ0 q1 9 from hc) (by decide) hcf
  have m10 : gm_2 0 q0 = 10 := rSk_k h3 (show rKd γ0 q0 10 from hm) (by decide) (by decide)
  have n9 : gm_2 9 = γ0 9 := rSk_9 h3
  have g6 : gm_2 6 f = R.1 := (h4).trans hQ6
  have bk := hB2_ (Q := R) h2 c9 cf' g6 b hb
  rw [a2] at bk
  obtain ⟨ll, nn, pp, ss, v1, ⟨g1, g2, g3⟩, v3, v4, v5, -⟩ := show rk_2 gm_2 c1 (F_2 c1) from RS_o h2 bk
  have ex1 : x1 = rwL gm_2 el_2 q1 b := by
    rw [← h15, v1]
    show ll = gm_2 14 (el_2 (gm_2 14 q1) b)
    rw [a2, g1]
  have mlen : gm_2 2 (rwL gm_2 el_2 q1 b) + 1 = (spB so (R.2.2.1 b) i S0).1.2.1 b + (R.2.1 b - i) := by
    have q := (a1.2.1 b hb).1
    rw [mid_len] at q
    exact q
  rw [ex1] at h16
  have hi2 : i < R.2.1 b := by omega
  have e3 : x3 = rAt gm_2 el_2 q1 b ((spB so (R.2.2.1 b) i S0).1.2.1 b) := by
    rw [← h21, v1]
    show nn = _
    rw [show rAt gm_2 el_2 q1 b ((spB so (R.2.2.1 b) i S0).1.2.1 b) = gm_2 15 (el_2 (gm_2 14 q1) b) from if_neg (show ¬ (spB so (R.2.2.1 b) i S0).1.2.1 b < gm_2 2 (rwL gm_2 el_2 q1 b) by omega), a2, g2]
  have hl := a1.2.2 b hb ((spB so (R.2.2.1 b) i S0).1.2.1 b) (by omega)
  rw [← e3] at hl
  unfold lnQ at hl
  rw [rwB_mid hi2, mid_cur] at hl
  obtain ⟨U1, U2, U3⟩ := lnU_X (lO i hi2) hl
  have uA := uA_tr3 h25
  have uB := uB_tr3 h30
  rw [h22, h23] at U2
  rw [h22, h28] at U3
  have q0' : rfX gm_2 el_2 F_2 q1 (pgSt (mid (spB so (R.2.2.1 b) i S0) R b i) b ((spB so (R.2.2.1 b) i S0).1.2.1 b) (mkL ((R.2.2.1 b i) 0) ((R.2.2.1 b i) 1) ((R.2.2.1 b i) 2) ((R.2.2.1 b i) 3) ((R.2.2.1 b i) 4) ((R.2.2.1 b i) 5))) := rfX_cur a1 (fun f' hf => by rw [mid_cur]; exact mk6 hf)
  rw [h27] at U2
  have el2 : x7.toInt = (R.2.2.1 b i) 2 := by omega
  have eg : cB (F_1 (γ0 9 19)) = x10 := by rw [← h9, ← n9]; exact cB_of h33
  have sv := slR_u hsl el2 (by omega) (by have q := lO i hi2; exact lnO2_le2 q)
  rw [eg, ← h34] at sv
  have e1 : slf so ((R.2.2.1 b i) 2) = -1 := by omega
  have m1 : Int32.toInt (-1) = -1 := by decide
  have eN : ldN so ((R.2.2.1 b i) 2) (spB so (R.2.2.1 b) i S0) = (spB so (R.2.2.1 b) i S0) := if_pos e1
  have eV : ldV so ((R.2.2.1 b i) 2) (spB so (R.2.2.1 b) i S0).2 = (R.2.2.1 b i) 2 := if_pos e1
  have eI : (if (R.2.2.1 b i) 4 = (R.2.2.1 b i) 2 then (R.2.2.1 b i) 2 else (R.2.2.1 b i) 4) = (R.2.2.1 b i) 4 := by split <;> omega
  refine ih i hi2 ?_
  rw [eN, eV, eI]
  exact ⟨q0', a2, a3, a4, by omega, by omega⟩
end STR
end
