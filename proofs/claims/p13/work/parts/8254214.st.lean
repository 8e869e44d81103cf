section STR
variable {D : va_G} {I : FieldType → ClassId} {P : List Nat} {F : Nat → va_E} {γ0 el0 : Nat → Nat → Nat} {f b nm : Nat} {R : gPg} {so : Nat → Int} {S0 : gSp6}
set_option maxHeartbeats 4000000 in
theorem sp90_c15 {q0 : Nat} {F_1 : Nat → va_E} {q1 : Nat} {l2_1 : Int32} {c1 : Nat} (hm : γ0 0 q0 = 10) (hc : γ0 0 q1 = 9) (hcf : γ0 1 q1 = f) (hQ6 : γ0 6 f = R.1) (hO : qOk R) (hb : b < R.1) (hl2 : l2_1.toInt = (b : Int)) (hsl : slR (cB (F_1 (γ0 9 19))) so) (hS0 : S0.1.1 = b + 1) (h100 : 100 ≤ S0.2) (hbd : (spB so (R.2.2.1 b) (R.2.1 b) S0).2 ≤ 720) (hld : ∀ i, i < R.2.1 b → R.2.2.1 b i 0 = 17 → slf so (R.2.2.1 b i 1) = -1) : ∀ (P_2 : List Nat) (F_2 : Nat → va_E) (gm_2 : Nat → Nat → Nat) (el_2 : Nat → Nat → Nat) (l4_2 : Int32) (x1 : Nat) (x2 : Int32) (x3 : Nat) (x4 : Int32) (x5 : Int32) (x6 : Int32) (x7 : Int32) (x8 : Int32) (x9 : Int32) (x10 : Nat → Int32) (x11 : Int32) (x12 : List Nat) (x13 : Nat → va_E) (x14 : Nat → Nat → Nat) (x15 : Nat → Nat → Nat) (x16 : Int32) (x17 : Int32) (x18 : Nat → va_E) (k : Nat) (e1 : Nat → va_E) (e2 : List Nat) (e3 : Nat → Nat → Nat) (e4 : Nat → Nat → Nat), gB l4_2 0 1000003 → RS D I P_2 F_2 gm_2 el_2 → rSk f [101] ([1, 3, 5, 6, 8, 9, 101] ++ npk) D I P F γ0 el0 P_2 F_2 gm_2 el_2 → gm_2 6 f = γ0 6 f → gm_2 18 f = γ0 18 f → ((gm_2 7 f : Nat) : Int) = (fI (F_2 q0) 11).toInt → (fI (F_2 q0) 11).toInt = (fI (F_1 q0) 11).toInt → 100 ≤ (fI (F_2 q0) 14).toInt → (F_2 (γ0 9 19) = F_1 (γ0 9 19)) → rPl gm_2 el_2 F_2 q1 (gm_2 6 f) (spQ (cB (F (γ0 9 3))) (cB (F_1 (γ0 9 19))) (l2_1.toInt : Int).toNat (l4_2.toInt : Int).toNat) → (l4_2.toInt : Int) ≤ gm_2 2 (gm_2 14 c1) + 1 → (l2_1.toInt : Int) < gm_2 6 f → (F_2 (γ0 9 3) = F (γ0 9 3)) → mKp (F q0) (F_2 q0) → fR (F_2 c1) 0 = x1 → x2.toInt = (gm_2 2 x1 : Int) → fI (F_2 x1) 2 = x2 → l4_2.toInt ≤ x2.toInt → x2.toInt = (gm_2 2 x1 : Int) → x2.toInt ≤ l4_2.toInt → fR (F_2 c1) 1 = x3 → fI (F_2 x3) 0 = x4 → fI (F_2 x3) 5 = x5 → gB x6 0 1 → tr_RRow_usesA3 x4 x5 x6 → x6.toInt ≠ 0 → fI (F_2 x3) 2 = x7 → fI (F_2 x3) 6 = x8 → gB x9 0 1 → tr_RRow_usesB3 x4 x8 x9 → x9.toInt = 0 → fR (F_2 q0) 19 = (gm_2 9 19) → F_2 (gm_2 9 19) = .inl (I .int, 2000, .inl x10) → x11 = x10 x7.toNatClampNeg → gB x11 (-1) 1999 → 0 ≤ x11.toInt → rSk f [101] ([3, 5, 6, 8, 9, 10, 101]) D I P_2 F_2 gm_2 el_2 x12 x13 x14 x15 → x14 6 f = gm_2 6 f → x14 7 f = gm_2 7 f → x14 18 f = gm_2 18 f → ((x14 14 c1 = gm_2 14 c1 ∧ l2_1.toInt.toNat < x14 2 (x14 14 q1) ∧ x15 (x14 14 q1) l2_1.toInt.toNat = c1)) → ((x16.toInt < 0 ∨ (x16.toInt = (fI (F_2 q0) 14).toInt ∧ x16.toInt < 2000 ∧ (fI (x13 q0) 14).toInt = x16.toInt + 1 ∧ x14 16 f = gm_2 16 f + 1 ∧ x14 2 (x14 14 c1) = gm_2 2 (gm_2 14 c1) + 1))) → (fI (x13 q0) 11).toInt = (fI (F_2 q0) 11).toInt → ((x16.toInt < 0 ∨ rInsP gm_2 el_2 F_2 x14 x15 x13 q1 f l2_1.toInt.toNat (l4_2.toInt : Int).toNat (x16.toInt : Int).toNat)) → ((x16.toInt < 0 ∨ ∀ j : Nat, (l4_2.toInt : Int).toNat ≤ j → rAt x14 x15 q1 l2_1.toInt.toNat (j + 1) = rAt gm_2 el_2 q1 l2_1.toInt.toNat j)) → mKp (F_2 q0) (x13 q0) → tr_RModel_load D I gm_2 el_2 f P_2 F_2 q0 q1 c1 l4_2 x11 x16 x12 x13 x14 x15 → 0 ≤ x16.toInt → x17.toInt = l4_2.toInt + 1 → (∀ b, b ≠ x3 → x18 b = x13 b) → x18 x3 = cF (x13 x3) 2 (.int x16) → sp90_J2 q0 q1 c1 R b so S0 x12 x18 x14 x15 x17 x3 x7 (-1 : Int32) k e1 e2 e3 e4 → sp90_M q0 q1 c1 R b so S0 P_2 F_2 gm_2 el_2 l4_2 k e1 e2 e3 e4 := by
  have eb : l2_1.toInt.toNat = b := by rw [hl2]; rfl
  have SBb : ∀ i, (spB so (R.2.2.1 b) i S0).1.1 = b + 1 := fun i => ((spB_k (so := so) (ls := R.2.2.1 b) (s := S0) (by omega) h100 i).1.1).trans hS0
  have SB0 : ∀ i, 0 < (spB so (R.2.2.1 b) i S0).1.1 := fun i => by rw [SBb i]; omega
  have SB2 : ∀ i, 100 ≤ (spB so (R.2.2.1 b) i S0).2 := fun i => (spB_k (so := so) (ls := R.2.2.1 b) (s := S0) (by omega) h100 i).2.2
  have SBn : ∀ i, i < R.2.1 b → (spLn so (R.2.2.1 b i) (spB so (R.2.2.1 b) i S0)).2 ≤ 720 := fun i hi => by
    have q := (spB_m (so := so) (ls := R.2.2.1 b) (s := S0) (by omega) h100 (R.2.1 b - (i + 1)) (i + 1)).1
    rw [show i + 1 + (R.2.1 b - (i + 1)) = R.2.1 b by omega] at q
    exact Nat.le_trans q hbd
  have R2n : ∀ i, (spR so (R.2.2.1 b i) (spB so (R.2.2.1 b) i S0)).2 ≤ (spLn so (R.2.2.1 b i) (spB so (R.2.2.1 b) i S0)).2 := fun i => (spW_k (so := so) (l := (R.2.2.1 b i)) (a := ldV so ((R.2.2.1 b i) 2) (spB so (R.2.2.1 b) i S0).2) (c := spV so (R.2.2.1 b i) (spB so (R.2.2.1 b) i S0)) (spR_1 (SB0 i)) (spR_2 (SB2 i))).2.1
  have R1n : ∀ i, (ldN so ((R.2.2.1 b i) 2) (spB so (R.2.2.1 b) i S0)).2 ≤ (spR so (R.2.2.1 b i) (spB so (R.2.2.1 b) i S0)).2 := fun i => by
    unfold spR
    split
    · exact Nat.le_refl _
    · exact ldN_le
  have lO : ∀ i, i < R.2.1 b → lnO2 (rwB R b i) (R.2.2.1 b i) := fun i hi => qk_l hO hb hi
  intro P_2 F_2 gm_2 el_2 l4_2 x1 x2 x3 x4 x5 x6 x7 x8 x9 x10 x11 x12 x13 x14 x15 x16 x17 x18 k e1 e2 e3 e4 h1 h2 h3 h4 h5 h6 h7 h8 h9 h10 h11 h12 h13 h14 h15 h16 h17 h18 h19 h20 h21 h22 h23 h24 h25 h26 h27 h28 h29 h30 h31 h32 h33 h34 h35 h36 h37 h38 h39 h40 h41 h42 h43 h44 h45 h46 h47 h48 h49 h50 h51 ih
  intro i hi hst
  obtain ⟨a1, a2, a3, a4⟩ := hst
  have c9 : gm_2 0 q1 = 9 := rSk_k h3 (show rKd γ0 q1 9 from hc) (by decide) (by decide)
  have cf' : gm_2 1 q1 = f := rSk_1 h3 (show rKd γ0 q1 9 from hc) (by decide) hcf
  have m10 : gm_2 0 q0 = 10 := rSk_k h3 (show rKd γ0 q0 10 from hm) (by decide) (by decide)
  have n9 : gm_2 9 = γ0 9 := rSk_9 h3
  have g6 : gm_2 6 f = R.1 := (h4).trans hQ6
  have bk := hB2_ (Q := R) h2 c9 cf' g6 b hb
  rw [a2] at bk
  obtain ⟨ll, nn, pp, ss, v1, ⟨g1, g2, g3⟩, v3, v4, v5, -⟩ := show rk_2 gm_2 c1 (F_2 c1) from RS_o h2 bk
  have ex1 : x1 = rwL gm_2 el_2 q1 b := by
    rw [← h15, v1]
    show ll = gm_2 14 (el_2 (gm_2 14 q1) b)
    rw [a2, g1]
  have mlen : gm_2 2 (rwL gm_2 el_2 q1 b) + 1 = (spB so (R.2.2.1 b) i S0).1.2.1 b + (R.2.1 b - i) := by
    have q := (a1.2.1 b hb).1
    rw [mid_len] at q
    exact q
  rw [ex1] at h16
  have hi2 : i < R.2.1 b := by omega
  have e3 : x3 = rAt gm_2 el_2 q1 b ((spB so (R.2.2.1 b) i S0).1.2.1 b) := by
    rw [← h21, v1]
    show nn = _
    rw [show rAt gm_2 el_2 q1 b ((spB so (R.2.2.1 b) i S0).1.2.1 b) = gm_2 15 (el_2 (gm_2 14 q1) b) from if_neg (show ¬ (spB so (R.2.2.1 b) i S0).1.2.1 b < gm_2 2 (rwL gm_2 el_2 q1 b) by omega), a2, g2]
  have hl := a1.2.2 b hb ((spB so (R.2.2.1 b) i S0).1.2.1 b) (by omega)
  rw [← e3] at hl
  unfold lnQ at hl
  rw [rwB_mid hi2, mid_cur] at hl
  obtain ⟨U1, U2, U3⟩ := lnU_X (lO i hi2) hl
  have uA := uA_tr3 h25
  have uB := uB_tr3 h30
  rw [h22, h23] at U2
  rw [h22, h28] at U3
  have q0' : rfX gm_2 el_2 F_2 q1 (pgSt (mid (spB so (R.2.2.1 b) i S0) R b i) b ((spB so (R.2.2.1 b) i S0).1.2.1 b) (mkL ((R.2.2.1 b i) 0) ((R.2.2.1 b i) 1) ((R.2.2.1 b i) 2) ((R.2.2.1 b i) 3) ((R.2.2.1 b i) 4) ((R.2.2.1 b i) 5))) := rfX_cur a1 (fun f' hf => by rw [mid_cur]; exact mk6 hf)
  rw [h27] at U2
  have gAll := h45.resolve_left (Int.not_lt.mpr h48)
  clear h42 h44 h45
  obtain ⟨el2, k0⟩ := ldA6 U2 uA h26
  have m1 : Int32.toInt (-1) = -1 := by decide
  have k4 : (-1 : Int32).toInt = (R.2.2.1 b i) 4 := m1.trans (ldB0 U3 uB h31).symm
  clear U1 U2 U3 uA uB
  have k5 : ¬ (R.2.2.1 b i) 4 = (R.2.2.1 b i) 2 := by omega
  have eg : cB (F_1 (γ0 9 19)) = x10 := by rw [← h9, ← n9]; exact cB_of h33
  have sv := slR_u hsl el2 k0 (by have q := lO i hi2; exact lnO2_le2 q)
  rw [eg, ← h34] at sv
  have e1 : slf so ((R.2.2.1 b i) 2) = x11.toInt := by omega
  have ne1 : ¬ slf so ((R.2.2.1 b i) 2) = -1 := by omega
  have eN : ldN so ((R.2.2.1 b i) 2) (spB so (R.2.2.1 b) i S0) = (pgL (spB so (R.2.2.1 b) i S0).1 (mkL 17 ((spB so (R.2.2.1 b) i S0).2 : Int) (-1) 0 (-1) (slf so ((R.2.2.1 b i) 2))), (spB so (R.2.2.1 b) i S0).2 + 1) := if_neg ne1
  have eV : ldV so ((R.2.2.1 b i) 2) (spB so (R.2.2.1 b) i S0).2 = ((spB so (R.2.2.1 b) i S0).2 : Int) := if_neg ne1
  have nn1 : (spB so (R.2.2.1 b) i S0).2 + 1 ≤ 720 := by
    have q1 := R1n i
    have q2 := R2n i
    have q3 := SBn i hi2
    rw [eN] at q1
    have q1' : (spB so (R.2.2.1 b) i S0).2 + 1 ≤ _ := q1
    omega
  obtain ⟨t1, t2, t3, t4⟩ := lod_r (n := (spB so (R.2.2.1 b) i S0).2) (j := (spB so (R.2.2.1 b) i S0).1.2.1 b) h2 m10 c9 cf' (by exact g6) q0' hb a2 a3 (by
    show (spB so (R.2.2.1 b) i S0).1.2.1 b < (mid (spB so (R.2.2.1 b) i S0) R b i).2.1 b
    rw [mid_len]; omega) a4 (by omega) (by omega) (by omega) h47
  have t5 : rfX x14 x15 x13 q1 (pgSt (mid (ldN so ((R.2.2.1 b i) 2) (spB so (R.2.2.1 b) i S0)) R b i) b ((spB so (R.2.2.1 b) i S0).1.2.1 b + 1) (mkL ((R.2.2.1 b i) 0) ((R.2.2.1 b i) 1) ((R.2.2.1 b i) 2) ((R.2.2.1 b i) 3) ((R.2.2.1 b i) 4) ((R.2.2.1 b i) 5))) := by
    rw [eN, e1]
    exact rfX_A t2 (mid_ins (SBb i) hi2 hb)
  have ln1 : (ldN so ((R.2.2.1 b i) 2) (spB so (R.2.2.1 b) i S0)).1.2.1 b = (spB so (R.2.2.1 b) i S0).1.2.1 b + 1 := by rw [eN]; exact L_len (SBb i)
  have skL := h37
  have d9 : x14 0 q1 = 9 := rSk_k skL (show rKd gm_2 q1 9 from c9) (by decide) (by decide)
  have df : x14 1 q1 = f := rSk_1 skL (show rKd gm_2 q1 9 from c9) (by decide) cf'
  have d6 : x14 6 f = R.1 := (h38).trans g6
  have hTL : RS D I x12 x13 x14 x15 := skL.1
  have rA : rAt x14 x15 q1 b ((spB so (R.2.2.1 b) i S0).1.2.1 b + 1) = x3 := by
    have q := gAll ((spB so (R.2.2.1 b) i S0).1.2.1 b) (by rw [a3]; exact Nat.le_refl _)
    rw [eb] at q
    rw [q]; exact e3.symm
  have mL : (mid (ldN so ((R.2.2.1 b i) 2) (spB so (R.2.2.1 b) i S0)) R b i).2.1 b = (spB so (R.2.2.1 b) i S0).1.2.1 b + 1 + (R.2.1 b - i) := by rw [mid_len, ln1]
  have rB : rwB (mid (ldN so ((R.2.2.1 b i) 2) (spB so (R.2.2.1 b) i S0)) R b i) b ((spB so (R.2.2.1 b) i S0).1.2.1 b + 1) = rwB R b i := by rw [← ln1]; exact rwB_mid hi2
  have hl5 := t5.2.2 b hb ((spB so (R.2.2.1 b) i S0).1.2.1 b + 1) (by
    have q := (t5.2.1 b hb).1
    have q' : x14 2 (rwL x14 x15 q1 b) + 1 = (mid (ldN so ((R.2.2.1 b i) 2) (spB so (R.2.2.1 b) i S0)) R b i).2.1 b := q
    rw [mL] at q'
    omega)
  rw [rA] at hl5
  have hl6 : lnX (rwB R b i) (mkL ((R.2.2.1 b i) 0) ((R.2.2.1 b i) 1) ((R.2.2.1 b i) 2) ((R.2.2.1 b i) 3) ((R.2.2.1 b i) 4) ((R.2.2.1 b i) 5)) (x13 x3) := by
    have q : lnX (rwB (mid (ldN so ((R.2.2.1 b i) 2) (spB so (R.2.2.1 b) i S0)) R b i) b ((spB so (R.2.2.1 b) i S0).1.2.1 b + 1)) ((pgSt (mid (ldN so ((R.2.2.1 b i) 2) (spB so (R.2.2.1 b) i S0)) R b i) b ((spB so (R.2.2.1 b) i S0).1.2.1 b + 1) (mkL ((R.2.2.1 b i) 0) ((R.2.2.1 b i) 1) ((R.2.2.1 b i) 2) ((R.2.2.1 b i) 3) ((R.2.2.1 b i) 4) ((R.2.2.1 b i) 5))).2.2.1 b ((spB so (R.2.2.1 b) i S0).1.2.1 b + 1)) (x13 x3) := hl5
    rw [rB, pgSt_l] at q
    exact q
  have kx : x14 0 x3 = 1 := by rw [← rA]; exact (rAt_k hTL d9 df (by omega)).1
  have sx : rwS (x13 x3) := rwS_1 (RS_o hTL kx)
  have lO' : lnO2 (rwB R b i) (mkL ((R.2.2.1 b i) 0) ((R.2.2.1 b i) 1) ((R.2.2.1 b i) 2) ((R.2.2.1 b i) 3) ((R.2.2.1 b i) 4) ((R.2.2.1 b i) 5)) := lnO2_6 (lO i hi2) (fun f' hf => mk6 hf)
  have p1 := set_A (t := ((spB so (R.2.2.1 b) i S0).2 : Int)) lO' hl6 sx h51 k0 t1 (by omega)
  have eI : (if (R.2.2.1 b i) 4 = (R.2.2.1 b i) 2 then ((spB so (R.2.2.1 b) i S0).2 : Int) else (R.2.2.1 b i) 4) = (R.2.2.1 b i) 4 := if_neg k5
  have pt := rfX_put (F1 := x18) (b := b) (j := (spB so (R.2.2.1 b) i S0).1.2.1 b + 1) (l := mkL ((R.2.2.1 b i) 0) ((R.2.2.1 b i) 1) ((spB so (R.2.2.1 b) i S0).2 : Int) ((R.2.2.1 b i) 3) ((R.2.2.1 b i) 4) ((R.2.2.1 b i) 5)) hTL d9 df (by exact d6) t5 (hB2_ (Q := R) hTL d9 df d6) hb (by
    show (spB so (R.2.2.1 b) i S0).1.2.1 b + 1 < (mid (ldN so ((R.2.2.1 b i) 2) (spB so (R.2.2.1 b) i S0)) R b i).2.1 b
    rw [mL]; omega) (by rw [rA]; exact fun a ha => h50 a ha) (by rw [pgSt_l]; rfl) (by
    rw [rA]
    show lnX (rwB (mid (ldN so ((R.2.2.1 b i) 2) (spB so (R.2.2.1 b) i S0)) R b i) b ((spB so (R.2.2.1 b) i S0).1.2.1 b + 1)) _ _
    rw [rB]
    exact p1)
  rw [pgSt_2] at pt
  have mq : x18 q0 = x13 q0 := (show ∀ a, a ≠ x3 → x18 a = x13 a from fun a ha => h50 a ha) q0 (fun e => by
    have q := rSk_k skL (show rKd gm_2 q0 10 from m10) (by decide) (by decide)
    have q' : x14 0 q0 = 10 := q
    rw [e, kx] at q'; cases q')
  refine ih i hi2 ?_
  rw [ln1, eV, eI]
  refine ⟨pt, t4, by omega, ?_, by omega, by omega⟩
  rw [mq, t3, eN]
end STR
