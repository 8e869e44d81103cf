section
section STR
variable {D : va_G} {I : FieldType → ClassId} {P : List Nat} {F : Nat → va_E} {γ0 el0 : Nat → Nat → Nat} {f b nm : Nat} {R : gPg} {so : Nat → Int} {S0 : gSp6}
set_option maxHeartbeats 4000000 in
theorem sp90_c28 {q0 : Nat} {F_1 : Nat → va_E} {q1 : Nat} {l2_1 : Int32} {c1 : Nat} (hm : γ0 0 q0 = 10) (hc : γ0 0 q1 = 9) (hcf : γ0 1 q1 = f) (hQ6 : γ0 6 f = R.1) (hO : qOk R) (hb : b < R.1) (hl2 : l2_1.toInt = (b : Int)) (hsl : slR (cB (F_1 (γ0 9 19))) so) (hS0 : S0.1.1 = b + 1) (h100 : 100 ≤ S0.2) (hbd : (spB so (R.2.2.1 b) (R.2.1 b) S0).2 ≤ 720) (hld : ∀ i, i < R.2.1 b → R.2.2.1 b i 0 = 17 → slf so (R.2.2.1 b i 1) = -1) : ∀ (P_2 : List Nat) (F_2 : Nat → va_E) (gm_2 : Nat → Nat → Nat) (el_2 : Nat → Nat → Nat) (l4_2 : Int32) (x1 : Nat) (x2 : Int32) (x3 : Nat) (x4 : Int32) (x5 : Int32) (x6 : Int32) (x7 : Int32) (x8 : Int32) (x9 : Int32) (x10 : Int32) (x11 : Nat → Int32) (x12 : Int32) (x13 : List Nat) (x14 : Nat → va_E) (x15 : Nat → Nat → Nat) (x16 : Nat → Nat → Nat) (x17 : Int32) (x18 : Int32) (x19 : Nat → va_E) (x20 : Nat → va_E) (k : Nat) (e1 : Nat → va_E) (e2 : List Nat) (e3 : Nat → Nat → Nat) (e4 : Nat → Nat → Nat), gB l4_2 0 1000003 → RS D I P_2 F_2 gm_2 el_2 → rSk f [101] ([1, 3, 5, 6, 8, 9, 101] ++ npk) D I P F γ0 el0 P_2 F_2 gm_2 el_2 → gm_2 6 f = γ0 6 f → gm_2 18 f = γ0 18 f → ((gm_2 7 f : Nat) : Int) = (fI (F_2 q0) 11).toInt → (fI (F_2 q0) 11).toInt = (fI (F_1 q0) 11).toInt → 100 ≤ (fI (F_2 q0) 14).toInt → (F_2 (γ0 9 19) = F_1 (γ0 9 19)) → rPl gm_2 el_2 F_2 q1 (gm_2 6 f) (spQ (cB (F (γ0 9 3))) (cB (F_1 (γ0 9 19))) (l2_1.toInt : Int).toNat (l4_2.toInt : Int).toNat) → (l4_2.toInt : Int) ≤ gm_2 2 (gm_2 14 c1) + 1 → (l2_1.toInt : Int) < gm_2 6 f → (F_2 (γ0 9 3) = F (γ0 9 3)) → mKp (F q0) (F_2 q0) → fR (F_2 c1) 0 = x1 → x2.toInt = (gm_2 2 x1 : Int) → fI (F_2 x1) 2 = x2 → l4_2.toInt ≤ x2.toInt → x2.toInt = (gm_2 2 x1 : Int) → l4_2.toInt < x2.toInt → x3 = el_2 x1 l4_2.toInt.toNat → tr_RArrayList_get l4_2 x2 → fI (F_2 x3) 0 = x4 → fI (F_2 x3) 5 = x5 → gB x6 0 1 → tr_RRow_usesA3 x4 x5 x6 → x6.toInt ≠ 0 → fI (F_2 x3) 2 = x7 → fI (F_2 x3) 6 = x8 → gB x9 0 1 → tr_RRow_usesB3 x4 x8 x9 → x9.toInt ≠ 0 → fI (F_2 x3) 3 = x10 → fR (F_2 q0) 19 = (gm_2 9 19) → F_2 (gm_2 9 19) = .inl (I .int, 2000, .inl x11) → x12 = x11 x7.toNatClampNeg → gB x12 (-1) 1999 → 0 ≤ x12.toInt → rSk f [101] ([3, 5, 6, 8, 9, 10, 101]) D I P_2 F_2 gm_2 el_2 x13 x14 x15 x16 → x15 6 f = gm_2 6 f → x15 7 f = gm_2 7 f → x15 18 f = gm_2 18 f → ((x15 14 c1 = gm_2 14 c1 ∧ l2_1.toInt.toNat < x15 2 (x15 14 q1) ∧ x16 (x15 14 q1) l2_1.toInt.toNat = c1)) → ((x17.toInt < 0 ∨ (x17.toInt = (fI (F_2 q0) 14).toInt ∧ x17.toInt < 2000 ∧ (fI (x14 q0) 14).toInt = x17.toInt + 1 ∧ x15 16 f = gm_2 16 f + 1 ∧ x15 2 (x15 14 c1) = gm_2 2 (gm_2 14 c1) + 1))) → (fI (x14 q0) 11).toInt = (fI (F_2 q0) 11).toInt → ((x17.toInt < 0 ∨ rInsP gm_2 el_2 F_2 x15 x16 x14 q1 f l2_1.toInt.toNat (l4_2.toInt : Int).toNat (x17.toInt : Int).toNat)) → ((x17.toInt < 0 ∨ ∀ j : Nat, (l4_2.toInt : Int).toNat ≤ j → rAt x15 x16 q1 l2_1.toInt.toNat (j + 1) = rAt gm_2 el_2 q1 l2_1.toInt.toNat j)) → mKp (F_2 q0) (x14 q0) → tr_RModel_load D I gm_2 el_2 f P_2 F_2 q0 q1 c1 l4_2 x12 x17 x13 x14 x15 x16 → 0 ≤ x17.toInt → x18.toInt = l4_2.toInt + 1 → (∀ b, b ≠ x3 → x19 b = x14 b) → x19 x3 = cF (x14 x3) 2 (.int x17) → x10.toInt = x7.toInt → (∀ b, b ≠ x3 → x20 b = x19 b) → x20 x3 = cF (x19 x3) 3 (.int x17) → sp90_J2 q0 q1 c1 R b so S0 x13 x20 x15 x16 x18 x3 x7 x10 k e1 e2 e3 e4 → sp90_M q0 q1 c1 R b so S0 P_2 F_2 gm_2 el_2 l4_2 k e1 e2 e3 e4 := by
  have eb : l2_1.toInt.toNat = b := by rw [hl2]; rfl
  have SBb : ∀ i, (spB so (R.2.2.1 b) i S0).1.1 = b + 1 := fun i => ((spB_k (so := so) (ls := R.2.2.1 b) (s := S0) (by omega) h100 i).1.1).trans hS0
  have SB0 : ∀ i, 0 < (spB so (R.2.2.1 b) i S0).1.1 := fun i => by rw [SBb i]; omega
  have SB2 : ∀ i, 100 ≤ (spB so (R.2.2.1 b) i S0).2 := fun i => (spB_k (so := so) (ls := R.2.2.1 b) (s := S0) (by omega) h100 i).2.2
  have SBn : ∀ i, i < R.2.1 b → (spLn so (R.2.2.1 b i) (spB so (R.2.2.1 b) i S0)).2 ≤ 720 := fun i hi => by
    have q := (spB_m (so := so) (ls := R.2.2.1 b) (s := S0) (by omega) h100 (R.2.1 b - (i + 1)) (i + 1)).1
    rw [show i + 1 + (R.2.1 b - (i + 1)) = R.2.1 b by omega] at q
    exact Nat.le_trans q hbd
  have R2n : ∀ i, (spR so (R.2.2.1 b i) (spB so (R.2.2.1 b) i S0)).2 ≤ (spLn so (R.2.2.1 b i) (spB so (R.2.2.1 b) i S0)).2 := fun i => (spW_k (so := so) (l := (R.2.2.1 b i)) (a := ldV so ((R.2.2.1 b i) 2) (spB so (R.2.2.1 b) i S0).2) (c := spV so (R.2.2.1 b i) (spB so (R.2.2.1 b) i S0)) (spR_1 (SB0 i)) (spR_2 (SB2 i))).2.1
  have R1n : ∀ i, (ldN so ((R.2.2.1 b i) 2) (spB so (R.2.2.1 b) i S0)).2 ≤ (spR so (R.2.2.1 b i) (spB so (R.2.2.1 b) i S0)).2 := fun i => by
    unfold spR
    split
    · exact Nat.le_refl _
    · exact ldN_le
  have lO : ∀ i, i < R.2.1 b → lnO2 (rwB R b i) (R.2.2.1 b i) := fun i hi => qk_l hO hb hi
  intro P_2 F_2 gm_2 el_2 l4_2 x1 x2 x3 x4 x5 x6 x7 x8 x9 x10 x11 x12 x13 x14 x15 x16 x17 x18 x19 x20 k e1 e2 e3 e4 h1 h2 h3 h4 h5 h6 h7 h8 h9 h10 h11 h12 h13 h14 h15 h16 h17 h18 h19 h20 h21 h22 h23 h24 h25 h26 h27 h28 h29 h30 h31 h32 h33 h34 h35 h36 h37 h38 h39 h40 h41 h42 h43 h44 h45 h46 h47 h48 h49 h50 h51 h52 h53 h54 h55 h56 ih
  intro i hi hst
  obtain ⟨a1, a2, a3, a4⟩ := hst
  have c9 : gm_2 0 q1 = 9 := rSk_k h3 (show rKd γ0 q1 9 from hc) (by decide) (by decide)
  have cf' : gm_2 1 q1 = f := rSk_1 h3 (show rKd γ0 q1 9 from hc) (by decide) hcf
  have m10 : gm_2 0 q0 = 10 := rSk_k h3 (show rKd γ0 q0 10 from hm) (by decide) (by decide)
  have n9 : gm_2 9 = γ0 9 := rSk_9 h3
  have g6 : gm_2 6 f = R.1 := (h4).trans hQ6
  have bk := hB2_ (Q := R) h2 c9 cf' g6 b hb
  rw [a2] at bk
  obtain ⟨ll, nn, pp, ss, v1, ⟨g1, g2, g3⟩, v3, v4, v5, -⟩ := show rk_2 gm_2 c1 (F_2 c1) from RS_o h2 bk
  have ex1 : x1 = rwL gm_2 el_2 q1 b := by
    rw [← h15, v1]
    show ll = gm_2 14 (el_2 (gm_2 14 q1) b)
    rw [a2, g1]
  have mlen : gm_2 2 (rwL gm_2 el_2 q1 b) + 1 = (spB so (R.2.2.1 b) i S0).1.2.1 b + (R.2.1 b - i) := by
    have q := (a1.2.1 b hb).1
    rw [mid_len] at q
    exact q
  rw [ex1] at h16
  have hi2 : i < R.2.1 b := by omega
  have e3 : x3 = rAt gm_2 el_2 q1 b ((spB so (R.2.2.1 b) i S0).1.2.1 b) := by
    rw [h21, ex1, show l4_2.toInt.toNat = (spB so (R.2.2.1 b) i S0).1.2.1 b by rw [a3]; rfl]
    exact (if_pos (show (spB so (R.2.2.1 b) i S0).1.2.1 b < gm_2 2 (rwL gm_2 el_2 q1 b) by omega)).symm
  have hl := a1.2.2 b hb ((spB so (R.2.2.1 b) i S0).1.2.1 b) (by omega)
  rw [← e3] at hl
  unfold lnQ at hl
  rw [rwB_mid hi2, mid_cur] at hl
  obtain ⟨U1, U2, U3⟩ := lnU_X (lO i hi2) hl
  have uA := uA_tr3 h26
  have uB := uB_tr3 h31
  rw [h23, h24] at U2
  rw [h23, h29] at U3
  have q0' : rfX gm_2 el_2 F_2 q1 (pgSt (mid (spB so (R.2.2.1 b) i S0) R b i) b ((spB so (R.2.2.1 b) i S0).1.2.1 b) (mkL ((R.2.2.1 b i) 0) ((R.2.2.1 b i) 1) ((R.2.2.1 b i) 2) ((R.2.2.1 b i) 3) ((R.2.2.1 b i) 4) ((R.2.2.1 b i) 5))) := rfX_cur a1 (fun f' hf => by rw [mid_cur]; exact mk6 hf)
  rw [h28] at U2
  rw [h33] at U3
  have gAll := h47.resolve_left (Int.not_lt.mpr h50)
  clear h44 h46 h47
  obtain ⟨el2, k0⟩ := ldA6 U2 uA h27
  have m1 : Int32.toInt (-1) = -1 := by decide
  have k4 : x10.toInt = (R.2.2.1 b i) 4 := (ldB6 U3 uB h32).1
  clear U1 U2 U3 uA uB
  have k5 : (R.2.2.1 b i) 4 = (R.2.2.1 b i) 2 := by omega
  have eg : cB (F_1 (γ0 9 19)) = x11 := by rw [← h9, ← n9]; exact cB_of h35
  have sv := slR_u hsl el2 k0 (by have q := lO i hi2; exact lnO2_le2 q)
  rw [eg, ← h36] at sv
  have e1 : slf so ((R.2.2.1 b i) 2) = x12.toInt := by omega
  have ne1 : ¬ slf so ((R.2.2.1 b i) 2) = -1 := by omega
  have eN : ldN so ((R.2.2.1 b i) 2) (spB so (R.2.2.1 b) i S0) = (pgL (spB so (R.2.2.1 b) i S0).1 (mkL 17 ((spB so (R.2.2.1 b) i S0).2 : Int) (-1) 0 (-1) (slf so ((R.2.2.1 b i) 2))), (spB so (R.2.2.1 b) i S0).2 + 1) := if_neg ne1
  have eV : ldV so ((R.2.2.1 b i) 2) (spB so (R.2.2.1 b) i S0).2 = ((spB so (R.2.2.1 b) i S0).2 : Int) := if_neg ne1
  have nn1 : (spB so (R.2.2.1 b) i S0).2 + 1 ≤ 720 := by
    have q1 := R1n i
    have q2 := R2n i
    have q3 := SBn i hi2
    rw [eN] at q1
    have q1' : (spB so (R.2.2.1 b) i S0).2 + 1 ≤ _ := q1
    omega
  obtain ⟨t1, t2, t3, t4⟩ := lod_r (n := (spB so (R.2.2.1 b) i S0).2) (j := (spB so (R.2.2.1 b) i S0).1.2.1 b) h2 m10 c9 cf' (by exact g6) q0' hb a2 a3 (by
    show (spB so (R.2.2.1 b) i S0).1.2.1 b < (mid (spB so (R.2.2.1 b) i S0) R b i).2.1 b
    rw [mid_len]; omega) a4 (by omega) (by omega) (by omega) h49
  have t5 : rfX x15 x16 x14 q1 (pgSt (mid (ldN so ((R.2.2.1 b i) 2) (spB so (R.2.2.1 b) i S0)) R b i) b ((spB so (R.2.2.1 b) i S0).1.2.1 b + 1) (mkL ((R.2.2.1 b i) 0) ((R.2.2.1 b i) 1) ((R.2.2.1 b i) 2) ((R.2.2.1 b i) 3) ((R.2.2.1 b i) 4) ((R.2.2.1 b i) 5))) := by
    rw [eN, e1]
    exact rfX_A t2 (mid_ins (SBb i) hi2 hb)
  have ln1 : (ldN so ((R.2.2.1 b i) 2) (spB so (R.2.2.1 b) i S0)).1.2.1 b = (spB so (R.2.2.1 b) i S0).1.2.1 b + 1 := by rw [eN]; exact L_len (SBb i)
  have skL := h39
  have d9 : x15 0 q1 = 9 := rSk_k skL (show rKd gm_2 q1 9 from c9) (by decide) (by decide)
  have df : x15 1 q1 = f := rSk_1 skL (show rKd gm_2 q1 9 from c9) (by decide) cf'
  have d6 : x15 6 f = R.1 := (h40).trans g6
  have hTL : RS D I x13 x14 x15 x16 := skL.1
  have rA : rAt x15 x16 q1 b ((spB so (R.2.2.1 b) i S0).1.2.1 b + 1) = x3 := by
    have q := gAll ((spB so (R.2.2.1 b) i S0).1.2.1 b) (by rw [a3]; exact Nat.le_refl _)
    rw [eb] at q
    rw [q]; exact e3.symm
  have mL : (mid (ldN so ((R.2.2.1 b i) 2) (spB so (R.2.2.1 b) i S0)) R b i).2.1 b = (spB so (R.2.2.1 b) i S0).1.2.1 b + 1 + (R.2.1 b - i) := by rw [mid_len, ln1]
  have rB : rwB (mid (ldN so ((R.2.2.1 b i) 2) (spB so (R.2.2.1 b) i S0)) R b i) b ((spB so (R.2.2.1 b) i S0).1.2.1 b + 1) = rwB R b i := by rw [← ln1]; exact rwB_mid hi2
  have hl5 := t5.2.2 b hb ((spB so (R.2.2.1 b) i S0).1.2.1 b + 1) (by
    have q := (t5.2.1 b hb).1
    have q' : x15 2 (rwL x15 x16 q1 b) + 1 = (mid (ldN so ((R.2.2.1 b i) 2) (spB so (R.2.2.1 b) i S0)) R b i).2.1 b := q
    rw [mL] at q'
    omega)
  rw [rA] at hl5
  have hl6 : lnX (rwB R b i) (mkL ((R.2.2.1 b i) 0) ((R.2.2.1 b i) 1) ((R.2.2.1 b i) 2) ((R.2.2.1 b i) 3) ((R.2.2.1 b i) 4) ((R.2.2.1 b i) 5)) (x14 x3) := by
    have q : lnX (rwB (mid (ldN so ((R.2.2.1 b i) 2) (spB so (R.2.2.1 b) i S0)) R b i) b ((spB so (R.2.2.1 b) i S0).1.2.1 b + 1)) ((pgSt (mid (ldN so ((R.2.2.1 b i) 2) (spB so (R.2.2.1 b) i S0)) R b i) b ((spB so (R.2.2.1 b) i S0).1.2.1 b + 1) (mkL ((R.2.2.1 b i) 0) ((R.2.2.1 b i) 1) ((R.2.2.1 b i) 2) ((R.2.2.1 b i) 3) ((R.2.2.1 b i) 4) ((R.2.2.1 b i) 5))).2.2.1 b ((spB so (R.2.2.1 b) i S0).1.2.1 b + 1)) (x14 x3) := hl5
    rw [rB, pgSt_l] at q
    exact q
  have kx : x15 0 x3 = 1 := by rw [← rA]; exact (rAt_k hTL d9 df (by omega)).1
  have sx : rwS (x14 x3) := rwS_1 (RS_o hTL kx)
  have lO' : lnO2 (rwB R b i) (mkL ((R.2.2.1 b i) 0) ((R.2.2.1 b i) 1) ((R.2.2.1 b i) 2) ((R.2.2.1 b i) 3) ((R.2.2.1 b i) 4) ((R.2.2.1 b i) 5)) := lnO2_6 (lO i hi2) (fun f' hf => mk6 hf)
  have p1 := set_A (t := ((spB so (R.2.2.1 b) i S0).2 : Int)) lO' hl6 sx h53 k0 t1 (by omega)
  have sx2 := (cw_2 sx h53).1
  have lO2' : lnO2 (rwB R b i) (mkL ((R.2.2.1 b i) 0) ((R.2.2.1 b i) 1) ((spB so (R.2.2.1 b) i S0).2 : Int) ((R.2.2.1 b i) 3) ((R.2.2.1 b i) 4) ((R.2.2.1 b i) 5)) := lnO2_A (l := mkL ((R.2.2.1 b i) 0) ((R.2.2.1 b i) 1) ((R.2.2.1 b i) 2) ((R.2.2.1 b i) 3) ((R.2.2.1 b i) 4) ((R.2.2.1 b i) 5)) lO' k0 (by omega) (by omega)
  have p2 := set_B (t := ((spB so (R.2.2.1 b) i S0).2 : Int)) lO2' p1 sx2 h56 (by show 0 ≤ (R.2.2.1 b i) 4; rw [k5]; exact k0) t1 (by omega)
  have eI : (if (R.2.2.1 b i) 4 = (R.2.2.1 b i) 2 then ((spB so (R.2.2.1 b) i S0).2 : Int) else (R.2.2.1 b i) 4) = ((spB so (R.2.2.1 b) i S0).2 : Int) := if_pos k5
  have pt := rfX_put (F1 := x20) (b := b) (j := (spB so (R.2.2.1 b) i S0).1.2.1 b + 1) (l := mkL ((R.2.2.1 b i) 0) ((R.2.2.1 b i) 1) ((spB so (R.2.2.1 b) i S0).2 : Int) ((R.2.2.1 b i) 3) ((spB so (R.2.2.1 b) i S0).2 : Int) ((R.2.2.1 b i) 5)) hTL d9 df (by exact d6) t5 (hB2_ (Q := R) hTL d9 df d6) hb (by
    show (spB so (R.2.2.1 b) i S0).1.2.1 b + 1 < (mid (ldN so ((R.2.2.1 b i) 2) (spB so (R.2.2.1 b) i S0)) R b i).2.1 b
    rw [mL]; omega) (by rw [rA]; exact fun a ha => by rw [h55 a ha, h52 a ha]) (by rw [pgSt_l]; rfl) (by
    rw [rA]
    show lnX (rwB (mid (ldN so ((R.2.2.1 b i) 2) (spB so (R.2.2.1 b) i S0)) R b i) b ((spB so (R.2.2.1 b) i S0).1.2.1 b + 1)) _ _
    rw [rB]
    exact p2)
  rw [pgSt_2] at pt
  have mq : x20 q0 = x14 q0 := (show ∀ a, a ≠ x3 → x20 a = x14 a from fun a ha => by rw [h55 a ha, h52 a ha]) q0 (fun e => by
    have q := rSk_k skL (show rKd gm_2 q0 10 from m10) (by decide) (by decide)
    have q' : x15 0 q0 = 10 := q
    rw [e, kx] at q'; cases q')
  refine ih i hi2 ?_
  rw [ln1, eV, eI]
  refine ⟨pt, t4, by omega, ?_, by omega, by omega⟩
  rw [mq, t3, eN]
end STR
end
section
section STR
variable {D : va_G} {I : FieldType → ClassId} {P : List Nat} {F : Nat → va_E} {γ0 el0 : Nat → Nat → Nat} {f b nm : Nat} {R : gPg} {so : Nat → Int} {S0 : gSp6}
set_option maxHeartbeats 4000000 in
theorem sp90_c29 {q0 : Nat} {F_1 : Nat → va_E} {q1 : Nat} {l2_1 : Int32} {c1 : Nat} (hm : γ0 0 q0 = 10) (hc : γ0 0 q1 = 9) (hcf : γ0 1 q1 = f) (hQ6 : γ0 6 f = R.1) (hO : qOk R) (hb : b < R.1) (hl2 : l2_1.toInt = (b : Int)) (hsl : slR (cB (F_1 (γ0 9 19))) so) (hS0 : S0.1.1 = b + 1) (h100 : 100 ≤ S0.2) (hbd : (spB so (R.2.2.1 b) (R.2.1 b) S0).2 ≤ 720) (hld : ∀ i, i < R.2.1 b → R.2.2.1 b i 0 = 17 → slf so (R.2.2.1 b i 1) = -1) : ∀ (P_2 : List Nat) (F_2 : Nat → va_E) (gm_2 : Nat → Nat → Nat) (el_2 : Nat → Nat → Nat) (l4_2 : Int32) (x1 : Nat) (x2 : Int32) (x3 : Nat) (x4 : Int32) (x5 : Int32) (x6 : Int32) (x7 : Int32) (x8 : Int32) (x9 : Int32) (x10 : Nat → Int32) (x11 : Int32) (x12 : List Nat) (x13 : Nat → va_E) (x14 : Nat → Nat → Nat) (x15 : Nat → Nat → Nat) (x16 : Int32), gB l4_2 0 1000003 → RS D I P_2 F_2 gm_2 el_2 → rSk f [101] ([1, 3, 5, 6, 8, 9, 101] ++ npk) D I P F γ0 el0 P_2 F_2 gm_2 el_2 → gm_2 6 f = γ0 6 f → gm_2 18 f = γ0 18 f → ((gm_2 7 f : Nat) : Int) = (fI (F_2 q0) 11).toInt → (fI (F_2 q0) 11).toInt = (fI (F_1 q0) 11).toInt → 100 ≤ (fI (F_2 q0) 14).toInt → (F_2 (γ0 9 19) = F_1 (γ0 9 19)) → rPl gm_2 el_2 F_2 q1 (gm_2 6 f) (spQ (cB (F (γ0 9 3))) (cB (F_1 (γ0 9 19))) (l2_1.toInt : Int).toNat (l4_2.toInt : Int).toNat) → (l4_2.toInt : Int) ≤ gm_2 2 (gm_2 14 c1) + 1 → (l2_1.toInt : Int) < gm_2 6 f → (F_2 (γ0 9 3) = F (γ0 9 3)) → mKp (F q0) (F_2 q0) → fR (F_2 c1) 0 = x1 → x2.toInt = (gm_2 2 x1 : Int) → fI (F_2 x1) 2 = x2 → l4_2.toInt ≤ x2.toInt → x2.toInt = (gm_2 2 x1 : Int) → l4_2.toInt < x2.toInt → x3 = el_2 x1 l4_2.toInt.toNat → tr_RArrayList_get l4_2 x2 → fI (F_2 x3) 0 = x4 → fI (F_2 x3) 5 = x5 → gB x6 0 1 → tr_RRow_usesA3 x4 x5 x6 → x6.toInt ≠ 0 → fI (F_2 x3) 2 = x7 → fI (F_2 x3) 6 = x8 → gB x9 0 1 → tr_RRow_usesB3 x4 x8 x9 → x9.toInt ≠ 0 → fR (F_2 q0) 19 = (gm_2 9 19) → F_2 (gm_2 9 19) = .inl (I .int, 2000, .inl x10) → x11 = x10 x7.toNatClampNeg → gB x11 (-1) 1999 → 0 ≤ x11.toInt → rSk f [101] ([3, 5, 6, 8, 9, 10, 101]) D I P_2 F_2 gm_2 el_2 x12 x13 x14 x15 → x14 6 f = gm_2 6 f → x14 7 f = gm_2 7 f → x14 18 f = gm_2 18 f → ((x14 14 c1 = gm_2 14 c1 ∧ l2_1.toInt.toNat < x14 2 (x14 14 q1) ∧ x15 (x14 14 q1) l2_1.toInt.toNat = c1)) → ((x16.toInt < 0 ∨ (x16.toInt = (fI (F_2 q0) 14).toInt ∧ x16.toInt < 2000 ∧ (fI (x13 q0) 14).toInt = x16.toInt + 1 ∧ x14 16 f = gm_2 16 f + 1 ∧ x14 2 (x14 14 c1) = gm_2 2 (gm_2 14 c1) + 1))) → (fI (x13 q0) 11).toInt = (fI (F_2 q0) 11).toInt → ((x16.toInt < 0 ∨ rInsP gm_2 el_2 F_2 x14 x15 x13 q1 f l2_1.toInt.toNat (l4_2.toInt : Int).toNat (x16.toInt : Int).toNat)) → ((x16.toInt < 0 ∨ ∀ j : Nat, (l4_2.toInt : Int).toNat ≤ j → rAt x14 x15 q1 l2_1.toInt.toNat (j + 1) = rAt gm_2 el_2 q1 l2_1.toInt.toNat j)) → mKp (F_2 q0) (x13 q0) → tr_RModel_load D I gm_2 el_2 f P_2 F_2 q0 q1 c1 l4_2 x11 x16 x12 x13 x14 x15 → x16.toInt < 0 → sp90_M q0 q1 c1 R b so S0 P_2 F_2 gm_2 el_2 l4_2 210 x13 x12 x14 x15 := by
  have eb : l2_1.toInt.toNat = b := by rw [hl2]; rfl
  have SBb : ∀ i, (spB so (R.2.2.1 b) i S0).1.1 = b + 1 := fun i => ((spB_k (so := so) (ls := R.2.2.1 b) (s := S0) (by omega) h100 i).1.1).trans hS0
  have SB0 : ∀ i, 0 < (spB so (R.2.2.1 b) i S0).1.1 := fun i => by rw [SBb i]; omega
  have SB2 : ∀ i, 100 ≤ (spB so (R.2.2.1 b) i S0).2 := fun i => (spB_k (so := so) (ls := R.2.2.1 b) (s := S0) (by omega) h100 i).2.2
  have SBn : ∀ i, i < R.2.1 b → (spLn so (R.2.2.1 b i) (spB so (R.2.2.1 b) i S0)).2 ≤ 720 := fun i hi => by
    have q := (spB_m (so := so) (ls := R.2.2.1 b) (s := S0) (by omega) h100 (R.2.1 b - (i + 1)) (i + 1)).1
    rw [show i + 1 + (R.2.1 b - (i + 1)) = R.2.1 b by omega] at q
    exact Nat.le_trans q hbd
  have R2n : ∀ i, (spR so (R.2.2.1 b i) (spB so (R.2.2.1 b) i S0)).2 ≤ (spLn so (R.2.2.1 b i) (spB so (R.2.2.1 b) i S0)).2 := fun i => (spW_k (so := so) (l := (R.2.2.1 b i)) (a := ldV so ((R.2.2.1 b i) 2) (spB so (R.2.2.1 b) i S0).2) (c := spV so (R.2.2.1 b i) (spB so (R.2.2.1 b) i S0)) (spR_1 (SB0 i)) (spR_2 (SB2 i))).2.1
  have R1n : ∀ i, (ldN so ((R.2.2.1 b i) 2) (spB so (R.2.2.1 b) i S0)).2 ≤ (spR so (R.2.2.1 b i) (spB so (R.2.2.1 b) i S0)).2 := fun i => by
    unfold spR
    split
    · exact Nat.le_refl _
    · exact ldN_le
  have lO : ∀ i, i < R.2.1 b → lnO2 (rwB R b i) (R.2.2.1 b i) := fun i hi => qk_l hO hb hi
  intro P_2 F_2 gm_2 el_2 l4_2 x1 x2 x3 x4 x5 x6 x7 x8 x9 x10 x11 x12 x13 x14 x15 x16 h1 h2 h3 h4 h5 h6 h7 h8 h9 h10 h11 h12 h13 h14 h15 h16 h17 h18 h19 h20 h21 h22 h23 h24 h25 h26 h27 h28 h29 h30 h31 h32 h33 h34 h35 h36 h37 h38 h39 h40 h41 h42 h43 h44 h45 h46 h47 h48 h49
  intro i hi hst
  obtain ⟨a1, a2, a3, a4⟩ := hst
  have c9 : gm_2 0 q1 = 9 := rSk_k h3 (show rKd γ0 q1 9 from hc) (by decide) (by decide)
  have cf' : gm_2 1 q1 = f := rSk_1 h3 (show rKd γ0 q1 9 from hc) (by decide) hcf
  have m10 : gm_2 0 q0 = 10 := rSk_k h3 (show rKd γ0 q0 10 from hm) (by decide) (by decide)
  have n9 : gm_2 9 = γ0 9 := rSk_9 h3
  have g6 : gm_2 6 f = R.1 := (h4).trans hQ6
  have bk := hB2_ (Q := R) h2 c9 cf' g6 b hb
  rw [a2] at bk
  obtain ⟨ll, nn, pp, ss, v1, ⟨g1, g2, g3⟩, v3, v4, v5, -⟩ := show rk_2 gm_2 c1 (F_2 c1) from RS_o h2 bk
  have ex1 : x1 = rwL gm_2 el_2 q1 b := by
    rw [← h15, v1]
    show ll = gm_2 14 (el_2 (gm_2 14 q1) b)
    rw [a2, g1]
  have mlen : gm_2 2 (rwL gm_2 el_2 q1 b) + 1 = (spB so (R.2.2.1 b) i S0).1.2.1 b + (R.2.1 b - i) := by
    have q := (a1.2.1 b hb).1
    rw [mid_len] at q
    exact q
  rw [ex1] at h16
  have hi2 : i < R.2.1 b := by omega
  have e3 : x3 = rAt gm_2 el_2 q1 b ((spB so (R.2.2.1 b) i S0).1.2.1 b) := by
    rw [h21, ex1, show l4_2.toInt.toNat = (spB so (R.2.2.1 b) i S0).1.2.1 b by rw [a3]; rfl]
    exact (if_pos (show (spB so (R.2.2.1 b) i S0).1.2.1 b < gm_2 2 (rwL gm_2 el_2 q1 b) by omega)).symm
  have hl := a1.2.2 b hb ((spB so (R.2.2.1 b) i S0).1.2.1 b) (by omega)
  rw [← e3] at hl
  unfold lnQ at hl
  rw [rwB_mid hi2, mid_cur] at hl
  obtain ⟨U1, U2, U3⟩ := lnU_X (lO i hi2) hl
  have uA := uA_tr3 h26
  have uB := uB_tr3 h31
  rw [h23, h24] at U2
  rw [h23, h29] at U3
  have q0' : rfX gm_2 el_2 F_2 q1 (pgSt (mid (spB so (R.2.2.1 b) i S0) R b i) b ((spB so (R.2.2.1 b) i S0).1.2.1 b) (mkL ((R.2.2.1 b i) 0) ((R.2.2.1 b i) 1) ((R.2.2.1 b i) 2) ((R.2.2.1 b i) 3) ((R.2.2.1 b i) 4) ((R.2.2.1 b i) 5))) := rfX_cur a1 (fun f' hf => by rw [mid_cur]; exact mk6 hf)
  rw [h28] at U2
  clear h43 h45 h46
  obtain ⟨el2, k0⟩ := ldA6 U2 uA h27
  clear U1 U2 U3 uA uB
  have eg : cB (F_1 (γ0 9 19)) = x10 := by rw [← h9, ← n9]; exact cB_of h34
  have sv := slR_u hsl el2 k0 (by have q := lO i hi2; exact lnO2_le2 q)
  rw [eg, ← h35] at sv
  have e1 : slf so ((R.2.2.1 b i) 2) = x11.toInt := by omega
  have ne1 : ¬ slf so ((R.2.2.1 b i) 2) = -1 := by omega
  have eN : ldN so ((R.2.2.1 b i) 2) (spB so (R.2.2.1 b) i S0) = (pgL (spB so (R.2.2.1 b) i S0).1 (mkL 17 ((spB so (R.2.2.1 b) i S0).2 : Int) (-1) 0 (-1) (slf so ((R.2.2.1 b i) 2))), (spB so (R.2.2.1 b) i S0).2 + 1) := if_neg ne1
  have eV : ldV so ((R.2.2.1 b i) 2) (spB so (R.2.2.1 b) i S0).2 = ((spB so (R.2.2.1 b) i S0).2 : Int) := if_neg ne1
  have nn1 : (spB so (R.2.2.1 b) i S0).2 + 1 ≤ 720 := by
    have q1 := R1n i
    have q2 := R2n i
    have q3 := SBn i hi2
    rw [eN] at q1
    have q1' : (spB so (R.2.2.1 b) i S0).2 + 1 ≤ _ := q1
    omega
  obtain ⟨t1, t2, t3, t4⟩ := lod_r (n := (spB so (R.2.2.1 b) i S0).2) (j := (spB so (R.2.2.1 b) i S0).1.2.1 b) h2 m10 c9 cf' (by exact g6) q0' hb a2 a3 (by
    show (spB so (R.2.2.1 b) i S0).1.2.1 b < (mid (spB so (R.2.2.1 b) i S0) R b i).2.1 b
    rw [mid_len]; omega) a4 (by omega) (by omega) (by omega) h48
  omega
theorem sp90_r {q0 : Nat} {F_1 : Nat → va_E} {q1 : Nat} {l2_1 : Int32} {c1 : Nat} {s1 : List Nat} {s2 : Nat → va_E} {s3 : Nat → Nat → Nat} {s4 : Nat → Nat → Nat} {s5 : Int32} {k : Nat} {e1 : Nat → va_E} {e2 : List Nat} {e3 : Nat → Nat → Nat} {e4 : Nat → Nat → Nat} (hm : γ0 0 q0 = 10) (hc : γ0 0 q1 = 9) (hcf : γ0 1 q1 = f) (hQ6 : γ0 6 f = R.1) (hO : qOk R) (hb : b < R.1) (hl2 : l2_1.toInt = (b : Int)) (hsl : slR (cB (F_1 (γ0 9 19))) so) (hS0 : S0.1.1 = b + 1) (h100 : 100 ≤ S0.2) (hbd : (spB so (R.2.2.1 b) (R.2.1 b) S0).2 ≤ 720) (hld : ∀ i, i < R.2.1 b → R.2.2.1 b i 0 = 17 → slf so (R.2.2.1 b i 1) = -1) (h : tl_RModel_spill_90 D I γ0 el0 f P F q0 F_1 q1 l2_1 c1 s1 s2 s3 s4 s5 k e1 e2 e3 e4) : ∀ i, i ≤ R.2.1 b → rfX s3 s4 s2 q1 (mid (spB so (R.2.2.1 b) i S0) R b i) ∧ s4 (s3 14 q1) b = c1 ∧ s5.toInt = ((spB so (R.2.2.1 b) i S0).1.2.1 b : Int) ∧ (fI (s2 q0) 14).toInt = ((spB so (R.2.2.1 b) i S0).2 : Int) → k = 425 ∧ rfX e3 e4 e1 q1 (mid (spB so (R.2.2.1 b) (R.2.1 b) S0) R b (R.2.1 b)) ∧ e4 (e3 14 q1) b = c1 ∧ (fI (e1 q0) 14).toInt = ((spB so (R.2.2.1 b) (R.2.1 b) S0).2 : Int) := by
  exact h (sp90_M q0 q1 c1 R b so S0) (sp90_J1 q0 q1 c1 R b so S0) (sp90_J2 q0 q1 c1 R b so S0) (sp90_c1 hm hc hcf hQ6 hO hb hl2 hsl hS0 h100 hbd hld) (sp90_c2 hm hc hcf hQ6 hO hb hl2 hsl hS0 h100 hbd hld) (sp90_c3 hm hc hcf hQ6 hO hb hl2 hsl hS0 h100 hbd hld) (sp90_c4 hm hc hcf hQ6 hO hb hl2 hsl hS0 h100 hbd hld) (sp90_c5 hm hc hcf hQ6 hO hb hl2 hsl hS0 h100 hbd hld) (sp90_c6 hm hc hcf hQ6 hO hb hl2 hsl hS0 h100 hbd hld) (sp90_c7 hm hc hcf hQ6 hO hb hl2 hsl hS0 h100 hbd hld) (sp90_c8 hm hc hcf hQ6 hO hb hl2 hsl hS0 h100 hbd hld) (sp90_c9 hm hc hcf hQ6 hO hb hl2 hsl hS0 h100 hbd hld) (sp90_c10 hm hc hcf hQ6 hO hb hl2 hsl hS0 h100 hbd hld) (sp90_c11 hm hc hcf hQ6 hO hb hl2 hsl hS0 h100 hbd hld) (sp90_c12 hm hc hcf hQ6 hO hb hl2 hsl hS0 h100 hbd hld) (sp90_c13 hm hc hcf hQ6 hO hb hl2 hsl hS0 h100 hbd hld) (sp90_c14 hm hc hcf hQ6 hO hb hl2 hsl hS0 h100 hbd hld) (sp90_c15 hm hc hcf hQ6 hO hb hl2 hsl hS0 h100 hbd hld) (sp90_c16 hm hc hcf hQ6 hO hb hl2 hsl hS0 h100 hbd hld) (sp90_c17 hm hc hcf hQ6 hO hb hl2 hsl hS0 h100 hbd hld) (sp90_c18 hm hc hcf hQ6 hO hb hl2 hsl hS0 h100 hbd hld) (sp90_c19 hm hc hcf hQ6 hO hb hl2 hsl hS0 h100 hbd hld) (sp90_c20 hm hc hcf hQ6 hO hb hl2 hsl hS0 h100 hbd hld) (sp90_c21 hm hc hcf hQ6 hO hb hl2 hsl hS0 h100 hbd hld) (sp90_c22 hm hc hcf hQ6 hO hb hl2 hsl hS0 h100 hbd hld) (sp90_c23 hm hc hcf hQ6 hO hb hl2 hsl hS0 h100 hbd hld) (sp90_c24 hm hc hcf hQ6 hO hb hl2 hsl hS0 h100 hbd hld) (sp90_c25 hm hc hcf hQ6 hO hb hl2 hsl hS0 h100 hbd hld) (sp90_c26 hm hc hcf hQ6 hO hb hl2 hsl hS0 h100 hbd hld) (sp90_c27 hm hc hcf hQ6 hO hb hl2 hsl hS0 h100 hbd hld) (sp90_c28 hm hc hcf hQ6 hO hb hl2 hsl hS0 h100 hbd hld) (sp90_c29 hm hc hcf hQ6 hO hb hl2 hsl hS0 h100 hbd hld)
end STR
end
section
/-! block by block; the form of a program with its loads and stores -/
section SQB
variable {so : Nat → Int} {R : gPg} {s t u : gSp6} {b d i n nm : Nat} {l : Nat → Int} {x : Int}
def sOth (b : Nat) (s t : gSp6) : Prop := t.1.1 = s.1.1 ∧ t.1.2.2.2 = s.1.2.2.2 ∧ ∀ d, d < b → t.1.2.1 d = s.1.2.1 d ∧ t.1.2.2.1 d = s.1.2.2.1 d
theorem sOth_0 : sOth b s s := ⟨rfl, rfl, fun _ _ => ⟨rfl, rfl⟩⟩
theorem sOth_t (h : sOth b s t) (h2 : sOth b t u) : sOth b s u := ⟨h2.1.trans h.1, h2.2.1.trans h.2.1, fun d hd => ⟨((h2.2.2 d hd).1).trans (h.2.2 d hd).1, ((h2.2.2 d hd).2).trans (h.2.2 d hd).2⟩⟩
theorem sOth_L (h : s.1.1 = b + 1) : sOth b s (pgL s.1 l, n) := ⟨rfl, rfl, fun d hd => L_oth h hd⟩
theorem sOth_N (h : s.1.1 = b + 1) : sOth b s (ldN so x s) := by
  unfold ldN
  split
  · exact sOth_0
  · exact sOth_L h
theorem sOth_R (h : s.1.1 = b + 1) : sOth b s (spR so l s) := by
  unfold spR
  split
  · exact sOth_N h
  · exact sOth_t (sOth_N h) (sOth_N (ldN_b h))
theorem sOth_W {a c : Int} (h : s.1.1 = b + 1) : sOth b s (spW so l a c s) := by
  unfold spW
  split
  · exact sOth_L h
  · exact sOth_t (t := (pgL s.1 (mkL (l 0) (s.2 : Int) a (l 3) c (l 5)), 0)) (sOth_L h) (sOth_L (s := (pgL s.1 (mkL (l 0) (s.2 : Int) a (l 3) c (l 5)), 0)) h)
theorem sOth_Ln (h : s.1.1 = b + 1) : sOth b s (spLn so l s) := sOth_t (sOth_R h) (sOth_W (spR_b h))
theorem sOth_B {ls : Nat → Nat → Int} (h : s.1.1 = b + 1) : ∀ m, sOth b s (spB so ls m s)
  | 0 => sOth_0
  | m + 1 => by
    have i := sOth_B (ls := ls) h m
    exact sOth_t i (sOth_Ln (i.1.trans h))
/-- the beginning of a block -/
def bgS (so : Nat → Int) (R : gPg) (nm b : Nat) : gSp6 := (pgOL R (spP so R nm b).1, (spP so R nm b).2)
theorem bgS_1 (h1 : 100 ≤ nm) : (bgS so R nm b).1.1 = b + 1 := by
  show (spP so R nm b).1.1 + 1 = b + 1
  rw [(spP_k (so := so) (Q := R) h1 b).1]
theorem bgS_0 (h1 : 100 ≤ nm) : (bgS so R nm b).1.2.1 b = 0 := by
  show (if b = (spP so R nm b).1.1 then 0 else (spP so R nm b).1.2.1 b) = 0
  rw [if_pos (spP_k (so := so) (Q := R) h1 b).1.symm]
theorem spP_s : spP so R nm (b + 1) = spB so (R.2.2.1 b) (R.2.1 b) (bgS so R nm b) := rfl
theorem spP_o (h1 : 100 ≤ nm) (hd : d < b) : (spP so R nm (b + 1)).1.2.1 d = (spP so R nm b).1.2.1 d ∧ (spP so R nm (b + 1)).1.2.2.1 d = (spP so R nm b).1.2.2.1 d := by
  have o := (sOth_B (so := so) (ls := R.2.2.1 b) (bgS_1 (so := so) (R := R) (b := b) h1) (R.2.1 b)).2.2 d hd
  rw [← spP_s] at o
  refine ⟨o.1.trans ?_, o.2⟩
  show (if d = (spP so R nm b).1.1 then 0 else (spP so R nm b).1.2.1 d) = _
  rw [(spP_k (so := so) (Q := R) h1 b).1, if_neg (by omega)]
theorem spP_g (h1 : 100 ≤ nm) : ∀ b d, d < b → (spP so R nm b).1.2.2.2 d = R.2.2.2 d
  | 0, d, hd => absurd hd (Nat.not_lt_zero d)
  | b + 1, d, hd => by
    have o := (sOth_B (so := so) (ls := R.2.2.1 b) (bgS_1 (so := so) (R := R) (b := b) h1) (R.2.1 b)).2.1
    rw [← spP_s] at o
    rw [o]
    have k := (spP_k (so := so) (Q := R) h1 b).1
    show (fun i => if d = (spP so R nm b).1.1 then R.2.2.2 d i else (spP so R nm b).1.2.2.2 d i) = R.2.2.2 d
    funext i
    by_cases e : d = b
    · rw [if_pos (by omega)]
    · rw [if_neg (by omega), spP_g h1 b d (by omega)]
/-- a block done, the next begun -/
theorem mid_blk (h1 : 100 ≤ nm) : pgAq (mid (spP so R nm (b + 1)) R b (R.2.1 b)) (mid (bgS so R nm (b + 1)) R (b + 1) 0) := by
  have k := (spP_k (so := so) (Q := R) h1 (b + 1)).1
  have z := bgS_0 (so := so) (R := R) (b := b + 1) h1
  have bl : ∀ d, d < b + 1 → (bgS so R nm (b + 1)).1.2.1 d = (spP so R nm (b + 1)).1.2.1 d := fun d hd => by
    show (if d = (spP so R nm (b + 1)).1.1 then 0 else (spP so R nm (b + 1)).1.2.1 d) = _
    rw [k, if_neg (by omega)]
  refine ⟨rfl, fun d hd => ?_⟩
  rcases Nat.lt_trichotomy d b with q | q | q
  · refine ⟨?_, rfl, fun j hj => ?_⟩
    · show (if d < b + 1 then (bgS so R nm (b + 1)).1.2.1 d else _) = (if d < b then (spP so R nm (b + 1)).1.2.1 d else _)
      rw [if_pos (by omega), if_pos q, bl d (by omega)]
    · show (if d < b + 1 then (spP so R nm (b + 1)).1.2.2.1 d j else _) = (if d < b then (spP so R nm (b + 1)).1.2.2.1 d j else _)
      rw [if_pos (by omega), if_pos q]
  · subst q
    refine ⟨?_, rfl, fun j hj => ?_⟩
    · show (if d < d + 1 then (bgS so R nm (d + 1)).1.2.1 d else _) = (if d < d then _ else if d = d then (spP so R nm (d + 1)).1.2.1 d + (R.2.1 d - R.2.1 d) else _)
      rw [if_pos (by omega), if_neg (Nat.lt_irrefl d), if_pos rfl, bl d (by omega)]
      omega
    · have hj2 : j < (if d < d then (spP so R nm (d + 1)).1.2.1 d else if d = d then (spP so R nm (d + 1)).1.2.1 d + (R.2.1 d - R.2.1 d) else R.2.1 d) := hj
      rw [if_neg (Nat.lt_irrefl d), if_pos rfl] at hj2
      show (if d < d + 1 then (spP so R nm (d + 1)).1.2.2.1 d j else _) = (if d < d then _ else if d = d then (if j < (spP so R nm (d + 1)).1.2.1 d then (spP so R nm (d + 1)).1.2.2.1 d j else _) else _)
      rw [if_pos (by omega), if_neg (Nat.lt_irrefl d), if_pos rfl, if_pos (by omega)]
  · refine ⟨?_, rfl, fun j hj => ?_⟩
    · show (if d < b + 1 then _ else if d = b + 1 then (bgS so R nm (b + 1)).1.2.1 (b + 1) + (R.2.1 (b + 1) - 0) else R.2.1 d) = (if d < b then _ else if d = b then _ else R.2.1 d)
      rw [if_neg (by omega), if_neg (show ¬ d < b by omega), if_neg (show ¬ d = b by omega)]
      by_cases e : d = b + 1
      · rw [if_pos e, z, e]; omega
      · rw [if_neg e]
    · show (if d < b + 1 then _ else if d = b + 1 then (if j < (bgS so R nm (b + 1)).1.2.1 (b + 1) then _ else R.2.2.1 (b + 1) (j - (bgS so R nm (b + 1)).1.2.1 (b + 1) + 0)) else R.2.2.1 d j) = (if d < b then _ else if d = b then _ else R.2.2.1 d j)
      rw [if_neg (by omega), if_neg (show ¬ d < b by omega), if_neg (show ¬ d = b by omega)]
      by_cases e : d = b + 1
      · rw [if_pos e, z, if_neg (Nat.not_lt_zero j), e]; rfl
      · rw [if_neg e]
theorem mid_bg (h1 : 100 ≤ nm) : pgAq R (mid (bgS so R nm 0) R 0 0) := by
  have z := bgS_0 (so := so) (R := R) (b := 0) h1
  refine ⟨rfl, fun d hd => ?_⟩
  by_cases q : d = 0
  · subst q
    refine ⟨?_, rfl, fun j hj => ?_⟩
    · show (if (0 : Nat) < 0 then (bgS so R nm 0).1.2.1 0 else if (0 : Nat) = 0 then (bgS so R nm 0).1.2.1 0 + (R.2.1 0 - 0) else R.2.1 0) = R.2.1 0
      rw [if_neg (Nat.lt_irrefl 0), if_pos rfl, z]; omega
    · show (if (0 : Nat) < 0 then (bgS so R nm 0).1.2.2.1 0 j else if (0 : Nat) = 0 then (if j < (bgS so R nm 0).1.2.1 0 then (bgS so R nm 0).1.2.2.1 0 j else R.2.2.1 0 (j - (bgS so R nm 0).1.2.1 0 + 0)) else R.2.2.1 0 j) = R.2.2.1 0 j
      rw [if_neg (Nat.lt_irrefl 0), if_pos rfl, z, if_neg (Nat.not_lt_zero j)]; rfl
  · refine ⟨?_, rfl, fun j hj => ?_⟩
    · show (if d < 0 then (bgS so R nm 0).1.2.1 d else if d = 0 then (bgS so R nm 0).1.2.1 0 + (R.2.1 0 - 0) else R.2.1 d) = R.2.1 d
      rw [if_neg (Nat.not_lt_zero d), if_neg q]
    · show (if d < 0 then (bgS so R nm 0).1.2.2.1 d j else if d = 0 then (if j < (bgS so R nm 0).1.2.1 0 then (bgS so R nm 0).1.2.2.1 0 j else R.2.2.1 0 (j - (bgS so R nm 0).1.2.1 0 + 0)) else R.2.2.1 d j) = R.2.2.1 d j
      rw [if_neg (Nat.not_lt_zero d), if_neg q]
theorem mid_end (h1 : 100 ≤ nm) : pgAq (mid (bgS so R nm R.1) R R.1 0) (spP so R nm R.1).1 := by
  have k := (spP_k (so := so) (Q := R) h1 R.1).1
  refine ⟨k, fun d hd => ?_⟩
  have hd2 : d < R.1 := hd
  refine ⟨?_, spP_g h1 R.1 d hd2, fun j hj => ?_⟩
  · show _ = (if d < R.1 then (if d = (spP so R nm R.1).1.1 then 0 else (spP so R nm R.1).1.2.1 d) else _)
    rw [if_pos hd2, k, if_neg (by omega)]
  · show _ = (if d < R.1 then (spP so R nm R.1).1.2.2.1 d j else _)
    rw [if_pos hd2]
/-- rows of the block that is being put together -/
def bkA (b : Nat) (s : gSp6) : Prop := ∀ j, j < s.1.2.1 b → rwO2 (s.1.2.2.1 b j)
theorem bkA_L (h : s.1.1 = b + 1) (ha : bkA b s) (hl : rwO2 l) : bkA b (pgL s.1 l, n) := fun j hj => by
  have e : (pgL s.1 l).2.1 b = s.1.2.1 b + 1 := L_len h
  have hj2 : j < (pgL s.1 l).2.1 b := hj
  rw [e] at hj2
  show rwO2 ((pgL s.1 l).2.2.1 b j)
  rw [L_ln h]
  by_cases c : j = s.1.2.1 b
  · rw [if_pos c]; exact hl
  · rw [if_neg c]; exact ha j (by omega)
theorem rwO2_17 {y : Int} (h : n ≤ 1999) : rwO2 (mkL 17 (n : Int) (-1) 0 (-1) y) := ⟨⟨by show (0 : Int) ≤ 17; decide, by show (17 : Int) ≤ 18; decide⟩, ⟨by show (-1 : Int) ≤ -1; decide, by show (-1 : Int) ≤ 1999; decide⟩, ⟨by show (-1 : Int) ≤ -1; decide, by show (-1 : Int) ≤ 1999; decide⟩, fun _ => ⟨by show (0 : Int) ≤ (n : Int); omega, by show (n : Int) ≤ 1999; omega⟩, fun z => by have z' : (17 : Int) = 16 ∨ (17 : Int) = 18 := z; omega, fun _ => rfl, fun _ => rfl⟩
theorem rwO2_18 {y : Int} (h : n ≤ 1999) : rwO2 (mkL 18 (-1) (n : Int) 0 (-1) y) := ⟨⟨by show (0 : Int) ≤ 18; decide, by show (18 : Int) ≤ 18; decide⟩, ⟨by show (-1 : Int) ≤ (n : Int); omega, by show (n : Int) ≤ 1999; omega⟩, ⟨by show (-1 : Int) ≤ -1; decide, by show (-1 : Int) ≤ 1999; decide⟩, fun z => by have z' : (18 : Int) ≤ 15 ∨ (18 : Int) = 17 := z; omega, fun _ => rfl, fun z => by have z' : (18 : Int) = 15 ∨ (18 : Int) = 17 := z; omega, fun _ => rfl⟩
theorem bkA_N (h : s.1.1 = b + 1) (hn : (ldN so x s).2 ≤ 720) (ha : bkA b s) : bkA b (ldN so x s) := by
  unfold ldN at hn ⊢
  by_cases c : slf so x = -1
  · rw [if_pos c]; exact ha
  · rw [if_neg c] at hn ⊢
    have hn2 : s.2 + 1 ≤ 720 := hn
    exact bkA_L h ha (rwO2_17 (by omega))
theorem spR_n : (ldN so (l 2) s).2 ≤ (spR so l s).2 := by
  unfold spR
  split
  · exact Nat.le_refl _
  · exact ldN_le
theorem bkA_R (h : s.1.1 = b + 1) (hn : (spR so l s).2 ≤ 720) (ha : bkA b s) : bkA b (spR so l s) := by
  have n1 := spR_n (so := so) (l := l) (s := s)
  unfold spR at hn ⊢
  by_cases c : l 4 = l 2
  · rw [if_pos c] at hn ⊢; exact bkA_N h hn ha
  · rw [if_neg c] at hn ⊢
    exact bkA_N (ldN_b h) hn (bkA_N h (Nat.le_trans ldN_le hn) ha)
theorem spW_n {a c : Int} : s.2 ≤ (spW so l a c s).2 := by
  unfold spW
  split
  · exact Nat.le_refl _
  · exact Nat.le_succ _
theorem bkA_Ln (h : s.1.1 = b + 1) (h1 : 100 ≤ s.2) (hn : (spLn so l s).2 ≤ 720) (hO : rwO2 l) (ha : bkA b s) : bkA b (spLn so l s) := by
  have n1 : (spR so l s).2 ≤ (spLn so l s).2 := spW_n
  have r := bkA_R (so := so) (l := l) h (by omega) ha
  have lw := lnO2_W (r := true) (so := so) (l := l) (S := s) (by unfold lnO2; rw [if_pos rfl]; exact hO) h1 (by omega)
  unfold lnO2 at lw
  rw [if_pos rfl] at lw
  unfold spLn spW at hn ⊢
  by_cases c : slf so (l 1) = -1
  · rw [if_pos c]
    exact bkA_L (spR_b h) r lw
  · rw [if_neg c] at hn ⊢
    have hn2 : (spR so l s).2 + 1 ≤ 720 := hn
    have p := (slf_p c).1
    have lw2 : rwO2 (mkL (l 0) ((spR so l s).2 : Int) (ldV so (l 2) s.2) (l 3) (spV so l s) (l 5)) := by
      obtain ⟨o1, o2, o3, o4, o5, o6, o7⟩ := lw
      refine ⟨o1, o2, o3, fun _ => ⟨by show (0 : Int) ≤ ((spR so l s).2 : Int); omega, by show ((spR so l s).2 : Int) ≤ 1999; omega⟩, fun z => ?_, o6, o7⟩
      have q : l 1 = -1 := o5 z
      omega
    exact bkA_L (s := (pgL (spR so l s).1 (mkL (l 0) ((spR so l s).2 : Int) (ldV so (l 2) s.2) (l 3) (spV so l s) (l 5)), 0)) (spR_b h) (bkA_L (spR_b h) r lw2) (rwO2_18 (by omega))
theorem bkA_B {ls : Nat → Nat → Int} (h : s.1.1 = b + 1) (h1 : 100 ≤ s.2) (ha : bkA b s) : ∀ m, (spB so ls m s).2 ≤ 720 → (∀ j, j < m → rwO2 (ls j)) → bkA b (spB so ls m s)
  | 0, _, _ => ha
  | m + 1, hn, hl => by
    have k := spB_k (so := so) (ls := ls) (s := s) (by omega) h1 m
    have n1 : (spB so ls m s).2 ≤ (spLn so (ls m) (spB so ls m s)).2 := (spLn_k k.2.1 k.2.2).2.1
    have hn2 : (spLn so (ls m) (spB so ls m s)).2 ≤ 720 := hn
    exact bkA_Ln (k.1.1.trans h) k.2.2 hn2 (hl m (Nat.lt_succ_self m)) (bkA_B h h1 ha m (by omega) (fun j hj => hl j (by omega)))
theorem qOk_sp (h1 : 100 ≤ nm) (hO : qOk R) (hn : (spP so R nm R.1).2 ≤ 720) : qOk (spP so R nm R.1).1 := by
  have k := (spP_k (so := so) (Q := R) h1 R.1).1
  have key : ∀ b, b ≤ R.1 → ∀ d, d < b → blC2 ((spP so R nm b).1.2.1 d) ((spP so R nm b).1.2.2.1 d) (R.2.2.2 d) := fun b => by
    induction b with
    | zero => exact fun _ d hd => absurd hd (Nat.not_lt_zero d)
    | succ b ih =>
      intro hb d hd
      by_cases e : d = b
      · subst e
        obtain ⟨g0, g1, g2, g3⟩ := hO.2 d (by omega)
        obtain ⟨m, em⟩ : ∃ m, R.2.1 d = m + 1 := ⟨R.2.1 d - 1, by omega⟩
        have b1 := bgS_1 (so := so) (R := R) (b := d) h1
        have b2 : 100 ≤ (bgS so R nm d).2 := (spP_k (so := so) (Q := R) h1 d).2.1
        have mm := (spP_m (so := so) (Q := R) h1 (R.1 - (d + 1)) (d + 1)).1
        rw [show d + 1 + (R.1 - (d + 1)) = R.1 by omega] at mm
        have s1 : spP so R nm (d + 1) = spLn so (R.2.2.1 d m) (spB so (R.2.2.1 d) m (bgS so R nm d)) := by rw [spP_s, em]; rfl
        have kk := spB_k (so := so) (ls := R.2.2.1 d) (s := bgS so R nm d) (by omega) b2 m
        have n1 : (spB so (R.2.2.1 d) m (bgS so R nm d)).2 ≤ (spLn so (R.2.2.1 d m) (spB so (R.2.2.1 d) m (bgS so R nm d))).2 := (spLn_k kk.2.1 kk.2.2).2.1
        have n2 : (spR so (R.2.2.1 d m) (spB so (R.2.2.1 d) m (bgS so R nm d))).2 ≤ (spLn so (R.2.2.1 d m) (spB so (R.2.2.1 d) m (bgS so R nm d))).2 := spW_n
        rw [s1] at mm
        have a0 : bkA d (bgS so R nm d) := fun j hj => by
          have z := bgS_0 (so := so) (R := R) (b := d) h1
          rw [z] at hj
          exact absurd hj (Nat.not_lt_zero j)
        have a1 := bkA_B (so := so) (ls := R.2.2.1 d) b1 b2 a0 m (by omega) (fun j hj => g1 j (by omega))
        have bb := kk.1.1.trans b1
        have a2 := bkA_R (so := so) (l := R.2.2.1 d m) bb (by omega) a1
        rw [em, show m + 1 - 1 = m from rfl] at g2 g3
        have eo : 19 ≤ R.2.2.1 d m 0 ∧ R.2.2.1 d m 0 ≤ 21 := by rcases g3 with g | g | g <;> omega
        have lw := lnO2_W (r := false) (so := so) (l := R.2.2.1 d m) (S := spB so (R.2.2.1 d) m (bgS so R nm d)) (by unfold lnO2; rw [if_neg (by decide)]; exact ⟨g2, eo⟩) kk.2.2 (by omega)
        unfold lnO2 at lw
        rw [if_neg (by decide)] at lw
        have c1 : slf so (R.2.2.1 d m 1) = -1 := slf_n (by have := g2.1; omega)
        have eL : spLn so (R.2.2.1 d m) (spB so (R.2.2.1 d) m (bgS so R nm d)) = (pgL (spR so (R.2.2.1 d m) (spB so (R.2.2.1 d) m (bgS so R nm d))).1 (mkL (R.2.2.1 d m 0) (R.2.2.1 d m 1) (ldV so (R.2.2.1 d m 2) (spB so (R.2.2.1 d) m (bgS so R nm d)).2) (R.2.2.1 d m 3) (spV so (R.2.2.1 d m) (spB so (R.2.2.1 d) m (bgS so R nm d))) (R.2.2.1 d m 5)), (spR so (R.2.2.1 d m) (spB so (R.2.2.1 d) m (bgS so R nm d))).2) := if_pos c1
        rw [s1, eL]
        have Rb := spR_b (so := so) (l := R.2.2.1 d m) bb
        have e1 := L_len (S := spR so (R.2.2.1 d m) (spB so (R.2.2.1 d) m (bgS so R nm d))) (l := mkL (R.2.2.1 d m 0) (R.2.2.1 d m 1) (ldV so (R.2.2.1 d m 2) (spB so (R.2.2.1 d) m (bgS so R nm d)).2) (R.2.2.1 d m 3) (spV so (R.2.2.1 d m) (spB so (R.2.2.1 d) m (bgS so R nm d))) (R.2.2.1 d m 5)) Rb
        show blC2 ((pgL _ _).2.1 d) ((pgL _ _).2.2.1 d) _
        rw [e1]
        refine ⟨Nat.succ_pos _, fun j hj => ?_, ?_, ?_⟩
        · rw [L_ln Rb, if_neg (by omega)]
          exact a2 j (by omega)
        · rw [show ∀ y : Nat, y + 1 - 1 = y from fun y => rfl, L_ln Rb, if_pos rfl]
          exact lw.1
        · rw [show ∀ y : Nat, y + 1 - 1 = y from fun y => rfl, L_ln Rb, if_pos rfl]
          exact g3
      · obtain ⟨o1, o2⟩ := spP_o (so := so) (R := R) h1 (show d < b by omega)
        rw [o1, o2]
        exact ih (by omega) d (by omega)
  refine ⟨fun b i hb hi hg => ?_, fun b hb => ?_⟩
  · rw [k] at hb ⊢
    rw [spP_g h1 R.1 b hb] at hg ⊢
    exact hO.1 b i hb hi hg
  · rw [k] at hb
    rw [spP_g h1 R.1 b hb]
    exact key R.1 (Nat.le_refl _) b hb
end SQB
end
section
section GXR
variable {D : va_G} {I : FieldType → ClassId} {P : List Nat} {F : Nat → va_E} {γ0 el0 : Nat → Nat → Nat} {f nm sl N : Nat} {Q R : gPg} {so : Nat → Int} {col : Nat → Int}
theorem sp73_r {q0 : Nat} {F_1 : Nat → va_E} {q1 : Nat} {s1 : List Nat} {s2 : Nat → va_E} {s3 : Nat → Nat → Nat} {s4 : Nat → Nat → Nat} {s5 : Int32} {k : Nat} {e1 : Nat → va_E} {e2 : List Nat} {e3 : Nat → Nat → Nat} {e4 : Nat → Nat → Nat} (hm : γ0 0 q0 = 10) (hc : γ0 0 q1 = 9) (hcf : γ0 1 q1 = f) (hQ6 : γ0 6 f = R.1) (hO : qOk R) (hsl : slR (cB (F_1 (γ0 9 19))) so) (h100 : 100 ≤ nm) (hbd : (spP so R nm R.1).2 ≤ 720) (hld : ∀ b i, b < R.1 → i < R.2.1 b → R.2.2.1 b i 0 = 17 → slf so (R.2.2.1 b i 1) = -1) (h : tl_RModel_spill_73 D I γ0 el0 f P F q0 F_1 q1 s1 s2 s3 s4 s5 k e1 e2 e3 e4) : ∀ d : Nat, s5.toInt = (d : Int) → d ≤ R.1 → rfX s3 s4 s2 q1 (mid (bgS so R nm d) R d 0) → (fI (s2 q0) 14).toInt = ((bgS so R nm d).2 : Int) → k = 431 ∧ rfX e3 e4 e1 q1 (spP so R nm R.1).1 ∧ (fI (e1 q0) 14).toInt = ((spP so R nm R.1).2 : Int) ∧ (fI (e1 q0) 11).toInt = (fI (F_1 q0) 11).toInt := by
  refine h (fun s1 s2 s3 s4 s5 k e1 e2 e3 e4 => ∀ d : Nat, s5.toInt = (d : Int) → d ≤ R.1 → rfX s3 s4 s2 q1 (mid (bgS so R nm d) R d 0) → (fI (s2 q0) 14).toInt = ((bgS so R nm d).2 : Int) → k = 431 ∧ rfX e3 e4 e1 q1 (spP so R nm R.1).1 ∧ (fI (e1 q0) 14).toInt = ((spP so R nm R.1).2 : Int) ∧ (fI (e1 q0) 11).toInt = (fI (F_1 q0) 11).toInt) ?_ ?_ ?_ ?_ ?_
  · intro P_1 F_11 gm_1 el_1 l2_1 x1 h1 h2 h3 h4 h5 h6 h7 h8 h9 h10 h11 h12 h13 h14
    intro d hd hd2 hq ht
    have q3 := hq.1
    have q3' : (fI (F_11 q1) 3).toInt = (R.1 : Int) := q3
    rw [h13] at q3'
    have e : d = R.1 := by omega
    rw [e] at hq ht
    exact ⟨rfl, rfX_A hq (mid_end h100), ht, h7⟩
  · intro P_1 F_11 gm_1 el_1 l2_1 x1 x2 x3 x4 x5 x6 x7 x8 x9 k e1 e2 e3 e4 h1 h2 h3 h4 h5 h6 h7 h8 h9 h10 h11 h12 h13 h14 h15 h16 h17 h18 h19 h20 ih
    intro d hd hd2 hq ht
    have q3 := hq.1
    have q3' : (fI (F_11 q1) 3).toInt = (R.1 : Int) := q3
    rw [h13] at q3'
    have d1 : d < R.1 := by omega
    have c9 : gm_1 0 q1 = 9 := rSk_k h3 (show rKd γ0 q1 9 from hc) (by decide) (by decide)
    obtain ⟨lb, lr, rn, md, w1, ⟨w2, -⟩, -⟩ := show rk_9 gm_1 el_1 q1 (F_11 q1) from RS_o h2 c9
    have e3 : x3 = el_1 (gm_1 14 q1) d := by
      rw [h16, ← h15, w1, show l2_1.toInt.toNat = d by rw [hd]; rfl]
      show el_1 lb d = _
      rw [w2]
    have mm := (spP_m (so := so) (Q := R) h100 (R.1 - (d + 1)) (d + 1)).1
    rw [show d + 1 + (R.1 - (d + 1)) = R.1 by omega] at mm
    have r := sp90_r (S0 := bgS so R nm d) (b := d) hm hc hcf hQ6 hO d1 hd hsl (bgS_1 h100) (spP_k (so := so) (Q := R) h100 d).2.1 (by rw [← spP_s]; omega) (fun i hi => hld d i d1 hi) h19 0 (Nat.zero_le _) ⟨hq, e3.symm, by
      show Int32.toInt 0 = ((bgS so R nm d).1.2.1 d : Int)
      rw [bgS_0 h100]; decide, ht⟩
    obtain ⟨-, r1, r2, r3⟩ := r
    rw [← spP_s] at r1 r3
    exact ih (d + 1) (by omega) d1 (rfX_A r1 (mid_blk h100)) r3
  · intro P_1 F_11 gm_1 el_1 l2_1 x1 x2 x3 x4 x5 x6 x7 x8 h1 h2 h3 h4 h5 h6 h7 h8 h9 h10 h11 h12 h13 h14 h15 h16 h17 h18 h19
    intro d hd hd2 hq ht
    have q3 := hq.1
    have q3' : (fI (F_11 q1) 3).toInt = (R.1 : Int) := q3
    rw [h13] at q3'
    have d1 : d < R.1 := by omega
    have c9 : gm_1 0 q1 = 9 := rSk_k h3 (show rKd γ0 q1 9 from hc) (by decide) (by decide)
    obtain ⟨lb, lr, rn, md, w1, ⟨w2, -⟩, -⟩ := show rk_9 gm_1 el_1 q1 (F_11 q1) from RS_o h2 c9
    have e3 : x3 = el_1 (gm_1 14 q1) d := by
      rw [h16, ← h15, w1, show l2_1.toInt.toNat = d by rw [hd]; rfl]
      show el_1 lb d = _
      rw [w2]
    have mm := (spP_m (so := so) (Q := R) h100 (R.1 - (d + 1)) (d + 1)).1
    rw [show d + 1 + (R.1 - (d + 1)) = R.1 by omega] at mm
    have r := sp90_r (S0 := bgS so R nm d) (b := d) hm hc hcf hQ6 hO d1 hd hsl (bgS_1 h100) (spP_k (so := so) (Q := R) h100 d).2.1 (by rw [← spP_s]; omega) (fun i hi => hld d i d1 hi) h19 0 (Nat.zero_le _) ⟨hq, e3.symm, by
      show Int32.toInt 0 = ((bgS so R nm d).1.2.1 d : Int)
      rw [bgS_0 h100]; decide, ht⟩
    exact absurd r.1 (by decide)
  · intro P_1 F_11 gm_1 el_1 l2_1 x1 x2 x3 x4 x5 x6 x7 x8 h1 h2 h3 h4 h5 h6 h7 h8 h9 h10 h11 h12 h13 h14 h15 h16 h17 h18 h19
    intro d hd hd2 hq ht
    have q3 := hq.1
    have q3' : (fI (F_11 q1) 3).toInt = (R.1 : Int) := q3
    rw [h13] at q3'
    have d1 : d < R.1 := by omega
    have c9 : gm_1 0 q1 = 9 := rSk_k h3 (show rKd γ0 q1 9 from hc) (by decide) (by decide)
    obtain ⟨lb, lr, rn, md, w1, ⟨w2, -⟩, -⟩ := show rk_9 gm_1 el_1 q1 (F_11 q1) from RS_o h2 c9
    have e3 : x3 = el_1 (gm_1 14 q1) d := by
      rw [h16, ← h15, w1, show l2_1.toInt.toNat = d by rw [hd]; rfl]
      show el_1 lb d = _
      rw [w2]
    have mm := (spP_m (so := so) (Q := R) h100 (R.1 - (d + 1)) (d + 1)).1
    rw [show d + 1 + (R.1 - (d + 1)) = R.1 by omega] at mm
    have r := sp90_r (S0 := bgS so R nm d) (b := d) hm hc hcf hQ6 hO d1 hd hsl (bgS_1 h100) (spP_k (so := so) (Q := R) h100 d).2.1 (by rw [← spP_s]; omega) (fun i hi => hld d i d1 hi) h19 0 (Nat.zero_le _) ⟨hq, e3.symm, by
      show Int32.toInt 0 = ((bgS so R nm d).1.2.1 d : Int)
      rw [bgS_0 h100]; decide, ht⟩
    exact absurd r.1 (by decide)
  · intro P_1 F_11 gm_1 el_1 l2_1 x1 x2 x3 x4 x5 x6 x7 x8 h1 h2 h3 h4 h5 h6 h7 h8 h9 h10 h11 h12 h13 h14 h15 h16 h17 h18 h19
    intro d hd hd2 hq ht
    have q3 := hq.1
    have q3' : (fI (F_11 q1) 3).toInt = (R.1 : Int) := q3
    rw [h13] at q3'
    have d1 : d < R.1 := by omega
    have c9 : gm_1 0 q1 = 9 := rSk_k h3 (show rKd γ0 q1 9 from hc) (by decide) (by decide)
    obtain ⟨lb, lr, rn, md, w1, ⟨w2, -⟩, -⟩ := show rk_9 gm_1 el_1 q1 (F_11 q1) from RS_o h2 c9
    have e3 : x3 = el_1 (gm_1 14 q1) d := by
      rw [h16, ← h15, w1, show l2_1.toInt.toNat = d by rw [hd]; rfl]
      show el_1 lb d = _
      rw [w2]
    have mm := (spP_m (so := so) (Q := R) h100 (R.1 - (d + 1)) (d + 1)).1
    rw [show d + 1 + (R.1 - (d + 1)) = R.1 by omega] at mm
    have r := sp90_r (S0 := bgS so R nm d) (b := d) hm hc hcf hQ6 hO d1 hd hsl (bgS_1 h100) (spP_k (so := so) (Q := R) h100 d).2.1 (by rw [← spP_s]; omega) (fun i hi => hld d i d1 hi) h19 0 (Nat.zero_le _) ⟨hq, e3.symm, by
      show Int32.toInt 0 = ((bgS so R nm d).1.2.1 d : Int)
      rw [bgS_0 h100]; decide, ht⟩
    exact absurd r.1 (by decide)
theorem sp2_r {q0 : Nat} {q1 : Nat} {s1 : List Nat} {s2 : Nat → va_E} {s3 : Nat → Nat → Nat} {s4 : Nat → Nat → Nat} {s5 : Int32} {k : Nat} {e1 : Nat → va_E} {e2 : List Nat} {e3 : Nat → Nat → Nat} {e4 : Nat → Nat → Nat} (hT : RS D I P F γ0 el0) (hm : γ0 0 q0 = 10) (hS : ∀ v, rSd (cB (F (γ0 9 3))) v ↔ Sd R false 2000 v) (hC : ∀ v, v < 2000 → (cB (F (γ0 9 17)) v).toInt = col v) (hcb : ∀ v, -1 ≤ col v) (h : tl_RModel_spill_2 D I γ0 el0 f P F q0 q1 s1 s2 s3 s4 s5 k e1 e2 e3 e4) : ∀ i : Nat, s5.toInt = (i : Int) → i ≤ 2000 → (fI (s2 q0) 11).toInt = ((sl + cntP (unc R col) i : Nat) : Int) → (∀ v, v < i → (unc R col v → (cB (s2 (γ0 9 19)) v).toInt = ((sl + cntP (unc R col) v : Nat) : Int)) ∧ (¬ unc R col v → (cB (s2 (γ0 9 19)) v).toInt = -1)) → (∀ v, v < i → 100 ≤ v → ¬ unc R col v) → (∀ a, a ≠ γ0 9 19 → a ≠ q0 → s2 a = F a) → (fI (s2 q0) 14).toInt = (fI (F q0) 14).toInt → e2 = s1 ∧ e3 = s3 ∧ e4 = s4 ∧ (k = 43 → ∃ v, 100 ≤ v ∧ unc R col v) ∧ (k = 71 → (∀ v, 100 ≤ v → ¬ unc R col v) ∧ (fI (e1 q0) 11).toInt = ((sl + cntP (unc R col) 100 : Nat) : Int) ∧ (∀ v, v < 2000 → (unc R col v → (cB (e1 (γ0 9 19)) v).toInt = ((sl + cntP (unc R col) v : Nat) : Int)) ∧ (¬ unc R col v → (cB (e1 (γ0 9 19)) v).toInt = -1)) ∧ (∀ a, a ≠ γ0 9 19 → a ≠ q0 → e1 a = F a) ∧ (fI (e1 q0) 14).toInt = (fI (F q0) 14).toInt) := by
  obtain ⟨k3, k5, k15, k16, k17, k18, k19, k11⟩ := md_kd9 hT hm
  have n3 : γ0 9 3 ≠ γ0 9 19 := fun e => by rw [e, k19] at k3; cases k3
  have n17 : γ0 9 17 ≠ γ0 9 19 := fun e => by rw [e, k19] at k17; cases k17
  have m3 : γ0 9 3 ≠ q0 := fun e => by rw [e, hm] at k3; cases k3
  have m17 : γ0 9 17 ≠ q0 := fun e => by rw [e, hm] at k17; cases k17
  have m19 : γ0 9 19 ≠ q0 := fun e => by rw [e, hm] at k19; cases k19
  have usd : ∀ v, unc R col v → v < 2000 := fun v h => h.1.1
  have c_y : ∀ {v}, unc R col v → cntP (unc R col) (v + 1) = cntP (unc R col) v + 1 := fun {v} h => by
    show cntP (unc R col) v + @ite Nat (unc R col v) (Classical.propDecidable _) 1 0 = _
    rw [if_pos h]
  have c_n : ∀ {v}, ¬ unc R col v → cntP (unc R col) (v + 1) = cntP (unc R col) v := fun {v} h => by
    show cntP (unc R col) v + @ite Nat (unc R col v) (Classical.propDecidable _) 1 0 = _
    rw [if_neg h, Nat.add_zero]
  refine h (fun s1 s2 s3 s4 s5 k e1 e2 e3 e4 => ∀ i : Nat, s5.toInt = (i : Int) → i ≤ 2000 → (fI (s2 q0) 11).toInt = ((sl + cntP (unc R col) i : Nat) : Int) → (∀ v, v < i → (unc R col v → (cB (s2 (γ0 9 19)) v).toInt = ((sl + cntP (unc R col) v : Nat) : Int)) ∧ (¬ unc R col v → (cB (s2 (γ0 9 19)) v).toInt = -1)) → (∀ v, v < i → 100 ≤ v → ¬ unc R col v) → (∀ a, a ≠ γ0 9 19 → a ≠ q0 → s2 a = F a) → (fI (s2 q0) 14).toInt = (fI (F q0) 14).toInt → e2 = s1 ∧ e3 = s3 ∧ e4 = s4 ∧ (k = 43 → ∃ v, 100 ≤ v ∧ unc R col v) ∧ (k = 71 → (∀ v, 100 ≤ v → ¬ unc R col v) ∧ (fI (e1 q0) 11).toInt = ((sl + cntP (unc R col) 100 : Nat) : Int) ∧ (∀ v, v < 2000 → (unc R col v → (cB (e1 (γ0 9 19)) v).toInt = ((sl + cntP (unc R col) v : Nat) : Int)) ∧ (¬ unc R col v → (cB (e1 (γ0 9 19)) v).toInt = -1)) ∧ (∀ a, a ≠ γ0 9 19 → a ≠ q0 → e1 a = F a) ∧ (fI (e1 q0) 14).toInt = (fI (F q0) 14).toInt)) ?_ ?_ ?_ ?_ ?_
  · intro P_1 F_1 gm_1 el_1 l2_1 h1 h2 h3 h4 h5 h6 h7 h8 h9 h10 h11 h12 h13
    intro i hi hi2 hs hv hu hf h14
    have n9 : gm_1 9 = γ0 9 := rSk_9 h3
    have e : i = 2000 := by omega
    rw [e] at hs hv hu
    have hz : ∀ v, 100 ≤ v → ¬ unc R col v := fun v h1 h2 => hu v (usd v h2) h1 h2
    refine ⟨rfl, rfl, rfl, fun z => (nomatch z), fun _ => ⟨hz, ?_, hv, hf, h14⟩⟩
    rw [hs, cntP_zz (T := unc R col) (n := 100) (m := 2000) (by decide) hz]
  · intro P_1 F_1 gm_1 el_1 l2_1 x1 x2 x3 x4 x5 x6 k e1 e2 e3 e4 h1 h2 h3 h4 h5 h6 h7 h8 h9 h10 h11 h12 h13 h14 h15 h16 h17 h18 h19 h20 h21 h22 h23 h24 ih
    intro i hi hi2 hs hv hu hf h14
    have n9 : gm_1 9 = γ0 9 := rSk_9 h3
    have hi3 : i < 2000 := by omega
    have en := nnE hi
    rw [n9] at h15 h17 h18 h20
    rw [en] at h16 h21
    have f3 := h17
    have s4 : cB (F (γ0 9 3)) = x4 := by rw [← hf _ n3 m3, ← f3 _ n3]; exact cB_of h20
    have c1 : cB (F_1 (γ0 9 19)) = x1 := cB_of h15
    have c2 : cB (x3 (γ0 9 19)) = x2 := cB_of h18
    have b1 := h22.1
    have b2 := h22.2
    have sd : Sd R false 2000 i ↔ x5.toInt ≠ 0 := by
      rw [← hS i, s4]
      exact ⟨fun z => by have := z.2; rw [← h21] at this; omega, fun z => ⟨hi3, by rw [← h21]; omega⟩⟩
    have fr3 : (∀ a, a ≠ γ0 9 19 → a ≠ q0 → x3 a = F a) := fun a ha hq => (f3 a ha).trans (hf a ha hq)
    have q3 : x3 q0 = F_1 q0 := f3 q0 m19.symm
    have old : ¬ unc R col i → (∀ v, v < (i + 1) → (unc R col v → (cB (x3 (γ0 9 19)) v).toInt = ((sl + cntP (unc R col) v : Nat) : Int)) ∧ (¬ unc R col v → (cB (x3 (γ0 9 19)) v).toInt = -1)) := fun nu v hv2 => by
      rw [c2, h16]
      by_cases e : v = i
      · rw [e, updE]; exact ⟨fun z => absurd z nu, fun _ => by decide⟩
      · rw [updN e, ← c1]; exact hv v (by omega)
    have nu : ¬ unc R col i := fun z => sd.mp z.1 h23
    refine ih (i + 1) (by omega) (by omega) (by rw [c_n nu, q3]; exact hs) (old nu) (fun v h1 h2 h3 => ?_) fr3 (by rw [q3]; exact h14)
    by_cases e : v = i
    · rw [e] at h3; exact nu h3
    · exact hu v (by omega) h2 h3
  · intro P_1 F_1 gm_1 el_1 l2_1 x1 x2 x3 x4 x5 x6 x7 x8 x9 x10 x11 x12 x13 k e1 e2 e3 e4 h1 h2 h3 h4 h5 h6 h7 h8 h9 h10 h11 h12 h13 h14 h15 h16 h17 h18 h19 h20 h21 h22 h23 h24 h25 h26 h27 h28 h29 h30 h31 h32 h33 h34 h35 h36 h37 h38 h39 h40 ih
    intro i hi hi2 hs hv hu hf h14
    have n9 : gm_1 9 = γ0 9 := rSk_9 h3
    have hi3 : i < 2000 := by omega
    have en := nnE hi
    rw [n9] at h15 h17 h18 h20
    rw [en] at h16 h21
    have f3 := h17
    have s4 : cB (F (γ0 9 3)) = x4 := by rw [← hf _ n3 m3, ← f3 _ n3]; exact cB_of h20
    have c1 : cB (F_1 (γ0 9 19)) = x1 := cB_of h15
    have c2 : cB (x3 (γ0 9 19)) = x2 := cB_of h18
    have b1 := h22.1
    have b2 := h22.2
    have sd : Sd R false 2000 i ↔ x5.toInt ≠ 0 := by
      rw [← hS i, s4]
      exact ⟨fun z => by have := z.2; rw [← h21] at this; omega, fun z => ⟨hi3, by rw [← h21]; omega⟩⟩
    have fr3 : (∀ a, a ≠ γ0 9 19 → a ≠ q0 → x3 a = F a) := fun a ha hq => (f3 a ha).trans (hf a ha hq)
    have q3 : x3 q0 = F_1 q0 := f3 q0 m19.symm
    have old : ¬ unc R col i → (∀ v, v < (i + 1) → (unc R col v → (cB (x3 (γ0 9 19)) v).toInt = ((sl + cntP (unc R col) v : Nat) : Int)) ∧ (¬ unc R col v → (cB (x3 (γ0 9 19)) v).toInt = -1)) := fun nu v hv2 => by
      rw [c2, h16]
      by_cases e : v = i
      · rw [e, updE]; exact ⟨fun z => absurd z nu, fun _ => by decide⟩
      · rw [updN e, ← c1]; exact hv v (by omega)
    rw [n9] at h25
    rw [en] at h26
    have s6 : cB (F (γ0 9 17)) = x6 := by rw [← hf _ n17 m17, ← f3 _ n17]; exact cB_of h25
    have cv := hC i hi3
    rw [s6, ← h26] at cv
    have cb := hcb i
    have un : unc R col i := ⟨sd.mpr h23, by omega⟩
    rw [n9] at h34 h35
    rw [en] at h33
    have f10 := h34
    have f12 := h38
    have c12 : cB (x12 (γ0 9 19)) = x9 := by rw [f12 _ m19]; exact cB_of h35
    have q10 : x10 q0 = F_1 q0 := (f10 q0 m19.symm).trans q3
    have x8s : x8.toInt = ((sl + cntP (unc R col) i : Nat) : Int) := by rw [← h31, q3]; exact hs
    have m10 : gm_1 0 q0 = 10 := rSk_k h3 (show rKd γ0 q0 10 from hm) (by decide) (by decide)
    obtain ⟨r28, r35, v9, v10, v11, v12, v13, v14, v23, v24, v25, v26, v27, v30, v32, v33, v34, he, -⟩ := rk10_m (show rk_10 gm_1 (F_1 q0) from RS_o h2 m10)
    refine ih (i + 1) (by omega) (by omega) ?_ (fun v hv2 => ?_) (fun v h1 h2 h3 => ?_) (fun a ha hq => ?_) ?_
    · rw [c_y un, h39, q10, he]
      show x11.toInt = _
      omega
    · rw [c12, h33]
      by_cases e : v = i
      · rw [e, updE]; exact ⟨fun _ => x8s, fun z => absurd un z⟩
      · rw [updN e, h16, updN e, ← c1]; exact hv v (by omega)
    · by_cases e : v = i
      · omega
      · exact hu v (by omega) h2 h3
    · rw [f12 a hq, f10 a ha]; exact fr3 a ha hq
    · rw [h39, q10, he]
      show v14.toInt = _
      rw [he] at h14
      exact h14
  · intro P_1 F_1 gm_1 el_1 l2_1 x1 x2 x3 x4 x5 x6 x7 h1 h2 h3 h4 h5 h6 h7 h8 h9 h10 h11 h12 h13 h14 h15 h16 h17 h18 h19 h20 h21 h22 h23 h24 h25 h26 h27 h28 h29
    intro i hi hi2 hs hv hu hf h14
    have n9 : gm_1 9 = γ0 9 := rSk_9 h3
    have hi3 : i < 2000 := by omega
    have en := nnE hi
    rw [n9] at h15 h17 h18 h20
    rw [en] at h16 h21
    have f3 := h17
    have s4 : cB (F (γ0 9 3)) = x4 := by rw [← hf _ n3 m3, ← f3 _ n3]; exact cB_of h20
    have c1 : cB (F_1 (γ0 9 19)) = x1 := cB_of h15
    have c2 : cB (x3 (γ0 9 19)) = x2 := cB_of h18
    have b1 := h22.1
    have b2 := h22.2
    have sd : Sd R false 2000 i ↔ x5.toInt ≠ 0 := by
      rw [← hS i, s4]
      exact ⟨fun z => by have := z.2; rw [← h21] at this; omega, fun z => ⟨hi3, by rw [← h21]; omega⟩⟩
    have fr3 : (∀ a, a ≠ γ0 9 19 → a ≠ q0 → x3 a = F a) := fun a ha hq => (f3 a ha).trans (hf a ha hq)
    have q3 : x3 q0 = F_1 q0 := f3 q0 m19.symm
    have old : ¬ unc R col i → (∀ v, v < (i + 1) → (unc R col v → (cB (x3 (γ0 9 19)) v).toInt = ((sl + cntP (unc R col) v : Nat) : Int)) ∧ (¬ unc R col v → (cB (x3 (γ0 9 19)) v).toInt = -1)) := fun nu v hv2 => by
      rw [c2, h16]
      by_cases e : v = i
      · rw [e, updE]; exact ⟨fun z => absurd z nu, fun _ => by decide⟩
      · rw [updN e, ← c1]; exact hv v (by omega)
    rw [n9] at h25
    rw [en] at h26
    have s6 : cB (F (γ0 9 17)) = x6 := by rw [← hf _ n17 m17, ← f3 _ n17]; exact cB_of h25
    have cv := hC i hi3
    rw [s6, ← h26] at cv
    have cb := hcb i
    have un : unc R col i := ⟨sd.mpr h23, by omega⟩
    exact ⟨rfl, rfl, rfl, fun _ => ⟨i, by omega, un⟩, fun z => (nomatch z)⟩
  · intro P_1 F_1 gm_1 el_1 l2_1 x1 x2 x3 x4 x5 x6 x7 x8 k e1 e2 e3 e4 h1 h2 h3 h4 h5 h6 h7 h8 h9 h10 h11 h12 h13 h14 h15 h16 h17 h18 h19 h20 h21 h22 h23 h24 h25 h26 h27 h28 h29 ih
    intro i hi hi2 hs hv hu hf h14
    have n9 : gm_1 9 = γ0 9 := rSk_9 h3
    have hi3 : i < 2000 := by omega
    have en := nnE hi
    rw [n9] at h15 h17 h18 h20
    rw [en] at h16 h21
    have f3 := h17
    have s4 : cB (F (γ0 9 3)) = x4 := by rw [← hf _ n3 m3, ← f3 _ n3]; exact cB_of h20
    have c1 : cB (F_1 (γ0 9 19)) = x1 := cB_of h15
    have c2 : cB (x3 (γ0 9 19)) = x2 := cB_of h18
    have b1 := h22.1
    have b2 := h22.2
    have sd : Sd R false 2000 i ↔ x5.toInt ≠ 0 := by
      rw [← hS i, s4]
      exact ⟨fun z => by have := z.2; rw [← h21] at this; omega, fun z => ⟨hi3, by rw [← h21]; omega⟩⟩
    have fr3 : (∀ a, a ≠ γ0 9 19 → a ≠ q0 → x3 a = F a) := fun a ha hq => (f3 a ha).trans (hf a ha hq)
    have q3 : x3 q0 = F_1 q0 := f3 q0 m19.symm
    have old : ¬ unc R col i → (∀ v, v < (i + 1) → (unc R col v → (cB (x3 (γ0 9 19)) v).toInt = ((sl + cntP (unc R col) v : Nat) : Int)) ∧ (¬ unc R col v → (cB (x3 (γ0 9 19)) v).toInt = -1)) := fun nu v hv2 => by
      rw [c2, h16]
      by_cases e : v = i
      · rw [e, updE]; exact ⟨fun z => absurd z nu, fun _ => by decide⟩
      · rw [updN e, ← c1]; exact hv v (by omega)
    rw [n9] at h25
    rw [en] at h26
    have s6 : cB (F (γ0 9 17)) = x6 := by rw [← hf _ n17 m17, ← f3 _ n17]; exact cB_of h25
    have cv := hC i hi3
    rw [s6, ← h26] at cv
    have cb := hcb i
    have nu : ¬ unc R col i := fun z => by have := z.2; omega
    refine ih (i + 1) (by omega) (by omega) (by rw [c_n nu, q3]; exact hs) (old nu) (fun v h1 h2 h3 => ?_) fr3 (by rw [q3]; exact h14)
    by_cases e : v = i
    · rw [e] at h3; exact nu h3
    · exact hu v (by omega) h2 h3
section CRW
variable {γ el : Nat → Nat → Nat}
theorem crw4 {q0 : Nat} {s1 : Int32} {s2 : Int32} {k : Nat} {e1 : Int32} (hT : RS D I P F γ el) (hc : γ 0 q0 = 9) (hcf : γ 1 q0 = f) (hQ6 : γ 6 f = Q.1) (hq : rfX γ el F q0 Q) (hl : lsm Q ≤ 1000000) (h : tl_RCode_countRows_4 D I γ el F q0 s1 s2 k e1) : ∀ b : Nat, s1.toInt = (b : Int) → b ≤ Q.1 → 0 ≤ s2.toInt → s2.toInt ≤ (fsm Q.2.1 b : Int) → e1.toInt ≤ (lsm Q : Int) := by
  have q3 := hq.1
  obtain ⟨lb, lr, rn, md, w1, ⟨w2, -⟩, -⟩ := show rk_9 γ el q0 (F q0) from RS_o hT hc
  refine h (fun s1 s2 _ e1 => ∀ b : Nat, s1.toInt = (b : Int) → b ≤ Q.1 → 0 ≤ s2.toInt → s2.toInt ≤ (fsm Q.2.1 b : Int) → e1.toInt ≤ (lsm Q : Int)) ?_ ?_
  · intro l2_1 l1_1 x1 h1 h2 h3
    intro b hb hb2 h0 hs
    rw [h2] at q3
    rw [show b = Q.1 by omega] at hs
    exact hs
  · intro l2_1 l1_1 x1 x2 x3 x4 x5 x6 x7 x8 k e1 h1 h2 h3 h4 h5 h6 h7 h8 h9 h10 h11 h12 ih
    intro b hb hb2 h0 hs
    rw [h2] at q3
    have b1 : b < Q.1 := by omega
    have bk := hB2_ hT hc hcf hQ6 b b1
    obtain ⟨ll, nn, pp, ss, v1, ⟨g1, g2, g3⟩, -⟩ := show rk_2 γ (el (γ 14 q0) b) (F (el (γ 14 q0) b)) from RS_o hT bk
    have e3 : x3 = el (γ 14 q0) b := by
      rw [h5, ← h4, w1, show l2_1.toInt.toNat = b by rw [hb]; rfl]
      show el lb b = _
      rw [w2]
    have e5 : x5 = rwL γ el q0 b := by
      rw [← h8, e3, v1]
      show ll = γ 14 (el (γ 14 q0) b)
      rw [g1]
    rw [e5] at h9
    have m := (hq.2.1 b b1).1
    have fb : fsm Q.2.1 (b + 1) = fsm Q.2.1 b + Q.2.1 b := rfl
    have fm := fsm_mo (l := Q.2.1) (show b + 1 ≤ Q.1 from b1)
    have lq : fsm Q.2.1 Q.1 = lsm Q := rfl
    have a7 := px_add h11 (by omega) (by omega)
    exact ih (b + 1) (by omega) b1 (by omega) (by omega)
theorem crw_tr {q0 : Nat} {o1 : Int32} (hT : RS D I P F γ el) (hc : γ 0 q0 = 9) (hcf : γ 1 q0 = f) (hQ6 : γ 6 f = Q.1) (hq : rfX γ el F q0 Q) (hl : lsm Q ≤ 1000000) (h : tr_RCode_countRows D I γ el F q0 o1) : o1.toInt ≤ (lsm Q : Int) := by
  refine h (fun o1 => o1.toInt ≤ (lsm Q : Int)) ?_
  · intro x1 h1
    exact crw4 hT hc hcf hQ6 hq hl h1 0 (by decide) (Nat.zero_le _) (by decide) (show Int32.toInt 0 ≤ (0 : Int) by decide)
end CRW
theorem rfX_val {γ el : Nat → Nat → Nat} {c n : Nat} (h : rfX γ el F c Q) : rfX (gVal γ 7 f n) el F c Q := by
  have e2 : gVal γ 7 f n 2 = γ 2 := by funext a; exact if_neg (fun z => absurd z.1 (by decide))
  have e14 : gVal γ 7 f n 14 = γ 14 := by funext a; exact if_neg (fun z => absurd z.1 (by decide))
  have e15 : gVal γ 7 f n 15 = γ 15 := by funext a; exact if_neg (fun z => absurd z.1 (by decide))
  have eL : ∀ i, rwL (gVal γ 7 f n) el c i = rwL γ el c i := fun i => by unfold rwL; rw [e14]
  have eA : ∀ i j, rAt (gVal γ 7 f n) el c i j = rAt γ el c i j := fun i j => by unfold rAt; rw [eL, e2, e14, e15]
  obtain ⟨a1, a2, a3⟩ := h
  refine ⟨a1, fun i hi => ?_, fun i hi k hk => ?_⟩
  · rw [eL, e2, e14]; exact a2 i hi
  · rw [eL, e2] at hk
    rw [eA]; exact a3 i hi k hk
theorem sp73_T {q0 : Nat} {F_1 : Nat → va_E} {q1 : Nat} {s1 : List Nat} {s2 : Nat → va_E} {s3 : Nat → Nat → Nat} {s4 : Nat → Nat → Nat} {s5 : Int32} {k : Nat} {e1 : Nat → va_E} {e2 : List Nat} {e3 : Nat → Nat → Nat} {e4 : Nat → Nat → Nat} (hm : γ0 0 q0 = 10) (hc : γ0 0 q1 = 9) (hcf : γ0 1 q1 = f) (hQ6 : γ0 6 f = R.1) (h : tl_RModel_spill_73 D I γ0 el0 f P F q0 F_1 q1 s1 s2 s3 s4 s5 k e1 e2 e3 e4) : k = 431 → RS D I e2 e1 e3 e4 ∧ e3 0 q1 = 9 ∧ e3 1 q1 = f ∧ e3 6 f = R.1 := by
  refine h (fun s1 s2 s3 s4 s5 k e1 e2 e3 e4 => k = 431 → RS D I e2 e1 e3 e4 ∧ e3 0 q1 = 9 ∧ e3 1 q1 = f ∧ e3 6 f = R.1) ?_ ?_ ?_ ?_ ?_
  · intro P_1 F_11 gm_1 el_1 l2_1 x1 h1 h2 h3 h4 h5 h6 h7 h8 h9 h10 h11 h12 h13 h14
    exact fun _ => ⟨h2, rSk_k h3 (show rKd γ0 q1 9 from hc) (by decide) (by decide), rSk_1 h3 (show rKd γ0 q1 9 from hc) (by decide) hcf, (h4).trans hQ6⟩
  · intro P_1 F_11 gm_1 el_1 l2_1 x1 x2 x3 x4 x5 x6 x7 x8 x9 k e1 e2 e3 e4 h1 h2 h3 h4 h5 h6 h7 h8 h9 h10 h11 h12 h13 h14 h15 h16 h17 h18 h19 h20 ih
    exact ih
  · intro P_1 F_11 gm_1 el_1 l2_1 x1 x2 x3 x4 x5 x6 x7 x8 h1 h2 h3 h4 h5 h6 h7 h8 h9 h10 h11 h12 h13 h14 h15 h16 h17 h18 h19
    exact fun z => (nomatch z)
  · intro P_1 F_11 gm_1 el_1 l2_1 x1 x2 x3 x4 x5 x6 x7 x8 h1 h2 h3 h4 h5 h6 h7 h8 h9 h10 h11 h12 h13 h14 h15 h16 h17 h18 h19
    exact fun z => (nomatch z)
  · intro P_1 F_11 gm_1 el_1 l2_1 x1 x2 x3 x4 x5 x6 x7 x8 h1 h2 h3 h4 h5 h6 h7 h8 h9 h10 h11 h12 h13 h14 h15 h16 h17 h18 h19
    exact fun z => (nomatch z)
theorem gx_cnt {q0 : Nat} {F_1 : Nat → va_E} {q1 : Nat} {s1 : List Nat} {s2 : Nat → va_E} {s3 : Nat → Nat → Nat} {s4 : Nat → Nat → Nat} {s5 : Int32} {e1 : Nat → va_E} {e2 : List Nat} {e3 : Nat → Nat → Nat} {e4 : Nat → Nat → Nat} {Q2 : gPg} {x : Int32} (hm : γ0 0 q0 = 10) (hc : γ0 0 q1 = 9) (hcf : γ0 1 q1 = f) (hQ6 : γ0 6 f = R.1) (h : tl_RModel_spill_73 D I γ0 el0 f P F q0 F_1 q1 s1 s2 s3 s4 s5 431 e1 e2 e3 e4) (hq : rfX e3 e4 e1 q1 Q2) (hl : lsm Q2 ≤ 920) (he : Q2.1 = R.1) (h2 : tr_RCode_countRows D I e3 e4 e1 q1 x) : x.toInt ≤ 4000 := by
  obtain ⟨t1, t2, t3, t4⟩ := sp73_T hm hc hcf hQ6 h rfl
  have q := crw_tr t1 t2 t3 (t4.trans he.symm) hq (by omega) h2
  omega
theorem spi_r {q0 : Nat} {q1 : Nat} {o1 : Int32} {o2 : List Nat} {o3 : Nat → va_E} {o4 : Nat → Nat → Nat} {o5 : Nat → Nat → Nat} (hT : RS D I P F γ0 el0) (hm : γ0 0 q0 = 10) (hc : γ0 0 q1 = 9) (hcf : γ0 1 q1 = f) (hQ6 : γ0 6 f = R.1) (hq : rfX γ0 el0 F q1 R) (hO : qOk R) (hI : gvI R nm) (hS : ∀ v, rSd (cB (F (γ0 9 3))) v ↔ Sd R false 2000 v) (hC : ∀ v, v < 2000 → (cB (F (γ0 9 17)) v).toInt = col v) (hcb : ∀ v, -1 ≤ col v) (hsl : (fI (F q0) 11).toInt = (sl : Int)) (hsl2 : sl ≤ 100) (hnm : (fI (F q0) 14).toInt = (nm : Int)) (hld : ∀ b i, b < R.1 → i < R.2.1 b → R.2.2.1 b i 0 = 17 → 100 ≤ R.2.2.1 b i 1) (h : tr_RModel_spill D I γ0 el0 f P F q0 q1 o1 o2 o3 o4 o5) : (o1.toInt = 0 ∧ ∃ v, 100 ≤ v ∧ unc R col v) ∨ (o1.toInt ≠ 0 ∧ (∀ v, 100 ≤ v → ¬ unc R col v) ∧ rfX o4 o5 o3 q1 (spP (soU (unc R col) sl) R nm R.1).1 ∧ (fI (o3 q0) 14).toInt = ((spP (soU (unc R col) sl) R nm R.1).2 : Int) ∧ (fI (o3 q0) 11).toInt = ((sl + cntP (unc R col) 100 : Nat) : Int)) := by
  obtain ⟨k3, k5, k15, k16, k17, k18, k19, k11⟩ := md_kd9 hT hm
  obtain ⟨qi1, qi2, qi3, qi4⟩ := spP_i (so := (soU (unc R col) sl)) hI
  refine h (fun o1 o2 o3 o4 o5 => (o1.toInt = 0 ∧ ∃ v, 100 ≤ v ∧ unc R col v) ∨ (o1.toInt ≠ 0 ∧ (∀ v, 100 ≤ v → ¬ unc R col v) ∧ rfX o4 o5 o3 q1 (spP (soU (unc R col) sl) R nm R.1).1 ∧ (fI (o3 q0) 14).toInt = ((spP (soU (unc R col) sl) R nm R.1).2 : Int) ∧ (fI (o3 q0) 11).toInt = ((sl + cntP (unc R col) 100 : Nat) : Int))) ?_ ?_ ?_ ?_ ?_ ?_
  · intro x1 x2 x3 x4 x5 x6 x7 x8 x9 x10 x11 x12 x13 h1 h2 h3 h4 h5 h6 h7 h8
    have eg := h1
    have ee := h2
    subst eg
    subst ee
    obtain ⟨w1, w2, w3, w4, w5⟩ := sp2_r (R := R) (col := col) (sl := sl) hT hm hS hC hcb h3 0 (by decide) (Nat.zero_le _) hsl (fun v hv => absurd hv (Nat.not_lt_zero v)) (fun v hv => absurd hv (Nat.not_lt_zero v)) (fun _ _ _ => rfl) rfl
    obtain ⟨u1, u2, u3, u4, u5⟩ := w5 rfl
    have cu := cntP_le (T := (unc R col)) 100
    have sR : slR (cB (x3 (x1 9 19))) (soU (unc R col) sl) := fun v hv => by
      obtain ⟨p1, p2⟩ := u3 v hv
      by_cases e : unc R col v
      · have v1 : v < 100 := Classical.byContradiction fun n => u1 v (by omega) e
        have m1 := cntP_mo (T := (unc R col)) (U := (unc R col)) v (fun _ _ z => z)
        have le := cntP_le (T := (unc R col)) v
        refine Or.inr ⟨by rw [p1 e]; omega, by rw [p1 e]; omega, ?_⟩
        rw [p1 e]
        unfold slf
        rw [if_pos (by omega), Int.toNat_natCast, soU_p e]
      · refine Or.inl ⟨by rw [p2 e]; decide, ?_⟩
        unfold slf
        by_cases z : 0 ≤ (v : Int) ∧ (v : Int) < 100
        · rw [if_pos z, Int.toNat_natCast, soU_0 e]
        · rw [if_neg z]
    have m19 : x1 9 19 ≠ q0 := fun e => by rw [e, hm] at k19; cases k19
    have q3 : rfX x1 x2 x3 q1 R := rfX_fr hT hc hcf hQ6 hq (fun a ha => u4 a (fun e => by rw [e, k19] at ha; omega) (fun e => by rw [e, hm] at ha; omega))
    have q8 : rfX x8 x6 x3 q1 R := by
      rw [h5, w2, w3]
      exact rfX_val q3
    have r := sp73_r (so := (soU (unc R col) sl)) (nm := nm) hm hc hcf hQ6 hO sR hI.2.1 qi3 (fun b i hb hi h17 => by
      unfold slf
      rw [if_neg (fun z => by have := hld b i hb hi h17; omega)]) h6 0 (by decide) (Nat.zero_le _) (rfX_A q8 (mid_bg hI.2.1)) (by
      show (fI (x3 q0) 14).toInt = (nm : Int)
      rw [u5]; exact hnm)
    obtain ⟨-, r1, r2, r3⟩ := r
    have jj := h6
    exact absurd (gx_cnt (R := R) hm hc hcf hQ6 jj r1 qi4 (spP_k (so := (soU (unc R col) sl)) (Q := R) hI.2.1 R.1).1 h7) (by omega)
  · intro x1 x2 x3 x4 x5 x6 x7 x8 x9 x10 x11 x12 x13 h1 h2 h3 h4 h5 h6 h7 h8
    have eg := h1
    have ee := h2
    subst eg
    subst ee
    obtain ⟨w1, w2, w3, w4, w5⟩ := sp2_r (R := R) (col := col) (sl := sl) hT hm hS hC hcb h3 0 (by decide) (Nat.zero_le _) hsl (fun v hv => absurd hv (Nat.not_lt_zero v)) (fun v hv => absurd hv (Nat.not_lt_zero v)) (fun _ _ _ => rfl) rfl
    obtain ⟨u1, u2, u3, u4, u5⟩ := w5 rfl
    have cu := cntP_le (T := (unc R col)) 100
    have sR : slR (cB (x3 (x1 9 19))) (soU (unc R col) sl) := fun v hv => by
      obtain ⟨p1, p2⟩ := u3 v hv
      by_cases e : unc R col v
      · have v1 : v < 100 := Classical.byContradiction fun n => u1 v (by omega) e
        have m1 := cntP_mo (T := (unc R col)) (U := (unc R col)) v (fun _ _ z => z)
        have le := cntP_le (T := (unc R col)) v
        refine Or.inr ⟨by rw [p1 e]; omega, by rw [p1 e]; omega, ?_⟩
        rw [p1 e]
        unfold slf
        rw [if_pos (by omega), Int.toNat_natCast, soU_p e]
      · refine Or.inl ⟨by rw [p2 e]; decide, ?_⟩
        unfold slf
        by_cases z : 0 ≤ (v : Int) ∧ (v : Int) < 100
        · rw [if_pos z, Int.toNat_natCast, soU_0 e]
        · rw [if_neg z]
    have m19 : x1 9 19 ≠ q0 := fun e => by rw [e, hm] at k19; cases k19
    have q3 : rfX x1 x2 x3 q1 R := rfX_fr hT hc hcf hQ6 hq (fun a ha => u4 a (fun e => by rw [e, k19] at ha; omega) (fun e => by rw [e, hm] at ha; omega))
    have q8 : rfX x8 x6 x3 q1 R := by
      rw [h5, w2, w3]
      exact rfX_val q3
    have r := sp73_r (so := (soU (unc R col) sl)) (nm := nm) hm hc hcf hQ6 hO sR hI.2.1 qi3 (fun b i hb hi h17 => by
      unfold slf
      rw [if_neg (fun z => by have := hld b i hb hi h17; omega)]) h6 0 (by decide) (Nat.zero_le _) (rfX_A q8 (mid_bg hI.2.1)) (by
      show (fI (x3 q0) 14).toInt = (nm : Int)
      rw [u5]; exact hnm)
    obtain ⟨-, r1, r2, r3⟩ := r
    exact Or.inr ⟨by decide, u1, r1, r2, by rw [r3]; exact u2⟩
  · intro x1 x2 x3 x4 x5 x6 x7 x8 x9 x10 x11 x12 h1 h2 h3 h4 h5 h6
    have eg := h1
    have ee := h2
    subst eg
    subst ee
    obtain ⟨w1, w2, w3, w4, w5⟩ := sp2_r (R := R) (col := col) (sl := sl) hT hm hS hC hcb h3 0 (by decide) (Nat.zero_le _) hsl (fun v hv => absurd hv (Nat.not_lt_zero v)) (fun v hv => absurd hv (Nat.not_lt_zero v)) (fun _ _ _ => rfl) rfl
    obtain ⟨u1, u2, u3, u4, u5⟩ := w5 rfl
    have cu := cntP_le (T := (unc R col)) 100
    have sR : slR (cB (x3 (x1 9 19))) (soU (unc R col) sl) := fun v hv => by
      obtain ⟨p1, p2⟩ := u3 v hv
      by_cases e : unc R col v
      · have v1 : v < 100 := Classical.byContradiction fun n => u1 v (by omega) e
        have m1 := cntP_mo (T := (unc R col)) (U := (unc R col)) v (fun _ _ z => z)
        have le := cntP_le (T := (unc R col)) v
        refine Or.inr ⟨by rw [p1 e]; omega, by rw [p1 e]; omega, ?_⟩
        rw [p1 e]
        unfold slf
        rw [if_pos (by omega), Int.toNat_natCast, soU_p e]
      · refine Or.inl ⟨by rw [p2 e]; decide, ?_⟩
        unfold slf
        by_cases z : 0 ≤ (v : Int) ∧ (v : Int) < 100
        · rw [if_pos z, Int.toNat_natCast, soU_0 e]
        · rw [if_neg z]
    have m19 : x1 9 19 ≠ q0 := fun e => by rw [e, hm] at k19; cases k19
    have q3 : rfX x1 x2 x3 q1 R := rfX_fr hT hc hcf hQ6 hq (fun a ha => u4 a (fun e => by rw [e, k19] at ha; omega) (fun e => by rw [e, hm] at ha; omega))
    have q8 : rfX x8 x6 x3 q1 R := by
      rw [h5, w2, w3]
      exact rfX_val q3
    have r := sp73_r (so := (soU (unc R col) sl)) (nm := nm) hm hc hcf hQ6 hO sR hI.2.1 qi3 (fun b i hb hi h17 => by
      unfold slf
      rw [if_neg (fun z => by have := hld b i hb hi h17; omega)]) h6 0 (by decide) (Nat.zero_le _) (rfX_A q8 (mid_bg hI.2.1)) (by
      show (fI (x3 q0) 14).toInt = (nm : Int)
      rw [u5]; exact hnm)
    exact absurd r.1 (by decide)
  · intro x1 x2 x3 x4 x5 x6 x7 x8 x9 x10 x11 x12 h1 h2 h3 h4 h5 h6
    have eg := h1
    have ee := h2
    subst eg
    subst ee
    obtain ⟨w1, w2, w3, w4, w5⟩ := sp2_r (R := R) (col := col) (sl := sl) hT hm hS hC hcb h3 0 (by decide) (Nat.zero_le _) hsl (fun v hv => absurd hv (Nat.not_lt_zero v)) (fun v hv => absurd hv (Nat.not_lt_zero v)) (fun _ _ _ => rfl) rfl
    obtain ⟨u1, u2, u3, u4, u5⟩ := w5 rfl
    have cu := cntP_le (T := (unc R col)) 100
    have sR : slR (cB (x3 (x1 9 19))) (soU (unc R col) sl) := fun v hv => by
      obtain ⟨p1, p2⟩ := u3 v hv
      by_cases e : unc R col v
      · have v1 : v < 100 := Classical.byContradiction fun n => u1 v (by omega) e
        have m1 := cntP_mo (T := (unc R col)) (U := (unc R col)) v (fun _ _ z => z)
        have le := cntP_le (T := (unc R col)) v
        refine Or.inr ⟨by rw [p1 e]; omega, by rw [p1 e]; omega, ?_⟩
        rw [p1 e]
        unfold slf
        rw [if_pos (by omega), Int.toNat_natCast, soU_p e]
      · refine Or.inl ⟨by rw [p2 e]; decide, ?_⟩
        unfold slf
        by_cases z : 0 ≤ (v : Int) ∧ (v : Int) < 100
        · rw [if_pos z, Int.toNat_natCast, soU_0 e]
        · rw [if_neg z]
    have m19 : x1 9 19 ≠ q0 := fun e => by rw [e, hm] at k19; cases k19
    have q3 : rfX x1 x2 x3 q1 R := rfX_fr hT hc hcf hQ6 hq (fun a ha => u4 a (fun e => by rw [e, k19] at ha; omega) (fun e => by rw [e, hm] at ha; omega))
    have q8 : rfX x8 x6 x3 q1 R := by
      rw [h5, w2, w3]
      exact rfX_val q3
    have r := sp73_r (so := (soU (unc R col) sl)) (nm := nm) hm hc hcf hQ6 hO sR hI.2.1 qi3 (fun b i hb hi h17 => by
      unfold slf
      rw [if_neg (fun z => by have := hld b i hb hi h17; omega)]) h6 0 (by decide) (Nat.zero_le _) (rfX_A q8 (mid_bg hI.2.1)) (by
      show (fI (x3 q0) 14).toInt = (nm : Int)
      rw [u5]; exact hnm)
    exact absurd r.1 (by decide)
  · intro x1 x2 x3 x4 x5 x6 x7 x8 x9 x10 x11 x12 h1 h2 h3 h4 h5 h6
    have eg := h1
    have ee := h2
    subst eg
    subst ee
    obtain ⟨w1, w2, w3, w4, w5⟩ := sp2_r (R := R) (col := col) (sl := sl) hT hm hS hC hcb h3 0 (by decide) (Nat.zero_le _) hsl (fun v hv => absurd hv (Nat.not_lt_zero v)) (fun v hv => absurd hv (Nat.not_lt_zero v)) (fun _ _ _ => rfl) rfl
    obtain ⟨u1, u2, u3, u4, u5⟩ := w5 rfl
    have cu := cntP_le (T := (unc R col)) 100
    have sR : slR (cB (x3 (x1 9 19))) (soU (unc R col) sl) := fun v hv => by
      obtain ⟨p1, p2⟩ := u3 v hv
      by_cases e : unc R col v
      · have v1 : v < 100 := Classical.byContradiction fun n => u1 v (by omega) e
        have m1 := cntP_mo (T := (unc R col)) (U := (unc R col)) v (fun _ _ z => z)
        have le := cntP_le (T := (unc R col)) v
        refine Or.inr ⟨by rw [p1 e]; omega, by rw [p1 e]; omega, ?_⟩
        rw [p1 e]
        unfold slf
        rw [if_pos (by omega), Int.toNat_natCast, soU_p e]
      · refine Or.inl ⟨by rw [p2 e]; decide, ?_⟩
        unfold slf
        by_cases z : 0 ≤ (v : Int) ∧ (v : Int) < 100
        · rw [if_pos z, Int.toNat_natCast, soU_0 e]
        · rw [if_neg z]
    have m19 : x1 9 19 ≠ q0 := fun e => by rw [e, hm] at k19; cases k19
    have q3 : rfX x1 x2 x3 q1 R := rfX_fr hT hc hcf hQ6 hq (fun a ha => u4 a (fun e => by rw [e, k19] at ha; omega) (fun e => by rw [e, hm] at ha; omega))
    have q8 : rfX x8 x6 x3 q1 R := by
      rw [h5, w2, w3]
      exact rfX_val q3
    have r := sp73_r (so := (soU (unc R col) sl)) (nm := nm) hm hc hcf hQ6 hO sR hI.2.1 qi3 (fun b i hb hi h17 => by
      unfold slf
      rw [if_neg (fun z => by have := hld b i hb hi h17; omega)]) h6 0 (by decide) (Nat.zero_le _) (rfX_A q8 (mid_bg hI.2.1)) (by
      show (fI (x3 q0) 14).toInt = (nm : Int)
      rw [u5]; exact hnm)
    exact absurd r.1 (by decide)
  · intro x1 x2 x3 x4 x5 x6 h1 h2 h3
    have eg := h1
    have ee := h2
    subst eg
    subst ee
    obtain ⟨w1, w2, w3, w4, w5⟩ := sp2_r (R := R) (col := col) (sl := sl) hT hm hS hC hcb h3 0 (by decide) (Nat.zero_le _) hsl (fun v hv => absurd hv (Nat.not_lt_zero v)) (fun v hv => absurd hv (Nat.not_lt_zero v)) (fun _ _ _ => rfl) rfl
    exact Or.inl ⟨by decide, w4 rfl⟩
end GXR
end
section
section GYR
variable {D : va_G} {I : FieldType → ClassId} {P : List Nat} {F : Nat → va_E} {γ0 el0 : Nat → Nat → Nat} {f nm sl : Nat} {Q R : gPg} {dp : Nat → Nat}
/-- LOAD lines set temporaries -/
def ldT (R : gPg) : Prop := ∀ b i, b < R.1 → i < R.2.1 b → R.2.2.1 b i 0 = 17 → 100 ≤ R.2.2.1 b i 1
theorem ldT_mg {k : Int} {b j : Nat} (h : ldT Q) (hm : mgb Q k b j) : ldT (mg1 Q b j) := fun d i hd hi h17 => by
  have hi2 : i < if d = b then Q.2.1 d - 1 else Q.2.1 d := hi
  have hx : (if d = b ∧ j ≤ i then i + 1 else i) < Q.2.1 d := by
    by_cases e : d = b
    · rw [if_pos e] at hi2; split <;> omega
    · rw [if_neg e] at hi2; rw [if_neg (fun z => e z.1)]; exact hi2
  have q := h d _ hd hx h17
  obtain ⟨hb, hj, h0, h1, h2, h3⟩ := hm
  show 100 ≤ rnV (max (Q.2.2.1 b j 1) (Q.2.2.1 b j 2)) (min (Q.2.2.1 b j 1) (Q.2.2.1 b j 2)) (Q.2.2.1 d (if d = b ∧ j ≤ i then i + 1 else i) 1)
  unfold rnV
  by_cases e : Q.2.2.1 d (if d = b ∧ j ≤ i then i + 1 else i) 1 = max (Q.2.2.1 b j 1) (Q.2.2.1 b j 2)
  · rw [if_pos e]
    rcases h3 with h3 | h3
    · omega
    · have a := h3.1
      have c := h3.2.1
      omega
  · rw [if_neg e]; exact q
theorem ldT_MG {k : Int} : ∀ {m : Nat} {Q R : gPg}, ldT Q → MGn k m Q R → ldT R
  | 0, _, _, h, g => by rw [g.1]; exact h
  | m + 1, _, _, h, ⟨b, j, q, g⟩ => ldT_MG (ldT_mg h q.1) g
theorem qOk_MG {k : Int} : ∀ {m : Nat} {Q R : gPg}, qOk Q → MGn k m Q R → qOk R
  | 0, _, _, h, g => by rw [g.1]; exact h
  | m + 1, _, _, h, ⟨b, j, q, g⟩ => qOk_MG (qOk_mg h q.1) g
def lT (l : Nat → Int) (_ : Nat) : Prop := l 0 = 17 → 100 ≤ l 1
theorem lT_m : ∀ (l : Nat → Int) (a c : Nat), a ≤ c → lT l a → lT l c := fun _ _ _ _ h => h
theorem lT_N {so : Nat → Int} {x : Int} {s : gSp6} (h1 : 100 ≤ s.2) (h : allL lT s) : allL lT (ldN so x s) := by
  unfold ldN
  by_cases c : slf so x = -1
  · rw [if_pos c]; exact h
  · rw [if_neg c]; exact allL_L lT_m h (Nat.le_succ _) (fun _ => by show (100 : Int) ≤ (s.2 : Int); omega)
theorem lT_Ln {so : Nat → Int} {l : Nat → Int} {s : gSp6} (h1 : 100 ≤ s.2) (hl : lT l 0) (h : allL lT s) : allL lT (spLn so l s) := by
  have r : allL lT (spR so l s) ∧ 100 ≤ (spR so l s).2 := by
    unfold spR
    split
    · exact ⟨lT_N h1 h, ldN_2 h1⟩
    · exact ⟨lT_N (ldN_2 h1) (lT_N h1 h), ldN_2 (ldN_2 h1)⟩
  unfold spLn spW
  by_cases c : slf so (l 1) = -1
  · rw [if_pos c]; exact allL_L lT_m r.1 (Nat.le_refl _) hl
  · rw [if_neg c]
    have p := (slf_p c).2
    have a1 := allL_L (l := mkL (l 0) ((spR so l s).2 : Int) (ldV so (l 2) s.2) (l 3) (spV so l s) (l 5)) (m := (spR so l s).2 + 1) lT_m r.1 (Nat.le_succ _) (fun _ => by have := r.2; show (100 : Int) ≤ ((spR so l s).2 : Int); omega)
    exact allL_L (s := (pgL (spR so l s).1 (mkL (l 0) ((spR so l s).2 : Int) (ldV so (l 2) s.2) (l 3) (spV so l s) (l 5)), (spR so l s).2 + 1)) lT_m a1 (Nat.le_refl _) (fun z => absurd (show (18 : Int) = 17 from z) (by decide))
theorem lT_B {so : Nat → Int} {ls : Nat → Nat → Int} {s : gSp6} (h0 : 0 < s.1.1) (h1 : 100 ≤ s.2) (h : allL lT s) : ∀ m, (∀ j, j < m → lT (ls j) 0) → allL lT (spB so ls m s)
  | 0, _ => h
  | m + 1, hl => lT_Ln (spB_k (so := so) (ls := ls) h0 h1 m).2.2 (hl m (Nat.lt_succ_self m)) (lT_B h0 h1 h m (fun j hj => hl j (by omega)))
theorem lT_P {so : Nat → Int} (h1 : 100 ≤ nm) : ∀ b, (∀ c j, c < b → j < R.2.1 c → lT (R.2.2.1 c j) 0) → allL lT (spP so R nm b)
  | 0, _ => fun b j hb _ => absurd hb (Nat.not_lt_zero b)
  | b + 1, h => lT_B (s := (pgOL R (spP so R nm b).1, (spP so R nm b).2)) (Nat.succ_pos _) (spP_k (so := so) (Q := R) h1 b).2.1 (allL_OL (lT_P h1 b (fun c j hc => h c j (by omega)))) (R.2.1 b) (fun j hj => h b j (Nat.lt_succ_self b) hj)
theorem ldT_P {so : Nat → Int} (h1 : 100 ≤ nm) (h : ldT R) : ldT (spP so R nm R.1).1 := fun b i hb hi h17 => lT_P (so := so) h1 R.1 (fun c j hc hj => h c j hc hj) b i hb hi h17
/-- a round's graph -/
def grX (γ : Nat → Nat → Nat) (F : Nat → va_E) (Q : gPg) : Prop := (∀ n k, n < 2000 → k < 2000 → (egS γ F n k = true ↔ JJ Q n k)) ∧ ∀ v, rSd (cB (F (γ 9 3))) v ↔ Sd Q false 2000 v
def kdX (γ0 γ : Nat → Nat → Nat) (f q0 q1 : Nat) (Q : gPg) : Prop := γ 0 q1 = 9 ∧ γ 1 q1 = f ∧ γ 0 q0 = 10 ∧ γ 9 = γ0 9 ∧ γ 6 f = Q.1
theorem grX_g {γ el : Nat → Nat → Nat} {F1 : Nat → va_E} {q0 q1 : Nat} {a2 : Int32} (hT : RS D I P F γ el) (hc : γ 0 q1 = 9) (hcf : γ 1 q1 = f) (hm : γ 0 q0 = 10) (hQ6 : γ 6 f = Q.1) (hq : rfX γ el F q1 Q) (hO : qOk Q) (hQ40 : Q.1 ≤ 40) (ha : a2.toInt = 0) (hg : rGr γ el F q1 (γ 6 (γ 1 q1)) (cB (F1 (γ 9 3))) (vA (γ 6 (γ 1 q1)))) (h : tr_RModel_graph D I γ el P F q0 q1 a2 F1) : grX γ F1 Q := by
  have hw := rfX_W.mp hq
  have hB := hB2_ hT hc hcf hQ6
  have hQ6' : γ 6 (γ 1 q1) = Q.1 := by rw [hcf]; exact hQ6
  refine ⟨fun n k hn hk => ?_, fun v => nm_Sd hT hB hw hO hQ6' hg v⟩
  rw [gr_tr hT hm hc hw hO hQ40 hQ6' hB ha h n k hn hk]
  exact Jn_J1 hO
theorem ga52_r {q0 : Nat} {q1 : Nat} {a2 : Int32} {s1 : List Nat} {s2 : Nat → va_E} {s3 : Nat → Nat → Nat} {s4 : Nat → Nat → Nat} {k : Nat} {e1 : Nat → va_E} {e2 : List Nat} {e3 : Nat → Nat → Nat} {e4 : Nat → Nat → Nat} (h : tl_RModel_giveAll_52 D I γ0 el0 f P F q0 q1 a2 s1 s2 s3 s4 k e1 e2 e3 e4) : ∀ Q : gPg, rfX s3 s4 s2 q1 Q → qOk Q → Q.1 ≤ 40 → kdX γ0 s3 f q0 q1 Q → grX s3 s2 Q → ∃ m R, MGn a2.toInt m Q R ∧ rfX e3 e4 e1 q1 R ∧ kdX γ0 e3 f q0 q1 R ∧ grX e3 e1 R ∧ RS D I e2 e1 e3 e4 ∧ (fI (e1 q0) 11).toInt = (fI (s2 q0) 11).toInt ∧ (fI (e1 q0) 14).toInt = (fI (s2 q0) 14).toInt := by
  refine h (fun s1 s2 s3 s4 k e1 e2 e3 e4 => ∀ Q : gPg, rfX s3 s4 s2 q1 Q → qOk Q → Q.1 ≤ 40 → kdX γ0 s3 f q0 q1 Q → grX s3 s2 Q → ∃ m R, MGn a2.toInt m Q R ∧ rfX e3 e4 e1 q1 R ∧ kdX γ0 e3 f q0 q1 R ∧ grX e3 e1 R ∧ RS D I e2 e1 e3 e4 ∧ (fI (e1 q0) 11).toInt = (fI (s2 q0) 11).toInt ∧ (fI (e1 q0) 14).toInt = (fI (s2 q0) 14).toInt) ?_ ?_
  · intro P_2 F_2 gm_2 el_2 x1 x2 x3 x4 x5 h1 h2 h3 h4 h5 h6 h7 h8 h9 h10 h11 h12 h13 h14 h15 h16 h17 h18 h19 h20 h21
    intro Q hq hO hQ40 hk hg
    obtain ⟨k1, k2, k3, k4, k5⟩ := hk
    have r := rme_tr h1 k3 k1 k2 k5 hq hO hg.1 h20
    rcases r with ⟨-, r2, r3, r4, r5, r6⟩ | ⟨r1, -⟩
    · rw [r3, r4, r5, r6]
      exact ⟨0, Q, ⟨rfl, r2⟩, hq, ⟨k1, k2, k3, k4, k5⟩, hg, h1, rfl, rfl⟩
    · exact absurd h21 r1
  · intro P_2 F_2 gm_2 el_2 x1 x2 x3 x4 x5 x6 k e1 e2 e3 e4 h1 h2 h3 h4 h5 h6 h7 h8 h9 h10 h11 h12 h13 h14 h15 h16 h17 h18 h19 h20 h21 h22 h23 h24 h25 h26 ih
    intro Q hq hO hQ40 hk hg
    obtain ⟨k1, k2, k3, k4, k5⟩ := hk
    have r := rme_tr h1 k3 k1 k2 k5 hq hO hg.1 h20
    rcases r with ⟨r1, -⟩ | ⟨-, b, j, r2, r3, r4, r5, r6, r7, r8⟩
    · exact absurd r1 h21
    have hT2 : RS D I x1 x2 x3 x4 := (h9).1
    have hQ6' : x3 6 f = (mg1 Q b j).1 := r4
    have O2 := qOk_mg hO r2.1
    have gr := grX_g hT2 r5 r6 r7 hQ6' r3 O2 hQ40 (by decide) (h24 rfl) h26
    have q6 : rfX x3 x4 x6 q1 (mg1 Q b j) := rfX_rs hT2 r5 r6 hQ6' r3 h23 ⟨List.not_mem_nil, List.not_mem_nil, List.not_mem_nil⟩
    have eq6 := h25
    obtain ⟨m, R, s1, s2, s3, s4, s5, s6, s7⟩ := ih (mg1 Q b j) q6 O2 hQ40 ⟨r5, r6, r7, r8.trans k4, hQ6'⟩ gr
    refine ⟨m + 1, R, ⟨b, j, r2, s1⟩, s2, s3, s4, s5, ?_, ?_⟩
    · rw [s6, eq6]; exact h16
    · rw [s7, eq6]; exact h17
theorem Ed_c {Q R : gPg} (h1 : R.1 = Q.1) (h2 : ∀ b, b < Q.1 → R.2.2.2 b = Q.2.2.2 b) : Ed R = Ed Q := by
  funext a b
  apply propext
  unfold Ed
  rw [h1]
  exact ⟨fun ⟨x, i, y, z⟩ => ⟨x, i, y, by rw [← h2 a x]; exact z⟩, fun ⟨x, i, y, z⟩ => ⟨x, i, y, by rw [h2 a x]; exact z⟩⟩
theorem dpt_c {Q R : gPg} (h1 : R.1 = Q.1) (h2 : ∀ b, b < Q.1 → R.2.2.2 b = Q.2.2.2 b) : dpt R = dpt Q := by
  have e := Ed_c h1 h2
  have eI : InL R = InL Q := by
    funext h b
    unfold InL clo rAll
    rw [e]
  funext b
  unfold dpt
  rw [eI, h1]
theorem dpt_MG {k : Int} : ∀ {m : Nat} {Q R : gPg}, MGn k m Q R → dpt R = dpt Q
  | 0, _, _, g => by rw [g.1]
  | m + 1, _, _, ⟨b, j, q, g⟩ => (dpt_MG g).trans (dpt_c rfl (fun _ _ => rfl))
theorem dpt_P {so : Nat → Int} (h1 : 100 ≤ nm) : dpt (spP so R nm R.1).1 = dpt R := dpt_c (spP_k (so := so) (Q := R) h1 R.1).1 (fun b hb => spP_g h1 R.1 b hb)
theorem rs_12 {γ el : Nat → Nat → Nat} {F1 : Nat → va_E} {m : Nat} {x : Int32} (hT : RS D I P F γ el) (hm : γ 0 m = 10) (n : ∀ b, b ≠ m → F1 b = F b) (e : F1 m = cF (F m) 12 (.int x)) : RS D I P F1 γ el := by
  obtain ⟨r28, r35, v9, v10, v11, v12, v13, v14, v23, v24, v25, v26, v27, v30, v32, v33, v34, he, hM1, hK, hM2⟩ := rk10_m (show rk_10 γ (F m) from RS_o hT hm)
  rw [he] at e
  exact RS_md hT hm n (v12 := x) e hM1 hK hM2
theorem ga28_r {q0 : Nat} {q1 : Nat} {a2 : Int32} {s1 : List Nat} {s2 : Nat → va_E} {s3 : Nat → Nat → Nat} {s4 : Nat → Nat → Nat} {s5 : Int32} {k : Nat} {e1 : Nat → va_E} {e2 : List Nat} {e3 : Nat → Nat → Nat} {e4 : Nat → Nat → Nat} {e5 : Int32} (hk1 : 1 ≤ a2.toInt) (hk2 : a2.toInt ≤ 32) (h : tl_RModel_giveAll_28 D I γ0 el0 f P F q0 q1 a2 s1 s2 s3 s4 s5 k e1 e2 e3 e4 e5) : ∀ (Q : gPg) (nm sl t : Nat), s5.toInt = (t : Int) → 1 ≤ t → t ≤ 41 → rfX s3 s4 s2 q1 Q → qOk Q → gvI Q nm → ldT Q → kdX γ0 s3 f q0 q1 Q → dpt Q = dp → (fI (s2 q0) 14).toInt = (nm : Int) → (fI (s2 q0) 11).toInt = (sl : Int) → ∃ r Z, GVr a2.toInt dp (41 - t) t Q nm sl r Z ∧ (k = 87 → r = e5.toInt ∧ 1 ≤ r ∧ rfX e3 e4 e1 q1 Z.1 ∧ kdX γ0 e3 f q0 q1 Z.1 ∧ (∀ u, u < 2000 → (cB (e1 (e3 9 17)) u).toInt = Z.2.1 u) ∧ (fI (e1 q0) 11).toInt = (Z.2.2 : Int)) ∧ (k ≠ 87 → r = -1) := by
  refine h (fun s1 s2 s3 s4 s5 k e1 e2 e3 e4 e5 => ∀ (Q : gPg) (nm sl t : Nat), s5.toInt = (t : Int) → 1 ≤ t → t ≤ 41 → rfX s3 s4 s2 q1 Q → qOk Q → gvI Q nm → ldT Q → kdX γ0 s3 f q0 q1 Q → dpt Q = dp → (fI (s2 q0) 14).toInt = (nm : Int) → (fI (s2 q0) 11).toInt = (sl : Int) → ∃ r Z, GVr a2.toInt dp (41 - t) t Q nm sl r Z ∧ (k = 87 → r = e5.toInt ∧ 1 ≤ r ∧ rfX e3 e4 e1 q1 Z.1 ∧ kdX γ0 e3 f q0 q1 Z.1 ∧ (∀ u, u < 2000 → (cB (e1 (e3 9 17)) u).toInt = Z.2.1 u) ∧ (fI (e1 q0) 11).toInt = (Z.2.2 : Int)) ∧ (k ≠ 87 → r = -1)) ?_ ?_ ?_ ?_ ?_
  · intro P_1 F_1 gm_1 el_1 l3_1 h1 h2 h3 h4 h5 h6 h7 h8 h9
    intro Q nm sl t ht h1t ht41 hq hO hi hL hkd hdp hn14 hn11
    have e : t = 41 := by omega
    rw [e]
    exact ⟨-1, (pgO, fun _ => -1, 0), ⟨rfl, rfl⟩, fun z => (nomatch z), fun _ => rfl⟩
  · intro P_1 F_1 gm_1 el_1 l3_1 x1 x2 x3 x4 x5 x6 x7 x8 x9 x10 x11 x12 x13 x14 x15 x16 x17 x18 k e1 e2 e3 e4 e5 h1 h2 h3 h4 h5 h6 h7 h8 h9 h10 h11 h12 h13 h14 h15 h16 h17 h18 h19 h20 h21 h22 h23 h24 h25 h26 h27 h28 h29 h30 h31 h32 h33 h34 h35 h36 h37 h38 h39 h40 h41 ih
    intro Q nm sl t ht h1t ht41 hq hO hi hL hkd hdp hn14 hn11
    have hi' := hi
    obtain ⟨i1, i2, i3, i4, i5, i6⟩ := hi
    obtain ⟨k1, k2, k3, k4, k5⟩ := hkd
    have cr := crw_tr h2 k1 k2 k5 hq (by omega) h10
    have gr := grX_g h2 k1 k2 k3 k5 hq hO i5 (by decide) (h14 rfl) h16
    have q2 : rfX gm_1 el_1 x2 q1 Q := rfX_rs h2 k1 k2 k5 hq h13 ⟨List.not_mem_nil, List.not_mem_nil, List.not_mem_nil⟩
    have eq2 := h15
    obtain ⟨m, R, s1, s2, s3, s4, s5, s6, s7⟩ := ga52_r h17 Q q2 hO i5 ⟨k1, k2, k3, k4, k5⟩ gr
    obtain ⟨gR, sR⟩ := gvI_m hi' s1
    have nR : R.1 = Q.1 := (MGn_f i1 i1 s1).2.2.2.1
    have OR := qOk_MG hO s1
    have LR := ldT_MG hL s1
    obtain ⟨l1, l2, l3, l4, l5⟩ := s3
    have hB := hB2_ s5 l1 l2 l5
    obtain ⟨w1, w2⟩ := wg_r s5 l3 l1 hB (rfX_W.mp s2) OR gR.2.2.2.2.1 (by omega) h22
    obtain ⟨kk3, kk5, kk15, kk16, kk17, kk18, kk19, kk11⟩ := md_kd9 s5 l3
    have dR : dpt R = dp := (dpt_MG s1).trans hdp
    have T7 : RS D I x4 x7 x5 x6 := h18
    have G7 : ∀ n k, n < 2000 → k < 2000 → (egS x5 x7 n k = true ↔ JJ R n k) := fun n k hn hk => by
      have q := s4.1 n k hn hk
      unfold egS at q ⊢
      rw [w2 _ (fun e => by have q2 := kk11 n hn; rw [e, (md_kd5 s5 l3).1] at q2; cases q2) (fun e => by have q2 := kk11 n hn; rw [e, kk5] at q2; cases q2)]; exact q
    have S7 : ∀ v, rSd (cB (x7 (x5 9 3))) v ↔ Sd R false 2000 v := fun v => by
      rw [h21]; exact s4.2 v
    obtain ⟨n, p, c1, c2, c3, c4⟩ := rco_tr (Q := R) T7 l3 (by omega) hk2 G7 S7 h29
    have ta : TA (JJ R) (fun v => wPg R dp v R.1) a2.toInt n (Sd R false 2000) (dgc R) p := TA_c (fun v hv => ⟨by
      have q := w1 v hv.1
      rw [dR] at q
      exact q, rfl⟩) c1
    have rd : rnd a2.toInt dp Q R n p := ⟨⟨m, s1⟩, ta⟩
    have ef : 41 - t = (40 - t) + 1 := by omega
    rw [ef]
    have bd : bdN (JJ R) a2.toInt p n n := Classical.byContradiction fun z => h30 (c3.mpr z)
    have m3 : x5 9 3 ≠ q0 := fun e => by rw [e, l3] at kk3; cases kk3
    have m17 : x5 9 17 ≠ q0 := fun e => by rw [e, l3] at kk17; cases kk17
    have T9 : RS D I x4 x9 x5 x6 := h24
    have T12 : RS D I x4 x12 x5 x6 := rs_12 T9 l3 h33 h34
    have q7 : rfX x5 x6 x7 q1 R := rfX_rs s5 l1 l2 l5 s2 h19 ⟨List.not_mem_nil, List.not_mem_nil, List.not_mem_nil⟩
    have q9 : rfX x5 x6 x9 q1 R := rfX_rs T7 l1 l2 l5 q7 h25 ⟨List.not_mem_nil, List.not_mem_nil, List.not_mem_nil⟩
    have q12 : rfX x5 x6 x12 q1 R := rfX_fr T9 l1 l2 l5 q9 (fun a ha => h33 a (fun e => by rw [e, l3] at ha; omega))
    have e9 : x9 q0 = x3 q0 := (h27).trans h20
    obtain ⟨r28, r35, v9, v10, v11, v12, v13, v14, v23, v24, v25, v26, v27, v30, v32, v33, v34, he, hM1, -⟩ := rk10_m (show rk_10 x5 (x9 q0) from RS_o T9 l3)
    have e12 : x12 q0 = mdE x5 r28 r35 v9 v10 v11 x11 v13 v14 v23 v24 v25 v26 v27 v30 v32 v33 v34 := by rw [h34, he]; rfl
    have z11 : (fI (x12 q0) 11).toInt = (sl : Int) := by
      rw [e12]
      show v11.toInt = _
      have q := s6
      rw [eq2, hn11, ← e9, he] at q
      exact q
    have z14 : (fI (x12 q0) 14).toInt = (nm : Int) := by
      rw [e12]
      show v14.toInt = _
      have q := s7
      rw [eq2, hn14, ← e9, he] at q
      exact q
    have sl2 : sl ≤ 100 := by
      have q := hM1.2.2.1.2
      rw [e12] at z11
      have z' : v11.toInt = (sl : Int) := z11
      omega
    have sp := spi_r (R := R) (nm := nm) (sl := sl) (col := clN (JJ R) a2.toInt p n n) T12 l3 l1 l2 l5 q12 OR gR (fun v => by
      rw [h33 _ m3, h28]; exact S7 v) (fun v hv => by
      rw [h33 _ m17]; exact c2 v hv) (fun v => (clN_b (J := JJ R) (p := p) (n := n) (by omega) n v).1) z11 sl2 z14 LR h39
    rcases sp with ⟨g1, -⟩ | ⟨-, g2, g3, g4, g5⟩
    · exact absurd g1 h40
    obtain ⟨qi1, qi2, qi3, qi4⟩ := spP_i (so := soU (unc R (clN (JJ R) a2.toInt p n n)) sl) gR
    have nQ : (spP (soU (unc R (clN (JJ R) a2.toInt p n n)) sl) R nm R.1).1.1 = R.1 := (spP_k (so := soU (unc R (clN (JJ R) a2.toInt p n n)) sl) (Q := R) gR.2.1 R.1).1
    have skS := h35
    obtain ⟨r, Z, r1, r2, r3⟩ := ih (spP (soU (unc R (clN (JJ R) a2.toInt p n n)) sl) R nm R.1).1 (spP (soU (unc R (clN (JJ R) a2.toInt p n n)) sl) R nm R.1).2 (sl + cntP (unc R (clN (JJ R) a2.toInt p n n)) 100) (t + 1) (by omega) (by omega) (by omega) g3 (qOk_sp gR.2.1 OR qi3) qi2 (ldT_P gR.2.1 LR) ⟨rSk_k skS (show rKd x5 q1 9 from l1) (by decide) (by decide), rSk_1 skS (show rKd x5 q1 9 from l1) (by decide) l2, rSk_k skS (show rKd x5 q0 10 from l3) (by decide) (by decide), (rSk_9 skS).trans l4, by rw [h36, nQ]; exact l5⟩ ((dpt_P gR.2.1).trans dR) g4 g5
    rw [show 41 - (t + 1) = 40 - t by omega] at r1
    exact ⟨r, Z, ⟨R, n, p, rd, Or.inr (Or.inr ⟨bd, g2, r1⟩)⟩, r2, r3⟩
  · intro P_1 F_1 gm_1 el_1 l3_1 x1 x2 x3 x4 x5 x6 x7 x8 x9 x10 x11 x12 x13 x14 x15 x16 x17 h1 h2 h3 h4 h5 h6 h7 h8 h9 h10 h11 h12 h13 h14 h15 h16 h17 h18 h19 h20 h21 h22 h23 h24 h25 h26 h27 h28 h29 h30 h31 h32 h33 h34 h35 h36 h37 h38 h39 h40
    intro Q nm sl t ht h1t ht41 hq hO hi hL hkd hdp hn14 hn11
    have hi' := hi
    obtain ⟨i1, i2, i3, i4, i5, i6⟩ := hi
    obtain ⟨k1, k2, k3, k4, k5⟩ := hkd
    have cr := crw_tr h2 k1 k2 k5 hq (by omega) h10
    have gr := grX_g h2 k1 k2 k3 k5 hq hO i5 (by decide) (h14 rfl) h16
    have q2 : rfX gm_1 el_1 x2 q1 Q := rfX_rs h2 k1 k2 k5 hq h13 ⟨List.not_mem_nil, List.not_mem_nil, List.not_mem_nil⟩
    have eq2 := h15
    obtain ⟨m, R, s1, s2, s3, s4, s5, s6, s7⟩ := ga52_r h17 Q q2 hO i5 ⟨k1, k2, k3, k4, k5⟩ gr
    obtain ⟨gR, sR⟩ := gvI_m hi' s1
    have nR : R.1 = Q.1 := (MGn_f i1 i1 s1).2.2.2.1
    have OR := qOk_MG hO s1
    have LR := ldT_MG hL s1
    obtain ⟨l1, l2, l3, l4, l5⟩ := s3
    have hB := hB2_ s5 l1 l2 l5
    obtain ⟨w1, w2⟩ := wg_r s5 l3 l1 hB (rfX_W.mp s2) OR gR.2.2.2.2.1 (by omega) h22
    obtain ⟨kk3, kk5, kk15, kk16, kk17, kk18, kk19, kk11⟩ := md_kd9 s5 l3
    have dR : dpt R = dp := (dpt_MG s1).trans hdp
    have T7 : RS D I x4 x7 x5 x6 := h18
    have G7 : ∀ n k, n < 2000 → k < 2000 → (egS x5 x7 n k = true ↔ JJ R n k) := fun n k hn hk => by
      have q := s4.1 n k hn hk
      unfold egS at q ⊢
      rw [w2 _ (fun e => by have q2 := kk11 n hn; rw [e, (md_kd5 s5 l3).1] at q2; cases q2) (fun e => by have q2 := kk11 n hn; rw [e, kk5] at q2; cases q2)]; exact q
    have S7 : ∀ v, rSd (cB (x7 (x5 9 3))) v ↔ Sd R false 2000 v := fun v => by
      rw [h21]; exact s4.2 v
    obtain ⟨n, p, c1, c2, c3, c4⟩ := rco_tr (Q := R) T7 l3 (by omega) hk2 G7 S7 h29
    have ta : TA (JJ R) (fun v => wPg R dp v R.1) a2.toInt n (Sd R false 2000) (dgc R) p := TA_c (fun v hv => ⟨by
      have q := w1 v hv.1
      rw [dR] at q
      exact q, rfl⟩) c1
    have rd : rnd a2.toInt dp Q R n p := ⟨⟨m, s1⟩, ta⟩
    have ef : 41 - t = (40 - t) + 1 := by omega
    rw [ef]
    have bd : bdN (JJ R) a2.toInt p n n := Classical.byContradiction fun z => h30 (c3.mpr z)
    have m3 : x5 9 3 ≠ q0 := fun e => by rw [e, l3] at kk3; cases kk3
    have m17 : x5 9 17 ≠ q0 := fun e => by rw [e, l3] at kk17; cases kk17
    have T9 : RS D I x4 x9 x5 x6 := h24
    have T12 : RS D I x4 x12 x5 x6 := rs_12 T9 l3 h33 h34
    have q7 : rfX x5 x6 x7 q1 R := rfX_rs s5 l1 l2 l5 s2 h19 ⟨List.not_mem_nil, List.not_mem_nil, List.not_mem_nil⟩
    have q9 : rfX x5 x6 x9 q1 R := rfX_rs T7 l1 l2 l5 q7 h25 ⟨List.not_mem_nil, List.not_mem_nil, List.not_mem_nil⟩
    have q12 : rfX x5 x6 x12 q1 R := rfX_fr T9 l1 l2 l5 q9 (fun a ha => h33 a (fun e => by rw [e, l3] at ha; omega))
    have e9 : x9 q0 = x3 q0 := (h27).trans h20
    obtain ⟨r28, r35, v9, v10, v11, v12, v13, v14, v23, v24, v25, v26, v27, v30, v32, v33, v34, he, hM1, -⟩ := rk10_m (show rk_10 x5 (x9 q0) from RS_o T9 l3)
    have e12 : x12 q0 = mdE x5 r28 r35 v9 v10 v11 x11 v13 v14 v23 v24 v25 v26 v27 v30 v32 v33 v34 := by rw [h34, he]; rfl
    have z11 : (fI (x12 q0) 11).toInt = (sl : Int) := by
      rw [e12]
      show v11.toInt = _
      have q := s6
      rw [eq2, hn11, ← e9, he] at q
      exact q
    have z14 : (fI (x12 q0) 14).toInt = (nm : Int) := by
      rw [e12]
      show v14.toInt = _
      have q := s7
      rw [eq2, hn14, ← e9, he] at q
      exact q
    have sl2 : sl ≤ 100 := by
      have q := hM1.2.2.1.2
      rw [e12] at z11
      have z' : v11.toInt = (sl : Int) := z11
      omega
    have sp := spi_r (R := R) (nm := nm) (sl := sl) (col := clN (JJ R) a2.toInt p n n) T12 l3 l1 l2 l5 q12 OR gR (fun v => by
      rw [h33 _ m3, h28]; exact S7 v) (fun v hv => by
      rw [h33 _ m17]; exact c2 v hv) (fun v => (clN_b (J := JJ R) (p := p) (n := n) (by omega) n v).1) z11 sl2 z14 LR h39
    rcases sp with ⟨-, g2⟩ | ⟨g1, -⟩
    · exact ⟨-1, (pgO, fun _ => -1, 0), ⟨R, n, p, rd, Or.inr (Or.inl ⟨bd, g2, rfl, rfl⟩)⟩, fun z => (nomatch z), fun _ => rfl⟩
    · exact absurd h40 g1
  · intro P_1 F_1 gm_1 el_1 l3_1 x1 x2 x3 x4 x5 x6 x7 x8 x9 h1 h2 h3 h4 h5 h6 h7 h8 h9 h10 h11 h12 h13 h14 h15 h16 h17 h18 h19 h20 h21 h22 h23 h24 h25 h26 h27 h28 h29 h30
    intro Q nm sl t ht h1t ht41 hq hO hi hL hkd hdp hn14 hn11
    have hi' := hi
    obtain ⟨i1, i2, i3, i4, i5, i6⟩ := hi
    obtain ⟨k1, k2, k3, k4, k5⟩ := hkd
    have cr := crw_tr h2 k1 k2 k5 hq (by omega) h10
    have gr := grX_g h2 k1 k2 k3 k5 hq hO i5 (by decide) (h14 rfl) h16
    have q2 : rfX gm_1 el_1 x2 q1 Q := rfX_rs h2 k1 k2 k5 hq h13 ⟨List.not_mem_nil, List.not_mem_nil, List.not_mem_nil⟩
    have eq2 := h15
    obtain ⟨m, R, s1, s2, s3, s4, s5, s6, s7⟩ := ga52_r h17 Q q2 hO i5 ⟨k1, k2, k3, k4, k5⟩ gr
    obtain ⟨gR, sR⟩ := gvI_m hi' s1
    have nR : R.1 = Q.1 := (MGn_f i1 i1 s1).2.2.2.1
    have OR := qOk_MG hO s1
    have LR := ldT_MG hL s1
    obtain ⟨l1, l2, l3, l4, l5⟩ := s3
    have hB := hB2_ s5 l1 l2 l5
    obtain ⟨w1, w2⟩ := wg_r s5 l3 l1 hB (rfX_W.mp s2) OR gR.2.2.2.2.1 (by omega) h22
    obtain ⟨kk3, kk5, kk15, kk16, kk17, kk18, kk19, kk11⟩ := md_kd9 s5 l3
    have dR : dpt R = dp := (dpt_MG s1).trans hdp
    have T7 : RS D I x4 x7 x5 x6 := h18
    have G7 : ∀ n k, n < 2000 → k < 2000 → (egS x5 x7 n k = true ↔ JJ R n k) := fun n k hn hk => by
      have q := s4.1 n k hn hk
      unfold egS at q ⊢
      rw [w2 _ (fun e => by have q2 := kk11 n hn; rw [e, (md_kd5 s5 l3).1] at q2; cases q2) (fun e => by have q2 := kk11 n hn; rw [e, kk5] at q2; cases q2)]; exact q
    have S7 : ∀ v, rSd (cB (x7 (x5 9 3))) v ↔ Sd R false 2000 v := fun v => by
      rw [h21]; exact s4.2 v
    obtain ⟨n, p, c1, c2, c3, c4⟩ := rco_tr (Q := R) T7 l3 (by omega) hk2 G7 S7 h29
    have ta : TA (JJ R) (fun v => wPg R dp v R.1) a2.toInt n (Sd R false 2000) (dgc R) p := TA_c (fun v hv => ⟨by
      have q := w1 v hv.1
      rw [dR] at q
      exact q, rfl⟩) c1
    have rd : rnd a2.toInt dp Q R n p := ⟨⟨m, s1⟩, ta⟩
    have ef : 41 - t = (40 - t) + 1 := by omega
    rw [ef]
    have q7 : rfX x5 x6 x7 q1 R := rfX_rs s5 l1 l2 l5 s2 h19 ⟨List.not_mem_nil, List.not_mem_nil, List.not_mem_nil⟩
    have q9 : rfX x5 x6 x9 q1 R := rfX_rs T7 l1 l2 l5 q7 h25 ⟨List.not_mem_nil, List.not_mem_nil, List.not_mem_nil⟩
    have e9 : x9 q0 = x3 q0 := (h27).trans h20
    have z11 : (fI (x9 q0) 11).toInt = (sl : Int) := by
      have q := s6
      rw [eq2, hn11, ← e9] at q
      exact q
    exact ⟨(t : Int), (R, clN (JJ R) a2.toInt p n n, sl), ⟨R, n, p, rd, Or.inl ⟨c3.mp h30, rfl, rfl⟩⟩, fun _ => ⟨ht.symm, by omega, q9, ⟨l1, l2, l3, l4, l5⟩, c2, z11⟩, fun z => absurd rfl z⟩
  · intro P_1 F_1 gm_1 el_1 l3_1 x1 h1 h2 h3 h4 h5 h6 h7 h8 h9 h10 h11
    intro Q nm sl t ht h1t ht41 hq hO hi hL hkd hdp hn14 hn11
    have hi' := hi
    obtain ⟨i1, i2, i3, i4, i5, i6⟩ := hi
    obtain ⟨k1, k2, k3, k4, k5⟩ := hkd
    have cr := crw_tr h2 k1 k2 k5 hq (by omega) h10
    omega
end GYR
end
section
/-! give: what the model leaves where it refuses -/
theorem T100 {Q : gPg} (hb : ∀ b, b < Q.1 → blC (Q.2.1 b) (Q.2.2.1 b) (Q.2.2.2 b)) : ∀ v, 100 ≤ v → ¬ lz Q v := fun v hv z => by
  obtain ⟨c, i, q1, q2, q3⟩ := Lv_us6 z
  have d := us_lt (nmO_P hb) q1 q2 q3
  omega
theorem no2_fr {D : va_G} {I : FieldType → ClassId} {γ el : Nat → Nat → Nat} {F o1 : Nat → va_E} {q0 : Nat} {a1 : Int32} (h : tr_RModel_no2 D I γ el F q0 a1 o1) : ∀ b, b ≠ q0 → o1 b = F b := by
  refine h (fun o1 => ∀ b, b ≠ q0 → o1 b = F b) ?_
  · intro x1 h1 h2
    exact h1
theorem gi_k {D : va_G} {I : FieldType → ClassId} {P P2 : List Nat} {F F2 : Nat → va_E} {γ0 el0 γ2 el2 : Nat → Nat → Nat} {f fo q0 p p2 : Nat} {a1 r : Int32} (hT : RS D I P F γ0 el0) (hm : γ0 0 q0 = 10) (h : tr_RModel_give D I γ0 el0 f fo P F q0 a1 p p2 r P2 F2 γ2 el2) : (a1.toInt < 1 ∨ 32 < a1.toInt) ∨ (fI (F q0) 9).toInt = 0 → γ2 = γ0 ∧ el2 = el0 ∧ (∀ b, b ≠ q0 → F2 b = F b) ∧ fI (F2 q0) 10 = fI (F q0) 10 := by
  refine h (fun _ _ F2 γ2 el2 => (a1.toInt < 1 ∨ 32 < a1.toInt) ∨ (fI (F q0) 9).toInt = 0 → γ2 = γ0 ∧ el2 = el0 ∧ (∀ b, b ≠ q0 → F2 b = F b) ∧ fI (F2 q0) 10 = fI (F q0) 10) ?_ ?_ ?_ ?_ ?_
  · intro x1 x2 x3 x4 h1 h2 h3 h4 h5 h6 h7 h8 h9 h10
    intro _
    have eg := h1
    have ee := h2
    subst eg
    subst ee
    have hT3 : RS D I P x3 x1 x2 := rs_30 hT hm h3 h4
    have hk3 : rk_10 x1 (x3 q0) := RS_o hT3 hm
    refine ⟨rfl, rfl, fun b hb => (no2_fr h10 b hb).trans (h3 b hb), ?_⟩
    rw [no_tr h10, (cF30 hk3).2 10 (by decide), h4, (cF30 (RS_o hT hm)).2 10 (by decide)]
  · intro x1 x2 x3 x4 x5 x6 x7 x8 x9 x10 x11 x12 x13 x14 h1 h2 h3 h4 h5 h6 h7 h8 h9 h10 h11 h12 h13 h14 h15 h16 h17 h18 h19 h20 h21 h22 h23 h24
    intro e9
    rw [h4, (cF30 (RS_o hT hm)).2 9 (by decide)] at h7
    rw [← h7] at h8
    have w1 := h5
    have w2 := h6
    exact absurd e9 (fun z => by omega)
  · intro x1 x2 x3 x4 x5 x6 x7 x8 x9 x10 x11 x12 x13 x14 h1 h2 h3 h4 h5 h6 h7 h8 h9 h10 h11 h12 h13 h14 h15 h16 h17 h18 h19 h20 h21 h22 h23 h24
    intro e9
    rw [h4, (cF30 (RS_o hT hm)).2 9 (by decide)] at h7
    rw [← h7] at h8
    have w1 := h5
    have w2 := h6
    exact absurd e9 (fun z => by omega)
  · intro x1 x2 x3 x4 x5 h1 h2 h3 h4 h5 h6 h7 h8 h9 h10 h11 h12 h13
    intro _
    have eg := h1
    have ee := h2
    subst eg
    subst ee
    have hT3 : RS D I P x3 x1 x2 := rs_30 hT hm h3 h4
    have hk3 : rk_10 x1 (x3 q0) := RS_o hT3 hm
    refine ⟨rfl, rfl, fun b hb => (no2_fr h13 b hb).trans (h3 b hb), ?_⟩
    rw [no_tr h13, (cF30 hk3).2 10 (by decide), h4, (cF30 (RS_o hT hm)).2 10 (by decide)]
  · intro x1 x2 x3 x4 h1 h2 h3 h4 h5 h6 h7 h8 h9 h10 h11
    intro _
    have eg := h1
    have ee := h2
    subst eg
    subst ee
    have hT3 : RS D I P x3 x1 x2 := rs_30 hT hm h3 h4
    have hk3 : rk_10 x1 (x3 q0) := RS_o hT3 hm
    refine ⟨rfl, rfl, fun b hb => (no2_fr h11 b hb).trans (h3 b hb), ?_⟩
    rw [no_tr h11, (cF30 hk3).2 10 (by decide), h4, (cF30 (RS_o hT hm)).2 10 (by decide)]
theorem gvx_0 {a1 : Int32} (h : tx_SpillForge_give_0 a1) : a1.toInt < 1 ∨ 32 < a1.toInt := by
  refine h (a1.toInt < 1 ∨ 32 < a1.toInt) ?_ ?_
  · intro h1
    omega
  · intro h1 h2
    omega
theorem gvx_1 {a1 hp : Int32} (h : tx_SpillForge_give_1 a1 hp) : 1 ≤ a1.toInt ∧ a1.toInt ≤ 32 ∧ hp.toInt = 0 := by
  refine h (1 ≤ a1.toInt ∧ a1.toInt ≤ 32 ∧ hp.toInt = 0) ?_
  · intro h1 h2 h3
    exact ⟨h1, h2, h3⟩
theorem rnx_0 {a2 : Int32} (h : tx_SpillForge_run_0 a2) : a2.toInt < 1 ∨ 100000 < a2.toInt := by
  refine h (a2.toInt < 1 ∨ 100000 < a2.toInt) ?_ ?_
  · intro h1
    omega
  · intro h1 h2
    omega
theorem exs_x {a1 hp gd o1 : Int32} (h : tr_SpillForge_exists a1 hp gd o1) : (a1.toInt = 0 ∧ o1 = hp) ∨ (a1.toInt ≠ 0 ∧ o1 = gd) := by
  refine h (fun o1 => (a1.toInt = 0 ∧ o1 = hp) ∨ (a1.toInt ≠ 0 ∧ o1 = gd)) ?_ ?_
  · intro h1
    exact Or.inl ⟨h1, rfl⟩
  · intro h1
    exact Or.inr ⟨h1, rfl⟩
theorem tdc_x {a1 ra rs rn rk re o1 : Int32} (h : tr_SpillForge_told a1 ra rs rn rk re o1) : (a1.toInt = 0 ∧ o1 = ra) ∨ (a1.toInt = 1 ∧ o1 = rs) ∨ (a1.toInt = 2 ∧ o1 = rn) ∨ (a1.toInt = 3 ∧ o1 = rk) ∨ (a1.toInt = 4 ∧ o1 = re) := by
  refine h (fun o1 => (a1.toInt = 0 ∧ o1 = ra) ∨ (a1.toInt = 1 ∧ o1 = rs) ∨ (a1.toInt = 2 ∧ o1 = rn) ∨ (a1.toInt = 3 ∧ o1 = rk) ∨ (a1.toInt = 4 ∧ o1 = re)) ?_ ?_ ?_ ?_ ?_
  · intro h1
    exact Or.inl ⟨h1, rfl⟩
  · intro h1
    exact Or.inr (Or.inl ⟨h1, rfl⟩)
  · intro h1
    exact Or.inr (Or.inr (Or.inl ⟨h1, rfl⟩))
  · intro h1
    exact Or.inr (Or.inr (Or.inr (Or.inl ⟨h1, rfl⟩)))
  · intro h1
    exact Or.inr (Or.inr (Or.inr (Or.inr ⟨h1, rfl⟩)))
theorem tdx_0 {a1 : Int32} (h : tx_SpillForge_told_0 a1) : a1.toInt < 0 ∨ 4 < a1.toInt := by
  refine h (a1.toInt < 0 ∨ 4 < a1.toInt) ?_
  · intro h1 h2 h3 h4 h5
    omega
theorem rnx_1 {a1 a2 hp gd : Int32} (h : tx_SpillForge_run_1 a1 a2 hp gd) : (1 ≤ a2.toInt ∧ a2.toInt ≤ 100000) ∧ ((a1.toInt = 0 ∧ hp.toInt = 0) ∨ (a1.toInt ≠ 0 ∧ gd.toInt = 0)) := by
  refine h ((1 ≤ a2.toInt ∧ a2.toInt ≤ 100000) ∧ ((a1.toInt = 0 ∧ hp.toInt = 0) ∨ (a1.toInt ≠ 0 ∧ gd.toInt = 0))) ?_ ?_
  · intro h1 h2 h3 h4
    rcases exs_x h3 with ⟨y1, y2⟩ | ⟨y1, y2⟩
    · exact ⟨⟨h1, h2⟩, Or.inl ⟨y1, by rw [← y2]; exact h4⟩⟩
    · exact ⟨⟨h1, h2⟩, Or.inr ⟨y1, by rw [← y2]; exact h4⟩⟩
  · intro h1 h2 h3 h4
    rcases exs_x h3 with ⟨y1, y2⟩ | ⟨y1, y2⟩
    · exact ⟨⟨h1, h2⟩, Or.inl ⟨y1, by rw [← y2]; exact h4⟩⟩
    · exact ⟨⟨h1, h2⟩, Or.inr ⟨y1, by rw [← y2]; exact h4⟩⟩
theorem shA_x {a1 o1 : Int32} {rw9 : Nat → Int32} (h0 : 0 ≤ a1.toInt) (h5 : a1.toInt < 512) (h : tr_Machine_showAt a1 rw9 o1) : o1 = rw9 a1.toInt.toNat := by
  refine h (fun o1 => o1 = rw9 a1.toInt.toNat) ?_ ?_ ?_
  · intro h1
    omega
  · intro h1 h2
    omega
  · intro x1 h1 h2 h3
    rw [h3]
    exact congrArg rw9 (nnE (by omega))
theorem shc_x {a1 rs o1 : Int32} {rw9 : Nat → Int32} (h : tr_SpillForge_shown a1 rs rw9 o1) : (0 ≤ a1.toInt ∧ a1.toInt < rs.toInt) ∧ (a1.toInt < 512 → o1 = rw9 a1.toInt.toNat) := by
  refine h (fun o1 => (0 ≤ a1.toInt ∧ a1.toInt < rs.toInt) ∧ (a1.toInt < 512 → o1 = rw9 a1.toInt.toNat)) ?_
  · intro x1 h1 h2 h3
    exact ⟨⟨h1, h2⟩, fun h5 => shA_x h1 h5 h3⟩
theorem shx_0 {a1 rs : Int32} (h : tx_SpillForge_shown_0 a1 rs) : a1.toInt < 0 ∨ rs.toInt ≤ a1.toInt := by
  refine h (a1.toInt < 0 ∨ rs.toInt ≤ a1.toInt) ?_ ?_
  · intro h1
    omega
  · intro h1 h2
    omega
theorem wdc_x {a1 sz : Int32} {bt : Nat → Int32} {o1 : Int64} (h : tr_SpillForge_word a1 sz bt o1) : (0 ≤ a1.toInt ∧ a1.toInt < sz.toInt) ∧ tr_Listing_eightFrom a1 sz bt o1 := by
  refine h (fun o1 => (0 ≤ a1.toInt ∧ a1.toInt < sz.toInt) ∧ tr_Listing_eightFrom a1 sz bt o1) ?_
  · intro x1 h1 h2 h3
    exact ⟨⟨h1, h2⟩, h3⟩
theorem wdx_0 {a1 sz : Int32} (h : tx_SpillForge_word_0 a1 sz) : a1.toInt < 0 ∨ sz.toInt ≤ a1.toInt := by
  refine h (a1.toInt < 0 ∨ sz.toInt ≤ a1.toInt) ?_ ?_
  · intro h1
    omega
  · intro h1 h2
    omega
theorem lsx_0 {a1 hp gd : Int32} (h : tx_SpillForge_list_0 a1 hp gd) : (a1.toInt = 0 ∧ hp.toInt = 0) ∨ (a1.toInt ≠ 0 ∧ gd.toInt = 0) := by
  refine h ((a1.toInt = 0 ∧ hp.toInt = 0) ∨ (a1.toInt ≠ 0 ∧ gd.toInt = 0)) ?_ ?_
  · intro h1 h2
    rcases exs_x h1 with ⟨y1, y2⟩ | ⟨y1, y2⟩
    · exact Or.inl ⟨y1, by rw [← y2]; exact h2⟩
    · exact Or.inr ⟨y1, by rw [← y2]; exact h2⟩
  · intro h1 h2
    rcases exs_x h1 with ⟨y1, y2⟩ | ⟨y1, y2⟩
    · exact Or.inl ⟨y1, by rw [← y2]; exact h2⟩
    · exact Or.inr ⟨y1, by rw [← y2]; exact h2⟩
end
section
/-! what is given out can be run -/
section ZOK
variable {Q R : gPg} {k : Int} {dp : Nat → Nat} {so : Nat → Int} {nm sl b j n m v : Nat} {p : Nat → Nat} {J : Nat → Nat → Prop}
theorem soO_mg (h : soO Q sl) (hm : mgb Q k b j) : soO (mg1 Q b j) sl := fun d i hd hi h17 => by
  have hi2 : i < if d = b then Q.2.1 d - 1 else Q.2.1 d := hi
  have hx : (if d = b ∧ j ≤ i then i + 1 else i) < Q.2.1 d := by
    by_cases e : d = b
    · rw [if_pos e] at hi2; split <;> omega
    · rw [if_neg e] at hi2; rw [if_neg (fun z => e z.1)]; exact hi2
  exact h d _ hd hx h17
theorem soO_MG : ∀ {m : Nat} {Q R : gPg}, soO Q sl → MGn k m Q R → soO R sl
  | 0, _, _, h, g => by rw [g.1]; exact h
  | m + 1, _, _, h, ⟨b, j, q, g⟩ => soO_MG (soO_mg h q.1) g
theorem soO_m (h : soO R sl) (hl : sl ≤ m) : soO R m := fun b j hb hj h17 => by
  have := h b j hb hj h17
  omega
def sL6 (sl : Nat) (l : Nat → Int) (_ : Nat) : Prop := l 0 = 17 ∨ l 0 = 18 → 0 ≤ l 5 ∧ l 5 < (sl : Int)
theorem sL_m : ∀ (l : Nat → Int) (a c : Nat), a ≤ c → sL6 sl l a → sL6 sl l c := fun _ _ _ _ h => h
theorem sL_N {x : Int} {s : gSp6} (hs : ∀ x, slf so x = -1 ∨ (0 ≤ slf so x ∧ slf so x < (sl : Int))) (h : allL (sL6 sl) s) : allL (sL6 sl) (ldN so x s) := by
  unfold ldN
  by_cases c : slf so x = -1
  · rw [if_pos c]; exact h
  · rw [if_neg c]; exact allL_L sL_m h (Nat.le_succ _) (fun _ => (hs x).resolve_left c)
theorem sL_Ln {l : Nat → Int} {s : gSp6} (hs : ∀ x, slf so x = -1 ∨ (0 ≤ slf so x ∧ slf so x < (sl : Int))) (hl : sL6 sl l 0) (h : allL (sL6 sl) s) : allL (sL6 sl) (spLn so l s) := by
  have r : allL (sL6 sl) (spR so l s) := by
    unfold spR
    split
    · exact sL_N hs h
    · exact sL_N hs (sL_N hs h)
  unfold spLn spW
  by_cases c : slf so (l 1) = -1
  · rw [if_pos c]; exact allL_L sL_m r (Nat.le_refl _) hl
  · rw [if_neg c]
    have a1 := allL_L (l := mkL (l 0) ((spR so l s).2 : Int) (ldV so (l 2) s.2) (l 3) (spV so l s) (l 5)) (m := (spR so l s).2 + 1) sL_m r (Nat.le_succ _) hl
    exact allL_L (s := (pgL (spR so l s).1 (mkL (l 0) ((spR so l s).2 : Int) (ldV so (l 2) s.2) (l 3) (spV so l s) (l 5)), (spR so l s).2 + 1)) sL_m a1 (Nat.le_refl _) (fun _ => (hs (l 1)).resolve_left c)
theorem sL_B {ls : Nat → Nat → Int} {s : gSp6} (hs : ∀ x, slf so x = -1 ∨ (0 ≤ slf so x ∧ slf so x < (sl : Int))) (h : allL (sL6 sl) s) : ∀ m, (∀ j, j < m → sL6 sl (ls j) 0) → allL (sL6 sl) (spB so ls m s)
  | 0, _ => h
  | m + 1, hl => sL_Ln hs (hl m (Nat.lt_succ_self m)) (sL_B hs h m (fun j hj => hl j (by omega)))
theorem sL_P (hs : ∀ x, slf so x = -1 ∨ (0 ≤ slf so x ∧ slf so x < (sl : Int))) : ∀ b, (∀ c j, c < b → j < R.2.1 c → sL6 sl (R.2.2.1 c j) 0) → allL (sL6 sl) (spP so R nm b)
  | 0, _ => fun b j hb _ => absurd hb (Nat.not_lt_zero b)
  | b + 1, h => sL_B (s := (pgOL R (spP so R nm b).1, (spP so R nm b).2)) hs (allL_OL (sL_P hs b (fun c j hc => h c j (by omega)))) (R.2.1 b) (fun j hj => h b j (Nat.lt_succ_self b) hj)
theorem soO_P (hs : ∀ x, slf so x = -1 ∨ (0 ≤ slf so x ∧ slf so x < (sl : Int))) (h : soO R sl) : soO (spP so R nm R.1).1 sl := fun b i hb hi h17 => sL_P hs R.1 (fun c j hc hj => h c j hc hj) b i hb hi h17
theorem soU_b {U : Nat → Prop} (x : Int) : slf (soU U sl) x = -1 ∨ (0 ≤ slf (soU U sl) x ∧ slf (soU U sl) x < ((sl + cntP U 100 : Nat) : Int)) := by
  unfold slf
  by_cases c : 0 ≤ x ∧ x < 100
  · rw [if_pos c]
    by_cases u : U x.toNat
    · rw [soU_p u]
      have := cntP_s u (show x.toNat < 100 by omega)
      exact Or.inr ⟨by omega, by omega⟩
    · exact Or.inl (soU_0 u)
  · exact Or.inl (if_neg c)
theorem cntP_2 {A B C : Nat → Prop} : ∀ n, (∀ b, b < n → A b → C b) → (∀ b, b < n → B b → C b) → (∀ b, b < n → A b → ¬ B b) → cntP A n + cntP B n ≤ cntP C n
  | 0, _, _, _ => Nat.le_refl _
  | n + 1, h1, h2, h3 => by
    have i := cntP_2 n (fun b hb => h1 b (by omega)) (fun b hb => h2 b (by omega)) (fun b hb => h3 b (by omega))
    show cntP A n + @ite Nat (A n) (Classical.propDecidable (A n)) 1 0 + (cntP B n + @ite Nat (B n) (Classical.propDecidable (B n)) 1 0) ≤ cntP C n + @ite Nat (C n) (Classical.propDecidable (C n)) 1 0
    by_cases a : A n
    · rw [if_pos a, if_neg (h3 n (Nat.lt_succ_self n) a), if_pos (h1 n (Nat.lt_succ_self n) a)]; omega
    · rw [if_neg a]
      by_cases c : B n
      · rw [if_pos c, if_pos (h2 n (Nat.lt_succ_self n) c)]; omega
      · rw [if_neg c]; omega
theorem TA_p {w : Nat → Int32} : ∀ {n : Nat} {T : Nat → Prop} {lf : Nat → Int32} {p : Nat → Nat}, TA J w k n T lf p → ∀ v, T v → ∃ i, i < n ∧ p i = v
  | 0, _, _, _, h, v, hv => absurd hv (h v)
  | n + 1, T, lf, p, ⟨h1, h2, h3⟩, v, hv => by
    by_cases e : v = p 0
    · exact ⟨0, Nat.succ_pos n, e.symm⟩
    · obtain ⟨i, q1, q2⟩ := TA_p h3 v ⟨hv, e⟩
      exact ⟨i + 1, by omega, q2⟩
theorem clN_p : ∀ t, (∀ s, s < t → (lcl J (clN J k p n s) (p (n - 1 - s)) : Int) < k) → ∀ s, s < t → 0 ≤ clN J k p n t (p (n - 1 - s))
  | 0, _, s, hs => absurd hs (Nat.not_lt_zero s)
  | t + 1, h, s, hs => by
    show 0 ≤ @ite Int (p (n - 1 - s) = p (n - 1 - t) ∧ (lcl J (clN J k p n t) (p (n - 1 - t)) : Int) < k) (Classical.propDecidable _) (lcl J (clN J k p n t) (p (n - 1 - t)) : Int) (clN J k p n t (p (n - 1 - s)))
    by_cases c : p (n - 1 - s) = p (n - 1 - t) ∧ (lcl J (clN J k p n t) (p (n - 1 - t)) : Int) < k
    · rw [if_pos c]; omega
    · rw [if_neg c]
      by_cases e : s = t
      · exact absurd ⟨by rw [e], h t (Nat.lt_succ_self t)⟩ c
      · exact clN_p t (fun s hs => h s (by omega)) s (by omega)
theorem col_ok {w : Nat → Int32} {T : Nat → Prop} {lf : Nat → Int32} (hk : 0 ≤ k) (h : TA J w k n T lf p) (hb : ¬ bdN J k p n n) (hv : T v) : 0 ≤ clN J k p n n v ∧ clN J k p n n v < k := by
  obtain ⟨i, h1, h2⟩ := TA_p h v hv
  have q := clN_p (J := J) (k := k) (p := p) (n := n) n (fun s hs => Int.not_le.mp (fun z => hb ⟨s, hs, z⟩)) (n - 1 - i) (by omega)
  rw [show n - 1 - (n - 1 - i) = i by omega, h2] at q
  have q2 := (clN_b (J := J) (p := p) (n := n) hk n v).2
  exact ⟨q, by omega⟩
/-- what is given out -/
def okZ (k : Int) (Z : gPg × (Nat → Int) × Nat) : Prop := qOk Z.1 ∧ (∃ nm, gvI Z.1 nm) ∧ soO Z.1 Z.2.2 ∧ Z.2.2 ≤ 100 ∧ ∀ v, Sd Z.1 false 2000 v → 0 ≤ Z.2.1 v ∧ Z.2.1 v < k
theorem GVr_ok (hk : 0 ≤ k) : ∀ {f t : Nat} {Q : gPg} {nm sl : Nat} {r : Int} {Z : gPg × (Nat → Int) × Nat}, qOk Q → gvI Q nm → soO Q sl → sl + cntP (Sd Q false 2000) 100 ≤ 100 → GVr k dp f t Q nm sl r Z → r ≠ -1 → okZ k Z
  | 0, _, _, _, _, _, _, _, _, _, _, h, hr => absurd h.1 hr
  | f + 1, t, Q, nm, sl, r, Z, hO, hI, hS, hC, ⟨R, n, p, ⟨⟨m, hm⟩, ta⟩, h⟩, hr => by
    obtain ⟨gR, sR⟩ := gvI_m hI hm
    have OR := qOk_MG hO hm
    have sO := soO_MG hS hm
    have cR := cntP_mo (T := Sd R false 2000) (U := Sd Q false 2000) 100 (fun v _ => sR v)
    rcases h with ⟨a1, a2, a3⟩ | ⟨a1, a2, a3, a4⟩ | ⟨a1, a2, a3⟩
    · rw [a3]
      exact ⟨OR, ⟨nm, gR⟩, sO, by show sl ≤ 100; omega, fun v hv => col_ok hk ta a1 hv⟩
    · exact absurd a3 hr
    · obtain ⟨qi1, qi2, qi3, qi4⟩ := spP_i (so := soU (unc R (clN (JJ R) k p n n)) sl) gR
      refine GVr_ok hk (qOk_sp gR.2.1 OR qi3) qi2 (soO_P soU_b (soO_m sO (Nat.le_add_right _ _))) ?_ a3 hr
      have c2 := cntP_2 (A := unc R (clN (JJ R) k p n n)) (B := Sd (spP (soU (unc R (clN (JJ R) k p n n)) sl) R nm R.1).1 false 2000) (C := Sd R false 2000) 100 (fun v _ hu => hu.1) (fun v hv hs => (nw_Sd qi1 hs hv).2) (fun v hv hu hs => by
        have e := (nw_Sd qi1 hs hv).1
        rw [soU_p hu] at e
        omega)
      omega
theorem exl {T : Nat → Prop} (n : Nat) : T n → ∃ c, c ≤ n ∧ T c ∧ ∀ d, d < c → ¬ T d := by
  refine Nat.strongRecOn n (fun n ih h => ?_)
  by_cases q : ∃ d, d < n ∧ T d
  · obtain ⟨d, h1, h2⟩ := q
    obtain ⟨c, a1, a2, a3⟩ := ih d h1 h2
    exact ⟨c, by omega, a2, a3⟩
  · exact ⟨n, Nat.le_refl _, h, fun d hd z => q ⟨d, hd, z⟩⟩
theorem shN_b : ∀ t u, u < t → 0 ≤ shN J t u ∧ shN J t u ≤ (u : Int)
  | 0, u, h => absurd h (Nat.not_lt_zero u)
  | t + 1, u, h => by
    by_cases e : u = t
    · rw [e, shN_e]
      obtain ⟨c, a1, a2, a3⟩ := exl (T := fun c => ∀ u, J t u → shN J t u ≠ (c : Int)) t (fun u hu z => by
        by_cases q : u < t
        · have := (shN_b t u q).2
          omega
        · rw [shN_hi t (by omega)] at z; omega)
      have lc : lcl J (shN J t) t = c := lcl_e ⟨a2, fun d hd => Classical.byContradiction fun z => a3 d hd (fun u hu y => z ⟨u, hu, y⟩)⟩
      rw [lc]
      exact ⟨by omega, by omega⟩
    · rw [shN_n e]; exact shN_b t u (by omega)
theorem fn_run {Z : gPg × (Nat → Int) × Nat} (hk : k ≤ 32) (h : okZ k Z) : rnP (fnP Z) := by
  obtain ⟨⟨g1, g2⟩, ⟨nm, i1, i2, i3, i4, i5, i6⟩, h3, h4, h5⟩ := h
  have cm : ∀ b j f, b < Z.1.1 → j < Z.1.2.1 b → (f = 1 ∨ f = 2 ∨ f = 4) → Z.1.2.2.1 b j f ≤ 1999 → (cM Z.2.1 (Z.1.2.2.1 b j f) = Z.1.2.2.1 b j f ∧ Z.1.2.2.1 b j f < 0) ∨ (0 ≤ Z.1.2.2.1 b j f ∧ 0 ≤ cM Z.2.1 (Z.1.2.2.1 b j f) ∧ cM Z.2.1 (Z.1.2.2.1 b j f) < k) := fun b j f hb hj hf h19 => by
    unfold cM
    by_cases c : 0 ≤ Z.1.2.2.1 b j f
    · rw [if_pos c]
      exact Or.inr ⟨c, h5 _ (Sd_f hb hj hf c (by omega))⟩
    · rw [if_neg c]; exact Or.inl ⟨rfl, by omega⟩
  refine ⟨⟨i6, i5⟩, g1, fun b hb => ?_, ?_⟩
  · obtain ⟨e0, e1, e2, e3⟩ := g2 b hb
    refine ⟨e0, fun j hj => ?_, ?_, e3⟩
    · obtain ⟨r0, r2, r4, r1, r1', r2', r4'⟩ := e1 j hj
      have hj1 : j + 1 < Z.1.2.1 b := hj
      have hj2 : j < Z.1.2.1 b := by omega
      have m2 := cm b j 2 hb hj2 (Or.inr (Or.inl rfl)) r2.2
      have m4 := cm b j 4 hb hj2 (Or.inr (Or.inr rfl)) r4.2
      show (0 ≤ Z.1.2.2.1 b j 0 ∧ Z.1.2.2.1 b j 0 ≤ 18) ∧ (-1 ≤ cM Z.2.1 (Z.1.2.2.1 b j 2) ∧ cM Z.2.1 (Z.1.2.2.1 b j 2) ≤ 99) ∧ (-1 ≤ cM Z.2.1 (Z.1.2.2.1 b j 4) ∧ cM Z.2.1 (Z.1.2.2.1 b j 4) ≤ 99) ∧ (Z.1.2.2.1 b j 0 ≤ 15 ∨ Z.1.2.2.1 b j 0 = 17 → 0 ≤ cM Z.2.1 (Z.1.2.2.1 b j 1) ∧ cM Z.2.1 (Z.1.2.2.1 b j 1) ≤ 99) ∧ (Z.1.2.2.1 b j 0 = 17 ∨ Z.1.2.2.1 b j 0 = 18 → 0 ≤ shL _ (rmL Z.2.1 (Z.1.2.2.1 b j)) 5 ∧ shL _ (rmL Z.2.1 (Z.1.2.2.1 b j)) 5 ≤ 99)
      refine ⟨r0, by omega, by omega, fun z => ?_, fun z => ?_⟩
      · have m1 := cm b j 1 hb hj2 (Or.inl rfl) (r1 z).2
        have := (r1 z).1
        omega
      · rw [show shL (shN (Jn (rmP Z.1 Z.2.1) true 2000) Z.2.2) (rmL Z.2.1 (Z.1.2.2.1 b j)) 5 = shN (Jn (rmP Z.1 Z.2.1) true 2000) Z.2.2 (Z.1.2.2.1 b j 5).toNat from shL_5 (l := rmL Z.2.1 (Z.1.2.2.1 b j)) z]
        show 0 ≤ shN _ Z.2.2 (Z.1.2.2.1 b j 5).toNat ∧ shN _ Z.2.2 (Z.1.2.2.1 b j 5).toNat ≤ 99
        have q := h3 b j hb hj2 z
        have q2 := shN_b (J := Jn (rmP Z.1 Z.2.1) true 2000) Z.2.2 (Z.1.2.2.1 b j 5).toNat (by omega)
        omega
    · obtain ⟨d1, d2, d4, d5⟩ := e2
      have hj2 : Z.1.2.1 b - 1 < Z.1.2.1 b := by omega
      have m2 := cm b _ 2 hb hj2 (Or.inr (Or.inl rfl)) d2.2
      show cM Z.2.1 (Z.1.2.2.1 b (Z.1.2.1 b - 1) 1) = -1 ∧ (-1 ≤ cM Z.2.1 (Z.1.2.2.1 b (Z.1.2.1 b - 1) 2) ∧ cM Z.2.1 (Z.1.2.2.1 b (Z.1.2.1 b - 1) 2) ≤ 99) ∧ cM Z.2.1 (Z.1.2.2.1 b (Z.1.2.1 b - 1) 4) = -1 ∧ (Z.1.2.2.1 b (Z.1.2.1 b - 1) 0 = 19 → cM Z.2.1 (Z.1.2.2.1 b (Z.1.2.1 b - 1) 2) = -1)
      rw [d1, d4]
      refine ⟨if_neg (by decide), by omega, if_neg (by decide), fun z => ?_⟩
      rw [d5 z]; exact if_neg (by decide)
  · show fsm Z.1.2.1 Z.1.1 ≤ 920
    unfold lsm at i4
    omega
theorem qOk_rm {Z : gPg × (Nat → Int) × Nat} (hk : k ≤ 32) (h : okZ k Z) : qOk (rmP Z.1 Z.2.1) := by
  obtain ⟨⟨g1, g2⟩, -, -, -, h5⟩ := h
  have cm : ∀ b j f, b < Z.1.1 → j < Z.1.2.1 b → (f = 1 ∨ f = 2 ∨ f = 4) → Z.1.2.2.1 b j f ≤ 1999 → (cM Z.2.1 (Z.1.2.2.1 b j f) = Z.1.2.2.1 b j f ∧ Z.1.2.2.1 b j f < 0) ∨ (0 ≤ Z.1.2.2.1 b j f ∧ 0 ≤ cM Z.2.1 (Z.1.2.2.1 b j f) ∧ cM Z.2.1 (Z.1.2.2.1 b j f) < k) := fun b j f hb hj hf h19 => by
    unfold cM
    by_cases c : 0 ≤ Z.1.2.2.1 b j f
    · rw [if_pos c]
      exact Or.inr ⟨c, h5 _ (Sd_f hb hj hf c (by omega))⟩
    · rw [if_neg c]; exact Or.inl ⟨rfl, by omega⟩
  refine ⟨g1, fun b hb => ?_⟩
  obtain ⟨e0, e1, e2, e3⟩ := g2 b hb
  refine ⟨e0, fun j hj => ?_, ?_, e3⟩
  · obtain ⟨r0, r2, r4, r1, r1', r2', r4'⟩ := e1 j hj
    have hj2 : j < Z.1.2.1 b := by
      have hj' : j + 1 < Z.1.2.1 b := hj
      omega
    have m2 := cm b j 2 hb hj2 (Or.inr (Or.inl rfl)) r2.2
    have m4 := cm b j 4 hb hj2 (Or.inr (Or.inr rfl)) r4.2
    show (0 ≤ Z.1.2.2.1 b j 0 ∧ Z.1.2.2.1 b j 0 ≤ 18) ∧ (-1 ≤ cM Z.2.1 (Z.1.2.2.1 b j 2) ∧ cM Z.2.1 (Z.1.2.2.1 b j 2) ≤ 1999) ∧ (-1 ≤ cM Z.2.1 (Z.1.2.2.1 b j 4) ∧ cM Z.2.1 (Z.1.2.2.1 b j 4) ≤ 1999) ∧ (Z.1.2.2.1 b j 0 ≤ 15 ∨ Z.1.2.2.1 b j 0 = 17 → 0 ≤ cM Z.2.1 (Z.1.2.2.1 b j 1) ∧ cM Z.2.1 (Z.1.2.2.1 b j 1) ≤ 1999) ∧ (Z.1.2.2.1 b j 0 = 16 ∨ Z.1.2.2.1 b j 0 = 18 → cM Z.2.1 (Z.1.2.2.1 b j 1) = -1) ∧ (Z.1.2.2.1 b j 0 = 15 ∨ Z.1.2.2.1 b j 0 = 17 → cM Z.2.1 (Z.1.2.2.1 b j 2) = -1) ∧ (14 ≤ Z.1.2.2.1 b j 0 → cM Z.2.1 (Z.1.2.2.1 b j 4) = -1)
    refine ⟨r0, by omega, by omega, fun z => ?_, fun z => ?_, fun z => ?_, fun z => ?_⟩
    · have m1 := cm b j 1 hb hj2 (Or.inl rfl) (r1 z).2
      have := (r1 z).1
      omega
    · rw [r1' z]; exact if_neg (by decide)
    · rw [r2' z]; exact if_neg (by decide)
    · rw [r4' z]; exact if_neg (by decide)
  · obtain ⟨d1, d2, d4, d5⟩ := e2
    have hj2 : Z.1.2.1 b - 1 < Z.1.2.1 b := by omega
    have m2 := cm b _ 2 hb hj2 (Or.inr (Or.inl rfl)) d2.2
    show cM Z.2.1 (Z.1.2.2.1 b (Z.1.2.1 b - 1) 1) = -1 ∧ (-1 ≤ cM Z.2.1 (Z.1.2.2.1 b (Z.1.2.1 b - 1) 2) ∧ cM Z.2.1 (Z.1.2.2.1 b (Z.1.2.1 b - 1) 2) ≤ 1999) ∧ cM Z.2.1 (Z.1.2.2.1 b (Z.1.2.1 b - 1) 4) = -1 ∧ (Z.1.2.2.1 b (Z.1.2.1 b - 1) 0 = 19 → cM Z.2.1 (Z.1.2.2.1 b (Z.1.2.1 b - 1) 2) = -1)
    rw [d1, d4]
    refine ⟨if_neg (by decide), by omega, if_neg (by decide), fun z => ?_⟩
    rw [d5 z]; exact if_neg (by decide)
theorem soO_Z (hb : ∀ b, b < Q.1 → blC (Q.2.1 b) (Q.2.2.1 b) (Q.2.2.2 b)) : soO (pgZ Q) 0 := fun b i hb1 hi h17 => by
  have old : ∀ b j, b < Q.1 → j < Q.2.1 b → ¬ (Q.2.2.1 b j 0 = 17 ∨ Q.2.2.1 b j 0 = 18) := fun b j h1 h2 => by
    obtain ⟨c0, c1, c2, c3⟩ := hb b h1
    by_cases e : j + 1 < Q.2.1 b
    · have := (c1 j e).1; omega
    · rw [show Q.2.1 b - 1 = j by omega] at c3
      rcases c3 with c3 | c3 | c3 <;> omega
  have hi2 : i < if b = 0 then cntP (lz Q) 100 + Q.2.1 0 else Q.2.1 b := hi
  have h17' : (if b = 0 then (if i < cntP (lz Q) 100 then mkL 14 (nthT (lz Q) 100 i : Int) (-1) 0 (-1) 0 else Q.2.2.1 0 (i - cntP (lz Q) 100)) else Q.2.2.1 b i) 0 = 17 ∨ (if b = 0 then (if i < cntP (lz Q) 100 then mkL 14 (nthT (lz Q) 100 i : Int) (-1) 0 (-1) 0 else Q.2.2.1 0 (i - cntP (lz Q) 100)) else Q.2.2.1 b i) 0 = 18 := h17
  have hb2 : b < Q.1 := hb1
  by_cases e : b = 0
  · rw [if_pos e] at hi2 h17'
    by_cases g : i < cntP (lz Q) 100
    · rw [if_pos g] at h17'
      rcases h17' with z | z
      · exact absurd (show (14 : Int) = 17 from z) (by decide)
      · exact absurd (show (14 : Int) = 18 from z) (by decide)
    · rw [if_neg g] at h17'; exact absurd h17' (old 0 _ (by omega) (by omega))
  · rw [if_neg e] at hi2 h17'
    exact absurd h17' (old b i hb2 hi2)
/-- of a program that was read -/
theorem GVr_okP {B : Int → Int} {n : Int} {f t : Nat} {r : Int} {Z : gPg × (Nat → Int) × Nat} (hk : 0 ≤ k) (hB : bOk B n) (hP : okP B n Q) (h : GVr k dp f t (pgZ Q) 100 0 r Z) (hr : r ≠ -1) : okZ k Z := by
  obtain ⟨w1, w2, w3, w4, w5, w6⟩ := okP_f hB hP
  refine GVr_ok hk (qZ ⟨w5, fun b hb => blC_2 (w6 b hb)⟩ w3) (gvI_Z hB hP) (soO_Z w6) ?_ h hr
  have := cntP_le (T := Sd (pgZ Q) false 2000) 100
  omega
/-- a program that was read can be run -/
theorem rnP_P {B : Int → Int} {n : Int} (hB : bOk B n) (hP : okP B n Q) : rnP Q := by
  obtain ⟨w1, w2, w3, w4, w5, w6⟩ := okP_f hB hP
  refine ⟨⟨w3, w2⟩, w5, fun b hb => ?_, by omega⟩
  obtain ⟨c0, c1, c2, c3⟩ := w6 b hb
  refine ⟨c0, fun j hj => ?_, c2, c3⟩
  obtain ⟨r0, r2, r4, r1, -⟩ := c1 j hj
  exact ⟨by omega, r2, r4, fun z => r1 (by omega), fun z => by omega⟩
end ZOK
end
section
/-! names by colours: the reference -/
section SR9
variable {D : va_G} {I : FieldType → ClassId} {P : List Nat} {F : Nat → va_E} {γ el γ0 el0 : Nat → Nat → Nat} {f b j : Nat} {R : gPg} {col sf : Nat → Int} {r : Bool} {l : Nat → Int} {g : (Nat → Int) → (Nat → Int)}
theorem uA_t2 {op ra r : Int32} (h : tr_RRow_usesA2 op ra r) : (r.toInt = 1 ∧ op.toInt ≠ 20 ∧ op.toInt ≠ 21 ∧ op.toInt ≠ 30 ∧ ra.toInt ≠ 0) ∨ (r.toInt = 0 ∧ (op.toInt = 20 ∨ op.toInt = 21 ∨ op.toInt = 30 ∨ ra.toInt = 0)) := by
  refine h (fun r => (r.toInt = 1 ∧ op.toInt ≠ 20 ∧ op.toInt ≠ 21 ∧ op.toInt ≠ 30 ∧ ra.toInt ≠ 0) ∨ (r.toInt = 0 ∧ (op.toInt = 20 ∨ op.toInt = 21 ∨ op.toInt = 30 ∨ ra.toInt = 0))) ?_ ?_ ?_ ?_ ?_
  · intro h1
    have q0 : Int32.toInt 0 = 0 := by decide
    have q1 : Int32.toInt 1 = 1 := by decide
    omega
  · intro h1 h2
    have q0 : Int32.toInt 0 = 0 := by decide
    have q1 : Int32.toInt 1 = 1 := by decide
    omega
  · intro h1 h2 h3
    have q0 : Int32.toInt 0 = 0 := by decide
    have q1 : Int32.toInt 1 = 1 := by decide
    omega
  · intro h1 h2 h3 h4
    have q0 : Int32.toInt 0 = 0 := by decide
    have q1 : Int32.toInt 1 = 1 := by decide
    omega
  · intro h1 h2 h3 h4
    have q0 : Int32.toInt 0 = 0 := by decide
    have q1 : Int32.toInt 1 = 1 := by decide
    omega
theorem uB_t2 {op ra r : Int32} (h : tr_RRow_usesB2 op ra r) : (r.toInt = 1 ∧ 0 < op.toInt ∧ op.toInt < 20 ∧ ra.toInt ≠ 0) ∨ (r.toInt = 0 ∧ (op.toInt ≤ 0 ∨ 20 ≤ op.toInt ∨ ra.toInt = 0)) := by
  refine h (fun r => (r.toInt = 1 ∧ 0 < op.toInt ∧ op.toInt < 20 ∧ ra.toInt ≠ 0) ∨ (r.toInt = 0 ∧ (op.toInt ≤ 0 ∨ 20 ≤ op.toInt ∨ ra.toInt = 0))) ?_ ?_ ?_ ?_
  · intro h1
    have q0 : Int32.toInt 0 = 0 := by decide
    have q1 : Int32.toInt 1 = 1 := by decide
    omega
  · intro h1 h2
    have q0 : Int32.toInt 0 = 0 := by decide
    have q1 : Int32.toInt 1 = 1 := by decide
    omega
  · intro h1 h2 h3
    have q0 : Int32.toInt 0 = 0 := by decide
    have q1 : Int32.toInt 1 = 1 := by decide
    omega
  · intro h1 h2 h3
    have q0 : Int32.toInt 0 = 0 := by decide
    have q1 : Int32.toInt 1 = 1 := by decide
    omega
theorem ss_t2 {op r : Int32} (h : tr_RRow_sets2 op r) : (r.toInt = 1 ∧ op.toInt ≤ 21) ∨ (r.toInt = 0 ∧ 21 < op.toInt) := by
  refine h (fun r => (r.toInt = 1 ∧ op.toInt ≤ 21) ∨ (r.toInt = 0 ∧ 21 < op.toInt)) ?_ ?_
  · intro h1
    have q0 : Int32.toInt 0 = 0 := by decide
    have q1 : Int32.toInt 1 = 1 := by decide
    omega
  · intro h1
    have q0 : Int32.toInt 0 = 0 := by decide
    have q1 : Int32.toInt 1 = 1 := by decide
    omega
theorem rm6 : ∀ f, f < 6 → rmL col l f = mkL (l 0) (cM col (l 1)) (cM col (l 2)) (l 3) (cM col (l 4)) (l 5) f
  | 0, _ => rfl
  | 1, _ => rfl
  | 2, _ => rfl
  | 3, _ => rfl
  | 4, _ => rfl
  | 5, _ => rfl
  | _ + 6, h => by omega
theorem cM_n (h : l 2 = -1) : cM col (l 2) = l 2 := by unfold cM; rw [h]; rfl
theorem cM_x {x : Int} (h : x = -1) : cM col x = x := by unfold cM; rw [h]; rfl
theorem cM_p {x : Int} {a y : Int32} {p : Nat → Int32} (ha : a.toInt = x) (h0 : 0 ≤ x) (h1 : x < 2000) (hp : ∀ v, v < 2000 → (p v).toInt = col v) (hy : y = p a.toNatClampNeg) : y.toInt = cM col x := by
  unfold cM
  rw [if_pos h0, hy, nnE (show a.toInt = ((x.toNat : Nat) : Int) by omega)]
  exact hp _ (by omega)
/-- cells of the model -/
theorem md_k9 {q0 : Nat} (hT : RS D I P F γ el) (hm : γ 0 q0 = 10) : γ 0 (γ 9 16) = 19 ∧ γ 0 (γ 9 17) = 20 ∧ γ 0 (γ 9 19) = 21 ∧ γ 0 (γ 9 20) = 22 ∧ γ 0 (γ 9 21) = 23 ∧ γ 0 (γ 9 22) = 97 := by
  obtain ⟨r28, r35, v9, v10, v11, v12, v13, v14, v23, v24, v25, v26, v27, v30, v32, v33, v34, he, hM1, hK, hM2⟩ := rk10_m (show rk_10 γ (F q0) from RS_o hT hm)
  obtain ⟨k0, k1, k2, k3, k4, k5, k6, k7, k8, k9, k10, k11, k12, k13, k14, k15, k16, k17, k18, kW, k20, k21, k22, k23⟩ := hK
  exact ⟨k12, k13, k15, k16, k17, k18⟩
theorem md_17 {q0 : Nat} (hT : RS D I P F γ el) (hm : γ 0 q0 = 10) : γ 0 (γ 9 17) = 20 := (md_k9 hT hm).2.1
/-- half done -/
def hfP (R : gPg) (g : (Nat → Int) → (Nat → Int)) (b j : Nat) : gPg := (R.1, R.2.1, fun c i => if c < b ∨ (c = b ∧ i < j) then g (R.2.2.1 c i) else R.2.2.1 c i, R.2.2.2)
theorem hf_l : (hfP R g b j).2.2.1 b j = R.2.2.1 b j := if_neg (by omega)
theorem hf_s : pgSt (hfP R g b j) b j (g (R.2.2.1 b j)) = hfP R g b (j + 1) := by
  have e : (fun d i => if d = b ∧ i = j then g (R.2.2.1 b j) else (if d < b ∨ (d = b ∧ i < j) then g (R.2.2.1 d i) else R.2.2.1 d i)) = (fun c i => if c < b ∨ (c = b ∧ i < j + 1) then g (R.2.2.1 c i) else R.2.2.1 c i) := by
    funext d i
    by_cases c : d = b ∧ i = j
    · rw [if_pos c, if_pos (by omega), c.1, c.2]
    · rw [if_neg c]
      by_cases e : d < b ∨ (d = b ∧ i < j)
      · rw [if_pos e, if_pos (by omega)]
      · rw [if_neg e, if_neg (by omega)]
  show (R.1, R.2.1, (fun d i => if d = b ∧ i = j then g (R.2.2.1 b j) else (if d < b ∨ (d = b ∧ i < j) then g (R.2.2.1 d i) else R.2.2.1 d i)), R.2.2.2) = _
  rw [e]
  rfl
theorem hf_0 {γ el : Nat → Nat → Nat} {F : Nat → va_E} {c : Nat} (h : rfX γ el F c R) : rfX γ el F c (hfP R g 0 0) := rfX_c h rfl (fun i hi => ⟨rfl, rfl, fun k hk => if_neg (by omega)⟩)
theorem hf_e {γ el : Nat → Nat → Nat} {F : Nat → va_E} {c n : Nat} (hn : ∀ i, n ≤ i → i < R.2.1 b → g (R.2.2.1 b i) = R.2.2.1 b i) (h : rfX γ el F c (hfP R g b n)) : rfX γ el F c (hfP R g (b + 1) 0) := rfX_c h rfl (fun i hi => ⟨rfl, rfl, fun k hk => by
  have hk' : k < R.2.1 i := hk
  show (if i < b + 1 ∨ (i = b + 1 ∧ k < 0) then g (R.2.2.1 i k) else R.2.2.1 i k) = (if i < b ∨ (i = b ∧ k < n) then g (R.2.2.1 i k) else R.2.2.1 i k)
  by_cases e : i < b + 1
  · rw [if_pos (Or.inl e)]
    by_cases e2 : i < b ∨ (i = b ∧ k < n)
    · rw [if_pos e2]
    · rw [if_neg e2]
      have e3 : i = b := by omega
      rw [e3] at hk' ⊢
      exact hn k (by omega) hk'
  · rw [if_neg (by omega), if_neg (by omega)]⟩)
set_option maxHeartbeats 2000000 in
theorem col_ln {q0 : Nat} {q1 : Nat} {o1 : Nat → va_E} (hO : lnO2 r l) (hl : lnX r l (F q1)) (hs : rwS (F q1)) (n17 : γ 9 17 ≠ q1) (hC : ∀ v, v < 2000 → (cB (F (γ 9 17)) v).toInt = col v) (hc1 : 0 ≤ l 1 → 0 ≤ col (l 1).toNat ∧ col (l 1).toNat < 2000) (hc2 : 0 ≤ l 2 → 0 ≤ col (l 2).toNat ∧ col (l 2).toNat < 2000) (hc4 : 0 ≤ l 4 → 0 ≤ col (l 4).toNat ∧ col (l 4).toNat < 2000) (h : tr_RModel_coloured D I γ el F q0 q1 o1) : lnX r (rmL col l) (o1 q1) ∧ ∀ a, a ≠ q1 → o1 a = F a := by
  obtain ⟨U1, U2, U3⟩ := lnU_X hO hl
  have B1 := lnO2_le1 hO
  have B2 := lnO2_le2 hO
  have B4 := lnO2_le4 hO
  have cp : ∀ x : Int, 0 ≤ x → cM col x = col x.toNat := fun x hx => if_pos hx
  refine h (fun o1 => lnX r (rmL col l) (o1 q1) ∧ ∀ a, a ≠ q1 → o1 a = F a) ?_ ?_ ?_ ?_ ?_ ?_ ?_ ?_
  · intro x1 x2 x3 x4 x5 x6 h1 h2 h3 h4 h5 h6 h7 h8 h9 h10 h11 h12
    have L0 := hl
    have O0 := hO
    have S0 := hs
    have qa := uA_t2 h4
    have qb := uB_t2 h8
    have qs := ss_t2 h11
    have v_x1 : x1 = fI (F q1) 0 := by rw [← h1]
    have v_x2 : x2 = fI (F q1) 5 := by rw [← h2]
    have v_x4 : x4 = fI (F q1) 6 := by rw [← h6]
    rw [v_x1] at qa
    rw [v_x2] at qa
    rw [v_x1] at qb
    rw [v_x4] at qb
    rw [v_x1] at qs
    have n2 : cM col (l 2) = l 2 := cM_x (by omega)
    have K1 : lnX r (mkL (l 0) (l 1) (cM col (l 2)) (l 3) (l 4) (l 5)) (F q1) := by rw [n2]; exact lnX_6 L0 (fun f hf => mk6 hf)
    have O1 : lnO2 r (mkL (l 0) (l 1) (cM col (l 2)) (l 3) (l 4) (l 5)) := by rw [n2]; exact lnO2_6 O0 (fun f hf => mk6 hf)
    have L1 := K1
    have n4 : cM col (l 4) = l 4 := cM_x (by omega)
    have K2 : lnX r (mkL (l 0) (l 1) (cM col (l 2)) (l 3) (cM col (l 4)) (l 5)) (F q1) := by rw [n4]; exact lnX_6 L1 (fun f hf => rfl)
    have O2 : lnO2 r (mkL (l 0) (l 1) (cM col (l 2)) (l 3) (cM col (l 4)) (l 5)) := by rw [n4]; exact lnO2_6 O1 (fun f hf => rfl)
    have L2 := K2
    have n1 : cM col (l 1) = l 1 := cM_x (by omega)
    have K3 : lnX r (mkL (l 0) (cM col (l 1)) (cM col (l 2)) (l 3) (cM col (l 4)) (l 5)) (F q1) := by rw [n1]; exact lnX_6 L2 (fun f hf => rfl)
    have L3 := K3
    exact ⟨lnX_6 L3 (fun f hf => rm6 f hf), fun a ha => rfl⟩
  · intro x1 x2 x3 x4 x5 x6 x7 x8 x9 x10 h1 h2 h3 h4 h5 h6 h7 h8 h9 h10 h11 h12 h13 h14 h15 h16 h17 h18 h19
    have L0 := hl
    have O0 := hO
    have S0 := hs
    have qa := uA_t2 h4
    have qb := uB_t2 h8
    have qs := ss_t2 h11
    obtain ⟨S1, E1_0, E1_1, E1_2, E1_3, E1_4, E1_5, E1_6⟩ := cw_1 S0 h19
    have v_x1 : x1 = fI (F q1) 0 := by rw [← h1]
    have v_x2 : x2 = fI (F q1) 5 := by rw [← h2]
    have v_x4 : x4 = fI (F q1) 6 := by rw [← h6]
    have v_x7 : x7 = fI (F q1) 1 := by rw [← h14]
    rw [v_x1] at qa
    rw [v_x2] at qa
    rw [v_x1] at qb
    rw [v_x4] at qb
    rw [v_x1] at qs
    have n2 : cM col (l 2) = l 2 := cM_x (by omega)
    have K1 : lnX r (mkL (l 0) (l 1) (cM col (l 2)) (l 3) (l 4) (l 5)) (F q1) := by rw [n2]; exact lnX_6 L0 (fun f hf => mk6 hf)
    have O1 : lnO2 r (mkL (l 0) (l 1) (cM col (l 2)) (l 3) (l 4) (l 5)) := by rw [n2]; exact lnO2_6 O0 (fun f hf => mk6 hf)
    have L1 := K1
    have n4 : cM col (l 4) = l 4 := cM_x (by omega)
    have K2 : lnX r (mkL (l 0) (l 1) (cM col (l 2)) (l 3) (cM col (l 4)) (l 5)) (F q1) := by rw [n4]; exact lnX_6 L1 (fun f hf => rfl)
    have O2 : lnO2 r (mkL (l 0) (l 1) (cM col (l 2)) (l 3) (cM col (l 4)) (l 5)) := by rw [n4]; exact lnO2_6 O1 (fun f hf => rfl)
    have L2 := K2
    have a1 : ∀ v, v < 2000 → (x8 v).toInt = col v := fun v hv => by
      have e : cB (F (γ 9 17)) = x8 := by rw [← cB_of h15]
      rw [← e]; exact hC v hv
    have g1 : 0 ≤ l 1 := by omega
    have y1 : x9.toInt = cM col (l 1) := cM_p (show x7.toInt = l 1 by rw [v_x7]; omega) g1 (by omega) a1 h16
    have z1 := hc1 g1
    rw [← cp _ g1] at z1
    have K3 : lnX r (mkL (l 0) (cM col (l 1)) (cM col (l 2)) (l 3) (cM col (l 4)) (l 5)) (x10 q1) := set_T (l := mkL (l 0) (l 1) (cM col (l 2)) (l 3) (cM col (l 4)) (l 5)) O2 L2 S0 h19 g1 y1
    have L3 := K3
    exact ⟨lnX_6 L3 (fun f hf => rm6 f hf), fun a ha => by rw [h18 a ha]⟩
  · intro x1 x2 x3 x4 x5 x6 x7 x8 x9 x10 h1 h2 h3 h4 h5 h6 h7 h8 h9 h10 h11 h12 h13 h14 h15 h16 h17 h18 h19 h20
    have L0 := hl
    have O0 := hO
    have S0 := hs
    have qa := uA_t2 h4
    have qb := uB_t2 h8
    have qs := ss_t2 h19
    obtain ⟨S1, E1_0, E1_1, E1_2, E1_3, E1_4, E1_5, E1_6⟩ := cw_3 S0 h16
    have v_x1 : x1 = fI (F q1) 0 := by rw [← h1]
    have v_x2 : x2 = fI (F q1) 5 := by rw [← h2]
    have v_x4 : x4 = fI (F q1) 6 := by rw [← h6]
    have v_x6 : x6 = fI (F q1) 3 := by rw [← h11]
    rw [v_x1] at qa
    rw [v_x2] at qa
    rw [v_x1] at qb
    rw [v_x4] at qb
    rw [v_x1] at qs
    have n2 : cM col (l 2) = l 2 := cM_x (by omega)
    have K1 : lnX r (mkL (l 0) (l 1) (cM col (l 2)) (l 3) (l 4) (l 5)) (F q1) := by rw [n2]; exact lnX_6 L0 (fun f hf => mk6 hf)
    have O1 : lnO2 r (mkL (l 0) (l 1) (cM col (l 2)) (l 3) (l 4) (l 5)) := by rw [n2]; exact lnO2_6 O0 (fun f hf => mk6 hf)
    have L1 := K1
    have a1 : ∀ v, v < 2000 → (x7 v).toInt = col v := fun v hv => by
      have e : cB (F (γ 9 17)) = x7 := by rw [← cB_of h12]
      rw [← e]; exact hC v hv
    have g1 : 0 ≤ l 4 := by omega
    have y1 : x8.toInt = cM col (l 4) := cM_p (show x6.toInt = l 4 by rw [v_x6]; omega) g1 (by omega) a1 h13
    have z1 := hc4 g1
    rw [← cp _ g1] at z1
    have K2 : lnX r (mkL (l 0) (l 1) (cM col (l 2)) (l 3) (cM col (l 4)) (l 5)) (x9 q1) := set_B (l := mkL (l 0) (l 1) (cM col (l 2)) (l 3) (l 4) (l 5)) O1 L1 S0 h16 g1 y1 z1.1
    have O2 : lnO2 r (mkL (l 0) (l 1) (cM col (l 2)) (l 3) (cM col (l 4)) (l 5)) := lnO2_B (l := mkL (l 0) (l 1) (cM col (l 2)) (l 3) (l 4) (l 5)) O1 g1 z1.1 (by have := z1.2; omega)
    have L2 := K2
    have n1 : cM col (l 1) = l 1 := cM_x (by omega)
    have K3 : lnX r (mkL (l 0) (cM col (l 1)) (cM col (l 2)) (l 3) (cM col (l 4)) (l 5)) (x9 q1) := by rw [n1]; exact lnX_6 L2 (fun f hf => rfl)
    have L3 := K3
    exact ⟨lnX_6 L3 (fun f hf => rm6 f hf), fun a ha => by rw [h15 a ha]⟩
  · intro x1 x2 x3 x4 x5 x6 x7 x8 x9 x10 x11 x12 x13 h1 h2 h3 h4 h5 h6 h7 h8 h9 h10 h11 h12 h13 h14 h15 h16 h17 h18 h19 h20 h21 h22 h23 h24 h25 h26 h27
    have L0 := hl
    have O0 := hO
    have S0 := hs
    have qa := uA_t2 h4
    have qb := uB_t2 h8
    have qs := ss_t2 h19
    obtain ⟨S1, E1_0, E1_1, E1_2, E1_3, E1_4, E1_5, E1_6⟩ := cw_3 S0 h16
    obtain ⟨S2, E2_0, E2_1, E2_2, E2_3, E2_4, E2_5, E2_6⟩ := cw_1 S1 h27
    have v_x1 : x1 = fI (F q1) 0 := by rw [← h1]
    have v_x2 : x2 = fI (F q1) 5 := by rw [← h2]
    have v_x4 : x4 = fI (F q1) 6 := by rw [← h6]
    have v_x6 : x6 = fI (F q1) 3 := by rw [← h11]
    have v_x11 : x11 = fI (F q1) 1 := by rw [← h22, E1_1]
    rw [v_x1] at qa
    rw [v_x2] at qa
    rw [v_x1] at qb
    rw [v_x4] at qb
    rw [v_x1] at qs
    have n2 : cM col (l 2) = l 2 := cM_x (by omega)
    have K1 : lnX r (mkL (l 0) (l 1) (cM col (l 2)) (l 3) (l 4) (l 5)) (F q1) := by rw [n2]; exact lnX_6 L0 (fun f hf => mk6 hf)
    have O1 : lnO2 r (mkL (l 0) (l 1) (cM col (l 2)) (l 3) (l 4) (l 5)) := by rw [n2]; exact lnO2_6 O0 (fun f hf => mk6 hf)
    have L1 := K1
    have a1 : ∀ v, v < 2000 → (x7 v).toInt = col v := fun v hv => by
      have e : cB (F (γ 9 17)) = x7 := by rw [← cB_of h12]
      rw [← e]; exact hC v hv
    have g1 : 0 ≤ l 4 := by omega
    have y1 : x8.toInt = cM col (l 4) := cM_p (show x6.toInt = l 4 by rw [v_x6]; omega) g1 (by omega) a1 h13
    have z1 := hc4 g1
    rw [← cp _ g1] at z1
    have K2 : lnX r (mkL (l 0) (l 1) (cM col (l 2)) (l 3) (cM col (l 4)) (l 5)) (x9 q1) := set_B (l := mkL (l 0) (l 1) (cM col (l 2)) (l 3) (l 4) (l 5)) O1 L1 S0 h16 g1 y1 z1.1
    have O2 : lnO2 r (mkL (l 0) (l 1) (cM col (l 2)) (l 3) (cM col (l 4)) (l 5)) := lnO2_B (l := mkL (l 0) (l 1) (cM col (l 2)) (l 3) (l 4) (l 5)) O1 g1 z1.1 (by have := z1.2; omega)
    have L2 := K2
    have a2 : ∀ v, v < 2000 → (x7 v).toInt = col v := fun v hv => by
      have e : cB (F (γ 9 17)) = x7 := by rw [← cB_of h23, h15 _ n17]
      rw [← e]; exact hC v hv
    have g2 : 0 ≤ l 1 := by omega
    have y2 : x12.toInt = cM col (l 1) := cM_p (show x11.toInt = l 1 by rw [v_x11]; omega) g2 (by omega) a2 h24
    have z2 := hc1 g2
    rw [← cp _ g2] at z2
    have K3 : lnX r (mkL (l 0) (cM col (l 1)) (cM col (l 2)) (l 3) (cM col (l 4)) (l 5)) (x13 q1) := set_T (l := mkL (l 0) (l 1) (cM col (l 2)) (l 3) (cM col (l 4)) (l 5)) O2 L2 S1 h27 g2 y2
    have L3 := K3
    exact ⟨lnX_6 L3 (fun f hf => rm6 f hf), fun a ha => by rw [h26 a ha, h15 a ha]⟩
  · intro x1 x2 x3 x4 x5 x6 x7 x8 x9 x10 h1 h2 h3 h4 h5 h6 h7 h8 h9 h10 h11 h12 h13 h14 h15 h16 h17 h18 h19 h20
    have L0 := hl
    have O0 := hO
    have S0 := hs
    have qa := uA_t2 h4
    have qb := uB_t2 h16
    have qs := ss_t2 h19
    obtain ⟨S1, E1_0, E1_1, E1_2, E1_3, E1_4, E1_5, E1_6⟩ := cw_2 S0 h12
    have v_x1 : x1 = fI (F q1) 0 := by rw [← h1]
    have v_x2 : x2 = fI (F q1) 5 := by rw [← h2]
    have v_x4 : x4 = fI (F q1) 2 := by rw [← h7]
    have v_x8 : x8 = fI (F q1) 6 := by rw [← h14, E1_6]
    rw [v_x1] at qa
    rw [v_x2] at qa
    rw [v_x1] at qb
    rw [v_x8] at qb
    rw [v_x1] at qs
    have a1 : ∀ v, v < 2000 → (x5 v).toInt = col v := fun v hv => by
      have e : cB (F (γ 9 17)) = x5 := by rw [← cB_of h8]
      rw [← e]; exact hC v hv
    have g1 : 0 ≤ l 2 := by omega
    have y1 : x6.toInt = cM col (l 2) := cM_p (show x4.toInt = l 2 by rw [v_x4]; omega) g1 (by omega) a1 h9
    have z1 := hc2 g1
    rw [← cp _ g1] at z1
    have K1 : lnX r (mkL (l 0) (l 1) (cM col (l 2)) (l 3) (l 4) (l 5)) (x7 q1) := set_A (l := l) O0 L0 S0 h12 g1 y1 z1.1
    have O1 : lnO2 r (mkL (l 0) (l 1) (cM col (l 2)) (l 3) (l 4) (l 5)) := lnO2_A (l := l) O0 g1 z1.1 (by have := z1.2; omega)
    have L1 := K1
    have n4 : cM col (l 4) = l 4 := cM_x (by omega)
    have K2 : lnX r (mkL (l 0) (l 1) (cM col (l 2)) (l 3) (cM col (l 4)) (l 5)) (x7 q1) := by rw [n4]; exact lnX_6 L1 (fun f hf => rfl)
    have O2 : lnO2 r (mkL (l 0) (l 1) (cM col (l 2)) (l 3) (cM col (l 4)) (l 5)) := by rw [n4]; exact lnO2_6 O1 (fun f hf => rfl)
    have L2 := K2
    have n1 : cM col (l 1) = l 1 := cM_x (by omega)
    have K3 : lnX r (mkL (l 0) (cM col (l 1)) (cM col (l 2)) (l 3) (cM col (l 4)) (l 5)) (x7 q1) := by rw [n1]; exact lnX_6 L2 (fun f hf => rfl)
    have L3 := K3
    exact ⟨lnX_6 L3 (fun f hf => rm6 f hf), fun a ha => by rw [h11 a ha]⟩
  · intro x1 x2 x3 x4 x5 x6 x7 x8 x9 x10 x11 x12 x13 h1 h2 h3 h4 h5 h6 h7 h8 h9 h10 h11 h12 h13 h14 h15 h16 h17 h18 h19 h20 h21 h22 h23 h24 h25 h26 h27
    have L0 := hl
    have O0 := hO
    have S0 := hs
    have qa := uA_t2 h4
    have qb := uB_t2 h16
    have qs := ss_t2 h19
    obtain ⟨S1, E1_0, E1_1, E1_2, E1_3, E1_4, E1_5, E1_6⟩ := cw_2 S0 h12
    obtain ⟨S2, E2_0, E2_1, E2_2, E2_3, E2_4, E2_5, E2_6⟩ := cw_1 S1 h27
    have v_x1 : x1 = fI (F q1) 0 := by rw [← h1]
    have v_x2 : x2 = fI (F q1) 5 := by rw [← h2]
    have v_x4 : x4 = fI (F q1) 2 := by rw [← h7]
    have v_x8 : x8 = fI (F q1) 6 := by rw [← h14, E1_6]
    have v_x11 : x11 = fI (F q1) 1 := by rw [← h22, E1_1]
    rw [v_x1] at qa
    rw [v_x2] at qa
    rw [v_x1] at qb
    rw [v_x8] at qb
    rw [v_x1] at qs
    have a1 : ∀ v, v < 2000 → (x5 v).toInt = col v := fun v hv => by
      have e : cB (F (γ 9 17)) = x5 := by rw [← cB_of h8]
      rw [← e]; exact hC v hv
    have g1 : 0 ≤ l 2 := by omega
    have y1 : x6.toInt = cM col (l 2) := cM_p (show x4.toInt = l 2 by rw [v_x4]; omega) g1 (by omega) a1 h9
    have z1 := hc2 g1
    rw [← cp _ g1] at z1
    have K1 : lnX r (mkL (l 0) (l 1) (cM col (l 2)) (l 3) (l 4) (l 5)) (x7 q1) := set_A (l := l) O0 L0 S0 h12 g1 y1 z1.1
    have O1 : lnO2 r (mkL (l 0) (l 1) (cM col (l 2)) (l 3) (l 4) (l 5)) := lnO2_A (l := l) O0 g1 z1.1 (by have := z1.2; omega)
    have L1 := K1
    have n4 : cM col (l 4) = l 4 := cM_x (by omega)
    have K2 : lnX r (mkL (l 0) (l 1) (cM col (l 2)) (l 3) (cM col (l 4)) (l 5)) (x7 q1) := by rw [n4]; exact lnX_6 L1 (fun f hf => rfl)
    have O2 : lnO2 r (mkL (l 0) (l 1) (cM col (l 2)) (l 3) (cM col (l 4)) (l 5)) := by rw [n4]; exact lnO2_6 O1 (fun f hf => rfl)
    have L2 := K2
    have a2 : ∀ v, v < 2000 → (x5 v).toInt = col v := fun v hv => by
      have e : cB (F (γ 9 17)) = x5 := by rw [← cB_of h23, h11 _ n17]
      rw [← e]; exact hC v hv
    have g2 : 0 ≤ l 1 := by omega
    have y2 : x12.toInt = cM col (l 1) := cM_p (show x11.toInt = l 1 by rw [v_x11]; omega) g2 (by omega) a2 h24
    have z2 := hc1 g2
    rw [← cp _ g2] at z2
    have K3 : lnX r (mkL (l 0) (cM col (l 1)) (cM col (l 2)) (l 3) (cM col (l 4)) (l 5)) (x13 q1) := set_T (l := mkL (l 0) (l 1) (cM col (l 2)) (l 3) (cM col (l 4)) (l 5)) O2 L2 S1 h27 g2 y2
    have L3 := K3
    exact ⟨lnX_6 L3 (fun f hf => rm6 f hf), fun a ha => by rw [h26 a ha, h11 a ha]⟩
  · intro x1 x2 x3 x4 x5 x6 x7 x8 x9 x10 x11 x12 x13 h1 h2 h3 h4 h5 h6 h7 h8 h9 h10 h11 h12 h13 h14 h15 h16 h17 h18 h19 h20 h21 h22 h23 h24 h25 h26 h27 h28
    have L0 := hl
    have O0 := hO
    have S0 := hs
    have qa := uA_t2 h4
    have qb := uB_t2 h16
    have qs := ss_t2 h27
    obtain ⟨S1, E1_0, E1_1, E1_2, E1_3, E1_4, E1_5, E1_6⟩ := cw_2 S0 h12
    obtain ⟨S2, E2_0, E2_1, E2_2, E2_3, E2_4, E2_5, E2_6⟩ := cw_3 S1 h24
    have v_x1 : x1 = fI (F q1) 0 := by rw [← h1]
    have v_x2 : x2 = fI (F q1) 5 := by rw [← h2]
    have v_x4 : x4 = fI (F q1) 2 := by rw [← h7]
    have v_x8 : x8 = fI (F q1) 6 := by rw [← h14, E1_6]
    have v_x10 : x10 = fI (F q1) 3 := by rw [← h19, E1_3]
    rw [v_x1] at qa
    rw [v_x2] at qa
    rw [v_x1] at qb
    rw [v_x8] at qb
    rw [v_x1] at qs
    have a1 : ∀ v, v < 2000 → (x5 v).toInt = col v := fun v hv => by
      have e : cB (F (γ 9 17)) = x5 := by rw [← cB_of h8]
      rw [← e]; exact hC v hv
    have g1 : 0 ≤ l 2 := by omega
    have y1 : x6.toInt = cM col (l 2) := cM_p (show x4.toInt = l 2 by rw [v_x4]; omega) g1 (by omega) a1 h9
    have z1 := hc2 g1
    rw [← cp _ g1] at z1
    have K1 : lnX r (mkL (l 0) (l 1) (cM col (l 2)) (l 3) (l 4) (l 5)) (x7 q1) := set_A (l := l) O0 L0 S0 h12 g1 y1 z1.1
    have O1 : lnO2 r (mkL (l 0) (l 1) (cM col (l 2)) (l 3) (l 4) (l 5)) := lnO2_A (l := l) O0 g1 z1.1 (by have := z1.2; omega)
    have L1 := K1
    have a2 : ∀ v, v < 2000 → (x5 v).toInt = col v := fun v hv => by
      have e : cB (F (γ 9 17)) = x5 := by rw [← cB_of h20, h11 _ n17]
      rw [← e]; exact hC v hv
    have g2 : 0 ≤ l 4 := by omega
    have y2 : x11.toInt = cM col (l 4) := cM_p (show x10.toInt = l 4 by rw [v_x10]; omega) g2 (by omega) a2 h21
    have z2 := hc4 g2
    rw [← cp _ g2] at z2
    have K2 : lnX r (mkL (l 0) (l 1) (cM col (l 2)) (l 3) (cM col (l 4)) (l 5)) (x12 q1) := set_B (l := mkL (l 0) (l 1) (cM col (l 2)) (l 3) (l 4) (l 5)) O1 L1 S1 h24 g2 y2 z2.1
    have O2 : lnO2 r (mkL (l 0) (l 1) (cM col (l 2)) (l 3) (cM col (l 4)) (l 5)) := lnO2_B (l := mkL (l 0) (l 1) (cM col (l 2)) (l 3) (l 4) (l 5)) O1 g2 z2.1 (by have := z2.2; omega)
    have L2 := K2
    have n1 : cM col (l 1) = l 1 := cM_x (by omega)
    have K3 : lnX r (mkL (l 0) (cM col (l 1)) (cM col (l 2)) (l 3) (cM col (l 4)) (l 5)) (x12 q1) := by rw [n1]; exact lnX_6 L2 (fun f hf => rfl)
    have L3 := K3
    exact ⟨lnX_6 L3 (fun f hf => rm6 f hf), fun a ha => by rw [h23 a ha, h11 a ha]⟩
  · intro x1 x2 x3 x4 x5 x6 x7 x8 x9 x10 x11 x12 x13 x14 x15 x16 h1 h2 h3 h4 h5 h6 h7 h8 h9 h10 h11 h12 h13 h14 h15 h16 h17 h18 h19 h20 h21 h22 h23 h24 h25 h26 h27 h28 h29 h30 h31 h32 h33 h34 h35
    have L0 := hl
    have O0 := hO
    have S0 := hs
    have qa := uA_t2 h4
    have qb := uB_t2 h16
    have qs := ss_t2 h27
    obtain ⟨S1, E1_0, E1_1, E1_2, E1_3, E1_4, E1_5, E1_6⟩ := cw_2 S0 h12
    obtain ⟨S2, E2_0, E2_1, E2_2, E2_3, E2_4, E2_5, E2_6⟩ := cw_3 S1 h24
    obtain ⟨S3, E3_0, E3_1, E3_2, E3_3, E3_4, E3_5, E3_6⟩ := cw_1 S2 h35
    have v_x1 : x1 = fI (F q1) 0 := by rw [← h1]
    have v_x2 : x2 = fI (F q1) 5 := by rw [← h2]
    have v_x4 : x4 = fI (F q1) 2 := by rw [← h7]
    have v_x8 : x8 = fI (F q1) 6 := by rw [← h14, E1_6]
    have v_x10 : x10 = fI (F q1) 3 := by rw [← h19, E1_3]
    have v_x14 : x14 = fI (F q1) 1 := by rw [← h30, E2_1, E1_1]
    rw [v_x1] at qa
    rw [v_x2] at qa
    rw [v_x1] at qb
    rw [v_x8] at qb
    rw [v_x1] at qs
    have a1 : ∀ v, v < 2000 → (x5 v).toInt = col v := fun v hv => by
      have e : cB (F (γ 9 17)) = x5 := by rw [← cB_of h8]
      rw [← e]; exact hC v hv
    have g1 : 0 ≤ l 2 := by omega
    have y1 : x6.toInt = cM col (l 2) := cM_p (show x4.toInt = l 2 by rw [v_x4]; omega) g1 (by omega) a1 h9
    have z1 := hc2 g1
    rw [← cp _ g1] at z1
    have K1 : lnX r (mkL (l 0) (l 1) (cM col (l 2)) (l 3) (l 4) (l 5)) (x7 q1) := set_A (l := l) O0 L0 S0 h12 g1 y1 z1.1
    have O1 : lnO2 r (mkL (l 0) (l 1) (cM col (l 2)) (l 3) (l 4) (l 5)) := lnO2_A (l := l) O0 g1 z1.1 (by have := z1.2; omega)
    have L1 := K1
    have a2 : ∀ v, v < 2000 → (x5 v).toInt = col v := fun v hv => by
      have e : cB (F (γ 9 17)) = x5 := by rw [← cB_of h20, h11 _ n17]
      rw [← e]; exact hC v hv
    have g2 : 0 ≤ l 4 := by omega
    have y2 : x11.toInt = cM col (l 4) := cM_p (show x10.toInt = l 4 by rw [v_x10]; omega) g2 (by omega) a2 h21
    have z2 := hc4 g2
    rw [← cp _ g2] at z2
    have K2 : lnX r (mkL (l 0) (l 1) (cM col (l 2)) (l 3) (cM col (l 4)) (l 5)) (x12 q1) := set_B (l := mkL (l 0) (l 1) (cM col (l 2)) (l 3) (l 4) (l 5)) O1 L1 S1 h24 g2 y2 z2.1
    have O2 : lnO2 r (mkL (l 0) (l 1) (cM col (l 2)) (l 3) (cM col (l 4)) (l 5)) := lnO2_B (l := mkL (l 0) (l 1) (cM col (l 2)) (l 3) (l 4) (l 5)) O1 g2 z2.1 (by have := z2.2; omega)
    have L2 := K2
    have a3 : ∀ v, v < 2000 → (x5 v).toInt = col v := fun v hv => by
      have e : cB (F (γ 9 17)) = x5 := by rw [← cB_of h31, h23 _ n17, h11 _ n17]
      rw [← e]; exact hC v hv
    have g3 : 0 ≤ l 1 := by omega
    have y3 : x15.toInt = cM col (l 1) := cM_p (show x14.toInt = l 1 by rw [v_x14]; omega) g3 (by omega) a3 h32
    have z3 := hc1 g3
    rw [← cp _ g3] at z3
    have K3 : lnX r (mkL (l 0) (cM col (l 1)) (cM col (l 2)) (l 3) (cM col (l 4)) (l 5)) (x16 q1) := set_T (l := mkL (l 0) (l 1) (cM col (l 2)) (l 3) (cM col (l 4)) (l 5)) O2 L2 S2 h35 g3 y3
    have L3 := K3
    exact ⟨lnX_6 L3 (fun f hf => rm6 f hf), fun a ha => by rw [h34 a ha, h23 a ha, h11 a ha]⟩
set_option maxHeartbeats 2000000 in
theorem ga110_r {q0 : Nat} {c1 : Nat → va_E} {q1 : Nat} {l5_1 : Int32} {c2 : Nat} {s1 : List Nat} {s2 : Nat → va_E} {s3 : Nat → Nat → Nat} {s4 : Nat → Nat → Nat} {s5 : Int32} {k : Nat} {e1 : Nat → va_E} {e2 : List Nat} {e3 : Nat → Nat → Nat} {e4 : Nat → Nat → Nat} (hm : γ0 0 q0 = 10) (hc : γ0 0 q1 = 9) (hcf : γ0 1 q1 = f) (hO : qOk R) (hC : ∀ v, v < 2000 → (cB (c1 (γ0 9 17)) v).toInt = col v) (hcol : ∀ v, Sd R false 2000 v → 0 ≤ col v ∧ col v < 2000) (hb : b < R.1) (h : tl_RModel_giveAll_110 D I γ0 el0 f P F q0 c1 q1 l5_1 c2 s1 s2 s3 s4 s5 k e1 e2 e3 e4) : ∀ j : Nat, s5.toInt = (j : Int) → j ≤ R.2.1 b → s3 6 f = R.1 → c2 = s4 (s3 14 q1) b → rfX s3 s4 s2 q1 (hfP R (rmL col) b j) → (e2 = s1 ∧ e3 = s3 ∧ e4 = s4 ∧ e1 q0 = s2 q0) ∧ rfX e3 e4 e1 q1 (hfP R (rmL col) b (R.2.1 b)) := by
  refine h (fun s1 s2 s3 s4 s5 k e1 e2 e3 e4 => ∀ j : Nat, s5.toInt = (j : Int) → j ≤ R.2.1 b → s3 6 f = R.1 → c2 = s4 (s3 14 q1) b → rfX s3 s4 s2 q1 (hfP R (rmL col) b j) → (e2 = s1 ∧ e3 = s3 ∧ e4 = s4 ∧ e1 q0 = s2 q0) ∧ rfX e3 e4 e1 q1 (hfP R (rmL col) b (R.2.1 b))) ?_ ?_ ?_
  · intro P_2 F_2 gm_2 el_2 l7_2 x1 x2 h1 h2 h3 h4 h5 h6 h7 h8 h9 h10 h11 h12 h13 h14 h15
    intro j hj hj2 hR6 hc2 hx
    have jT := h2
    have jk := h3
    have c9 : gm_2 0 q1 = 9 := rSk_k jk (show rKd γ0 q1 9 from hc) (by decide) (by decide)
    have cf' : gm_2 1 q1 = f := rSk_1 jk (show rKd γ0 q1 9 from hc) (by decide) hcf
    have n9 : gm_2 9 = γ0 9 := rSk_9 jk
    have bk := hB2_ (Q := R) jT c9 cf' hR6 b hb
    rw [← hc2] at bk
    obtain ⟨ll, nn, pp, ss, v1, ⟨g1, g2, g3⟩, v3, v4, v5, -⟩ := show rk_2 gm_2 c2 (F_2 c2) from RS_o jT bk
    have ex1 : x1 = rwL gm_2 el_2 q1 b := by
      rw [← h12, v1]
      show ll = gm_2 14 (el_2 (gm_2 14 q1) b)
      rw [← hc2, g1]
    have mlen : gm_2 2 (rwL gm_2 el_2 q1 b) + 1 = R.2.1 b := (hx.2.1 b hb).1
    have hx2 := h13
    rw [ex1] at hx2
    have e : j = R.2.1 b := by omega
    rw [e] at hx
    exact ⟨⟨rfl, rfl, rfl, rfl⟩, hx⟩
  · intro P_2 F_2 gm_2 el_2 l7_2 x1 x2 x3 x4 x5 k e1 e2 e3 e4 h1 h2 h3 h4 h5 h6 h7 h8 h9 h10 h11 h12 h13 h14 h15 h16 h17 h18 h19 h20 h21 h22 h23 h24 h25 h26 ih
    intro j hj hj2 hR6 hc2 hx
    have jT := h2
    have jk := h3
    have c9 : gm_2 0 q1 = 9 := rSk_k jk (show rKd γ0 q1 9 from hc) (by decide) (by decide)
    have cf' : gm_2 1 q1 = f := rSk_1 jk (show rKd γ0 q1 9 from hc) (by decide) hcf
    have n9 : gm_2 9 = γ0 9 := rSk_9 jk
    have bk := hB2_ (Q := R) jT c9 cf' hR6 b hb
    rw [← hc2] at bk
    obtain ⟨ll, nn, pp, ss, v1, ⟨g1, g2, g3⟩, v3, v4, v5, -⟩ := show rk_2 gm_2 c2 (F_2 c2) from RS_o jT bk
    have ex1 : x1 = rwL gm_2 el_2 q1 b := by
      rw [← h12, v1]
      show ll = gm_2 14 (el_2 (gm_2 14 q1) b)
      rw [← hc2, g1]
    have mlen : gm_2 2 (rwL gm_2 el_2 q1 b) + 1 = R.2.1 b := (hx.2.1 b hb).1
    have hx2 := h13
    rw [ex1] at hx2
    have hj3 : j < R.2.1 b := by omega
    have e3 : x3 = rAt gm_2 el_2 q1 b j := by
      rw [← h18, v1]
      show nn = _
      rw [show rAt gm_2 el_2 q1 b j = gm_2 15 (el_2 (gm_2 14 q1) b) from if_neg (show ¬ j < gm_2 2 (rwL gm_2 el_2 q1 b) by omega), ← hc2, g2]
    have hl := hx.2.2 b hb j (by omega)
    rw [← e3] at hl
    have hl2 : lnX (rwB R b j) (R.2.2.1 b j) (F_2 x3) := by
      have q : lnX (rwB R b j) ((hfP R (rmL col) b j).2.2.1 b j) (F_2 x3) := hl
      rw [hf_l] at q
      exact q
    have kx : gm_2 0 x3 = 1 := by rw [e3]; exact (rAt_k jT c9 cf' (by omega)).1
    have m10 : gm_2 0 q0 = 10 := rSk_k jk (show rKd γ0 q0 10 from hm) (by decide) (by decide)
    have n17 : gm_2 9 17 ≠ x3 := fun e => by
      have q := md_17 jT m10
      rw [e, kx] at q; cases q
    have cc : ∀ f, f = 1 ∨ f = 2 ∨ f = 4 → 0 ≤ R.2.2.1 b j f → 0 ≤ col (R.2.2.1 b j f).toNat ∧ col (R.2.2.1 b j f).toNat < 2000 := fun f hf h0 => hcol _ (Sd_f hb hj3 hf h0 (by
      have q := lnO2_b (qk_l hO hb hj3)
      rcases hf with e | e | e <;> rw [e] <;> omega))
    obtain ⟨p1, p2⟩ := col_ln (qk_l hO hb hj3) hl2 (rwS_1 (RS_o jT kx)) n17 (fun v hv => by rw [n9, h7]; exact hC v hv) (cc 1 (Or.inl rfl)) (cc 2 (Or.inr (Or.inl rfl))) (cc 4 (Or.inr (Or.inr rfl))) h25
    have pt := rfX_put (b := b) (j := j) (l := rmL col (R.2.2.1 b j)) (F1 := x4) jT c9 cf' (by exact hR6) hx (hB2_ (Q := R) jT c9 cf' hR6) hb hj3 (by rw [← e3]; exact p2) (by rw [hf_l]; rfl) (by rw [← e3]; exact p1)
    rw [hf_s] at pt
    obtain ⟨⟨i1, i2, i3, i4⟩, i5⟩ := ih (j + 1) (by rw [h26]; omega) hj3 hR6 hc2 pt
    exact ⟨⟨i1, i2, i3, i4.trans h22⟩, i5⟩
  · intro P_2 F_2 gm_2 el_2 l7_2 x1 x2 x3 x4 x5 k e1 e2 e3 e4 h1 h2 h3 h4 h5 h6 h7 h8 h9 h10 h11 h12 h13 h14 h15 h16 h17 h18 h19 h20 h21 h22 h23 h24 h25 h26 h27 ih
    intro j hj hj2 hR6 hc2 hx
    have jT := h2
    have jk := h3
    have c9 : gm_2 0 q1 = 9 := rSk_k jk (show rKd γ0 q1 9 from hc) (by decide) (by decide)
    have cf' : gm_2 1 q1 = f := rSk_1 jk (show rKd γ0 q1 9 from hc) (by decide) hcf
    have n9 : gm_2 9 = γ0 9 := rSk_9 jk
    have bk := hB2_ (Q := R) jT c9 cf' hR6 b hb
    rw [← hc2] at bk
    obtain ⟨ll, nn, pp, ss, v1, ⟨g1, g2, g3⟩, v3, v4, v5, -⟩ := show rk_2 gm_2 c2 (F_2 c2) from RS_o jT bk
    have ex1 : x1 = rwL gm_2 el_2 q1 b := by
      rw [← h12, v1]
      show ll = gm_2 14 (el_2 (gm_2 14 q1) b)
      rw [← hc2, g1]
    have mlen : gm_2 2 (rwL gm_2 el_2 q1 b) + 1 = R.2.1 b := (hx.2.1 b hb).1
    have hx2 := h13
    rw [ex1] at hx2
    have hj3 : j < R.2.1 b := by omega
    have e3 : x3 = rAt gm_2 el_2 q1 b j := by
      rw [h18, ex1, show l7_2.toInt.toNat = j by rw [hj]; rfl]
      exact (if_pos (show j < gm_2 2 (rwL gm_2 el_2 q1 b) by omega)).symm
    have hl := hx.2.2 b hb j (by omega)
    rw [← e3] at hl
    have hl2 : lnX (rwB R b j) (R.2.2.1 b j) (F_2 x3) := by
      have q : lnX (rwB R b j) ((hfP R (rmL col) b j).2.2.1 b j) (F_2 x3) := hl
      rw [hf_l] at q
      exact q
    have kx : gm_2 0 x3 = 1 := by rw [e3]; exact (rAt_k jT c9 cf' (by omega)).1
    have m10 : gm_2 0 q0 = 10 := rSk_k jk (show rKd γ0 q0 10 from hm) (by decide) (by decide)
    have n17 : gm_2 9 17 ≠ x3 := fun e => by
      have q := md_17 jT m10
      rw [e, kx] at q; cases q
    have cc : ∀ f, f = 1 ∨ f = 2 ∨ f = 4 → 0 ≤ R.2.2.1 b j f → 0 ≤ col (R.2.2.1 b j f).toNat ∧ col (R.2.2.1 b j f).toNat < 2000 := fun f hf h0 => hcol _ (Sd_f hb hj3 hf h0 (by
      have q := lnO2_b (qk_l hO hb hj3)
      rcases hf with e | e | e <;> rw [e] <;> omega))
    obtain ⟨p1, p2⟩ := col_ln (qk_l hO hb hj3) hl2 (rwS_1 (RS_o jT kx)) n17 (fun v hv => by rw [n9, h7]; exact hC v hv) (cc 1 (Or.inl rfl)) (cc 2 (Or.inr (Or.inl rfl))) (cc 4 (Or.inr (Or.inr rfl))) h26
    have pt := rfX_put (b := b) (j := j) (l := rmL col (R.2.2.1 b j)) (F1 := x4) jT c9 cf' (by exact hR6) hx (hB2_ (Q := R) jT c9 cf' hR6) hb hj3 (by rw [← e3]; exact p2) (by rw [hf_l]; rfl) (by rw [← e3]; exact p1)
    rw [hf_s] at pt
    obtain ⟨⟨i1, i2, i3, i4⟩, i5⟩ := ih (j + 1) (by rw [h27]; omega) hj3 hR6 hc2 pt
    exact ⟨⟨i1, i2, i3, i4.trans h23⟩, i5⟩
theorem ga90_r {q0 : Nat} {c1 : Nat → va_E} {q1 : Nat} {s1 : List Nat} {s2 : Nat → va_E} {s3 : Nat → Nat → Nat} {s4 : Nat → Nat → Nat} {s5 : Int32} {k : Nat} {e1 : Nat → va_E} {e2 : List Nat} {e3 : Nat → Nat → Nat} {e4 : Nat → Nat → Nat} (hm : γ0 0 q0 = 10) (hc : γ0 0 q1 = 9) (hcf : γ0 1 q1 = f) (hO : qOk R) (hC : ∀ v, v < 2000 → (cB (c1 (γ0 9 17)) v).toInt = col v) (hcol : ∀ v, Sd R false 2000 v → 0 ≤ col v ∧ col v < 2000) (h : tl_RModel_giveAll_90 D I γ0 el0 f P F q0 c1 q1 s1 s2 s3 s4 s5 k e1 e2 e3 e4) : ∀ b : Nat, s5.toInt = (b : Int) → b ≤ R.1 → s3 6 f = R.1 → rfX s3 s4 s2 q1 (hfP R (rmL col) b 0) → (e2 = s1 ∧ e3 = s3 ∧ e4 = s4 ∧ e1 q0 = s2 q0) ∧ rfX e3 e4 e1 q1 (rmP R col) ∧ RS D I e2 e1 e3 e4 := by
  refine h (fun s1 s2 s3 s4 s5 k e1 e2 e3 e4 => ∀ b : Nat, s5.toInt = (b : Int) → b ≤ R.1 → s3 6 f = R.1 → rfX s3 s4 s2 q1 (hfP R (rmL col) b 0) → (e2 = s1 ∧ e3 = s3 ∧ e4 = s4 ∧ e1 q0 = s2 q0) ∧ rfX e3 e4 e1 q1 (rmP R col) ∧ RS D I e2 e1 e3 e4) ?_ ?_
  · intro P_1 F_1 gm_1 el_1 l5_1 x1 h1 h2 h3 h4 h5 h6 h7 h8 h9 h10 h11
    intro b hb hb2 hR6 hx
    have q' : (fI (F_1 q1) 3).toInt = (R.1 : Int) := hx.1
    rw [h10] at q'
    have e : b = R.1 := by omega
    rw [e] at hx
    exact ⟨⟨rfl, rfl, rfl, rfl⟩, rfX_c hx rfl (fun i hi => ⟨rfl, rfl, fun k hk => (if_pos (Or.inl hi)).symm⟩), h2⟩
  · intro P_1 F_1 gm_1 el_1 l5_1 x1 x2 x3 x4 x5 x6 x7 x8 x9 k e1 e2 e3 e4 h1 h2 h3 h4 h5 h6 h7 h8 h9 h10 h11 h12 h13 h14 h15 h16 h17 ih
    intro b hb hb2 hR6 hx
    have jT := h2
    have jk := h3
    have c9 : gm_1 0 q1 = 9 := rSk_k jk (show rKd γ0 q1 9 from hc) (by decide) (by decide)
    have q' : (fI (F_1 q1) 3).toInt = (R.1 : Int) := hx.1
    rw [h10] at q'
    have hb3 : b < R.1 := by omega
    obtain ⟨lb, lr, rn, md, w1, ⟨w2, -⟩, -⟩ := show rk_9 gm_1 el_1 q1 (F_1 q1) from RS_o jT c9
    have e3 : x3 = el_1 (gm_1 14 q1) b := by
      rw [h13, ← h12, w1, show l5_1.toInt.toNat = b by rw [hb]; rfl]
      show el_1 lb b = _
      rw [w2]
    obtain ⟨⟨i1, i2, i3, i4⟩, i5⟩ := ga110_r hm hc hcf hO hC hcol hb3 h16 0 (by decide) (Nat.zero_le _) hR6 e3 hx
    obtain ⟨⟨k1, k2, k3, k4⟩, k5⟩ := ih (b + 1) (by rw [h17]; omega) hb3 (by rw [i2]; exact hR6) (hf_e (fun i hi hi2 => by omega) i5)
    exact ⟨⟨k1.trans i1, k2.trans i2, k3.trans i3, k4.trans i4⟩, k5⟩
end SR9
end
