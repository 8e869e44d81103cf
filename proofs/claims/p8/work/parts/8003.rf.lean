abbrev ky_409491_SpillForgeModel_load : gKey := (cX17_load, 6, "SpillForgeModel", (some FieldType.int), [], "load", fun _ _ => True)
def pg_409491_SpillForgeModel_load (D : va_G) (I : FieldType → ClassId) (γ0 el0 : Nat → Nat → Nat) (f : Nat) (B : Nat) (P409478 : List Nat) (F409479 : Nat → va_E) (q409480 : Nat) (q409481 : Nat) (q409482 : Nat) (p409483 : Int32) (p409484 : Int32) (jx409485 : Nat) : Option Value → va_W → Nat → Nat → Prop := fun r w dc ds => ∃ (P409841 : List Nat) (F409842 : Nat → va_E) (γ el : Nat → Nat → Nat) (o409840 : Int32), r = some (.int o409840) ∧ w = va_pl P409841 F409842 ∧ rSk f [101] ([3, 5, 6, 8, 9, 10, 101]) D I P409478 F409479 γ0 el0 P409841 F409842 γ el ∧ (18 * dc + rPh γ0 el0 f ≤ rPh γ el f ∧ ds + rPh γ0 el0 f ≤ rPh γ el f) ∧ rBd γ el f B ∧ gB o409840 (-1) 1999 ∧ γ 6 f = γ0 6 f ∧ γ 7 f = γ0 7 f ∧ γ 18 f = γ0 18 f ∧ (γ 14 q409482 = γ0 14 q409482 ∧ jx409485 < γ 2 (γ 14 q409481) ∧ el (γ 14 q409481) jx409485 = q409482) ∧ (o409840.toInt < 0 ∨ (o409840.toInt = (fI (F409479 q409480) 14).toInt ∧ o409840.toInt < 2000 ∧ (fI (F409842 q409480) 14).toInt = o409840.toInt + 1 ∧ γ 16 f = γ0 16 f + 1 ∧ γ 2 (γ 14 q409482) = γ0 2 (γ0 14 q409482) + 1)) ∧ (fI (F409842 q409480) 11).toInt = (fI (F409479 q409480) 11).toInt ∧ (o409840.toInt < 0 ∨ rInsP γ0 el0 F409479 γ el F409842 q409481 f jx409485 (p409483.toInt : Int).toNat (o409840.toInt : Int).toNat) ∧ (o409840.toInt < 0 ∨ ∀ j : Nat, (p409483.toInt : Int).toNat ≤ j → rAt γ el q409481 jx409485 (j + 1) = rAt γ0 el0 q409481 jx409485 j) ∧ mKp (F409479 q409480) (F409842 q409480)
set_option maxRecDepth 100000 in
set_option maxHeartbeats 1500000 in
theorem cg_409491_SpillForgeModel_load (l : Launch) (hl0 : l.stackTraces = false) (D : va_G) (I : FieldType → ClassId) (γ0 el0 : Nat → Nat → Nat) (f : Nat) (B : Nat) (P409478 : List Nat) (F409479 : Nat → va_E) (q409480 : Nat) (q409481 : Nat) (q409482 : Nat) (p409483 : Int32) (p409484 : Int32) (jx409485 : Nat) (hT0 : RS D I P409478 F409479 γ0 el0) (hzq409480 : rKd γ0 q409480 10) (hzq409481 : rKd γ0 q409481 9) (hzq409482 : rKd γ0 q409482 2) (hf0 : γ0 1 q409481 = f) (hB0 : rBd γ0 el0 f B) (hBk : B ≤ 100000) (hqjjx409485 : jx409485 < γ0 2 (γ0 14 q409481)) (hqejx409485 : el0 (γ0 14 q409481) jx409485 = q409482) (hqfjx409485 : γ0 1 q409482 = f) (bp409483 : gB p409483 0 1000000) (bp409484 : gB p409484 0 1999) (x409486 : p409483.toInt ≤ γ0 2 (γ0 14 q409482)) (x409487 : p409484.toInt < γ0 7 f) (x409488 : γ0 16 f + 1 ≤ B) (x409489 : 0 < γ0 6 f) (x409490 : jx409485 < γ0 6 f) : CtA (gV D I) l yX17_load cX17_load 6 (some FieldType.int) 8 170 (((387 * B + 6000) - rPh γ0 el0 f) / 18) ((387 * B + 6000) - rPh γ0 el0 f) [.ref q409480, .ref q409481, .ref q409482, .int p409483, .int p409484] (va_pl P409478 F409479) (pg_409491_SpillForgeModel_load D I γ0 el0 f B P409478 F409479 q409480 q409481 q409482 p409483 p409484 jx409485) gNA := by
  refine CtA_of hl0 (by decide) (Nat.le_of_ble_eq_true rfl) ?_
  obtain ⟨γ, hγ0⟩ : ∃ z, z = γ0 := ⟨_, rfl⟩
  obtain ⟨el, hel0⟩ : ∃ z, z = el0 := ⟨_, rfl⟩
  have hT : RS D I P409478 F409479 γ el := by rw [hγ0, hel0]; exact hT0
  have hst : rSk f [101] ([3, 5, 6, 8, 9, 10, 101]) D I P409478 F409479 γ0 el0 P409478 F409479 γ el := by rw [hγ0, hel0]; exact rSk_rf hT0
  have hph : rPh γ0 el0 f ≤ rPh γ el f := by rw [hγ0, hel0]; exact Nat.le_refl _
  have hB : rBd γ el f B := by rw [hγ0, hel0]; exact hB0
  have htq409480 : rKd γ q409480 10 := by rw [hγ0]; exact hzq409480
  have htq409481 : rKd γ q409481 9 := by rw [hγ0]; exact hzq409481
  have htq409482 : rKd γ q409482 2 := by rw [hγ0]; exact hzq409482
  have hf1 : γ 1 q409481 = f := by rw [hγ0]; exact hf0
  have hpjjx409485 : jx409485 < γ 2 (γ 14 q409481) := by rw [hγ0]; exact hqjjx409485
  have hpejx409485 : el (γ 14 q409481) jx409485 = q409482 := by rw [hγ0, hel0]; exact hqejx409485
  have hpfjx409485 : γ 1 q409482 = f := by rw [hγ0]; exact hqfjx409485
  have x409486n : p409483.toInt ≤ γ 2 (γ 14 q409482) := by rw [hγ0]; exact x409486
  have x409487n : p409484.toInt < γ 7 f := by rw [hγ0]; exact x409487
  have x409488n : γ 16 f + 1 ≤ B := by rw [hγ0]; exact x409488
  have x409489n : 0 < γ 6 f := by rw [hγ0]; exact x409489
  have x409490n : jx409485 < γ 6 f := by rw [hγ0]; exact x409490
  have pk409492 : rPh γ el f ≤ 387 * B + 6000 := rm_pk (rM_ge hT htq409481 hf1).1 (rM_bd hB)
  refine G_widen (cs' := ((rPh γ el f - rPh γ0 el0 f) / 18)) (sl' := (rPh γ el f - rPh γ0 el0 f)) (Nat.zero_le _) (Nat.zero_le _) ?_
  have r409493 : 0 < γ 6 (γ 1 q409481) := by rw [hf1]; omega
  have lz0 : Int32.toInt 0 = 0 := by decide
  have r409494 : γ 6 f = γ0 6 f := by rw [hγ0]
  have r409495 : γ 7 f = γ0 7 f := by rw [hγ0]
  have r409496 : γ 16 f = γ0 16 f := by rw [hγ0]
  have r409497 : γ 18 f = γ0 18 f := by rw [hγ0]
  have r409498 : γ 19 f = γ0 19 f := by rw [hγ0]
  have sz409499 : γ 2 (γ 14 q409482) = γ0 2 (γ0 14 q409482) := by rw [hγ0]
  have hm409500 : q409480 ∈ P409478 := RS_m hT htq409480 (by decide)
  obtain ⟨q409502, q409503, p409504, p409505, p409506, p409507, p409508, p409509, p409510, p409511, p409512, p409513, p409514, p409515, p409516, p409517, p409518, he409501, hB409545, ht409519, ht409520, ht409521, ht409522, ht409523, ht409524, ht409525, ht409526, ht409527, ht409528, ht409529, ht409530, ht409531, ht409532, ht409533, ht409534, ht409535, ht409536, ht409537, ht409538, ht409539, ht409540, ht409541, ht409542, hB409546⟩ := show rk_10 γ (F409479 q409480) from RS_o hT htq409480
  have ac0_11 : (fI (F409479 q409480) 11).toInt = p409506.toInt := by rw [he409501]; rfl
  have ac0_14 : (fI (F409479 q409480) 14).toInt = p409509.toInt := by rw [he409501]; rfl
  have bp409506 : gB p409506 0 100 := (hB409545.2.2.1)
  have bp409509 : gB p409509 0 2000 := (hB409545.2.2.2.1)
  refine G_aload_n 0 dr_cX17_load_0 rfl ?_
  refine Gp_get 14 hm409500 he409501 dr_cX17_load_1 (gk_X17 D I) (Nat.le_of_ble_eq_true rfl) wr_7_88 rfl ?_
  refine G_sipush 2000 dr_cX17_load_4 (by decide +kernel) ?_
  refine G_icmp_ne 12 dr_cX17_load_7 (by decide +kernel) (fun hc409547 => ?_) (fun hc409547 => ?_)
  · have r409548 : p409509.toInt ≠ 2000 := gj_neq hc409547 (show Int32.toInt 2000 = 2000 by decide)
    have bp409509' : gB p409509 0 1999 := ⟨by omega, by omega⟩
    refine G_aload_n 1 dr_cX17_load_12 rfl ?_
    have rg409549 := rM_ge hT htq409481 hf1
    have rm409550 := rM_bd hB
    have bd409551 := rBd_c hT htq409481 hf1 hB
    have rc409552 := rc_at hT htq409481 hf1
    obtain ⟨q409559, hl409560⟩ : ∃ z, z = γ 14 q409482 := ⟨_, rfl⟩
    have hl409561 : γ 0 q409559 = 3 ∨ γ 0 q409559 = 103 := by rw [hl409560, ← hpejx409485]; exact (RS_lst hT rc409552.2.1 hpjjx409485).1
    refine Gt_row (c := q409481) (f := f) hl0 dr_cX17_load_13 ⟨wr_10_206, wr_1_15, wr_10_82, by decide, rfl, (Nat.le_of_ble_eq_true rfl), (Nat.le_of_ble_eq_true rfl)⟩ wr_10_80 wr_10_81 hT htq409481 hf1 (Nat.le_trans bd409551.2.2.1 (Nat.le_trans hBk (by decide))) (rm_cs hph rg409549.2.1 rm409550 (by decide)) (rm_sl hph rg409549.2.1 rm409550 rm_s18) (Nat.le_of_ble_eq_true rfl) (fun P409553 F409554 γ el q409555 dc409556 ds409557 hq409558 => ?_)
    have ar409563 := fun j => rAt_row hT htq409481 hf1 hq409558 (show jx409485 < _ by omega) j
    rw [hγ0, hel0] at ar409563
    have pr409562 := fun (R : Nat → Nat → va_E → Prop) hN => rPl_row (R := R) hT htq409481 hf1 hq409558 hN
    rw [hγ0, hel0] at pr409562
    obtain ⟨hk409564, x0409565, x1409566, x22409567, x8409568, h16409569, h18409570, hnu409571, hot409572, h45409573, hf0409574, ⟨hr1409575, hr2409576⟩, hM409577, hBB409578⟩ := hq409558
    have hk409579 := rSk_of hk409564
    obtain ⟨nu409580, nu409581, nu409582, nu409583⟩ := hnu409571
    have hT409584 := hk409579.1
    have hs409585 := rSk_tr hst hk409579 (by decide) (by decide) (by decide)
    have r409586 := rSk_F hk409579 htq409480 (by decide) (by decide)
    have ht409587 : rKd γ q409480 10 := rSk_k hk409579 htq409480 (by decide) (by decide)
    have ht409588 : rKd γ q409481 9 := rSk_k hk409579 htq409481 (by decide) (by decide)
    have hf409589 : γ 1 q409481 = f := rSk_1 hk409579 htq409481 (by decide) hf1
    have ht409590 : rKd γ q409482 2 := rSk_k hk409579 htq409482 (by decide) (by decide)
    have hf409591 : γ 1 q409482 = f := rSk_1 hk409579 htq409482 (by decide) hpfjx409485
    have mk409592 : mKp (F409479 q409480) (F409554 q409480) := mKp_tr mKp_rf (mKp_eq (rSk_F hk409579 htq409480 (by decide) (by decide)))
    have r409593 := (rSk_s hk409579 htq409481 (by decide)).2.1
    have r409594 := hot409572 _ (by rw [rc409552.2.1]; decide) (by rw [rc409552.2.1]; decide)
    have r409595 : jx409485 < γ 2 (γ 14 q409481) := by rw [r409593, r409594.1]; exact hpjjx409485
    have r409596 : el (γ 14 q409481) jx409485 = q409482 := by rw [r409593, r409594.2]; exact hpejx409485
    clear rg409549 rm409550 bd409551 rc409552
    have r409597 : 0 < γ 6 (γ 1 q409481) := by rw [hf409589]; omega
    have hm409598 : q409480 ∈ P409553 := RS_m hT409584 ht409587 (by decide)
    obtain ⟨q409600, q409601, p409602, p409603, p409604, p409605, p409606, p409607, p409608, p409609, p409610, p409611, p409612, p409613, p409614, p409615, p409616, he409599, hB409643, ht409617, ht409618, ht409619, ht409620, ht409621, ht409622, ht409623, ht409624, ht409625, ht409626, ht409627, ht409628, ht409629, ht409630, ht409631, ht409632, ht409633, ht409634, ht409635, ht409636, ht409637, ht409638, ht409639, ht409640, hB409644⟩ := show rk_10 γ (F409554 q409480) from RS_o hT409584 ht409587
    have r409645 : p409604.toInt = p409506.toInt := by have z : p409604 = p409506 := congrArg (fun e => fI e 11) (he409599.symm.trans (r409586.trans he409501)); rw [z]
    have bp409604 : gB p409604 0 100 := (hB409643.2.2.1)
    have r409646 : p409607.toInt = p409509.toInt := by have z : p409607 = p409509 := congrArg (fun e => fI e 14) (he409599.symm.trans (r409586.trans he409501)); rw [z]
    have bp409607 : gB p409607 0 2000 := (hB409643.2.2.2.1)
    have bp409607' : gB p409607 0 1999 := ⟨by omega, by omega⟩
    have sz409647 := (rSk_s hk409579 htq409482 (by decide)).2.1
    have sz409648 := congrArg (γ 2) sz409647
    have sz409649 := (hot409572 q409559 (by omega) (by omega)).1
    rw [hl409560] at sz409649
    clear hl409561
    have r409650 := hf0409574.2.2
    have hB409651 : rBd γ el f B := hBB409578 B (by omega) hB
    have ht409652 : rKd γ q409555 101 := x0409565
    have r409653 : γ 8 q409555 < γ 16 f := rm_x8 x8409568 h16409569 rfl
    have hph409654 : rPh γ0 el0 f ≤ rPh γ el f := rm_ph hph hr2409576
    have pk409655 : rPh γ el f ≤ 387 * B + 6000 := rm_pk (rM_ge hT409584 ht409588 hf409589).1 (rM_bd hB409651)
    have hm409656 : q409555 ∈ P409553 := RS_m hT409584 ht409652 (by decide)
    obtain ⟨p409658, p409659, p409660, p409661, p409662, p409663, p409664, he409657, bp409658, bp409659, bp409662, bp409663, bp409664, r409665, r409666, r409667⟩ := show rkR (F409554 q409555) from RS_o hT409584 ht409652
    have bp409660 := gB_any p409660
    have bp409661 := gB_any p409661
    have r409668 : γ 7 (γ 1 q409555) = γ 7 f := by rw [x1409566]
    have r409669 : p409663.toInt = 0 := by have z := hf0409574.1; rw [he409657] at z; exact z
    have bp409663' : gB p409663 0 0 := ⟨by omega, by omega⟩
    have r409670 : p409664.toInt = 0 := by have z := hf0409574.2.1; rw [he409657] at z; exact z
    have bp409664' : gB p409664 0 0 := ⟨by omega, by omega⟩
    refine G_widen (cs' := ((rPh γ el f - rPh γ0 el0 f) / 18)) (sl' := (rPh γ el f - rPh γ0 el0 f)) (rm_wc hph hr1409575) (rm_ws hph hr2409576) ?_
    refine G_astore (L' := [(5, .ref q409555), (0, .ref q409480), (1, .ref q409481), (2, .ref q409482), (3, .int p409483), (4, .int p409484)]) dr_cX17_load_16 (Nat.le_of_ble_eq_true rfl) rfl ?_
    refine G_aload 0 dr_cX17_load_18 rfl ?_
    refine G_bipush 21 dr_cX17_load_20 (by decide +kernel) ?_
    refine Gp_put 0 hm409656 he409657 dr_cX17_load_22 (gk_X15 D I) (Nat.le_of_ble_eq_true rfl) wr_9_177 rfl rfl rfl (Nat.le_of_ble_eq_true rfl) (fun F409671 e409672 n409673 => ?_)
    have he409674 : F409671 q409480 = .inr (22, [.ref (γ 9 0), .ref (γ 9 1), .ref (γ 9 2), .ref (γ 9 3), .ref (γ 9 4), .ref (γ 9 5), .ref (γ 9 6), .ref (γ 9 7), .ref (γ 9 8), .int p409602, .int p409603, .int p409604, .int p409605, .int p409606, .int p409607, .ref (γ 9 15), .ref (γ 9 16), .ref (γ 9 17), .ref (γ 9 18), .ref (γ 9 19), .ref (γ 9 20), .ref (γ 9 21), .ref (γ 9 22), .int p409608, .int p409609, .int p409610, .int p409611, .int p409612, .ref q409600, .ref (γ 9 29), .int p409613, .ref (γ 9 31), .int p409614, .int p409615, .int p409616, .ref q409601]) := (n409673 q409480 (rn_oo he409599 he409657 (by decide))).trans he409599
    have he409675 : F409671 q409555 = .inr (20, [.int 21, .int p409659, .int p409660, .int p409661, .int p409662, .int p409663, .int p409664]) := e409672
    have mk409676 : mKp (F409479 q409480) (F409671 q409480) := mKp_tr mk409592 (mKp_eq (n409673 q409480 (rn_ty ht409587 ht409652 (by decide))))
    refine G_aload 0 dr_cX17_load_25 rfl ?_
    refine G_aload_n 1 dr_cX17_load_27 rfl ?_
    refine Gp_get 14 hm409598 he409674 dr_cX17_load_28 (gk_X17 D I) (Nat.le_of_ble_eq_true rfl) wr_7_88 rfl ?_
    refine Gp_put 1 hm409656 he409675 dr_cX17_load_31 (gk_X15 D I) (Nat.le_of_ble_eq_true rfl) wr_9_182 rfl rfl rfl (Nat.le_of_ble_eq_true rfl) (fun F409677 e409678 n409679 => ?_)
    have he409680 : F409677 q409480 = .inr (22, [.ref (γ 9 0), .ref (γ 9 1), .ref (γ 9 2), .ref (γ 9 3), .ref (γ 9 4), .ref (γ 9 5), .ref (γ 9 6), .ref (γ 9 7), .ref (γ 9 8), .int p409602, .int p409603, .int p409604, .int p409605, .int p409606, .int p409607, .ref (γ 9 15), .ref (γ 9 16), .ref (γ 9 17), .ref (γ 9 18), .ref (γ 9 19), .ref (γ 9 20), .ref (γ 9 21), .ref (γ 9 22), .int p409608, .int p409609, .int p409610, .int p409611, .int p409612, .ref q409600, .ref (γ 9 29), .int p409613, .ref (γ 9 31), .int p409614, .int p409615, .int p409616, .ref q409601]) := (n409679 q409480 (rn_oo he409674 he409675 (by decide))).trans he409674
    have he409681 : F409677 q409555 = .inr (20, [.int 21, .int p409607, .int p409660, .int p409661, .int p409662, .int p409663, .int p409664]) := e409678
    have mk409682 : mKp (F409479 q409480) (F409677 q409480) := mKp_tr mk409676 (mKp_eq (n409679 q409480 (rn_ty ht409587 ht409652 (by decide))))
    have n409683 : ∀ b, b ≠ q409555 → F409677 b = F409554 b := fun b hb => (n409679 b hb).trans (n409673 b hb)
    refine G_aload 0 dr_cX17_load_34 rfl ?_
    refine G_iload 5 dr_cX17_load_36 rfl ?_
    refine Gp_put 4 hm409656 he409681 dr_cX17_load_38 (gk_X15 D I) (Nat.le_of_ble_eq_true rfl) wr_9_193 rfl rfl rfl (Nat.le_of_ble_eq_true rfl) (fun F409684 e409685 n409686 => ?_)
    have he409687 : F409684 q409480 = .inr (22, [.ref (γ 9 0), .ref (γ 9 1), .ref (γ 9 2), .ref (γ 9 3), .ref (γ 9 4), .ref (γ 9 5), .ref (γ 9 6), .ref (γ 9 7), .ref (γ 9 8), .int p409602, .int p409603, .int p409604, .int p409605, .int p409606, .int p409607, .ref (γ 9 15), .ref (γ 9 16), .ref (γ 9 17), .ref (γ 9 18), .ref (γ 9 19), .ref (γ 9 20), .ref (γ 9 21), .ref (γ 9 22), .int p409608, .int p409609, .int p409610, .int p409611, .int p409612, .ref q409600, .ref (γ 9 29), .int p409613, .ref (γ 9 31), .int p409614, .int p409615, .int p409616, .ref q409601]) := (n409686 q409480 (rn_oo he409680 he409681 (by decide))).trans he409680
    have he409688 : F409684 q409555 = .inr (20, [.int 21, .int p409607, .int p409660, .int p409661, .int p409484, .int p409663, .int p409664]) := e409685
    have mk409689 : mKp (F409479 q409480) (F409684 q409480) := mKp_tr mk409682 (mKp_eq (n409686 q409480 (rn_ty ht409587 ht409652 (by decide))))
    have n409690 : ∀ b, b ≠ q409555 → F409684 b = F409554 b := fun b hb => (n409686 b hb).trans (n409683 b hb)
    refine G_aload_n 3 dr_cX17_load_41 rfl ?_
    have hT409691 : RS D I P409553 F409684 γ el := RS_set hT409584 n409690 ht409652 (by decide) ⟨21, p409607, p409660, p409661, p409484, p409663, p409664, he409688, (gB_w (gBl (show Int32.toInt 21 = 21 by decide)) (by decide) (by decide)), bp409607', bp409484, (gB_w bp409663' (by decide) (by decide)), (gB_w bp409664' (by decide) (by decide)), (Or.inr (by decide)), r409666, r409667⟩
    have hs409693 := rSk_put hs409585 hT409691 n409690 ht409652 (by decide) (by decide) (Or.inr (Or.inl x1409566))
    have hm409694 : q409482 ∈ P409553 := RS_m hT409691 ht409590 (by decide)
    obtain ⟨q409696, q409697, p409698, p409699, he409695, ht409706, ht409700, ht409701, ht409702, ht409703, ht409704, bp409698, bp409699, r409705, r409707, r409708⟩ := show rk_2 γ q409482 (F409684 q409482) from RS_o hT409691 ht409590
    have hf409709 : γ 1 q409696 = f := (show γ 1 q409696 = γ 1 q409482 from ht409701).trans hf409591
    have hf409710 : γ 1 q409697 = f := (show γ 1 q409697 = γ 1 q409482 from ht409703).trans hf409591
    have r409711 : γ 6 (γ 1 q409482) = γ 6 f := by rw [hf409591]
    have r409712 : γ 7 (γ 1 q409482) = γ 7 f := by rw [hf409591]
    have r409713 : γ 19 (γ 1 q409482) = γ 19 f := by rw [hf409591]
    have r409714 := r409705.resolve_left (by omega)
    clear r409705
    have r409715 : γ 2 (γ 14 q409482) = γ 2 q409696 := by rw [ht409706.1]
    refine Gp_get 0 hm409694 he409695 dr_cX17_load_42 (gk_X12 D I) (Nat.le_of_ble_eq_true rfl) wr_9_220 rfl ?_
    refine G_iload_n 4 dr_cX17_load_45 rfl ?_
    refine G_aload 0 dr_cX17_load_46 rfl ?_
    have pr409716 := fun (R : Nat → Nat → va_E → Prop) hN => rPl_fr (R := R) hT409584 ht409588 hf409589 (pr409562 R hN) (fun b hb _ => n409690 b (rn_ty (show rKd γ b 1 from hb) ht409652 (by decide)))
    have rg409717 := rM_ge hT409691 ht409588 hf409589
    have rm409718 := rM_bd hB409651
    have bd409719 := rBd_c hT409691 ht409588 hf409589 hB409651
    have rc409720 := rc_at hT409691 ht409588 hf409589
    have r409722 : γ 14 (el (γ 14 q409481) jx409485) = q409696 := by rw [r409596]; exact ht409706.1
    have r409723 := rg409717.2.2 _ r409595
    rw [r409722] at r409723
    have r409724 := bd409719.2.2.2 _ r409595
    rw [r409722] at r409724
    have r409725 : γ 7 (γ 1 q409555) = γ 7 f := by rw [x1409566]
    have hx409726 : rk_1 γ q409555 (F409684 q409555) := ⟨21, p409607, p409660, p409661, p409484, p409663, p409664, he409688, (gB_w (gBl (show Int32.toInt 21 = 21 by decide)) (by decide) (by decide)), bp409607', bp409484, (gB_w bp409663' (by decide) (by decide)), (gB_w bp409664' (by decide) (by decide)), (Or.inr (by decide)), r409666, r409667, (Or.inr (by omega)), (Or.inl x22409567)⟩
    refine Gt_ins (c := q409481) (f := f) hl0 dr_cX17_load_48 ⟨wr_10_207, wr_1_18, wr_10_210, by decide, rfl, (Nat.le_of_ble_eq_true rfl), (Nat.le_of_ble_eq_true rfl)⟩ wr_10_208 wr_10_209 hT409691 ht409700 hf409709 ht409652 x1409566 x22409567 r409653 (by omega) ht409588 hf409589 r409595 r409722 hx409726 (by omega) (by omega) (Nat.le_trans r409724 (Nat.le_trans hBk (by decide))) (rm_cs hph409654 r409723 rm409718 (by decide)) (rm_sl hph409654 r409723 rm409718 rm_s11) (Nat.le_of_ble_eq_true rfl) (fun P409727 F409721 γ el dc409728 ds409729 hq409730 => ?_)
    have ai409732 := fun (j : Nat) (hj : p409483.toInt.toNat ≤ j) => (rAt_ins hT409691 ht409588 hf409589 hq409730 r409722 (show jx409485 < _ by omega) (show p409483.toInt.toNat ≤ _ by omega) j hj).trans (ar409563 j)
    have pr409731 := fun (R R' : Nat → Nat → va_E → Prop) hN h1 h2 (h3 : ∀ e, (∀ n, nmS e n → n = p409607.toInt.toNat) → ((fI e 0).toInt = 21 → (fI e 1).toInt.toNat = p409607.toInt.toNat) → R' jx409485 p409483.toInt.toNat e) h4 => rPl_ins (R := R) (R' := R') hT409691 ht409588 hf409589 hq409730 r409722 (show jx409485 < _ by omega) (show p409483.toInt.toNat ≤ _ by omega) (pr409716 R hN) h1 h2 (h3 _ (nm_ld he409688 (by decide)).1 (nm_ld he409688 (by decide)).2) h4
    obtain ⟨hk409733, x0409734, h2409735, hel409736, hot409737, h16409738, h18409739, hnu409740, hFx409741, hr409742, hM409743, hBB409744⟩ := hq409730
    have hk409745 := rSk_of hk409733
    have r409746 : (fI (F409721 q409481) 3).toInt = (fI (F409684 q409481) 3).toInt := by rw [rSk_F hk409745 ht409588 (by decide) (by decide)]
    obtain ⟨nu409747, nu409748, nu409749, nu409750⟩ := hnu409740
    have hT409751 := hk409745.1
    have hs409752 := rSk_tr hs409693 hk409745 (by decide) (by decide) (by decide)
    have r409753 := rSk_F hk409745 ht409587 (by decide) (by decide)
    have ht409754 : rKd γ q409480 10 := rSk_k hk409745 ht409587 (by decide) (by decide)
    have ht409755 : rKd γ q409481 9 := rSk_k hk409745 ht409588 (by decide) (by decide)
    have hf409756 : γ 1 q409481 = f := rSk_1 hk409745 ht409588 (by decide) hf409589
    have ht409757 : rKd γ q409482 2 := rSk_k hk409745 ht409590 (by decide) (by decide)
    have hf409758 : γ 1 q409482 = f := rSk_1 hk409745 ht409590 (by decide) hf409591
    have ht409759 : rKd γ q409696 3 := rSk_k hk409745 ht409700 (by decide) (by decide)
    have hf409760 : γ 1 q409696 = f := rSk_1 hk409745 ht409700 (by decide) hf409709
    have mk409761 : mKp (F409479 q409480) (F409721 q409480) := mKp_tr mk409689 (mKp_eq (rSk_F hk409745 ht409587 (by decide) (by decide)))
    have r409762 := (rSk_s hk409745 ht409588 (by decide)).2.1
    have r409763 := hot409737 _ (by rw [rc409720.2.1]; decide) (fun q => by rw [q, show _ = 3 from ht409700] at rc409720; exact absurd rc409720.2.1 (by decide))
    have r409764 : jx409485 < γ 2 (γ 14 q409481) := by rw [r409762, r409763.1]; exact r409595
    have r409765 : el (γ 14 q409481) jx409485 = q409482 := by rw [r409762, r409763.2]; exact r409596
    clear bp409658 bp409659 bp409662 bp409663 bp409664 bp409660 bp409661 bp409698 bp409699 r409707 r409708 rg409717 rm409718 bd409719 rc409720 r409723 r409724
    clear r409665 r409666 r409667
    have r409766 : 0 < γ 6 (γ 1 q409481) := by rw [hf409756]; omega
    have hm409767 : q409480 ∈ P409727 := RS_m hT409751 ht409754 (by decide)
    obtain ⟨q409769, q409770, p409771, p409772, p409773, p409774, p409775, p409776, p409777, p409778, p409779, p409780, p409781, p409782, p409783, p409784, p409785, he409768, hB409812, ht409786, ht409787, ht409788, ht409789, ht409790, ht409791, ht409792, ht409793, ht409794, ht409795, ht409796, ht409797, ht409798, ht409799, ht409800, ht409801, ht409802, ht409803, ht409804, ht409805, ht409806, ht409807, ht409808, ht409809, hB409813⟩ := show rk_10 γ (F409721 q409480) from RS_o hT409751 ht409754
    have r409814 : p409773.toInt = p409604.toInt := by have z : p409773 = p409604 := congrArg (fun e => fI e 11) (he409768.symm.trans (r409753.trans he409687)); rw [z]
    have bp409773 : gB p409773 0 100 := (hB409812.2.2.1)
    have r409815 : p409776.toInt = p409607.toInt := by have z : p409776 = p409607 := congrArg (fun e => fI e 14) (he409768.symm.trans (r409753.trans he409687)); rw [z]
    have bp409776 : gB p409776 0 2000 := (hB409812.2.2.2.1)
    have bp409776' : gB p409776 0 1999 := ⟨by omega, by omega⟩
    have ht409816 : rKd γ q409555 1 := x0409734
    have hB409817 : rBd γ el f B := hBB409744 B hB409651
    have hph409818 : rPh γ0 el0 f ≤ rPh γ el f := rm_ph hph409654 hr409742.2
    have pk409819 : rPh γ el f ≤ 387 * B + 6000 := rm_pk (rM_ge hT409751 ht409755 hf409756).1 (rM_bd hB409817)
    refine G_widen (cs' := ((rPh γ el f - rPh γ0 el0 f) / 18)) (sl' := (rPh γ el f - rPh γ0 el0 f)) (rm_wc hph409654 hr409742.1) (rm_ws hph409654 hr409742.2) ?_
    have he409820 : F409721 q409555 = .inr (20, [.int 21, .int p409607, .int p409660, .int p409661, .int p409484, .int p409663, .int p409664]) := hFx409741.trans he409688
    have hm409821 : q409555 ∈ P409727 := RS_m hT409751 ht409816 (by decide)
    have r409822 : γ 14 q409482 = q409696 := ((rSk_s (rSk_of hk409733) ht409590 (by decide)).2.1).trans ht409706.1
    have sz409823 : γ 2 (γ 14 q409482) = γ 2 q409696 := by rw [r409822]
    refine G_aload_n 1 dr_cX17_load_51 rfl ?_
    refine G_dup dr_cX17_load_52 rfl ?_
    refine Gp_get 14 hm409767 he409768 dr_cX17_load_53 (gk_X17 D I) (Nat.le_of_ble_eq_true rfl) wr_7_88 rfl ?_
    refine G_iconst 1 dr_cX17_load_56 (by decide +kernel) ?_
    refine G_iadd dr_cX17_load_57 (G_nam fun z409824 hz409824 => ?_)
    have ez409824 : z409824.toInt = p409776.toInt + 1 := by rw [gI_add hz409824 bp409776' (gBl (show Int32.toInt 1 = 1 by decide)) (by decide) (by decide), show Int32.toInt 1 = 1 from by decide]
    have bz409824 : gB z409824 1 2000 := gB_add (gI_add hz409824 bp409776' (gBl (show Int32.toInt 1 = 1 by decide)) (by decide) (by decide)) bp409776' (gBl (show Int32.toInt 1 = 1 by decide)) (by decide) (by decide)
    refine Gp_put 14 hm409767 he409768 dr_cX17_load_58 (gk_X17 D I) (Nat.le_of_ble_eq_true rfl) wr_7_88 rfl rfl rfl (Nat.le_of_ble_eq_true rfl) (fun F409825 e409826 n409827 => ?_)
    have he409828 : F409825 q409555 = .inr (20, [.int 21, .int p409607, .int p409660, .int p409661, .int p409484, .int p409663, .int p409664]) := (n409827 q409555 (rn_oo he409820 he409768 (by decide))).trans he409820
    have he409829 : F409825 q409480 = .inr (22, [.ref (γ 9 0), .ref (γ 9 1), .ref (γ 9 2), .ref (γ 9 3), .ref (γ 9 4), .ref (γ 9 5), .ref (γ 9 6), .ref (γ 9 7), .ref (γ 9 8), .int p409771, .int p409772, .int p409773, .int p409774, .int p409775, .int z409824, .ref (γ 9 15), .ref (γ 9 16), .ref (γ 9 17), .ref (γ 9 18), .ref (γ 9 19), .ref (γ 9 20), .ref (γ 9 21), .ref (γ 9 22), .int p409777, .int p409778, .int p409779, .int p409780, .int p409781, .ref q409769, .ref (γ 9 29), .int p409782, .ref (γ 9 31), .int p409783, .int p409784, .int p409785, .ref q409770]) := e409826
    have mk409830 : mKp (F409479 q409480) (F409825 q409480) := mKp_tr mk409761 (by rw [he409768, he409829]; exact ⟨rfl, rfl⟩)
    have hT409831 : RS D I P409727 F409825 γ el := RS_set hT409751 n409827 ht409754 (by decide) ⟨q409769, q409770, p409771, p409772, p409773, p409774, p409775, z409824, p409777, p409778, p409779, p409780, p409781, p409782, p409783, p409784, p409785, he409829, ⟨(hB409812.1), (hB409812.2.1), bp409773, (gB_w bz409824 (by decide) (by decide)), (hB409812.2.2.2.2.1), (hB409812.2.2.2.2.2.1), (hB409812.2.2.2.2.2.2.1), (hB409812.2.2.2.2.2.2.2.1), (hB409812.2.2.2.2.2.2.2.2)⟩, ht409786, ht409787, ht409788, ht409789, ht409790, ht409791, ht409792, ht409793, ht409794, ht409795, ht409796, ht409797, ht409798, ht409799, ht409800, ht409801, ht409802, ht409803, ht409804, ht409805, ht409806, ht409807, ht409808, ht409809, hB409813⟩
    have hs409833 := rSk_put hs409752 hT409831 n409827 ht409754 (by decide) (by decide) (Or.inr (Or.inr (by decide)))
    have pr409834 := fun (R R' : Nat → Nat → va_E → Prop) hN h1 h2 h3 h4 => rPl_fr (R := R') hT409751 ht409755 hf409756 (pr409731 R R' hN h1 h2 h3 h4) (fun b hb _ => n409827 b (rn_ty (show rKd γ b 1 from hb) ht409754 (by decide)))
    refine G_aload 0 dr_cX17_load_61 rfl ?_
    refine Gp_get 1 hm409821 he409828 dr_cX17_load_63 (gk_X15 D I) (Nat.le_of_ble_eq_true rfl) wr_9_182 rfl ?_
    have ac409835 : (fI (F409825 q409480) 11).toInt = p409773.toInt := by rw [he409829]; rfl
    have ac409836 : (fI (F409825 q409480) 14).toInt = z409824.toInt := by rw [he409829]; rfl
    exact G_iretA dr_cX17_load_66 rfl (show ((rPh γ el f - rPh γ0 el0 f) / 18) ≤ (((387 * B + 6000) - rPh γ0 el0 f) / 18) by omega) (show (rPh γ el f - rPh γ0 el0 f) ≤ ((387 * B + 6000) - rPh γ0 el0 f) by omega) ⟨P409727, F409825, γ, el, p409607, rfl, rfl, hs409833, ⟨by omega, by omega⟩, hB409817, (gB_w bp409607' (by decide) (by decide)), (by omega), (by omega), (by omega), ⟨(rSk_s hs409833 hzq409482 (by decide)).2.1, r409764, r409765⟩, (Or.inr ⟨by omega, by omega, by omega, by omega, by omega⟩), (by omega), (Or.inr pr409834), (Or.inr ai409732), mk409830⟩
  · have r409837 : p409509.toInt = 2000 := gj_eq hc409547 (show Int32.toInt 2000 = 2000 by decide)
    have bp409509' : gB p409509 2000 2000 := ⟨by omega, by omega⟩
    have ac409838 : (fI (F409479 q409480) 11).toInt = p409506.toInt := by rw [he409501]; rfl
    have ac409839 : (fI (F409479 q409480) 14).toInt = p409509.toInt := by rw [he409501]; rfl
    refine G_iconst (-1) dr_cX17_load_10 (by decide +kernel) ?_
    exact G_iretA dr_cX17_load_11 rfl (show ((rPh γ el f - rPh γ0 el0 f) / 18) ≤ (((387 * B + 6000) - rPh γ0 el0 f) / 18) by omega) (show (rPh γ el f - rPh γ0 el0 f) ≤ ((387 * B + 6000) - rPh γ0 el0 f) by omega) ⟨P409478, F409479, γ, el, (-1), rfl, rfl, hst, ⟨by omega, by omega⟩, hB, (gB_w (gBl (show Int32.toInt (-1) = (-1) by decide)) (by decide) (by decide)), (by have qa0 : Int32.toInt (-1) = (-1) := (by decide); omega), (by have qa0 : Int32.toInt (-1) = (-1) := (by decide); omega), (by have qa0 : Int32.toInt (-1) = (-1) := (by decide); omega), ⟨(rSk_s hst hzq409482 (by decide)).2.1, hpjjx409485, hpejx409485⟩, (Or.inl (by decide)), (by have qa0 : Int32.toInt (-1) = (-1) := (by decide); omega), (Or.inl (by decide)), (Or.inl (by decide)), mKp_rf⟩
/- tr_RRow_usesA3: result -/
def tr_RRow_usesA3 (a0_op : Int32) (a0_regA : Int32) (o1 : Int32) : Prop := ∀ R : (Int32) → Prop,
  (a0_op.toInt = 20 → R (0 : Int32)) →
  (a0_op.toInt ≠ 20 → a0_op.toInt = 21 → R (0 : Int32)) →
  (a0_op.toInt ≠ 20 → a0_op.toInt ≠ 21 → a0_op.toInt = 30 → R (0 : Int32)) →
  (a0_op.toInt ≠ 20 → a0_op.toInt ≠ 21 → a0_op.toInt ≠ 30 → a0_regA.toInt = 0 → R (0 : Int32)) →
  (a0_op.toInt ≠ 20 → a0_op.toInt ≠ 21 → a0_op.toInt ≠ 30 → a0_regA.toInt ≠ 0 → R (1 : Int32)) →
  R o1
abbrev ky_409853_Row_usesA : gKey := (cX15_usesA, 1, "SpillForgeModel$Row", (some FieldType.boolean), [], "usesA", fun _ _ => True)
def pp_409853_Row_usesA (D : va_G) (I : FieldType → ClassId) (P409843 : List Nat) (F409844 : Nat → va_E) (q409845 : Nat) (p409846 : Int32) (p409847 : Int32) (p409848 : Int32) (p409849 : Int32) (p409850 : Int32) (p409851 : Int32) (p409852 : Int32) : Option Value → va_W → Nat → Nat → Prop := fun r w dc ds => ∃ (o409866 : Int32), r = some (.int o409866) ∧ w = va_pl P409843 F409844 ∧ dc ≤ 0 ∧ ds ≤ 0 ∧ gB o409866 0 1 ∧ (uA o409866.toInt p409846.toInt p409851.toInt) ∧ tr_RRow_usesA3 p409846 p409851 o409866
set_option maxRecDepth 100000 in
set_option maxHeartbeats 4000000 in
theorem cp_409853_Row_usesA (l : Launch) (hl0 : l.stackTraces = false) (D : va_G) (I : FieldType → ClassId) (P409843 : List Nat) (F409844 : Nat → va_E) (q409845 : Nat) (p409846 : Int32) (p409847 : Int32) (p409848 : Int32) (p409849 : Int32) (p409850 : Int32) (p409851 : Int32) (p409852 : Int32) (hmq409845 : q409845 ∈ P409843) (heq409845 : F409844 q409845 = .inr (20, [.int p409846, .int p409847, .int p409848, .int p409849, .int p409850, .int p409851, .int p409852])) (bp409846 : gB p409846 0 32) (bp409847 : gB p409847 0 1999) (bp409850 : gB p409850 0 1999) (bp409851 : gB p409851 0 1) (bp409852 : gB p409852 0 1) : CtA (gV D I) l yX15_usesA cX15_usesA 1 (some FieldType.boolean) 0 0 0 0 [.ref q409845] (va_pl P409843 F409844) (pp_409853_Row_usesA D I P409843 F409844 q409845 p409846 p409847 p409848 p409849 p409850 p409851 p409852) gNA := by
  refine CtA_of hl0 (by decide) (Nat.le_of_ble_eq_true rfl) ?_
  have bp409848 := gB_any p409848
  have bp409849 := gB_any p409849
  refine G_aload_n 0 dr_cX15_usesA_0 rfl ?_
  refine Gp_get 0 hmq409845 heq409845 dr_cX15_usesA_1 (gk_X15 D I) (Nat.le_of_ble_eq_true rfl) wr_9_175 rfl ?_
  refine G_bipush 20 dr_cX15_usesA_4 (by decide +kernel) ?_
  refine G_icmp_eq 38 dr_cX15_usesA_6 (by decide +kernel) (fun hc409854 => ?_) (fun hc409854 => ?_)
  · have r409855 : p409846.toInt = 20 := gj_eq hc409854 (show Int32.toInt 20 = 20 by decide)
    have bp409846' : gB p409846 20 20 := ⟨by omega, by omega⟩
    refine G_iconst 0 dr_cX15_usesA_38 (by decide +kernel) ?_
    exact G_zretA FieldType.boolean dr_cX15_usesA_39 rfl rfl (Nat.le_of_ble_eq_true rfl) (Nat.le_of_ble_eq_true rfl) ⟨0, rfl, rfl, (Nat.le_of_ble_eq_true rfl), (Nat.le_of_ble_eq_true rfl), (gB_w (gBl (show Int32.toInt 0 = 0 by decide)) (by decide) (by decide)), (by unfold uA; first | omega | (have qa0 : Int32.toInt 0 = 0 := (by decide); have qa1 : Int32.toInt 1 = 1 := (by decide); omega)), (fun R c1 c2 c3 c4 c5 => c1 r409855)⟩
  · have r409856 : p409846.toInt ≠ 20 := gj_neq hc409854 (show Int32.toInt 20 = 20 by decide)
    refine G_aload_n 0 dr_cX15_usesA_9 rfl ?_
    refine Gp_get 0 hmq409845 heq409845 dr_cX15_usesA_10 (gk_X15 D I) (Nat.le_of_ble_eq_true rfl) wr_9_175 rfl ?_
    refine G_bipush 21 dr_cX15_usesA_13 (by decide +kernel) ?_
    refine G_icmp_eq 38 dr_cX15_usesA_15 (by decide +kernel) (fun hc409857 => ?_) (fun hc409857 => ?_)
    · have r409858 : p409846.toInt = 21 := gj_eq hc409857 (show Int32.toInt 21 = 21 by decide)
      have bp409846' : gB p409846 21 21 := ⟨by omega, by omega⟩
      refine G_iconst 0 dr_cX15_usesA_38 (by decide +kernel) ?_
      exact G_zretA FieldType.boolean dr_cX15_usesA_39 rfl rfl (Nat.le_of_ble_eq_true rfl) (Nat.le_of_ble_eq_true rfl) ⟨0, rfl, rfl, (Nat.le_of_ble_eq_true rfl), (Nat.le_of_ble_eq_true rfl), (gB_w (gBl (show Int32.toInt 0 = 0 by decide)) (by decide) (by decide)), (by unfold uA; first | omega | (have qa0 : Int32.toInt 0 = 0 := (by decide); have qa1 : Int32.toInt 1 = 1 := (by decide); omega)), (fun R c1 c2 c3 c4 c5 => c2 r409856 r409858)⟩
    · have r409859 : p409846.toInt ≠ 21 := gj_neq hc409857 (show Int32.toInt 21 = 21 by decide)
      refine G_aload_n 0 dr_cX15_usesA_18 rfl ?_
      refine Gp_get 0 hmq409845 heq409845 dr_cX15_usesA_19 (gk_X15 D I) (Nat.le_of_ble_eq_true rfl) wr_9_175 rfl ?_
      refine G_bipush 30 dr_cX15_usesA_22 (by decide +kernel) ?_
      refine G_icmp_eq 38 dr_cX15_usesA_24 (by decide +kernel) (fun hc409860 => ?_) (fun hc409860 => ?_)
      · have r409861 : p409846.toInt = 30 := gj_eq hc409860 (show Int32.toInt 30 = 30 by decide)
        have bp409846' : gB p409846 30 30 := ⟨by omega, by omega⟩
        refine G_iconst 0 dr_cX15_usesA_38 (by decide +kernel) ?_
        exact G_zretA FieldType.boolean dr_cX15_usesA_39 rfl rfl (Nat.le_of_ble_eq_true rfl) (Nat.le_of_ble_eq_true rfl) ⟨0, rfl, rfl, (Nat.le_of_ble_eq_true rfl), (Nat.le_of_ble_eq_true rfl), (gB_w (gBl (show Int32.toInt 0 = 0 by decide)) (by decide) (by decide)), (by unfold uA; first | omega | (have qa0 : Int32.toInt 0 = 0 := (by decide); have qa1 : Int32.toInt 1 = 1 := (by decide); omega)), (fun R c1 c2 c3 c4 c5 => c3 r409856 r409859 r409861)⟩
      · have r409862 : p409846.toInt ≠ 30 := gj_neq hc409860 (show Int32.toInt 30 = 30 by decide)
        refine G_aload_n 0 dr_cX15_usesA_27 rfl ?_
        refine Gp_get 5 hmq409845 heq409845 dr_cX15_usesA_28 (gk_X15 D I) (Nat.le_of_ble_eq_true rfl) wr_9_195 rfl ?_
        refine G_if_eq 38 dr_cX15_usesA_31 (by decide +kernel) (fun hc409863 => ?_) (fun hc409863 => ?_)
        · have r409864 : p409851.toInt = 0 := gj_eq hc409863 (show Int32.toInt 0 = 0 by decide)
          have bp409851' : gB p409851 0 0 := ⟨by omega, by omega⟩
          refine G_iconst 0 dr_cX15_usesA_38 (by decide +kernel) ?_
          exact G_zretA FieldType.boolean dr_cX15_usesA_39 rfl rfl (Nat.le_of_ble_eq_true rfl) (Nat.le_of_ble_eq_true rfl) ⟨0, rfl, rfl, (Nat.le_of_ble_eq_true rfl), (Nat.le_of_ble_eq_true rfl), (gB_w (gBl (show Int32.toInt 0 = 0 by decide)) (by decide) (by decide)), (by unfold uA; first | omega | (have qa0 : Int32.toInt 0 = 0 := (by decide); have qa1 : Int32.toInt 1 = 1 := (by decide); omega)), (fun R c1 c2 c3 c4 c5 => c4 r409856 r409859 r409862 r409864)⟩
        · have r409865 : p409851.toInt ≠ 0 := gj_neq hc409863 (show Int32.toInt 0 = 0 by decide)
          have bp409851' : gB p409851 1 1 := ⟨by omega, by omega⟩
          refine G_iconst 1 dr_cX15_usesA_34 (by decide +kernel) ?_
          refine G_goto 39 dr_cX15_usesA_35 (by decide +kernel) ?_
          exact G_zretA FieldType.boolean dr_cX15_usesA_39 rfl rfl (Nat.le_of_ble_eq_true rfl) (Nat.le_of_ble_eq_true rfl) ⟨1, rfl, rfl, (Nat.le_of_ble_eq_true rfl), (Nat.le_of_ble_eq_true rfl), (gB_w (gBl (show Int32.toInt 1 = 1 by decide)) (by decide) (by decide)), (by unfold uA; first | omega | (have qa0 : Int32.toInt 0 = 0 := (by decide); have qa1 : Int32.toInt 1 = 1 := (by decide); omega)), (fun R c1 c2 c3 c4 c5 => c5 r409856 r409859 r409862 r409865)⟩
/- tr_RRow_usesB3: result -/
def tr_RRow_usesB3 (a0_op : Int32) (a0_regB : Int32) (o1 : Int32) : Prop := ∀ R : (Int32) → Prop,
  (a0_op.toInt ≤ 0 → R (0 : Int32)) →
  (0 < a0_op.toInt → 20 ≤ a0_op.toInt → R (0 : Int32)) →
  (0 < a0_op.toInt → a0_op.toInt < 20 → a0_regB.toInt = 0 → R (0 : Int32)) →
  (0 < a0_op.toInt → a0_op.toInt < 20 → a0_regB.toInt ≠ 0 → R (1 : Int32)) →
  R o1
abbrev ky_409877_Row_usesB : gKey := (cX15_usesB, 1, "SpillForgeModel$Row", (some FieldType.boolean), [], "usesB", fun _ _ => True)
def pp_409877_Row_usesB (D : va_G) (I : FieldType → ClassId) (P409867 : List Nat) (F409868 : Nat → va_E) (q409869 : Nat) (p409870 : Int32) (p409871 : Int32) (p409872 : Int32) (p409873 : Int32) (p409874 : Int32) (p409875 : Int32) (p409876 : Int32) : Option Value → va_W → Nat → Nat → Prop := fun r w dc ds => ∃ (o409887 : Int32), r = some (.int o409887) ∧ w = va_pl P409867 F409868 ∧ dc ≤ 0 ∧ ds ≤ 0 ∧ gB o409887 0 1 ∧ (uB o409887.toInt p409870.toInt p409876.toInt) ∧ tr_RRow_usesB3 p409870 p409876 o409887
set_option maxRecDepth 100000 in
set_option maxHeartbeats 4000000 in
theorem cp_409877_Row_usesB (l : Launch) (hl0 : l.stackTraces = false) (D : va_G) (I : FieldType → ClassId) (P409867 : List Nat) (F409868 : Nat → va_E) (q409869 : Nat) (p409870 : Int32) (p409871 : Int32) (p409872 : Int32) (p409873 : Int32) (p409874 : Int32) (p409875 : Int32) (p409876 : Int32) (hmq409869 : q409869 ∈ P409867) (heq409869 : F409868 q409869 = .inr (20, [.int p409870, .int p409871, .int p409872, .int p409873, .int p409874, .int p409875, .int p409876])) (bp409870 : gB p409870 0 32) (bp409871 : gB p409871 0 1999) (bp409874 : gB p409874 0 1999) (bp409875 : gB p409875 0 1) (bp409876 : gB p409876 0 1) : CtA (gV D I) l yX15_usesB cX15_usesB 1 (some FieldType.boolean) 0 0 0 0 [.ref q409869] (va_pl P409867 F409868) (pp_409877_Row_usesB D I P409867 F409868 q409869 p409870 p409871 p409872 p409873 p409874 p409875 p409876) gNA := by
  refine CtA_of hl0 (by decide) (Nat.le_of_ble_eq_true rfl) ?_
  have bp409872 := gB_any p409872
  have bp409873 := gB_any p409873
  refine G_aload_n 0 dr_cX15_usesB_0 rfl ?_
  refine Gp_get 0 hmq409869 heq409869 dr_cX15_usesB_1 (gk_X15 D I) (Nat.le_of_ble_eq_true rfl) wr_9_175 rfl ?_
  refine G_if_le 27 dr_cX15_usesB_4 (by decide +kernel) (fun hc409878 => ?_) (fun hc409878 => ?_)
  · have r409879 : p409870.toInt ≤ 0 := gj_le hc409878 (show Int32.toInt 0 = 0 by decide)
    have bp409870' : gB p409870 0 0 := ⟨by omega, by omega⟩
    refine G_iconst 0 dr_cX15_usesB_27 (by decide +kernel) ?_
    exact G_zretA FieldType.boolean dr_cX15_usesB_28 rfl rfl (Nat.le_of_ble_eq_true rfl) (Nat.le_of_ble_eq_true rfl) ⟨0, rfl, rfl, (Nat.le_of_ble_eq_true rfl), (Nat.le_of_ble_eq_true rfl), (gB_w (gBl (show Int32.toInt 0 = 0 by decide)) (by decide) (by decide)), (by unfold uB; first | omega | (have qa0 : Int32.toInt 0 = 0 := (by decide); have qa1 : Int32.toInt 1 = 1 := (by decide); omega)), (fun R c1 c2 c3 c4 => c1 r409879)⟩
  · have r409880 : 0 < p409870.toInt := gj_nle hc409878 (show Int32.toInt 0 = 0 by decide)
    have bp409870' : gB p409870 1 32 := ⟨by omega, by omega⟩
    refine G_aload_n 0 dr_cX15_usesB_7 rfl ?_
    refine Gp_get 0 hmq409869 heq409869 dr_cX15_usesB_8 (gk_X15 D I) (Nat.le_of_ble_eq_true rfl) wr_9_175 rfl ?_
    refine G_bipush 20 dr_cX15_usesB_11 (by decide +kernel) ?_
    refine G_icmp_ge 27 dr_cX15_usesB_13 (by decide +kernel) (fun hc409881 => ?_) (fun hc409881 => ?_)
    · have r409882 : 20 ≤ p409870.toInt := gj_leL hc409881 (show Int32.toInt 20 = 20 by decide)
      have bp409870'' : gB p409870 20 32 := ⟨by omega, by omega⟩
      refine G_iconst 0 dr_cX15_usesB_27 (by decide +kernel) ?_
      exact G_zretA FieldType.boolean dr_cX15_usesB_28 rfl rfl (Nat.le_of_ble_eq_true rfl) (Nat.le_of_ble_eq_true rfl) ⟨0, rfl, rfl, (Nat.le_of_ble_eq_true rfl), (Nat.le_of_ble_eq_true rfl), (gB_w (gBl (show Int32.toInt 0 = 0 by decide)) (by decide) (by decide)), (by unfold uB; first | omega | (have qa0 : Int32.toInt 0 = 0 := (by decide); have qa1 : Int32.toInt 1 = 1 := (by decide); omega)), (fun R c1 c2 c3 c4 => c2 r409880 r409882)⟩
    · have r409883 : p409870.toInt < 20 := gj_nleL hc409881 (show Int32.toInt 20 = 20 by decide)
      have bp409870'' : gB p409870 1 19 := ⟨by omega, by omega⟩
      refine G_aload_n 0 dr_cX15_usesB_16 rfl ?_
      refine Gp_get 6 hmq409869 heq409869 dr_cX15_usesB_17 (gk_X15 D I) (Nat.le_of_ble_eq_true rfl) wr_9_199 rfl ?_
      refine G_if_eq 27 dr_cX15_usesB_20 (by decide +kernel) (fun hc409884 => ?_) (fun hc409884 => ?_)
      · have r409885 : p409876.toInt = 0 := gj_eq hc409884 (show Int32.toInt 0 = 0 by decide)
        have bp409876' : gB p409876 0 0 := ⟨by omega, by omega⟩
        refine G_iconst 0 dr_cX15_usesB_27 (by decide +kernel) ?_
        exact G_zretA FieldType.boolean dr_cX15_usesB_28 rfl rfl (Nat.le_of_ble_eq_true rfl) (Nat.le_of_ble_eq_true rfl) ⟨0, rfl, rfl, (Nat.le_of_ble_eq_true rfl), (Nat.le_of_ble_eq_true rfl), (gB_w (gBl (show Int32.toInt 0 = 0 by decide)) (by decide) (by decide)), (by unfold uB; first | omega | (have qa0 : Int32.toInt 0 = 0 := (by decide); have qa1 : Int32.toInt 1 = 1 := (by decide); omega)), (fun R c1 c2 c3 c4 => c3 r409880 r409883 r409885)⟩
      · have r409886 : p409876.toInt ≠ 0 := gj_neq hc409884 (show Int32.toInt 0 = 0 by decide)
        have bp409876' : gB p409876 1 1 := ⟨by omega, by omega⟩
        refine G_iconst 1 dr_cX15_usesB_23 (by decide +kernel) ?_
        refine G_goto 28 dr_cX15_usesB_24 (by decide +kernel) ?_
        exact G_zretA FieldType.boolean dr_cX15_usesB_28 rfl rfl (Nat.le_of_ble_eq_true rfl) (Nat.le_of_ble_eq_true rfl) ⟨1, rfl, rfl, (Nat.le_of_ble_eq_true rfl), (Nat.le_of_ble_eq_true rfl), (gB_w (gBl (show Int32.toInt 1 = 1 by decide)) (by decide) (by decide)), (by unfold uB; first | omega | (have qa0 : Int32.toInt 0 = 0 := (by decide); have qa1 : Int32.toInt 1 = 1 := (by decide); omega)), (fun R c1 c2 c3 c4 => c4 r409880 r409883 r409886)⟩
/- tr_RRow_sets3: result -/
def tr_RRow_sets3 (a0_op : Int32) (o1 : Int32) : Prop := ∀ R : (Int32) → Prop,
  (21 < a0_op.toInt → R (0 : Int32)) →
  (a0_op.toInt ≤ 21 → R (1 : Int32)) →
  R o1
abbrev ky_409898_Row_sets : gKey := (cX15_sets, 1, "SpillForgeModel$Row", (some FieldType.boolean), [], "sets", fun _ _ => True)
def pp_409898_Row_sets (D : va_G) (I : FieldType → ClassId) (P409888 : List Nat) (F409889 : Nat → va_E) (q409890 : Nat) (p409891 : Int32) (p409892 : Int32) (p409893 : Int32) (p409894 : Int32) (p409895 : Int32) (p409896 : Int32) (p409897 : Int32) : Option Value → va_W → Nat → Nat → Prop := fun r w dc ds => ∃ (o409902 : Int32), r = some (.int o409902) ∧ w = va_pl P409888 F409889 ∧ dc ≤ 0 ∧ ds ≤ 0 ∧ gB o409902 0 1 ∧ (uS o409902.toInt p409891.toInt) ∧ tr_RRow_sets3 p409891 o409902
set_option maxRecDepth 100000 in
set_option maxHeartbeats 4000000 in
theorem cp_409898_Row_sets (l : Launch) (hl0 : l.stackTraces = false) (D : va_G) (I : FieldType → ClassId) (P409888 : List Nat) (F409889 : Nat → va_E) (q409890 : Nat) (p409891 : Int32) (p409892 : Int32) (p409893 : Int32) (p409894 : Int32) (p409895 : Int32) (p409896 : Int32) (p409897 : Int32) (hmq409890 : q409890 ∈ P409888) (heq409890 : F409889 q409890 = .inr (20, [.int p409891, .int p409892, .int p409893, .int p409894, .int p409895, .int p409896, .int p409897])) (bp409891 : gB p409891 0 32) (bp409892 : gB p409892 0 1999) (bp409895 : gB p409895 0 1999) (bp409896 : gB p409896 0 1) (bp409897 : gB p409897 0 1) : CtA (gV D I) l yX15_sets cX15_sets 1 (some FieldType.boolean) 0 0 0 0 [.ref q409890] (va_pl P409888 F409889) (pp_409898_Row_sets D I P409888 F409889 q409890 p409891 p409892 p409893 p409894 p409895 p409896 p409897) gNA := by
  refine CtA_of hl0 (by decide) (Nat.le_of_ble_eq_true rfl) ?_
  have bp409893 := gB_any p409893
  have bp409894 := gB_any p409894
  refine G_aload_n 0 dr_cX15_sets_0 rfl ?_
  refine Gp_get 0 hmq409890 heq409890 dr_cX15_sets_1 (gk_X15 D I) (Nat.le_of_ble_eq_true rfl) wr_9_175 rfl ?_
  refine G_bipush 21 dr_cX15_sets_4 (by decide +kernel) ?_
  refine G_icmp_gt 13 dr_cX15_sets_6 (by decide +kernel) (fun hc409899 => ?_) (fun hc409899 => ?_)
  · have r409900 : 21 < p409891.toInt := gj_ltL hc409899 (show Int32.toInt 21 = 21 by decide)
    have bp409891' : gB p409891 22 32 := ⟨by omega, by omega⟩
    refine G_iconst 0 dr_cX15_sets_13 (by decide +kernel) ?_
    exact G_zretA FieldType.boolean dr_cX15_sets_14 rfl rfl (Nat.le_of_ble_eq_true rfl) (Nat.le_of_ble_eq_true rfl) ⟨0, rfl, rfl, (Nat.le_of_ble_eq_true rfl), (Nat.le_of_ble_eq_true rfl), (gB_w (gBl (show Int32.toInt 0 = 0 by decide)) (by decide) (by decide)), (by unfold uS; first | omega | (have qa0 : Int32.toInt 0 = 0 := (by decide); have qa1 : Int32.toInt 1 = 1 := (by decide); omega)), (fun R c1 c2 => c1 r409900)⟩
  · have r409901 : p409891.toInt ≤ 21 := gj_nltL hc409899 (show Int32.toInt 21 = 21 by decide)
    have bp409891' : gB p409891 0 21 := ⟨by omega, by omega⟩
    refine G_iconst 1 dr_cX15_sets_9 (by decide +kernel) ?_
    refine G_goto 14 dr_cX15_sets_10 (by decide +kernel) ?_
    exact G_zretA FieldType.boolean dr_cX15_sets_14 rfl rfl (Nat.le_of_ble_eq_true rfl) (Nat.le_of_ble_eq_true rfl) ⟨1, rfl, rfl, (Nat.le_of_ble_eq_true rfl), (Nat.le_of_ble_eq_true rfl), (gB_w (gBl (show Int32.toInt 1 = 1 by decide)) (by decide) (by decide)), (by unfold uS; first | omega | (have qa0 : Int32.toInt 0 = 0 := (by decide); have qa1 : Int32.toInt 1 = 1 := (by decide); omega)), (fun R c1 c2 => c2 r409901)⟩
/- tl_RModel_findDepth2_342: F, l4; out: F -/
def tl_RModel_findDepth2_342 (D : va_G) (I : FieldType → ClassId) (γ el : Nat → Nat → Nat) (P : List Nat) (F : Nat → va_E) (q0 : Nat) (q1 : Nat) (s1 : Nat → va_E) (s2 : Int32) (k : Nat) (e1 : Nat → va_E) : Prop := ∀ R : (Nat → va_E) → (Int32) → Nat → (Nat → va_E) → Prop,
  (∀ (F_1 : Nat → va_E) (l4_1 : Int32) (x1 : Int32), gB l4_1 0 1000000 → RS D I P F_1 γ el → rStr γ [] F F_1 → (F_1 q0 = F q0) → (F_1 (γ 9 3) = F (γ 9 3)) → fI (F_1 q1) 3 = x1 → x1.toInt ≤ l4_1.toInt → R F_1 l4_1 375 F_1) →
  (∀ (F_1 : Nat → va_E) (l4_1 : Int32) (x1 : Int32) (x2 : Nat → Int32) (x3 : Int32) (x4 : Int32) (x5 : Nat → Int32) (x6 : Nat → va_E) (x7 : Int32) (k : Nat) (e1 : Nat → va_E), gB l4_1 0 1000000 → RS D I P F_1 γ el → rStr γ [] F F_1 → (F_1 q0 = F q0) → (F_1 (γ 9 3) = F (γ 9 3)) → fI (F_1 q1) 3 = x1 → l4_1.toInt < x1.toInt → fR (F_1 q0) 4 = (γ 9 4) → F_1 (γ 9 4) = .inl (I .int, 40, .inl x2) → x3 = x2 l4_1.toNatClampNeg → (x3.toInt ≥ x4.toInt ∧ 4 ≥ x4.toInt ∧ (x4.toInt = x3.toInt ∨ x4.toInt = 4)) → x5 = upd x2 l4_1.toNatClampNeg x4 → (∀ b, b ≠ (γ 9 4) → x6 b = F_1 b) → x6 (γ 9 4) = .inl (I .int, 40, .inl x5) → x7.toInt = l4_1.toInt + 1 → R x6 x7 k e1 → R F_1 l4_1 k e1) →
  R s1 s2 k e1
/- tl_RModel_findDepth2_300: F, l10; out: F -/
def tl_RModel_findDepth2_300 (D : va_G) (I : FieldType → ClassId) (γ el : Nat → Nat → Nat) (P : List Nat) (F : Nat → va_E) (q0 : Nat) (q1 : Nat) (l7_2 : Int64) (s1 : Nat → va_E) (s2 : Int32) (k : Nat) (e1 : Nat → va_E) : Prop := ∀ R : (Nat → va_E) → (Int32) → Nat → (Nat → va_E) → Prop,
  (∀ (F_2 : Nat → va_E) (l10_2 : Int32) (x1 : Int32), gB l10_2 0 1000000 → RS D I P F_2 γ el → rStr γ [] F F_2 → (F_2 q0 = F q0) → (F_2 (γ 9 3) = F (γ 9 3)) → fI (F_2 q1) 3 = x1 → x1.toInt ≤ l10_2.toInt → R F_2 l10_2 333 F_2) →
  (∀ (F_2 : Nat → va_E) (l10_2 : Int32) (x1 : Int32) (x2 : Nat → Int32) (x3 : Int32) (x4 : Int64) (x5 : Int64) (x6 : Int32) (x7 : Int32) (x8 : Nat → Int32) (x9 : Nat → va_E) (x10 : Int32) (k : Nat) (e1 : Nat → va_E), gB l10_2 0 1000000 → RS D I P F_2 γ el → rStr γ [] F F_2 → (F_2 q0 = F q0) → (F_2 (γ 9 3) = F (γ 9 3)) → fI (F_2 q1) 3 = x1 → l10_2.toInt < x1.toInt → fR (F_2 q0) 4 = (γ 9 4) → F_2 (γ 9 4) = .inl (I .int, 40, .inl x2) → x3 = x2 l10_2.toNatClampNeg → x4 = (l7_2.toUInt64 >>> (l10_2.toInt64.toUInt64 &&& Int64.toUInt64 63)).toInt64 → x5 = x4 &&& (1 : Int64) → x6 = x5.toInt32 → x7 = x3 + x6 → x8 = upd x2 l10_2.toNatClampNeg x7 → (∀ b, b ≠ (γ 9 4) → x9 b = F_2 b) → x9 (γ 9 4) = .inl (I .int, 40, .inl x8) → x10.toInt = l10_2.toInt + 1 → R x9 x10 k e1 → R F_2 l10_2 k e1) →
  R s1 s2 k e1
/- tl_RModel_findDepth2_199: l12, l11; out: l11 -/
def tl_RModel_findDepth2_199 (D : va_G) (I : FieldType → ClassId) (γ el : Nat → Nat → Nat) (F_1 : Nat → va_E) (q1 : Nat) (l10_3 : Int32) (l4_1 : Int32) (l7_3 : Int64) (s1 : Int32) (s2 : Int32) (k : Nat) (e1 : Int32) : Prop := ∀ R : (Int32) → (Int32) → Nat → (Int32) → Prop,
  (∀ (l12_4 : Int32) (l11_4 : Int32) (x1 : Nat) (x2 : Nat) (x3 : Int32) (x4 : Int32) (x5 : Int32) (x6 : Nat) (x7 : Int32) (x8 : Int32), gB l12_4 0 2 → gB l11_4 0 1 → fR (F_1 q1) 0 = x1 → x2 = el x1 l10_3.toInt.toNat → fI (F_1 x1) 2 = x3 → tr_RCode_get l10_3 x3 → fI (F_1 x2) 2 = x4 → fI (F_1 x2) 3 = x5 → fR (F_1 x2) 1 = x6 → fI (F_1 x6) 0 = x7 → gB x8 0 2 → tr_RBlock_ways x4 x5 x7 x8 → x8.toInt ≤ l12_4.toInt → R l12_4 l11_4 268 l11_4) →
  (∀ (l12_4 : Int32) (l11_4 : Int32) (x1 : Nat) (x2 : Nat) (x3 : Int32) (x4 : Int32) (x5 : Int32) (x6 : Nat) (x7 : Int32) (x8 : Int32) (x9 : Int32) (k : Nat) (e1 : Int32), gB l12_4 0 2 → gB l11_4 0 1 → fR (F_1 q1) 0 = x1 → x2 = el x1 l10_3.toInt.toNat → fI (F_1 x1) 2 = x3 → tr_RCode_get l10_3 x3 → fI (F_1 x2) 2 = x4 → fI (F_1 x2) 3 = x5 → fR (F_1 x2) 1 = x6 → fI (F_1 x6) 0 = x7 → gB x8 0 2 → tr_RBlock_ways x4 x5 x7 x8 → l12_4.toInt < x8.toInt → l11_4.toInt ≠ 0 → x9.toInt = l12_4.toInt + 1 → R x9 (1 : Int32) k e1 → R l12_4 l11_4 k e1) →
  (∀ (l12_4 : Int32) (l11_4 : Int32) (x1 : Nat) (x2 : Nat) (x3 : Int32) (x4 : Int32) (x5 : Int32) (x6 : Nat) (x7 : Int32) (x8 : Int32) (x9 : Int32) (x10 : Int32) (k : Nat) (e1 : Int32), gB l12_4 0 2 → gB l11_4 0 1 → fR (F_1 q1) 0 = x1 → x2 = el x1 l10_3.toInt.toNat → fI (F_1 x1) 2 = x3 → tr_RCode_get l10_3 x3 → fI (F_1 x2) 2 = x4 → fI (F_1 x2) 3 = x5 → fR (F_1 x2) 1 = x6 → fI (F_1 x6) 0 = x7 → gB x8 0 2 → tr_RBlock_ways x4 x5 x7 x8 → l12_4.toInt < x8.toInt → l11_4.toInt = 0 → tr_RCode_get l10_3 x3 → gB x9 0 39 → tr_RBlock_way2 l12_4 x4 x5 x9 → x9.toInt = l4_1.toInt → x10.toInt = l12_4.toInt + 1 → R x10 (0 : Int32) k e1 → R l12_4 l11_4 k e1) →
  (∀ (l12_4 : Int32) (l11_4 : Int32) (x1 : Nat) (x2 : Nat) (x3 : Int32) (x4 : Int32) (x5 : Int32) (x6 : Nat) (x7 : Int32) (x8 : Int32) (x9 : Int32) (x10 : Int32) (x11 : Int64) (x12 : Int64) (x13 : Int32) (k : Nat) (e1 : Int32), gB l12_4 0 2 → gB l11_4 0 1 → fR (F_1 q1) 0 = x1 → x2 = el x1 l10_3.toInt.toNat → fI (F_1 x1) 2 = x3 → tr_RCode_get l10_3 x3 → fI (F_1 x2) 2 = x4 → fI (F_1 x2) 3 = x5 → fR (F_1 x2) 1 = x6 → fI (F_1 x6) 0 = x7 → gB x8 0 2 → tr_RBlock_ways x4 x5 x7 x8 → l12_4.toInt < x8.toInt → l11_4.toInt = 0 → tr_RCode_get l10_3 x3 → gB x9 0 39 → tr_RBlock_way2 l12_4 x4 x5 x9 → x9.toInt ≠ l4_1.toInt → tr_RCode_get l10_3 x3 → gB x10 0 39 → tr_RBlock_way2 l12_4 x4 x5 x10 → x11 = (l7_3.toUInt64 >>> (x10.toInt64.toUInt64 &&& Int64.toUInt64 63)).toInt64 → x12 = x11 &&& (1 : Int64) → x12 = (0 : Int64) → x13.toInt = l12_4.toInt + 1 → R x13 (0 : Int32) k e1 → R l12_4 l11_4 k e1) →
  (∀ (l12_4 : Int32) (l11_4 : Int32) (x1 : Nat) (x2 : Nat) (x3 : Int32) (x4 : Int32) (x5 : Int32) (x6 : Nat) (x7 : Int32) (x8 : Int32) (x9 : Int32) (x10 : Int32) (x11 : Int64) (x12 : Int64) (x13 : Int32) (k : Nat) (e1 : Int32), gB l12_4 0 2 → gB l11_4 0 1 → fR (F_1 q1) 0 = x1 → x2 = el x1 l10_3.toInt.toNat → fI (F_1 x1) 2 = x3 → tr_RCode_get l10_3 x3 → fI (F_1 x2) 2 = x4 → fI (F_1 x2) 3 = x5 → fR (F_1 x2) 1 = x6 → fI (F_1 x6) 0 = x7 → gB x8 0 2 → tr_RBlock_ways x4 x5 x7 x8 → l12_4.toInt < x8.toInt → l11_4.toInt = 0 → tr_RCode_get l10_3 x3 → gB x9 0 39 → tr_RBlock_way2 l12_4 x4 x5 x9 → x9.toInt ≠ l4_1.toInt → tr_RCode_get l10_3 x3 → gB x10 0 39 → tr_RBlock_way2 l12_4 x4 x5 x10 → x11 = (l7_3.toUInt64 >>> (x10.toInt64.toUInt64 &&& Int64.toUInt64 63)).toInt64 → x12 = x11 &&& (1 : Int64) → (¬ x12 = (0 : Int64)) → x13.toInt = l12_4.toInt + 1 → R x13 (1 : Int32) k e1 → R l12_4 l11_4 k e1) →
  R s1 s2 k e1
/- tl_RModel_findDepth2_158: l10, l9, l7; out: l9, l7 -/
def tl_RModel_findDepth2_158 (D : va_G) (I : FieldType → ClassId) (γ el : Nat → Nat → Nat) (l7_2 : Int64) (F_1 : Nat → va_E) (q1 : Nat) (c1 : Int64) (l4_1 : Int32) (s1 : Int32) (s2 : Int32) (s3 : Int64) (k : Nat) (e1 : Int32) (e2 : Int64) : Prop := ∀ R : (Int32) → (Int32) → (Int64) → Nat → (Int32) → (Int64) → Prop,
  (∀ (l10_3 : Int32) (l9_3 : Int32) (l7_3 : Int64) (x1 : Int32), gB l10_3 0 1000000 → gB l9_3 0 1 → rpop l7_3 ≤ 64 → rpop l7_2 + ((l9_3.toInt : Int)).toNat ≤ rpop l7_3 → fI (F_1 q1) 3 = x1 → x1.toInt ≤ l10_3.toInt → R l10_3 l9_3 l7_3 294 l9_3 l7_3) →
  (∀ (l10_3 : Int32) (l9_3 : Int32) (l7_3 : Int64) (x1 : Int32) (x2 : Int64) (x3 : Int64) (x4 : Int32) (k : Nat) (e1 : Int32) (e2 : Int64), gB l10_3 0 1000000 → gB l9_3 0 1 → rpop l7_3 ≤ 64 → rpop l7_2 + ((l9_3.toInt : Int)).toNat ≤ rpop l7_3 → fI (F_1 q1) 3 = x1 → l10_3.toInt < x1.toInt → x2 = (l7_3.toUInt64 >>> (l10_3.toInt64.toUInt64 &&& Int64.toUInt64 63)).toInt64 → x3 = x2 &&& (1 : Int64) → (¬ x3 = (0 : Int64)) → x4.toInt = l10_3.toInt + 1 → R x4 l9_3 l7_3 k e1 e2 → R l10_3 l9_3 l7_3 k e1 e2) →
  (∀ (l10_3 : Int32) (l9_3 : Int32) (l7_3 : Int64) (x1 : Int32) (x2 : Int64) (x3 : Int64) (x4 : Int64) (x5 : Int64) (x6 : Int32) (x7 : Int64) (x8 : Int64) (x9 : Int32) (k : Nat) (e1 : Int32) (e2 : Int64), gB l10_3 0 1000000 → gB l9_3 0 1 → rpop l7_3 ≤ 64 → rpop l7_2 + ((l9_3.toInt : Int)).toNat ≤ rpop l7_3 → fI (F_1 q1) 3 = x1 → l10_3.toInt < x1.toInt → x2 = (l7_3.toUInt64 >>> (l10_3.toInt64.toUInt64 &&& Int64.toUInt64 63)).toInt64 → x3 = x2 &&& (1 : Int64) → x3 = (0 : Int64) → x4 = (c1.toUInt64 >>> (l10_3.toInt64.toUInt64 &&& Int64.toUInt64 63)).toInt64 → x5 = x4 &&& (1 : Int64) → (¬ x5 = (0 : Int64)) → tl_RModel_findDepth2_199 D I γ el F_1 q1 l10_3 l4_1 l7_3 (0 : Int32) (0 : Int32) 268 x6 → x6.toInt ≠ 0 → x7 = (1 : Int64) <<< (l10_3.toInt64 &&& 63) → x8 = l7_3 ||| x7 → x9.toInt = l10_3.toInt + 1 → R x9 (1 : Int32) x8 k e1 e2 → R l10_3 l9_3 l7_3 k e1 e2) →
  (∀ (l10_3 : Int32) (l9_3 : Int32) (l7_3 : Int64) (x1 : Int32) (x2 : Int64) (x3 : Int64) (x4 : Int64) (x5 : Int64) (x6 : Int32) (x7 : Int32) (k : Nat) (e1 : Int32) (e2 : Int64), gB l10_3 0 1000000 → gB l9_3 0 1 → rpop l7_3 ≤ 64 → rpop l7_2 + ((l9_3.toInt : Int)).toNat ≤ rpop l7_3 → fI (F_1 q1) 3 = x1 → l10_3.toInt < x1.toInt → x2 = (l7_3.toUInt64 >>> (l10_3.toInt64.toUInt64 &&& Int64.toUInt64 63)).toInt64 → x3 = x2 &&& (1 : Int64) → x3 = (0 : Int64) → x4 = (c1.toUInt64 >>> (l10_3.toInt64.toUInt64 &&& Int64.toUInt64 63)).toInt64 → x5 = x4 &&& (1 : Int64) → (¬ x5 = (0 : Int64)) → tl_RModel_findDepth2_199 D I γ el F_1 q1 l10_3 l4_1 l7_3 (0 : Int32) (0 : Int32) 268 x6 → x6.toInt = 0 → x7.toInt = l10_3.toInt + 1 → R x7 l9_3 l7_3 k e1 e2 → R l10_3 l9_3 l7_3 k e1 e2) →
  (∀ (l10_3 : Int32) (l9_3 : Int32) (l7_3 : Int64) (x1 : Int32) (x2 : Int64) (x3 : Int64) (x4 : Int64) (x5 : Int64) (x6 : Int32) (k : Nat) (e1 : Int32) (e2 : Int64), gB l10_3 0 1000000 → gB l9_3 0 1 → rpop l7_3 ≤ 64 → rpop l7_2 + ((l9_3.toInt : Int)).toNat ≤ rpop l7_3 → fI (F_1 q1) 3 = x1 → l10_3.toInt < x1.toInt → x2 = (l7_3.toUInt64 >>> (l10_3.toInt64.toUInt64 &&& Int64.toUInt64 63)).toInt64 → x3 = x2 &&& (1 : Int64) → x3 = (0 : Int64) → x4 = (c1.toUInt64 >>> (l10_3.toInt64.toUInt64 &&& Int64.toUInt64 63)).toInt64 → x5 = x4 &&& (1 : Int64) → x5 = (0 : Int64) → x6.toInt = l10_3.toInt + 1 → R x6 l9_3 l7_3 k e1 e2 → R l10_3 l9_3 l7_3 k e1 e2) →
  R s1 s2 s3 k e1 e2
/- tl_RModel_findDepth2_147: l9, l7; out: l7 -/
def tl_RModel_findDepth2_147 (D : va_G) (I : FieldType → ClassId) (γ el : Nat → Nat → Nat) (F_1 : Nat → va_E) (q1 : Nat) (c1 : Int64) (l4_1 : Int32) (s1 : Int32) (s2 : Int64) (k : Nat) (e1 : Int64) : Prop := ∀ R : (Int32) → (Int64) → Nat → (Int64) → Prop,
  (∀ (l9_2 : Int32) (l7_2 : Int64), gB l9_2 0 1 → rpop l7_2 ≤ 64 → l9_2.toInt = 0 → R l9_2 l7_2 297 l7_2) →
  (∀ (l9_2 : Int32) (l7_2 : Int64) (x1 : Int32) (x2 : Int64) (k : Nat) (e1 : Int64), gB l9_2 0 1 → rpop l7_2 ≤ 64 → l9_2.toInt ≠ 0 → tl_RModel_findDepth2_158 D I γ el l7_2 F_1 q1 c1 l4_1 (0 : Int32) (0 : Int32) l7_2 294 x1 x2 → R x1 x2 k e1 → R l9_2 l7_2 k e1) →
  R s1 s2 k e1
/- tl_RModel_findDepth2_75: l9, l7; out: l7 -/
def tl_RModel_findDepth2_75 (D : va_G) (I : FieldType → ClassId) (γ el : Nat → Nat → Nat) (F_1 : Nat → va_E) (q1 : Nat) (c1 : Int64) (l4_1 : Int32) (s1 : Int32) (s2 : Int64) (k : Nat) (e1 : Int64) : Prop := ∀ R : (Int32) → (Int64) → Nat → (Int64) → Prop,
  (∀ (l9_2 : Int32) (l7_2 : Int64) (x1 : Int32), gB l9_2 0 1000000 → fI (F_1 q1) 3 = x1 → x1.toInt ≤ l9_2.toInt → R l9_2 l7_2 125 l7_2) →
  (∀ (l9_2 : Int32) (l7_2 : Int64) (x1 : Int32) (x2 : Int64) (x3 : Int64) (x4 : Int32) (k : Nat) (e1 : Int64), gB l9_2 0 1000000 → fI (F_1 q1) 3 = x1 → l9_2.toInt < x1.toInt → x2 = (c1.toUInt64 >>> (l9_2.toInt64.toUInt64 &&& Int64.toUInt64 63)).toInt64 → x3 = x2 &&& (1 : Int64) → x3 = (0 : Int64) → x4.toInt = l9_2.toInt + 1 → R x4 l7_2 k e1 → R l9_2 l7_2 k e1) →
  (∀ (l9_2 : Int32) (l7_2 : Int64) (x1 : Int32) (x2 : Int64) (x3 : Int64) (x4 : Nat) (x5 : Nat) (x6 : Int32) (x7 : Int32) (x8 : Int32) (k : Nat) (e1 : Int64), gB l9_2 0 1000000 → fI (F_1 q1) 3 = x1 → l9_2.toInt < x1.toInt → x2 = (c1.toUInt64 >>> (l9_2.toInt64.toUInt64 &&& Int64.toUInt64 63)).toInt64 → x3 = x2 &&& (1 : Int64) → (¬ x3 = (0 : Int64)) → fR (F_1 q1) 0 = x4 → x5 = el x4 l9_2.toInt.toNat → fI (F_1 x4) 2 = x6 → tr_RCode_get l9_2 x6 → gB x7 0 1 → tr_RModel_leads D I γ el F_1 x5 l4_1 x7 → x7.toInt = 0 → x8.toInt = l9_2.toInt + 1 → R x8 l7_2 k e1 → R l9_2 l7_2 k e1) →
  (∀ (l9_2 : Int32) (l7_2 : Int64) (x1 : Int32) (x2 : Int64) (x3 : Int64) (x4 : Nat) (x5 : Nat) (x6 : Int32) (x7 : Int32) (x8 : Int64) (x9 : Int64) (x10 : Int32) (k : Nat) (e1 : Int64), gB l9_2 0 1000000 → fI (F_1 q1) 3 = x1 → l9_2.toInt < x1.toInt → x2 = (c1.toUInt64 >>> (l9_2.toInt64.toUInt64 &&& Int64.toUInt64 63)).toInt64 → x3 = x2 &&& (1 : Int64) → (¬ x3 = (0 : Int64)) → fR (F_1 q1) 0 = x4 → x5 = el x4 l9_2.toInt.toNat → fI (F_1 x4) 2 = x6 → tr_RCode_get l9_2 x6 → gB x7 0 1 → tr_RModel_leads D I γ el F_1 x5 l4_1 x7 → x7.toInt ≠ 0 → x8 = (1 : Int64) <<< (l9_2.toInt64 &&& 63) → x9 = l7_2 ||| x8 → x10.toInt = l9_2.toInt + 1 → R x10 x9 k e1 → R l9_2 l7_2 k e1) →
  R s1 s2 k e1
/- tl_RModel_findDepth2_32: F, l4; out: F -/
def tl_RModel_findDepth2_32 (D : va_G) (I : FieldType → ClassId) (γ el : Nat → Nat → Nat) (P : List Nat) (F : Nat → va_E) (q0 : Nat) (q1 : Nat) (c1 : Int64) (s1 : Nat → va_E) (s2 : Int32) (k : Nat) (e1 : Nat → va_E) : Prop := ∀ R : (Nat → va_E) → (Int32) → Nat → (Nat → va_E) → Prop,
  (∀ (F_1 : Nat → va_E) (l4_1 : Int32) (x1 : Int32), gB l4_1 0 1000000 → RS D I P F_1 γ el → rStr γ [] F F_1 → (F_1 q0 = F q0) → (F_1 (γ 9 3) = F (γ 9 3)) → fI (F_1 q1) 3 = x1 → x1.toInt ≤ l4_1.toInt → R F_1 l4_1 339 F_1) →
  (∀ (F_1 : Nat → va_E) (l4_1 : Int32) (x1 : Int32) (x2 : Int64) (x3 : Int64) (x4 : Int64) (x5 : Int64) (x6 : Int64) (x7 : Int64) (x8 : Int64) (x9 : Int64) (x10 : Int64) (x11 : Nat → va_E) (x12 : Int32) (k : Nat) (e1 : Nat → va_E), gB l4_1 0 1000000 → RS D I P F_1 γ el → rStr γ [] F F_1 → (F_1 q0 = F q0) → (F_1 (γ 9 3) = F (γ 9 3)) → fI (F_1 q1) 3 = x1 → l4_1.toInt < x1.toInt → x2 = (c1.toUInt64 >>> (l4_1.toInt64.toUInt64 &&& Int64.toUInt64 63)).toInt64 → x3 = x2 &&& (1 : Int64) → (¬ x3 = (0 : Int64)) → tr_RModel_reached D I γ el F_1 q1 l4_1 x4 → x5 = x4 ^^^ (-1 : Int64) → x6 = c1 &&& x5 → tl_RModel_findDepth2_75 D I γ el F_1 q1 x6 l4_1 (0 : Int32) (0 : Int64) 125 x7 → (¬ x7 = (0 : Int64)) → x8 = (1 : Int64) <<< (l4_1.toInt64 &&& 63) → x9 = x7 ||| x8 → tl_RModel_findDepth2_147 D I γ el F_1 q1 c1 l4_1 (1 : Int32) x9 297 x10 → tl_RModel_findDepth2_300 D I γ el P F q0 q1 x10 F_1 (0 : Int32) 333 x11 → x12.toInt = l4_1.toInt + 1 → R x11 x12 k e1 → R F_1 l4_1 k e1) →
  (∀ (F_1 : Nat → va_E) (l4_1 : Int32) (x1 : Int32) (x2 : Int64) (x3 : Int64) (x4 : Int64) (x5 : Int64) (x6 : Int64) (x7 : Int64) (x8 : Int32) (k : Nat) (e1 : Nat → va_E), gB l4_1 0 1000000 → RS D I P F_1 γ el → rStr γ [] F F_1 → (F_1 q0 = F q0) → (F_1 (γ 9 3) = F (γ 9 3)) → fI (F_1 q1) 3 = x1 → l4_1.toInt < x1.toInt → x2 = (c1.toUInt64 >>> (l4_1.toInt64.toUInt64 &&& Int64.toUInt64 63)).toInt64 → x3 = x2 &&& (1 : Int64) → (¬ x3 = (0 : Int64)) → tr_RModel_reached D I γ el F_1 q1 l4_1 x4 → x5 = x4 ^^^ (-1 : Int64) → x6 = c1 &&& x5 → tl_RModel_findDepth2_75 D I γ el F_1 q1 x6 l4_1 (0 : Int32) (0 : Int64) 125 x7 → x7 = (0 : Int64) → x8.toInt = l4_1.toInt + 1 → R F_1 x8 k e1 → R F_1 l4_1 k e1) →
  (∀ (F_1 : Nat → va_E) (l4_1 : Int32) (x1 : Int32) (x2 : Int64) (x3 : Int64) (x4 : Int32) (k : Nat) (e1 : Nat → va_E), gB l4_1 0 1000000 → RS D I P F_1 γ el → rStr γ [] F F_1 → (F_1 q0 = F q0) → (F_1 (γ 9 3) = F (γ 9 3)) → fI (F_1 q1) 3 = x1 → l4_1.toInt < x1.toInt → x2 = (c1.toUInt64 >>> (l4_1.toInt64.toUInt64 &&& Int64.toUInt64 63)).toInt64 → x3 = x2 &&& (1 : Int64) → x3 = (0 : Int64) → x4.toInt = l4_1.toInt + 1 → R F_1 x4 k e1 → R F_1 l4_1 k e1) →
  R s1 s2 k e1
/- tl_RModel_findDepth2_2: F, l2; out: F -/
def tl_RModel_findDepth2_2 (D : va_G) (I : FieldType → ClassId) (γ el : Nat → Nat → Nat) (P : List Nat) (F : Nat → va_E) (q0 : Nat) (q1 : Nat) (s1 : Nat → va_E) (s2 : Int32) (k : Nat) (e1 : Nat → va_E) : Prop := ∀ R : (Nat → va_E) → (Int32) → Nat → (Nat → va_E) → Prop,
  (∀ (F_1 : Nat → va_E) (l2_1 : Int32) (x1 : Int32), gB l2_1 0 1000000 → RS D I P F_1 γ el → rStr γ [] F F_1 → (F_1 q0 = F q0) → (F_1 (γ 9 3) = F (γ 9 3)) → fI (F_1 q1) 3 = x1 → x1.toInt ≤ l2_1.toInt → R F_1 l2_1 23 F_1) →
  (∀ (F_1 : Nat → va_E) (l2_1 : Int32) (x1 : Int32) (x2 : Nat → Int32) (x3 : Nat → Int32) (x4 : Nat → va_E) (x5 : Int32) (k : Nat) (e1 : Nat → va_E), gB l2_1 0 1000000 → RS D I P F_1 γ el → rStr γ [] F F_1 → (F_1 q0 = F q0) → (F_1 (γ 9 3) = F (γ 9 3)) → fI (F_1 q1) 3 = x1 → l2_1.toInt < x1.toInt → fR (F_1 q0) 4 = (γ 9 4) → F_1 (γ 9 4) = .inl (I .int, 40, .inl x2) → x3 = upd x2 l2_1.toNatClampNeg 0 → (∀ b, b ≠ (γ 9 4) → x4 b = F_1 b) → x4 (γ 9 4) = .inl (I .int, 40, .inl x3) → x5.toInt = l2_1.toInt + 1 → R x4 x5 k e1 → R F_1 l2_1 k e1) →
  R s1 s2 k e1
/- tr_RModel_findDepth2: F -/
def tr_RModel_findDepth2 (D : va_G) (I : FieldType → ClassId) (γ el : Nat → Nat → Nat) (P : List Nat) (F : Nat → va_E) (q0 : Nat) (q1 : Nat) (o1 : Nat → va_E) : Prop := ∀ R : (Nat → va_E) → Prop,
  (∀ (x1 : Nat → va_E) (x2 : Int64) (x3 : Nat → va_E) (x4 : Nat → va_E), tl_RModel_findDepth2_2 D I γ el P F q0 q1 F (0 : Int32) 23 x1 → tr_RModel_reached D I γ el x1 q1 (-1 : Int32) x2 → tl_RModel_findDepth2_32 D I γ el P F q0 q1 x2 x1 (0 : Int32) 339 x3 → tl_RModel_findDepth2_342 D I γ el P F q0 q1 x3 (0 : Int32) 375 x4 → R x4) →
  R o1
