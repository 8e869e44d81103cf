abbrev ky_407593_SpillForgeModel_load : gKey := (cX17_load, 6, "SpillForgeModel", (some FieldType.int), [], "load", fun _ _ => True)
def pg_407593_SpillForgeModel_load (D : va_G) (I : FieldType → ClassId) (γ0 el0 : Nat → Nat → Nat) (f : Nat) (B : Nat) (P407580 : List Nat) (F407581 : Nat → va_E) (q407582 : Nat) (q407583 : Nat) (q407584 : Nat) (p407585 : Int32) (p407586 : Int32) (jx407587 : Nat) : Option Value → va_W → Nat → Nat → Prop := fun r w dc ds => ∃ (P407943 : List Nat) (F407944 : Nat → va_E) (γ el : Nat → Nat → Nat) (o407942 : Int32), r = some (.int o407942) ∧ w = va_pl P407943 F407944 ∧ rSk f [101] ([3, 5, 6, 8, 9, 10, 101]) D I P407580 F407581 γ0 el0 P407943 F407944 γ el ∧ (18 * dc + rPh γ0 el0 f ≤ rPh γ el f ∧ ds + rPh γ0 el0 f ≤ rPh γ el f) ∧ rBd γ el f B ∧ gB o407942 (-1) 1999 ∧ γ 6 f = γ0 6 f ∧ γ 7 f = γ0 7 f ∧ γ 18 f = γ0 18 f ∧ (γ 14 q407584 = γ0 14 q407584 ∧ jx407587 < γ 2 (γ 14 q407583) ∧ el (γ 14 q407583) jx407587 = q407584) ∧ (o407942.toInt < 0 ∨ (o407942.toInt = (fI (F407581 q407582) 14).toInt ∧ o407942.toInt < 2000 ∧ (fI (F407944 q407582) 14).toInt = o407942.toInt + 1 ∧ γ 16 f = γ0 16 f + 1 ∧ γ 2 (γ 14 q407584) = γ0 2 (γ0 14 q407584) + 1)) ∧ (fI (F407944 q407582) 11).toInt = (fI (F407581 q407582) 11).toInt ∧ (o407942.toInt < 0 ∨ rInsP γ0 el0 F407581 γ el F407944 q407583 f jx407587 (p407585.toInt : Int).toNat (o407942.toInt : Int).toNat) ∧ (o407942.toInt < 0 ∨ ∀ j : Nat, (p407585.toInt : Int).toNat ≤ j → rAt γ el q407583 jx407587 (j + 1) = rAt γ0 el0 q407583 jx407587 j) ∧ mKp (F407581 q407582) (F407944 q407582)
set_option maxRecDepth 100000 in
set_option maxHeartbeats 1500000 in
theorem cg_407593_SpillForgeModel_load (l : Launch) (hl0 : l.stackTraces = false) (D : va_G) (I : FieldType → ClassId) (γ0 el0 : Nat → Nat → Nat) (f : Nat) (B : Nat) (P407580 : List Nat) (F407581 : Nat → va_E) (q407582 : Nat) (q407583 : Nat) (q407584 : Nat) (p407585 : Int32) (p407586 : Int32) (jx407587 : Nat) (hT0 : RS D I P407580 F407581 γ0 el0) (hzq407582 : rKd γ0 q407582 10) (hzq407583 : rKd γ0 q407583 9) (hzq407584 : rKd γ0 q407584 2) (hf0 : γ0 1 q407583 = f) (hB0 : rBd γ0 el0 f B) (hBk : B ≤ 100000) (hqjjx407587 : jx407587 < γ0 2 (γ0 14 q407583)) (hqejx407587 : el0 (γ0 14 q407583) jx407587 = q407584) (hqfjx407587 : γ0 1 q407584 = f) (bp407585 : gB p407585 0 1000000) (bp407586 : gB p407586 0 1999) (x407588 : p407585.toInt ≤ γ0 2 (γ0 14 q407584)) (x407589 : p407586.toInt < γ0 7 f) (x407590 : γ0 16 f + 1 ≤ B) (x407591 : 0 < γ0 6 f) (x407592 : jx407587 < γ0 6 f) : CtA (gV D I) l yX17_load cX17_load 6 (some FieldType.int) 8 170 (((387 * B + 6000) - rPh γ0 el0 f) / 18) ((387 * B + 6000) - rPh γ0 el0 f) [.ref q407582, .ref q407583, .ref q407584, .int p407585, .int p407586] (va_pl P407580 F407581) (pg_407593_SpillForgeModel_load D I γ0 el0 f B P407580 F407581 q407582 q407583 q407584 p407585 p407586 jx407587) gNA := by
  refine CtA_of hl0 (by decide) (Nat.le_of_ble_eq_true rfl) ?_
  obtain ⟨γ, hγ0⟩ : ∃ z, z = γ0 := ⟨_, rfl⟩
  obtain ⟨el, hel0⟩ : ∃ z, z = el0 := ⟨_, rfl⟩
  have hT : RS D I P407580 F407581 γ el := by rw [hγ0, hel0]; exact hT0
  have hst : rSk f [101] ([3, 5, 6, 8, 9, 10, 101]) D I P407580 F407581 γ0 el0 P407580 F407581 γ el := by rw [hγ0, hel0]; exact rSk_rf hT0
  have hph : rPh γ0 el0 f ≤ rPh γ el f := by rw [hγ0, hel0]; exact Nat.le_refl _
  have hB : rBd γ el f B := by rw [hγ0, hel0]; exact hB0
  have htq407582 : rKd γ q407582 10 := by rw [hγ0]; exact hzq407582
  have htq407583 : rKd γ q407583 9 := by rw [hγ0]; exact hzq407583
  have htq407584 : rKd γ q407584 2 := by rw [hγ0]; exact hzq407584
  have hf1 : γ 1 q407583 = f := by rw [hγ0]; exact hf0
  have hpjjx407587 : jx407587 < γ 2 (γ 14 q407583) := by rw [hγ0]; exact hqjjx407587
  have hpejx407587 : el (γ 14 q407583) jx407587 = q407584 := by rw [hγ0, hel0]; exact hqejx407587
  have hpfjx407587 : γ 1 q407584 = f := by rw [hγ0]; exact hqfjx407587
  have x407588n : p407585.toInt ≤ γ 2 (γ 14 q407584) := by rw [hγ0]; exact x407588
  have x407589n : p407586.toInt < γ 7 f := by rw [hγ0]; exact x407589
  have x407590n : γ 16 f + 1 ≤ B := by rw [hγ0]; exact x407590
  have x407591n : 0 < γ 6 f := by rw [hγ0]; exact x407591
  have x407592n : jx407587 < γ 6 f := by rw [hγ0]; exact x407592
  have pk407594 : rPh γ el f ≤ 387 * B + 6000 := rm_pk (rM_ge hT htq407583 hf1).1 (rM_bd hB)
  refine G_widen (cs' := ((rPh γ el f - rPh γ0 el0 f) / 18)) (sl' := (rPh γ el f - rPh γ0 el0 f)) (Nat.zero_le _) (Nat.zero_le _) ?_
  have r407595 : 0 < γ 6 (γ 1 q407583) := by rw [hf1]; omega
  have lz0 : Int32.toInt 0 = 0 := by decide
  have r407596 : γ 6 f = γ0 6 f := by rw [hγ0]
  have r407597 : γ 7 f = γ0 7 f := by rw [hγ0]
  have r407598 : γ 16 f = γ0 16 f := by rw [hγ0]
  have r407599 : γ 18 f = γ0 18 f := by rw [hγ0]
  have r407600 : γ 19 f = γ0 19 f := by rw [hγ0]
  have sz407601 : γ 2 (γ 14 q407584) = γ0 2 (γ0 14 q407584) := by rw [hγ0]
  have hm407602 : q407582 ∈ P407580 := RS_m hT htq407582 (by decide)
  obtain ⟨q407604, q407605, p407606, p407607, p407608, p407609, p407610, p407611, p407612, p407613, p407614, p407615, p407616, p407617, p407618, p407619, p407620, he407603, hB407647, ht407621, ht407622, ht407623, ht407624, ht407625, ht407626, ht407627, ht407628, ht407629, ht407630, ht407631, ht407632, ht407633, ht407634, ht407635, ht407636, ht407637, ht407638, ht407639, ht407640, ht407641, ht407642, ht407643, ht407644, hB407648⟩ := show rk_10 γ (F407581 q407582) from RS_o hT htq407582
  have ac0_11 : (fI (F407581 q407582) 11).toInt = p407608.toInt := by rw [he407603]; rfl
  have ac0_14 : (fI (F407581 q407582) 14).toInt = p407611.toInt := by rw [he407603]; rfl
  have bp407608 : gB p407608 0 100 := (hB407647.2.2.1)
  have bp407611 : gB p407611 0 2000 := (hB407647.2.2.2.1)
  refine G_aload_n 0 dr_cX17_load_0 rfl ?_
  refine Gp_get 14 hm407602 he407603 dr_cX17_load_1 (gk_X17 D I) (Nat.le_of_ble_eq_true rfl) wr_7_88 rfl ?_
  refine G_sipush 2000 dr_cX17_load_4 (by decide +kernel) ?_
  refine G_icmp_ne 12 dr_cX17_load_7 (by decide +kernel) (fun hc407649 => ?_) (fun hc407649 => ?_)
  · have r407650 : p407611.toInt ≠ 2000 := gj_neq hc407649 (show Int32.toInt 2000 = 2000 by decide)
    have bp407611' : gB p407611 0 1999 := ⟨by omega, by omega⟩
    refine G_aload_n 1 dr_cX17_load_12 rfl ?_
    have rg407651 := rM_ge hT htq407583 hf1
    have rm407652 := rM_bd hB
    have bd407653 := rBd_c hT htq407583 hf1 hB
    have rc407654 := rc_at hT htq407583 hf1
    obtain ⟨q407661, hl407662⟩ : ∃ z, z = γ 14 q407584 := ⟨_, rfl⟩
    have hl407663 : γ 0 q407661 = 3 ∨ γ 0 q407661 = 103 := by rw [hl407662, ← hpejx407587]; exact (RS_lst hT rc407654.2.1 hpjjx407587).1
    refine Gt_row (c := q407583) (f := f) hl0 dr_cX17_load_13 ⟨wr_10_206, wr_1_15, wr_10_82, by decide, rfl, (Nat.le_of_ble_eq_true rfl), (Nat.le_of_ble_eq_true rfl)⟩ wr_10_80 wr_10_81 hT htq407583 hf1 (Nat.le_trans bd407653.2.2.1 (Nat.le_trans hBk (by decide))) (rm_cs hph rg407651.2.1 rm407652 (by decide)) (rm_sl hph rg407651.2.1 rm407652 rm_s18) (Nat.le_of_ble_eq_true rfl) (fun P407655 F407656 γ el q407657 dc407658 ds407659 hq407660 => ?_)
    have ar407665 := fun j => rAt_row hT htq407583 hf1 hq407660 (show jx407587 < _ by omega) j
    rw [hγ0, hel0] at ar407665
    have pr407664 := fun (R : Nat → Nat → va_E → Prop) hN => rPl_row (R := R) hT htq407583 hf1 hq407660 hN
    rw [hγ0, hel0] at pr407664
    obtain ⟨hk407666, x0407667, x1407668, x22407669, x8407670, h16407671, h18407672, hnu407673, hot407674, h45407675, hf0407676, ⟨hr1407677, hr2407678⟩, hM407679, hBB407680⟩ := hq407660
    have hk407681 := rSk_of hk407666
    obtain ⟨nu407682, nu407683, nu407684, nu407685⟩ := hnu407673
    have hT407686 := hk407681.1
    have hs407687 := rSk_tr hst hk407681 (by decide) (by decide) (by decide)
    have r407688 := rSk_F hk407681 htq407582 (by decide) (by decide)
    have ht407689 : rKd γ q407582 10 := rSk_k hk407681 htq407582 (by decide) (by decide)
    have ht407690 : rKd γ q407583 9 := rSk_k hk407681 htq407583 (by decide) (by decide)
    have hf407691 : γ 1 q407583 = f := rSk_1 hk407681 htq407583 (by decide) hf1
    have ht407692 : rKd γ q407584 2 := rSk_k hk407681 htq407584 (by decide) (by decide)
    have hf407693 : γ 1 q407584 = f := rSk_1 hk407681 htq407584 (by decide) hpfjx407587
    have mk407694 : mKp (F407581 q407582) (F407656 q407582) := mKp_tr mKp_rf (mKp_eq (rSk_F hk407681 htq407582 (by decide) (by decide)))
    have r407695 := (rSk_s hk407681 htq407583 (by decide)).2.1
    have r407696 := hot407674 _ (by rw [rc407654.2.1]; decide) (by rw [rc407654.2.1]; decide)
    have r407697 : jx407587 < γ 2 (γ 14 q407583) := by rw [r407695, r407696.1]; exact hpjjx407587
    have r407698 : el (γ 14 q407583) jx407587 = q407584 := by rw [r407695, r407696.2]; exact hpejx407587
    clear rg407651 rm407652 bd407653 rc407654
    have r407699 : 0 < γ 6 (γ 1 q407583) := by rw [hf407691]; omega
    have hm407700 : q407582 ∈ P407655 := RS_m hT407686 ht407689 (by decide)
    obtain ⟨q407702, q407703, p407704, p407705, p407706, p407707, p407708, p407709, p407710, p407711, p407712, p407713, p407714, p407715, p407716, p407717, p407718, he407701, hB407745, ht407719, ht407720, ht407721, ht407722, ht407723, ht407724, ht407725, ht407726, ht407727, ht407728, ht407729, ht407730, ht407731, ht407732, ht407733, ht407734, ht407735, ht407736, ht407737, ht407738, ht407739, ht407740, ht407741, ht407742, hB407746⟩ := show rk_10 γ (F407656 q407582) from RS_o hT407686 ht407689
    have r407747 : p407706.toInt = p407608.toInt := by have z : p407706 = p407608 := congrArg (fun e => fI e 11) (he407701.symm.trans (r407688.trans he407603)); rw [z]
    have bp407706 : gB p407706 0 100 := (hB407745.2.2.1)
    have r407748 : p407709.toInt = p407611.toInt := by have z : p407709 = p407611 := congrArg (fun e => fI e 14) (he407701.symm.trans (r407688.trans he407603)); rw [z]
    have bp407709 : gB p407709 0 2000 := (hB407745.2.2.2.1)
    have bp407709' : gB p407709 0 1999 := ⟨by omega, by omega⟩
    have sz407749 := (rSk_s hk407681 htq407584 (by decide)).2.1
    have sz407750 := congrArg (γ 2) sz407749
    have sz407751 := (hot407674 q407661 (by omega) (by omega)).1
    rw [hl407662] at sz407751
    clear hl407663
    have r407752 := hf0407676.2.2
    have hB407753 : rBd γ el f B := hBB407680 B (by omega) hB
    have ht407754 : rKd γ q407657 101 := x0407667
    have r407755 : γ 8 q407657 < γ 16 f := rm_x8 x8407670 h16407671 rfl
    have hph407756 : rPh γ0 el0 f ≤ rPh γ el f := rm_ph hph hr2407678
    have pk407757 : rPh γ el f ≤ 387 * B + 6000 := rm_pk (rM_ge hT407686 ht407690 hf407691).1 (rM_bd hB407753)
    have hm407758 : q407657 ∈ P407655 := RS_m hT407686 ht407754 (by decide)
    obtain ⟨p407760, p407761, p407762, p407763, p407764, p407765, p407766, he407759, bp407760, bp407761, bp407764, bp407765, bp407766, r407767, r407768, r407769⟩ := show rkR (F407656 q407657) from RS_o hT407686 ht407754
    have bp407762 := gB_any p407762
    have bp407763 := gB_any p407763
    have r407770 : γ 7 (γ 1 q407657) = γ 7 f := by rw [x1407668]
    have r407771 : p407765.toInt = 0 := by have z := hf0407676.1; rw [he407759] at z; exact z
    have bp407765' : gB p407765 0 0 := ⟨by omega, by omega⟩
    have r407772 : p407766.toInt = 0 := by have z := hf0407676.2.1; rw [he407759] at z; exact z
    have bp407766' : gB p407766 0 0 := ⟨by omega, by omega⟩
    refine G_widen (cs' := ((rPh γ el f - rPh γ0 el0 f) / 18)) (sl' := (rPh γ el f - rPh γ0 el0 f)) (rm_wc hph hr1407677) (rm_ws hph hr2407678) ?_
    refine G_astore (L' := [(5, .ref q407657), (0, .ref q407582), (1, .ref q407583), (2, .ref q407584), (3, .int p407585), (4, .int p407586)]) dr_cX17_load_16 (Nat.le_of_ble_eq_true rfl) rfl ?_
    refine G_aload 0 dr_cX17_load_18 rfl ?_
    refine G_bipush 21 dr_cX17_load_20 (by decide +kernel) ?_
    refine Gp_put 0 hm407758 he407759 dr_cX17_load_22 (gk_X15 D I) (Nat.le_of_ble_eq_true rfl) wr_9_177 rfl rfl rfl (Nat.le_of_ble_eq_true rfl) (fun F407773 e407774 n407775 => ?_)
    have he407776 : F407773 q407582 = .inr (22, [.ref (γ 9 0), .ref (γ 9 1), .ref (γ 9 2), .ref (γ 9 3), .ref (γ 9 4), .ref (γ 9 5), .ref (γ 9 6), .ref (γ 9 7), .ref (γ 9 8), .int p407704, .int p407705, .int p407706, .int p407707, .int p407708, .int p407709, .ref (γ 9 15), .ref (γ 9 16), .ref (γ 9 17), .ref (γ 9 18), .ref (γ 9 19), .ref (γ 9 20), .ref (γ 9 21), .ref (γ 9 22), .int p407710, .int p407711, .int p407712, .int p407713, .int p407714, .ref q407702, .ref (γ 9 29), .int p407715, .ref (γ 9 31), .int p407716, .int p407717, .int p407718, .ref q407703]) := (n407775 q407582 (rn_oo he407701 he407759 (by decide))).trans he407701
    have he407777 : F407773 q407657 = .inr (20, [.int 21, .int p407761, .int p407762, .int p407763, .int p407764, .int p407765, .int p407766]) := e407774
    have mk407778 : mKp (F407581 q407582) (F407773 q407582) := mKp_tr mk407694 (mKp_eq (n407775 q407582 (rn_ty ht407689 ht407754 (by decide))))
    refine G_aload 0 dr_cX17_load_25 rfl ?_
    refine G_aload_n 1 dr_cX17_load_27 rfl ?_
    refine Gp_get 14 hm407700 he407776 dr_cX17_load_28 (gk_X17 D I) (Nat.le_of_ble_eq_true rfl) wr_7_88 rfl ?_
    refine Gp_put 1 hm407758 he407777 dr_cX17_load_31 (gk_X15 D I) (Nat.le_of_ble_eq_true rfl) wr_9_182 rfl rfl rfl (Nat.le_of_ble_eq_true rfl) (fun F407779 e407780 n407781 => ?_)
    have he407782 : F407779 q407582 = .inr (22, [.ref (γ 9 0), .ref (γ 9 1), .ref (γ 9 2), .ref (γ 9 3), .ref (γ 9 4), .ref (γ 9 5), .ref (γ 9 6), .ref (γ 9 7), .ref (γ 9 8), .int p407704, .int p407705, .int p407706, .int p407707, .int p407708, .int p407709, .ref (γ 9 15), .ref (γ 9 16), .ref (γ 9 17), .ref (γ 9 18), .ref (γ 9 19), .ref (γ 9 20), .ref (γ 9 21), .ref (γ 9 22), .int p407710, .int p407711, .int p407712, .int p407713, .int p407714, .ref q407702, .ref (γ 9 29), .int p407715, .ref (γ 9 31), .int p407716, .int p407717, .int p407718, .ref q407703]) := (n407781 q407582 (rn_oo he407776 he407777 (by decide))).trans he407776
    have he407783 : F407779 q407657 = .inr (20, [.int 21, .int p407709, .int p407762, .int p407763, .int p407764, .int p407765, .int p407766]) := e407780
    have mk407784 : mKp (F407581 q407582) (F407779 q407582) := mKp_tr mk407778 (mKp_eq (n407781 q407582 (rn_ty ht407689 ht407754 (by decide))))
    have n407785 : ∀ b, b ≠ q407657 → F407779 b = F407656 b := fun b hb => (n407781 b hb).trans (n407775 b hb)
    refine G_aload 0 dr_cX17_load_34 rfl ?_
    refine G_iload 5 dr_cX17_load_36 rfl ?_
    refine Gp_put 4 hm407758 he407783 dr_cX17_load_38 (gk_X15 D I) (Nat.le_of_ble_eq_true rfl) wr_9_193 rfl rfl rfl (Nat.le_of_ble_eq_true rfl) (fun F407786 e407787 n407788 => ?_)
    have he407789 : F407786 q407582 = .inr (22, [.ref (γ 9 0), .ref (γ 9 1), .ref (γ 9 2), .ref (γ 9 3), .ref (γ 9 4), .ref (γ 9 5), .ref (γ 9 6), .ref (γ 9 7), .ref (γ 9 8), .int p407704, .int p407705, .int p407706, .int p407707, .int p407708, .int p407709, .ref (γ 9 15), .ref (γ 9 16), .ref (γ 9 17), .ref (γ 9 18), .ref (γ 9 19), .ref (γ 9 20), .ref (γ 9 21), .ref (γ 9 22), .int p407710, .int p407711, .int p407712, .int p407713, .int p407714, .ref q407702, .ref (γ 9 29), .int p407715, .ref (γ 9 31), .int p407716, .int p407717, .int p407718, .ref q407703]) := (n407788 q407582 (rn_oo he407782 he407783 (by decide))).trans he407782
    have he407790 : F407786 q407657 = .inr (20, [.int 21, .int p407709, .int p407762, .int p407763, .int p407586, .int p407765, .int p407766]) := e407787
    have mk407791 : mKp (F407581 q407582) (F407786 q407582) := mKp_tr mk407784 (mKp_eq (n407788 q407582 (rn_ty ht407689 ht407754 (by decide))))
    have n407792 : ∀ b, b ≠ q407657 → F407786 b = F407656 b := fun b hb => (n407788 b hb).trans (n407785 b hb)
    refine G_aload_n 3 dr_cX17_load_41 rfl ?_
    have hT407793 : RS D I P407655 F407786 γ el := RS_set hT407686 n407792 ht407754 (by decide) ⟨21, p407709, p407762, p407763, p407586, p407765, p407766, he407790, (gB_w (gBl (show Int32.toInt 21 = 21 by decide)) (by decide) (by decide)), bp407709', bp407586, (gB_w bp407765' (by decide) (by decide)), (gB_w bp407766' (by decide) (by decide)), (Or.inr (by decide)), r407768, r407769⟩
    have hs407795 := rSk_put hs407687 hT407793 n407792 ht407754 (by decide) (by decide)
    have hm407796 : q407584 ∈ P407655 := RS_m hT407793 ht407692 (by decide)
    obtain ⟨q407798, q407799, p407800, p407801, he407797, ht407808, ht407802, ht407803, ht407804, ht407805, ht407806, bp407800, bp407801, r407807, r407809, r407810⟩ := show rk_2 γ q407584 (F407786 q407584) from RS_o hT407793 ht407692
    have hf407811 : γ 1 q407798 = f := (show γ 1 q407798 = γ 1 q407584 from ht407803).trans hf407693
    have hf407812 : γ 1 q407799 = f := (show γ 1 q407799 = γ 1 q407584 from ht407805).trans hf407693
    have r407813 : γ 6 (γ 1 q407584) = γ 6 f := by rw [hf407693]
    have r407814 : γ 7 (γ 1 q407584) = γ 7 f := by rw [hf407693]
    have r407815 : γ 19 (γ 1 q407584) = γ 19 f := by rw [hf407693]
    have r407816 := r407807.resolve_left (by omega)
    clear r407807
    have r407817 : γ 2 (γ 14 q407584) = γ 2 q407798 := by rw [ht407808.1]
    refine Gp_get 0 hm407796 he407797 dr_cX17_load_42 (gk_X12 D I) (Nat.le_of_ble_eq_true rfl) wr_9_220 rfl ?_
    refine G_iload_n 4 dr_cX17_load_45 rfl ?_
    refine G_aload 0 dr_cX17_load_46 rfl ?_
    have pr407818 := fun (R : Nat → Nat → va_E → Prop) hN => rPl_fr (R := R) hT407686 ht407690 hf407691 (pr407664 R hN) (fun b hb _ => n407792 b (rn_ty (show rKd γ b 1 from hb) ht407754 (by decide)))
    have rg407819 := rM_ge hT407793 ht407690 hf407691
    have rm407820 := rM_bd hB407753
    have bd407821 := rBd_c hT407793 ht407690 hf407691 hB407753
    have rc407822 := rc_at hT407793 ht407690 hf407691
    have r407824 : γ 14 (el (γ 14 q407583) jx407587) = q407798 := by rw [r407698]; exact ht407808.1
    have r407825 := rg407819.2.2 _ r407697
    rw [r407824] at r407825
    have r407826 := bd407821.2.2.2 _ r407697
    rw [r407824] at r407826
    have r407827 : γ 7 (γ 1 q407657) = γ 7 f := by rw [x1407668]
    have hx407828 : rk_1 γ q407657 (F407786 q407657) := ⟨21, p407709, p407762, p407763, p407586, p407765, p407766, he407790, (gB_w (gBl (show Int32.toInt 21 = 21 by decide)) (by decide) (by decide)), bp407709', bp407586, (gB_w bp407765' (by decide) (by decide)), (gB_w bp407766' (by decide) (by decide)), (Or.inr (by decide)), r407768, r407769, (Or.inr (by omega)), (Or.inl x22407669)⟩
    refine Gt_ins (c := q407583) (f := f) hl0 dr_cX17_load_48 ⟨wr_10_207, wr_1_18, wr_10_210, by decide, rfl, (Nat.le_of_ble_eq_true rfl), (Nat.le_of_ble_eq_true rfl)⟩ wr_10_208 wr_10_209 hT407793 ht407802 hf407811 ht407754 x1407668 x22407669 r407755 (by omega) ht407690 hf407691 r407697 r407824 hx407828 (by omega) (by omega) (Nat.le_trans r407826 (Nat.le_trans hBk (by decide))) (rm_cs hph407756 r407825 rm407820 (by decide)) (rm_sl hph407756 r407825 rm407820 rm_s11) (Nat.le_of_ble_eq_true rfl) (fun P407829 F407823 γ el dc407830 ds407831 hq407832 => ?_)
    have ai407834 := fun (j : Nat) (hj : p407585.toInt.toNat ≤ j) => (rAt_ins hT407793 ht407690 hf407691 hq407832 r407824 (show jx407587 < _ by omega) (show p407585.toInt.toNat ≤ _ by omega) j hj).trans (ar407665 j)
    have pr407833 := fun (R R' : Nat → Nat → va_E → Prop) hN h1 h2 (h3 : ∀ e, (∀ n, nmS e n → n = p407709.toInt.toNat) → ((fI e 0).toInt = 21 → (fI e 1).toInt.toNat = p407709.toInt.toNat) → R' jx407587 p407585.toInt.toNat e) h4 => rPl_ins (R := R) (R' := R') hT407793 ht407690 hf407691 hq407832 r407824 (show jx407587 < _ by omega) (show p407585.toInt.toNat ≤ _ by omega) (pr407818 R hN) h1 h2 (h3 _ (nm_ld he407790 (by decide)).1 (nm_ld he407790 (by decide)).2) h4
    obtain ⟨hk407835, x0407836, h2407837, hel407838, hot407839, h16407840, h18407841, hnu407842, hFx407843, hr407844, hM407845, hBB407846⟩ := hq407832
    have hk407847 := rSk_of hk407835
    have r407848 : (fI (F407823 q407583) 3).toInt = (fI (F407786 q407583) 3).toInt := by rw [rSk_F hk407847 ht407690 (by decide) (by decide)]
    obtain ⟨nu407849, nu407850, nu407851, nu407852⟩ := hnu407842
    have hT407853 := hk407847.1
    have hs407854 := rSk_tr hs407795 hk407847 (by decide) (by decide) (by decide)
    have r407855 := rSk_F hk407847 ht407689 (by decide) (by decide)
    have ht407856 : rKd γ q407582 10 := rSk_k hk407847 ht407689 (by decide) (by decide)
    have ht407857 : rKd γ q407583 9 := rSk_k hk407847 ht407690 (by decide) (by decide)
    have hf407858 : γ 1 q407583 = f := rSk_1 hk407847 ht407690 (by decide) hf407691
    have ht407859 : rKd γ q407584 2 := rSk_k hk407847 ht407692 (by decide) (by decide)
    have hf407860 : γ 1 q407584 = f := rSk_1 hk407847 ht407692 (by decide) hf407693
    have ht407861 : rKd γ q407798 3 := rSk_k hk407847 ht407802 (by decide) (by decide)
    have hf407862 : γ 1 q407798 = f := rSk_1 hk407847 ht407802 (by decide) hf407811
    have mk407863 : mKp (F407581 q407582) (F407823 q407582) := mKp_tr mk407791 (mKp_eq (rSk_F hk407847 ht407689 (by decide) (by decide)))
    have r407864 := (rSk_s hk407847 ht407690 (by decide)).2.1
    have r407865 := hot407839 _ (by rw [rc407822.2.1]; decide) (fun q => by rw [q, show _ = 3 from ht407802] at rc407822; exact absurd rc407822.2.1 (by decide))
    have r407866 : jx407587 < γ 2 (γ 14 q407583) := by rw [r407864, r407865.1]; exact r407697
    have r407867 : el (γ 14 q407583) jx407587 = q407584 := by rw [r407864, r407865.2]; exact r407698
    clear bp407760 bp407761 bp407764 bp407765 bp407766 bp407762 bp407763 bp407800 bp407801 r407809 r407810 rg407819 rm407820 bd407821 rc407822 r407825 r407826
    clear r407767 r407768 r407769
    have r407868 : 0 < γ 6 (γ 1 q407583) := by rw [hf407858]; omega
    have hm407869 : q407582 ∈ P407829 := RS_m hT407853 ht407856 (by decide)
    obtain ⟨q407871, q407872, p407873, p407874, p407875, p407876, p407877, p407878, p407879, p407880, p407881, p407882, p407883, p407884, p407885, p407886, p407887, he407870, hB407914, ht407888, ht407889, ht407890, ht407891, ht407892, ht407893, ht407894, ht407895, ht407896, ht407897, ht407898, ht407899, ht407900, ht407901, ht407902, ht407903, ht407904, ht407905, ht407906, ht407907, ht407908, ht407909, ht407910, ht407911, hB407915⟩ := show rk_10 γ (F407823 q407582) from RS_o hT407853 ht407856
    have r407916 : p407875.toInt = p407706.toInt := by have z : p407875 = p407706 := congrArg (fun e => fI e 11) (he407870.symm.trans (r407855.trans he407789)); rw [z]
    have bp407875 : gB p407875 0 100 := (hB407914.2.2.1)
    have r407917 : p407878.toInt = p407709.toInt := by have z : p407878 = p407709 := congrArg (fun e => fI e 14) (he407870.symm.trans (r407855.trans he407789)); rw [z]
    have bp407878 : gB p407878 0 2000 := (hB407914.2.2.2.1)
    have bp407878' : gB p407878 0 1999 := ⟨by omega, by omega⟩
    have ht407918 : rKd γ q407657 1 := x0407836
    have hB407919 : rBd γ el f B := hBB407846 B hB407753
    have hph407920 : rPh γ0 el0 f ≤ rPh γ el f := rm_ph hph407756 hr407844.2
    have pk407921 : rPh γ el f ≤ 387 * B + 6000 := rm_pk (rM_ge hT407853 ht407857 hf407858).1 (rM_bd hB407919)
    refine G_widen (cs' := ((rPh γ el f - rPh γ0 el0 f) / 18)) (sl' := (rPh γ el f - rPh γ0 el0 f)) (rm_wc hph407756 hr407844.1) (rm_ws hph407756 hr407844.2) ?_
    have he407922 : F407823 q407657 = .inr (20, [.int 21, .int p407709, .int p407762, .int p407763, .int p407586, .int p407765, .int p407766]) := hFx407843.trans he407790
    have hm407923 : q407657 ∈ P407829 := RS_m hT407853 ht407918 (by decide)
    have r407924 : γ 14 q407584 = q407798 := ((rSk_s (rSk_of hk407835) ht407692 (by decide)).2.1).trans ht407808.1
    have sz407925 : γ 2 (γ 14 q407584) = γ 2 q407798 := by rw [r407924]
    refine G_aload_n 1 dr_cX17_load_51 rfl ?_
    refine G_dup dr_cX17_load_52 rfl ?_
    refine Gp_get 14 hm407869 he407870 dr_cX17_load_53 (gk_X17 D I) (Nat.le_of_ble_eq_true rfl) wr_7_88 rfl ?_
    refine G_iconst 1 dr_cX17_load_56 (by decide +kernel) ?_
    refine G_iadd dr_cX17_load_57 (G_nam fun z407926 hz407926 => ?_)
    have ez407926 : z407926.toInt = p407878.toInt + 1 := by rw [gI_add hz407926 bp407878' (gBl (show Int32.toInt 1 = 1 by decide)) (by decide) (by decide), show Int32.toInt 1 = 1 from by decide]
    have bz407926 : gB z407926 1 2000 := gB_add (gI_add hz407926 bp407878' (gBl (show Int32.toInt 1 = 1 by decide)) (by decide) (by decide)) bp407878' (gBl (show Int32.toInt 1 = 1 by decide)) (by decide) (by decide)
    refine Gp_put 14 hm407869 he407870 dr_cX17_load_58 (gk_X17 D I) (Nat.le_of_ble_eq_true rfl) wr_7_88 rfl rfl rfl (Nat.le_of_ble_eq_true rfl) (fun F407927 e407928 n407929 => ?_)
    have he407930 : F407927 q407657 = .inr (20, [.int 21, .int p407709, .int p407762, .int p407763, .int p407586, .int p407765, .int p407766]) := (n407929 q407657 (rn_oo he407922 he407870 (by decide))).trans he407922
    have he407931 : F407927 q407582 = .inr (22, [.ref (γ 9 0), .ref (γ 9 1), .ref (γ 9 2), .ref (γ 9 3), .ref (γ 9 4), .ref (γ 9 5), .ref (γ 9 6), .ref (γ 9 7), .ref (γ 9 8), .int p407873, .int p407874, .int p407875, .int p407876, .int p407877, .int z407926, .ref (γ 9 15), .ref (γ 9 16), .ref (γ 9 17), .ref (γ 9 18), .ref (γ 9 19), .ref (γ 9 20), .ref (γ 9 21), .ref (γ 9 22), .int p407879, .int p407880, .int p407881, .int p407882, .int p407883, .ref q407871, .ref (γ 9 29), .int p407884, .ref (γ 9 31), .int p407885, .int p407886, .int p407887, .ref q407872]) := e407928
    have mk407932 : mKp (F407581 q407582) (F407927 q407582) := mKp_tr mk407863 (by rw [he407870, he407931]; exact ⟨rfl, rfl⟩)
    have hT407933 : RS D I P407829 F407927 γ el := RS_set hT407853 n407929 ht407856 (by decide) ⟨q407871, q407872, p407873, p407874, p407875, p407876, p407877, z407926, p407879, p407880, p407881, p407882, p407883, p407884, p407885, p407886, p407887, he407931, ⟨(hB407914.1), (hB407914.2.1), bp407875, (gB_w bz407926 (by decide) (by decide)), (hB407914.2.2.2.2.1), (hB407914.2.2.2.2.2.1), (hB407914.2.2.2.2.2.2.1), (hB407914.2.2.2.2.2.2.2.1), (hB407914.2.2.2.2.2.2.2.2)⟩, ht407888, ht407889, ht407890, ht407891, ht407892, ht407893, ht407894, ht407895, ht407896, ht407897, ht407898, ht407899, ht407900, ht407901, ht407902, ht407903, ht407904, ht407905, ht407906, ht407907, ht407908, ht407909, ht407910, ht407911, hB407915⟩
    have hs407935 := rSk_put hs407854 hT407933 n407929 ht407856 (by decide) (by decide)
    have pr407936 := fun (R R' : Nat → Nat → va_E → Prop) hN h1 h2 h3 h4 => rPl_fr (R := R') hT407853 ht407857 hf407858 (pr407833 R R' hN h1 h2 h3 h4) (fun b hb _ => n407929 b (rn_ty (show rKd γ b 1 from hb) ht407856 (by decide)))
    refine G_aload 0 dr_cX17_load_61 rfl ?_
    refine Gp_get 1 hm407923 he407930 dr_cX17_load_63 (gk_X15 D I) (Nat.le_of_ble_eq_true rfl) wr_9_182 rfl ?_
    have ac407937 : (fI (F407927 q407582) 11).toInt = p407875.toInt := by rw [he407931]; rfl
    have ac407938 : (fI (F407927 q407582) 14).toInt = z407926.toInt := by rw [he407931]; rfl
    exact G_iretA dr_cX17_load_66 rfl (show ((rPh γ el f - rPh γ0 el0 f) / 18) ≤ (((387 * B + 6000) - rPh γ0 el0 f) / 18) by omega) (show (rPh γ el f - rPh γ0 el0 f) ≤ ((387 * B + 6000) - rPh γ0 el0 f) by omega) ⟨P407829, F407927, γ, el, p407709, rfl, rfl, hs407935, ⟨by omega, by omega⟩, hB407919, (gB_w bp407709' (by decide) (by decide)), (by omega), (by omega), (by omega), ⟨(rSk_s hs407935 hzq407584 (by decide)).2.1, r407866, r407867⟩, (Or.inr ⟨by omega, by omega, by omega, by omega, by omega⟩), (by omega), (Or.inr pr407936), (Or.inr ai407834), mk407932⟩
  · have r407939 : p407611.toInt = 2000 := gj_eq hc407649 (show Int32.toInt 2000 = 2000 by decide)
    have bp407611' : gB p407611 2000 2000 := ⟨by omega, by omega⟩
    have ac407940 : (fI (F407581 q407582) 11).toInt = p407608.toInt := by rw [he407603]; rfl
    have ac407941 : (fI (F407581 q407582) 14).toInt = p407611.toInt := by rw [he407603]; rfl
    refine G_iconst (-1) dr_cX17_load_10 (by decide +kernel) ?_
    exact G_iretA dr_cX17_load_11 rfl (show ((rPh γ el f - rPh γ0 el0 f) / 18) ≤ (((387 * B + 6000) - rPh γ0 el0 f) / 18) by omega) (show (rPh γ el f - rPh γ0 el0 f) ≤ ((387 * B + 6000) - rPh γ0 el0 f) by omega) ⟨P407580, F407581, γ, el, (-1), rfl, rfl, hst, ⟨by omega, by omega⟩, hB, (gB_w (gBl (show Int32.toInt (-1) = (-1) by decide)) (by decide) (by decide)), (by have qa0 : Int32.toInt (-1) = (-1) := (by decide); omega), (by have qa0 : Int32.toInt (-1) = (-1) := (by decide); omega), (by have qa0 : Int32.toInt (-1) = (-1) := (by decide); omega), ⟨(rSk_s hst hzq407584 (by decide)).2.1, hpjjx407587, hpejx407587⟩, (Or.inl (by decide)), (by have qa0 : Int32.toInt (-1) = (-1) := (by decide); omega), (Or.inl (by decide)), (Or.inl (by decide)), mKp_rf⟩
/- tr_RRow_usesA3: result -/
def tr_RRow_usesA3 (a0_op : Int32) (a0_regA : Int32) (o1 : Int32) : Prop := ∀ R : (Int32) → Prop,
  (a0_op.toInt = 20 → R (0 : Int32)) →
  (a0_op.toInt ≠ 20 → a0_op.toInt = 21 → R (0 : Int32)) →
  (a0_op.toInt ≠ 20 → a0_op.toInt ≠ 21 → a0_op.toInt = 30 → R (0 : Int32)) →
  (a0_op.toInt ≠ 20 → a0_op.toInt ≠ 21 → a0_op.toInt ≠ 30 → a0_regA.toInt = 0 → R (0 : Int32)) →
  (a0_op.toInt ≠ 20 → a0_op.toInt ≠ 21 → a0_op.toInt ≠ 30 → a0_regA.toInt ≠ 0 → R (1 : Int32)) →
  R o1
abbrev ky_407955_Row_usesA : gKey := (cX15_usesA, 1, "SpillForgeModel$Row", (some FieldType.boolean), [], "usesA", fun _ _ => True)
def pp_407955_Row_usesA (D : va_G) (I : FieldType → ClassId) (P407945 : List Nat) (F407946 : Nat → va_E) (q407947 : Nat) (p407948 : Int32) (p407949 : Int32) (p407950 : Int32) (p407951 : Int32) (p407952 : Int32) (p407953 : Int32) (p407954 : Int32) : Option Value → va_W → Nat → Nat → Prop := fun r w dc ds => ∃ (o407968 : Int32), r = some (.int o407968) ∧ w = va_pl P407945 F407946 ∧ dc ≤ 0 ∧ ds ≤ 0 ∧ gB o407968 0 1 ∧ (uA o407968.toInt p407948.toInt p407953.toInt) ∧ tr_RRow_usesA3 p407948 p407953 o407968
set_option maxRecDepth 100000 in
set_option maxHeartbeats 4000000 in
theorem cp_407955_Row_usesA (l : Launch) (hl0 : l.stackTraces = false) (D : va_G) (I : FieldType → ClassId) (P407945 : List Nat) (F407946 : Nat → va_E) (q407947 : Nat) (p407948 : Int32) (p407949 : Int32) (p407950 : Int32) (p407951 : Int32) (p407952 : Int32) (p407953 : Int32) (p407954 : Int32) (hmq407947 : q407947 ∈ P407945) (heq407947 : F407946 q407947 = .inr (20, [.int p407948, .int p407949, .int p407950, .int p407951, .int p407952, .int p407953, .int p407954])) (bp407948 : gB p407948 0 32) (bp407949 : gB p407949 0 1999) (bp407952 : gB p407952 0 1999) (bp407953 : gB p407953 0 1) (bp407954 : gB p407954 0 1) : CtA (gV D I) l yX15_usesA cX15_usesA 1 (some FieldType.boolean) 0 0 0 0 [.ref q407947] (va_pl P407945 F407946) (pp_407955_Row_usesA D I P407945 F407946 q407947 p407948 p407949 p407950 p407951 p407952 p407953 p407954) gNA := by
  refine CtA_of hl0 (by decide) (Nat.le_of_ble_eq_true rfl) ?_
  have bp407950 := gB_any p407950
  have bp407951 := gB_any p407951
  refine G_aload_n 0 dr_cX15_usesA_0 rfl ?_
  refine Gp_get 0 hmq407947 heq407947 dr_cX15_usesA_1 (gk_X15 D I) (Nat.le_of_ble_eq_true rfl) wr_9_175 rfl ?_
  refine G_bipush 20 dr_cX15_usesA_4 (by decide +kernel) ?_
  refine G_icmp_eq 38 dr_cX15_usesA_6 (by decide +kernel) (fun hc407956 => ?_) (fun hc407956 => ?_)
  · have r407957 : p407948.toInt = 20 := gj_eq hc407956 (show Int32.toInt 20 = 20 by decide)
    have bp407948' : gB p407948 20 20 := ⟨by omega, by omega⟩
    refine G_iconst 0 dr_cX15_usesA_38 (by decide +kernel) ?_
    exact G_zretA FieldType.boolean dr_cX15_usesA_39 rfl rfl (Nat.le_of_ble_eq_true rfl) (Nat.le_of_ble_eq_true rfl) ⟨0, rfl, rfl, (Nat.le_of_ble_eq_true rfl), (Nat.le_of_ble_eq_true rfl), (gB_w (gBl (show Int32.toInt 0 = 0 by decide)) (by decide) (by decide)), (by unfold uA; first | omega | (have qa0 : Int32.toInt 0 = 0 := (by decide); have qa1 : Int32.toInt 1 = 1 := (by decide); omega)), (fun R c1 c2 c3 c4 c5 => c1 r407957)⟩
  · have r407958 : p407948.toInt ≠ 20 := gj_neq hc407956 (show Int32.toInt 20 = 20 by decide)
    refine G_aload_n 0 dr_cX15_usesA_9 rfl ?_
    refine Gp_get 0 hmq407947 heq407947 dr_cX15_usesA_10 (gk_X15 D I) (Nat.le_of_ble_eq_true rfl) wr_9_175 rfl ?_
    refine G_bipush 21 dr_cX15_usesA_13 (by decide +kernel) ?_
    refine G_icmp_eq 38 dr_cX15_usesA_15 (by decide +kernel) (fun hc407959 => ?_) (fun hc407959 => ?_)
    · have r407960 : p407948.toInt = 21 := gj_eq hc407959 (show Int32.toInt 21 = 21 by decide)
      have bp407948' : gB p407948 21 21 := ⟨by omega, by omega⟩
      refine G_iconst 0 dr_cX15_usesA_38 (by decide +kernel) ?_
      exact G_zretA FieldType.boolean dr_cX15_usesA_39 rfl rfl (Nat.le_of_ble_eq_true rfl) (Nat.le_of_ble_eq_true rfl) ⟨0, rfl, rfl, (Nat.le_of_ble_eq_true rfl), (Nat.le_of_ble_eq_true rfl), (gB_w (gBl (show Int32.toInt 0 = 0 by decide)) (by decide) (by decide)), (by unfold uA; first | omega | (have qa0 : Int32.toInt 0 = 0 := (by decide); have qa1 : Int32.toInt 1 = 1 := (by decide); omega)), (fun R c1 c2 c3 c4 c5 => c2 r407958 r407960)⟩
    · have r407961 : p407948.toInt ≠ 21 := gj_neq hc407959 (show Int32.toInt 21 = 21 by decide)
      refine G_aload_n 0 dr_cX15_usesA_18 rfl ?_
      refine Gp_get 0 hmq407947 heq407947 dr_cX15_usesA_19 (gk_X15 D I) (Nat.le_of_ble_eq_true rfl) wr_9_175 rfl ?_
      refine G_bipush 30 dr_cX15_usesA_22 (by decide +kernel) ?_
      refine G_icmp_eq 38 dr_cX15_usesA_24 (by decide +kernel) (fun hc407962 => ?_) (fun hc407962 => ?_)
      · have r407963 : p407948.toInt = 30 := gj_eq hc407962 (show Int32.toInt 30 = 30 by decide)
        have bp407948' : gB p407948 30 30 := ⟨by omega, by omega⟩
        refine G_iconst 0 dr_cX15_usesA_38 (by decide +kernel) ?_
        exact G_zretA FieldType.boolean dr_cX15_usesA_39 rfl rfl (Nat.le_of_ble_eq_true rfl) (Nat.le_of_ble_eq_true rfl) ⟨0, rfl, rfl, (Nat.le_of_ble_eq_true rfl), (Nat.le_of_ble_eq_true rfl), (gB_w (gBl (show Int32.toInt 0 = 0 by decide)) (by decide) (by decide)), (by unfold uA; first | omega | (have qa0 : Int32.toInt 0 = 0 := (by decide); have qa1 : Int32.toInt 1 = 1 := (by decide); omega)), (fun R c1 c2 c3 c4 c5 => c3 r407958 r407961 r407963)⟩
      · have r407964 : p407948.toInt ≠ 30 := gj_neq hc407962 (show Int32.toInt 30 = 30 by decide)
        refine G_aload_n 0 dr_cX15_usesA_27 rfl ?_
        refine Gp_get 5 hmq407947 heq407947 dr_cX15_usesA_28 (gk_X15 D I) (Nat.le_of_ble_eq_true rfl) wr_9_195 rfl ?_
        refine G_if_eq 38 dr_cX15_usesA_31 (by decide +kernel) (fun hc407965 => ?_) (fun hc407965 => ?_)
        · have r407966 : p407953.toInt = 0 := gj_eq hc407965 (show Int32.toInt 0 = 0 by decide)
          have bp407953' : gB p407953 0 0 := ⟨by omega, by omega⟩
          refine G_iconst 0 dr_cX15_usesA_38 (by decide +kernel) ?_
          exact G_zretA FieldType.boolean dr_cX15_usesA_39 rfl rfl (Nat.le_of_ble_eq_true rfl) (Nat.le_of_ble_eq_true rfl) ⟨0, rfl, rfl, (Nat.le_of_ble_eq_true rfl), (Nat.le_of_ble_eq_true rfl), (gB_w (gBl (show Int32.toInt 0 = 0 by decide)) (by decide) (by decide)), (by unfold uA; first | omega | (have qa0 : Int32.toInt 0 = 0 := (by decide); have qa1 : Int32.toInt 1 = 1 := (by decide); omega)), (fun R c1 c2 c3 c4 c5 => c4 r407958 r407961 r407964 r407966)⟩
        · have r407967 : p407953.toInt ≠ 0 := gj_neq hc407965 (show Int32.toInt 0 = 0 by decide)
          have bp407953' : gB p407953 1 1 := ⟨by omega, by omega⟩
          refine G_iconst 1 dr_cX15_usesA_34 (by decide +kernel) ?_
          refine G_goto 39 dr_cX15_usesA_35 (by decide +kernel) ?_
          exact G_zretA FieldType.boolean dr_cX15_usesA_39 rfl rfl (Nat.le_of_ble_eq_true rfl) (Nat.le_of_ble_eq_true rfl) ⟨1, rfl, rfl, (Nat.le_of_ble_eq_true rfl), (Nat.le_of_ble_eq_true rfl), (gB_w (gBl (show Int32.toInt 1 = 1 by decide)) (by decide) (by decide)), (by unfold uA; first | omega | (have qa0 : Int32.toInt 0 = 0 := (by decide); have qa1 : Int32.toInt 1 = 1 := (by decide); omega)), (fun R c1 c2 c3 c4 c5 => c5 r407958 r407961 r407964 r407967)⟩
/- tr_RRow_usesB3: result -/
def tr_RRow_usesB3 (a0_op : Int32) (a0_regB : Int32) (o1 : Int32) : Prop := ∀ R : (Int32) → Prop,
  (a0_op.toInt ≤ 0 → R (0 : Int32)) →
  (0 < a0_op.toInt → 20 ≤ a0_op.toInt → R (0 : Int32)) →
  (0 < a0_op.toInt → a0_op.toInt < 20 → a0_regB.toInt = 0 → R (0 : Int32)) →
  (0 < a0_op.toInt → a0_op.toInt < 20 → a0_regB.toInt ≠ 0 → R (1 : Int32)) →
  R o1
abbrev ky_407979_Row_usesB : gKey := (cX15_usesB, 1, "SpillForgeModel$Row", (some FieldType.boolean), [], "usesB", fun _ _ => True)
def pp_407979_Row_usesB (D : va_G) (I : FieldType → ClassId) (P407969 : List Nat) (F407970 : Nat → va_E) (q407971 : Nat) (p407972 : Int32) (p407973 : Int32) (p407974 : Int32) (p407975 : Int32) (p407976 : Int32) (p407977 : Int32) (p407978 : Int32) : Option Value → va_W → Nat → Nat → Prop := fun r w dc ds => ∃ (o407989 : Int32), r = some (.int o407989) ∧ w = va_pl P407969 F407970 ∧ dc ≤ 0 ∧ ds ≤ 0 ∧ gB o407989 0 1 ∧ (uB o407989.toInt p407972.toInt p407978.toInt) ∧ tr_RRow_usesB3 p407972 p407978 o407989
set_option maxRecDepth 100000 in
set_option maxHeartbeats 4000000 in
theorem cp_407979_Row_usesB (l : Launch) (hl0 : l.stackTraces = false) (D : va_G) (I : FieldType → ClassId) (P407969 : List Nat) (F407970 : Nat → va_E) (q407971 : Nat) (p407972 : Int32) (p407973 : Int32) (p407974 : Int32) (p407975 : Int32) (p407976 : Int32) (p407977 : Int32) (p407978 : Int32) (hmq407971 : q407971 ∈ P407969) (heq407971 : F407970 q407971 = .inr (20, [.int p407972, .int p407973, .int p407974, .int p407975, .int p407976, .int p407977, .int p407978])) (bp407972 : gB p407972 0 32) (bp407973 : gB p407973 0 1999) (bp407976 : gB p407976 0 1999) (bp407977 : gB p407977 0 1) (bp407978 : gB p407978 0 1) : CtA (gV D I) l yX15_usesB cX15_usesB 1 (some FieldType.boolean) 0 0 0 0 [.ref q407971] (va_pl P407969 F407970) (pp_407979_Row_usesB D I P407969 F407970 q407971 p407972 p407973 p407974 p407975 p407976 p407977 p407978) gNA := by
  refine CtA_of hl0 (by decide) (Nat.le_of_ble_eq_true rfl) ?_
  have bp407974 := gB_any p407974
  have bp407975 := gB_any p407975
  refine G_aload_n 0 dr_cX15_usesB_0 rfl ?_
  refine Gp_get 0 hmq407971 heq407971 dr_cX15_usesB_1 (gk_X15 D I) (Nat.le_of_ble_eq_true rfl) wr_9_175 rfl ?_
  refine G_if_le 27 dr_cX15_usesB_4 (by decide +kernel) (fun hc407980 => ?_) (fun hc407980 => ?_)
  · have r407981 : p407972.toInt ≤ 0 := gj_le hc407980 (show Int32.toInt 0 = 0 by decide)
    have bp407972' : gB p407972 0 0 := ⟨by omega, by omega⟩
    refine G_iconst 0 dr_cX15_usesB_27 (by decide +kernel) ?_
    exact G_zretA FieldType.boolean dr_cX15_usesB_28 rfl rfl (Nat.le_of_ble_eq_true rfl) (Nat.le_of_ble_eq_true rfl) ⟨0, rfl, rfl, (Nat.le_of_ble_eq_true rfl), (Nat.le_of_ble_eq_true rfl), (gB_w (gBl (show Int32.toInt 0 = 0 by decide)) (by decide) (by decide)), (by unfold uB; first | omega | (have qa0 : Int32.toInt 0 = 0 := (by decide); have qa1 : Int32.toInt 1 = 1 := (by decide); omega)), (fun R c1 c2 c3 c4 => c1 r407981)⟩
  · have r407982 : 0 < p407972.toInt := gj_nle hc407980 (show Int32.toInt 0 = 0 by decide)
    have bp407972' : gB p407972 1 32 := ⟨by omega, by omega⟩
    refine G_aload_n 0 dr_cX15_usesB_7 rfl ?_
    refine Gp_get 0 hmq407971 heq407971 dr_cX15_usesB_8 (gk_X15 D I) (Nat.le_of_ble_eq_true rfl) wr_9_175 rfl ?_
    refine G_bipush 20 dr_cX15_usesB_11 (by decide +kernel) ?_
    refine G_icmp_ge 27 dr_cX15_usesB_13 (by decide +kernel) (fun hc407983 => ?_) (fun hc407983 => ?_)
    · have r407984 : 20 ≤ p407972.toInt := gj_leL hc407983 (show Int32.toInt 20 = 20 by decide)
      have bp407972'' : gB p407972 20 32 := ⟨by omega, by omega⟩
      refine G_iconst 0 dr_cX15_usesB_27 (by decide +kernel) ?_
      exact G_zretA FieldType.boolean dr_cX15_usesB_28 rfl rfl (Nat.le_of_ble_eq_true rfl) (Nat.le_of_ble_eq_true rfl) ⟨0, rfl, rfl, (Nat.le_of_ble_eq_true rfl), (Nat.le_of_ble_eq_true rfl), (gB_w (gBl (show Int32.toInt 0 = 0 by decide)) (by decide) (by decide)), (by unfold uB; first | omega | (have qa0 : Int32.toInt 0 = 0 := (by decide); have qa1 : Int32.toInt 1 = 1 := (by decide); omega)), (fun R c1 c2 c3 c4 => c2 r407982 r407984)⟩
    · have r407985 : p407972.toInt < 20 := gj_nleL hc407983 (show Int32.toInt 20 = 20 by decide)
      have bp407972'' : gB p407972 1 19 := ⟨by omega, by omega⟩
      refine G_aload_n 0 dr_cX15_usesB_16 rfl ?_
      refine Gp_get 6 hmq407971 heq407971 dr_cX15_usesB_17 (gk_X15 D I) (Nat.le_of_ble_eq_true rfl) wr_9_199 rfl ?_
      refine G_if_eq 27 dr_cX15_usesB_20 (by decide +kernel) (fun hc407986 => ?_) (fun hc407986 => ?_)
      · have r407987 : p407978.toInt = 0 := gj_eq hc407986 (show Int32.toInt 0 = 0 by decide)
        have bp407978' : gB p407978 0 0 := ⟨by omega, by omega⟩
        refine G_iconst 0 dr_cX15_usesB_27 (by decide +kernel) ?_
        exact G_zretA FieldType.boolean dr_cX15_usesB_28 rfl rfl (Nat.le_of_ble_eq_true rfl) (Nat.le_of_ble_eq_true rfl) ⟨0, rfl, rfl, (Nat.le_of_ble_eq_true rfl), (Nat.le_of_ble_eq_true rfl), (gB_w (gBl (show Int32.toInt 0 = 0 by decide)) (by decide) (by decide)), (by unfold uB; first | omega | (have qa0 : Int32.toInt 0 = 0 := (by decide); have qa1 : Int32.toInt 1 = 1 := (by decide); omega)), (fun R c1 c2 c3 c4 => c3 r407982 r407985 r407987)⟩
      · have r407988 : p407978.toInt ≠ 0 := gj_neq hc407986 (show Int32.toInt 0 = 0 by decide)
        have bp407978' : gB p407978 1 1 := ⟨by omega, by omega⟩
        refine G_iconst 1 dr_cX15_usesB_23 (by decide +kernel) ?_
        refine G_goto 28 dr_cX15_usesB_24 (by decide +kernel) ?_
        exact G_zretA FieldType.boolean dr_cX15_usesB_28 rfl rfl (Nat.le_of_ble_eq_true rfl) (Nat.le_of_ble_eq_true rfl) ⟨1, rfl, rfl, (Nat.le_of_ble_eq_true rfl), (Nat.le_of_ble_eq_true rfl), (gB_w (gBl (show Int32.toInt 1 = 1 by decide)) (by decide) (by decide)), (by unfold uB; first | omega | (have qa0 : Int32.toInt 0 = 0 := (by decide); have qa1 : Int32.toInt 1 = 1 := (by decide); omega)), (fun R c1 c2 c3 c4 => c4 r407982 r407985 r407988)⟩
/- tr_RRow_sets3: result -/
def tr_RRow_sets3 (a0_op : Int32) (o1 : Int32) : Prop := ∀ R : (Int32) → Prop,
  (21 < a0_op.toInt → R (0 : Int32)) →
  (a0_op.toInt ≤ 21 → R (1 : Int32)) →
  R o1
abbrev ky_408000_Row_sets : gKey := (cX15_sets, 1, "SpillForgeModel$Row", (some FieldType.boolean), [], "sets", fun _ _ => True)
def pp_408000_Row_sets (D : va_G) (I : FieldType → ClassId) (P407990 : List Nat) (F407991 : Nat → va_E) (q407992 : Nat) (p407993 : Int32) (p407994 : Int32) (p407995 : Int32) (p407996 : Int32) (p407997 : Int32) (p407998 : Int32) (p407999 : Int32) : Option Value → va_W → Nat → Nat → Prop := fun r w dc ds => ∃ (o408004 : Int32), r = some (.int o408004) ∧ w = va_pl P407990 F407991 ∧ dc ≤ 0 ∧ ds ≤ 0 ∧ gB o408004 0 1 ∧ (uS o408004.toInt p407993.toInt) ∧ tr_RRow_sets3 p407993 o408004
set_option maxRecDepth 100000 in
set_option maxHeartbeats 4000000 in
theorem cp_408000_Row_sets (l : Launch) (hl0 : l.stackTraces = false) (D : va_G) (I : FieldType → ClassId) (P407990 : List Nat) (F407991 : Nat → va_E) (q407992 : Nat) (p407993 : Int32) (p407994 : Int32) (p407995 : Int32) (p407996 : Int32) (p407997 : Int32) (p407998 : Int32) (p407999 : Int32) (hmq407992 : q407992 ∈ P407990) (heq407992 : F407991 q407992 = .inr (20, [.int p407993, .int p407994, .int p407995, .int p407996, .int p407997, .int p407998, .int p407999])) (bp407993 : gB p407993 0 32) (bp407994 : gB p407994 0 1999) (bp407997 : gB p407997 0 1999) (bp407998 : gB p407998 0 1) (bp407999 : gB p407999 0 1) : CtA (gV D I) l yX15_sets cX15_sets 1 (some FieldType.boolean) 0 0 0 0 [.ref q407992] (va_pl P407990 F407991) (pp_408000_Row_sets D I P407990 F407991 q407992 p407993 p407994 p407995 p407996 p407997 p407998 p407999) gNA := by
  refine CtA_of hl0 (by decide) (Nat.le_of_ble_eq_true rfl) ?_
  have bp407995 := gB_any p407995
  have bp407996 := gB_any p407996
  refine G_aload_n 0 dr_cX15_sets_0 rfl ?_
  refine Gp_get 0 hmq407992 heq407992 dr_cX15_sets_1 (gk_X15 D I) (Nat.le_of_ble_eq_true rfl) wr_9_175 rfl ?_
  refine G_bipush 21 dr_cX15_sets_4 (by decide +kernel) ?_
  refine G_icmp_gt 13 dr_cX15_sets_6 (by decide +kernel) (fun hc408001 => ?_) (fun hc408001 => ?_)
  · have r408002 : 21 < p407993.toInt := gj_ltL hc408001 (show Int32.toInt 21 = 21 by decide)
    have bp407993' : gB p407993 22 32 := ⟨by omega, by omega⟩
    refine G_iconst 0 dr_cX15_sets_13 (by decide +kernel) ?_
    exact G_zretA FieldType.boolean dr_cX15_sets_14 rfl rfl (Nat.le_of_ble_eq_true rfl) (Nat.le_of_ble_eq_true rfl) ⟨0, rfl, rfl, (Nat.le_of_ble_eq_true rfl), (Nat.le_of_ble_eq_true rfl), (gB_w (gBl (show Int32.toInt 0 = 0 by decide)) (by decide) (by decide)), (by unfold uS; first | omega | (have qa0 : Int32.toInt 0 = 0 := (by decide); have qa1 : Int32.toInt 1 = 1 := (by decide); omega)), (fun R c1 c2 => c1 r408002)⟩
  · have r408003 : p407993.toInt ≤ 21 := gj_nltL hc408001 (show Int32.toInt 21 = 21 by decide)
    have bp407993' : gB p407993 0 21 := ⟨by omega, by omega⟩
    refine G_iconst 1 dr_cX15_sets_9 (by decide +kernel) ?_
    refine G_goto 14 dr_cX15_sets_10 (by decide +kernel) ?_
    exact G_zretA FieldType.boolean dr_cX15_sets_14 rfl rfl (Nat.le_of_ble_eq_true rfl) (Nat.le_of_ble_eq_true rfl) ⟨1, rfl, rfl, (Nat.le_of_ble_eq_true rfl), (Nat.le_of_ble_eq_true rfl), (gB_w (gBl (show Int32.toInt 1 = 1 by decide)) (by decide) (by decide)), (by unfold uS; first | omega | (have qa0 : Int32.toInt 0 = 0 := (by decide); have qa1 : Int32.toInt 1 = 1 := (by decide); omega)), (fun R c1 c2 => c2 r408003)⟩
/- tl_RModel_findDepth2_342: F, l4; out: F -/
def tl_RModel_findDepth2_342 (D : va_G) (I : FieldType → ClassId) (γ el : Nat → Nat → Nat) (P : List Nat) (F : Nat → va_E) (q0 : Nat) (q1 : Nat) (s1 : Nat → va_E) (s2 : Int32) (k : Nat) (e1 : Nat → va_E) : Prop := ∀ R : (Nat → va_E) → (Int32) → Nat → (Nat → va_E) → Prop,
  (∀ (F_1 : Nat → va_E) (l4_1 : Int32) (x1 : Int32), gB l4_1 0 1000000 → RS D I P F_1 γ el → rStr γ [] F F_1 → (F_1 q0 = F q0) → (F_1 (γ 9 3) = F (γ 9 3)) → fI (F_1 q1) 3 = x1 → x1.toInt ≤ l4_1.toInt → R F_1 l4_1 375 F_1) →
  (∀ (F_1 : Nat → va_E) (l4_1 : Int32) (x1 : Int32) (x2 : Nat → Int32) (x3 : Int32) (x4 : Int32) (x5 : Nat → Int32) (x6 : Nat → va_E) (x7 : Int32) (k : Nat) (e1 : Nat → va_E), gB l4_1 0 1000000 → RS D I P F_1 γ el → rStr γ [] F F_1 → (F_1 q0 = F q0) → (F_1 (γ 9 3) = F (γ 9 3)) → fI (F_1 q1) 3 = x1 → l4_1.toInt < x1.toInt → fR (F_1 q0) 4 = (γ 9 4) → F_1 (γ 9 4) = .inl (I .int, 40, .inl x2) → x3 = x2 l4_1.toNatClampNeg → (x3.toInt ≥ x4.toInt ∧ 4 ≥ x4.toInt ∧ (x4.toInt = x3.toInt ∨ x4.toInt = 4)) → x5 = upd x2 l4_1.toNatClampNeg x4 → (∀ b, b ≠ (γ 9 4) → x6 b = F_1 b) → x6 (γ 9 4) = .inl (I .int, 40, .inl x5) → x7.toInt = l4_1.toInt + 1 → R x6 x7 k e1 → R F_1 l4_1 k e1) →
  R s1 s2 k e1
/- tl_RModel_findDepth2_300: F, l10; out: F -/
def tl_RModel_findDepth2_300 (D : va_G) (I : FieldType → ClassId) (γ el : Nat → Nat → Nat) (P : List Nat) (F : Nat → va_E) (q0 : Nat) (q1 : Nat) (l7_2 : Int64) (s1 : Nat → va_E) (s2 : Int32) (k : Nat) (e1 : Nat → va_E) : Prop := ∀ R : (Nat → va_E) → (Int32) → Nat → (Nat → va_E) → Prop,
  (∀ (F_2 : Nat → va_E) (l10_2 : Int32) (x1 : Int32), gB l10_2 0 1000000 → RS D I P F_2 γ el → rStr γ [] F F_2 → (F_2 q0 = F q0) → (F_2 (γ 9 3) = F (γ 9 3)) → fI (F_2 q1) 3 = x1 → x1.toInt ≤ l10_2.toInt → R F_2 l10_2 333 F_2) →
  (∀ (F_2 : Nat → va_E) (l10_2 : Int32) (x1 : Int32) (x2 : Nat → Int32) (x3 : Int32) (x4 : Int64) (x5 : Int64) (x6 : Int32) (x7 : Int32) (x8 : Nat → Int32) (x9 : Nat → va_E) (x10 : Int32) (k : Nat) (e1 : Nat → va_E), gB l10_2 0 1000000 → RS D I P F_2 γ el → rStr γ [] F F_2 → (F_2 q0 = F q0) → (F_2 (γ 9 3) = F (γ 9 3)) → fI (F_2 q1) 3 = x1 → l10_2.toInt < x1.toInt → fR (F_2 q0) 4 = (γ 9 4) → F_2 (γ 9 4) = .inl (I .int, 40, .inl x2) → x3 = x2 l10_2.toNatClampNeg → x4 = (l7_2.toUInt64 >>> (l10_2.toInt64.toUInt64 &&& Int64.toUInt64 63)).toInt64 → x5 = x4 &&& (1 : Int64) → x6 = x5.toInt32 → x7 = x3 + x6 → x8 = upd x2 l10_2.toNatClampNeg x7 → (∀ b, b ≠ (γ 9 4) → x9 b = F_2 b) → x9 (γ 9 4) = .inl (I .int, 40, .inl x8) → x10.toInt = l10_2.toInt + 1 → R x9 x10 k e1 → R F_2 l10_2 k e1) →
  R s1 s2 k e1
/- tl_RModel_findDepth2_199: l12, l11; out: l11 -/
def tl_RModel_findDepth2_199 (D : va_G) (I : FieldType → ClassId) (γ el : Nat → Nat → Nat) (F_1 : Nat → va_E) (q1 : Nat) (l10_3 : Int32) (l4_1 : Int32) (l7_3 : Int64) (s1 : Int32) (s2 : Int32) (k : Nat) (e1 : Int32) : Prop := ∀ R : (Int32) → (Int32) → Nat → (Int32) → Prop,
  (∀ (l12_4 : Int32) (l11_4 : Int32) (x1 : Nat) (x2 : Nat) (x3 : Int32) (x4 : Int32) (x5 : Int32) (x6 : Nat) (x7 : Int32) (x8 : Int32), gB l12_4 0 2 → gB l11_4 0 1 → fR (F_1 q1) 0 = x1 → x2 = el x1 l10_3.toInt.toNat → fI (F_1 x1) 2 = x3 → tr_RCode_get l10_3 x3 → fI (F_1 x2) 2 = x4 → fI (F_1 x2) 3 = x5 → fR (F_1 x2) 1 = x6 → fI (F_1 x6) 0 = x7 → gB x8 0 2 → tr_RBlock_ways x4 x5 x7 x8 → x8.toInt ≤ l12_4.toInt → R l12_4 l11_4 268 l11_4) →
  (∀ (l12_4 : Int32) (l11_4 : Int32) (x1 : Nat) (x2 : Nat) (x3 : Int32) (x4 : Int32) (x5 : Int32) (x6 : Nat) (x7 : Int32) (x8 : Int32) (x9 : Int32) (k : Nat) (e1 : Int32), gB l12_4 0 2 → gB l11_4 0 1 → fR (F_1 q1) 0 = x1 → x2 = el x1 l10_3.toInt.toNat → fI (F_1 x1) 2 = x3 → tr_RCode_get l10_3 x3 → fI (F_1 x2) 2 = x4 → fI (F_1 x2) 3 = x5 → fR (F_1 x2) 1 = x6 → fI (F_1 x6) 0 = x7 → gB x8 0 2 → tr_RBlock_ways x4 x5 x7 x8 → l12_4.toInt < x8.toInt → l11_4.toInt ≠ 0 → x9.toInt = l12_4.toInt + 1 → R x9 (1 : Int32) k e1 → R l12_4 l11_4 k e1) →
  (∀ (l12_4 : Int32) (l11_4 : Int32) (x1 : Nat) (x2 : Nat) (x3 : Int32) (x4 : Int32) (x5 : Int32) (x6 : Nat) (x7 : Int32) (x8 : Int32) (x9 : Int32) (x10 : Int32) (k : Nat) (e1 : Int32), gB l12_4 0 2 → gB l11_4 0 1 → fR (F_1 q1) 0 = x1 → x2 = el x1 l10_3.toInt.toNat → fI (F_1 x1) 2 = x3 → tr_RCode_get l10_3 x3 → fI (F_1 x2) 2 = x4 → fI (F_1 x2) 3 = x5 → fR (F_1 x2) 1 = x6 → fI (F_1 x6) 0 = x7 → gB x8 0 2 → tr_RBlock_ways x4 x5 x7 x8 → l12_4.toInt < x8.toInt → l11_4.toInt = 0 → tr_RCode_get l10_3 x3 → gB x9 0 39 → tr_RBlock_way2 l12_4 x4 x5 x9 → x9.toInt = l4_1.toInt → x10.toInt = l12_4.toInt + 1 → R x10 (0 : Int32) k e1 → R l12_4 l11_4 k e1) →
  (∀ (l12_4 : Int32) (l11_4 : Int32) (x1 : Nat) (x2 : Nat) (x3 : Int32) (x4 : Int32) (x5 : Int32) (x6 : Nat) (x7 : Int32) (x8 : Int32) (x9 : Int32) (x10 : Int32) (x11 : Int64) (x12 : Int64) (x13 : Int32) (k : Nat) (e1 : Int32), gB l12_4 0 2 → gB l11_4 0 1 → fR (F_1 q1) 0 = x1 → x2 = el x1 l10_3.toInt.toNat → fI (F_1 x1) 2 = x3 → tr_RCode_get l10_3 x3 → fI (F_1 x2) 2 = x4 → fI (F_1 x2) 3 = x5 → fR (F_1 x2) 1 = x6 → fI (F_1 x6) 0 = x7 → gB x8 0 2 → tr_RBlock_ways x4 x5 x7 x8 → l12_4.toInt < x8.toInt → l11_4.toInt = 0 → tr_RCode_get l10_3 x3 → gB x9 0 39 → tr_RBlock_way2 l12_4 x4 x5 x9 → x9.toInt ≠ l4_1.toInt → tr_RCode_get l10_3 x3 → gB x10 0 39 → tr_RBlock_way2 l12_4 x4 x5 x10 → x11 = (l7_3.toUInt64 >>> (x10.toInt64.toUInt64 &&& Int64.toUInt64 63)).toInt64 → x12 = x11 &&& (1 : Int64) → x12 = (0 : Int64) → x13.toInt = l12_4.toInt + 1 → R x13 (0 : Int32) k e1 → R l12_4 l11_4 k e1) →
  (∀ (l12_4 : Int32) (l11_4 : Int32) (x1 : Nat) (x2 : Nat) (x3 : Int32) (x4 : Int32) (x5 : Int32) (x6 : Nat) (x7 : Int32) (x8 : Int32) (x9 : Int32) (x10 : Int32) (x11 : Int64) (x12 : Int64) (x13 : Int32) (k : Nat) (e1 : Int32), gB l12_4 0 2 → gB l11_4 0 1 → fR (F_1 q1) 0 = x1 → x2 = el x1 l10_3.toInt.toNat → fI (F_1 x1) 2 = x3 → tr_RCode_get l10_3 x3 → fI (F_1 x2) 2 = x4 → fI (F_1 x2) 3 = x5 → fR (F_1 x2) 1 = x6 → fI (F_1 x6) 0 = x7 → gB x8 0 2 → tr_RBlock_ways x4 x5 x7 x8 → l12_4.toInt < x8.toInt → l11_4.toInt = 0 → tr_RCode_get l10_3 x3 → gB x9 0 39 → tr_RBlock_way2 l12_4 x4 x5 x9 → x9.toInt ≠ l4_1.toInt → tr_RCode_get l10_3 x3 → gB x10 0 39 → tr_RBlock_way2 l12_4 x4 x5 x10 → x11 = (l7_3.toUInt64 >>> (x10.toInt64.toUInt64 &&& Int64.toUInt64 63)).toInt64 → x12 = x11 &&& (1 : Int64) → (¬ x12 = (0 : Int64)) → x13.toInt = l12_4.toInt + 1 → R x13 (1 : Int32) k e1 → R l12_4 l11_4 k e1) →
  R s1 s2 k e1
/- tl_RModel_findDepth2_158: l10, l9, l7; out: l9, l7 -/
def tl_RModel_findDepth2_158 (D : va_G) (I : FieldType → ClassId) (γ el : Nat → Nat → Nat) (l7_2 : Int64) (F_1 : Nat → va_E) (q1 : Nat) (c1 : Int64) (l4_1 : Int32) (s1 : Int32) (s2 : Int32) (s3 : Int64) (k : Nat) (e1 : Int32) (e2 : Int64) : Prop := ∀ R : (Int32) → (Int32) → (Int64) → Nat → (Int32) → (Int64) → Prop,
  (∀ (l10_3 : Int32) (l9_3 : Int32) (l7_3 : Int64) (x1 : Int32), gB l10_3 0 1000000 → gB l9_3 0 1 → rpop l7_3 ≤ 64 → rpop l7_2 + ((l9_3.toInt : Int)).toNat ≤ rpop l7_3 → fI (F_1 q1) 3 = x1 → x1.toInt ≤ l10_3.toInt → R l10_3 l9_3 l7_3 294 l9_3 l7_3) →
  (∀ (l10_3 : Int32) (l9_3 : Int32) (l7_3 : Int64) (x1 : Int32) (x2 : Int64) (x3 : Int64) (x4 : Int32) (k : Nat) (e1 : Int32) (e2 : Int64), gB l10_3 0 1000000 → gB l9_3 0 1 → rpop l7_3 ≤ 64 → rpop l7_2 + ((l9_3.toInt : Int)).toNat ≤ rpop l7_3 → fI (F_1 q1) 3 = x1 → l10_3.toInt < x1.toInt → x2 = (l7_3.toUInt64 >>> (l10_3.toInt64.toUInt64 &&& Int64.toUInt64 63)).toInt64 → x3 = x2 &&& (1 : Int64) → (¬ x3 = (0 : Int64)) → x4.toInt = l10_3.toInt + 1 → R x4 l9_3 l7_3 k e1 e2 → R l10_3 l9_3 l7_3 k e1 e2) →
  (∀ (l10_3 : Int32) (l9_3 : Int32) (l7_3 : Int64) (x1 : Int32) (x2 : Int64) (x3 : Int64) (x4 : Int64) (x5 : Int64) (x6 : Int32) (x7 : Int64) (x8 : Int64) (x9 : Int32) (k : Nat) (e1 : Int32) (e2 : Int64), gB l10_3 0 1000000 → gB l9_3 0 1 → rpop l7_3 ≤ 64 → rpop l7_2 + ((l9_3.toInt : Int)).toNat ≤ rpop l7_3 → fI (F_1 q1) 3 = x1 → l10_3.toInt < x1.toInt → x2 = (l7_3.toUInt64 >>> (l10_3.toInt64.toUInt64 &&& Int64.toUInt64 63)).toInt64 → x3 = x2 &&& (1 : Int64) → x3 = (0 : Int64) → x4 = (c1.toUInt64 >>> (l10_3.toInt64.toUInt64 &&& Int64.toUInt64 63)).toInt64 → x5 = x4 &&& (1 : Int64) → (¬ x5 = (0 : Int64)) → tl_RModel_findDepth2_199 D I γ el F_1 q1 l10_3 l4_1 l7_3 (0 : Int32) (0 : Int32) 268 x6 → x6.toInt ≠ 0 → x7 = (1 : Int64) <<< (l10_3.toInt64 &&& 63) → x8 = l7_3 ||| x7 → x9.toInt = l10_3.toInt + 1 → R x9 (1 : Int32) x8 k e1 e2 → R l10_3 l9_3 l7_3 k e1 e2) →
  (∀ (l10_3 : Int32) (l9_3 : Int32) (l7_3 : Int64) (x1 : Int32) (x2 : Int64) (x3 : Int64) (x4 : Int64) (x5 : Int64) (x6 : Int32) (x7 : Int32) (k : Nat) (e1 : Int32) (e2 : Int64), gB l10_3 0 1000000 → gB l9_3 0 1 → rpop l7_3 ≤ 64 → rpop l7_2 + ((l9_3.toInt : Int)).toNat ≤ rpop l7_3 → fI (F_1 q1) 3 = x1 → l10_3.toInt < x1.toInt → x2 = (l7_3.toUInt64 >>> (l10_3.toInt64.toUInt64 &&& Int64.toUInt64 63)).toInt64 → x3 = x2 &&& (1 : Int64) → x3 = (0 : Int64) → x4 = (c1.toUInt64 >>> (l10_3.toInt64.toUInt64 &&& Int64.toUInt64 63)).toInt64 → x5 = x4 &&& (1 : Int64) → (¬ x5 = (0 : Int64)) → tl_RModel_findDepth2_199 D I γ el F_1 q1 l10_3 l4_1 l7_3 (0 : Int32) (0 : Int32) 268 x6 → x6.toInt = 0 → x7.toInt = l10_3.toInt + 1 → R x7 l9_3 l7_3 k e1 e2 → R l10_3 l9_3 l7_3 k e1 e2) →
  (∀ (l10_3 : Int32) (l9_3 : Int32) (l7_3 : Int64) (x1 : Int32) (x2 : Int64) (x3 : Int64) (x4 : Int64) (x5 : Int64) (x6 : Int32) (k : Nat) (e1 : Int32) (e2 : Int64), gB l10_3 0 1000000 → gB l9_3 0 1 → rpop l7_3 ≤ 64 → rpop l7_2 + ((l9_3.toInt : Int)).toNat ≤ rpop l7_3 → fI (F_1 q1) 3 = x1 → l10_3.toInt < x1.toInt → x2 = (l7_3.toUInt64 >>> (l10_3.toInt64.toUInt64 &&& Int64.toUInt64 63)).toInt64 → x3 = x2 &&& (1 : Int64) → x3 = (0 : Int64) → x4 = (c1.toUInt64 >>> (l10_3.toInt64.toUInt64 &&& Int64.toUInt64 63)).toInt64 → x5 = x4 &&& (1 : Int64) → x5 = (0 : Int64) → x6.toInt = l10_3.toInt + 1 → R x6 l9_3 l7_3 k e1 e2 → R l10_3 l9_3 l7_3 k e1 e2) →
  R s1 s2 s3 k e1 e2
/- tl_RModel_findDepth2_147: l9, l7; out: l7 -/
def tl_RModel_findDepth2_147 (D : va_G) (I : FieldType → ClassId) (γ el : Nat → Nat → Nat) (F_1 : Nat → va_E) (q1 : Nat) (c1 : Int64) (l4_1 : Int32) (s1 : Int32) (s2 : Int64) (k : Nat) (e1 : Int64) : Prop := ∀ R : (Int32) → (Int64) → Nat → (Int64) → Prop,
  (∀ (l9_2 : Int32) (l7_2 : Int64), gB l9_2 0 1 → rpop l7_2 ≤ 64 → l9_2.toInt = 0 → R l9_2 l7_2 297 l7_2) →
  (∀ (l9_2 : Int32) (l7_2 : Int64) (x1 : Int32) (x2 : Int64) (k : Nat) (e1 : Int64), gB l9_2 0 1 → rpop l7_2 ≤ 64 → l9_2.toInt ≠ 0 → tl_RModel_findDepth2_158 D I γ el l7_2 F_1 q1 c1 l4_1 (0 : Int32) (0 : Int32) l7_2 294 x1 x2 → R x1 x2 k e1 → R l9_2 l7_2 k e1) →
  R s1 s2 k e1
/- tl_RModel_findDepth2_75: l9, l7; out: l7 -/
def tl_RModel_findDepth2_75 (D : va_G) (I : FieldType → ClassId) (γ el : Nat → Nat → Nat) (F_1 : Nat → va_E) (q1 : Nat) (c1 : Int64) (l4_1 : Int32) (s1 : Int32) (s2 : Int64) (k : Nat) (e1 : Int64) : Prop := ∀ R : (Int32) → (Int64) → Nat → (Int64) → Prop,
  (∀ (l9_2 : Int32) (l7_2 : Int64) (x1 : Int32), gB l9_2 0 1000000 → fI (F_1 q1) 3 = x1 → x1.toInt ≤ l9_2.toInt → R l9_2 l7_2 125 l7_2) →
  (∀ (l9_2 : Int32) (l7_2 : Int64) (x1 : Int32) (x2 : Int64) (x3 : Int64) (x4 : Int32) (k : Nat) (e1 : Int64), gB l9_2 0 1000000 → fI (F_1 q1) 3 = x1 → l9_2.toInt < x1.toInt → x2 = (c1.toUInt64 >>> (l9_2.toInt64.toUInt64 &&& Int64.toUInt64 63)).toInt64 → x3 = x2 &&& (1 : Int64) → x3 = (0 : Int64) → x4.toInt = l9_2.toInt + 1 → R x4 l7_2 k e1 → R l9_2 l7_2 k e1) →
  (∀ (l9_2 : Int32) (l7_2 : Int64) (x1 : Int32) (x2 : Int64) (x3 : Int64) (x4 : Nat) (x5 : Nat) (x6 : Int32) (x7 : Int32) (x8 : Int32) (k : Nat) (e1 : Int64), gB l9_2 0 1000000 → fI (F_1 q1) 3 = x1 → l9_2.toInt < x1.toInt → x2 = (c1.toUInt64 >>> (l9_2.toInt64.toUInt64 &&& Int64.toUInt64 63)).toInt64 → x3 = x2 &&& (1 : Int64) → (¬ x3 = (0 : Int64)) → fR (F_1 q1) 0 = x4 → x5 = el x4 l9_2.toInt.toNat → fI (F_1 x4) 2 = x6 → tr_RCode_get l9_2 x6 → gB x7 0 1 → tr_RModel_leads D I γ el F_1 x5 l4_1 x7 → x7.toInt = 0 → x8.toInt = l9_2.toInt + 1 → R x8 l7_2 k e1 → R l9_2 l7_2 k e1) →
  (∀ (l9_2 : Int32) (l7_2 : Int64) (x1 : Int32) (x2 : Int64) (x3 : Int64) (x4 : Nat) (x5 : Nat) (x6 : Int32) (x7 : Int32) (x8 : Int64) (x9 : Int64) (x10 : Int32) (k : Nat) (e1 : Int64), gB l9_2 0 1000000 → fI (F_1 q1) 3 = x1 → l9_2.toInt < x1.toInt → x2 = (c1.toUInt64 >>> (l9_2.toInt64.toUInt64 &&& Int64.toUInt64 63)).toInt64 → x3 = x2 &&& (1 : Int64) → (¬ x3 = (0 : Int64)) → fR (F_1 q1) 0 = x4 → x5 = el x4 l9_2.toInt.toNat → fI (F_1 x4) 2 = x6 → tr_RCode_get l9_2 x6 → gB x7 0 1 → tr_RModel_leads D I γ el F_1 x5 l4_1 x7 → x7.toInt ≠ 0 → x8 = (1 : Int64) <<< (l9_2.toInt64 &&& 63) → x9 = l7_2 ||| x8 → x10.toInt = l9_2.toInt + 1 → R x10 x9 k e1 → R l9_2 l7_2 k e1) →
  R s1 s2 k e1
/- tl_RModel_findDepth2_32: F, l4; out: F -/
def tl_RModel_findDepth2_32 (D : va_G) (I : FieldType → ClassId) (γ el : Nat → Nat → Nat) (P : List Nat) (F : Nat → va_E) (q0 : Nat) (q1 : Nat) (c1 : Int64) (s1 : Nat → va_E) (s2 : Int32) (k : Nat) (e1 : Nat → va_E) : Prop := ∀ R : (Nat → va_E) → (Int32) → Nat → (Nat → va_E) → Prop,
  (∀ (F_1 : Nat → va_E) (l4_1 : Int32) (x1 : Int32), gB l4_1 0 1000000 → RS D I P F_1 γ el → rStr γ [] F F_1 → (F_1 q0 = F q0) → (F_1 (γ 9 3) = F (γ 9 3)) → fI (F_1 q1) 3 = x1 → x1.toInt ≤ l4_1.toInt → R F_1 l4_1 339 F_1) →
  (∀ (F_1 : Nat → va_E) (l4_1 : Int32) (x1 : Int32) (x2 : Int64) (x3 : Int64) (x4 : Int64) (x5 : Int64) (x6 : Int64) (x7 : Int64) (x8 : Int64) (x9 : Int64) (x10 : Int64) (x11 : Nat → va_E) (x12 : Int32) (k : Nat) (e1 : Nat → va_E), gB l4_1 0 1000000 → RS D I P F_1 γ el → rStr γ [] F F_1 → (F_1 q0 = F q0) → (F_1 (γ 9 3) = F (γ 9 3)) → fI (F_1 q1) 3 = x1 → l4_1.toInt < x1.toInt → x2 = (c1.toUInt64 >>> (l4_1.toInt64.toUInt64 &&& Int64.toUInt64 63)).toInt64 → x3 = x2 &&& (1 : Int64) → (¬ x3 = (0 : Int64)) → tr_RModel_reached D I γ el F_1 q1 l4_1 x4 → x5 = x4 ^^^ (-1 : Int64) → x6 = c1 &&& x5 → tl_RModel_findDepth2_75 D I γ el F_1 q1 x6 l4_1 (0 : Int32) (0 : Int64) 125 x7 → (¬ x7 = (0 : Int64)) → x8 = (1 : Int64) <<< (l4_1.toInt64 &&& 63) → x9 = x7 ||| x8 → tl_RModel_findDepth2_147 D I γ el F_1 q1 c1 l4_1 (1 : Int32) x9 297 x10 → tl_RModel_findDepth2_300 D I γ el P F q0 q1 x10 F_1 (0 : Int32) 333 x11 → x12.toInt = l4_1.toInt + 1 → R x11 x12 k e1 → R F_1 l4_1 k e1) →
  (∀ (F_1 : Nat → va_E) (l4_1 : Int32) (x1 : Int32) (x2 : Int64) (x3 : Int64) (x4 : Int64) (x5 : Int64) (x6 : Int64) (x7 : Int64) (x8 : Int32) (k : Nat) (e1 : Nat → va_E), gB l4_1 0 1000000 → RS D I P F_1 γ el → rStr γ [] F F_1 → (F_1 q0 = F q0) → (F_1 (γ 9 3) = F (γ 9 3)) → fI (F_1 q1) 3 = x1 → l4_1.toInt < x1.toInt → x2 = (c1.toUInt64 >>> (l4_1.toInt64.toUInt64 &&& Int64.toUInt64 63)).toInt64 → x3 = x2 &&& (1 : Int64) → (¬ x3 = (0 : Int64)) → tr_RModel_reached D I γ el F_1 q1 l4_1 x4 → x5 = x4 ^^^ (-1 : Int64) → x6 = c1 &&& x5 → tl_RModel_findDepth2_75 D I γ el F_1 q1 x6 l4_1 (0 : Int32) (0 : Int64) 125 x7 → x7 = (0 : Int64) → x8.toInt = l4_1.toInt + 1 → R F_1 x8 k e1 → R F_1 l4_1 k e1) →
  (∀ (F_1 : Nat → va_E) (l4_1 : Int32) (x1 : Int32) (x2 : Int64) (x3 : Int64) (x4 : Int32) (k : Nat) (e1 : Nat → va_E), gB l4_1 0 1000000 → RS D I P F_1 γ el → rStr γ [] F F_1 → (F_1 q0 = F q0) → (F_1 (γ 9 3) = F (γ 9 3)) → fI (F_1 q1) 3 = x1 → l4_1.toInt < x1.toInt → x2 = (c1.toUInt64 >>> (l4_1.toInt64.toUInt64 &&& Int64.toUInt64 63)).toInt64 → x3 = x2 &&& (1 : Int64) → x3 = (0 : Int64) → x4.toInt = l4_1.toInt + 1 → R F_1 x4 k e1 → R F_1 l4_1 k e1) →
  R s1 s2 k e1
/- tl_RModel_findDepth2_2: F, l2; out: F -/
def tl_RModel_findDepth2_2 (D : va_G) (I : FieldType → ClassId) (γ el : Nat → Nat → Nat) (P : List Nat) (F : Nat → va_E) (q0 : Nat) (q1 : Nat) (s1 : Nat → va_E) (s2 : Int32) (k : Nat) (e1 : Nat → va_E) : Prop := ∀ R : (Nat → va_E) → (Int32) → Nat → (Nat → va_E) → Prop,
  (∀ (F_1 : Nat → va_E) (l2_1 : Int32) (x1 : Int32), gB l2_1 0 1000000 → RS D I P F_1 γ el → rStr γ [] F F_1 → (F_1 q0 = F q0) → (F_1 (γ 9 3) = F (γ 9 3)) → fI (F_1 q1) 3 = x1 → x1.toInt ≤ l2_1.toInt → R F_1 l2_1 23 F_1) →
  (∀ (F_1 : Nat → va_E) (l2_1 : Int32) (x1 : Int32) (x2 : Nat → Int32) (x3 : Nat → Int32) (x4 : Nat → va_E) (x5 : Int32) (k : Nat) (e1 : Nat → va_E), gB l2_1 0 1000000 → RS D I P F_1 γ el → rStr γ [] F F_1 → (F_1 q0 = F q0) → (F_1 (γ 9 3) = F (γ 9 3)) → fI (F_1 q1) 3 = x1 → l2_1.toInt < x1.toInt → fR (F_1 q0) 4 = (γ 9 4) → F_1 (γ 9 4) = .inl (I .int, 40, .inl x2) → x3 = upd x2 l2_1.toNatClampNeg 0 → (∀ b, b ≠ (γ 9 4) → x4 b = F_1 b) → x4 (γ 9 4) = .inl (I .int, 40, .inl x3) → x5.toInt = l2_1.toInt + 1 → R x4 x5 k e1 → R F_1 l2_1 k e1) →
  R s1 s2 k e1
/- tr_RModel_findDepth2: F -/
def tr_RModel_findDepth2 (D : va_G) (I : FieldType → ClassId) (γ el : Nat → Nat → Nat) (P : List Nat) (F : Nat → va_E) (q0 : Nat) (q1 : Nat) (o1 : Nat → va_E) : Prop := ∀ R : (Nat → va_E) → Prop,
  (∀ (x1 : Nat → va_E) (x2 : Int64) (x3 : Nat → va_E) (x4 : Nat → va_E), tl_RModel_findDepth2_2 D I γ el P F q0 q1 F (0 : Int32) 23 x1 → tr_RModel_reached D I γ el x1 q1 (-1 : Int32) x2 → tl_RModel_findDepth2_32 D I γ el P F q0 q1 x2 x1 (0 : Int32) 339 x3 → tl_RModel_findDepth2_342 D I γ el P F q0 q1 x3 (0 : Int32) 375 x4 → R x4) →
  R o1
