abbrev ky_385695_SpillForgeModel_mayMerge : gKey := (cX17_mayMerge, 8, "SpillForgeModel", (some FieldType.boolean), [], "mayMerge", fun _ _ => True)
def pt_385695_SpillForgeModel_mayMerge (D : va_G) (I : FieldType → ClassId) (γ el : Nat → Nat → Nat) (P385689 : List Nat) (F385690 : Nat → va_E) (q385691 : Nat) (p385692 : Int32) (p385693 : Int32) (p385694 : Int32) : Option Value → va_W → Nat → Nat → Prop := fun r w dc ds => ∃ (o387560 : Int32), r = some (.int o387560) ∧ w = va_pl P385689 F385690 ∧ dc ≤ 0 ∧ ds ≤ 0 ∧ gB o387560 0 1 ∧ (o387560.toInt = 0 ∨ (p385692.toInt < 100 ∧ p385693.toInt < 100))
set_option maxRecDepth 100000 in
set_option maxHeartbeats 4000000 in
theorem ct_385695_SpillForgeModel_mayMerge (l : Launch) (hl0 : l.stackTraces = false) (D : va_G) (I : FieldType → ClassId) (γ el : Nat → Nat → Nat) (P385689 : List Nat) (F385690 : Nat → va_E) (q385691 : Nat) (p385692 : Int32) (p385693 : Int32) (p385694 : Int32) (hT : RS D I P385689 F385690 γ el) (htq385691 : rKd γ q385691 10) (bp385692 : gB p385692 0 1999) (bp385693 : gB p385693 0 1999) : CtA (gV D I) l yX17_mayMerge cX17_mayMerge 8 (some FieldType.boolean) 2 43 0 0 [.ref q385691, .int p385692, .int p385693, .int p385694] (va_pl P385689 F385690) (pt_385695_SpillForgeModel_mayMerge D I γ el P385689 F385690 q385691 p385692 p385693 p385694) gNA := by
  refine CtA_of hl0 (by decide) (Nat.le_of_ble_eq_true rfl) ?_
  have bp385694 := gB_any p385694
  refine G_iload_n 1 dr_cX17_mayMerge_0 rfl ?_
  refine G_bipush 100 dr_cX17_mayMerge_1 (by decide +kernel) ?_
  refine G_icmp_ge 25 dr_cX17_mayMerge_3 (by decide +kernel) (fun hc385696 => ?_) (fun hc385696 => ?_)
  · have r385697 : 100 ≤ p385692.toInt := gj_leL hc385696 (show Int32.toInt 100 = 100 by decide)
    have bp385692' : gB p385692 100 1999 := ⟨by omega, by omega⟩
    refine G_iconst 0 dr_cX17_mayMerge_25 (by decide +kernel) ?_
    exact G_zretA FieldType.boolean dr_cX17_mayMerge_26 rfl rfl (Nat.le_of_ble_eq_true rfl) (Nat.le_of_ble_eq_true rfl) ⟨0, rfl, rfl, (Nat.le_of_ble_eq_true rfl), (Nat.le_of_ble_eq_true rfl), (gB_w (gBl (show Int32.toInt 0 = 0 by decide)) (by decide) (by decide)), (by have qa0 : Int32.toInt 0 = 0 := (by decide); omega)⟩
  · have r385698 : p385692.toInt < 100 := gj_nleL hc385696 (show Int32.toInt 100 = 100 by decide)
    have bp385692' : gB p385692 0 99 := ⟨by omega, by omega⟩
    refine G_iload_n 2 dr_cX17_mayMerge_6 rfl ?_
    refine G_bipush 100 dr_cX17_mayMerge_7 (by decide +kernel) ?_
    refine G_icmp_ge 25 dr_cX17_mayMerge_9 (by decide +kernel) (fun hc385699 => ?_) (fun hc385699 => ?_)
    · have r385700 : 100 ≤ p385693.toInt := gj_leL hc385699 (show Int32.toInt 100 = 100 by decide)
      have bp385693' : gB p385693 100 1999 := ⟨by omega, by omega⟩
      refine G_iconst 0 dr_cX17_mayMerge_25 (by decide +kernel) ?_
      exact G_zretA FieldType.boolean dr_cX17_mayMerge_26 rfl rfl (Nat.le_of_ble_eq_true rfl) (Nat.le_of_ble_eq_true rfl) ⟨0, rfl, rfl, (Nat.le_of_ble_eq_true rfl), (Nat.le_of_ble_eq_true rfl), (gB_w (gBl (show Int32.toInt 0 = 0 by decide)) (by decide) (by decide)), (by have qa0 : Int32.toInt 0 = 0 := (by decide); omega)⟩
    · have r385701 : p385693.toInt < 100 := gj_nleL hc385699 (show Int32.toInt 100 = 100 by decide)
      have bp385693' : gB p385693 0 99 := ⟨by omega, by omega⟩
      refine G_aload_n 0 dr_cX17_mayMerge_12 rfl ?_
      have hm385702 : q385691 ∈ P385689 := RS_m hT htq385691 (by decide)
      refine rk10_e (show rk_10 γ (F385690 q385691) from RS_o hT htq385691) (fun q385704 q385705 p385706 p385707 p385708 p385709 p385710 p385711 p385712 p385713 p385714 p385715 p385716 p385717 p385718 p385719 p385720 he385703 hB385747 ht385721 ht385722 ht385723 ht385724 ht385725 ht385726 ht385727 ht385728 ht385729 ht385730 ht385731 ht385732 ht385733 ht385734 ht385735 ht385736 ht385737 ht385738 ht385739 ht385740 ht385741 ht385742 ht385743 ht385744 hB385748 => ?_)
      refine Gp_get 1 hm385702 he385703 dr_cX17_mayMerge_13 (gk_X17 D I) (Nat.le_of_ble_eq_true rfl) wr_7_75 rfl ?_
      refine G_iload_n 1 dr_cX17_mayMerge_16 rfl ?_
      have hm385749 : (γ 9 1) ∈ P385689 := RS_m hT ht385724 (by decide)
      obtain ⟨f385751, he385750, hg385752⟩ := show rk_13 I γ (F385690 (γ 9 1)) from RS_o hT ht385724
      obtain ⟨q385753, hx385755⟩ : ∃ x, x = γ 11 p385692.toInt.toNat := ⟨_, rfl⟩
      have ht385754 : rKd γ q385753 36 := by rw [hx385755]; exact (hg385752 _ (show p385692.toInt.toNat < 2000 by omega)).2.1
      refine Gp_aald 5 hm385749 he385750 dr_cX17_mayMerge_17 rfl rfl (gB_in bp385692' (by decide) (by decide)) ?_
      rw [show f385751 p385692.toNatClampNeg = some q385753 from (hg385752 _ (show p385692.toInt.toNat < 2000 by omega)).1.trans (by rw [hx385755])]
      change G _ _ _ _ _ _ _ (.ref q385753 :: _) _ _ _
      refine G_iload_n 2 dr_cX17_mayMerge_18 rfl ?_
      have hm385756 : q385753 ∈ P385689 := RS_m hT ht385754 (by decide)
      obtain ⟨f385758, he385757, wf385758⟩ := show rk_36 I (F385690 q385753) from RS_o hT ht385754
      refine Gw_callS (As := [.ref q385753, .int p385693]) (gV_ok D I) (cp_1838_SpillForgeModel_has l hl0 D I P385689 F385690 q385753 p385693 f385758 hm385756 he385757 (gB_w bp385693' (by decide) (by decide))) dr_cX17_mayMerge_19 ⟨wr_10_199, wr_1_14, wr_10_201, by decide, rfl, (Nat.le_of_ble_eq_true rfl), (Nat.le_of_ble_eq_true rfl)⟩ wr_10_200 (show 0 + 0 ≤ 0 by first | omega | decide) (show 0 + 0 ≤ 0 by first | omega | decide) (Nat.le_of_ble_eq_true rfl) (fun r385762 w385763 dc385759 ds385760 hp385761 => ?_) (fun _ _ _ _ _ z => z.elim)
      rcases hp385761 with ⟨z385764, z385765, rfl, rfl, hdc, hds, r385766, r385767, r385768, r385769⟩ | ⟨z385770, z385771, rfl, rfl, hdc, hds, r385772, r385773, r385774, r385775⟩
      · change G _ _ _ _ _ _ _ (.int 0 :: _) _ _ _
        refine G_widen (cs' := 0) (sl' := 0) (by omega) (by omega) ?_
        refine G_if_eq 27 dr_cX17_mayMerge_22 (by decide +kernel) (fun _ => ?_) (fun hc => absurd hc (by decide))
        refine G_iconst 0 dr_cX17_mayMerge_27 (by decide +kernel) ?_
        refine G_istore (L' := [(4, .int 0), (0, .ref q385691), (1, .int p385692), (2, .int p385693), (3, .int p385694)]) dr_cX17_mayMerge_28 (Nat.le_of_ble_eq_true rfl) rfl ?_
        refine G_iconst 0 dr_cX17_mayMerge_30 (by decide +kernel) ?_
        refine G_istore (L' := [(5, .int 0), (4, .int 0), (0, .ref q385691), (1, .int p385692), (2, .int p385693), (3, .int p385694)]) dr_cX17_mayMerge_31 (Nat.le_of_ble_eq_true rfl) rfl ?_
        have hlp33_387419 : ∀ (n33_387419 : Nat) (g387418 : Int32) (g387419 : Int32), gB g387418 0 2000 → ((2001 : Int) - g387418.toInt).toNat < n33_387419 → G (gV D I) l (gRm 2 43 0 0) (gMA (gV D I) (pt_385695_SpillForgeModel_mayMerge D I γ el P385689 F385690 q385691 p385692 p385693 p385694) gNA 0 0) ky_385695_SpillForgeModel_mayMerge 33 [(5, .int g387418), (4, .int g387419), (0, .ref q385691), (1, .int p385692), (2, .int p385693), (3, .int p385694)] [] (va_pl P385689 F385690) 0 0 := by
          intro n33_387419
          induction n33_387419 with
          | zero => intro g387418 g387419 bg387418 hm33_387419; exact absurd hm33_387419 (Nat.not_lt_zero _)
          | succ n33_387419 ih33_387419 =>
            intro g387418 g387419 bg387418 hm33_387419
            have bg387419 := gB_any g387419
            refine G_iload 0 dr_cX17_mayMerge_33 rfl ?_
            refine G_sipush 2000 dr_cX17_mayMerge_35 (by decide +kernel) ?_
            refine G_icmp_ge 126 dr_cX17_mayMerge_38 (by decide +kernel) (fun hc387421 => ?_) (fun hc387421 => ?_)
            · have r387422 : 2000 ≤ g387418.toInt := gj_leL hc387421 (show Int32.toInt 2000 = 2000 by decide)
              have bg387418' : gB g387418 2000 2000 := ⟨by omega, by omega⟩
              refine G_iload 1 dr_cX17_mayMerge_126 rfl ?_
              refine G_iload_n 5 dr_cX17_mayMerge_128 rfl ?_
              refine G_icmp_ge 136 dr_cX17_mayMerge_129 (by decide +kernel) (fun hc387423 => ?_) (fun hc387423 => ?_)
              · have r387424 : p385694.toInt ≤ g387419.toInt := gC_le hc387423
                refine G_iconst 0 dr_cX17_mayMerge_136 (by decide +kernel) ?_
                exact G_zretA FieldType.boolean dr_cX17_mayMerge_137 rfl rfl (Nat.le_of_ble_eq_true rfl) (Nat.le_of_ble_eq_true rfl) ⟨0, rfl, rfl, (Nat.le_of_ble_eq_true rfl), (Nat.le_of_ble_eq_true rfl), (gB_w (gBl (show Int32.toInt 0 = 0 by decide)) (by decide) (by decide)), (by have qa0 : Int32.toInt 0 = 0 := (by decide); omega)⟩
              · have r387425 : g387419.toInt < p385694.toInt := gC_nle hc387423
                have bg387419' : gB g387419 (-2147483648) 2147483646 := ⟨by omega, by omega⟩
                have bp385694' : gB p385694 (-2147483647) 2147483647 := ⟨by omega, by omega⟩
                refine G_iconst 1 dr_cX17_mayMerge_132 (by decide +kernel) ?_
                refine G_goto 137 dr_cX17_mayMerge_133 (by decide +kernel) ?_
                exact G_zretA FieldType.boolean dr_cX17_mayMerge_137 rfl rfl (Nat.le_of_ble_eq_true rfl) (Nat.le_of_ble_eq_true rfl) ⟨1, rfl, rfl, (Nat.le_of_ble_eq_true rfl), (Nat.le_of_ble_eq_true rfl), (gB_w (gBl (show Int32.toInt 1 = 1 by decide)) (by decide) (by decide)), (by have qa0 : Int32.toInt 1 = 1 := (by decide); omega)⟩
            · have r387426 : g387418.toInt < 2000 := gj_nleL hc387421 (show Int32.toInt 2000 = 2000 by decide)
              have bg387418' : gB g387418 0 1999 := ⟨by omega, by omega⟩
              refine G_aload_n 2 dr_cX17_mayMerge_41 rfl ?_
              refine Gp_get 1 hm385702 he385703 dr_cX17_mayMerge_42 (gk_X17 D I) (Nat.le_of_ble_eq_true rfl) wr_7_75 rfl ?_
              refine G_iload_n 3 dr_cX17_mayMerge_45 rfl ?_
              obtain ⟨q387427, hx387429⟩ : ∃ x, x = γ 11 p385692.toInt.toNat := ⟨_, rfl⟩
              have ht387428 : rKd γ q387427 36 := by rw [hx387429]; exact (hg385752 _ (show p385692.toInt.toNat < 2000 by omega)).2.1
              refine Gp_aald 5 hm385749 he385750 dr_cX17_mayMerge_46 rfl rfl (gB_in bp385692' (by decide) (by decide)) ?_
              rw [show f385751 p385692.toNatClampNeg = some q387427 from (hg385752 _ (show p385692.toInt.toNat < 2000 by omega)).1.trans (by rw [hx387429])]
              change G _ _ _ _ _ _ _ (.ref q387427 :: _) _ _ _
              refine G_iload 0 dr_cX17_mayMerge_47 rfl ?_
              have hm387430 : q387427 ∈ P385689 := RS_m hT ht387428 (by decide)
              obtain ⟨f387432, he387431, wf387432⟩ := show rk_36 I (F385690 q387427) from RS_o hT ht387428
              refine Gw_callS (As := [.ref q387427, .int g387418]) (gV_ok D I) (cp_1838_SpillForgeModel_has l hl0 D I P385689 F385690 q387427 g387418 f387432 hm387430 he387431 (gB_w bg387418' (by decide) (by decide))) dr_cX17_mayMerge_49 ⟨wr_10_199, wr_1_14, wr_10_201, by decide, rfl, (Nat.le_of_ble_eq_true rfl), (Nat.le_of_ble_eq_true rfl)⟩ wr_10_200 (show 0 + 0 ≤ 0 by first | omega | decide) (show 0 + 0 ≤ 0 by first | omega | decide) (Nat.le_of_ble_eq_true rfl) (fun r387436 w387437 dc387433 ds387434 hp387435 => ?_) (fun _ _ _ _ _ z => z.elim)
              rcases hp387435 with ⟨z387438, z387439, rfl, rfl, hdc, hds, r387440, r387441, r387442, r387443⟩ | ⟨z387444, z387445, rfl, rfl, hdc, hds, r387446, r387447, r387448, r387449⟩
              · change G _ _ _ _ _ _ _ (.int 0 :: _) _ _ _
                refine G_widen (cs' := 0) (sl' := 0) (by omega) (by omega) ?_
                refine G_istore (L' := [(6, .int 0), (5, .int g387418), (4, .int g387419), (0, .ref q385691), (1, .int p385692), (2, .int p385693), (3, .int p385694)]) dr_cX17_mayMerge_52 (Nat.le_of_ble_eq_true rfl) rfl ?_
                refine G_aload_n 3 dr_cX17_mayMerge_54 rfl ?_
                refine Gp_get 1 hm385702 he385703 dr_cX17_mayMerge_55 (gk_X17 D I) (Nat.le_of_ble_eq_true rfl) wr_7_75 rfl ?_
                refine G_iload_n 5 dr_cX17_mayMerge_58 rfl ?_
                obtain ⟨q387451, hx387453⟩ : ∃ x, x = γ 11 p385693.toInt.toNat := ⟨_, rfl⟩
                have ht387452 : rKd γ q387451 36 := by rw [hx387453]; exact (hg385752 _ (show p385693.toInt.toNat < 2000 by omega)).2.1
                refine Gp_aald 5 hm385749 he385750 dr_cX17_mayMerge_59 rfl rfl (gB_in bp385693' (by decide) (by decide)) ?_
                rw [show f385751 p385693.toNatClampNeg = some q387451 from (hg385752 _ (show p385693.toInt.toNat < 2000 by omega)).1.trans (by rw [hx387453])]
                change G _ _ _ _ _ _ _ (.ref q387451 :: _) _ _ _
                refine G_iload 1 dr_cX17_mayMerge_60 rfl ?_
                have hm387454 : q387451 ∈ P385689 := RS_m hT ht387452 (by decide)
                obtain ⟨f387456, he387455, wf387456⟩ := show rk_36 I (F385690 q387451) from RS_o hT ht387452
                refine Gw_callS (As := [.ref q387451, .int g387418]) (gV_ok D I) (cp_1838_SpillForgeModel_has l hl0 D I P385689 F385690 q387451 g387418 f387456 hm387454 he387455 (gB_w bg387418' (by decide) (by decide))) dr_cX17_mayMerge_62 ⟨wr_10_199, wr_1_14, wr_10_201, by decide, rfl, (Nat.le_of_ble_eq_true rfl), (Nat.le_of_ble_eq_true rfl)⟩ wr_10_200 (show 0 + 0 ≤ 0 by first | omega | decide) (show 0 + 0 ≤ 0 by first | omega | decide) (Nat.le_of_ble_eq_true rfl) (fun r387460 w387461 dc387457 ds387458 hp387459 => ?_) (fun _ _ _ _ _ z => z.elim)
                rcases hp387459 with ⟨z387462, z387463, rfl, rfl, hdc, hds, r387464, r387465, r387466, r387467⟩ | ⟨z387468, z387469, rfl, rfl, hdc, hds, r387470, r387471, r387472, r387473⟩
                · change G _ _ _ _ _ _ _ (.int 0 :: _) _ _ _
                  refine G_widen (cs' := 0) (sl' := 0) (by omega) (by omega) ?_
                  refine G_istore (L' := [(7, .int 0), (6, .int 0), (5, .int g387418), (4, .int g387419), (0, .ref q385691), (1, .int p385692), (2, .int p385693), (3, .int p385694)]) dr_cX17_mayMerge_65 (Nat.le_of_ble_eq_true rfl) rfl ?_
                  refine G_iload 1 dr_cX17_mayMerge_67 rfl ?_
                  refine G_if_ne 80 dr_cX17_mayMerge_69 (by decide +kernel) (fun hc => absurd hc (by decide)) (fun _ => ?_)
                  refine G_iload 0 dr_cX17_mayMerge_72 rfl ?_
                  refine G_if_ne 80 dr_cX17_mayMerge_74 (by decide +kernel) (fun hc => absurd hc (by decide)) (fun _ => ?_)
                  refine G_goto 120 dr_cX17_mayMerge_77 (by decide +kernel) ?_
                  obtain ⟨z387475, hz387475⟩ : ∃ z : Int32, z = g387418 + Int32.ofInt 1 := ⟨_, rfl⟩
                  have ez387475 : z387475.toInt = g387418.toInt + 1 := gI_inc hz387475 (by decide) bg387418' (by decide) (by decide)
                  have bz387475 : gB z387475 1 2000 := ⟨by omega, by omega⟩
                  refine G_iinc (L' := [(5, .int z387475), (7, .int 0), (6, .int 0), (4, .int g387419), (0, .ref q385691), (1, .int p385692), (2, .int p385693), (3, .int p385694)]) z387475 2 dr_cX17_mayMerge_120 rfl hz387475.symm (Nat.le_of_ble_eq_true rfl) rfl ?_
                  refine G_goto 33 dr_cX17_mayMerge_123 (by decide +kernel) ?_
                  refine G_lv (L' := [(5, .int z387475), (4, .int g387419), (0, .ref q385691), (1, .int p385692), (2, .int p385693), (3, .int p385694)]) [0, 3, 4, 5, 6, 7] rfl ?_
                  exact ih33_387419 z387475 g387419 (gB_w bz387475 (by decide) (by decide)) (mz_up ez387475 (Int.le_trans bg387418'.2 (by decide)) hm33_387419)
                · change G _ _ _ _ _ _ _ (.int 1 :: _) _ _ _
                  refine G_widen (cs' := 0) (sl' := 0) (by omega) (by omega) ?_
                  refine G_istore (L' := [(7, .int 1), (6, .int 0), (5, .int g387418), (4, .int g387419), (0, .ref q385691), (1, .int p385692), (2, .int p385693), (3, .int p385694)]) dr_cX17_mayMerge_65 (Nat.le_of_ble_eq_true rfl) rfl ?_
                  refine G_iload 1 dr_cX17_mayMerge_67 rfl ?_
                  refine G_if_ne 80 dr_cX17_mayMerge_69 (by decide +kernel) (fun hc => absurd hc (by decide)) (fun _ => ?_)
                  refine G_iload 0 dr_cX17_mayMerge_72 rfl ?_
                  refine G_if_ne 80 dr_cX17_mayMerge_74 (by decide +kernel) (fun _ => ?_) (fun hc => absurd hc (by decide))
                  refine G_iload 3 dr_cX17_mayMerge_80 rfl ?_
                  refine G_aload_n 4 dr_cX17_mayMerge_82 rfl ?_
                  refine Gp_get 1 hm385702 he385703 dr_cX17_mayMerge_83 (gk_X17 D I) (Nat.le_of_ble_eq_true rfl) wr_7_75 rfl ?_
                  refine G_iload 2 dr_cX17_mayMerge_86 rfl ?_
                  obtain ⟨q387476, hx387478⟩ : ∃ x, x = γ 11 g387418.toInt.toNat := ⟨_, rfl⟩
                  have ht387477 : rKd γ q387476 36 := by rw [hx387478]; exact (hg385752 _ (show g387418.toInt.toNat < 2000 by omega)).2.1
                  refine Gp_aald 5 hm385749 he385750 dr_cX17_mayMerge_88 rfl rfl (gB_in bg387418' (by decide) (by decide)) ?_
                  rw [show f385751 g387418.toNatClampNeg = some q387476 from (hg385752 _ (show g387418.toInt.toNat < 2000 by omega)).1.trans (by rw [hx387478])]
                  change G _ _ _ _ _ _ _ (.ref q387476 :: _) _ _ _
                  have hm387479 : q387476 ∈ P385689 := RS_m hT ht387477 (by decide)
                  obtain ⟨f387481, he387480, wf387481⟩ := show rk_36 I (F385690 q387476) from RS_o hT ht387477
                  refine Gw_callS (As := [.ref q387476]) (gV_ok D I) (cp_1892_SpillForgeModel_count l hl0 D I P385689 F385690 q387476 f387481 hm387479 he387480) dr_cX17_mayMerge_89 ⟨wr_11_12, wr_1_14, wr_11_14, by decide, rfl, (Nat.le_of_ble_eq_true rfl), (Nat.le_of_ble_eq_true rfl)⟩ wr_11_13 (show 0 + 0 ≤ 0 by first | omega | decide) (show 0 + 0 ≤ 0 by first | omega | decide) (Nat.le_of_ble_eq_true rfl) (fun r387485 w387486 dc387482 ds387483 hp387484 => ?_) (fun _ _ _ _ _ z => z.elim)
                  obtain ⟨o387487, rfl, rfl, hdc, hds⟩ := hp387484
                  have bo387487 := gB_any o387487
                  change G _ _ _ _ _ _ _ (.int o387487 :: _) _ _ _
                  refine G_widen (cs' := 0) (sl' := 0) (by omega) (by omega) ?_
                  refine G_iload 1 dr_cX17_mayMerge_92 rfl ?_
                  refine G_if_eq 106 dr_cX17_mayMerge_94 (by decide +kernel) (fun _ => ?_) (fun hc => absurd hc (by decide))
                  refine G_iconst 0 dr_cX17_mayMerge_106 (by decide +kernel) ?_
                  refine G_isub dr_cX17_mayMerge_107 (G_nam fun z387488 hz387488 => ?_)
                  have ez387488 : z387488.toInt = o387487.toInt - 0 := by rw [gI_sub hz387488 bo387487 (gBl (show Int32.toInt 0 = 0 by decide)) (by decide) (by decide), show Int32.toInt 0 = 0 from by decide]
                  have bz387488 : gB z387488 (-2147483648) 2147483647 := gB_sub (gI_sub hz387488 bo387487 (gBl (show Int32.toInt 0 = 0 by decide)) (by decide) (by decide)) bo387487 (gBl (show Int32.toInt 0 = 0 by decide)) (by decide) (by decide)
                  refine G_iload_n 7 dr_cX17_mayMerge_108 rfl ?_
                  refine G_icmp_lt 116 dr_cX17_mayMerge_109 (by decide +kernel) (fun hc387489 => ?_) (fun hc387489 => ?_)
                  · have r387490 : z387488.toInt < p385694.toInt := gC_lt hc387489
                    have bz387488' : gB z387488 (-2147483648) 2147483646 := ⟨by omega, by omega⟩
                    have bp385694' : gB p385694 (-2147483647) 2147483647 := ⟨by omega, by omega⟩
                    refine G_iconst 0 dr_cX17_mayMerge_116 (by decide +kernel) ?_
                    refine G_iadd dr_cX17_mayMerge_117 (G_nam fun z387491 hz387491 => ?_)
                    have ez387491 : z387491.toInt = g387419.toInt + 0 := by rw [gI_add hz387491 bg387419 (gBl (show Int32.toInt 0 = 0 by decide)) (by decide) (by decide), show Int32.toInt 0 = 0 from by decide]
                    have bz387491 : gB z387491 (-2147483648) 2147483647 := gB_add (gI_add hz387491 bg387419 (gBl (show Int32.toInt 0 = 0 by decide)) (by decide) (by decide)) bg387419 (gBl (show Int32.toInt 0 = 0 by decide)) (by decide) (by decide)
                    refine G_istore (L' := [(4, .int z387491), (7, .int 1), (6, .int 0), (5, .int g387418), (0, .ref q385691), (1, .int p385692), (2, .int p385693), (3, .int p385694)]) dr_cX17_mayMerge_118 (Nat.le_of_ble_eq_true rfl) rfl ?_
                    obtain ⟨z387492, hz387492⟩ : ∃ z : Int32, z = g387418 + Int32.ofInt 1 := ⟨_, rfl⟩
                    have ez387492 : z387492.toInt = g387418.toInt + 1 := gI_inc hz387492 (by decide) bg387418' (by decide) (by decide)
                    have bz387492 : gB z387492 1 2000 := ⟨by omega, by omega⟩
                    refine G_iinc (L' := [(5, .int z387492), (4, .int z387491), (7, .int 1), (6, .int 0), (0, .ref q385691), (1, .int p385692), (2, .int p385693), (3, .int p385694)]) z387492 3 dr_cX17_mayMerge_120 rfl hz387492.symm (Nat.le_of_ble_eq_true rfl) rfl ?_
                    refine G_goto 33 dr_cX17_mayMerge_123 (by decide +kernel) ?_
                    refine G_lv (L' := [(5, .int z387492), (4, .int z387491), (0, .ref q385691), (1, .int p385692), (2, .int p385693), (3, .int p385694)]) [0, 1, 4, 5, 6, 7] rfl ?_
                    exact ih33_387419 z387492 z387491 (gB_w bz387492 (by decide) (by decide)) (mz_up ez387492 (Int.le_trans bg387418'.2 (by decide)) hm33_387419)
                  · have r387493 : p385694.toInt ≤ z387488.toInt := gC_nlt hc387489
                    refine G_iconst 1 dr_cX17_mayMerge_112 (by decide +kernel) ?_
                    refine G_goto 117 dr_cX17_mayMerge_113 (by decide +kernel) ?_
                    refine G_iadd dr_cX17_mayMerge_117 (G_nam fun z387494 hz387494 => ?_)
                    have bz387494 : gB z387494 (-2147483648) 2147483647 := gB_any z387494
                    refine G_istore (L' := [(4, .int z387494), (7, .int 1), (6, .int 0), (5, .int g387418), (0, .ref q385691), (1, .int p385692), (2, .int p385693), (3, .int p385694)]) dr_cX17_mayMerge_118 (Nat.le_of_ble_eq_true rfl) rfl ?_
                    obtain ⟨z387495, hz387495⟩ : ∃ z : Int32, z = g387418 + Int32.ofInt 1 := ⟨_, rfl⟩
                    have ez387495 : z387495.toInt = g387418.toInt + 1 := gI_inc hz387495 (by decide) bg387418' (by decide) (by decide)
                    have bz387495 : gB z387495 1 2000 := ⟨by omega, by omega⟩
                    refine G_iinc (L' := [(5, .int z387495), (4, .int z387494), (7, .int 1), (6, .int 0), (0, .ref q385691), (1, .int p385692), (2, .int p385693), (3, .int p385694)]) z387495 3 dr_cX17_mayMerge_120 rfl hz387495.symm (Nat.le_of_ble_eq_true rfl) rfl ?_
                    refine G_goto 33 dr_cX17_mayMerge_123 (by decide +kernel) ?_
                    refine G_lv (L' := [(5, .int z387495), (4, .int z387494), (0, .ref q385691), (1, .int p385692), (2, .int p385693), (3, .int p385694)]) [0, 1, 4, 5, 6, 7] rfl ?_
                    exact ih33_387419 z387495 z387494 (gB_w bz387495 (by decide) (by decide)) (mz_up ez387495 (Int.le_trans bg387418'.2 (by decide)) hm33_387419)
              · change G _ _ _ _ _ _ _ (.int 1 :: _) _ _ _
                refine G_widen (cs' := 0) (sl' := 0) (by omega) (by omega) ?_
                refine G_istore (L' := [(6, .int 1), (5, .int g387418), (4, .int g387419), (0, .ref q385691), (1, .int p385692), (2, .int p385693), (3, .int p385694)]) dr_cX17_mayMerge_52 (Nat.le_of_ble_eq_true rfl) rfl ?_
                refine G_aload_n 3 dr_cX17_mayMerge_54 rfl ?_
                refine Gp_get 1 hm385702 he385703 dr_cX17_mayMerge_55 (gk_X17 D I) (Nat.le_of_ble_eq_true rfl) wr_7_75 rfl ?_
                refine G_iload_n 5 dr_cX17_mayMerge_58 rfl ?_
                obtain ⟨q387496, hx387498⟩ : ∃ x, x = γ 11 p385693.toInt.toNat := ⟨_, rfl⟩
                have ht387497 : rKd γ q387496 36 := by rw [hx387498]; exact (hg385752 _ (show p385693.toInt.toNat < 2000 by omega)).2.1
                refine Gp_aald 5 hm385749 he385750 dr_cX17_mayMerge_59 rfl rfl (gB_in bp385693' (by decide) (by decide)) ?_
                rw [show f385751 p385693.toNatClampNeg = some q387496 from (hg385752 _ (show p385693.toInt.toNat < 2000 by omega)).1.trans (by rw [hx387498])]
                change G _ _ _ _ _ _ _ (.ref q387496 :: _) _ _ _
                refine G_iload 1 dr_cX17_mayMerge_60 rfl ?_
                have hm387499 : q387496 ∈ P385689 := RS_m hT ht387497 (by decide)
                obtain ⟨f387501, he387500, wf387501⟩ := show rk_36 I (F385690 q387496) from RS_o hT ht387497
                refine Gw_callS (As := [.ref q387496, .int g387418]) (gV_ok D I) (cp_1838_SpillForgeModel_has l hl0 D I P385689 F385690 q387496 g387418 f387501 hm387499 he387500 (gB_w bg387418' (by decide) (by decide))) dr_cX17_mayMerge_62 ⟨wr_10_199, wr_1_14, wr_10_201, by decide, rfl, (Nat.le_of_ble_eq_true rfl), (Nat.le_of_ble_eq_true rfl)⟩ wr_10_200 (show 0 + 0 ≤ 0 by first | omega | decide) (show 0 + 0 ≤ 0 by first | omega | decide) (Nat.le_of_ble_eq_true rfl) (fun r387505 w387506 dc387502 ds387503 hp387504 => ?_) (fun _ _ _ _ _ z => z.elim)
                rcases hp387504 with ⟨z387507, z387508, rfl, rfl, hdc, hds, r387509, r387510, r387511, r387512⟩ | ⟨z387513, z387514, rfl, rfl, hdc, hds, r387515, r387516, r387517, r387518⟩
                · change G _ _ _ _ _ _ _ (.int 0 :: _) _ _ _
                  refine G_widen (cs' := 0) (sl' := 0) (by omega) (by omega) ?_
                  refine G_istore (L' := [(7, .int 0), (6, .int 1), (5, .int g387418), (4, .int g387419), (0, .ref q385691), (1, .int p385692), (2, .int p385693), (3, .int p385694)]) dr_cX17_mayMerge_65 (Nat.le_of_ble_eq_true rfl) rfl ?_
                  refine G_iload 1 dr_cX17_mayMerge_67 rfl ?_
                  refine G_if_ne 80 dr_cX17_mayMerge_69 (by decide +kernel) (fun _ => ?_) (fun hc => absurd hc (by decide))
                  refine G_iload 3 dr_cX17_mayMerge_80 rfl ?_
                  refine G_aload_n 4 dr_cX17_mayMerge_82 rfl ?_
                  refine Gp_get 1 hm385702 he385703 dr_cX17_mayMerge_83 (gk_X17 D I) (Nat.le_of_ble_eq_true rfl) wr_7_75 rfl ?_
                  refine G_iload 2 dr_cX17_mayMerge_86 rfl ?_
                  obtain ⟨q387520, hx387522⟩ : ∃ x, x = γ 11 g387418.toInt.toNat := ⟨_, rfl⟩
                  have ht387521 : rKd γ q387520 36 := by rw [hx387522]; exact (hg385752 _ (show g387418.toInt.toNat < 2000 by omega)).2.1
                  refine Gp_aald 5 hm385749 he385750 dr_cX17_mayMerge_88 rfl rfl (gB_in bg387418' (by decide) (by decide)) ?_
                  rw [show f385751 g387418.toNatClampNeg = some q387520 from (hg385752 _ (show g387418.toInt.toNat < 2000 by omega)).1.trans (by rw [hx387522])]
                  change G _ _ _ _ _ _ _ (.ref q387520 :: _) _ _ _
                  have hm387523 : q387520 ∈ P385689 := RS_m hT ht387521 (by decide)
                  obtain ⟨f387525, he387524, wf387525⟩ := show rk_36 I (F385690 q387520) from RS_o hT ht387521
                  refine Gw_callS (As := [.ref q387520]) (gV_ok D I) (cp_1892_SpillForgeModel_count l hl0 D I P385689 F385690 q387520 f387525 hm387523 he387524) dr_cX17_mayMerge_89 ⟨wr_11_12, wr_1_14, wr_11_14, by decide, rfl, (Nat.le_of_ble_eq_true rfl), (Nat.le_of_ble_eq_true rfl)⟩ wr_11_13 (show 0 + 0 ≤ 0 by first | omega | decide) (show 0 + 0 ≤ 0 by first | omega | decide) (Nat.le_of_ble_eq_true rfl) (fun r387529 w387530 dc387526 ds387527 hp387528 => ?_) (fun _ _ _ _ _ z => z.elim)
                  obtain ⟨o387531, rfl, rfl, hdc, hds⟩ := hp387528
                  have bo387531 := gB_any o387531
                  change G _ _ _ _ _ _ _ (.int o387531 :: _) _ _ _
                  refine G_widen (cs' := 0) (sl' := 0) (by omega) (by omega) ?_
                  refine G_iload 1 dr_cX17_mayMerge_92 rfl ?_
                  refine G_if_eq 106 dr_cX17_mayMerge_94 (by decide +kernel) (fun hc => absurd hc (by decide)) (fun _ => ?_)
                  refine G_iload 0 dr_cX17_mayMerge_97 rfl ?_
                  refine G_if_eq 106 dr_cX17_mayMerge_99 (by decide +kernel) (fun _ => ?_) (fun hc => absurd hc (by decide))
                  refine G_iconst 0 dr_cX17_mayMerge_106 (by decide +kernel) ?_
                  refine G_isub dr_cX17_mayMerge_107 (G_nam fun z387532 hz387532 => ?_)
                  have ez387532 : z387532.toInt = o387531.toInt - 0 := by rw [gI_sub hz387532 bo387531 (gBl (show Int32.toInt 0 = 0 by decide)) (by decide) (by decide), show Int32.toInt 0 = 0 from by decide]
                  have bz387532 : gB z387532 (-2147483648) 2147483647 := gB_sub (gI_sub hz387532 bo387531 (gBl (show Int32.toInt 0 = 0 by decide)) (by decide) (by decide)) bo387531 (gBl (show Int32.toInt 0 = 0 by decide)) (by decide) (by decide)
                  refine G_iload_n 7 dr_cX17_mayMerge_108 rfl ?_
                  refine G_icmp_lt 116 dr_cX17_mayMerge_109 (by decide +kernel) (fun hc387533 => ?_) (fun hc387533 => ?_)
                  · have r387534 : z387532.toInt < p385694.toInt := gC_lt hc387533
                    have bz387532' : gB z387532 (-2147483648) 2147483646 := ⟨by omega, by omega⟩
                    have bp385694' : gB p385694 (-2147483647) 2147483647 := ⟨by omega, by omega⟩
                    refine G_iconst 0 dr_cX17_mayMerge_116 (by decide +kernel) ?_
                    refine G_iadd dr_cX17_mayMerge_117 (G_nam fun z387535 hz387535 => ?_)
                    have ez387535 : z387535.toInt = g387419.toInt + 0 := by rw [gI_add hz387535 bg387419 (gBl (show Int32.toInt 0 = 0 by decide)) (by decide) (by decide), show Int32.toInt 0 = 0 from by decide]
                    have bz387535 : gB z387535 (-2147483648) 2147483647 := gB_add (gI_add hz387535 bg387419 (gBl (show Int32.toInt 0 = 0 by decide)) (by decide) (by decide)) bg387419 (gBl (show Int32.toInt 0 = 0 by decide)) (by decide) (by decide)
                    refine G_istore (L' := [(4, .int z387535), (7, .int 0), (6, .int 1), (5, .int g387418), (0, .ref q385691), (1, .int p385692), (2, .int p385693), (3, .int p385694)]) dr_cX17_mayMerge_118 (Nat.le_of_ble_eq_true rfl) rfl ?_
                    obtain ⟨z387536, hz387536⟩ : ∃ z : Int32, z = g387418 + Int32.ofInt 1 := ⟨_, rfl⟩
                    have ez387536 : z387536.toInt = g387418.toInt + 1 := gI_inc hz387536 (by decide) bg387418' (by decide) (by decide)
                    have bz387536 : gB z387536 1 2000 := ⟨by omega, by omega⟩
                    refine G_iinc (L' := [(5, .int z387536), (4, .int z387535), (7, .int 0), (6, .int 1), (0, .ref q385691), (1, .int p385692), (2, .int p385693), (3, .int p385694)]) z387536 3 dr_cX17_mayMerge_120 rfl hz387536.symm (Nat.le_of_ble_eq_true rfl) rfl ?_
                    refine G_goto 33 dr_cX17_mayMerge_123 (by decide +kernel) ?_
                    refine G_lv (L' := [(5, .int z387536), (4, .int z387535), (0, .ref q385691), (1, .int p385692), (2, .int p385693), (3, .int p385694)]) [0, 1, 4, 5, 6, 7] rfl ?_
                    exact ih33_387419 z387536 z387535 (gB_w bz387536 (by decide) (by decide)) (mz_up ez387536 (Int.le_trans bg387418'.2 (by decide)) hm33_387419)
                  · have r387537 : p385694.toInt ≤ z387532.toInt := gC_nlt hc387533
                    refine G_iconst 1 dr_cX17_mayMerge_112 (by decide +kernel) ?_
                    refine G_goto 117 dr_cX17_mayMerge_113 (by decide +kernel) ?_
                    refine G_iadd dr_cX17_mayMerge_117 (G_nam fun z387538 hz387538 => ?_)
                    have bz387538 : gB z387538 (-2147483648) 2147483647 := gB_any z387538
                    refine G_istore (L' := [(4, .int z387538), (7, .int 0), (6, .int 1), (5, .int g387418), (0, .ref q385691), (1, .int p385692), (2, .int p385693), (3, .int p385694)]) dr_cX17_mayMerge_118 (Nat.le_of_ble_eq_true rfl) rfl ?_
                    obtain ⟨z387539, hz387539⟩ : ∃ z : Int32, z = g387418 + Int32.ofInt 1 := ⟨_, rfl⟩
                    have ez387539 : z387539.toInt = g387418.toInt + 1 := gI_inc hz387539 (by decide) bg387418' (by decide) (by decide)
                    have bz387539 : gB z387539 1 2000 := ⟨by omega, by omega⟩
                    refine G_iinc (L' := [(5, .int z387539), (4, .int z387538), (7, .int 0), (6, .int 1), (0, .ref q385691), (1, .int p385692), (2, .int p385693), (3, .int p385694)]) z387539 3 dr_cX17_mayMerge_120 rfl hz387539.symm (Nat.le_of_ble_eq_true rfl) rfl ?_
                    refine G_goto 33 dr_cX17_mayMerge_123 (by decide +kernel) ?_
                    refine G_lv (L' := [(5, .int z387539), (4, .int z387538), (0, .ref q385691), (1, .int p385692), (2, .int p385693), (3, .int p385694)]) [0, 1, 4, 5, 6, 7] rfl ?_
                    exact ih33_387419 z387539 z387538 (gB_w bz387539 (by decide) (by decide)) (mz_up ez387539 (Int.le_trans bg387418'.2 (by decide)) hm33_387419)
                · change G _ _ _ _ _ _ _ (.int 1 :: _) _ _ _
                  refine G_widen (cs' := 0) (sl' := 0) (by omega) (by omega) ?_
                  refine G_istore (L' := [(7, .int 1), (6, .int 1), (5, .int g387418), (4, .int g387419), (0, .ref q385691), (1, .int p385692), (2, .int p385693), (3, .int p385694)]) dr_cX17_mayMerge_65 (Nat.le_of_ble_eq_true rfl) rfl ?_
                  refine G_iload 1 dr_cX17_mayMerge_67 rfl ?_
                  refine G_if_ne 80 dr_cX17_mayMerge_69 (by decide +kernel) (fun _ => ?_) (fun hc => absurd hc (by decide))
                  refine G_iload 3 dr_cX17_mayMerge_80 rfl ?_
                  refine G_aload_n 4 dr_cX17_mayMerge_82 rfl ?_
                  refine Gp_get 1 hm385702 he385703 dr_cX17_mayMerge_83 (gk_X17 D I) (Nat.le_of_ble_eq_true rfl) wr_7_75 rfl ?_
                  refine G_iload 2 dr_cX17_mayMerge_86 rfl ?_
                  obtain ⟨q387540, hx387542⟩ : ∃ x, x = γ 11 g387418.toInt.toNat := ⟨_, rfl⟩
                  have ht387541 : rKd γ q387540 36 := by rw [hx387542]; exact (hg385752 _ (show g387418.toInt.toNat < 2000 by omega)).2.1
                  refine Gp_aald 5 hm385749 he385750 dr_cX17_mayMerge_88 rfl rfl (gB_in bg387418' (by decide) (by decide)) ?_
                  rw [show f385751 g387418.toNatClampNeg = some q387540 from (hg385752 _ (show g387418.toInt.toNat < 2000 by omega)).1.trans (by rw [hx387542])]
                  change G _ _ _ _ _ _ _ (.ref q387540 :: _) _ _ _
                  have hm387543 : q387540 ∈ P385689 := RS_m hT ht387541 (by decide)
                  obtain ⟨f387545, he387544, wf387545⟩ := show rk_36 I (F385690 q387540) from RS_o hT ht387541
                  refine Gw_callS (As := [.ref q387540]) (gV_ok D I) (cp_1892_SpillForgeModel_count l hl0 D I P385689 F385690 q387540 f387545 hm387543 he387544) dr_cX17_mayMerge_89 ⟨wr_11_12, wr_1_14, wr_11_14, by decide, rfl, (Nat.le_of_ble_eq_true rfl), (Nat.le_of_ble_eq_true rfl)⟩ wr_11_13 (show 0 + 0 ≤ 0 by first | omega | decide) (show 0 + 0 ≤ 0 by first | omega | decide) (Nat.le_of_ble_eq_true rfl) (fun r387549 w387550 dc387546 ds387547 hp387548 => ?_) (fun _ _ _ _ _ z => z.elim)
                  obtain ⟨o387551, rfl, rfl, hdc, hds⟩ := hp387548
                  have bo387551 := gB_any o387551
                  change G _ _ _ _ _ _ _ (.int o387551 :: _) _ _ _
                  refine G_widen (cs' := 0) (sl' := 0) (by omega) (by omega) ?_
                  refine G_iload 1 dr_cX17_mayMerge_92 rfl ?_
                  refine G_if_eq 106 dr_cX17_mayMerge_94 (by decide +kernel) (fun hc => absurd hc (by decide)) (fun _ => ?_)
                  refine G_iload 0 dr_cX17_mayMerge_97 rfl ?_
                  refine G_if_eq 106 dr_cX17_mayMerge_99 (by decide +kernel) (fun hc => absurd hc (by decide)) (fun _ => ?_)
                  refine G_iconst 1 dr_cX17_mayMerge_102 (by decide +kernel) ?_
                  refine G_goto 107 dr_cX17_mayMerge_103 (by decide +kernel) ?_
                  refine G_isub dr_cX17_mayMerge_107 (G_nam fun z387552 hz387552 => ?_)
                  have bz387552 : gB z387552 (-2147483648) 2147483647 := gB_any z387552
                  refine G_iload_n 7 dr_cX17_mayMerge_108 rfl ?_
                  refine G_icmp_lt 116 dr_cX17_mayMerge_109 (by decide +kernel) (fun hc387553 => ?_) (fun hc387553 => ?_)
                  · have r387554 : z387552.toInt < p385694.toInt := gC_lt hc387553
                    have bz387552' : gB z387552 (-2147483648) 2147483646 := ⟨by omega, by omega⟩
                    have bp385694' : gB p385694 (-2147483647) 2147483647 := ⟨by omega, by omega⟩
                    refine G_iconst 0 dr_cX17_mayMerge_116 (by decide +kernel) ?_
                    refine G_iadd dr_cX17_mayMerge_117 (G_nam fun z387555 hz387555 => ?_)
                    have ez387555 : z387555.toInt = g387419.toInt + 0 := by rw [gI_add hz387555 bg387419 (gBl (show Int32.toInt 0 = 0 by decide)) (by decide) (by decide), show Int32.toInt 0 = 0 from by decide]
                    have bz387555 : gB z387555 (-2147483648) 2147483647 := gB_add (gI_add hz387555 bg387419 (gBl (show Int32.toInt 0 = 0 by decide)) (by decide) (by decide)) bg387419 (gBl (show Int32.toInt 0 = 0 by decide)) (by decide) (by decide)
                    refine G_istore (L' := [(4, .int z387555), (7, .int 1), (6, .int 1), (5, .int g387418), (0, .ref q385691), (1, .int p385692), (2, .int p385693), (3, .int p385694)]) dr_cX17_mayMerge_118 (Nat.le_of_ble_eq_true rfl) rfl ?_
                    obtain ⟨z387556, hz387556⟩ : ∃ z : Int32, z = g387418 + Int32.ofInt 1 := ⟨_, rfl⟩
                    have ez387556 : z387556.toInt = g387418.toInt + 1 := gI_inc hz387556 (by decide) bg387418' (by decide) (by decide)
                    have bz387556 : gB z387556 1 2000 := ⟨by omega, by omega⟩
                    refine G_iinc (L' := [(5, .int z387556), (4, .int z387555), (7, .int 1), (6, .int 1), (0, .ref q385691), (1, .int p385692), (2, .int p385693), (3, .int p385694)]) z387556 3 dr_cX17_mayMerge_120 rfl hz387556.symm (Nat.le_of_ble_eq_true rfl) rfl ?_
                    refine G_goto 33 dr_cX17_mayMerge_123 (by decide +kernel) ?_
                    refine G_lv (L' := [(5, .int z387556), (4, .int z387555), (0, .ref q385691), (1, .int p385692), (2, .int p385693), (3, .int p385694)]) [0, 1, 4, 5, 6, 7] rfl ?_
                    exact ih33_387419 z387556 z387555 (gB_w bz387556 (by decide) (by decide)) (mz_up ez387556 (Int.le_trans bg387418'.2 (by decide)) hm33_387419)
                  · have r387557 : p385694.toInt ≤ z387552.toInt := gC_nlt hc387553
                    refine G_iconst 1 dr_cX17_mayMerge_112 (by decide +kernel) ?_
                    refine G_goto 117 dr_cX17_mayMerge_113 (by decide +kernel) ?_
                    refine G_iadd dr_cX17_mayMerge_117 (G_nam fun z387558 hz387558 => ?_)
                    have bz387558 : gB z387558 (-2147483648) 2147483647 := gB_any z387558
                    refine G_istore (L' := [(4, .int z387558), (7, .int 1), (6, .int 1), (5, .int g387418), (0, .ref q385691), (1, .int p385692), (2, .int p385693), (3, .int p385694)]) dr_cX17_mayMerge_118 (Nat.le_of_ble_eq_true rfl) rfl ?_
                    obtain ⟨z387559, hz387559⟩ : ∃ z : Int32, z = g387418 + Int32.ofInt 1 := ⟨_, rfl⟩
                    have ez387559 : z387559.toInt = g387418.toInt + 1 := gI_inc hz387559 (by decide) bg387418' (by decide) (by decide)
                    have bz387559 : gB z387559 1 2000 := ⟨by omega, by omega⟩
                    refine G_iinc (L' := [(5, .int z387559), (4, .int z387558), (7, .int 1), (6, .int 1), (0, .ref q385691), (1, .int p385692), (2, .int p385693), (3, .int p385694)]) z387559 3 dr_cX17_mayMerge_120 rfl hz387559.symm (Nat.le_of_ble_eq_true rfl) rfl ?_
                    refine G_goto 33 dr_cX17_mayMerge_123 (by decide +kernel) ?_
                    refine G_lv (L' := [(5, .int z387559), (4, .int z387558), (0, .ref q385691), (1, .int p385692), (2, .int p385693), (3, .int p385694)]) [0, 1, 4, 5, 6, 7] rfl ?_
                    exact ih33_387419 z387559 z387558 (gB_w bz387559 (by decide) (by decide)) (mz_up ez387559 (Int.le_trans bg387418'.2 (by decide)) hm33_387419)
        exact hlp33_387419 (((2001 : Int) - 0).toNat + 1) 0 0 (gB_w (gBl (show Int32.toInt 0 = 0 by decide)) (by decide) (by decide)) (Nat.lt_succ_self _)
      · change G _ _ _ _ _ _ _ (.int 1 :: _) _ _ _
        refine G_widen (cs' := 0) (sl' := 0) (by omega) (by omega) ?_
        refine G_if_eq 27 dr_cX17_mayMerge_22 (by decide +kernel) (fun hc => absurd hc (by decide)) (fun _ => ?_)
        refine G_iconst 0 dr_cX17_mayMerge_25 (by decide +kernel) ?_
        exact G_zretA FieldType.boolean dr_cX17_mayMerge_26 rfl rfl (Nat.le_of_ble_eq_true rfl) (Nat.le_of_ble_eq_true rfl) ⟨0, rfl, rfl, (Nat.le_of_ble_eq_true rfl), (Nat.le_of_ble_eq_true rfl), (gB_w (gBl (show Int32.toInt 0 = 0 by decide)) (by decide) (by decide)), (by have qa0 : Int32.toInt 0 = 0 := (by decide); omega)⟩
abbrev ky_387568_SpillForgeModel_merge : gKey := (cX17_merge, 9, "SpillForgeModel", (some FieldType.boolean), [], "merge", fun _ _ => True)
def pg_387568_SpillForgeModel_merge (D : va_G) (I : FieldType → ClassId) (γ0 el0 : Nat → Nat → Nat) (f : Nat) (B : Nat) (P387562 : List Nat) (F387563 : Nat → va_E) (q387564 : Nat) (q387565 : Nat) (p387566 : Int32) : Option Value → va_W → Nat → Nat → Prop := fun r w dc ds => ∃ (P398141 : List Nat) (F398142 : Nat → va_E) (γ el : Nat → Nat → Nat) (o398140 : Int32), r = some (.int o398140) ∧ w = va_pl P398141 F398142 ∧ rSk f [] ([1, 3, 6] ++ npk) D I P387562 F387563 γ0 el0 P398141 F398142 γ el ∧ (18 * dc + rPh γ0 el0 f ≤ rPh γ el f ∧ ds + rPh γ0 el0 f ≤ rPh γ el f) ∧ rBd γ el f B ∧ gB o398140 0 1 ∧ γ 6 f = γ0 6 f ∧ γ 7 f = γ0 7 f ∧ γ 16 f = γ0 16 f ∧ γ 18 f = γ0 18 f ∧ (o398140.toInt = 0 ∨ rsum (fun i => γ 2 (γ 14 (el (γ 14 q387565) i))) (γ 6 f) + 1 ≤ rsum (fun i => γ0 2 (γ0 14 (el0 (γ0 14 q387565) i))) (γ0 6 f)) ∧ (∀ N : Nat → Prop, rPl γ0 el0 F387563 q387565 (γ0 6 f) (fun _ _ => rNx N) → rPl γ el F398142 q387565 (γ 6 f) (fun _ _ => rNx N)) ∧ (fI (F398142 q387564) 11).toInt = (fI (F387563 q387564) 11).toInt ∧ (fI (F398142 q387564) 14).toInt = (fI (F387563 q387564) 14).toInt ∧ (gIp (o398140.toInt = 0) (γ = γ0 ∧ el = el0 ∧ F398142 = F387563)) ∧ mKp (F387563 q387564) (F398142 q387564)
set_option maxRecDepth 100000 in
set_option maxHeartbeats 1500000 in
theorem cg_387568_SpillForgeModel_merge (l : Launch) (hl0 : l.stackTraces = false) (D : va_G) (I : FieldType → ClassId) (γ0 el0 : Nat → Nat → Nat) (f : Nat) (B : Nat) (P387562 : List Nat) (F387563 : Nat → va_E) (q387564 : Nat) (q387565 : Nat) (p387566 : Int32) (hT0 : RS D I P387562 F387563 γ0 el0) (hzq387564 : rKd γ0 q387564 10) (hzq387565 : rKd γ0 q387565 9) (hf0 : γ0 1 q387565 = f) (hB0 : rBd γ0 el0 f B) (hBk : B ≤ 100000) (x387567 : 0 < γ0 6 f) : CtA (gV D I) l yX17_merge cX17_merge 9 (some FieldType.boolean) 5 111 (((387 * B + 6000) - rPh γ0 el0 f) / 18) ((387 * B + 6000) - rPh γ0 el0 f) [.ref q387564, .ref q387565, .int p387566] (va_pl P387562 F387563) (pg_387568_SpillForgeModel_merge D I γ0 el0 f B P387562 F387563 q387564 q387565 p387566) gNA := by
  refine CtA_of hl0 (by decide) (Nat.le_of_ble_eq_true rfl) ?_
  have bp387566 := gB_any p387566
  obtain ⟨γ, hγ0⟩ : ∃ z, z = γ0 := ⟨_, rfl⟩
  obtain ⟨el, hel0⟩ : ∃ z, z = el0 := ⟨_, rfl⟩
  have hT : RS D I P387562 F387563 γ el := by rw [hγ0, hel0]; exact hT0
  have hst : rSk f [] ([1, 3, 6] ++ npk) D I P387562 F387563 γ0 el0 P387562 F387563 γ el := by rw [hγ0, hel0]; exact rSk_rf hT0
  have hph : rPh γ0 el0 f ≤ rPh γ el f := by rw [hγ0, hel0]; exact Nat.le_refl _
  have hB : rBd γ el f B := by rw [hγ0, hel0]; exact hB0
  have htq387564 : rKd γ q387564 10 := by rw [hγ0]; exact hzq387564
  have htq387565 : rKd γ q387565 9 := by rw [hγ0]; exact hzq387565
  have hf1 : γ 1 q387565 = f := by rw [hγ0]; exact hf0
  have x387567n : 0 < γ 6 f := by rw [hγ0]; exact x387567
  have pk387569 : rPh γ el f ≤ 387 * B + 6000 := rm_pk (rM_ge hT htq387565 hf1).1 (rM_bd hB)
  refine G_widen (cs' := ((rPh γ el f - rPh γ0 el0 f) / 18)) (sl' := (rPh γ el f - rPh γ0 el0 f)) (Nat.zero_le _) (Nat.zero_le _) ?_
  have e0_387570 : γ 6 f = γ0 6 f := by rw [hγ0]
  have e0_387571 : γ 7 f = γ0 7 f := by rw [hγ0]
  have e0_387572 : γ 16 f = γ0 16 f := by rw [hγ0]
  have e0_387573 : γ 18 f = γ0 18 f := by rw [hγ0]
  have e0_387574 : γ 19 f = γ0 19 f := by rw [hγ0]
  have v0_387575 : 0 < γ 6 (γ 1 q387565) := by rw [hf1, hγ0]; exact x387567
  have s0_387576 : rsum (fun i => γ 2 (γ 14 (el (γ 14 q387565) i))) (γ 6 f) = rsum (fun i => γ0 2 (γ0 14 (el0 (γ0 14 q387565) i))) (γ0 6 f) := by rw [hγ0, hel0]
  have hm387577 : q387564 ∈ P387562 := RS_m hT htq387564 (by decide)
  obtain ⟨q387579, q387580, p387581, p387582, p387583, p387584, p387585, p387586, p387587, p387588, p387589, p387590, p387591, p387592, p387593, p387594, p387595, he387578, hB387622, ht387596, ht387597, ht387598, ht387599, ht387600, ht387601, ht387602, ht387603, ht387604, ht387605, ht387606, ht387607, ht387608, ht387609, ht387610, ht387611, ht387612, ht387613, ht387614, ht387615, ht387616, ht387617, ht387618, ht387619, hB387623⟩ := show rk_10 γ (F387563 q387564) from RS_o hT htq387564
  have ac0_11 : (fI (F387563 q387564) 11).toInt = p387583.toInt := by rw [he387578]; rfl
  have ac0_14 : (fI (F387563 q387564) 14).toInt = p387586.toInt := by rw [he387578]; rfl
  have bp387583 : gB p387583 0 100 := (hB387622.2.2.1)
  have bp387586 : gB p387586 0 2000 := (hB387622.2.2.2.1)
  refine G_iconst 0 dr_cX17_merge_0 (by decide +kernel) ?_
  refine G_istore_n (L' := [(3, .int 0), (0, .ref q387564), (1, .ref q387565), (2, .int p387566)]) dr_cX17_merge_1 (Nat.le_of_ble_eq_true rfl) rfl ?_
  have hlp2_397348 : ∀ (n2_397348 : Nat) (g397348 : Int32), gB g397348 0 1000000 → ((1000001 : Int) - g397348.toInt).toNat < n2_397348 → G (gV D I) l (gRm 5 111 (((387 * B + 6000) - rPh γ0 el0 f) / 18) ((387 * B + 6000) - rPh γ0 el0 f)) (gMA (gV D I) (pg_387568_SpillForgeModel_merge D I γ0 el0 f B P387562 F387563 q387564 q387565 p387566) gNA (((387 * B + 6000) - rPh γ0 el0 f) / 18) ((387 * B + 6000) - rPh γ0 el0 f)) ky_387568_SpillForgeModel_merge 2 [(3, .int g397348), (0, .ref q387564), (1, .ref q387565), (2, .int p387566)] [] (va_pl P387562 F387563) ((rPh γ el f - rPh γ0 el0 f) / 18) (rPh γ el f - rPh γ0 el0 f) := by
    intro n2_397348
    induction n2_397348 with
    | zero => intro g397348 bg397348 hm2_397348; exact absurd hm2_397348 (Nat.not_lt_zero _)
    | succ n2_397348 ih2_397348 =>
      intro g397348 bg397348 hm2_397348
      refine G_iload_n 0 dr_cX17_merge_2 rfl ?_
      refine G_aload_n 2 dr_cX17_merge_3 rfl ?_
      have hm397350 : q387565 ∈ P387562 := RS_m hT htq387565 (by decide)
      obtain ⟨q397352, q397353, p397354, p397355, he397351, ht397371, ht397356, ht397357, ht397358, ht397359, r397360, r397361, r397362, r397363, r397364, r397365, r397366, r397367, r397368, r397369, r397370⟩ := show rk_9 γ el q387565 (F387563 q387565) from RS_o hT htq387565
      have bp397354 : gB p397354 0 1000000 := ⟨by omega, by omega⟩
      have bp397355 : gB p397355 0 1000000 := ⟨by omega, by omega⟩
      have hf397372 : γ 1 q397352 = f := (show γ 1 q397352 = γ 1 q387565 from ht397357).trans hf1
      have hf397373 : γ 1 q397353 = f := (show γ 1 q397353 = γ 1 q387565 from ht397359).trans hf1
      have r397374 : γ 6 (γ 1 q387565) = γ 6 f := by rw [hf1]
      have r397375 : γ 16 (γ 1 q387565) = γ 16 f := by rw [hf1]
      have r397376 : p397355.toInt = γ 6 f ∧ p397355.toInt ≤ 40 := by omega
      clear r397366
      refine Gw_callV (As := []) (gV_ok D I) (cp_12496_Code_size l hl0 D I P387562 F387563 q387565 q397352 q397353 p397354 p397355 hm397350 he397351) dr_cX17_merge_4 ⟨wr_10_156, wr_1_15, wr_9_127, by decide, rfl, (Nat.le_of_ble_eq_true rfl), (Nat.le_of_ble_eq_true rfl)⟩ wr_9_125 wr_9_126 hm397350 he397351 rfl (rm_zc pk387569) (rm_zs pk387569) (Nat.le_of_ble_eq_true rfl) (fun r397380 w397381 dc397377 ds397378 hp397379 => ?_) (fun _ _ _ _ _ z => z.elim)
      obtain ⟨rfl, rfl, hdc, hds⟩ := hp397379
      change G _ _ _ _ _ _ _ (.int p397355 :: _) _ _ _
      refine G_widen (cs' := ((rPh γ el f - rPh γ0 el0 f) / 18)) (sl' := (rPh γ el f - rPh γ0 el0 f)) (rm_d0 hdc) (rm_d0 hds) ?_
      refine G_icmp_ge 178 dr_cX17_merge_7 (by decide +kernel) (fun hc397382 => ?_) (fun hc397382 => ?_)
      · have r397383 : p397355.toInt ≤ g397348.toInt := gC_le hc397382
        have ac397384 : (fI (F387563 q387564) 11).toInt = p387583.toInt := by rw [he387578]; rfl
        have ac397385 : (fI (F387563 q387564) 14).toInt = p387586.toInt := by rw [he387578]; rfl
        refine G_iconst 0 dr_cX17_merge_178 (by decide +kernel) ?_
        exact G_zretA FieldType.boolean dr_cX17_merge_179 rfl rfl (show ((rPh γ el f - rPh γ0 el0 f) / 18) ≤ (((387 * B + 6000) - rPh γ0 el0 f) / 18) by omega) (show (rPh γ el f - rPh γ0 el0 f) ≤ ((387 * B + 6000) - rPh γ0 el0 f) by omega) ⟨P387562, F387563, γ, el, 0, rfl, rfl, hst, ⟨by omega, by omega⟩, hB, (gB_w (gBl (show Int32.toInt 0 = 0 by decide)) (by decide) (by decide)), (by have qa0 : Int32.toInt 0 = 0 := (by decide); omega), (by have qa0 : Int32.toInt 0 = 0 := (by decide); omega), (by have qa0 : Int32.toInt 0 = 0 := (by decide); omega), (by have qa0 : Int32.toInt 0 = 0 := (by decide); omega), (Or.inl (by decide)), (fun N h => by rw [hγ0, hel0]; exact h), (by have qa0 : Int32.toInt 0 = 0 := (by decide); omega), (by have qa0 : Int32.toInt 0 = 0 := (by decide); omega), (fun _ => ⟨hγ0, hel0, rfl⟩), mKp_rf⟩
      · have r397386 : g397348.toInt < p397355.toInt := gC_nle hc397382
        have bg397348' : gB g397348 0 999999 := ⟨by omega, by omega⟩
        have bp397355' : gB p397355 1 1000000 := ⟨by omega, by omega⟩
        refine G_aload_n 2 dr_cX17_merge_10 rfl ?_
        refine G_iload_n 0 dr_cX17_merge_11 rfl ?_
        have hm397387 : q397352 ∈ P387562 := RS_m hT ht397356 (by decide)
        obtain ⟨⟨p397389, p397390, q397391, he397388, r397392, r397393, r397394, r397396⟩, r397395⟩ := show rk_4 D I γ el F387563 q397352 from RS_o hT ht397356
        have bp397389 := gB_any p397389
        have bp397390 : gB p397390 0 1000000 := ⟨by omega, by omega⟩
        obtain ⟨r397397, r397398, n397405, f397406, r397399, r397400, r397401, r397402, r397403, r397404⟩ := rLC_n r397394 (by omega)
        have hm397407 : q397391 ∈ P387562 := RS_m hT r397397 (by decide)
        obtain ⟨q397408, hx397409⟩ : ∃ x, x = el q397352 g397348.toInt.toNat := ⟨_, rfl⟩
        have hx397410 : f397406 g397348.toNatClampNeg = some q397408 := (r397403 _ (show g397348.toInt.toNat < γ 2 q397352 by first | assumption | omega)).trans (by rw [hx397409])
        have ht397413 : rKd γ q397408 2 := by rw [hx397409]; exact (r397367 _ (by omega)).resolve_right (fun z => absurd z.1 (by omega))
        have ht397414 : rFm γ q397408 q397352 := by rw [hx397409]; exact (r397395 _ (show g397348.toInt.toNat < γ 2 q397352 by omega)).2.1
        have hm397415 : q397408 ∈ P387562 := RS_m hT ht397413 (by decide)
        obtain ⟨q397417, q397418, p397419, p397420, he397416, ht397427, ht397421, ht397422, ht397423, ht397424, ht397425, bp397419, bp397420, r397426, r397428, r397429⟩ := show rk_2 γ q397408 (F387563 q397408) from RS_o hT ht397413
        refine Gw_callV (As := [.int g397348]) (gV_ok D I) (cp_7737_Code_get l hl0 D I P387562 F387563 q387565 q397352 q397391 g397348 q397353 p397354 p397355 p397389 p397390 f397406 n397405 q397408 q397417 q397418 p397419 p397420 hm397350 hm397387 hm397407 hm397415 he397351 he397388 r397399 he397416 (gB_w bg397348' (by decide) (by decide)) (gB_w bp397390 (by decide) (by decide)) (by omega) (by omega) (by assumption) (by omega)) dr_cX17_merge_12 ⟨wr_10_157, wr_1_15, wr_10_137, by decide, rfl, (Nat.le_of_ble_eq_true rfl), (Nat.le_of_ble_eq_true rfl)⟩ wr_10_135 wr_10_136 hm397350 he397351 rfl (rm_zc pk387569) (rm_zs pk387569) (Nat.le_of_ble_eq_true rfl) (fun r397433 w397434 dc397430 ds397431 hp397432 => ?_) (fun _ _ _ _ _ z => z.elim)
        obtain ⟨rfl, rfl, hdc, hds⟩ := hp397432
        change G _ _ _ _ _ _ _ (.ref q397408 :: _) _ _ _
        refine G_widen (cs' := ((rPh γ el f - rPh γ0 el0 f) / 18)) (sl' := (rPh γ el f - rPh γ0 el0 f)) (rm_d0 hdc) (rm_d0 hds) ?_
        have hf397435 : γ 1 q397408 = f := (show γ 1 q397408 = γ 1 q397352 from ht397414).trans ((show γ 1 q397352 = γ 1 q387565 from ht397357).trans hf1)
        have hf397436 : γ 1 q397417 = f := (show γ 1 q397417 = γ 1 q397408 from ht397422).trans hf397435
        have hf397437 : γ 1 q397418 = f := (show γ 1 q397418 = γ 1 q397408 from ht397424).trans hf397435
        have r397438 : γ 6 (γ 1 q397408) = γ 6 f := by rw [hf397435]
        have r397439 : γ 7 (γ 1 q397408) = γ 7 f := by rw [hf397435]
        have r397440 : γ 19 (γ 1 q397408) = γ 19 f := by rw [hf397435]
        have r397441 := r397426.resolve_left (by omega)
        clear r397426
        have r397442 : γ 2 (γ 14 q397408) = γ 2 q397417 := by rw [ht397427.1]
        have r397443 : g397348.toInt.toNat < γ 2 (γ 14 q387565) := by rw [ht397371.1]; omega
        have r397444 : el (γ 14 q387565) g397348.toInt.toNat = q397408 := by rw [ht397371.1, hx397409]
        refine G_astore (L' := [(4, .ref q397408), (3, .int g397348), (0, .ref q387564), (1, .ref q387565), (2, .int p387566)]) dr_cX17_merge_15 (Nat.le_of_ble_eq_true rfl) rfl ?_
        refine G_iconst 0 dr_cX17_merge_17 (by decide +kernel) ?_
        refine G_istore (L' := [(5, .int 0), (4, .ref q397408), (3, .int g397348), (0, .ref q387564), (1, .ref q387565), (2, .int p387566)]) dr_cX17_merge_18 (Nat.le_of_ble_eq_true rfl) rfl ?_
        have hlp20_397786 : ∀ (n20_397786 : Nat) (g397786 : Int32), gB g397786 0 1000000 → ((1000001 : Int) - g397786.toInt).toNat < n20_397786 → G (gV D I) l (gRm 5 111 (((387 * B + 6000) - rPh γ0 el0 f) / 18) ((387 * B + 6000) - rPh γ0 el0 f)) (gMA (gV D I) (pg_387568_SpillForgeModel_merge D I γ0 el0 f B P387562 F387563 q387564 q387565 p387566) gNA (((387 * B + 6000) - rPh γ0 el0 f) / 18) ((387 * B + 6000) - rPh γ0 el0 f)) ky_387568_SpillForgeModel_merge 20 [(5, .int g397786), (4, .ref q397408), (3, .int g397348), (0, .ref q387564), (1, .ref q387565), (2, .int p387566)] [] (va_pl P387562 F387563) ((rPh γ el f - rPh γ0 el0 f) / 18) (rPh γ el f - rPh γ0 el0 f) := by
          intro n20_397786
          induction n20_397786 with
          | zero => intro g397786 bg397786 hm20_397786; exact absurd hm20_397786 (Nat.not_lt_zero _)
          | succ n20_397786 ih20_397786 =>
            intro g397786 bg397786 hm20_397786
            refine G_iload 0 dr_cX17_merge_20 rfl ?_
            refine G_aload 1 dr_cX17_merge_22 rfl ?_
            refine Gp_get 0 hm397415 he397416 dr_cX17_merge_24 (gk_X12 D I) (Nat.le_of_ble_eq_true rfl) wr_9_216 rfl ?_
            have hm397788 : q397417 ∈ P387562 := RS_m hT ht397421 (by decide)
            obtain ⟨⟨p397790, p397791, q397792, he397789, r397793, r397794, r397795, r397797⟩, r397796⟩ := show rk_3 D I γ el F387563 q397417 from RS_o hT ht397421
            have bp397790 := gB_any p397790
            have bp397791 : gB p397791 0 1000000 := ⟨by omega, by omega⟩
            refine Gw_callV (As := []) (gV_ok D I) (cp_7_ArrayList_size l hl0 D I P387562 F387563 q397417 p397790 q397792 p397791 hm397788 he397789 (gB_w bp397791 (by decide) (by decide))) dr_cX17_merge_27 ⟨wr_10_196, wr_1_18, wr_9_156, by decide, rfl, (Nat.le_of_ble_eq_true rfl), (Nat.le_of_ble_eq_true rfl)⟩ wr_9_154 wr_9_155 hm397788 he397789 rfl (rm_zc pk387569) (rm_zs pk387569) (Nat.le_of_ble_eq_true rfl) (fun r397801 w397802 dc397798 ds397799 hp397800 => ?_) (fun _ _ _ _ _ z => z.elim)
            obtain ⟨rfl, rfl, hdc, hds⟩ := hp397800
            change G _ _ _ _ _ _ _ (.int p397791 :: _) _ _ _
            refine G_widen (cs' := ((rPh γ el f - rPh γ0 el0 f) / 18)) (sl' := (rPh γ el f - rPh γ0 el0 f)) (rm_d0 hdc) (rm_d0 hds) ?_
            refine G_icmp_ge 172 dr_cX17_merge_30 (by decide +kernel) (fun hc397803 => ?_) (fun hc397803 => ?_)
            · have r397804 : p397791.toInt ≤ g397786.toInt := gC_le hc397803
              obtain ⟨z397805, hz397805⟩ : ∃ z : Int32, z = g397348 + Int32.ofInt 1 := ⟨_, rfl⟩
              have ez397805 : z397805.toInt = g397348.toInt + 1 := gI_inc hz397805 (by decide) bg397348' (by decide) (by decide)
              have bz397805 : gB z397805 1 1000000 := ⟨by omega, by omega⟩
              refine G_iinc (L' := [(3, .int z397805), (5, .int g397786), (4, .ref q397408), (0, .ref q387564), (1, .ref q387565), (2, .int p387566)]) z397805 2 dr_cX17_merge_172 rfl hz397805.symm (Nat.le_of_ble_eq_true rfl) rfl ?_
              refine G_goto 2 dr_cX17_merge_175 (by decide +kernel) ?_
              refine G_lv (L' := [(3, .int z397805), (0, .ref q387564), (1, .ref q387565), (2, .int p387566)]) [0, 3, 4, 5] rfl ?_
              exact ih2_397348 z397805 (gB_w bz397805 (by decide) (by decide)) (by omega)
            · have r397806 : g397786.toInt < p397791.toInt := gC_nle hc397803
              have bg397786' : gB g397786 0 999999 := ⟨by omega, by omega⟩
              have bp397791' : gB p397791 1 1000000 := ⟨by omega, by omega⟩
              refine G_aload 1 dr_cX17_merge_33 rfl ?_
              refine Gp_get 0 hm397415 he397416 dr_cX17_merge_35 (gk_X12 D I) (Nat.le_of_ble_eq_true rfl) wr_9_216 rfl ?_
              refine G_iload 0 dr_cX17_merge_38 rfl ?_
              obtain ⟨r397807, r397808, n397815, f397816, r397809, r397810, r397811, r397812, r397813, r397814⟩ := rLC_n r397795 (by omega)
              have hm397817 : q397792 ∈ P387562 := RS_m hT r397807 (by decide)
              obtain ⟨q397818, hx397819⟩ : ∃ x, x = el q397417 g397786.toInt.toNat := ⟨_, rfl⟩
              have hx397820 : f397816 g397786.toNatClampNeg = some q397818 := (r397813 _ (show g397786.toInt.toNat < γ 2 q397417 by first | assumption | omega)).trans (by rw [hx397819])
              have ht397821 : rKd γ q397818 1 := by rw [hx397819]; exact (r397796 _ (show g397786.toInt.toNat < γ 2 q397417 by first | assumption | omega)).1
              have ht397822 : rFm γ q397818 q397417 := by rw [hx397819]; exact (r397796 _ (show g397786.toInt.toNat < γ 2 q397417 by first | assumption | omega)).2.1
              have hf397823 : γ 1 q397818 = f := (show γ 1 q397818 = γ 1 q397417 from ht397822).trans hf397436
              refine Gw_callV (As := [.int g397786]) (gV_ok D I) (cp_22_ArrayList_get l hl0 D I P387562 F387563 q397417 q397792 g397786 p397790 p397791 f397816 n397815 q397818 hm397788 hm397817 he397789 r397809 (gB_w bg397786' (by decide) (by decide)) (gB_w bp397791' (by decide) (by decide)) (by omega) (by omega) (by assumption) (by omega)) dr_cX17_merge_40 ⟨wr_10_197, wr_1_18, wr_10_61, by decide, rfl, (Nat.le_of_ble_eq_true rfl), (Nat.le_of_ble_eq_true rfl)⟩ wr_10_59 wr_10_60 hm397788 he397789 rfl (rm_zc pk387569) (rm_zs pk387569) (Nat.le_of_ble_eq_true rfl) (fun r397827 w397828 dc397824 ds397825 hp397826 => ?_) (fun _ _ _ _ _ z => z.elim)
              obtain ⟨rfl, rfl, hdc, hds⟩ := hp397826
              change G _ _ _ _ _ _ _ (.ref q397818 :: _) _ _ _
              refine G_widen (cs' := ((rPh γ el f - rPh γ0 el0 f) / 18)) (sl' := (rPh γ el f - rPh γ0 el0 f)) (rm_d0 hdc) (rm_d0 hds) ?_
              have hm397829 : q397818 ∈ P387562 := RS_m hT ht397821 (by decide)
              obtain ⟨p397831, p397832, p397833, p397834, p397835, p397836, p397837, he397830, bp397831, bp397832, bp397835, bp397836, bp397837, r397838, r397839, r397840, r397841, r397842⟩ := show rk_1 γ q397818 (F387563 q397818) from RS_o hT ht397821
              have bp397833 := gB_any p397833
              have bp397834 := gB_any p397834
              have r397843 : γ 7 (γ 1 q397818) = γ 7 f := by rw [hf397823]
              refine Gp_cast hm397829 he397830 rfl dr_cX17_merge_43 wr_10_198 (gr_cast 1 rfl) ?_
              refine G_astore (L' := [(6, .ref q397818), (5, .int g397786), (4, .ref q397408), (3, .int g397348), (0, .ref q387564), (1, .ref q387565), (2, .int p387566)]) dr_cX17_merge_46 (Nat.le_of_ble_eq_true rfl) rfl ?_
              refine G_aload 0 dr_cX17_merge_48 rfl ?_
              refine Gp_get 0 hm397829 he397830 dr_cX17_merge_50 (gk_X15 D I) (Nat.le_of_ble_eq_true rfl) wr_9_173 rfl ?_
              refine G_if_ne 166 dr_cX17_merge_53 (by decide +kernel) (fun hc397844 => ?_) (fun hc397844 => ?_)
              · have r397845 : p397831.toInt ≠ 0 := gj_neq hc397844 (show Int32.toInt 0 = 0 by decide)
                have bp397831' : gB p397831 1 32 := ⟨by omega, by omega⟩
                obtain ⟨z397846, hz397846⟩ : ∃ z : Int32, z = g397786 + Int32.ofInt 1 := ⟨_, rfl⟩
                have ez397846 : z397846.toInt = g397786.toInt + 1 := gI_inc hz397846 (by decide) bg397786' (by decide) (by decide)
                have bz397846 : gB z397846 1 1000000 := ⟨by omega, by omega⟩
                refine G_iinc (L' := [(5, .int z397846), (6, .ref q397818), (4, .ref q397408), (3, .int g397348), (0, .ref q387564), (1, .ref q387565), (2, .int p387566)]) z397846 1 dr_cX17_merge_166 rfl hz397846.symm (Nat.le_of_ble_eq_true rfl) rfl ?_
                refine G_goto 20 dr_cX17_merge_169 (by decide +kernel) ?_
                refine G_lv (L' := [(5, .int z397846), (4, .ref q397408), (3, .int g397348), (0, .ref q387564), (1, .ref q387565), (2, .int p387566)]) [0, 2, 3, 4, 5, 6] rfl ?_
                exact ih20_397786 z397846 (gB_w bz397846 (by decide) (by decide)) (by omega)
              · have r397847 : p397831.toInt = 0 := gj_eq hc397844 (show Int32.toInt 0 = 0 by decide)
                have bp397831' : gB p397831 0 0 := ⟨by omega, by omega⟩
                refine G_aload 0 dr_cX17_merge_56 rfl ?_
                refine Gp_get 5 hm397829 he397830 dr_cX17_merge_58 (gk_X15 D I) (Nat.le_of_ble_eq_true rfl) wr_9_193 rfl ?_
                refine G_if_eq 166 dr_cX17_merge_61 (by decide +kernel) (fun hc397848 => ?_) (fun hc397848 => ?_)
                · have r397849 : p397836.toInt = 0 := gj_eq hc397848 (show Int32.toInt 0 = 0 by decide)
                  have bp397836' : gB p397836 0 0 := ⟨by omega, by omega⟩
                  obtain ⟨z397850, hz397850⟩ : ∃ z : Int32, z = g397786 + Int32.ofInt 1 := ⟨_, rfl⟩
                  have ez397850 : z397850.toInt = g397786.toInt + 1 := gI_inc hz397850 (by decide) bg397786' (by decide) (by decide)
                  have bz397850 : gB z397850 1 1000000 := ⟨by omega, by omega⟩
                  refine G_iinc (L' := [(5, .int z397850), (6, .ref q397818), (4, .ref q397408), (3, .int g397348), (0, .ref q387564), (1, .ref q387565), (2, .int p387566)]) z397850 1 dr_cX17_merge_166 rfl hz397850.symm (Nat.le_of_ble_eq_true rfl) rfl ?_
                  refine G_goto 20 dr_cX17_merge_169 (by decide +kernel) ?_
                  refine G_lv (L' := [(5, .int z397850), (4, .ref q397408), (3, .int g397348), (0, .ref q387564), (1, .ref q387565), (2, .int p387566)]) [0, 2, 3, 4, 5, 6] rfl ?_
                  exact ih20_397786 z397850 (gB_w bz397850 (by decide) (by decide)) (by omega)
                · have r397851 : p397836.toInt ≠ 0 := gj_neq hc397848 (show Int32.toInt 0 = 0 by decide)
                  have bp397836' : gB p397836 1 1 := ⟨by omega, by omega⟩
                  refine G_aload 0 dr_cX17_merge_64 rfl ?_
                  refine Gp_get 1 hm397829 he397830 dr_cX17_merge_66 (gk_X15 D I) (Nat.le_of_ble_eq_true rfl) wr_9_178 rfl ?_
                  refine G_aload 0 dr_cX17_merge_69 rfl ?_
                  refine Gp_get 2 hm397829 he397830 dr_cX17_merge_71 (gk_X15 D I) (Nat.le_of_ble_eq_true rfl) wr_9_182 rfl ?_
                  refine G_icmp_eq 98 dr_cX17_merge_74 (by decide +kernel) (fun hc397852 => ?_) (fun hc397852 => ?_)
                  · have r397853 : p397832.toInt = p397833.toInt := gC_eq hc397852
                    have bp397833' : gB p397833 0 1999 := ⟨by omega, by omega⟩
                    refine G_aload 0 dr_cX17_merge_98 rfl ?_
                    refine Gp_get 1 hm397829 he397830 dr_cX17_merge_100 (gk_X15 D I) (Nat.le_of_ble_eq_true rfl) wr_9_178 rfl ?_
                    refine G_aload 0 dr_cX17_merge_103 rfl ?_
                    refine Gp_get 2 hm397829 he397830 dr_cX17_merge_105 (gk_X15 D I) (Nat.le_of_ble_eq_true rfl) wr_9_182 rfl ?_
                    refine G_mmin dr_cX17_merge_108 wr_11_16 wr_3_227 wr_1_6 wr_3_228 (Nat.le_of_ble_eq_true rfl) (Nat.le_of_ble_eq_true rfl) (show ((rPh γ el f - rPh γ0 el0 f) / 18) ≤ (((387 * B + 6000) - rPh γ0 el0 f) / 18) by first | omega | decide) (show (rPh γ el f - rPh γ0 el0 f) ≤ ((387 * B + 6000) - rPh γ0 el0 f) by first | omega | decide) (G_nam fun z397854 hz397854 => ?_)
                    have ez397854 : p397832.toInt ≥ z397854.toInt ∧ p397833.toInt ≥ z397854.toInt ∧ (z397854.toInt = p397832.toInt ∨ z397854.toInt = p397833.toInt) := by have := gI_min hz397854; omega
                    have bz397854 : gB z397854 0 1999 := ⟨by omega, by omega⟩
                    refine G_istore (L' := [(7, .int z397854), (6, .ref q397818), (5, .int g397786), (4, .ref q397408), (3, .int g397348), (0, .ref q387564), (1, .ref q387565), (2, .int p387566)]) dr_cX17_merge_111 (Nat.le_of_ble_eq_true rfl) rfl ?_
                    refine G_aload 1 dr_cX17_merge_113 rfl ?_
                    refine Gp_get 1 hm397829 he397830 dr_cX17_merge_115 (gk_X15 D I) (Nat.le_of_ble_eq_true rfl) wr_9_178 rfl ?_
                    refine G_aload 1 dr_cX17_merge_118 rfl ?_
                    refine Gp_get 2 hm397829 he397830 dr_cX17_merge_120 (gk_X15 D I) (Nat.le_of_ble_eq_true rfl) wr_9_182 rfl ?_
                    refine G_mmax dr_cX17_merge_123 wr_11_17 wr_1_140 wr_1_6 wr_1_141 (Nat.le_of_ble_eq_true rfl) (Nat.le_of_ble_eq_true rfl) (show ((rPh γ el f - rPh γ0 el0 f) / 18) ≤ (((387 * B + 6000) - rPh γ0 el0 f) / 18) by first | omega | decide) (show (rPh γ el f - rPh γ0 el0 f) ≤ ((387 * B + 6000) - rPh γ0 el0 f) by first | omega | decide) (G_nam fun z397855 hz397855 => ?_)
                    have ez397855 : p397832.toInt ≤ z397855.toInt ∧ p397833.toInt ≤ z397855.toInt ∧ (z397855.toInt = p397832.toInt ∨ z397855.toInt = p397833.toInt) := by have := gI_max hz397855; omega
                    have bz397855 : gB z397855 0 1999 := ⟨by omega, by omega⟩
                    refine G_istore (L' := [(8, .int z397855), (7, .int z397854), (6, .ref q397818), (5, .int g397786), (4, .ref q397408), (3, .int g397348), (0, .ref q387564), (1, .ref q387565), (2, .int p387566)]) dr_cX17_merge_126 (Nat.le_of_ble_eq_true rfl) rfl ?_
                    refine G_aload 4 dr_cX17_merge_128 rfl ?_
                    refine Gp_get 0 hm397415 he397416 dr_cX17_merge_130 (gk_X12 D I) (Nat.le_of_ble_eq_true rfl) wr_9_216 rfl ?_
                    refine G_iload 3 dr_cX17_merge_133 rfl ?_
                    have rg397856 := rM_ge hT htq387565 hf1
                    have rm397857 := rM_bd hB
                    have bd397858 := rBd_c hT htq387565 hf1 hB
                    have rc397859 := rc_at hT htq387565 hf1
                    have r397861 : γ 14 (el (γ 14 q387565) g397348.toInt.toNat) = q397417 := by rw [r397444]; exact ht397427.1
                    have r397862 := rg397856.2.2 _ r397443
                    rw [r397861] at r397862
                    have r397863 := bd397858.2.2.2 _ r397443
                    rw [r397861] at r397863
                    obtain ⟨q397865, hq397865⟩ : ∃ x, x = el q397417 g397786.toInt.toNat := ⟨_, rfl⟩
                    refine Gt_rem (c := q387565) (f := f) hl0 dr_cX17_merge_135 ⟨wr_11_18, wr_1_18, wr_11_21, by decide, rfl, (Nat.le_of_ble_eq_true rfl), (Nat.le_of_ble_eq_true rfl)⟩ wr_11_19 wr_11_20 hT ht397421 hf397436 htq387565 hf1 (by omega) (by omega) (rm_zc pk387569) (rm_zs pk387569) (Nat.le_of_ble_eq_true rfl) (fun F397860 γ el hq397864 => ?_)
                    rw [← hq397865]
                    have vv397877 := RS_valid hT0 hzq387565 hf0 x387567
                    rw [← hγ0] at vv397877
                    have sm397876 := rDq_sum (m := γ0 6 f) hT htq387565 hf1 (show g397348.toInt.toNat < γ0 6 f by omega) (by omega) r397861 (show g397786.toInt.toNat < _ by omega) hq397864
                    rw [hγ0, hel0] at sm397876
                    have dn397878 := fun (N : Nat → Prop) hN => rPl_dx (N := N) hT htq387565 hf1 hq397864 r397861 (show g397348.toInt.toNat < _ by omega) (show g397786.toInt.toNat < _ by omega) hN
                    rw [hγ0, hel0] at dn397878
                    have nm397879 := fun (N : Nat → Prop) hN => rPl_nm (N := N) (f := f) (j := g397786.toInt.toNat) hN (show g397348.toInt.toNat < _ by omega) r397861 (show g397786.toInt.toNat < _ by omega) hx397819.symm he397830 (by omega) (by omega)
                    rw [hγ0, hel0] at nm397879
                    obtain ⟨hk397866, h2397867, hel397868, hot397869, h16397870, h18397871, hnu397872, hr397873, hM397874, hBB397875⟩ := hq397864
                    have hk397880 := rSk_of hk397866
                    have r397881 : (fI (F397860 q387565) 3).toInt = (fI (F387563 q387565) 3).toInt := by rw [rSk_F hk397880 htq387565 (by decide) (by decide)]
                    have hT397882 := hk397880.1
                    have hs397883 := rSk_tr hst hk397880 (by decide) (by decide) (by decide)
                    have kp397884 : F397860 q387564 = F387563 q387564 := rSk_F hk397880 htq387564 (by decide) (by decide)
                    have r397885 := rSk_F hk397880 htq387564 (by decide) (by decide)
                    have ht397886 : rKd γ q387564 10 := rSk_k hk397880 htq387564 (by decide) (by decide)
                    have ht397887 : rKd γ q387565 9 := rSk_k hk397880 htq387565 (by decide) (by decide)
                    have hf397888 : γ 1 q387565 = f := rSk_1 hk397880 htq387565 (by decide) hf1
                    have ht397889 : rKd γ q397408 2 := rSk_k hk397880 ht397413 (by decide) (by decide)
                    have hf397890 : γ 1 q397408 = f := rSk_1 hk397880 ht397413 (by decide) hf397435
                    have ht397891 : rKd γ q397417 3 := rSk_k hk397880 ht397421 (by decide) (by decide)
                    have hf397892 : γ 1 q397417 = f := rSk_1 hk397880 ht397421 (by decide) hf397436
                    have ht397893 : rKd γ q397818 1 := rSk_k hk397880 ht397821 (by decide) (by decide)
                    have hf397894 : γ 1 q397818 = f := rSk_1 hk397880 ht397821 (by decide) hf397823
                    have mk397895 : mKp (F387563 q387564) (F397860 q387564) := mKp_tr mKp_rf (mKp_eq (rSk_F hk397880 htq387564 (by decide) (by decide)))
                    have r397896 := (rSk_s hk397880 htq387565 (by decide)).2.1
                    have r397897 := hot397869 _ (by rw [rc397859.2.1]; decide) (fun q => by rw [q, show _ = 3 from ht397421] at rc397859; exact absurd rc397859.2.1 (by decide))
                    have r397898 : g397348.toInt.toNat < γ 2 (γ 14 q387565) := by rw [r397896, r397897.1]; exact r397443
                    have r397899 : el (γ 14 q387565) g397348.toInt.toNat = q397408 := by rw [r397896, r397897.2]; exact r397444
                    have he397900 : F397860 q397818 = .inr (20, [.int p397831, .int p397832, .int p397833, .int p397834, .int p397835, .int p397836, .int p397837]) := (rSk_F hk397880 ht397821 (by decide) (by decide)).trans he397830
                    have hm397901 : q397818 ∈ P387562 := RS_m hT397882 ht397893 (by decide)
                    clear r397360 r397361 r397362 r397363 r397364 r397365 r397367 r397368 r397369 r397370 bp397354 bp397355 bp397419 bp397420 r397428 r397429 rg397856 rm397857 bd397858 rc397859 r397862 r397863
                    have hm397902 : q387564 ∈ P387562 := RS_m hT397882 ht397886 (by decide)
                    obtain ⟨q397904, q397905, p397906, p397907, p397908, p397909, p397910, p397911, p397912, p397913, p397914, p397915, p397916, p397917, p397918, p397919, p397920, he397903, hB397947, ht397921, ht397922, ht397923, ht397924, ht397925, ht397926, ht397927, ht397928, ht397929, ht397930, ht397931, ht397932, ht397933, ht397934, ht397935, ht397936, ht397937, ht397938, ht397939, ht397940, ht397941, ht397942, ht397943, ht397944, hB397948⟩ := show rk_10 γ (F397860 q387564) from RS_o hT397882 ht397886
                    have r397949 : p397908.toInt = p387583.toInt := by have z : p397908 = p387583 := congrArg (fun e => fI e 11) (he397903.symm.trans (r397885.trans he387578)); rw [z]
                    have bp397908 : gB p397908 0 100 := (hB397947.2.2.1)
                    have r397950 : p397911.toInt = p387586.toInt := by have z : p397911 = p387586 := congrArg (fun e => fI e 14) (he397903.symm.trans (r397885.trans he387578)); rw [z]
                    have bp397911 : gB p397911 0 2000 := (hB397947.2.2.2.1)
                    obtain ⟨nu397951, nu397952, nu397953, nu397954⟩ := hnu397872
                    have hB397955 : rBd γ el f B := hBB397875 B hB
                    have hph397956 : rPh γ0 el0 f ≤ rPh γ el f := by rw [hr397873]; exact hph
                    have pk397957 : rPh γ el f ≤ 387 * B + 6000 := rm_pk (rM_ge hT397882 ht397887 hf397888).1 (rM_bd hB397955)
                    refine G_widen (cs' := ((rPh γ el f - rPh γ0 el0 f) / 18)) (sl' := (rPh γ el f - rPh γ0 el0 f)) (rm_ec hr397873) (rm_es hr397873) ?_
                    refine G_pop dr_cX17_merge_138 rfl ?_
                    refine G_aload_n 6 dr_cX17_merge_139 rfl ?_
                    refine G_dup dr_cX17_merge_140 rfl ?_
                    refine Gp_get 13 hm397902 he397903 dr_cX17_merge_141 (gk_X17 D I) (Nat.le_of_ble_eq_true rfl) wr_7_87 rfl ?_
                    have bp397910 : gB p397910 (-2147483648) 2147483647 := (gB_any p397910)
                    refine G_iconst 1 dr_cX17_merge_144 (by decide +kernel) ?_
                    refine G_iadd dr_cX17_merge_145 (G_nam fun z397958 hz397958 => ?_)
                    have bz397958 : gB z397958 (-2147483648) 2147483647 := gB_any z397958
                    refine Gp_put 13 hm397902 he397903 dr_cX17_merge_146 (gk_X17 D I) (Nat.le_of_ble_eq_true rfl) wr_7_87 rfl rfl rfl (Nat.le_of_ble_eq_true rfl) (fun F397959 e397960 n397961 => ?_)
                    have he397962 : F397959 q397818 = .inr (20, [.int p397831, .int p397832, .int p397833, .int p397834, .int p397835, .int p397836, .int p397837]) := (n397961 q397818 (rn_oo he397900 he397903 (by decide))).trans he397900
                    have he397963 : F397959 q387564 = .inr (22, [.ref (γ 9 0), .ref (γ 9 1), .ref (γ 9 2), .ref (γ 9 3), .ref (γ 9 4), .ref (γ 9 5), .ref (γ 9 6), .ref (γ 9 7), .ref (γ 9 8), .int p397906, .int p397907, .int p397908, .int p397909, .int z397958, .int p397911, .ref (γ 9 15), .ref (γ 9 16), .ref (γ 9 17), .ref (γ 9 18), .ref (γ 9 19), .ref (γ 9 20), .ref (γ 9 21), .ref (γ 9 22), .int p397912, .int p397913, .int p397914, .int p397915, .int p397916, .ref q397904, .ref (γ 9 29), .int p397917, .ref (γ 9 31), .int p397918, .int p397919, .int p397920, .ref q397905]) := e397960
                    have mk397964 : mKp (F387563 q387564) (F397959 q387564) := mKp_tr mk397895 (by rw [he397903, he397963]; exact ⟨rfl, rfl⟩)
                    have hT397965 : RS D I P387562 F397959 γ el := RS_set hT397882 n397961 ht397886 (by decide) ⟨q397904, q397905, p397906, p397907, p397908, p397909, z397958, p397911, p397912, p397913, p397914, p397915, p397916, p397917, p397918, p397919, p397920, he397963, ⟨(hB397947.1), (hB397947.2.1), bp397908, bp397911, (hB397947.2.2.2.2.1), (hB397947.2.2.2.2.2.1), (hB397947.2.2.2.2.2.2.1), (hB397947.2.2.2.2.2.2.2.1), (hB397947.2.2.2.2.2.2.2.2)⟩, ht397921, ht397922, ht397923, ht397924, ht397925, ht397926, ht397927, ht397928, ht397929, ht397930, ht397931, ht397932, ht397933, ht397934, ht397935, ht397936, ht397937, ht397938, ht397939, ht397940, ht397941, ht397942, ht397943, ht397944, hB397948⟩
                    have hs397966 := rSk_put hs397883 hT397965 n397961 ht397886 (by decide) (by decide)
                    have dn397967 : ∀ N : Nat → Prop, rPl γ0 el0 F387563 q387565 (γ0 6 f) (fun _ _ => rNx N) → rPl γ el F397959 q387565 (γ 6 f) (fun _ _ => rNx N) := fun N hN => rPl_fr hT397882 ht397887 hf397888 (dn397878 N hN) (fun b hb _ => n397961 b (rn_ty (show rKd γ b 1 from hb) ht397886 (by decide)))
                    refine G_iload 1 dr_cX17_merge_149 rfl ?_
                    refine G_iload 0 dr_cX17_merge_151 rfl ?_
                    refine G_icmp_eq 164 dr_cX17_merge_153 (by decide +kernel) (fun hc397968 => ?_) (fun hc397968 => ?_)
                    · have r397969 : z397854.toInt = z397855.toInt := gC_eq hc397968
                      have ac397970 : (fI (F397959 q387564) 11).toInt = p397908.toInt := by rw [he397963]; rfl
                      have ac397971 : (fI (F397959 q387564) 14).toInt = p397911.toInt := by rw [he397963]; rfl
                      refine G_iconst 1 dr_cX17_merge_164 (by decide +kernel) ?_
                      exact G_zretA FieldType.boolean dr_cX17_merge_165 rfl rfl (show ((rPh γ el f - rPh γ0 el0 f) / 18) ≤ (((387 * B + 6000) - rPh γ0 el0 f) / 18) by omega) (show (rPh γ el f - rPh γ0 el0 f) ≤ ((387 * B + 6000) - rPh γ0 el0 f) by omega) ⟨P387562, F397959, γ, el, 1, rfl, rfl, hs397966, ⟨by omega, by omega⟩, hB397955, (gB_w (gBl (show Int32.toInt 1 = 1 by decide)) (by decide) (by decide)), (by have qa0 : Int32.toInt 1 = 1 := (by decide); omega), (by have qa0 : Int32.toInt 1 = 1 := (by decide); omega), (by have qa0 : Int32.toInt 1 = 1 := (by decide); omega), (by have qa0 : Int32.toInt 1 = 1 := (by decide); omega), (Or.inr (by rw [show γ 6 f = γ0 6 f by omega]; exact Nat.le_of_eq sm397876)), dn397967, (by have qa0 : Int32.toInt 1 = 1 := (by decide); omega), (by have qa0 : Int32.toInt 1 = 1 := (by decide); omega), (fun h => absurd h (by decide)), mk397964⟩
                    · have r397972 : z397854.toInt ≠ z397855.toInt := gC_ne hc397968
                      refine G_aload_n 7 dr_cX17_merge_156 rfl ?_
                      refine G_iload 0 dr_cX17_merge_157 rfl ?_
                      refine G_iload 1 dr_cX17_merge_159 rfl ?_
                      have v0_397973 : 0 < γ 6 (γ 1 q387565) := by rw [hf397888]; omega
                      refine Gw_callS (As := [.ref q387565, .int z397855, .int z397854]) (gV_ok D I) (ct_360319_SpillForgeModel_rename l hl0 D I γ el P387562 F397959 q387565 z397855 z397854 hT397965 ht397887 bz397855 bz397854 (by omega)) dr_cX17_merge_161 ⟨wr_11_26, wr_1_14, wr_11_28, by decide, rfl, (Nat.le_of_ble_eq_true rfl), (Nat.le_of_ble_eq_true rfl)⟩ wr_11_27 (rm_zc pk397957) (rm_zs pk397957) (Nat.le_of_ble_eq_true rfl) (fun r397977 w397978 dc397974 ds397975 hp397976 => ?_) (fun _ _ _ _ _ z => z.elim)
                      obtain ⟨F397981, rfl, rfl, hT397982, hs397983, hdc, hds, x397979, x397980⟩ := hp397976
                      have hs397984 := rSk_str hs397966 hT397982 hs397983 (by decide) (by decide) (by decide)
                      have kp397985 : F397981 q387564 = F397959 q387564 := x397980 q387564 (rT0 ht397886 (by decide)) (rT2 ht397886 (by decide))
                      have mk397986 : mKp (F387563 q387564) (F397981 q387564) := mKp_tr mk397964 (mKp_eq (x397980 q387564 (rT0 ht397886 (by decide)) (rT2 ht397886 (by decide))))
                      have he397987 : F397981 q387564 = .inr (22, [.ref (γ 9 0), .ref (γ 9 1), .ref (γ 9 2), .ref (γ 9 3), .ref (γ 9 4), .ref (γ 9 5), .ref (γ 9 6), .ref (γ 9 7), .ref (γ 9 8), .int p397906, .int p397907, .int p397908, .int p397909, .int z397958, .int p397911, .ref (γ 9 15), .ref (γ 9 16), .ref (γ 9 17), .ref (γ 9 18), .ref (γ 9 19), .ref (γ 9 20), .ref (γ 9 21), .ref (γ 9 22), .int p397912, .int p397913, .int p397914, .int p397915, .int p397916, .ref q397904, .ref (γ 9 29), .int p397917, .ref (γ 9 31), .int p397918, .int p397919, .int p397920, .ref q397905]) := (x397980 q387564 (rT0 ht397886 (by decide)) (rT2 ht397886 (by decide))).trans he397963
                      change G _ _ _ _ _ _ _ _ _ _ _
                      refine G_widen (cs' := ((rPh γ el f - rPh γ0 el0 f) / 18)) (sl' := (rPh γ el f - rPh γ0 el0 f)) (rm_d0 hdc) (rm_d0 hds) ?_
                      have dn397988 : ∀ N : Nat → Prop, rPl γ0 el0 F387563 q387565 (γ0 6 f) (fun _ _ => rNx N) → rPl γ el F397981 q387565 (γ 6 f) (fun _ _ => rNx N) := fun N hN => by have z := x397979 N ((show z397854.toInt = p397832.toInt ∨ z397854.toInt = p397833.toInt by omega).elim (fun e => by rw [e]; exact (nm397879 N hN).1) (fun e => by rw [e]; exact (nm397879 N hN).2)) (by omega); rw [hf397888] at z; exact z (dn397967 N hN)
                      have ac397989 : (fI (F397981 q387564) 11).toInt = p397908.toInt := by rw [he397987]; rfl
                      have ac397990 : (fI (F397981 q387564) 14).toInt = p397911.toInt := by rw [he397987]; rfl
                      refine G_iconst 1 dr_cX17_merge_164 (by decide +kernel) ?_
                      exact G_zretA FieldType.boolean dr_cX17_merge_165 rfl rfl (show ((rPh γ el f - rPh γ0 el0 f) / 18) ≤ (((387 * B + 6000) - rPh γ0 el0 f) / 18) by omega) (show (rPh γ el f - rPh γ0 el0 f) ≤ ((387 * B + 6000) - rPh γ0 el0 f) by omega) ⟨P387562, F397981, γ, el, 1, rfl, rfl, hs397984, ⟨by omega, by omega⟩, hB397955, (gB_w (gBl (show Int32.toInt 1 = 1 by decide)) (by decide) (by decide)), (by have qa0 : Int32.toInt 1 = 1 := (by decide); omega), (by have qa0 : Int32.toInt 1 = 1 := (by decide); omega), (by have qa0 : Int32.toInt 1 = 1 := (by decide); omega), (by have qa0 : Int32.toInt 1 = 1 := (by decide); omega), (Or.inr (by rw [show γ 6 f = γ0 6 f by omega]; exact Nat.le_of_eq sm397876)), dn397988, (by have qa0 : Int32.toInt 1 = 1 := (by decide); omega), (by have qa0 : Int32.toInt 1 = 1 := (by decide); omega), (fun h => absurd h (by decide)), mk397986⟩
                  · have r397991 : p397832.toInt ≠ p397833.toInt := gC_ne hc397852
                    refine G_aload_n 4 dr_cX17_merge_77 rfl ?_
                    refine G_aload 0 dr_cX17_merge_78 rfl ?_
                    refine Gp_get 1 hm397829 he397830 dr_cX17_merge_80 (gk_X15 D I) (Nat.le_of_ble_eq_true rfl) wr_9_178 rfl ?_
                    refine G_aload 0 dr_cX17_merge_83 rfl ?_
                    refine Gp_get 2 hm397829 he397830 dr_cX17_merge_85 (gk_X15 D I) (Nat.le_of_ble_eq_true rfl) wr_9_182 rfl ?_
                    refine G_iload_n 6 dr_cX17_merge_88 rfl ?_
                    refine Gw_callV (As := [.int p397832, .int p397833, .int p387566]) (gV_ok D I) (ct_385695_SpillForgeModel_mayMerge l hl0 D I γ el P387562 F387563 q387564 p397832 p397833 p387566 hT htq387564 bp397832 ⟨by omega, by omega⟩) dr_cX17_merge_89 ⟨wr_11_8, wr_1_14, wr_11_11, by decide, rfl, (Nat.le_of_ble_eq_true rfl), (Nat.le_of_ble_eq_true rfl)⟩ wr_11_10 wr_p_102 hm387577 he387578 rfl (rm_zc pk387569) (rm_zs pk387569) (Nat.le_of_ble_eq_true rfl) (fun r397995 w397996 dc397992 ds397993 hp397994 => ?_) (fun _ _ _ _ _ z => z.elim)
                    obtain ⟨o397997, rfl, rfl, hdc, hds, bo397997, x397998⟩ := hp397994
                    change G _ _ _ _ _ _ _ (.int o397997 :: _) _ _ _
                    refine G_widen (cs' := ((rPh γ el f - rPh γ0 el0 f) / 18)) (sl' := (rPh γ el f - rPh γ0 el0 f)) (rm_d0 hdc) (rm_d0 hds) ?_
                    refine G_if_ne 98 dr_cX17_merge_92 (by decide +kernel) (fun hc397999 => ?_) (fun hc397999 => ?_)
                    · have r398000 : o397997.toInt ≠ 0 := gj_neq hc397999 (show Int32.toInt 0 = 0 by decide)
                      have bo397997' : gB o397997 1 1 := ⟨by omega, by omega⟩
                      have bp397833' : gB p397833 0 1999 := ⟨by omega, by omega⟩
                      refine G_aload 0 dr_cX17_merge_98 rfl ?_
                      refine Gp_get 1 hm397829 he397830 dr_cX17_merge_100 (gk_X15 D I) (Nat.le_of_ble_eq_true rfl) wr_9_178 rfl ?_
                      refine G_aload 0 dr_cX17_merge_103 rfl ?_
                      refine Gp_get 2 hm397829 he397830 dr_cX17_merge_105 (gk_X15 D I) (Nat.le_of_ble_eq_true rfl) wr_9_182 rfl ?_
                      refine G_mmin dr_cX17_merge_108 wr_11_16 wr_3_227 wr_1_6 wr_3_228 (Nat.le_of_ble_eq_true rfl) (Nat.le_of_ble_eq_true rfl) (show ((rPh γ el f - rPh γ0 el0 f) / 18) ≤ (((387 * B + 6000) - rPh γ0 el0 f) / 18) by first | omega | decide) (show (rPh γ el f - rPh γ0 el0 f) ≤ ((387 * B + 6000) - rPh γ0 el0 f) by first | omega | decide) (G_nam fun z398001 hz398001 => ?_)
                      have ez398001 : p397832.toInt ≥ z398001.toInt ∧ p397833.toInt ≥ z398001.toInt ∧ (z398001.toInt = p397832.toInt ∨ z398001.toInt = p397833.toInt) := by have := gI_min hz398001; omega
                      have bz398001 : gB z398001 0 1999 := ⟨by omega, by omega⟩
                      refine G_istore (L' := [(7, .int z398001), (6, .ref q397818), (5, .int g397786), (4, .ref q397408), (3, .int g397348), (0, .ref q387564), (1, .ref q387565), (2, .int p387566)]) dr_cX17_merge_111 (Nat.le_of_ble_eq_true rfl) rfl ?_
                      refine G_aload 1 dr_cX17_merge_113 rfl ?_
                      refine Gp_get 1 hm397829 he397830 dr_cX17_merge_115 (gk_X15 D I) (Nat.le_of_ble_eq_true rfl) wr_9_178 rfl ?_
                      refine G_aload 1 dr_cX17_merge_118 rfl ?_
                      refine Gp_get 2 hm397829 he397830 dr_cX17_merge_120 (gk_X15 D I) (Nat.le_of_ble_eq_true rfl) wr_9_182 rfl ?_
                      refine G_mmax dr_cX17_merge_123 wr_11_17 wr_1_140 wr_1_6 wr_1_141 (Nat.le_of_ble_eq_true rfl) (Nat.le_of_ble_eq_true rfl) (show ((rPh γ el f - rPh γ0 el0 f) / 18) ≤ (((387 * B + 6000) - rPh γ0 el0 f) / 18) by first | omega | decide) (show (rPh γ el f - rPh γ0 el0 f) ≤ ((387 * B + 6000) - rPh γ0 el0 f) by first | omega | decide) (G_nam fun z398002 hz398002 => ?_)
                      have ez398002 : p397832.toInt ≤ z398002.toInt ∧ p397833.toInt ≤ z398002.toInt ∧ (z398002.toInt = p397832.toInt ∨ z398002.toInt = p397833.toInt) := by have := gI_max hz398002; omega
                      have bz398002 : gB z398002 0 1999 := ⟨by omega, by omega⟩
                      refine G_istore (L' := [(8, .int z398002), (7, .int z398001), (6, .ref q397818), (5, .int g397786), (4, .ref q397408), (3, .int g397348), (0, .ref q387564), (1, .ref q387565), (2, .int p387566)]) dr_cX17_merge_126 (Nat.le_of_ble_eq_true rfl) rfl ?_
                      refine G_aload 4 dr_cX17_merge_128 rfl ?_
                      refine Gp_get 0 hm397415 he397416 dr_cX17_merge_130 (gk_X12 D I) (Nat.le_of_ble_eq_true rfl) wr_9_216 rfl ?_
                      refine G_iload 3 dr_cX17_merge_133 rfl ?_
                      have rg398003 := rM_ge hT htq387565 hf1
                      have rm398004 := rM_bd hB
                      have bd398005 := rBd_c hT htq387565 hf1 hB
                      have rc398006 := rc_at hT htq387565 hf1
                      have r398008 : γ 14 (el (γ 14 q387565) g397348.toInt.toNat) = q397417 := by rw [r397444]; exact ht397427.1
                      have r398009 := rg398003.2.2 _ r397443
                      rw [r398008] at r398009
                      have r398010 := bd398005.2.2.2 _ r397443
                      rw [r398008] at r398010
                      obtain ⟨q398012, hq398012⟩ : ∃ x, x = el q397417 g397786.toInt.toNat := ⟨_, rfl⟩
                      refine Gt_rem (c := q387565) (f := f) hl0 dr_cX17_merge_135 ⟨wr_11_18, wr_1_18, wr_11_21, by decide, rfl, (Nat.le_of_ble_eq_true rfl), (Nat.le_of_ble_eq_true rfl)⟩ wr_11_19 wr_11_20 hT ht397421 hf397436 htq387565 hf1 (by omega) (by omega) (rm_zc pk387569) (rm_zs pk387569) (Nat.le_of_ble_eq_true rfl) (fun F398007 γ el hq398011 => ?_)
                      rw [← hq398012]
                      have vv398024 := RS_valid hT0 hzq387565 hf0 x387567
                      rw [← hγ0] at vv398024
                      have sm398023 := rDq_sum (m := γ0 6 f) hT htq387565 hf1 (show g397348.toInt.toNat < γ0 6 f by omega) (by omega) r398008 (show g397786.toInt.toNat < _ by omega) hq398011
                      rw [hγ0, hel0] at sm398023
                      have dn398025 := fun (N : Nat → Prop) hN => rPl_dx (N := N) hT htq387565 hf1 hq398011 r398008 (show g397348.toInt.toNat < _ by omega) (show g397786.toInt.toNat < _ by omega) hN
                      rw [hγ0, hel0] at dn398025
                      have nm398026 := fun (N : Nat → Prop) hN => rPl_nm (N := N) (f := f) (j := g397786.toInt.toNat) hN (show g397348.toInt.toNat < _ by omega) r398008 (show g397786.toInt.toNat < _ by omega) hx397819.symm he397830 (by omega) (by omega)
                      rw [hγ0, hel0] at nm398026
                      obtain ⟨hk398013, h2398014, hel398015, hot398016, h16398017, h18398018, hnu398019, hr398020, hM398021, hBB398022⟩ := hq398011
                      have hk398027 := rSk_of hk398013
                      have r398028 : (fI (F398007 q387565) 3).toInt = (fI (F387563 q387565) 3).toInt := by rw [rSk_F hk398027 htq387565 (by decide) (by decide)]
                      have hT398029 := hk398027.1
                      have hs398030 := rSk_tr hst hk398027 (by decide) (by decide) (by decide)
                      have kp398031 : F398007 q387564 = F387563 q387564 := rSk_F hk398027 htq387564 (by decide) (by decide)
                      have r398032 := rSk_F hk398027 htq387564 (by decide) (by decide)
                      have ht398033 : rKd γ q387564 10 := rSk_k hk398027 htq387564 (by decide) (by decide)
                      have ht398034 : rKd γ q387565 9 := rSk_k hk398027 htq387565 (by decide) (by decide)
                      have hf398035 : γ 1 q387565 = f := rSk_1 hk398027 htq387565 (by decide) hf1
                      have ht398036 : rKd γ q397408 2 := rSk_k hk398027 ht397413 (by decide) (by decide)
                      have hf398037 : γ 1 q397408 = f := rSk_1 hk398027 ht397413 (by decide) hf397435
                      have ht398038 : rKd γ q397417 3 := rSk_k hk398027 ht397421 (by decide) (by decide)
                      have hf398039 : γ 1 q397417 = f := rSk_1 hk398027 ht397421 (by decide) hf397436
                      have ht398040 : rKd γ q397818 1 := rSk_k hk398027 ht397821 (by decide) (by decide)
                      have hf398041 : γ 1 q397818 = f := rSk_1 hk398027 ht397821 (by decide) hf397823
                      have mk398042 : mKp (F387563 q387564) (F398007 q387564) := mKp_tr mKp_rf (mKp_eq (rSk_F hk398027 htq387564 (by decide) (by decide)))
                      have r398043 := (rSk_s hk398027 htq387565 (by decide)).2.1
                      have r398044 := hot398016 _ (by rw [rc398006.2.1]; decide) (fun q => by rw [q, show _ = 3 from ht397421] at rc398006; exact absurd rc398006.2.1 (by decide))
                      have r398045 : g397348.toInt.toNat < γ 2 (γ 14 q387565) := by rw [r398043, r398044.1]; exact r397443
                      have r398046 : el (γ 14 q387565) g397348.toInt.toNat = q397408 := by rw [r398043, r398044.2]; exact r397444
                      have he398047 : F398007 q397818 = .inr (20, [.int p397831, .int p397832, .int p397833, .int p397834, .int p397835, .int p397836, .int p397837]) := (rSk_F hk398027 ht397821 (by decide) (by decide)).trans he397830
                      have hm398048 : q397818 ∈ P387562 := RS_m hT398029 ht398040 (by decide)
                      clear r397360 r397361 r397362 r397363 r397364 r397365 r397367 r397368 r397369 r397370 bp397354 bp397355 bp397419 bp397420 r397428 r397429 rg398003 rm398004 bd398005 rc398006 r398009 r398010
                      have hm398049 : q387564 ∈ P387562 := RS_m hT398029 ht398033 (by decide)
                      obtain ⟨q398051, q398052, p398053, p398054, p398055, p398056, p398057, p398058, p398059, p398060, p398061, p398062, p398063, p398064, p398065, p398066, p398067, he398050, hB398094, ht398068, ht398069, ht398070, ht398071, ht398072, ht398073, ht398074, ht398075, ht398076, ht398077, ht398078, ht398079, ht398080, ht398081, ht398082, ht398083, ht398084, ht398085, ht398086, ht398087, ht398088, ht398089, ht398090, ht398091, hB398095⟩ := show rk_10 γ (F398007 q387564) from RS_o hT398029 ht398033
                      have r398096 : p398055.toInt = p387583.toInt := by have z : p398055 = p387583 := congrArg (fun e => fI e 11) (he398050.symm.trans (r398032.trans he387578)); rw [z]
                      have bp398055 : gB p398055 0 100 := (hB398094.2.2.1)
                      have r398097 : p398058.toInt = p387586.toInt := by have z : p398058 = p387586 := congrArg (fun e => fI e 14) (he398050.symm.trans (r398032.trans he387578)); rw [z]
                      have bp398058 : gB p398058 0 2000 := (hB398094.2.2.2.1)
                      obtain ⟨nu398098, nu398099, nu398100, nu398101⟩ := hnu398019
                      have hB398102 : rBd γ el f B := hBB398022 B hB
                      have hph398103 : rPh γ0 el0 f ≤ rPh γ el f := by rw [hr398020]; exact hph
                      have pk398104 : rPh γ el f ≤ 387 * B + 6000 := rm_pk (rM_ge hT398029 ht398034 hf398035).1 (rM_bd hB398102)
                      refine G_widen (cs' := ((rPh γ el f - rPh γ0 el0 f) / 18)) (sl' := (rPh γ el f - rPh γ0 el0 f)) (rm_ec hr398020) (rm_es hr398020) ?_
                      refine G_pop dr_cX17_merge_138 rfl ?_
                      refine G_aload_n 6 dr_cX17_merge_139 rfl ?_
                      refine G_dup dr_cX17_merge_140 rfl ?_
                      refine Gp_get 13 hm398049 he398050 dr_cX17_merge_141 (gk_X17 D I) (Nat.le_of_ble_eq_true rfl) wr_7_87 rfl ?_
                      have bp398057 : gB p398057 (-2147483648) 2147483647 := (gB_any p398057)
                      refine G_iconst 1 dr_cX17_merge_144 (by decide +kernel) ?_
                      refine G_iadd dr_cX17_merge_145 (G_nam fun z398105 hz398105 => ?_)
                      have bz398105 : gB z398105 (-2147483648) 2147483647 := gB_any z398105
                      refine Gp_put 13 hm398049 he398050 dr_cX17_merge_146 (gk_X17 D I) (Nat.le_of_ble_eq_true rfl) wr_7_87 rfl rfl rfl (Nat.le_of_ble_eq_true rfl) (fun F398106 e398107 n398108 => ?_)
                      have he398109 : F398106 q397818 = .inr (20, [.int p397831, .int p397832, .int p397833, .int p397834, .int p397835, .int p397836, .int p397837]) := (n398108 q397818 (rn_oo he398047 he398050 (by decide))).trans he398047
                      have he398110 : F398106 q387564 = .inr (22, [.ref (γ 9 0), .ref (γ 9 1), .ref (γ 9 2), .ref (γ 9 3), .ref (γ 9 4), .ref (γ 9 5), .ref (γ 9 6), .ref (γ 9 7), .ref (γ 9 8), .int p398053, .int p398054, .int p398055, .int p398056, .int z398105, .int p398058, .ref (γ 9 15), .ref (γ 9 16), .ref (γ 9 17), .ref (γ 9 18), .ref (γ 9 19), .ref (γ 9 20), .ref (γ 9 21), .ref (γ 9 22), .int p398059, .int p398060, .int p398061, .int p398062, .int p398063, .ref q398051, .ref (γ 9 29), .int p398064, .ref (γ 9 31), .int p398065, .int p398066, .int p398067, .ref q398052]) := e398107
                      have mk398111 : mKp (F387563 q387564) (F398106 q387564) := mKp_tr mk398042 (by rw [he398050, he398110]; exact ⟨rfl, rfl⟩)
                      have hT398112 : RS D I P387562 F398106 γ el := RS_set hT398029 n398108 ht398033 (by decide) ⟨q398051, q398052, p398053, p398054, p398055, p398056, z398105, p398058, p398059, p398060, p398061, p398062, p398063, p398064, p398065, p398066, p398067, he398110, ⟨(hB398094.1), (hB398094.2.1), bp398055, bp398058, (hB398094.2.2.2.2.1), (hB398094.2.2.2.2.2.1), (hB398094.2.2.2.2.2.2.1), (hB398094.2.2.2.2.2.2.2.1), (hB398094.2.2.2.2.2.2.2.2)⟩, ht398068, ht398069, ht398070, ht398071, ht398072, ht398073, ht398074, ht398075, ht398076, ht398077, ht398078, ht398079, ht398080, ht398081, ht398082, ht398083, ht398084, ht398085, ht398086, ht398087, ht398088, ht398089, ht398090, ht398091, hB398095⟩
                      have hs398113 := rSk_put hs398030 hT398112 n398108 ht398033 (by decide) (by decide)
                      have dn398114 : ∀ N : Nat → Prop, rPl γ0 el0 F387563 q387565 (γ0 6 f) (fun _ _ => rNx N) → rPl γ el F398106 q387565 (γ 6 f) (fun _ _ => rNx N) := fun N hN => rPl_fr hT398029 ht398034 hf398035 (dn398025 N hN) (fun b hb _ => n398108 b (rn_ty (show rKd γ b 1 from hb) ht398033 (by decide)))
                      refine G_iload 1 dr_cX17_merge_149 rfl ?_
                      refine G_iload 0 dr_cX17_merge_151 rfl ?_
                      refine G_icmp_eq 164 dr_cX17_merge_153 (by decide +kernel) (fun hc398115 => ?_) (fun hc398115 => ?_)
                      · have r398116 : z398001.toInt = z398002.toInt := gC_eq hc398115
                        have ac398117 : (fI (F398106 q387564) 11).toInt = p398055.toInt := by rw [he398110]; rfl
                        have ac398118 : (fI (F398106 q387564) 14).toInt = p398058.toInt := by rw [he398110]; rfl
                        refine G_iconst 1 dr_cX17_merge_164 (by decide +kernel) ?_
                        exact G_zretA FieldType.boolean dr_cX17_merge_165 rfl rfl (show ((rPh γ el f - rPh γ0 el0 f) / 18) ≤ (((387 * B + 6000) - rPh γ0 el0 f) / 18) by omega) (show (rPh γ el f - rPh γ0 el0 f) ≤ ((387 * B + 6000) - rPh γ0 el0 f) by omega) ⟨P387562, F398106, γ, el, 1, rfl, rfl, hs398113, ⟨by omega, by omega⟩, hB398102, (gB_w (gBl (show Int32.toInt 1 = 1 by decide)) (by decide) (by decide)), (by have qa0 : Int32.toInt 1 = 1 := (by decide); omega), (by have qa0 : Int32.toInt 1 = 1 := (by decide); omega), (by have qa0 : Int32.toInt 1 = 1 := (by decide); omega), (by have qa0 : Int32.toInt 1 = 1 := (by decide); omega), (Or.inr (by rw [show γ 6 f = γ0 6 f by omega]; exact Nat.le_of_eq sm398023)), dn398114, (by have qa0 : Int32.toInt 1 = 1 := (by decide); omega), (by have qa0 : Int32.toInt 1 = 1 := (by decide); omega), (fun h => absurd h (by decide)), mk398111⟩
                      · have r398119 : z398001.toInt ≠ z398002.toInt := gC_ne hc398115
                        refine G_aload_n 7 dr_cX17_merge_156 rfl ?_
                        refine G_iload 0 dr_cX17_merge_157 rfl ?_
                        refine G_iload 1 dr_cX17_merge_159 rfl ?_
                        have v0_398120 : 0 < γ 6 (γ 1 q387565) := by rw [hf398035]; omega
                        refine Gw_callS (As := [.ref q387565, .int z398002, .int z398001]) (gV_ok D I) (ct_360319_SpillForgeModel_rename l hl0 D I γ el P387562 F398106 q387565 z398002 z398001 hT398112 ht398034 bz398002 bz398001 (by omega)) dr_cX17_merge_161 ⟨wr_11_26, wr_1_14, wr_11_28, by decide, rfl, (Nat.le_of_ble_eq_true rfl), (Nat.le_of_ble_eq_true rfl)⟩ wr_11_27 (rm_zc pk398104) (rm_zs pk398104) (Nat.le_of_ble_eq_true rfl) (fun r398124 w398125 dc398121 ds398122 hp398123 => ?_) (fun _ _ _ _ _ z => z.elim)
                        obtain ⟨F398128, rfl, rfl, hT398129, hs398130, hdc, hds, x398126, x398127⟩ := hp398123
                        have hs398131 := rSk_str hs398113 hT398129 hs398130 (by decide) (by decide) (by decide)
                        have kp398132 : F398128 q387564 = F398106 q387564 := x398127 q387564 (rT0 ht398033 (by decide)) (rT2 ht398033 (by decide))
                        have mk398133 : mKp (F387563 q387564) (F398128 q387564) := mKp_tr mk398111 (mKp_eq (x398127 q387564 (rT0 ht398033 (by decide)) (rT2 ht398033 (by decide))))
                        have he398134 : F398128 q387564 = .inr (22, [.ref (γ 9 0), .ref (γ 9 1), .ref (γ 9 2), .ref (γ 9 3), .ref (γ 9 4), .ref (γ 9 5), .ref (γ 9 6), .ref (γ 9 7), .ref (γ 9 8), .int p398053, .int p398054, .int p398055, .int p398056, .int z398105, .int p398058, .ref (γ 9 15), .ref (γ 9 16), .ref (γ 9 17), .ref (γ 9 18), .ref (γ 9 19), .ref (γ 9 20), .ref (γ 9 21), .ref (γ 9 22), .int p398059, .int p398060, .int p398061, .int p398062, .int p398063, .ref q398051, .ref (γ 9 29), .int p398064, .ref (γ 9 31), .int p398065, .int p398066, .int p398067, .ref q398052]) := (x398127 q387564 (rT0 ht398033 (by decide)) (rT2 ht398033 (by decide))).trans he398110
                        change G _ _ _ _ _ _ _ _ _ _ _
                        refine G_widen (cs' := ((rPh γ el f - rPh γ0 el0 f) / 18)) (sl' := (rPh γ el f - rPh γ0 el0 f)) (rm_d0 hdc) (rm_d0 hds) ?_
                        have dn398135 : ∀ N : Nat → Prop, rPl γ0 el0 F387563 q387565 (γ0 6 f) (fun _ _ => rNx N) → rPl γ el F398128 q387565 (γ 6 f) (fun _ _ => rNx N) := fun N hN => by have z := x398126 N ((show z398001.toInt = p397832.toInt ∨ z398001.toInt = p397833.toInt by omega).elim (fun e => by rw [e]; exact (nm398026 N hN).1) (fun e => by rw [e]; exact (nm398026 N hN).2)) (by omega); rw [hf398035] at z; exact z (dn398114 N hN)
                        have ac398136 : (fI (F398128 q387564) 11).toInt = p398055.toInt := by rw [he398134]; rfl
                        have ac398137 : (fI (F398128 q387564) 14).toInt = p398058.toInt := by rw [he398134]; rfl
                        refine G_iconst 1 dr_cX17_merge_164 (by decide +kernel) ?_
                        exact G_zretA FieldType.boolean dr_cX17_merge_165 rfl rfl (show ((rPh γ el f - rPh γ0 el0 f) / 18) ≤ (((387 * B + 6000) - rPh γ0 el0 f) / 18) by omega) (show (rPh γ el f - rPh γ0 el0 f) ≤ ((387 * B + 6000) - rPh γ0 el0 f) by omega) ⟨P387562, F398128, γ, el, 1, rfl, rfl, hs398131, ⟨by omega, by omega⟩, hB398102, (gB_w (gBl (show Int32.toInt 1 = 1 by decide)) (by decide) (by decide)), (by have qa0 : Int32.toInt 1 = 1 := (by decide); omega), (by have qa0 : Int32.toInt 1 = 1 := (by decide); omega), (by have qa0 : Int32.toInt 1 = 1 := (by decide); omega), (by have qa0 : Int32.toInt 1 = 1 := (by decide); omega), (Or.inr (by rw [show γ 6 f = γ0 6 f by omega]; exact Nat.le_of_eq sm398023)), dn398135, (by have qa0 : Int32.toInt 1 = 1 := (by decide); omega), (by have qa0 : Int32.toInt 1 = 1 := (by decide); omega), (fun h => absurd h (by decide)), mk398133⟩
                    · have r398138 : o397997.toInt = 0 := gj_eq hc397999 (show Int32.toInt 0 = 0 by decide)
                      have bo397997' : gB o397997 0 0 := ⟨by omega, by omega⟩
                      refine G_goto 166 dr_cX17_merge_95 (by decide +kernel) ?_
                      obtain ⟨z398139, hz398139⟩ : ∃ z : Int32, z = g397786 + Int32.ofInt 1 := ⟨_, rfl⟩
                      have ez398139 : z398139.toInt = g397786.toInt + 1 := gI_inc hz398139 (by decide) bg397786' (by decide) (by decide)
                      have bz398139 : gB z398139 1 1000000 := ⟨by omega, by omega⟩
                      refine G_iinc (L' := [(5, .int z398139), (6, .ref q397818), (4, .ref q397408), (3, .int g397348), (0, .ref q387564), (1, .ref q387565), (2, .int p387566)]) z398139 1 dr_cX17_merge_166 rfl hz398139.symm (Nat.le_of_ble_eq_true rfl) rfl ?_
                      refine G_goto 20 dr_cX17_merge_169 (by decide +kernel) ?_
                      refine G_lv (L' := [(5, .int z398139), (4, .ref q397408), (3, .int g397348), (0, .ref q387564), (1, .ref q387565), (2, .int p387566)]) [0, 2, 3, 4, 5, 6] rfl ?_
                      exact ih20_397786 z398139 (gB_w bz398139 (by decide) (by decide)) (by omega)
        exact hlp20_397786 (((1000001 : Int) - 0).toNat + 1) 0 (gB_w (gBl (show Int32.toInt 0 = 0 by decide)) (by decide) (by decide)) (Nat.lt_succ_self _)
  exact hlp2_397348 (((1000001 : Int) - 0).toNat + 1) 0 (gB_w (gBl (show Int32.toInt 0 = 0 by decide)) (by decide) (by decide)) (Nat.lt_succ_self _)
