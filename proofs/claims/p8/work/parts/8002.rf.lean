abbrev ky_396817_SpillForgeModel_mayMerge : gKey := (cX17_mayMerge, 8, "SpillForgeModel", (some FieldType.boolean), [], "mayMerge", fun _ _ => True)
def pt_396817_SpillForgeModel_mayMerge (D : va_G) (I : FieldType → ClassId) (γ el : Nat → Nat → Nat) (P396811 : List Nat) (F396812 : Nat → va_E) (q396813 : Nat) (p396814 : Int32) (p396815 : Int32) (p396816 : Int32) : Option Value → va_W → Nat → Nat → Prop := fun r w dc ds => ∃ (o398801 : Int32), r = some (.int o398801) ∧ w = va_pl P396811 F396812 ∧ dc ≤ 0 ∧ ds ≤ 0 ∧ gB o398801 0 1 ∧ (o398801.toInt = 0 ∨ (p396814.toInt < 100 ∧ p396815.toInt < 100))
set_option maxRecDepth 100000 in
set_option maxHeartbeats 4000000 in
theorem ct_396817_SpillForgeModel_mayMerge (l : Launch) (hl0 : l.stackTraces = false) (D : va_G) (I : FieldType → ClassId) (γ el : Nat → Nat → Nat) (P396811 : List Nat) (F396812 : Nat → va_E) (q396813 : Nat) (p396814 : Int32) (p396815 : Int32) (p396816 : Int32) (hT : RS D I P396811 F396812 γ el) (htq396813 : rKd γ q396813 10) (bp396814 : gB p396814 0 1999) (bp396815 : gB p396815 0 1999) : CtA (gV D I) l yX17_mayMerge cX17_mayMerge 8 (some FieldType.boolean) 2 43 0 0 [.ref q396813, .int p396814, .int p396815, .int p396816] (va_pl P396811 F396812) (pt_396817_SpillForgeModel_mayMerge D I γ el P396811 F396812 q396813 p396814 p396815 p396816) gNA := by
  refine CtA_of hl0 (by decide) (Nat.le_of_ble_eq_true rfl) ?_
  have bp396816 := gB_any p396816
  refine G_iload_n 1 dr_cX17_mayMerge_0 rfl ?_
  refine G_bipush 100 dr_cX17_mayMerge_1 (by decide +kernel) ?_
  refine G_icmp_ge 25 dr_cX17_mayMerge_3 (by decide +kernel) (fun hc396818 => ?_) (fun hc396818 => ?_)
  · have r396819 : 100 ≤ p396814.toInt := gj_leL hc396818 (show Int32.toInt 100 = 100 by decide)
    have bp396814' : gB p396814 100 1999 := ⟨by omega, by omega⟩
    refine G_iconst 0 dr_cX17_mayMerge_25 (by decide +kernel) ?_
    exact G_zretA FieldType.boolean dr_cX17_mayMerge_26 rfl rfl (Nat.le_of_ble_eq_true rfl) (Nat.le_of_ble_eq_true rfl) ⟨0, rfl, rfl, (Nat.le_of_ble_eq_true rfl), (Nat.le_of_ble_eq_true rfl), (gB_w (gBl (show Int32.toInt 0 = 0 by decide)) (by decide) (by decide)), (by have qa0 : Int32.toInt 0 = 0 := (by decide); omega)⟩
  · have r396820 : p396814.toInt < 100 := gj_nleL hc396818 (show Int32.toInt 100 = 100 by decide)
    have bp396814' : gB p396814 0 99 := ⟨by omega, by omega⟩
    refine G_iload_n 2 dr_cX17_mayMerge_6 rfl ?_
    refine G_bipush 100 dr_cX17_mayMerge_7 (by decide +kernel) ?_
    refine G_icmp_ge 25 dr_cX17_mayMerge_9 (by decide +kernel) (fun hc396821 => ?_) (fun hc396821 => ?_)
    · have r396822 : 100 ≤ p396815.toInt := gj_leL hc396821 (show Int32.toInt 100 = 100 by decide)
      have bp396815' : gB p396815 100 1999 := ⟨by omega, by omega⟩
      refine G_iconst 0 dr_cX17_mayMerge_25 (by decide +kernel) ?_
      exact G_zretA FieldType.boolean dr_cX17_mayMerge_26 rfl rfl (Nat.le_of_ble_eq_true rfl) (Nat.le_of_ble_eq_true rfl) ⟨0, rfl, rfl, (Nat.le_of_ble_eq_true rfl), (Nat.le_of_ble_eq_true rfl), (gB_w (gBl (show Int32.toInt 0 = 0 by decide)) (by decide) (by decide)), (by have qa0 : Int32.toInt 0 = 0 := (by decide); omega)⟩
    · have r396823 : p396815.toInt < 100 := gj_nleL hc396821 (show Int32.toInt 100 = 100 by decide)
      have bp396815' : gB p396815 0 99 := ⟨by omega, by omega⟩
      refine G_aload_n 0 dr_cX17_mayMerge_12 rfl ?_
      have hm396824 : q396813 ∈ P396811 := RS_m hT htq396813 (by decide)
      refine rk10_e (show rk_10 γ (F396812 q396813) from RS_o hT htq396813) (fun q396826 q396827 p396828 p396829 p396830 p396831 p396832 p396833 p396834 p396835 p396836 p396837 p396838 p396839 p396840 p396841 p396842 he396825 hB396869 ht396843 ht396844 ht396845 ht396846 ht396847 ht396848 ht396849 ht396850 ht396851 ht396852 ht396853 ht396854 ht396855 ht396856 ht396857 ht396858 ht396859 ht396860 ht396861 ht396862 ht396863 ht396864 ht396865 ht396866 hB396870 => ?_)
      refine Gp_get 1 hm396824 he396825 dr_cX17_mayMerge_13 (gk_X17 D I) (Nat.le_of_ble_eq_true rfl) wr_7_75 rfl ?_
      refine G_iload_n 1 dr_cX17_mayMerge_16 rfl ?_
      have hm396871 : (γ 9 1) ∈ P396811 := RS_m hT ht396846 (by decide)
      obtain ⟨f396873, he396872, hg396874⟩ := show rk_13 I γ (F396812 (γ 9 1)) from RS_o hT ht396846
      obtain ⟨q396875, hx396877⟩ : ∃ x, x = γ 11 p396814.toInt.toNat := ⟨_, rfl⟩
      have ht396876 : rKd γ q396875 36 := by rw [hx396877]; exact (hg396874 _ (show p396814.toInt.toNat < 2000 by omega)).2.1
      refine Gp_aald 5 hm396871 he396872 dr_cX17_mayMerge_17 rfl rfl (gB_in bp396814' (by decide) (by decide)) ?_
      rw [show f396873 p396814.toNatClampNeg = some q396875 from (hg396874 _ (show p396814.toInt.toNat < 2000 by omega)).1.trans (by rw [hx396877])]
      change G _ _ _ _ _ _ _ (.ref q396875 :: _) _ _ _
      refine G_iload_n 2 dr_cX17_mayMerge_18 rfl ?_
      have hm396878 : q396875 ∈ P396811 := RS_m hT ht396876 (by decide)
      obtain ⟨f396880, he396879, wf396880⟩ := show rk_36 I (F396812 q396875) from RS_o hT ht396876
      refine Gw_callS (As := [.ref q396875, .int p396815]) (gV_ok D I) (cp_1845_SpillForgeModel_has l hl0 D I P396811 F396812 q396875 p396815 f396880 hm396878 he396879 (gB_w bp396815' (by decide) (by decide))) dr_cX17_mayMerge_19 ⟨wr_10_203, wr_1_14, wr_10_205, by decide, rfl, (Nat.le_of_ble_eq_true rfl), (Nat.le_of_ble_eq_true rfl)⟩ wr_10_204 (show 0 + 0 ≤ 0 by first | omega | decide) (show 0 + 0 ≤ 0 by first | omega | decide) (Nat.le_of_ble_eq_true rfl) (fun r396884 w396885 dc396881 ds396882 hp396883 => ?_) (fun _ _ _ _ _ z => z.elim)
      rcases hp396883 with ⟨z396886, z396887, rfl, rfl, hdc, hds, r396888, r396889, r396890, r396891, r396892⟩ | ⟨z396893, z396894, rfl, rfl, hdc, hds, r396895, r396896, r396897, r396898, r396899⟩
      · change G _ _ _ _ _ _ _ (.int 0 :: _) _ _ _
        refine G_widen (cs' := 0) (sl' := 0) (by omega) (by omega) ?_
        refine G_if_eq 27 dr_cX17_mayMerge_22 (by decide +kernel) (fun _ => ?_) (fun hc => absurd hc (by decide))
        refine G_iconst 0 dr_cX17_mayMerge_27 (by decide +kernel) ?_
        refine G_istore (L' := [(4, .int 0), (0, .ref q396813), (1, .int p396814), (2, .int p396815), (3, .int p396816)]) dr_cX17_mayMerge_28 (Nat.le_of_ble_eq_true rfl) rfl ?_
        refine G_iconst 0 dr_cX17_mayMerge_30 (by decide +kernel) ?_
        refine G_istore (L' := [(5, .int 0), (4, .int 0), (0, .ref q396813), (1, .int p396814), (2, .int p396815), (3, .int p396816)]) dr_cX17_mayMerge_31 (Nat.le_of_ble_eq_true rfl) rfl ?_
        have hlp33_398651 : ∀ (n33_398651 : Nat) (g398650 : Int32) (g398651 : Int32), gB g398650 0 2000 → ((2001 : Int) - g398650.toInt).toNat < n33_398651 → G (gV D I) l (gRm 2 43 0 0) (gMA (gV D I) (pt_396817_SpillForgeModel_mayMerge D I γ el P396811 F396812 q396813 p396814 p396815 p396816) gNA 0 0) ky_396817_SpillForgeModel_mayMerge 33 [(5, .int g398650), (4, .int g398651), (0, .ref q396813), (1, .int p396814), (2, .int p396815), (3, .int p396816)] [] (va_pl P396811 F396812) 0 0 := by
          intro n33_398651
          induction n33_398651 with
          | zero => intro g398650 g398651 bg398650 hm33_398651; exact absurd hm33_398651 (Nat.not_lt_zero _)
          | succ n33_398651 ih33_398651 =>
            intro g398650 g398651 bg398650 hm33_398651
            have bg398651 := gB_any g398651
            refine G_iload 0 dr_cX17_mayMerge_33 rfl ?_
            refine G_sipush 2000 dr_cX17_mayMerge_35 (by decide +kernel) ?_
            refine G_icmp_ge 126 dr_cX17_mayMerge_38 (by decide +kernel) (fun hc398653 => ?_) (fun hc398653 => ?_)
            · have r398654 : 2000 ≤ g398650.toInt := gj_leL hc398653 (show Int32.toInt 2000 = 2000 by decide)
              have bg398650' : gB g398650 2000 2000 := ⟨by omega, by omega⟩
              refine G_iload 1 dr_cX17_mayMerge_126 rfl ?_
              refine G_iload_n 5 dr_cX17_mayMerge_128 rfl ?_
              refine G_icmp_ge 136 dr_cX17_mayMerge_129 (by decide +kernel) (fun hc398655 => ?_) (fun hc398655 => ?_)
              · have r398656 : p396816.toInt ≤ g398651.toInt := gC_le hc398655
                refine G_iconst 0 dr_cX17_mayMerge_136 (by decide +kernel) ?_
                exact G_zretA FieldType.boolean dr_cX17_mayMerge_137 rfl rfl (Nat.le_of_ble_eq_true rfl) (Nat.le_of_ble_eq_true rfl) ⟨0, rfl, rfl, (Nat.le_of_ble_eq_true rfl), (Nat.le_of_ble_eq_true rfl), (gB_w (gBl (show Int32.toInt 0 = 0 by decide)) (by decide) (by decide)), (by have qa0 : Int32.toInt 0 = 0 := (by decide); omega)⟩
              · have r398657 : g398651.toInt < p396816.toInt := gC_nle hc398655
                have bg398651' : gB g398651 (-2147483648) 2147483646 := ⟨by omega, by omega⟩
                have bp396816' : gB p396816 (-2147483647) 2147483647 := ⟨by omega, by omega⟩
                refine G_iconst 1 dr_cX17_mayMerge_132 (by decide +kernel) ?_
                refine G_goto 137 dr_cX17_mayMerge_133 (by decide +kernel) ?_
                exact G_zretA FieldType.boolean dr_cX17_mayMerge_137 rfl rfl (Nat.le_of_ble_eq_true rfl) (Nat.le_of_ble_eq_true rfl) ⟨1, rfl, rfl, (Nat.le_of_ble_eq_true rfl), (Nat.le_of_ble_eq_true rfl), (gB_w (gBl (show Int32.toInt 1 = 1 by decide)) (by decide) (by decide)), (by have qa0 : Int32.toInt 1 = 1 := (by decide); omega)⟩
            · have r398658 : g398650.toInt < 2000 := gj_nleL hc398653 (show Int32.toInt 2000 = 2000 by decide)
              have bg398650' : gB g398650 0 1999 := ⟨by omega, by omega⟩
              refine G_aload_n 2 dr_cX17_mayMerge_41 rfl ?_
              refine Gp_get 1 hm396824 he396825 dr_cX17_mayMerge_42 (gk_X17 D I) (Nat.le_of_ble_eq_true rfl) wr_7_75 rfl ?_
              refine G_iload_n 3 dr_cX17_mayMerge_45 rfl ?_
              obtain ⟨q398659, hx398661⟩ : ∃ x, x = γ 11 p396814.toInt.toNat := ⟨_, rfl⟩
              have ht398660 : rKd γ q398659 36 := by rw [hx398661]; exact (hg396874 _ (show p396814.toInt.toNat < 2000 by omega)).2.1
              refine Gp_aald 5 hm396871 he396872 dr_cX17_mayMerge_46 rfl rfl (gB_in bp396814' (by decide) (by decide)) ?_
              rw [show f396873 p396814.toNatClampNeg = some q398659 from (hg396874 _ (show p396814.toInt.toNat < 2000 by omega)).1.trans (by rw [hx398661])]
              change G _ _ _ _ _ _ _ (.ref q398659 :: _) _ _ _
              refine G_iload 0 dr_cX17_mayMerge_47 rfl ?_
              have hm398662 : q398659 ∈ P396811 := RS_m hT ht398660 (by decide)
              obtain ⟨f398664, he398663, wf398664⟩ := show rk_36 I (F396812 q398659) from RS_o hT ht398660
              refine Gw_callS (As := [.ref q398659, .int g398650]) (gV_ok D I) (cp_1845_SpillForgeModel_has l hl0 D I P396811 F396812 q398659 g398650 f398664 hm398662 he398663 (gB_w bg398650' (by decide) (by decide))) dr_cX17_mayMerge_49 ⟨wr_10_203, wr_1_14, wr_10_205, by decide, rfl, (Nat.le_of_ble_eq_true rfl), (Nat.le_of_ble_eq_true rfl)⟩ wr_10_204 (show 0 + 0 ≤ 0 by first | omega | decide) (show 0 + 0 ≤ 0 by first | omega | decide) (Nat.le_of_ble_eq_true rfl) (fun r398668 w398669 dc398665 ds398666 hp398667 => ?_) (fun _ _ _ _ _ z => z.elim)
              rcases hp398667 with ⟨z398670, z398671, rfl, rfl, hdc, hds, r398672, r398673, r398674, r398675, r398676⟩ | ⟨z398677, z398678, rfl, rfl, hdc, hds, r398679, r398680, r398681, r398682, r398683⟩
              · change G _ _ _ _ _ _ _ (.int 0 :: _) _ _ _
                refine G_widen (cs' := 0) (sl' := 0) (by omega) (by omega) ?_
                refine G_istore (L' := [(6, .int 0), (5, .int g398650), (4, .int g398651), (0, .ref q396813), (1, .int p396814), (2, .int p396815), (3, .int p396816)]) dr_cX17_mayMerge_52 (Nat.le_of_ble_eq_true rfl) rfl ?_
                refine G_aload_n 3 dr_cX17_mayMerge_54 rfl ?_
                refine Gp_get 1 hm396824 he396825 dr_cX17_mayMerge_55 (gk_X17 D I) (Nat.le_of_ble_eq_true rfl) wr_7_75 rfl ?_
                refine G_iload_n 5 dr_cX17_mayMerge_58 rfl ?_
                obtain ⟨q398685, hx398687⟩ : ∃ x, x = γ 11 p396815.toInt.toNat := ⟨_, rfl⟩
                have ht398686 : rKd γ q398685 36 := by rw [hx398687]; exact (hg396874 _ (show p396815.toInt.toNat < 2000 by omega)).2.1
                refine Gp_aald 5 hm396871 he396872 dr_cX17_mayMerge_59 rfl rfl (gB_in bp396815' (by decide) (by decide)) ?_
                rw [show f396873 p396815.toNatClampNeg = some q398685 from (hg396874 _ (show p396815.toInt.toNat < 2000 by omega)).1.trans (by rw [hx398687])]
                change G _ _ _ _ _ _ _ (.ref q398685 :: _) _ _ _
                refine G_iload 1 dr_cX17_mayMerge_60 rfl ?_
                have hm398688 : q398685 ∈ P396811 := RS_m hT ht398686 (by decide)
                obtain ⟨f398690, he398689, wf398690⟩ := show rk_36 I (F396812 q398685) from RS_o hT ht398686
                refine Gw_callS (As := [.ref q398685, .int g398650]) (gV_ok D I) (cp_1845_SpillForgeModel_has l hl0 D I P396811 F396812 q398685 g398650 f398690 hm398688 he398689 (gB_w bg398650' (by decide) (by decide))) dr_cX17_mayMerge_62 ⟨wr_10_203, wr_1_14, wr_10_205, by decide, rfl, (Nat.le_of_ble_eq_true rfl), (Nat.le_of_ble_eq_true rfl)⟩ wr_10_204 (show 0 + 0 ≤ 0 by first | omega | decide) (show 0 + 0 ≤ 0 by first | omega | decide) (Nat.le_of_ble_eq_true rfl) (fun r398694 w398695 dc398691 ds398692 hp398693 => ?_) (fun _ _ _ _ _ z => z.elim)
                rcases hp398693 with ⟨z398696, z398697, rfl, rfl, hdc, hds, r398698, r398699, r398700, r398701, r398702⟩ | ⟨z398703, z398704, rfl, rfl, hdc, hds, r398705, r398706, r398707, r398708, r398709⟩
                · change G _ _ _ _ _ _ _ (.int 0 :: _) _ _ _
                  refine G_widen (cs' := 0) (sl' := 0) (by omega) (by omega) ?_
                  refine G_istore (L' := [(7, .int 0), (6, .int 0), (5, .int g398650), (4, .int g398651), (0, .ref q396813), (1, .int p396814), (2, .int p396815), (3, .int p396816)]) dr_cX17_mayMerge_65 (Nat.le_of_ble_eq_true rfl) rfl ?_
                  refine G_iload 1 dr_cX17_mayMerge_67 rfl ?_
                  refine G_if_ne 80 dr_cX17_mayMerge_69 (by decide +kernel) (fun hc => absurd hc (by decide)) (fun _ => ?_)
                  refine G_iload 0 dr_cX17_mayMerge_72 rfl ?_
                  refine G_if_ne 80 dr_cX17_mayMerge_74 (by decide +kernel) (fun hc => absurd hc (by decide)) (fun _ => ?_)
                  refine G_goto 120 dr_cX17_mayMerge_77 (by decide +kernel) ?_
                  obtain ⟨z398711, hz398711⟩ : ∃ z : Int32, z = g398650 + Int32.ofInt 1 := ⟨_, rfl⟩
                  have ez398711 : z398711.toInt = g398650.toInt + 1 := gI_inc hz398711 (by decide) bg398650' (by decide) (by decide)
                  have bz398711 : gB z398711 1 2000 := ⟨by omega, by omega⟩
                  refine G_iinc (L' := [(5, .int z398711), (7, .int 0), (6, .int 0), (4, .int g398651), (0, .ref q396813), (1, .int p396814), (2, .int p396815), (3, .int p396816)]) z398711 2 dr_cX17_mayMerge_120 rfl hz398711.symm (Nat.le_of_ble_eq_true rfl) rfl ?_
                  refine G_goto 33 dr_cX17_mayMerge_123 (by decide +kernel) ?_
                  refine G_lv (L' := [(5, .int z398711), (4, .int g398651), (0, .ref q396813), (1, .int p396814), (2, .int p396815), (3, .int p396816)]) [0, 3, 4, 5, 6, 7] rfl ?_
                  exact ih33_398651 z398711 g398651 (gB_w bz398711 (by decide) (by decide)) (mz_up ez398711 (Int.le_trans bg398650'.2 (by decide)) hm33_398651)
                · change G _ _ _ _ _ _ _ (.int 1 :: _) _ _ _
                  refine G_widen (cs' := 0) (sl' := 0) (by omega) (by omega) ?_
                  refine G_istore (L' := [(7, .int 1), (6, .int 0), (5, .int g398650), (4, .int g398651), (0, .ref q396813), (1, .int p396814), (2, .int p396815), (3, .int p396816)]) dr_cX17_mayMerge_65 (Nat.le_of_ble_eq_true rfl) rfl ?_
                  refine G_iload 1 dr_cX17_mayMerge_67 rfl ?_
                  refine G_if_ne 80 dr_cX17_mayMerge_69 (by decide +kernel) (fun hc => absurd hc (by decide)) (fun _ => ?_)
                  refine G_iload 0 dr_cX17_mayMerge_72 rfl ?_
                  refine G_if_ne 80 dr_cX17_mayMerge_74 (by decide +kernel) (fun _ => ?_) (fun hc => absurd hc (by decide))
                  refine G_iload 3 dr_cX17_mayMerge_80 rfl ?_
                  refine G_aload_n 4 dr_cX17_mayMerge_82 rfl ?_
                  refine Gp_get 1 hm396824 he396825 dr_cX17_mayMerge_83 (gk_X17 D I) (Nat.le_of_ble_eq_true rfl) wr_7_75 rfl ?_
                  refine G_iload 2 dr_cX17_mayMerge_86 rfl ?_
                  obtain ⟨q398712, hx398714⟩ : ∃ x, x = γ 11 g398650.toInt.toNat := ⟨_, rfl⟩
                  have ht398713 : rKd γ q398712 36 := by rw [hx398714]; exact (hg396874 _ (show g398650.toInt.toNat < 2000 by omega)).2.1
                  refine Gp_aald 5 hm396871 he396872 dr_cX17_mayMerge_88 rfl rfl (gB_in bg398650' (by decide) (by decide)) ?_
                  rw [show f396873 g398650.toNatClampNeg = some q398712 from (hg396874 _ (show g398650.toInt.toNat < 2000 by omega)).1.trans (by rw [hx398714])]
                  change G _ _ _ _ _ _ _ (.ref q398712 :: _) _ _ _
                  have hm398715 : q398712 ∈ P396811 := RS_m hT ht398713 (by decide)
                  obtain ⟨f398717, he398716, wf398717⟩ := show rk_36 I (F396812 q398712) from RS_o hT ht398713
                  refine Gw_callS (As := [.ref q398712]) (gV_ok D I) (cp_1899_SpillForgeModel_count l hl0 D I P396811 F396812 q398712 f398717 hm398715 he398716) dr_cX17_mayMerge_89 ⟨wr_11_16, wr_1_14, wr_11_18, by decide, rfl, (Nat.le_of_ble_eq_true rfl), (Nat.le_of_ble_eq_true rfl)⟩ wr_11_17 (show 0 + 0 ≤ 0 by first | omega | decide) (show 0 + 0 ≤ 0 by first | omega | decide) (Nat.le_of_ble_eq_true rfl) (fun r398721 w398722 dc398718 ds398719 hp398720 => ?_) (fun _ _ _ _ _ z => z.elim)
                  obtain ⟨o398723, rfl, rfl, hdc, hds, ht398724⟩ := hp398720
                  have bo398723 := gB_any o398723
                  change G _ _ _ _ _ _ _ (.int o398723 :: _) _ _ _
                  refine G_widen (cs' := 0) (sl' := 0) (by omega) (by omega) ?_
                  refine G_iload 1 dr_cX17_mayMerge_92 rfl ?_
                  refine G_if_eq 106 dr_cX17_mayMerge_94 (by decide +kernel) (fun _ => ?_) (fun hc => absurd hc (by decide))
                  refine G_iconst 0 dr_cX17_mayMerge_106 (by decide +kernel) ?_
                  refine G_isub dr_cX17_mayMerge_107 (G_nam fun z398725 hz398725 => ?_)
                  have ez398725 : z398725.toInt = o398723.toInt - 0 := by rw [gI_sub hz398725 bo398723 (gBl (show Int32.toInt 0 = 0 by decide)) (by decide) (by decide), show Int32.toInt 0 = 0 from by decide]
                  have bz398725 : gB z398725 (-2147483648) 2147483647 := gB_sub (gI_sub hz398725 bo398723 (gBl (show Int32.toInt 0 = 0 by decide)) (by decide) (by decide)) bo398723 (gBl (show Int32.toInt 0 = 0 by decide)) (by decide) (by decide)
                  refine G_iload_n 7 dr_cX17_mayMerge_108 rfl ?_
                  refine G_icmp_lt 116 dr_cX17_mayMerge_109 (by decide +kernel) (fun hc398726 => ?_) (fun hc398726 => ?_)
                  · have r398727 : z398725.toInt < p396816.toInt := gC_lt hc398726
                    have bz398725' : gB z398725 (-2147483648) 2147483646 := ⟨by omega, by omega⟩
                    have bp396816' : gB p396816 (-2147483647) 2147483647 := ⟨by omega, by omega⟩
                    refine G_iconst 0 dr_cX17_mayMerge_116 (by decide +kernel) ?_
                    refine G_iadd dr_cX17_mayMerge_117 (G_nam fun z398728 hz398728 => ?_)
                    have ez398728 : z398728.toInt = g398651.toInt + 0 := by rw [gI_add hz398728 bg398651 (gBl (show Int32.toInt 0 = 0 by decide)) (by decide) (by decide), show Int32.toInt 0 = 0 from by decide]
                    have bz398728 : gB z398728 (-2147483648) 2147483647 := gB_add (gI_add hz398728 bg398651 (gBl (show Int32.toInt 0 = 0 by decide)) (by decide) (by decide)) bg398651 (gBl (show Int32.toInt 0 = 0 by decide)) (by decide) (by decide)
                    refine G_istore (L' := [(4, .int z398728), (7, .int 1), (6, .int 0), (5, .int g398650), (0, .ref q396813), (1, .int p396814), (2, .int p396815), (3, .int p396816)]) dr_cX17_mayMerge_118 (Nat.le_of_ble_eq_true rfl) rfl ?_
                    obtain ⟨z398729, hz398729⟩ : ∃ z : Int32, z = g398650 + Int32.ofInt 1 := ⟨_, rfl⟩
                    have ez398729 : z398729.toInt = g398650.toInt + 1 := gI_inc hz398729 (by decide) bg398650' (by decide) (by decide)
                    have bz398729 : gB z398729 1 2000 := ⟨by omega, by omega⟩
                    refine G_iinc (L' := [(5, .int z398729), (4, .int z398728), (7, .int 1), (6, .int 0), (0, .ref q396813), (1, .int p396814), (2, .int p396815), (3, .int p396816)]) z398729 3 dr_cX17_mayMerge_120 rfl hz398729.symm (Nat.le_of_ble_eq_true rfl) rfl ?_
                    refine G_goto 33 dr_cX17_mayMerge_123 (by decide +kernel) ?_
                    refine G_lv (L' := [(5, .int z398729), (4, .int z398728), (0, .ref q396813), (1, .int p396814), (2, .int p396815), (3, .int p396816)]) [0, 1, 4, 5, 6, 7] rfl ?_
                    exact ih33_398651 z398729 z398728 (gB_w bz398729 (by decide) (by decide)) (mz_up ez398729 (Int.le_trans bg398650'.2 (by decide)) hm33_398651)
                  · have r398730 : p396816.toInt ≤ z398725.toInt := gC_nlt hc398726
                    refine G_iconst 1 dr_cX17_mayMerge_112 (by decide +kernel) ?_
                    refine G_goto 117 dr_cX17_mayMerge_113 (by decide +kernel) ?_
                    refine G_iadd dr_cX17_mayMerge_117 (G_nam fun z398731 hz398731 => ?_)
                    have bz398731 : gB z398731 (-2147483648) 2147483647 := gB_any z398731
                    refine G_istore (L' := [(4, .int z398731), (7, .int 1), (6, .int 0), (5, .int g398650), (0, .ref q396813), (1, .int p396814), (2, .int p396815), (3, .int p396816)]) dr_cX17_mayMerge_118 (Nat.le_of_ble_eq_true rfl) rfl ?_
                    obtain ⟨z398732, hz398732⟩ : ∃ z : Int32, z = g398650 + Int32.ofInt 1 := ⟨_, rfl⟩
                    have ez398732 : z398732.toInt = g398650.toInt + 1 := gI_inc hz398732 (by decide) bg398650' (by decide) (by decide)
                    have bz398732 : gB z398732 1 2000 := ⟨by omega, by omega⟩
                    refine G_iinc (L' := [(5, .int z398732), (4, .int z398731), (7, .int 1), (6, .int 0), (0, .ref q396813), (1, .int p396814), (2, .int p396815), (3, .int p396816)]) z398732 3 dr_cX17_mayMerge_120 rfl hz398732.symm (Nat.le_of_ble_eq_true rfl) rfl ?_
                    refine G_goto 33 dr_cX17_mayMerge_123 (by decide +kernel) ?_
                    refine G_lv (L' := [(5, .int z398732), (4, .int z398731), (0, .ref q396813), (1, .int p396814), (2, .int p396815), (3, .int p396816)]) [0, 1, 4, 5, 6, 7] rfl ?_
                    exact ih33_398651 z398732 z398731 (gB_w bz398732 (by decide) (by decide)) (mz_up ez398732 (Int.le_trans bg398650'.2 (by decide)) hm33_398651)
              · change G _ _ _ _ _ _ _ (.int 1 :: _) _ _ _
                refine G_widen (cs' := 0) (sl' := 0) (by omega) (by omega) ?_
                refine G_istore (L' := [(6, .int 1), (5, .int g398650), (4, .int g398651), (0, .ref q396813), (1, .int p396814), (2, .int p396815), (3, .int p396816)]) dr_cX17_mayMerge_52 (Nat.le_of_ble_eq_true rfl) rfl ?_
                refine G_aload_n 3 dr_cX17_mayMerge_54 rfl ?_
                refine Gp_get 1 hm396824 he396825 dr_cX17_mayMerge_55 (gk_X17 D I) (Nat.le_of_ble_eq_true rfl) wr_7_75 rfl ?_
                refine G_iload_n 5 dr_cX17_mayMerge_58 rfl ?_
                obtain ⟨q398733, hx398735⟩ : ∃ x, x = γ 11 p396815.toInt.toNat := ⟨_, rfl⟩
                have ht398734 : rKd γ q398733 36 := by rw [hx398735]; exact (hg396874 _ (show p396815.toInt.toNat < 2000 by omega)).2.1
                refine Gp_aald 5 hm396871 he396872 dr_cX17_mayMerge_59 rfl rfl (gB_in bp396815' (by decide) (by decide)) ?_
                rw [show f396873 p396815.toNatClampNeg = some q398733 from (hg396874 _ (show p396815.toInt.toNat < 2000 by omega)).1.trans (by rw [hx398735])]
                change G _ _ _ _ _ _ _ (.ref q398733 :: _) _ _ _
                refine G_iload 1 dr_cX17_mayMerge_60 rfl ?_
                have hm398736 : q398733 ∈ P396811 := RS_m hT ht398734 (by decide)
                obtain ⟨f398738, he398737, wf398738⟩ := show rk_36 I (F396812 q398733) from RS_o hT ht398734
                refine Gw_callS (As := [.ref q398733, .int g398650]) (gV_ok D I) (cp_1845_SpillForgeModel_has l hl0 D I P396811 F396812 q398733 g398650 f398738 hm398736 he398737 (gB_w bg398650' (by decide) (by decide))) dr_cX17_mayMerge_62 ⟨wr_10_203, wr_1_14, wr_10_205, by decide, rfl, (Nat.le_of_ble_eq_true rfl), (Nat.le_of_ble_eq_true rfl)⟩ wr_10_204 (show 0 + 0 ≤ 0 by first | omega | decide) (show 0 + 0 ≤ 0 by first | omega | decide) (Nat.le_of_ble_eq_true rfl) (fun r398742 w398743 dc398739 ds398740 hp398741 => ?_) (fun _ _ _ _ _ z => z.elim)
                rcases hp398741 with ⟨z398744, z398745, rfl, rfl, hdc, hds, r398746, r398747, r398748, r398749, r398750⟩ | ⟨z398751, z398752, rfl, rfl, hdc, hds, r398753, r398754, r398755, r398756, r398757⟩
                · change G _ _ _ _ _ _ _ (.int 0 :: _) _ _ _
                  refine G_widen (cs' := 0) (sl' := 0) (by omega) (by omega) ?_
                  refine G_istore (L' := [(7, .int 0), (6, .int 1), (5, .int g398650), (4, .int g398651), (0, .ref q396813), (1, .int p396814), (2, .int p396815), (3, .int p396816)]) dr_cX17_mayMerge_65 (Nat.le_of_ble_eq_true rfl) rfl ?_
                  refine G_iload 1 dr_cX17_mayMerge_67 rfl ?_
                  refine G_if_ne 80 dr_cX17_mayMerge_69 (by decide +kernel) (fun _ => ?_) (fun hc => absurd hc (by decide))
                  refine G_iload 3 dr_cX17_mayMerge_80 rfl ?_
                  refine G_aload_n 4 dr_cX17_mayMerge_82 rfl ?_
                  refine Gp_get 1 hm396824 he396825 dr_cX17_mayMerge_83 (gk_X17 D I) (Nat.le_of_ble_eq_true rfl) wr_7_75 rfl ?_
                  refine G_iload 2 dr_cX17_mayMerge_86 rfl ?_
                  obtain ⟨q398759, hx398761⟩ : ∃ x, x = γ 11 g398650.toInt.toNat := ⟨_, rfl⟩
                  have ht398760 : rKd γ q398759 36 := by rw [hx398761]; exact (hg396874 _ (show g398650.toInt.toNat < 2000 by omega)).2.1
                  refine Gp_aald 5 hm396871 he396872 dr_cX17_mayMerge_88 rfl rfl (gB_in bg398650' (by decide) (by decide)) ?_
                  rw [show f396873 g398650.toNatClampNeg = some q398759 from (hg396874 _ (show g398650.toInt.toNat < 2000 by omega)).1.trans (by rw [hx398761])]
                  change G _ _ _ _ _ _ _ (.ref q398759 :: _) _ _ _
                  have hm398762 : q398759 ∈ P396811 := RS_m hT ht398760 (by decide)
                  obtain ⟨f398764, he398763, wf398764⟩ := show rk_36 I (F396812 q398759) from RS_o hT ht398760
                  refine Gw_callS (As := [.ref q398759]) (gV_ok D I) (cp_1899_SpillForgeModel_count l hl0 D I P396811 F396812 q398759 f398764 hm398762 he398763) dr_cX17_mayMerge_89 ⟨wr_11_16, wr_1_14, wr_11_18, by decide, rfl, (Nat.le_of_ble_eq_true rfl), (Nat.le_of_ble_eq_true rfl)⟩ wr_11_17 (show 0 + 0 ≤ 0 by first | omega | decide) (show 0 + 0 ≤ 0 by first | omega | decide) (Nat.le_of_ble_eq_true rfl) (fun r398768 w398769 dc398765 ds398766 hp398767 => ?_) (fun _ _ _ _ _ z => z.elim)
                  obtain ⟨o398770, rfl, rfl, hdc, hds, ht398771⟩ := hp398767
                  have bo398770 := gB_any o398770
                  change G _ _ _ _ _ _ _ (.int o398770 :: _) _ _ _
                  refine G_widen (cs' := 0) (sl' := 0) (by omega) (by omega) ?_
                  refine G_iload 1 dr_cX17_mayMerge_92 rfl ?_
                  refine G_if_eq 106 dr_cX17_mayMerge_94 (by decide +kernel) (fun hc => absurd hc (by decide)) (fun _ => ?_)
                  refine G_iload 0 dr_cX17_mayMerge_97 rfl ?_
                  refine G_if_eq 106 dr_cX17_mayMerge_99 (by decide +kernel) (fun _ => ?_) (fun hc => absurd hc (by decide))
                  refine G_iconst 0 dr_cX17_mayMerge_106 (by decide +kernel) ?_
                  refine G_isub dr_cX17_mayMerge_107 (G_nam fun z398772 hz398772 => ?_)
                  have ez398772 : z398772.toInt = o398770.toInt - 0 := by rw [gI_sub hz398772 bo398770 (gBl (show Int32.toInt 0 = 0 by decide)) (by decide) (by decide), show Int32.toInt 0 = 0 from by decide]
                  have bz398772 : gB z398772 (-2147483648) 2147483647 := gB_sub (gI_sub hz398772 bo398770 (gBl (show Int32.toInt 0 = 0 by decide)) (by decide) (by decide)) bo398770 (gBl (show Int32.toInt 0 = 0 by decide)) (by decide) (by decide)
                  refine G_iload_n 7 dr_cX17_mayMerge_108 rfl ?_
                  refine G_icmp_lt 116 dr_cX17_mayMerge_109 (by decide +kernel) (fun hc398773 => ?_) (fun hc398773 => ?_)
                  · have r398774 : z398772.toInt < p396816.toInt := gC_lt hc398773
                    have bz398772' : gB z398772 (-2147483648) 2147483646 := ⟨by omega, by omega⟩
                    have bp396816' : gB p396816 (-2147483647) 2147483647 := ⟨by omega, by omega⟩
                    refine G_iconst 0 dr_cX17_mayMerge_116 (by decide +kernel) ?_
                    refine G_iadd dr_cX17_mayMerge_117 (G_nam fun z398775 hz398775 => ?_)
                    have ez398775 : z398775.toInt = g398651.toInt + 0 := by rw [gI_add hz398775 bg398651 (gBl (show Int32.toInt 0 = 0 by decide)) (by decide) (by decide), show Int32.toInt 0 = 0 from by decide]
                    have bz398775 : gB z398775 (-2147483648) 2147483647 := gB_add (gI_add hz398775 bg398651 (gBl (show Int32.toInt 0 = 0 by decide)) (by decide) (by decide)) bg398651 (gBl (show Int32.toInt 0 = 0 by decide)) (by decide) (by decide)
                    refine G_istore (L' := [(4, .int z398775), (7, .int 0), (6, .int 1), (5, .int g398650), (0, .ref q396813), (1, .int p396814), (2, .int p396815), (3, .int p396816)]) dr_cX17_mayMerge_118 (Nat.le_of_ble_eq_true rfl) rfl ?_
                    obtain ⟨z398776, hz398776⟩ : ∃ z : Int32, z = g398650 + Int32.ofInt 1 := ⟨_, rfl⟩
                    have ez398776 : z398776.toInt = g398650.toInt + 1 := gI_inc hz398776 (by decide) bg398650' (by decide) (by decide)
                    have bz398776 : gB z398776 1 2000 := ⟨by omega, by omega⟩
                    refine G_iinc (L' := [(5, .int z398776), (4, .int z398775), (7, .int 0), (6, .int 1), (0, .ref q396813), (1, .int p396814), (2, .int p396815), (3, .int p396816)]) z398776 3 dr_cX17_mayMerge_120 rfl hz398776.symm (Nat.le_of_ble_eq_true rfl) rfl ?_
                    refine G_goto 33 dr_cX17_mayMerge_123 (by decide +kernel) ?_
                    refine G_lv (L' := [(5, .int z398776), (4, .int z398775), (0, .ref q396813), (1, .int p396814), (2, .int p396815), (3, .int p396816)]) [0, 1, 4, 5, 6, 7] rfl ?_
                    exact ih33_398651 z398776 z398775 (gB_w bz398776 (by decide) (by decide)) (mz_up ez398776 (Int.le_trans bg398650'.2 (by decide)) hm33_398651)
                  · have r398777 : p396816.toInt ≤ z398772.toInt := gC_nlt hc398773
                    refine G_iconst 1 dr_cX17_mayMerge_112 (by decide +kernel) ?_
                    refine G_goto 117 dr_cX17_mayMerge_113 (by decide +kernel) ?_
                    refine G_iadd dr_cX17_mayMerge_117 (G_nam fun z398778 hz398778 => ?_)
                    have bz398778 : gB z398778 (-2147483648) 2147483647 := gB_any z398778
                    refine G_istore (L' := [(4, .int z398778), (7, .int 0), (6, .int 1), (5, .int g398650), (0, .ref q396813), (1, .int p396814), (2, .int p396815), (3, .int p396816)]) dr_cX17_mayMerge_118 (Nat.le_of_ble_eq_true rfl) rfl ?_
                    obtain ⟨z398779, hz398779⟩ : ∃ z : Int32, z = g398650 + Int32.ofInt 1 := ⟨_, rfl⟩
                    have ez398779 : z398779.toInt = g398650.toInt + 1 := gI_inc hz398779 (by decide) bg398650' (by decide) (by decide)
                    have bz398779 : gB z398779 1 2000 := ⟨by omega, by omega⟩
                    refine G_iinc (L' := [(5, .int z398779), (4, .int z398778), (7, .int 0), (6, .int 1), (0, .ref q396813), (1, .int p396814), (2, .int p396815), (3, .int p396816)]) z398779 3 dr_cX17_mayMerge_120 rfl hz398779.symm (Nat.le_of_ble_eq_true rfl) rfl ?_
                    refine G_goto 33 dr_cX17_mayMerge_123 (by decide +kernel) ?_
                    refine G_lv (L' := [(5, .int z398779), (4, .int z398778), (0, .ref q396813), (1, .int p396814), (2, .int p396815), (3, .int p396816)]) [0, 1, 4, 5, 6, 7] rfl ?_
                    exact ih33_398651 z398779 z398778 (gB_w bz398779 (by decide) (by decide)) (mz_up ez398779 (Int.le_trans bg398650'.2 (by decide)) hm33_398651)
                · change G _ _ _ _ _ _ _ (.int 1 :: _) _ _ _
                  refine G_widen (cs' := 0) (sl' := 0) (by omega) (by omega) ?_
                  refine G_istore (L' := [(7, .int 1), (6, .int 1), (5, .int g398650), (4, .int g398651), (0, .ref q396813), (1, .int p396814), (2, .int p396815), (3, .int p396816)]) dr_cX17_mayMerge_65 (Nat.le_of_ble_eq_true rfl) rfl ?_
                  refine G_iload 1 dr_cX17_mayMerge_67 rfl ?_
                  refine G_if_ne 80 dr_cX17_mayMerge_69 (by decide +kernel) (fun _ => ?_) (fun hc => absurd hc (by decide))
                  refine G_iload 3 dr_cX17_mayMerge_80 rfl ?_
                  refine G_aload_n 4 dr_cX17_mayMerge_82 rfl ?_
                  refine Gp_get 1 hm396824 he396825 dr_cX17_mayMerge_83 (gk_X17 D I) (Nat.le_of_ble_eq_true rfl) wr_7_75 rfl ?_
                  refine G_iload 2 dr_cX17_mayMerge_86 rfl ?_
                  obtain ⟨q398780, hx398782⟩ : ∃ x, x = γ 11 g398650.toInt.toNat := ⟨_, rfl⟩
                  have ht398781 : rKd γ q398780 36 := by rw [hx398782]; exact (hg396874 _ (show g398650.toInt.toNat < 2000 by omega)).2.1
                  refine Gp_aald 5 hm396871 he396872 dr_cX17_mayMerge_88 rfl rfl (gB_in bg398650' (by decide) (by decide)) ?_
                  rw [show f396873 g398650.toNatClampNeg = some q398780 from (hg396874 _ (show g398650.toInt.toNat < 2000 by omega)).1.trans (by rw [hx398782])]
                  change G _ _ _ _ _ _ _ (.ref q398780 :: _) _ _ _
                  have hm398783 : q398780 ∈ P396811 := RS_m hT ht398781 (by decide)
                  obtain ⟨f398785, he398784, wf398785⟩ := show rk_36 I (F396812 q398780) from RS_o hT ht398781
                  refine Gw_callS (As := [.ref q398780]) (gV_ok D I) (cp_1899_SpillForgeModel_count l hl0 D I P396811 F396812 q398780 f398785 hm398783 he398784) dr_cX17_mayMerge_89 ⟨wr_11_16, wr_1_14, wr_11_18, by decide, rfl, (Nat.le_of_ble_eq_true rfl), (Nat.le_of_ble_eq_true rfl)⟩ wr_11_17 (show 0 + 0 ≤ 0 by first | omega | decide) (show 0 + 0 ≤ 0 by first | omega | decide) (Nat.le_of_ble_eq_true rfl) (fun r398789 w398790 dc398786 ds398787 hp398788 => ?_) (fun _ _ _ _ _ z => z.elim)
                  obtain ⟨o398791, rfl, rfl, hdc, hds, ht398792⟩ := hp398788
                  have bo398791 := gB_any o398791
                  change G _ _ _ _ _ _ _ (.int o398791 :: _) _ _ _
                  refine G_widen (cs' := 0) (sl' := 0) (by omega) (by omega) ?_
                  refine G_iload 1 dr_cX17_mayMerge_92 rfl ?_
                  refine G_if_eq 106 dr_cX17_mayMerge_94 (by decide +kernel) (fun hc => absurd hc (by decide)) (fun _ => ?_)
                  refine G_iload 0 dr_cX17_mayMerge_97 rfl ?_
                  refine G_if_eq 106 dr_cX17_mayMerge_99 (by decide +kernel) (fun hc => absurd hc (by decide)) (fun _ => ?_)
                  refine G_iconst 1 dr_cX17_mayMerge_102 (by decide +kernel) ?_
                  refine G_goto 107 dr_cX17_mayMerge_103 (by decide +kernel) ?_
                  refine G_isub dr_cX17_mayMerge_107 (G_nam fun z398793 hz398793 => ?_)
                  have bz398793 : gB z398793 (-2147483648) 2147483647 := gB_any z398793
                  refine G_iload_n 7 dr_cX17_mayMerge_108 rfl ?_
                  refine G_icmp_lt 116 dr_cX17_mayMerge_109 (by decide +kernel) (fun hc398794 => ?_) (fun hc398794 => ?_)
                  · have r398795 : z398793.toInt < p396816.toInt := gC_lt hc398794
                    have bz398793' : gB z398793 (-2147483648) 2147483646 := ⟨by omega, by omega⟩
                    have bp396816' : gB p396816 (-2147483647) 2147483647 := ⟨by omega, by omega⟩
                    refine G_iconst 0 dr_cX17_mayMerge_116 (by decide +kernel) ?_
                    refine G_iadd dr_cX17_mayMerge_117 (G_nam fun z398796 hz398796 => ?_)
                    have ez398796 : z398796.toInt = g398651.toInt + 0 := by rw [gI_add hz398796 bg398651 (gBl (show Int32.toInt 0 = 0 by decide)) (by decide) (by decide), show Int32.toInt 0 = 0 from by decide]
                    have bz398796 : gB z398796 (-2147483648) 2147483647 := gB_add (gI_add hz398796 bg398651 (gBl (show Int32.toInt 0 = 0 by decide)) (by decide) (by decide)) bg398651 (gBl (show Int32.toInt 0 = 0 by decide)) (by decide) (by decide)
                    refine G_istore (L' := [(4, .int z398796), (7, .int 1), (6, .int 1), (5, .int g398650), (0, .ref q396813), (1, .int p396814), (2, .int p396815), (3, .int p396816)]) dr_cX17_mayMerge_118 (Nat.le_of_ble_eq_true rfl) rfl ?_
                    obtain ⟨z398797, hz398797⟩ : ∃ z : Int32, z = g398650 + Int32.ofInt 1 := ⟨_, rfl⟩
                    have ez398797 : z398797.toInt = g398650.toInt + 1 := gI_inc hz398797 (by decide) bg398650' (by decide) (by decide)
                    have bz398797 : gB z398797 1 2000 := ⟨by omega, by omega⟩
                    refine G_iinc (L' := [(5, .int z398797), (4, .int z398796), (7, .int 1), (6, .int 1), (0, .ref q396813), (1, .int p396814), (2, .int p396815), (3, .int p396816)]) z398797 3 dr_cX17_mayMerge_120 rfl hz398797.symm (Nat.le_of_ble_eq_true rfl) rfl ?_
                    refine G_goto 33 dr_cX17_mayMerge_123 (by decide +kernel) ?_
                    refine G_lv (L' := [(5, .int z398797), (4, .int z398796), (0, .ref q396813), (1, .int p396814), (2, .int p396815), (3, .int p396816)]) [0, 1, 4, 5, 6, 7] rfl ?_
                    exact ih33_398651 z398797 z398796 (gB_w bz398797 (by decide) (by decide)) (mz_up ez398797 (Int.le_trans bg398650'.2 (by decide)) hm33_398651)
                  · have r398798 : p396816.toInt ≤ z398793.toInt := gC_nlt hc398794
                    refine G_iconst 1 dr_cX17_mayMerge_112 (by decide +kernel) ?_
                    refine G_goto 117 dr_cX17_mayMerge_113 (by decide +kernel) ?_
                    refine G_iadd dr_cX17_mayMerge_117 (G_nam fun z398799 hz398799 => ?_)
                    have bz398799 : gB z398799 (-2147483648) 2147483647 := gB_any z398799
                    refine G_istore (L' := [(4, .int z398799), (7, .int 1), (6, .int 1), (5, .int g398650), (0, .ref q396813), (1, .int p396814), (2, .int p396815), (3, .int p396816)]) dr_cX17_mayMerge_118 (Nat.le_of_ble_eq_true rfl) rfl ?_
                    obtain ⟨z398800, hz398800⟩ : ∃ z : Int32, z = g398650 + Int32.ofInt 1 := ⟨_, rfl⟩
                    have ez398800 : z398800.toInt = g398650.toInt + 1 := gI_inc hz398800 (by decide) bg398650' (by decide) (by decide)
                    have bz398800 : gB z398800 1 2000 := ⟨by omega, by omega⟩
                    refine G_iinc (L' := [(5, .int z398800), (4, .int z398799), (7, .int 1), (6, .int 1), (0, .ref q396813), (1, .int p396814), (2, .int p396815), (3, .int p396816)]) z398800 3 dr_cX17_mayMerge_120 rfl hz398800.symm (Nat.le_of_ble_eq_true rfl) rfl ?_
                    refine G_goto 33 dr_cX17_mayMerge_123 (by decide +kernel) ?_
                    refine G_lv (L' := [(5, .int z398800), (4, .int z398799), (0, .ref q396813), (1, .int p396814), (2, .int p396815), (3, .int p396816)]) [0, 1, 4, 5, 6, 7] rfl ?_
                    exact ih33_398651 z398800 z398799 (gB_w bz398800 (by decide) (by decide)) (mz_up ez398800 (Int.le_trans bg398650'.2 (by decide)) hm33_398651)
        exact hlp33_398651 (((2001 : Int) - 0).toNat + 1) 0 0 (gB_w (gBl (show Int32.toInt 0 = 0 by decide)) (by decide) (by decide)) (Nat.lt_succ_self _)
      · change G _ _ _ _ _ _ _ (.int 1 :: _) _ _ _
        refine G_widen (cs' := 0) (sl' := 0) (by omega) (by omega) ?_
        refine G_if_eq 27 dr_cX17_mayMerge_22 (by decide +kernel) (fun hc => absurd hc (by decide)) (fun _ => ?_)
        refine G_iconst 0 dr_cX17_mayMerge_25 (by decide +kernel) ?_
        exact G_zretA FieldType.boolean dr_cX17_mayMerge_26 rfl rfl (Nat.le_of_ble_eq_true rfl) (Nat.le_of_ble_eq_true rfl) ⟨0, rfl, rfl, (Nat.le_of_ble_eq_true rfl), (Nat.le_of_ble_eq_true rfl), (gB_w (gBl (show Int32.toInt 0 = 0 by decide)) (by decide) (by decide)), (by have qa0 : Int32.toInt 0 = 0 := (by decide); omega)⟩
abbrev ky_398809_SpillForgeModel_merge : gKey := (cX17_merge, 9, "SpillForgeModel", (some FieldType.boolean), [], "merge", fun _ _ => True)
def pg_398809_SpillForgeModel_merge (D : va_G) (I : FieldType → ClassId) (γ0 el0 : Nat → Nat → Nat) (f : Nat) (B : Nat) (P398803 : List Nat) (F398804 : Nat → va_E) (q398805 : Nat) (q398806 : Nat) (p398807 : Int32) : Option Value → va_W → Nat → Nat → Prop := fun r w dc ds => ∃ (P409476 : List Nat) (F409477 : Nat → va_E) (γ el : Nat → Nat → Nat) (o409475 : Int32), r = some (.int o409475) ∧ w = va_pl P409476 F409477 ∧ rSk f [] ([1, 3, 6] ++ npk) D I P398803 F398804 γ0 el0 P409476 F409477 γ el ∧ (18 * dc + rPh γ0 el0 f ≤ rPh γ el f ∧ ds + rPh γ0 el0 f ≤ rPh γ el f) ∧ rBd γ el f B ∧ gB o409475 0 1 ∧ γ 6 f = γ0 6 f ∧ γ 7 f = γ0 7 f ∧ γ 16 f = γ0 16 f ∧ γ 18 f = γ0 18 f ∧ (o409475.toInt = 0 ∨ rsum (fun i => γ 2 (γ 14 (el (γ 14 q398806) i))) (γ 6 f) + 1 ≤ rsum (fun i => γ0 2 (γ0 14 (el0 (γ0 14 q398806) i))) (γ0 6 f)) ∧ (∀ N : Nat → Prop, rPl γ0 el0 F398804 q398806 (γ0 6 f) (fun _ _ => rNx N) → rPl γ el F409477 q398806 (γ 6 f) (fun _ _ => rNx N)) ∧ (fI (F409477 q398805) 11).toInt = (fI (F398804 q398805) 11).toInt ∧ (fI (F409477 q398805) 14).toInt = (fI (F398804 q398805) 14).toInt ∧ (gIp (o409475.toInt = 0) (γ = γ0 ∧ el = el0 ∧ F409477 = F398804)) ∧ mKp (F398804 q398805) (F409477 q398805)
set_option maxRecDepth 100000 in
set_option maxHeartbeats 1500000 in
theorem cg_398809_SpillForgeModel_merge (l : Launch) (hl0 : l.stackTraces = false) (D : va_G) (I : FieldType → ClassId) (γ0 el0 : Nat → Nat → Nat) (f : Nat) (B : Nat) (P398803 : List Nat) (F398804 : Nat → va_E) (q398805 : Nat) (q398806 : Nat) (p398807 : Int32) (hT0 : RS D I P398803 F398804 γ0 el0) (hzq398805 : rKd γ0 q398805 10) (hzq398806 : rKd γ0 q398806 9) (hf0 : γ0 1 q398806 = f) (hB0 : rBd γ0 el0 f B) (hBk : B ≤ 100000) (x398808 : 0 < γ0 6 f) : CtA (gV D I) l yX17_merge cX17_merge 9 (some FieldType.boolean) 5 111 (((387 * B + 6000) - rPh γ0 el0 f) / 18) ((387 * B + 6000) - rPh γ0 el0 f) [.ref q398805, .ref q398806, .int p398807] (va_pl P398803 F398804) (pg_398809_SpillForgeModel_merge D I γ0 el0 f B P398803 F398804 q398805 q398806 p398807) gNA := by
  refine CtA_of hl0 (by decide) (Nat.le_of_ble_eq_true rfl) ?_
  have bp398807 := gB_any p398807
  obtain ⟨γ, hγ0⟩ : ∃ z, z = γ0 := ⟨_, rfl⟩
  obtain ⟨el, hel0⟩ : ∃ z, z = el0 := ⟨_, rfl⟩
  have hT : RS D I P398803 F398804 γ el := by rw [hγ0, hel0]; exact hT0
  have hst : rSk f [] ([1, 3, 6] ++ npk) D I P398803 F398804 γ0 el0 P398803 F398804 γ el := by rw [hγ0, hel0]; exact rSk_rf hT0
  have hph : rPh γ0 el0 f ≤ rPh γ el f := by rw [hγ0, hel0]; exact Nat.le_refl _
  have hB : rBd γ el f B := by rw [hγ0, hel0]; exact hB0
  have htq398805 : rKd γ q398805 10 := by rw [hγ0]; exact hzq398805
  have htq398806 : rKd γ q398806 9 := by rw [hγ0]; exact hzq398806
  have hf1 : γ 1 q398806 = f := by rw [hγ0]; exact hf0
  have x398808n : 0 < γ 6 f := by rw [hγ0]; exact x398808
  have pk398810 : rPh γ el f ≤ 387 * B + 6000 := rm_pk (rM_ge hT htq398806 hf1).1 (rM_bd hB)
  refine G_widen (cs' := ((rPh γ el f - rPh γ0 el0 f) / 18)) (sl' := (rPh γ el f - rPh γ0 el0 f)) (Nat.zero_le _) (Nat.zero_le _) ?_
  have e0_398811 : γ 6 f = γ0 6 f := by rw [hγ0]
  have e0_398812 : γ 7 f = γ0 7 f := by rw [hγ0]
  have e0_398813 : γ 16 f = γ0 16 f := by rw [hγ0]
  have e0_398814 : γ 18 f = γ0 18 f := by rw [hγ0]
  have e0_398815 : γ 19 f = γ0 19 f := by rw [hγ0]
  have v0_398816 : 0 < γ 6 (γ 1 q398806) := by rw [hf1, hγ0]; exact x398808
  have s0_398817 : rsum (fun i => γ 2 (γ 14 (el (γ 14 q398806) i))) (γ 6 f) = rsum (fun i => γ0 2 (γ0 14 (el0 (γ0 14 q398806) i))) (γ0 6 f) := by rw [hγ0, hel0]
  have hm398818 : q398805 ∈ P398803 := RS_m hT htq398805 (by decide)
  obtain ⟨q398820, q398821, p398822, p398823, p398824, p398825, p398826, p398827, p398828, p398829, p398830, p398831, p398832, p398833, p398834, p398835, p398836, he398819, hB398863, ht398837, ht398838, ht398839, ht398840, ht398841, ht398842, ht398843, ht398844, ht398845, ht398846, ht398847, ht398848, ht398849, ht398850, ht398851, ht398852, ht398853, ht398854, ht398855, ht398856, ht398857, ht398858, ht398859, ht398860, hB398864⟩ := show rk_10 γ (F398804 q398805) from RS_o hT htq398805
  have ac0_11 : (fI (F398804 q398805) 11).toInt = p398824.toInt := by rw [he398819]; rfl
  have ac0_14 : (fI (F398804 q398805) 14).toInt = p398827.toInt := by rw [he398819]; rfl
  have bp398824 : gB p398824 0 100 := (hB398863.2.2.1)
  have bp398827 : gB p398827 0 2000 := (hB398863.2.2.2.1)
  refine G_iconst 0 dr_cX17_merge_0 (by decide +kernel) ?_
  refine G_istore_n (L' := [(3, .int 0), (0, .ref q398805), (1, .ref q398806), (2, .int p398807)]) dr_cX17_merge_1 (Nat.le_of_ble_eq_true rfl) rfl ?_
  have hlp2_408676 : ∀ (n2_408676 : Nat) (g408676 : Int32), gB g408676 0 1000000 → ((1000001 : Int) - g408676.toInt).toNat < n2_408676 → G (gV D I) l (gRm 5 111 (((387 * B + 6000) - rPh γ0 el0 f) / 18) ((387 * B + 6000) - rPh γ0 el0 f)) (gMA (gV D I) (pg_398809_SpillForgeModel_merge D I γ0 el0 f B P398803 F398804 q398805 q398806 p398807) gNA (((387 * B + 6000) - rPh γ0 el0 f) / 18) ((387 * B + 6000) - rPh γ0 el0 f)) ky_398809_SpillForgeModel_merge 2 [(3, .int g408676), (0, .ref q398805), (1, .ref q398806), (2, .int p398807)] [] (va_pl P398803 F398804) ((rPh γ el f - rPh γ0 el0 f) / 18) (rPh γ el f - rPh γ0 el0 f) := by
    intro n2_408676
    induction n2_408676 with
    | zero => intro g408676 bg408676 hm2_408676; exact absurd hm2_408676 (Nat.not_lt_zero _)
    | succ n2_408676 ih2_408676 =>
      intro g408676 bg408676 hm2_408676
      refine G_iload_n 0 dr_cX17_merge_2 rfl ?_
      refine G_aload_n 2 dr_cX17_merge_3 rfl ?_
      have hm408678 : q398806 ∈ P398803 := RS_m hT htq398806 (by decide)
      obtain ⟨q408680, q408681, p408682, p408683, he408679, ht408699, ht408684, ht408685, ht408686, ht408687, r408688, r408689, r408690, r408691, r408692, r408693, r408694, r408695, r408696, r408697, r408698⟩ := show rk_9 γ el q398806 (F398804 q398806) from RS_o hT htq398806
      have bp408682 : gB p408682 0 1000000 := ⟨by omega, by omega⟩
      have bp408683 : gB p408683 0 1000000 := ⟨by omega, by omega⟩
      have hf408700 : γ 1 q408680 = f := (show γ 1 q408680 = γ 1 q398806 from ht408685).trans hf1
      have hf408701 : γ 1 q408681 = f := (show γ 1 q408681 = γ 1 q398806 from ht408687).trans hf1
      have r408702 : γ 6 (γ 1 q398806) = γ 6 f := by rw [hf1]
      have r408703 : γ 16 (γ 1 q398806) = γ 16 f := by rw [hf1]
      have r408704 : p408683.toInt = γ 6 f ∧ p408683.toInt ≤ 40 := by omega
      clear r408694
      refine Gw_callV (As := []) (gV_ok D I) (cp_12780_Code_size l hl0 D I P398803 F398804 q398806 q408680 q408681 p408682 p408683 hm408678 he408679) dr_cX17_merge_4 ⟨wr_10_160, wr_1_15, wr_9_131, by decide, rfl, (Nat.le_of_ble_eq_true rfl), (Nat.le_of_ble_eq_true rfl)⟩ wr_9_129 wr_9_130 hm408678 he408679 rfl (rm_zc pk398810) (rm_zs pk398810) (Nat.le_of_ble_eq_true rfl) (fun r408708 w408709 dc408705 ds408706 hp408707 => ?_) (fun _ _ _ _ _ z => z.elim)
      obtain ⟨rfl, rfl, hdc, hds⟩ := hp408707
      change G _ _ _ _ _ _ _ (.int p408683 :: _) _ _ _
      refine G_widen (cs' := ((rPh γ el f - rPh γ0 el0 f) / 18)) (sl' := (rPh γ el f - rPh γ0 el0 f)) (rm_d0 hdc) (rm_d0 hds) ?_
      refine G_icmp_ge 178 dr_cX17_merge_7 (by decide +kernel) (fun hc408710 => ?_) (fun hc408710 => ?_)
      · have r408711 : p408683.toInt ≤ g408676.toInt := gC_le hc408710
        have ac408712 : (fI (F398804 q398805) 11).toInt = p398824.toInt := by rw [he398819]; rfl
        have ac408713 : (fI (F398804 q398805) 14).toInt = p398827.toInt := by rw [he398819]; rfl
        refine G_iconst 0 dr_cX17_merge_178 (by decide +kernel) ?_
        exact G_zretA FieldType.boolean dr_cX17_merge_179 rfl rfl (show ((rPh γ el f - rPh γ0 el0 f) / 18) ≤ (((387 * B + 6000) - rPh γ0 el0 f) / 18) by omega) (show (rPh γ el f - rPh γ0 el0 f) ≤ ((387 * B + 6000) - rPh γ0 el0 f) by omega) ⟨P398803, F398804, γ, el, 0, rfl, rfl, hst, ⟨by omega, by omega⟩, hB, (gB_w (gBl (show Int32.toInt 0 = 0 by decide)) (by decide) (by decide)), (by have qa0 : Int32.toInt 0 = 0 := (by decide); omega), (by have qa0 : Int32.toInt 0 = 0 := (by decide); omega), (by have qa0 : Int32.toInt 0 = 0 := (by decide); omega), (by have qa0 : Int32.toInt 0 = 0 := (by decide); omega), (Or.inl (by decide)), (fun N h => by rw [hγ0, hel0]; exact h), (by have qa0 : Int32.toInt 0 = 0 := (by decide); omega), (by have qa0 : Int32.toInt 0 = 0 := (by decide); omega), (fun _ => ⟨hγ0, hel0, rfl⟩), mKp_rf⟩
      · have r408714 : g408676.toInt < p408683.toInt := gC_nle hc408710
        have bg408676' : gB g408676 0 999999 := ⟨by omega, by omega⟩
        have bp408683' : gB p408683 1 1000000 := ⟨by omega, by omega⟩
        refine G_aload_n 2 dr_cX17_merge_10 rfl ?_
        refine G_iload_n 0 dr_cX17_merge_11 rfl ?_
        have hm408715 : q408680 ∈ P398803 := RS_m hT ht408684 (by decide)
        obtain ⟨⟨p408717, p408718, q408719, he408716, r408720, r408721, r408722, r408724⟩, r408723⟩ := show rk_4 D I γ el F398804 q408680 from RS_o hT ht408684
        have bp408717 := gB_any p408717
        have bp408718 : gB p408718 0 1000000 := ⟨by omega, by omega⟩
        obtain ⟨r408725, r408726, n408733, f408734, r408727, r408728, r408729, r408730, r408731, r408732⟩ := rLC_n r408722 (by omega)
        have hm408735 : q408719 ∈ P398803 := RS_m hT r408725 (by decide)
        obtain ⟨q408736, hx408737⟩ : ∃ x, x = el q408680 g408676.toInt.toNat := ⟨_, rfl⟩
        have hx408738 : f408734 g408676.toNatClampNeg = some q408736 := (r408731 _ (show g408676.toInt.toNat < γ 2 q408680 by first | assumption | omega)).trans (by rw [hx408737])
        have ht408741 : rKd γ q408736 2 := by rw [hx408737]; exact (r408695 _ (by omega)).resolve_right (fun z => absurd z.1 (by omega))
        have ht408742 : rFm γ q408736 q408680 := by rw [hx408737]; exact (r408723 _ (show g408676.toInt.toNat < γ 2 q408680 by omega)).2.1
        have hm408743 : q408736 ∈ P398803 := RS_m hT ht408741 (by decide)
        obtain ⟨q408745, q408746, p408747, p408748, he408744, ht408755, ht408749, ht408750, ht408751, ht408752, ht408753, bp408747, bp408748, r408754, r408756, r408757⟩ := show rk_2 γ q408736 (F398804 q408736) from RS_o hT ht408741
        refine Gw_callV (As := [.int g408676]) (gV_ok D I) (cp_7901_Code_get l hl0 D I P398803 F398804 q398806 q408680 q408719 g408676 q408681 p408682 p408683 p408717 p408718 f408734 n408733 q408736 q408745 q408746 p408747 p408748 hm408678 hm408715 hm408735 hm408743 he408679 he408716 r408727 he408744 (gB_w bg408676' (by decide) (by decide)) (gB_w bp408718 (by decide) (by decide)) (by omega) (by omega) (by assumption) (by omega)) dr_cX17_merge_12 ⟨wr_10_161, wr_1_15, wr_10_141, by decide, rfl, (Nat.le_of_ble_eq_true rfl), (Nat.le_of_ble_eq_true rfl)⟩ wr_10_139 wr_10_140 hm408678 he408679 rfl (rm_zc pk398810) (rm_zs pk398810) (Nat.le_of_ble_eq_true rfl) (fun r408761 w408762 dc408758 ds408759 hp408760 => ?_) (fun _ _ _ _ _ z => z.elim)
        obtain ⟨rfl, rfl, hdc, hds, ht408763⟩ := hp408760
        change G _ _ _ _ _ _ _ (.ref q408736 :: _) _ _ _
        refine G_widen (cs' := ((rPh γ el f - rPh γ0 el0 f) / 18)) (sl' := (rPh γ el f - rPh γ0 el0 f)) (rm_d0 hdc) (rm_d0 hds) ?_
        have hf408764 : γ 1 q408736 = f := (show γ 1 q408736 = γ 1 q408680 from ht408742).trans ((show γ 1 q408680 = γ 1 q398806 from ht408685).trans hf1)
        have hf408765 : γ 1 q408745 = f := (show γ 1 q408745 = γ 1 q408736 from ht408750).trans hf408764
        have hf408766 : γ 1 q408746 = f := (show γ 1 q408746 = γ 1 q408736 from ht408752).trans hf408764
        have r408767 : γ 6 (γ 1 q408736) = γ 6 f := by rw [hf408764]
        have r408768 : γ 7 (γ 1 q408736) = γ 7 f := by rw [hf408764]
        have r408769 : γ 19 (γ 1 q408736) = γ 19 f := by rw [hf408764]
        have r408770 := r408754.resolve_left (by omega)
        clear r408754
        have r408771 : γ 2 (γ 14 q408736) = γ 2 q408745 := by rw [ht408755.1]
        have r408772 : g408676.toInt.toNat < γ 2 (γ 14 q398806) := by rw [ht408699.1]; omega
        have r408773 : el (γ 14 q398806) g408676.toInt.toNat = q408736 := by rw [ht408699.1, hx408737]
        refine G_astore (L' := [(4, .ref q408736), (3, .int g408676), (0, .ref q398805), (1, .ref q398806), (2, .int p398807)]) dr_cX17_merge_15 (Nat.le_of_ble_eq_true rfl) rfl ?_
        refine G_iconst 0 dr_cX17_merge_17 (by decide +kernel) ?_
        refine G_istore (L' := [(5, .int 0), (4, .ref q408736), (3, .int g408676), (0, .ref q398805), (1, .ref q398806), (2, .int p398807)]) dr_cX17_merge_18 (Nat.le_of_ble_eq_true rfl) rfl ?_
        have hlp20_409118 : ∀ (n20_409118 : Nat) (g409118 : Int32), gB g409118 0 1000000 → ((1000001 : Int) - g409118.toInt).toNat < n20_409118 → G (gV D I) l (gRm 5 111 (((387 * B + 6000) - rPh γ0 el0 f) / 18) ((387 * B + 6000) - rPh γ0 el0 f)) (gMA (gV D I) (pg_398809_SpillForgeModel_merge D I γ0 el0 f B P398803 F398804 q398805 q398806 p398807) gNA (((387 * B + 6000) - rPh γ0 el0 f) / 18) ((387 * B + 6000) - rPh γ0 el0 f)) ky_398809_SpillForgeModel_merge 20 [(5, .int g409118), (4, .ref q408736), (3, .int g408676), (0, .ref q398805), (1, .ref q398806), (2, .int p398807)] [] (va_pl P398803 F398804) ((rPh γ el f - rPh γ0 el0 f) / 18) (rPh γ el f - rPh γ0 el0 f) := by
          intro n20_409118
          induction n20_409118 with
          | zero => intro g409118 bg409118 hm20_409118; exact absurd hm20_409118 (Nat.not_lt_zero _)
          | succ n20_409118 ih20_409118 =>
            intro g409118 bg409118 hm20_409118
            refine G_iload 0 dr_cX17_merge_20 rfl ?_
            refine G_aload 1 dr_cX17_merge_22 rfl ?_
            refine Gp_get 0 hm408743 he408744 dr_cX17_merge_24 (gk_X12 D I) (Nat.le_of_ble_eq_true rfl) wr_9_220 rfl ?_
            have hm409120 : q408745 ∈ P398803 := RS_m hT ht408749 (by decide)
            obtain ⟨⟨p409122, p409123, q409124, he409121, r409125, r409126, r409127, r409129⟩, r409128⟩ := show rk_3 D I γ el F398804 q408745 from RS_o hT ht408749
            have bp409122 := gB_any p409122
            have bp409123 : gB p409123 0 1000000 := ⟨by omega, by omega⟩
            refine Gw_callV (As := []) (gV_ok D I) (cp_7_ArrayList_size l hl0 D I P398803 F398804 q408745 p409122 q409124 p409123 hm409120 he409121 (gB_w bp409123 (by decide) (by decide))) dr_cX17_merge_27 ⟨wr_10_200, wr_1_18, wr_9_160, by decide, rfl, (Nat.le_of_ble_eq_true rfl), (Nat.le_of_ble_eq_true rfl)⟩ wr_9_158 wr_9_159 hm409120 he409121 rfl (rm_zc pk398810) (rm_zs pk398810) (Nat.le_of_ble_eq_true rfl) (fun r409133 w409134 dc409130 ds409131 hp409132 => ?_) (fun _ _ _ _ _ z => z.elim)
            obtain ⟨rfl, rfl, hdc, hds⟩ := hp409132
            change G _ _ _ _ _ _ _ (.int p409123 :: _) _ _ _
            refine G_widen (cs' := ((rPh γ el f - rPh γ0 el0 f) / 18)) (sl' := (rPh γ el f - rPh γ0 el0 f)) (rm_d0 hdc) (rm_d0 hds) ?_
            refine G_icmp_ge 172 dr_cX17_merge_30 (by decide +kernel) (fun hc409135 => ?_) (fun hc409135 => ?_)
            · have r409136 : p409123.toInt ≤ g409118.toInt := gC_le hc409135
              obtain ⟨z409137, hz409137⟩ : ∃ z : Int32, z = g408676 + Int32.ofInt 1 := ⟨_, rfl⟩
              have ez409137 : z409137.toInt = g408676.toInt + 1 := gI_inc hz409137 (by decide) bg408676' (by decide) (by decide)
              have bz409137 : gB z409137 1 1000000 := ⟨by omega, by omega⟩
              refine G_iinc (L' := [(3, .int z409137), (5, .int g409118), (4, .ref q408736), (0, .ref q398805), (1, .ref q398806), (2, .int p398807)]) z409137 2 dr_cX17_merge_172 rfl hz409137.symm (Nat.le_of_ble_eq_true rfl) rfl ?_
              refine G_goto 2 dr_cX17_merge_175 (by decide +kernel) ?_
              refine G_lv (L' := [(3, .int z409137), (0, .ref q398805), (1, .ref q398806), (2, .int p398807)]) [0, 3, 4, 5] rfl ?_
              exact ih2_408676 z409137 (gB_w bz409137 (by decide) (by decide)) (by omega)
            · have r409138 : g409118.toInt < p409123.toInt := gC_nle hc409135
              have bg409118' : gB g409118 0 999999 := ⟨by omega, by omega⟩
              have bp409123' : gB p409123 1 1000000 := ⟨by omega, by omega⟩
              refine G_aload 1 dr_cX17_merge_33 rfl ?_
              refine Gp_get 0 hm408743 he408744 dr_cX17_merge_35 (gk_X12 D I) (Nat.le_of_ble_eq_true rfl) wr_9_220 rfl ?_
              refine G_iload 0 dr_cX17_merge_38 rfl ?_
              obtain ⟨r409139, r409140, n409147, f409148, r409141, r409142, r409143, r409144, r409145, r409146⟩ := rLC_n r409127 (by omega)
              have hm409149 : q409124 ∈ P398803 := RS_m hT r409139 (by decide)
              obtain ⟨q409150, hx409151⟩ : ∃ x, x = el q408745 g409118.toInt.toNat := ⟨_, rfl⟩
              have hx409152 : f409148 g409118.toNatClampNeg = some q409150 := (r409145 _ (show g409118.toInt.toNat < γ 2 q408745 by first | assumption | omega)).trans (by rw [hx409151])
              have ht409153 : rKd γ q409150 1 := by rw [hx409151]; exact (r409128 _ (show g409118.toInt.toNat < γ 2 q408745 by first | assumption | omega)).1
              have ht409154 : rFm γ q409150 q408745 := by rw [hx409151]; exact (r409128 _ (show g409118.toInt.toNat < γ 2 q408745 by first | assumption | omega)).2.1
              have hf409155 : γ 1 q409150 = f := (show γ 1 q409150 = γ 1 q408745 from ht409154).trans hf408765
              refine Gw_callV (As := [.int g409118]) (gV_ok D I) (cp_22_ArrayList_get l hl0 D I P398803 F398804 q408745 q409124 g409118 p409122 p409123 f409148 n409147 q409150 hm409120 hm409149 he409121 r409141 (gB_w bg409118' (by decide) (by decide)) (gB_w bp409123' (by decide) (by decide)) (by omega) (by omega) (by assumption) (by omega)) dr_cX17_merge_40 ⟨wr_10_201, wr_1_18, wr_10_65, by decide, rfl, (Nat.le_of_ble_eq_true rfl), (Nat.le_of_ble_eq_true rfl)⟩ wr_10_63 wr_10_64 hm409120 he409121 rfl (rm_zc pk398810) (rm_zs pk398810) (Nat.le_of_ble_eq_true rfl) (fun r409159 w409160 dc409156 ds409157 hp409158 => ?_) (fun _ _ _ _ _ z => z.elim)
              obtain ⟨rfl, rfl, hdc, hds, ht409161⟩ := hp409158
              change G _ _ _ _ _ _ _ (.ref q409150 :: _) _ _ _
              refine G_widen (cs' := ((rPh γ el f - rPh γ0 el0 f) / 18)) (sl' := (rPh γ el f - rPh γ0 el0 f)) (rm_d0 hdc) (rm_d0 hds) ?_
              have hm409162 : q409150 ∈ P398803 := RS_m hT ht409153 (by decide)
              obtain ⟨p409164, p409165, p409166, p409167, p409168, p409169, p409170, he409163, bp409164, bp409165, bp409168, bp409169, bp409170, r409171, r409172, r409173, r409174, r409175⟩ := show rk_1 γ q409150 (F398804 q409150) from RS_o hT ht409153
              have bp409166 := gB_any p409166
              have bp409167 := gB_any p409167
              have r409176 : γ 7 (γ 1 q409150) = γ 7 f := by rw [hf409155]
              refine Gp_cast hm409162 he409163 rfl dr_cX17_merge_43 wr_10_202 (gr_cast 1 rfl) ?_
              refine G_astore (L' := [(6, .ref q409150), (5, .int g409118), (4, .ref q408736), (3, .int g408676), (0, .ref q398805), (1, .ref q398806), (2, .int p398807)]) dr_cX17_merge_46 (Nat.le_of_ble_eq_true rfl) rfl ?_
              refine G_aload 0 dr_cX17_merge_48 rfl ?_
              refine Gp_get 0 hm409162 he409163 dr_cX17_merge_50 (gk_X15 D I) (Nat.le_of_ble_eq_true rfl) wr_9_177 rfl ?_
              refine G_if_ne 166 dr_cX17_merge_53 (by decide +kernel) (fun hc409177 => ?_) (fun hc409177 => ?_)
              · have r409178 : p409164.toInt ≠ 0 := gj_neq hc409177 (show Int32.toInt 0 = 0 by decide)
                have bp409164' : gB p409164 1 32 := ⟨by omega, by omega⟩
                obtain ⟨z409179, hz409179⟩ : ∃ z : Int32, z = g409118 + Int32.ofInt 1 := ⟨_, rfl⟩
                have ez409179 : z409179.toInt = g409118.toInt + 1 := gI_inc hz409179 (by decide) bg409118' (by decide) (by decide)
                have bz409179 : gB z409179 1 1000000 := ⟨by omega, by omega⟩
                refine G_iinc (L' := [(5, .int z409179), (6, .ref q409150), (4, .ref q408736), (3, .int g408676), (0, .ref q398805), (1, .ref q398806), (2, .int p398807)]) z409179 1 dr_cX17_merge_166 rfl hz409179.symm (Nat.le_of_ble_eq_true rfl) rfl ?_
                refine G_goto 20 dr_cX17_merge_169 (by decide +kernel) ?_
                refine G_lv (L' := [(5, .int z409179), (4, .ref q408736), (3, .int g408676), (0, .ref q398805), (1, .ref q398806), (2, .int p398807)]) [0, 2, 3, 4, 5, 6] rfl ?_
                exact ih20_409118 z409179 (gB_w bz409179 (by decide) (by decide)) (by omega)
              · have r409180 : p409164.toInt = 0 := gj_eq hc409177 (show Int32.toInt 0 = 0 by decide)
                have bp409164' : gB p409164 0 0 := ⟨by omega, by omega⟩
                refine G_aload 0 dr_cX17_merge_56 rfl ?_
                refine Gp_get 5 hm409162 he409163 dr_cX17_merge_58 (gk_X15 D I) (Nat.le_of_ble_eq_true rfl) wr_9_197 rfl ?_
                refine G_if_eq 166 dr_cX17_merge_61 (by decide +kernel) (fun hc409181 => ?_) (fun hc409181 => ?_)
                · have r409182 : p409169.toInt = 0 := gj_eq hc409181 (show Int32.toInt 0 = 0 by decide)
                  have bp409169' : gB p409169 0 0 := ⟨by omega, by omega⟩
                  obtain ⟨z409183, hz409183⟩ : ∃ z : Int32, z = g409118 + Int32.ofInt 1 := ⟨_, rfl⟩
                  have ez409183 : z409183.toInt = g409118.toInt + 1 := gI_inc hz409183 (by decide) bg409118' (by decide) (by decide)
                  have bz409183 : gB z409183 1 1000000 := ⟨by omega, by omega⟩
                  refine G_iinc (L' := [(5, .int z409183), (6, .ref q409150), (4, .ref q408736), (3, .int g408676), (0, .ref q398805), (1, .ref q398806), (2, .int p398807)]) z409183 1 dr_cX17_merge_166 rfl hz409183.symm (Nat.le_of_ble_eq_true rfl) rfl ?_
                  refine G_goto 20 dr_cX17_merge_169 (by decide +kernel) ?_
                  refine G_lv (L' := [(5, .int z409183), (4, .ref q408736), (3, .int g408676), (0, .ref q398805), (1, .ref q398806), (2, .int p398807)]) [0, 2, 3, 4, 5, 6] rfl ?_
                  exact ih20_409118 z409183 (gB_w bz409183 (by decide) (by decide)) (by omega)
                · have r409184 : p409169.toInt ≠ 0 := gj_neq hc409181 (show Int32.toInt 0 = 0 by decide)
                  have bp409169' : gB p409169 1 1 := ⟨by omega, by omega⟩
                  refine G_aload 0 dr_cX17_merge_64 rfl ?_
                  refine Gp_get 1 hm409162 he409163 dr_cX17_merge_66 (gk_X15 D I) (Nat.le_of_ble_eq_true rfl) wr_9_182 rfl ?_
                  refine G_aload 0 dr_cX17_merge_69 rfl ?_
                  refine Gp_get 2 hm409162 he409163 dr_cX17_merge_71 (gk_X15 D I) (Nat.le_of_ble_eq_true rfl) wr_9_186 rfl ?_
                  refine G_icmp_eq 98 dr_cX17_merge_74 (by decide +kernel) (fun hc409185 => ?_) (fun hc409185 => ?_)
                  · have r409186 : p409165.toInt = p409166.toInt := gC_eq hc409185
                    have bp409166' : gB p409166 0 1999 := ⟨by omega, by omega⟩
                    refine G_aload 0 dr_cX17_merge_98 rfl ?_
                    refine Gp_get 1 hm409162 he409163 dr_cX17_merge_100 (gk_X15 D I) (Nat.le_of_ble_eq_true rfl) wr_9_182 rfl ?_
                    refine G_aload 0 dr_cX17_merge_103 rfl ?_
                    refine Gp_get 2 hm409162 he409163 dr_cX17_merge_105 (gk_X15 D I) (Nat.le_of_ble_eq_true rfl) wr_9_186 rfl ?_
                    refine G_mmin dr_cX17_merge_108 wr_11_20 wr_3_227 wr_1_6 wr_3_228 (Nat.le_of_ble_eq_true rfl) (Nat.le_of_ble_eq_true rfl) (show ((rPh γ el f - rPh γ0 el0 f) / 18) ≤ (((387 * B + 6000) - rPh γ0 el0 f) / 18) by first | omega | decide) (show (rPh γ el f - rPh γ0 el0 f) ≤ ((387 * B + 6000) - rPh γ0 el0 f) by first | omega | decide) (G_nam fun z409187 hz409187 => ?_)
                    have ez409187 : p409165.toInt ≥ z409187.toInt ∧ p409166.toInt ≥ z409187.toInt ∧ (z409187.toInt = p409165.toInt ∨ z409187.toInt = p409166.toInt) := by have := gI_min hz409187; omega
                    have bz409187 : gB z409187 0 1999 := ⟨by omega, by omega⟩
                    refine G_istore (L' := [(7, .int z409187), (6, .ref q409150), (5, .int g409118), (4, .ref q408736), (3, .int g408676), (0, .ref q398805), (1, .ref q398806), (2, .int p398807)]) dr_cX17_merge_111 (Nat.le_of_ble_eq_true rfl) rfl ?_
                    refine G_aload 1 dr_cX17_merge_113 rfl ?_
                    refine Gp_get 1 hm409162 he409163 dr_cX17_merge_115 (gk_X15 D I) (Nat.le_of_ble_eq_true rfl) wr_9_182 rfl ?_
                    refine G_aload 1 dr_cX17_merge_118 rfl ?_
                    refine Gp_get 2 hm409162 he409163 dr_cX17_merge_120 (gk_X15 D I) (Nat.le_of_ble_eq_true rfl) wr_9_186 rfl ?_
                    refine G_mmax dr_cX17_merge_123 wr_11_21 wr_1_140 wr_1_6 wr_1_141 (Nat.le_of_ble_eq_true rfl) (Nat.le_of_ble_eq_true rfl) (show ((rPh γ el f - rPh γ0 el0 f) / 18) ≤ (((387 * B + 6000) - rPh γ0 el0 f) / 18) by first | omega | decide) (show (rPh γ el f - rPh γ0 el0 f) ≤ ((387 * B + 6000) - rPh γ0 el0 f) by first | omega | decide) (G_nam fun z409188 hz409188 => ?_)
                    have ez409188 : p409165.toInt ≤ z409188.toInt ∧ p409166.toInt ≤ z409188.toInt ∧ (z409188.toInt = p409165.toInt ∨ z409188.toInt = p409166.toInt) := by have := gI_max hz409188; omega
                    have bz409188 : gB z409188 0 1999 := ⟨by omega, by omega⟩
                    refine G_istore (L' := [(8, .int z409188), (7, .int z409187), (6, .ref q409150), (5, .int g409118), (4, .ref q408736), (3, .int g408676), (0, .ref q398805), (1, .ref q398806), (2, .int p398807)]) dr_cX17_merge_126 (Nat.le_of_ble_eq_true rfl) rfl ?_
                    refine G_aload 4 dr_cX17_merge_128 rfl ?_
                    refine Gp_get 0 hm408743 he408744 dr_cX17_merge_130 (gk_X12 D I) (Nat.le_of_ble_eq_true rfl) wr_9_220 rfl ?_
                    refine G_iload 3 dr_cX17_merge_133 rfl ?_
                    have rg409189 := rM_ge hT htq398806 hf1
                    have rm409190 := rM_bd hB
                    have bd409191 := rBd_c hT htq398806 hf1 hB
                    have rc409192 := rc_at hT htq398806 hf1
                    have r409194 : γ 14 (el (γ 14 q398806) g408676.toInt.toNat) = q408745 := by rw [r408773]; exact ht408755.1
                    have r409195 := rg409189.2.2 _ r408772
                    rw [r409194] at r409195
                    have r409196 := bd409191.2.2.2 _ r408772
                    rw [r409194] at r409196
                    obtain ⟨q409198, hq409198⟩ : ∃ x, x = el q408745 g409118.toInt.toNat := ⟨_, rfl⟩
                    refine Gt_rem (c := q398806) (f := f) hl0 dr_cX17_merge_135 ⟨wr_11_22, wr_1_18, wr_11_25, by decide, rfl, (Nat.le_of_ble_eq_true rfl), (Nat.le_of_ble_eq_true rfl)⟩ wr_11_23 wr_11_24 hT ht408749 hf408765 htq398806 hf1 (by omega) (by omega) (rm_zc pk398810) (rm_zs pk398810) (Nat.le_of_ble_eq_true rfl) (fun F409193 γ el hq409197 => ?_)
                    rw [← hq409198]
                    have vv409210 := RS_valid hT0 hzq398806 hf0 x398808
                    rw [← hγ0] at vv409210
                    have sm409209 := rDq_sum (m := γ0 6 f) hT htq398806 hf1 (show g408676.toInt.toNat < γ0 6 f by omega) (by omega) r409194 (show g409118.toInt.toNat < _ by omega) hq409197
                    rw [hγ0, hel0] at sm409209
                    have dn409211 := fun (N : Nat → Prop) hN => rPl_dx (N := N) hT htq398806 hf1 hq409197 r409194 (show g408676.toInt.toNat < _ by omega) (show g409118.toInt.toNat < _ by omega) hN
                    rw [hγ0, hel0] at dn409211
                    have nm409212 := fun (N : Nat → Prop) hN => rPl_nm (N := N) (f := f) (j := g409118.toInt.toNat) hN (show g408676.toInt.toNat < _ by omega) r409194 (show g409118.toInt.toNat < _ by omega) hx409151.symm he409163 (by omega) (by omega)
                    rw [hγ0, hel0] at nm409212
                    obtain ⟨hk409199, h2409200, hel409201, hot409202, h16409203, h18409204, hnu409205, hr409206, hM409207, hBB409208⟩ := hq409197
                    have hk409213 := rSk_of hk409199
                    have r409214 : (fI (F409193 q398806) 3).toInt = (fI (F398804 q398806) 3).toInt := by rw [rSk_F hk409213 htq398806 (by decide) (by decide)]
                    have hT409215 := hk409213.1
                    have hs409216 := rSk_tr hst hk409213 (by decide) (by decide) (by decide)
                    have kp409217 : F409193 q398805 = F398804 q398805 := rSk_F hk409213 htq398805 (by decide) (by decide)
                    have r409218 := rSk_F hk409213 htq398805 (by decide) (by decide)
                    have ht409219 : rKd γ q398805 10 := rSk_k hk409213 htq398805 (by decide) (by decide)
                    have ht409220 : rKd γ q398806 9 := rSk_k hk409213 htq398806 (by decide) (by decide)
                    have hf409221 : γ 1 q398806 = f := rSk_1 hk409213 htq398806 (by decide) hf1
                    have ht409222 : rKd γ q408736 2 := rSk_k hk409213 ht408741 (by decide) (by decide)
                    have hf409223 : γ 1 q408736 = f := rSk_1 hk409213 ht408741 (by decide) hf408764
                    have ht409224 : rKd γ q408745 3 := rSk_k hk409213 ht408749 (by decide) (by decide)
                    have hf409225 : γ 1 q408745 = f := rSk_1 hk409213 ht408749 (by decide) hf408765
                    have ht409226 : rKd γ q409150 1 := rSk_k hk409213 ht409153 (by decide) (by decide)
                    have hf409227 : γ 1 q409150 = f := rSk_1 hk409213 ht409153 (by decide) hf409155
                    have mk409228 : mKp (F398804 q398805) (F409193 q398805) := mKp_tr mKp_rf (mKp_eq (rSk_F hk409213 htq398805 (by decide) (by decide)))
                    have r409229 := (rSk_s hk409213 htq398806 (by decide)).2.1
                    have r409230 := hot409202 _ (by rw [rc409192.2.1]; decide) (fun q => by rw [q, show _ = 3 from ht408749] at rc409192; exact absurd rc409192.2.1 (by decide))
                    have r409231 : g408676.toInt.toNat < γ 2 (γ 14 q398806) := by rw [r409229, r409230.1]; exact r408772
                    have r409232 : el (γ 14 q398806) g408676.toInt.toNat = q408736 := by rw [r409229, r409230.2]; exact r408773
                    have he409233 : F409193 q409150 = .inr (20, [.int p409164, .int p409165, .int p409166, .int p409167, .int p409168, .int p409169, .int p409170]) := (rSk_F hk409213 ht409153 (by decide) (by decide)).trans he409163
                    have hm409234 : q409150 ∈ P398803 := RS_m hT409215 ht409226 (by decide)
                    clear r408688 r408689 r408690 r408691 r408692 r408693 r408695 r408696 r408697 r408698 bp408682 bp408683 bp408747 bp408748 r408756 r408757 rg409189 rm409190 bd409191 rc409192 r409195 r409196
                    have hm409235 : q398805 ∈ P398803 := RS_m hT409215 ht409219 (by decide)
                    obtain ⟨q409237, q409238, p409239, p409240, p409241, p409242, p409243, p409244, p409245, p409246, p409247, p409248, p409249, p409250, p409251, p409252, p409253, he409236, hB409280, ht409254, ht409255, ht409256, ht409257, ht409258, ht409259, ht409260, ht409261, ht409262, ht409263, ht409264, ht409265, ht409266, ht409267, ht409268, ht409269, ht409270, ht409271, ht409272, ht409273, ht409274, ht409275, ht409276, ht409277, hB409281⟩ := show rk_10 γ (F409193 q398805) from RS_o hT409215 ht409219
                    have r409282 : p409241.toInt = p398824.toInt := by have z : p409241 = p398824 := congrArg (fun e => fI e 11) (he409236.symm.trans (r409218.trans he398819)); rw [z]
                    have bp409241 : gB p409241 0 100 := (hB409280.2.2.1)
                    have r409283 : p409244.toInt = p398827.toInt := by have z : p409244 = p398827 := congrArg (fun e => fI e 14) (he409236.symm.trans (r409218.trans he398819)); rw [z]
                    have bp409244 : gB p409244 0 2000 := (hB409280.2.2.2.1)
                    obtain ⟨nu409284, nu409285, nu409286, nu409287⟩ := hnu409205
                    have hB409288 : rBd γ el f B := hBB409208 B hB
                    have hph409289 : rPh γ0 el0 f ≤ rPh γ el f := by rw [hr409206]; exact hph
                    have pk409290 : rPh γ el f ≤ 387 * B + 6000 := rm_pk (rM_ge hT409215 ht409220 hf409221).1 (rM_bd hB409288)
                    refine G_widen (cs' := ((rPh γ el f - rPh γ0 el0 f) / 18)) (sl' := (rPh γ el f - rPh γ0 el0 f)) (rm_ec hr409206) (rm_es hr409206) ?_
                    refine G_pop dr_cX17_merge_138 rfl ?_
                    refine G_aload_n 6 dr_cX17_merge_139 rfl ?_
                    refine G_dup dr_cX17_merge_140 rfl ?_
                    refine Gp_get 13 hm409235 he409236 dr_cX17_merge_141 (gk_X17 D I) (Nat.le_of_ble_eq_true rfl) wr_7_87 rfl ?_
                    have bp409243 : gB p409243 (-2147483648) 2147483647 := (gB_any p409243)
                    refine G_iconst 1 dr_cX17_merge_144 (by decide +kernel) ?_
                    refine G_iadd dr_cX17_merge_145 (G_nam fun z409291 hz409291 => ?_)
                    have bz409291 : gB z409291 (-2147483648) 2147483647 := gB_any z409291
                    refine Gp_put 13 hm409235 he409236 dr_cX17_merge_146 (gk_X17 D I) (Nat.le_of_ble_eq_true rfl) wr_7_87 rfl rfl rfl (Nat.le_of_ble_eq_true rfl) (fun F409292 e409293 n409294 => ?_)
                    have he409295 : F409292 q409150 = .inr (20, [.int p409164, .int p409165, .int p409166, .int p409167, .int p409168, .int p409169, .int p409170]) := (n409294 q409150 (rn_oo he409233 he409236 (by decide))).trans he409233
                    have he409296 : F409292 q398805 = .inr (22, [.ref (γ 9 0), .ref (γ 9 1), .ref (γ 9 2), .ref (γ 9 3), .ref (γ 9 4), .ref (γ 9 5), .ref (γ 9 6), .ref (γ 9 7), .ref (γ 9 8), .int p409239, .int p409240, .int p409241, .int p409242, .int z409291, .int p409244, .ref (γ 9 15), .ref (γ 9 16), .ref (γ 9 17), .ref (γ 9 18), .ref (γ 9 19), .ref (γ 9 20), .ref (γ 9 21), .ref (γ 9 22), .int p409245, .int p409246, .int p409247, .int p409248, .int p409249, .ref q409237, .ref (γ 9 29), .int p409250, .ref (γ 9 31), .int p409251, .int p409252, .int p409253, .ref q409238]) := e409293
                    have mk409297 : mKp (F398804 q398805) (F409292 q398805) := mKp_tr mk409228 (by rw [he409236, he409296]; exact ⟨rfl, rfl⟩)
                    have hT409298 : RS D I P398803 F409292 γ el := RS_set hT409215 n409294 ht409219 (by decide) ⟨q409237, q409238, p409239, p409240, p409241, p409242, z409291, p409244, p409245, p409246, p409247, p409248, p409249, p409250, p409251, p409252, p409253, he409296, ⟨(hB409280.1), (hB409280.2.1), bp409241, bp409244, (hB409280.2.2.2.2.1), (hB409280.2.2.2.2.2.1), (hB409280.2.2.2.2.2.2.1), (hB409280.2.2.2.2.2.2.2.1), (hB409280.2.2.2.2.2.2.2.2)⟩, ht409254, ht409255, ht409256, ht409257, ht409258, ht409259, ht409260, ht409261, ht409262, ht409263, ht409264, ht409265, ht409266, ht409267, ht409268, ht409269, ht409270, ht409271, ht409272, ht409273, ht409274, ht409275, ht409276, ht409277, hB409281⟩
                    have hs409299 := rSk_put hs409216 hT409298 n409294 ht409219 (by decide) (by decide) (Or.inr (Or.inr (by decide)))
                    have dn409300 : ∀ N : Nat → Prop, rPl γ0 el0 F398804 q398806 (γ0 6 f) (fun _ _ => rNx N) → rPl γ el F409292 q398806 (γ 6 f) (fun _ _ => rNx N) := fun N hN => rPl_fr hT409215 ht409220 hf409221 (dn409211 N hN) (fun b hb _ => n409294 b (rn_ty (show rKd γ b 1 from hb) ht409219 (by decide)))
                    refine G_iload 1 dr_cX17_merge_149 rfl ?_
                    refine G_iload 0 dr_cX17_merge_151 rfl ?_
                    refine G_icmp_eq 164 dr_cX17_merge_153 (by decide +kernel) (fun hc409301 => ?_) (fun hc409301 => ?_)
                    · have r409302 : z409187.toInt = z409188.toInt := gC_eq hc409301
                      have ac409303 : (fI (F409292 q398805) 11).toInt = p409241.toInt := by rw [he409296]; rfl
                      have ac409304 : (fI (F409292 q398805) 14).toInt = p409244.toInt := by rw [he409296]; rfl
                      refine G_iconst 1 dr_cX17_merge_164 (by decide +kernel) ?_
                      exact G_zretA FieldType.boolean dr_cX17_merge_165 rfl rfl (show ((rPh γ el f - rPh γ0 el0 f) / 18) ≤ (((387 * B + 6000) - rPh γ0 el0 f) / 18) by omega) (show (rPh γ el f - rPh γ0 el0 f) ≤ ((387 * B + 6000) - rPh γ0 el0 f) by omega) ⟨P398803, F409292, γ, el, 1, rfl, rfl, hs409299, ⟨by omega, by omega⟩, hB409288, (gB_w (gBl (show Int32.toInt 1 = 1 by decide)) (by decide) (by decide)), (by have qa0 : Int32.toInt 1 = 1 := (by decide); omega), (by have qa0 : Int32.toInt 1 = 1 := (by decide); omega), (by have qa0 : Int32.toInt 1 = 1 := (by decide); omega), (by have qa0 : Int32.toInt 1 = 1 := (by decide); omega), (Or.inr (by rw [show γ 6 f = γ0 6 f by omega]; exact Nat.le_of_eq sm409209)), dn409300, (by have qa0 : Int32.toInt 1 = 1 := (by decide); omega), (by have qa0 : Int32.toInt 1 = 1 := (by decide); omega), (fun h => absurd h (by decide)), mk409297⟩
                    · have r409305 : z409187.toInt ≠ z409188.toInt := gC_ne hc409301
                      refine G_aload_n 7 dr_cX17_merge_156 rfl ?_
                      refine G_iload 0 dr_cX17_merge_157 rfl ?_
                      refine G_iload 1 dr_cX17_merge_159 rfl ?_
                      have v0_409306 : 0 < γ 6 (γ 1 q398806) := by rw [hf409221]; omega
                      refine Gw_callS (As := [.ref q398806, .int z409188, .int z409187]) (gV_ok D I) (ct_369830_SpillForgeModel_rename l hl0 D I γ el P398803 F409292 q398806 z409188 z409187 hT409298 ht409220 bz409188 bz409187 (by omega)) dr_cX17_merge_161 ⟨wr_11_30, wr_1_14, wr_11_32, by decide, rfl, (Nat.le_of_ble_eq_true rfl), (Nat.le_of_ble_eq_true rfl)⟩ wr_11_31 (rm_zc pk409290) (rm_zs pk409290) (Nat.le_of_ble_eq_true rfl) (fun r409310 w409311 dc409307 ds409308 hp409309 => ?_) (fun _ _ _ _ _ z => z.elim)
                      obtain ⟨F409315, rfl, rfl, hT409316, hs409317, hdc, hds, x409312, x409313, x409314⟩ := hp409309
                      have hs409318 := rSk_str hs409299 hT409316 hs409317 (by decide) (by decide) (by decide) (Or.inr (rFs_e x409314 hf409221))
                      have kp409319 : F409315 q398805 = F409292 q398805 := x409313 q398805 (rT0 ht409219 (by decide)) (rT2 ht409219 (by decide))
                      have mk409320 : mKp (F398804 q398805) (F409315 q398805) := mKp_tr mk409297 (mKp_eq (x409313 q398805 (rT0 ht409219 (by decide)) (rT2 ht409219 (by decide))))
                      have he409321 : F409315 q398805 = .inr (22, [.ref (γ 9 0), .ref (γ 9 1), .ref (γ 9 2), .ref (γ 9 3), .ref (γ 9 4), .ref (γ 9 5), .ref (γ 9 6), .ref (γ 9 7), .ref (γ 9 8), .int p409239, .int p409240, .int p409241, .int p409242, .int z409291, .int p409244, .ref (γ 9 15), .ref (γ 9 16), .ref (γ 9 17), .ref (γ 9 18), .ref (γ 9 19), .ref (γ 9 20), .ref (γ 9 21), .ref (γ 9 22), .int p409245, .int p409246, .int p409247, .int p409248, .int p409249, .ref q409237, .ref (γ 9 29), .int p409250, .ref (γ 9 31), .int p409251, .int p409252, .int p409253, .ref q409238]) := (x409313 q398805 (rT0 ht409219 (by decide)) (rT2 ht409219 (by decide))).trans he409296
                      change G _ _ _ _ _ _ _ _ _ _ _
                      refine G_widen (cs' := ((rPh γ el f - rPh γ0 el0 f) / 18)) (sl' := (rPh γ el f - rPh γ0 el0 f)) (rm_d0 hdc) (rm_d0 hds) ?_
                      have dn409322 : ∀ N : Nat → Prop, rPl γ0 el0 F398804 q398806 (γ0 6 f) (fun _ _ => rNx N) → rPl γ el F409315 q398806 (γ 6 f) (fun _ _ => rNx N) := fun N hN => by have z := x409312 N ((show z409187.toInt = p409165.toInt ∨ z409187.toInt = p409166.toInt by omega).elim (fun e => by rw [e]; exact (nm409212 N hN).1) (fun e => by rw [e]; exact (nm409212 N hN).2)) (by omega); rw [hf409221] at z; exact z (dn409300 N hN)
                      have ac409323 : (fI (F409315 q398805) 11).toInt = p409241.toInt := by rw [he409321]; rfl
                      have ac409324 : (fI (F409315 q398805) 14).toInt = p409244.toInt := by rw [he409321]; rfl
                      refine G_iconst 1 dr_cX17_merge_164 (by decide +kernel) ?_
                      exact G_zretA FieldType.boolean dr_cX17_merge_165 rfl rfl (show ((rPh γ el f - rPh γ0 el0 f) / 18) ≤ (((387 * B + 6000) - rPh γ0 el0 f) / 18) by omega) (show (rPh γ el f - rPh γ0 el0 f) ≤ ((387 * B + 6000) - rPh γ0 el0 f) by omega) ⟨P398803, F409315, γ, el, 1, rfl, rfl, hs409318, ⟨by omega, by omega⟩, hB409288, (gB_w (gBl (show Int32.toInt 1 = 1 by decide)) (by decide) (by decide)), (by have qa0 : Int32.toInt 1 = 1 := (by decide); omega), (by have qa0 : Int32.toInt 1 = 1 := (by decide); omega), (by have qa0 : Int32.toInt 1 = 1 := (by decide); omega), (by have qa0 : Int32.toInt 1 = 1 := (by decide); omega), (Or.inr (by rw [show γ 6 f = γ0 6 f by omega]; exact Nat.le_of_eq sm409209)), dn409322, (by have qa0 : Int32.toInt 1 = 1 := (by decide); omega), (by have qa0 : Int32.toInt 1 = 1 := (by decide); omega), (fun h => absurd h (by decide)), mk409320⟩
                  · have r409325 : p409165.toInt ≠ p409166.toInt := gC_ne hc409185
                    refine G_aload_n 4 dr_cX17_merge_77 rfl ?_
                    refine G_aload 0 dr_cX17_merge_78 rfl ?_
                    refine Gp_get 1 hm409162 he409163 dr_cX17_merge_80 (gk_X15 D I) (Nat.le_of_ble_eq_true rfl) wr_9_182 rfl ?_
                    refine G_aload 0 dr_cX17_merge_83 rfl ?_
                    refine Gp_get 2 hm409162 he409163 dr_cX17_merge_85 (gk_X15 D I) (Nat.le_of_ble_eq_true rfl) wr_9_186 rfl ?_
                    refine G_iload_n 6 dr_cX17_merge_88 rfl ?_
                    refine Gw_callV (As := [.int p409165, .int p409166, .int p398807]) (gV_ok D I) (ct_396817_SpillForgeModel_mayMerge l hl0 D I γ el P398803 F398804 q398805 p409165 p409166 p398807 hT htq398805 bp409165 ⟨by omega, by omega⟩) dr_cX17_merge_89 ⟨wr_11_12, wr_1_14, wr_11_15, by decide, rfl, (Nat.le_of_ble_eq_true rfl), (Nat.le_of_ble_eq_true rfl)⟩ wr_11_14 wr_p_102 hm398818 he398819 rfl (rm_zc pk398810) (rm_zs pk398810) (Nat.le_of_ble_eq_true rfl) (fun r409329 w409330 dc409326 ds409327 hp409328 => ?_) (fun _ _ _ _ _ z => z.elim)
                    obtain ⟨o409331, rfl, rfl, hdc, hds, bo409331, x409332⟩ := hp409328
                    change G _ _ _ _ _ _ _ (.int o409331 :: _) _ _ _
                    refine G_widen (cs' := ((rPh γ el f - rPh γ0 el0 f) / 18)) (sl' := (rPh γ el f - rPh γ0 el0 f)) (rm_d0 hdc) (rm_d0 hds) ?_
                    refine G_if_ne 98 dr_cX17_merge_92 (by decide +kernel) (fun hc409333 => ?_) (fun hc409333 => ?_)
                    · have r409334 : o409331.toInt ≠ 0 := gj_neq hc409333 (show Int32.toInt 0 = 0 by decide)
                      have bo409331' : gB o409331 1 1 := ⟨by omega, by omega⟩
                      have bp409166' : gB p409166 0 1999 := ⟨by omega, by omega⟩
                      refine G_aload 0 dr_cX17_merge_98 rfl ?_
                      refine Gp_get 1 hm409162 he409163 dr_cX17_merge_100 (gk_X15 D I) (Nat.le_of_ble_eq_true rfl) wr_9_182 rfl ?_
                      refine G_aload 0 dr_cX17_merge_103 rfl ?_
                      refine Gp_get 2 hm409162 he409163 dr_cX17_merge_105 (gk_X15 D I) (Nat.le_of_ble_eq_true rfl) wr_9_186 rfl ?_
                      refine G_mmin dr_cX17_merge_108 wr_11_20 wr_3_227 wr_1_6 wr_3_228 (Nat.le_of_ble_eq_true rfl) (Nat.le_of_ble_eq_true rfl) (show ((rPh γ el f - rPh γ0 el0 f) / 18) ≤ (((387 * B + 6000) - rPh γ0 el0 f) / 18) by first | omega | decide) (show (rPh γ el f - rPh γ0 el0 f) ≤ ((387 * B + 6000) - rPh γ0 el0 f) by first | omega | decide) (G_nam fun z409335 hz409335 => ?_)
                      have ez409335 : p409165.toInt ≥ z409335.toInt ∧ p409166.toInt ≥ z409335.toInt ∧ (z409335.toInt = p409165.toInt ∨ z409335.toInt = p409166.toInt) := by have := gI_min hz409335; omega
                      have bz409335 : gB z409335 0 1999 := ⟨by omega, by omega⟩
                      refine G_istore (L' := [(7, .int z409335), (6, .ref q409150), (5, .int g409118), (4, .ref q408736), (3, .int g408676), (0, .ref q398805), (1, .ref q398806), (2, .int p398807)]) dr_cX17_merge_111 (Nat.le_of_ble_eq_true rfl) rfl ?_
                      refine G_aload 1 dr_cX17_merge_113 rfl ?_
                      refine Gp_get 1 hm409162 he409163 dr_cX17_merge_115 (gk_X15 D I) (Nat.le_of_ble_eq_true rfl) wr_9_182 rfl ?_
                      refine G_aload 1 dr_cX17_merge_118 rfl ?_
                      refine Gp_get 2 hm409162 he409163 dr_cX17_merge_120 (gk_X15 D I) (Nat.le_of_ble_eq_true rfl) wr_9_186 rfl ?_
                      refine G_mmax dr_cX17_merge_123 wr_11_21 wr_1_140 wr_1_6 wr_1_141 (Nat.le_of_ble_eq_true rfl) (Nat.le_of_ble_eq_true rfl) (show ((rPh γ el f - rPh γ0 el0 f) / 18) ≤ (((387 * B + 6000) - rPh γ0 el0 f) / 18) by first | omega | decide) (show (rPh γ el f - rPh γ0 el0 f) ≤ ((387 * B + 6000) - rPh γ0 el0 f) by first | omega | decide) (G_nam fun z409336 hz409336 => ?_)
                      have ez409336 : p409165.toInt ≤ z409336.toInt ∧ p409166.toInt ≤ z409336.toInt ∧ (z409336.toInt = p409165.toInt ∨ z409336.toInt = p409166.toInt) := by have := gI_max hz409336; omega
                      have bz409336 : gB z409336 0 1999 := ⟨by omega, by omega⟩
                      refine G_istore (L' := [(8, .int z409336), (7, .int z409335), (6, .ref q409150), (5, .int g409118), (4, .ref q408736), (3, .int g408676), (0, .ref q398805), (1, .ref q398806), (2, .int p398807)]) dr_cX17_merge_126 (Nat.le_of_ble_eq_true rfl) rfl ?_
                      refine G_aload 4 dr_cX17_merge_128 rfl ?_
                      refine Gp_get 0 hm408743 he408744 dr_cX17_merge_130 (gk_X12 D I) (Nat.le_of_ble_eq_true rfl) wr_9_220 rfl ?_
                      refine G_iload 3 dr_cX17_merge_133 rfl ?_
                      have rg409337 := rM_ge hT htq398806 hf1
                      have rm409338 := rM_bd hB
                      have bd409339 := rBd_c hT htq398806 hf1 hB
                      have rc409340 := rc_at hT htq398806 hf1
                      have r409342 : γ 14 (el (γ 14 q398806) g408676.toInt.toNat) = q408745 := by rw [r408773]; exact ht408755.1
                      have r409343 := rg409337.2.2 _ r408772
                      rw [r409342] at r409343
                      have r409344 := bd409339.2.2.2 _ r408772
                      rw [r409342] at r409344
                      obtain ⟨q409346, hq409346⟩ : ∃ x, x = el q408745 g409118.toInt.toNat := ⟨_, rfl⟩
                      refine Gt_rem (c := q398806) (f := f) hl0 dr_cX17_merge_135 ⟨wr_11_22, wr_1_18, wr_11_25, by decide, rfl, (Nat.le_of_ble_eq_true rfl), (Nat.le_of_ble_eq_true rfl)⟩ wr_11_23 wr_11_24 hT ht408749 hf408765 htq398806 hf1 (by omega) (by omega) (rm_zc pk398810) (rm_zs pk398810) (Nat.le_of_ble_eq_true rfl) (fun F409341 γ el hq409345 => ?_)
                      rw [← hq409346]
                      have vv409358 := RS_valid hT0 hzq398806 hf0 x398808
                      rw [← hγ0] at vv409358
                      have sm409357 := rDq_sum (m := γ0 6 f) hT htq398806 hf1 (show g408676.toInt.toNat < γ0 6 f by omega) (by omega) r409342 (show g409118.toInt.toNat < _ by omega) hq409345
                      rw [hγ0, hel0] at sm409357
                      have dn409359 := fun (N : Nat → Prop) hN => rPl_dx (N := N) hT htq398806 hf1 hq409345 r409342 (show g408676.toInt.toNat < _ by omega) (show g409118.toInt.toNat < _ by omega) hN
                      rw [hγ0, hel0] at dn409359
                      have nm409360 := fun (N : Nat → Prop) hN => rPl_nm (N := N) (f := f) (j := g409118.toInt.toNat) hN (show g408676.toInt.toNat < _ by omega) r409342 (show g409118.toInt.toNat < _ by omega) hx409151.symm he409163 (by omega) (by omega)
                      rw [hγ0, hel0] at nm409360
                      obtain ⟨hk409347, h2409348, hel409349, hot409350, h16409351, h18409352, hnu409353, hr409354, hM409355, hBB409356⟩ := hq409345
                      have hk409361 := rSk_of hk409347
                      have r409362 : (fI (F409341 q398806) 3).toInt = (fI (F398804 q398806) 3).toInt := by rw [rSk_F hk409361 htq398806 (by decide) (by decide)]
                      have hT409363 := hk409361.1
                      have hs409364 := rSk_tr hst hk409361 (by decide) (by decide) (by decide)
                      have kp409365 : F409341 q398805 = F398804 q398805 := rSk_F hk409361 htq398805 (by decide) (by decide)
                      have r409366 := rSk_F hk409361 htq398805 (by decide) (by decide)
                      have ht409367 : rKd γ q398805 10 := rSk_k hk409361 htq398805 (by decide) (by decide)
                      have ht409368 : rKd γ q398806 9 := rSk_k hk409361 htq398806 (by decide) (by decide)
                      have hf409369 : γ 1 q398806 = f := rSk_1 hk409361 htq398806 (by decide) hf1
                      have ht409370 : rKd γ q408736 2 := rSk_k hk409361 ht408741 (by decide) (by decide)
                      have hf409371 : γ 1 q408736 = f := rSk_1 hk409361 ht408741 (by decide) hf408764
                      have ht409372 : rKd γ q408745 3 := rSk_k hk409361 ht408749 (by decide) (by decide)
                      have hf409373 : γ 1 q408745 = f := rSk_1 hk409361 ht408749 (by decide) hf408765
                      have ht409374 : rKd γ q409150 1 := rSk_k hk409361 ht409153 (by decide) (by decide)
                      have hf409375 : γ 1 q409150 = f := rSk_1 hk409361 ht409153 (by decide) hf409155
                      have mk409376 : mKp (F398804 q398805) (F409341 q398805) := mKp_tr mKp_rf (mKp_eq (rSk_F hk409361 htq398805 (by decide) (by decide)))
                      have r409377 := (rSk_s hk409361 htq398806 (by decide)).2.1
                      have r409378 := hot409350 _ (by rw [rc409340.2.1]; decide) (fun q => by rw [q, show _ = 3 from ht408749] at rc409340; exact absurd rc409340.2.1 (by decide))
                      have r409379 : g408676.toInt.toNat < γ 2 (γ 14 q398806) := by rw [r409377, r409378.1]; exact r408772
                      have r409380 : el (γ 14 q398806) g408676.toInt.toNat = q408736 := by rw [r409377, r409378.2]; exact r408773
                      have he409381 : F409341 q409150 = .inr (20, [.int p409164, .int p409165, .int p409166, .int p409167, .int p409168, .int p409169, .int p409170]) := (rSk_F hk409361 ht409153 (by decide) (by decide)).trans he409163
                      have hm409382 : q409150 ∈ P398803 := RS_m hT409363 ht409374 (by decide)
                      clear r408688 r408689 r408690 r408691 r408692 r408693 r408695 r408696 r408697 r408698 bp408682 bp408683 bp408747 bp408748 r408756 r408757 rg409337 rm409338 bd409339 rc409340 r409343 r409344
                      have hm409383 : q398805 ∈ P398803 := RS_m hT409363 ht409367 (by decide)
                      obtain ⟨q409385, q409386, p409387, p409388, p409389, p409390, p409391, p409392, p409393, p409394, p409395, p409396, p409397, p409398, p409399, p409400, p409401, he409384, hB409428, ht409402, ht409403, ht409404, ht409405, ht409406, ht409407, ht409408, ht409409, ht409410, ht409411, ht409412, ht409413, ht409414, ht409415, ht409416, ht409417, ht409418, ht409419, ht409420, ht409421, ht409422, ht409423, ht409424, ht409425, hB409429⟩ := show rk_10 γ (F409341 q398805) from RS_o hT409363 ht409367
                      have r409430 : p409389.toInt = p398824.toInt := by have z : p409389 = p398824 := congrArg (fun e => fI e 11) (he409384.symm.trans (r409366.trans he398819)); rw [z]
                      have bp409389 : gB p409389 0 100 := (hB409428.2.2.1)
                      have r409431 : p409392.toInt = p398827.toInt := by have z : p409392 = p398827 := congrArg (fun e => fI e 14) (he409384.symm.trans (r409366.trans he398819)); rw [z]
                      have bp409392 : gB p409392 0 2000 := (hB409428.2.2.2.1)
                      obtain ⟨nu409432, nu409433, nu409434, nu409435⟩ := hnu409353
                      have hB409436 : rBd γ el f B := hBB409356 B hB
                      have hph409437 : rPh γ0 el0 f ≤ rPh γ el f := by rw [hr409354]; exact hph
                      have pk409438 : rPh γ el f ≤ 387 * B + 6000 := rm_pk (rM_ge hT409363 ht409368 hf409369).1 (rM_bd hB409436)
                      refine G_widen (cs' := ((rPh γ el f - rPh γ0 el0 f) / 18)) (sl' := (rPh γ el f - rPh γ0 el0 f)) (rm_ec hr409354) (rm_es hr409354) ?_
                      refine G_pop dr_cX17_merge_138 rfl ?_
                      refine G_aload_n 6 dr_cX17_merge_139 rfl ?_
                      refine G_dup dr_cX17_merge_140 rfl ?_
                      refine Gp_get 13 hm409383 he409384 dr_cX17_merge_141 (gk_X17 D I) (Nat.le_of_ble_eq_true rfl) wr_7_87 rfl ?_
                      have bp409391 : gB p409391 (-2147483648) 2147483647 := (gB_any p409391)
                      refine G_iconst 1 dr_cX17_merge_144 (by decide +kernel) ?_
                      refine G_iadd dr_cX17_merge_145 (G_nam fun z409439 hz409439 => ?_)
                      have bz409439 : gB z409439 (-2147483648) 2147483647 := gB_any z409439
                      refine Gp_put 13 hm409383 he409384 dr_cX17_merge_146 (gk_X17 D I) (Nat.le_of_ble_eq_true rfl) wr_7_87 rfl rfl rfl (Nat.le_of_ble_eq_true rfl) (fun F409440 e409441 n409442 => ?_)
                      have he409443 : F409440 q409150 = .inr (20, [.int p409164, .int p409165, .int p409166, .int p409167, .int p409168, .int p409169, .int p409170]) := (n409442 q409150 (rn_oo he409381 he409384 (by decide))).trans he409381
                      have he409444 : F409440 q398805 = .inr (22, [.ref (γ 9 0), .ref (γ 9 1), .ref (γ 9 2), .ref (γ 9 3), .ref (γ 9 4), .ref (γ 9 5), .ref (γ 9 6), .ref (γ 9 7), .ref (γ 9 8), .int p409387, .int p409388, .int p409389, .int p409390, .int z409439, .int p409392, .ref (γ 9 15), .ref (γ 9 16), .ref (γ 9 17), .ref (γ 9 18), .ref (γ 9 19), .ref (γ 9 20), .ref (γ 9 21), .ref (γ 9 22), .int p409393, .int p409394, .int p409395, .int p409396, .int p409397, .ref q409385, .ref (γ 9 29), .int p409398, .ref (γ 9 31), .int p409399, .int p409400, .int p409401, .ref q409386]) := e409441
                      have mk409445 : mKp (F398804 q398805) (F409440 q398805) := mKp_tr mk409376 (by rw [he409384, he409444]; exact ⟨rfl, rfl⟩)
                      have hT409446 : RS D I P398803 F409440 γ el := RS_set hT409363 n409442 ht409367 (by decide) ⟨q409385, q409386, p409387, p409388, p409389, p409390, z409439, p409392, p409393, p409394, p409395, p409396, p409397, p409398, p409399, p409400, p409401, he409444, ⟨(hB409428.1), (hB409428.2.1), bp409389, bp409392, (hB409428.2.2.2.2.1), (hB409428.2.2.2.2.2.1), (hB409428.2.2.2.2.2.2.1), (hB409428.2.2.2.2.2.2.2.1), (hB409428.2.2.2.2.2.2.2.2)⟩, ht409402, ht409403, ht409404, ht409405, ht409406, ht409407, ht409408, ht409409, ht409410, ht409411, ht409412, ht409413, ht409414, ht409415, ht409416, ht409417, ht409418, ht409419, ht409420, ht409421, ht409422, ht409423, ht409424, ht409425, hB409429⟩
                      have hs409447 := rSk_put hs409364 hT409446 n409442 ht409367 (by decide) (by decide) (Or.inr (Or.inr (by decide)))
                      have dn409448 : ∀ N : Nat → Prop, rPl γ0 el0 F398804 q398806 (γ0 6 f) (fun _ _ => rNx N) → rPl γ el F409440 q398806 (γ 6 f) (fun _ _ => rNx N) := fun N hN => rPl_fr hT409363 ht409368 hf409369 (dn409359 N hN) (fun b hb _ => n409442 b (rn_ty (show rKd γ b 1 from hb) ht409367 (by decide)))
                      refine G_iload 1 dr_cX17_merge_149 rfl ?_
                      refine G_iload 0 dr_cX17_merge_151 rfl ?_
                      refine G_icmp_eq 164 dr_cX17_merge_153 (by decide +kernel) (fun hc409449 => ?_) (fun hc409449 => ?_)
                      · have r409450 : z409335.toInt = z409336.toInt := gC_eq hc409449
                        have ac409451 : (fI (F409440 q398805) 11).toInt = p409389.toInt := by rw [he409444]; rfl
                        have ac409452 : (fI (F409440 q398805) 14).toInt = p409392.toInt := by rw [he409444]; rfl
                        refine G_iconst 1 dr_cX17_merge_164 (by decide +kernel) ?_
                        exact G_zretA FieldType.boolean dr_cX17_merge_165 rfl rfl (show ((rPh γ el f - rPh γ0 el0 f) / 18) ≤ (((387 * B + 6000) - rPh γ0 el0 f) / 18) by omega) (show (rPh γ el f - rPh γ0 el0 f) ≤ ((387 * B + 6000) - rPh γ0 el0 f) by omega) ⟨P398803, F409440, γ, el, 1, rfl, rfl, hs409447, ⟨by omega, by omega⟩, hB409436, (gB_w (gBl (show Int32.toInt 1 = 1 by decide)) (by decide) (by decide)), (by have qa0 : Int32.toInt 1 = 1 := (by decide); omega), (by have qa0 : Int32.toInt 1 = 1 := (by decide); omega), (by have qa0 : Int32.toInt 1 = 1 := (by decide); omega), (by have qa0 : Int32.toInt 1 = 1 := (by decide); omega), (Or.inr (by rw [show γ 6 f = γ0 6 f by omega]; exact Nat.le_of_eq sm409357)), dn409448, (by have qa0 : Int32.toInt 1 = 1 := (by decide); omega), (by have qa0 : Int32.toInt 1 = 1 := (by decide); omega), (fun h => absurd h (by decide)), mk409445⟩
                      · have r409453 : z409335.toInt ≠ z409336.toInt := gC_ne hc409449
                        refine G_aload_n 7 dr_cX17_merge_156 rfl ?_
                        refine G_iload 0 dr_cX17_merge_157 rfl ?_
                        refine G_iload 1 dr_cX17_merge_159 rfl ?_
                        have v0_409454 : 0 < γ 6 (γ 1 q398806) := by rw [hf409369]; omega
                        refine Gw_callS (As := [.ref q398806, .int z409336, .int z409335]) (gV_ok D I) (ct_369830_SpillForgeModel_rename l hl0 D I γ el P398803 F409440 q398806 z409336 z409335 hT409446 ht409368 bz409336 bz409335 (by omega)) dr_cX17_merge_161 ⟨wr_11_30, wr_1_14, wr_11_32, by decide, rfl, (Nat.le_of_ble_eq_true rfl), (Nat.le_of_ble_eq_true rfl)⟩ wr_11_31 (rm_zc pk409438) (rm_zs pk409438) (Nat.le_of_ble_eq_true rfl) (fun r409458 w409459 dc409455 ds409456 hp409457 => ?_) (fun _ _ _ _ _ z => z.elim)
                        obtain ⟨F409463, rfl, rfl, hT409464, hs409465, hdc, hds, x409460, x409461, x409462⟩ := hp409457
                        have hs409466 := rSk_str hs409447 hT409464 hs409465 (by decide) (by decide) (by decide) (Or.inr (rFs_e x409462 hf409369))
                        have kp409467 : F409463 q398805 = F409440 q398805 := x409461 q398805 (rT0 ht409367 (by decide)) (rT2 ht409367 (by decide))
                        have mk409468 : mKp (F398804 q398805) (F409463 q398805) := mKp_tr mk409445 (mKp_eq (x409461 q398805 (rT0 ht409367 (by decide)) (rT2 ht409367 (by decide))))
                        have he409469 : F409463 q398805 = .inr (22, [.ref (γ 9 0), .ref (γ 9 1), .ref (γ 9 2), .ref (γ 9 3), .ref (γ 9 4), .ref (γ 9 5), .ref (γ 9 6), .ref (γ 9 7), .ref (γ 9 8), .int p409387, .int p409388, .int p409389, .int p409390, .int z409439, .int p409392, .ref (γ 9 15), .ref (γ 9 16), .ref (γ 9 17), .ref (γ 9 18), .ref (γ 9 19), .ref (γ 9 20), .ref (γ 9 21), .ref (γ 9 22), .int p409393, .int p409394, .int p409395, .int p409396, .int p409397, .ref q409385, .ref (γ 9 29), .int p409398, .ref (γ 9 31), .int p409399, .int p409400, .int p409401, .ref q409386]) := (x409461 q398805 (rT0 ht409367 (by decide)) (rT2 ht409367 (by decide))).trans he409444
                        change G _ _ _ _ _ _ _ _ _ _ _
                        refine G_widen (cs' := ((rPh γ el f - rPh γ0 el0 f) / 18)) (sl' := (rPh γ el f - rPh γ0 el0 f)) (rm_d0 hdc) (rm_d0 hds) ?_
                        have dn409470 : ∀ N : Nat → Prop, rPl γ0 el0 F398804 q398806 (γ0 6 f) (fun _ _ => rNx N) → rPl γ el F409463 q398806 (γ 6 f) (fun _ _ => rNx N) := fun N hN => by have z := x409460 N ((show z409335.toInt = p409165.toInt ∨ z409335.toInt = p409166.toInt by omega).elim (fun e => by rw [e]; exact (nm409360 N hN).1) (fun e => by rw [e]; exact (nm409360 N hN).2)) (by omega); rw [hf409369] at z; exact z (dn409448 N hN)
                        have ac409471 : (fI (F409463 q398805) 11).toInt = p409389.toInt := by rw [he409469]; rfl
                        have ac409472 : (fI (F409463 q398805) 14).toInt = p409392.toInt := by rw [he409469]; rfl
                        refine G_iconst 1 dr_cX17_merge_164 (by decide +kernel) ?_
                        exact G_zretA FieldType.boolean dr_cX17_merge_165 rfl rfl (show ((rPh γ el f - rPh γ0 el0 f) / 18) ≤ (((387 * B + 6000) - rPh γ0 el0 f) / 18) by omega) (show (rPh γ el f - rPh γ0 el0 f) ≤ ((387 * B + 6000) - rPh γ0 el0 f) by omega) ⟨P398803, F409463, γ, el, 1, rfl, rfl, hs409466, ⟨by omega, by omega⟩, hB409436, (gB_w (gBl (show Int32.toInt 1 = 1 by decide)) (by decide) (by decide)), (by have qa0 : Int32.toInt 1 = 1 := (by decide); omega), (by have qa0 : Int32.toInt 1 = 1 := (by decide); omega), (by have qa0 : Int32.toInt 1 = 1 := (by decide); omega), (by have qa0 : Int32.toInt 1 = 1 := (by decide); omega), (Or.inr (by rw [show γ 6 f = γ0 6 f by omega]; exact Nat.le_of_eq sm409357)), dn409470, (by have qa0 : Int32.toInt 1 = 1 := (by decide); omega), (by have qa0 : Int32.toInt 1 = 1 := (by decide); omega), (fun h => absurd h (by decide)), mk409468⟩
                    · have r409473 : o409331.toInt = 0 := gj_eq hc409333 (show Int32.toInt 0 = 0 by decide)
                      have bo409331' : gB o409331 0 0 := ⟨by omega, by omega⟩
                      refine G_goto 166 dr_cX17_merge_95 (by decide +kernel) ?_
                      obtain ⟨z409474, hz409474⟩ : ∃ z : Int32, z = g409118 + Int32.ofInt 1 := ⟨_, rfl⟩
                      have ez409474 : z409474.toInt = g409118.toInt + 1 := gI_inc hz409474 (by decide) bg409118' (by decide) (by decide)
                      have bz409474 : gB z409474 1 1000000 := ⟨by omega, by omega⟩
                      refine G_iinc (L' := [(5, .int z409474), (6, .ref q409150), (4, .ref q408736), (3, .int g408676), (0, .ref q398805), (1, .ref q398806), (2, .int p398807)]) z409474 1 dr_cX17_merge_166 rfl hz409474.symm (Nat.le_of_ble_eq_true rfl) rfl ?_
                      refine G_goto 20 dr_cX17_merge_169 (by decide +kernel) ?_
                      refine G_lv (L' := [(5, .int z409474), (4, .ref q408736), (3, .int g408676), (0, .ref q398805), (1, .ref q398806), (2, .int p398807)]) [0, 2, 3, 4, 5, 6] rfl ?_
                      exact ih20_409118 z409474 (gB_w bz409474 (by decide) (by decide)) (by omega)
        exact hlp20_409118 (((1000001 : Int) - 0).toNat + 1) 0 (gB_w (gBl (show Int32.toInt 0 = 0 by decide)) (by decide) (by decide)) (Nat.lt_succ_self _)
  exact hlp2_408676 (((1000001 : Int) - 0).toNat + 1) 0 (gB_w (gBl (show Int32.toInt 0 = 0 by decide)) (by decide) (by decide)) (Nat.lt_succ_self _)
