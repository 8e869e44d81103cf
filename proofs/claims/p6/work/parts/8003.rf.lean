abbrev ky_397011_SpillForgeModel_mayMerge : gKey := (cX17_mayMerge, 8, "SpillForgeModel", (some FieldType.boolean), [], "mayMerge", fun _ _ => True)
def pt_397011_SpillForgeModel_mayMerge (D : va_G) (I : FieldType → ClassId) (γ el : Nat → Nat → Nat) (P397005 : List Nat) (F397006 : Nat → va_E) (q397007 : Nat) (p397008 : Int32) (p397009 : Int32) (p397010 : Int32) : Option Value → va_W → Nat → Nat → Prop := fun r w dc ds => ∃ (o398998 : Int32), r = some (.int o398998) ∧ w = va_pl P397005 F397006 ∧ dc ≤ 0 ∧ ds ≤ 0 ∧ gB o398998 0 1 ∧ (o398998.toInt = 0 ∨ (p397008.toInt < 100 ∧ p397009.toInt < 100)) ∧ tr_RModel_mayMerge D I γ el F397006 q397007 p397008 p397009 p397010 o398998
set_option maxRecDepth 100000 in
set_option maxHeartbeats 4000000 in
theorem ct_397011_SpillForgeModel_mayMerge (l : Launch) (hl0 : l.stackTraces = false) (D : va_G) (I : FieldType → ClassId) (γ el : Nat → Nat → Nat) (P397005 : List Nat) (F397006 : Nat → va_E) (q397007 : Nat) (p397008 : Int32) (p397009 : Int32) (p397010 : Int32) (hT : RS D I P397005 F397006 γ el) (htq397007 : rKd γ q397007 10) (bp397008 : gB p397008 0 1999) (bp397009 : gB p397009 0 1999) : CtA (gV D I) l yX17_mayMerge cX17_mayMerge 8 (some FieldType.boolean) 2 43 0 0 [.ref q397007, .int p397008, .int p397009, .int p397010] (va_pl P397005 F397006) (pt_397011_SpillForgeModel_mayMerge D I γ el P397005 F397006 q397007 p397008 p397009 p397010) gNA := by
  refine CtA_of hl0 (by decide) (Nat.le_of_ble_eq_true rfl) ?_
  have bp397010 := gB_any p397010
  refine G_iload_n 1 dr_cX17_mayMerge_0 rfl ?_
  refine G_bipush 100 dr_cX17_mayMerge_1 (by decide +kernel) ?_
  refine G_icmp_ge 25 dr_cX17_mayMerge_3 (by decide +kernel) (fun hc397012 => ?_) (fun hc397012 => ?_)
  · have r397013 : 100 ≤ p397008.toInt := gj_leL hc397012 (show Int32.toInt 100 = 100 by decide)
    have bp397008' : gB p397008 100 1999 := ⟨by omega, by omega⟩
    refine G_iconst 0 dr_cX17_mayMerge_25 (by decide +kernel) ?_
    exact G_zretA FieldType.boolean dr_cX17_mayMerge_26 rfl rfl (Nat.le_of_ble_eq_true rfl) (Nat.le_of_ble_eq_true rfl) ⟨0, rfl, rfl, (Nat.le_of_ble_eq_true rfl), (Nat.le_of_ble_eq_true rfl), (gB_w (gBl (show Int32.toInt 0 = 0 by decide)) (by decide) (by decide)), (by have qa0 : Int32.toInt 0 = 0 := (by decide); omega), (fun R c1 c2 c3 c4 c5 => c1 r397013)⟩
  · have r397014 : p397008.toInt < 100 := gj_nleL hc397012 (show Int32.toInt 100 = 100 by decide)
    have bp397008' : gB p397008 0 99 := ⟨by omega, by omega⟩
    refine G_iload_n 2 dr_cX17_mayMerge_6 rfl ?_
    refine G_bipush 100 dr_cX17_mayMerge_7 (by decide +kernel) ?_
    refine G_icmp_ge 25 dr_cX17_mayMerge_9 (by decide +kernel) (fun hc397015 => ?_) (fun hc397015 => ?_)
    · have r397016 : 100 ≤ p397009.toInt := gj_leL hc397015 (show Int32.toInt 100 = 100 by decide)
      have bp397009' : gB p397009 100 1999 := ⟨by omega, by omega⟩
      refine G_iconst 0 dr_cX17_mayMerge_25 (by decide +kernel) ?_
      exact G_zretA FieldType.boolean dr_cX17_mayMerge_26 rfl rfl (Nat.le_of_ble_eq_true rfl) (Nat.le_of_ble_eq_true rfl) ⟨0, rfl, rfl, (Nat.le_of_ble_eq_true rfl), (Nat.le_of_ble_eq_true rfl), (gB_w (gBl (show Int32.toInt 0 = 0 by decide)) (by decide) (by decide)), (by have qa0 : Int32.toInt 0 = 0 := (by decide); omega), (fun R c1 c2 c3 c4 c5 => c2 r397014 r397016)⟩
    · have r397017 : p397009.toInt < 100 := gj_nleL hc397015 (show Int32.toInt 100 = 100 by decide)
      have bp397009' : gB p397009 0 99 := ⟨by omega, by omega⟩
      refine G_aload_n 0 dr_cX17_mayMerge_12 rfl ?_
      have hm397018 : q397007 ∈ P397005 := RS_m hT htq397007 (by decide)
      refine rk10_e (show rk_10 γ (F397006 q397007) from RS_o hT htq397007) (fun q397020 q397021 p397022 p397023 p397024 p397025 p397026 p397027 p397028 p397029 p397030 p397031 p397032 p397033 p397034 p397035 p397036 he397019 hB397063 ht397037 ht397038 ht397039 ht397040 ht397041 ht397042 ht397043 ht397044 ht397045 ht397046 ht397047 ht397048 ht397049 ht397050 ht397051 ht397052 ht397053 ht397054 ht397055 ht397056 ht397057 ht397058 ht397059 ht397060 hB397064 => ?_)
      have fq397065 : fR (F397006 q397007) 1 = (γ 9 1) := by rw [he397019]; rfl
      refine Gp_get 1 hm397018 he397019 dr_cX17_mayMerge_13 (gk_X17 D I) (Nat.le_of_ble_eq_true rfl) wr_7_75 rfl ?_
      refine G_iload_n 1 dr_cX17_mayMerge_16 rfl ?_
      have hm397066 : (γ 9 1) ∈ P397005 := RS_m hT ht397040 (by decide)
      obtain ⟨f397068, he397067, hg397069⟩ := show rk_13 I γ (F397006 (γ 9 1)) from RS_o hT ht397040
      obtain ⟨q397070, hx397072⟩ : ∃ x, x = γ 11 p397008.toInt.toNat := ⟨_, rfl⟩
      have ht397071 : rKd γ q397070 36 := by rw [hx397072]; exact (hg397069 _ (show p397008.toInt.toNat < 2000 by omega)).2.1
      refine Gp_aald 5 hm397066 he397067 dr_cX17_mayMerge_17 rfl rfl (gB_in bp397008' (by decide) (by decide)) ?_
      rw [show f397068 p397008.toNatClampNeg = some q397070 from (hg397069 _ (show p397008.toInt.toNat < 2000 by omega)).1.trans (by rw [hx397072])]
      change G _ _ _ _ _ _ _ (.ref q397070 :: _) _ _ _
      refine G_iload_n 2 dr_cX17_mayMerge_18 rfl ?_
      have hm397073 : q397070 ∈ P397005 := RS_m hT ht397071 (by decide)
      obtain ⟨f397075, he397074, wf397075⟩ := show rk_36 I (F397006 q397070) from RS_o hT ht397071
      refine Gw_callS (As := [.ref q397070, .int p397009]) (gV_ok D I) (cp_1845_SpillForgeModel_has l hl0 D I P397005 F397006 q397070 p397009 f397075 hm397073 he397074 (gB_w bp397009' (by decide) (by decide))) dr_cX17_mayMerge_19 ⟨wr_10_203, wr_1_14, wr_10_205, by decide, rfl, (Nat.le_of_ble_eq_true rfl), (Nat.le_of_ble_eq_true rfl)⟩ wr_10_204 (show 0 + 0 ≤ 0 by first | omega | decide) (show 0 + 0 ≤ 0 by first | omega | decide) (Nat.le_of_ble_eq_true rfl) (fun r397079 w397080 dc397076 ds397077 hp397078 => ?_) (fun _ _ _ _ _ z => z.elim)
      rcases hp397078 with ⟨z397081, z397082, rfl, rfl, hdc, hds, r397083, r397084, r397085, r397086, r397087⟩ | ⟨z397088, z397089, rfl, rfl, hdc, hds, r397090, r397091, r397092, r397093, r397094⟩
      · change G _ _ _ _ _ _ _ (.int 0 :: _) _ _ _
        refine G_widen (cs' := 0) (sl' := 0) (by omega) (by omega) ?_
        refine G_if_eq 27 dr_cX17_mayMerge_22 (by decide +kernel) (fun _ => ?_) (fun hc => absurd hc (by decide))
        refine G_iconst 0 dr_cX17_mayMerge_27 (by decide +kernel) ?_
        refine G_istore (L' := [(4, .int 0), (0, .ref q397007), (1, .int p397008), (2, .int p397009), (3, .int p397010)]) dr_cX17_mayMerge_28 (Nat.le_of_ble_eq_true rfl) rfl ?_
        refine G_iconst 0 dr_cX17_mayMerge_30 (by decide +kernel) ?_
        refine G_istore (L' := [(5, .int 0), (4, .int 0), (0, .ref q397007), (1, .int p397008), (2, .int p397009), (3, .int p397010)]) dr_cX17_mayMerge_31 (Nat.le_of_ble_eq_true rfl) rfl ?_
        have hlp33_398846 : ∀ (n33_398846 : Nat) (g398845 : Int32) (g398846 : Int32), gB g398845 0 2000 → (∀ (k : Nat) (e1 : Int32), tl_RModel_mayMerge_33 D I γ el F397006 q397007 p397008 p397009 p397010 g398845 g398846 k e1 → tl_RModel_mayMerge_33 D I γ el F397006 q397007 p397008 p397009 p397010 (0 : Int32) (0 : Int32) k e1) → ((2001 : Int) - g398845.toInt).toNat < n33_398846 → G (gV D I) l (gRm 2 43 0 0) (gMA (gV D I) (pt_397011_SpillForgeModel_mayMerge D I γ el P397005 F397006 q397007 p397008 p397009 p397010) gNA 0 0) ky_397011_SpillForgeModel_mayMerge 33 [(5, .int g398845), (4, .int g398846), (0, .ref q397007), (1, .int p397008), (2, .int p397009), (3, .int p397010)] [] (va_pl P397005 F397006) 0 0 := by
          intro n33_398846
          induction n33_398846 with
          | zero => intro g398845 g398846 bg398845 kt33_398847 hm33_398846; exact absurd hm33_398846 (Nat.not_lt_zero _)
          | succ n33_398846 ih33_398846 =>
            intro g398845 g398846 bg398845 kt33_398847 hm33_398846
            have bg398846 := gB_any g398846
            refine G_iload 0 dr_cX17_mayMerge_33 rfl ?_
            refine G_sipush 2000 dr_cX17_mayMerge_35 (by decide +kernel) ?_
            refine G_icmp_ge 126 dr_cX17_mayMerge_38 (by decide +kernel) (fun hc398848 => ?_) (fun hc398848 => ?_)
            · have r398849 : 2000 ≤ g398845.toInt := gj_leL hc398848 (show Int32.toInt 2000 = 2000 by decide)
              have bg398845' : gB g398845 2000 2000 := ⟨by omega, by omega⟩
              have hx398850 : tl_RModel_mayMerge_33 D I γ el F397006 q397007 p397008 p397009 p397010 (0 : Int32) (0 : Int32) 126 g398846 := kt33_398847 126 g398846 (fun R c1 c2 c3 c4 c5 c6 c7 c8 => c1 g398845 g398846 bg398845 r398849)
              refine G_iload 1 dr_cX17_mayMerge_126 rfl ?_
              refine G_iload_n 5 dr_cX17_mayMerge_128 rfl ?_
              refine G_icmp_ge 136 dr_cX17_mayMerge_129 (by decide +kernel) (fun hc398851 => ?_) (fun hc398851 => ?_)
              · have r398852 : p397010.toInt ≤ g398846.toInt := gC_le hc398851
                refine G_iconst 0 dr_cX17_mayMerge_136 (by decide +kernel) ?_
                exact G_zretA FieldType.boolean dr_cX17_mayMerge_137 rfl rfl (Nat.le_of_ble_eq_true rfl) (Nat.le_of_ble_eq_true rfl) ⟨0, rfl, rfl, (Nat.le_of_ble_eq_true rfl), (Nat.le_of_ble_eq_true rfl), (gB_w (gBl (show Int32.toInt 0 = 0 by decide)) (by decide) (by decide)), (by have qa0 : Int32.toInt 0 = 0 := (by decide); omega), (fun R c1 c2 c3 c4 c5 => c3 q397070 f397075 g398846 r397014 r397017 fq397065 hx397072 he397074 r397087 hx398850 r398852)⟩
              · have r398853 : g398846.toInt < p397010.toInt := gC_nle hc398851
                have bg398846' : gB g398846 (-2147483648) 2147483646 := ⟨by omega, by omega⟩
                have bp397010' : gB p397010 (-2147483647) 2147483647 := ⟨by omega, by omega⟩
                refine G_iconst 1 dr_cX17_mayMerge_132 (by decide +kernel) ?_
                refine G_goto 137 dr_cX17_mayMerge_133 (by decide +kernel) ?_
                exact G_zretA FieldType.boolean dr_cX17_mayMerge_137 rfl rfl (Nat.le_of_ble_eq_true rfl) (Nat.le_of_ble_eq_true rfl) ⟨1, rfl, rfl, (Nat.le_of_ble_eq_true rfl), (Nat.le_of_ble_eq_true rfl), (gB_w (gBl (show Int32.toInt 1 = 1 by decide)) (by decide) (by decide)), (by have qa0 : Int32.toInt 1 = 1 := (by decide); omega), (fun R c1 c2 c3 c4 c5 => c4 q397070 f397075 g398846 r397014 r397017 fq397065 hx397072 he397074 r397087 hx398850 r398853)⟩
            · have r398854 : g398845.toInt < 2000 := gj_nleL hc398848 (show Int32.toInt 2000 = 2000 by decide)
              have bg398845' : gB g398845 0 1999 := ⟨by omega, by omega⟩
              refine G_aload_n 2 dr_cX17_mayMerge_41 rfl ?_
              have fq398855 : fR (F397006 q397007) 1 = (γ 9 1) := by rw [he397019]; rfl
              refine Gp_get 1 hm397018 he397019 dr_cX17_mayMerge_42 (gk_X17 D I) (Nat.le_of_ble_eq_true rfl) wr_7_75 rfl ?_
              refine G_iload_n 3 dr_cX17_mayMerge_45 rfl ?_
              obtain ⟨q398856, hx398858⟩ : ∃ x, x = γ 11 p397008.toInt.toNat := ⟨_, rfl⟩
              have ht398857 : rKd γ q398856 36 := by rw [hx398858]; exact (hg397069 _ (show p397008.toInt.toNat < 2000 by omega)).2.1
              refine Gp_aald 5 hm397066 he397067 dr_cX17_mayMerge_46 rfl rfl (gB_in bp397008' (by decide) (by decide)) ?_
              rw [show f397068 p397008.toNatClampNeg = some q398856 from (hg397069 _ (show p397008.toInt.toNat < 2000 by omega)).1.trans (by rw [hx398858])]
              change G _ _ _ _ _ _ _ (.ref q398856 :: _) _ _ _
              refine G_iload 0 dr_cX17_mayMerge_47 rfl ?_
              have hm398859 : q398856 ∈ P397005 := RS_m hT ht398857 (by decide)
              obtain ⟨f398861, he398860, wf398861⟩ := show rk_36 I (F397006 q398856) from RS_o hT ht398857
              refine Gw_callS (As := [.ref q398856, .int g398845]) (gV_ok D I) (cp_1845_SpillForgeModel_has l hl0 D I P397005 F397006 q398856 g398845 f398861 hm398859 he398860 (gB_w bg398845' (by decide) (by decide))) dr_cX17_mayMerge_49 ⟨wr_10_203, wr_1_14, wr_10_205, by decide, rfl, (Nat.le_of_ble_eq_true rfl), (Nat.le_of_ble_eq_true rfl)⟩ wr_10_204 (show 0 + 0 ≤ 0 by first | omega | decide) (show 0 + 0 ≤ 0 by first | omega | decide) (Nat.le_of_ble_eq_true rfl) (fun r398865 w398866 dc398862 ds398863 hp398864 => ?_) (fun _ _ _ _ _ z => z.elim)
              rcases hp398864 with ⟨z398867, z398868, rfl, rfl, hdc, hds, r398869, r398870, r398871, r398872, r398873⟩ | ⟨z398874, z398875, rfl, rfl, hdc, hds, r398876, r398877, r398878, r398879, r398880⟩
              · change G _ _ _ _ _ _ _ (.int 0 :: _) _ _ _
                refine G_widen (cs' := 0) (sl' := 0) (by omega) (by omega) ?_
                refine G_istore (L' := [(6, .int 0), (5, .int g398845), (4, .int g398846), (0, .ref q397007), (1, .int p397008), (2, .int p397009), (3, .int p397010)]) dr_cX17_mayMerge_52 (Nat.le_of_ble_eq_true rfl) rfl ?_
                refine G_aload_n 3 dr_cX17_mayMerge_54 rfl ?_
                refine Gp_get 1 hm397018 he397019 dr_cX17_mayMerge_55 (gk_X17 D I) (Nat.le_of_ble_eq_true rfl) wr_7_75 rfl ?_
                refine G_iload_n 5 dr_cX17_mayMerge_58 rfl ?_
                obtain ⟨q398882, hx398884⟩ : ∃ x, x = γ 11 p397009.toInt.toNat := ⟨_, rfl⟩
                have ht398883 : rKd γ q398882 36 := by rw [hx398884]; exact (hg397069 _ (show p397009.toInt.toNat < 2000 by omega)).2.1
                refine Gp_aald 5 hm397066 he397067 dr_cX17_mayMerge_59 rfl rfl (gB_in bp397009' (by decide) (by decide)) ?_
                rw [show f397068 p397009.toNatClampNeg = some q398882 from (hg397069 _ (show p397009.toInt.toNat < 2000 by omega)).1.trans (by rw [hx398884])]
                change G _ _ _ _ _ _ _ (.ref q398882 :: _) _ _ _
                refine G_iload 1 dr_cX17_mayMerge_60 rfl ?_
                have hm398885 : q398882 ∈ P397005 := RS_m hT ht398883 (by decide)
                obtain ⟨f398887, he398886, wf398887⟩ := show rk_36 I (F397006 q398882) from RS_o hT ht398883
                refine Gw_callS (As := [.ref q398882, .int g398845]) (gV_ok D I) (cp_1845_SpillForgeModel_has l hl0 D I P397005 F397006 q398882 g398845 f398887 hm398885 he398886 (gB_w bg398845' (by decide) (by decide))) dr_cX17_mayMerge_62 ⟨wr_10_203, wr_1_14, wr_10_205, by decide, rfl, (Nat.le_of_ble_eq_true rfl), (Nat.le_of_ble_eq_true rfl)⟩ wr_10_204 (show 0 + 0 ≤ 0 by first | omega | decide) (show 0 + 0 ≤ 0 by first | omega | decide) (Nat.le_of_ble_eq_true rfl) (fun r398891 w398892 dc398888 ds398889 hp398890 => ?_) (fun _ _ _ _ _ z => z.elim)
                rcases hp398890 with ⟨z398893, z398894, rfl, rfl, hdc, hds, r398895, r398896, r398897, r398898, r398899⟩ | ⟨z398900, z398901, rfl, rfl, hdc, hds, r398902, r398903, r398904, r398905, r398906⟩
                · change G _ _ _ _ _ _ _ (.int 0 :: _) _ _ _
                  refine G_widen (cs' := 0) (sl' := 0) (by omega) (by omega) ?_
                  refine G_istore (L' := [(7, .int 0), (6, .int 0), (5, .int g398845), (4, .int g398846), (0, .ref q397007), (1, .int p397008), (2, .int p397009), (3, .int p397010)]) dr_cX17_mayMerge_65 (Nat.le_of_ble_eq_true rfl) rfl ?_
                  refine G_iload 1 dr_cX17_mayMerge_67 rfl ?_
                  refine G_if_ne 80 dr_cX17_mayMerge_69 (by decide +kernel) (fun hc => absurd hc (by decide)) (fun _ => ?_)
                  refine G_iload 0 dr_cX17_mayMerge_72 rfl ?_
                  refine G_if_ne 80 dr_cX17_mayMerge_74 (by decide +kernel) (fun hc => absurd hc (by decide)) (fun _ => ?_)
                  refine G_goto 120 dr_cX17_mayMerge_77 (by decide +kernel) ?_
                  obtain ⟨z398908, hz398908⟩ : ∃ z : Int32, z = g398845 + Int32.ofInt 1 := ⟨_, rfl⟩
                  have ez398908 : z398908.toInt = g398845.toInt + 1 := gI_inc hz398908 (by decide) bg398845' (by decide) (by decide)
                  have bz398908 : gB z398908 1 2000 := ⟨by omega, by omega⟩
                  refine G_iinc (L' := [(5, .int z398908), (7, .int 0), (6, .int 0), (4, .int g398846), (0, .ref q397007), (1, .int p397008), (2, .int p397009), (3, .int p397010)]) z398908 2 dr_cX17_mayMerge_120 rfl hz398908.symm (Nat.le_of_ble_eq_true rfl) rfl ?_
                  refine G_goto 33 dr_cX17_mayMerge_123 (by decide +kernel) ?_
                  refine G_lv (L' := [(5, .int z398908), (4, .int g398846), (0, .ref q397007), (1, .int p397008), (2, .int p397009), (3, .int p397010)]) [0, 3, 4, 5, 6, 7] rfl ?_
                  exact ih33_398846 z398908 g398846 (gB_w bz398908 (by decide) (by decide)) (fun k e1 ht => kt33_398847 k e1 (fun R c1 c2 c3 c4 c5 c6 c7 c8 => c2 g398845 g398846 q398856 f398861 q398882 f398887 z398908 k e1 bg398845 r398854 fq398855 hx398858 he398860 r398873 hx398884 he398886 r398899 ez398908 (ht R c1 c2 c3 c4 c5 c6 c7 c8))) (mz_up ez398908 (Int.le_trans bg398845'.2 (by decide)) hm33_398846)
                · change G _ _ _ _ _ _ _ (.int 1 :: _) _ _ _
                  refine G_widen (cs' := 0) (sl' := 0) (by omega) (by omega) ?_
                  refine G_istore (L' := [(7, .int 1), (6, .int 0), (5, .int g398845), (4, .int g398846), (0, .ref q397007), (1, .int p397008), (2, .int p397009), (3, .int p397010)]) dr_cX17_mayMerge_65 (Nat.le_of_ble_eq_true rfl) rfl ?_
                  refine G_iload 1 dr_cX17_mayMerge_67 rfl ?_
                  refine G_if_ne 80 dr_cX17_mayMerge_69 (by decide +kernel) (fun hc => absurd hc (by decide)) (fun _ => ?_)
                  refine G_iload 0 dr_cX17_mayMerge_72 rfl ?_
                  refine G_if_ne 80 dr_cX17_mayMerge_74 (by decide +kernel) (fun _ => ?_) (fun hc => absurd hc (by decide))
                  refine G_iload 3 dr_cX17_mayMerge_80 rfl ?_
                  refine G_aload_n 4 dr_cX17_mayMerge_82 rfl ?_
                  refine Gp_get 1 hm397018 he397019 dr_cX17_mayMerge_83 (gk_X17 D I) (Nat.le_of_ble_eq_true rfl) wr_7_75 rfl ?_
                  refine G_iload 2 dr_cX17_mayMerge_86 rfl ?_
                  obtain ⟨q398909, hx398911⟩ : ∃ x, x = γ 11 g398845.toInt.toNat := ⟨_, rfl⟩
                  have ht398910 : rKd γ q398909 36 := by rw [hx398911]; exact (hg397069 _ (show g398845.toInt.toNat < 2000 by omega)).2.1
                  refine Gp_aald 5 hm397066 he397067 dr_cX17_mayMerge_88 rfl rfl (gB_in bg398845' (by decide) (by decide)) ?_
                  rw [show f397068 g398845.toNatClampNeg = some q398909 from (hg397069 _ (show g398845.toInt.toNat < 2000 by omega)).1.trans (by rw [hx398911])]
                  change G _ _ _ _ _ _ _ (.ref q398909 :: _) _ _ _
                  have hm398912 : q398909 ∈ P397005 := RS_m hT ht398910 (by decide)
                  obtain ⟨f398914, he398913, wf398914⟩ := show rk_36 I (F397006 q398909) from RS_o hT ht398910
                  refine Gw_callS (As := [.ref q398909]) (gV_ok D I) (cp_1899_SpillForgeModel_count l hl0 D I P397005 F397006 q398909 f398914 hm398912 he398913) dr_cX17_mayMerge_89 ⟨wr_11_16, wr_1_14, wr_11_18, by decide, rfl, (Nat.le_of_ble_eq_true rfl), (Nat.le_of_ble_eq_true rfl)⟩ wr_11_17 (show 0 + 0 ≤ 0 by first | omega | decide) (show 0 + 0 ≤ 0 by first | omega | decide) (Nat.le_of_ble_eq_true rfl) (fun r398918 w398919 dc398915 ds398916 hp398917 => ?_) (fun _ _ _ _ _ z => z.elim)
                  obtain ⟨o398920, rfl, rfl, hdc, hds, ht398921⟩ := hp398917
                  have bo398920 := gB_any o398920
                  change G _ _ _ _ _ _ _ (.int o398920 :: _) _ _ _
                  refine G_widen (cs' := 0) (sl' := 0) (by omega) (by omega) ?_
                  refine G_iload 1 dr_cX17_mayMerge_92 rfl ?_
                  refine G_if_eq 106 dr_cX17_mayMerge_94 (by decide +kernel) (fun _ => ?_) (fun hc => absurd hc (by decide))
                  refine G_iconst 0 dr_cX17_mayMerge_106 (by decide +kernel) ?_
                  refine G_isub dr_cX17_mayMerge_107 (G_nam fun z398922 hz398922 => ?_)
                  have ez398922 : z398922.toInt = o398920.toInt - 0 := by rw [gI_sub hz398922 bo398920 (gBl (show Int32.toInt 0 = 0 by decide)) (by decide) (by decide), show Int32.toInt 0 = 0 from by decide]
                  have bz398922 : gB z398922 (-2147483648) 2147483647 := gB_sub (gI_sub hz398922 bo398920 (gBl (show Int32.toInt 0 = 0 by decide)) (by decide) (by decide)) bo398920 (gBl (show Int32.toInt 0 = 0 by decide)) (by decide) (by decide)
                  refine G_iload_n 7 dr_cX17_mayMerge_108 rfl ?_
                  refine G_icmp_lt 116 dr_cX17_mayMerge_109 (by decide +kernel) (fun hc398923 => ?_) (fun hc398923 => ?_)
                  · have r398924 : z398922.toInt < p397010.toInt := gC_lt hc398923
                    have bz398922' : gB z398922 (-2147483648) 2147483646 := ⟨by omega, by omega⟩
                    have bp397010' : gB p397010 (-2147483647) 2147483647 := ⟨by omega, by omega⟩
                    refine G_iconst 0 dr_cX17_mayMerge_116 (by decide +kernel) ?_
                    refine G_iadd dr_cX17_mayMerge_117 (G_nam fun z398925 hz398925 => ?_)
                    have ez398925 : z398925.toInt = g398846.toInt + 0 := by rw [gI_add hz398925 bg398846 (gBl (show Int32.toInt 0 = 0 by decide)) (by decide) (by decide), show Int32.toInt 0 = 0 from by decide]
                    have bz398925 : gB z398925 (-2147483648) 2147483647 := gB_add (gI_add hz398925 bg398846 (gBl (show Int32.toInt 0 = 0 by decide)) (by decide) (by decide)) bg398846 (gBl (show Int32.toInt 0 = 0 by decide)) (by decide) (by decide)
                    refine G_istore (L' := [(4, .int z398925), (7, .int 1), (6, .int 0), (5, .int g398845), (0, .ref q397007), (1, .int p397008), (2, .int p397009), (3, .int p397010)]) dr_cX17_mayMerge_118 (Nat.le_of_ble_eq_true rfl) rfl ?_
                    obtain ⟨z398926, hz398926⟩ : ∃ z : Int32, z = g398845 + Int32.ofInt 1 := ⟨_, rfl⟩
                    have ez398926 : z398926.toInt = g398845.toInt + 1 := gI_inc hz398926 (by decide) bg398845' (by decide) (by decide)
                    have bz398926 : gB z398926 1 2000 := ⟨by omega, by omega⟩
                    refine G_iinc (L' := [(5, .int z398926), (4, .int z398925), (7, .int 1), (6, .int 0), (0, .ref q397007), (1, .int p397008), (2, .int p397009), (3, .int p397010)]) z398926 3 dr_cX17_mayMerge_120 rfl hz398926.symm (Nat.le_of_ble_eq_true rfl) rfl ?_
                    refine G_goto 33 dr_cX17_mayMerge_123 (by decide +kernel) ?_
                    refine G_lv (L' := [(5, .int z398926), (4, .int z398925), (0, .ref q397007), (1, .int p397008), (2, .int p397009), (3, .int p397010)]) [0, 1, 4, 5, 6, 7] rfl ?_
                    exact ih33_398846 z398926 z398925 (gB_w bz398926 (by decide) (by decide)) (fun k e1 ht => kt33_398847 k e1 (fun R c1 c2 c3 c4 c5 c6 c7 c8 => c3 g398845 g398846 q398856 f398861 q398882 f398887 q398909 f398914 o398920 z398922 z398925 z398926 k e1 bg398845 r398854 fq398855 hx398858 he398860 r398873 hx398884 he398886 r398906 hx398911 he398913 ht398921 ez398922 r398924 ez398925 ez398926 (ht R c1 c2 c3 c4 c5 c6 c7 c8))) (mz_up ez398926 (Int.le_trans bg398845'.2 (by decide)) hm33_398846)
                  · have r398927 : p397010.toInt ≤ z398922.toInt := gC_nlt hc398923
                    refine G_iconst 1 dr_cX17_mayMerge_112 (by decide +kernel) ?_
                    refine G_goto 117 dr_cX17_mayMerge_113 (by decide +kernel) ?_
                    refine G_iadd dr_cX17_mayMerge_117 (G_nam fun z398928 hz398928 => ?_)
                    have bz398928 : gB z398928 (-2147483648) 2147483647 := gB_any z398928
                    refine G_istore (L' := [(4, .int z398928), (7, .int 1), (6, .int 0), (5, .int g398845), (0, .ref q397007), (1, .int p397008), (2, .int p397009), (3, .int p397010)]) dr_cX17_mayMerge_118 (Nat.le_of_ble_eq_true rfl) rfl ?_
                    obtain ⟨z398929, hz398929⟩ : ∃ z : Int32, z = g398845 + Int32.ofInt 1 := ⟨_, rfl⟩
                    have ez398929 : z398929.toInt = g398845.toInt + 1 := gI_inc hz398929 (by decide) bg398845' (by decide) (by decide)
                    have bz398929 : gB z398929 1 2000 := ⟨by omega, by omega⟩
                    refine G_iinc (L' := [(5, .int z398929), (4, .int z398928), (7, .int 1), (6, .int 0), (0, .ref q397007), (1, .int p397008), (2, .int p397009), (3, .int p397010)]) z398929 3 dr_cX17_mayMerge_120 rfl hz398929.symm (Nat.le_of_ble_eq_true rfl) rfl ?_
                    refine G_goto 33 dr_cX17_mayMerge_123 (by decide +kernel) ?_
                    refine G_lv (L' := [(5, .int z398929), (4, .int z398928), (0, .ref q397007), (1, .int p397008), (2, .int p397009), (3, .int p397010)]) [0, 1, 4, 5, 6, 7] rfl ?_
                    exact ih33_398846 z398929 z398928 (gB_w bz398929 (by decide) (by decide)) (fun k e1 ht => kt33_398847 k e1 (fun R c1 c2 c3 c4 c5 c6 c7 c8 => c4 g398845 g398846 q398856 f398861 q398882 f398887 q398909 f398914 o398920 z398922 z398928 z398929 k e1 bg398845 r398854 fq398855 hx398858 he398860 r398873 hx398884 he398886 r398906 hx398911 he398913 ht398921 ez398922 r398927 hz398928 ez398929 (ht R c1 c2 c3 c4 c5 c6 c7 c8))) (mz_up ez398929 (Int.le_trans bg398845'.2 (by decide)) hm33_398846)
              · change G _ _ _ _ _ _ _ (.int 1 :: _) _ _ _
                refine G_widen (cs' := 0) (sl' := 0) (by omega) (by omega) ?_
                refine G_istore (L' := [(6, .int 1), (5, .int g398845), (4, .int g398846), (0, .ref q397007), (1, .int p397008), (2, .int p397009), (3, .int p397010)]) dr_cX17_mayMerge_52 (Nat.le_of_ble_eq_true rfl) rfl ?_
                refine G_aload_n 3 dr_cX17_mayMerge_54 rfl ?_
                refine Gp_get 1 hm397018 he397019 dr_cX17_mayMerge_55 (gk_X17 D I) (Nat.le_of_ble_eq_true rfl) wr_7_75 rfl ?_
                refine G_iload_n 5 dr_cX17_mayMerge_58 rfl ?_
                obtain ⟨q398930, hx398932⟩ : ∃ x, x = γ 11 p397009.toInt.toNat := ⟨_, rfl⟩
                have ht398931 : rKd γ q398930 36 := by rw [hx398932]; exact (hg397069 _ (show p397009.toInt.toNat < 2000 by omega)).2.1
                refine Gp_aald 5 hm397066 he397067 dr_cX17_mayMerge_59 rfl rfl (gB_in bp397009' (by decide) (by decide)) ?_
                rw [show f397068 p397009.toNatClampNeg = some q398930 from (hg397069 _ (show p397009.toInt.toNat < 2000 by omega)).1.trans (by rw [hx398932])]
                change G _ _ _ _ _ _ _ (.ref q398930 :: _) _ _ _
                refine G_iload 1 dr_cX17_mayMerge_60 rfl ?_
                have hm398933 : q398930 ∈ P397005 := RS_m hT ht398931 (by decide)
                obtain ⟨f398935, he398934, wf398935⟩ := show rk_36 I (F397006 q398930) from RS_o hT ht398931
                refine Gw_callS (As := [.ref q398930, .int g398845]) (gV_ok D I) (cp_1845_SpillForgeModel_has l hl0 D I P397005 F397006 q398930 g398845 f398935 hm398933 he398934 (gB_w bg398845' (by decide) (by decide))) dr_cX17_mayMerge_62 ⟨wr_10_203, wr_1_14, wr_10_205, by decide, rfl, (Nat.le_of_ble_eq_true rfl), (Nat.le_of_ble_eq_true rfl)⟩ wr_10_204 (show 0 + 0 ≤ 0 by first | omega | decide) (show 0 + 0 ≤ 0 by first | omega | decide) (Nat.le_of_ble_eq_true rfl) (fun r398939 w398940 dc398936 ds398937 hp398938 => ?_) (fun _ _ _ _ _ z => z.elim)
                rcases hp398938 with ⟨z398941, z398942, rfl, rfl, hdc, hds, r398943, r398944, r398945, r398946, r398947⟩ | ⟨z398948, z398949, rfl, rfl, hdc, hds, r398950, r398951, r398952, r398953, r398954⟩
                · change G _ _ _ _ _ _ _ (.int 0 :: _) _ _ _
                  refine G_widen (cs' := 0) (sl' := 0) (by omega) (by omega) ?_
                  refine G_istore (L' := [(7, .int 0), (6, .int 1), (5, .int g398845), (4, .int g398846), (0, .ref q397007), (1, .int p397008), (2, .int p397009), (3, .int p397010)]) dr_cX17_mayMerge_65 (Nat.le_of_ble_eq_true rfl) rfl ?_
                  refine G_iload 1 dr_cX17_mayMerge_67 rfl ?_
                  refine G_if_ne 80 dr_cX17_mayMerge_69 (by decide +kernel) (fun _ => ?_) (fun hc => absurd hc (by decide))
                  refine G_iload 3 dr_cX17_mayMerge_80 rfl ?_
                  refine G_aload_n 4 dr_cX17_mayMerge_82 rfl ?_
                  refine Gp_get 1 hm397018 he397019 dr_cX17_mayMerge_83 (gk_X17 D I) (Nat.le_of_ble_eq_true rfl) wr_7_75 rfl ?_
                  refine G_iload 2 dr_cX17_mayMerge_86 rfl ?_
                  obtain ⟨q398956, hx398958⟩ : ∃ x, x = γ 11 g398845.toInt.toNat := ⟨_, rfl⟩
                  have ht398957 : rKd γ q398956 36 := by rw [hx398958]; exact (hg397069 _ (show g398845.toInt.toNat < 2000 by omega)).2.1
                  refine Gp_aald 5 hm397066 he397067 dr_cX17_mayMerge_88 rfl rfl (gB_in bg398845' (by decide) (by decide)) ?_
                  rw [show f397068 g398845.toNatClampNeg = some q398956 from (hg397069 _ (show g398845.toInt.toNat < 2000 by omega)).1.trans (by rw [hx398958])]
                  change G _ _ _ _ _ _ _ (.ref q398956 :: _) _ _ _
                  have hm398959 : q398956 ∈ P397005 := RS_m hT ht398957 (by decide)
                  obtain ⟨f398961, he398960, wf398961⟩ := show rk_36 I (F397006 q398956) from RS_o hT ht398957
                  refine Gw_callS (As := [.ref q398956]) (gV_ok D I) (cp_1899_SpillForgeModel_count l hl0 D I P397005 F397006 q398956 f398961 hm398959 he398960) dr_cX17_mayMerge_89 ⟨wr_11_16, wr_1_14, wr_11_18, by decide, rfl, (Nat.le_of_ble_eq_true rfl), (Nat.le_of_ble_eq_true rfl)⟩ wr_11_17 (show 0 + 0 ≤ 0 by first | omega | decide) (show 0 + 0 ≤ 0 by first | omega | decide) (Nat.le_of_ble_eq_true rfl) (fun r398965 w398966 dc398962 ds398963 hp398964 => ?_) (fun _ _ _ _ _ z => z.elim)
                  obtain ⟨o398967, rfl, rfl, hdc, hds, ht398968⟩ := hp398964
                  have bo398967 := gB_any o398967
                  change G _ _ _ _ _ _ _ (.int o398967 :: _) _ _ _
                  refine G_widen (cs' := 0) (sl' := 0) (by omega) (by omega) ?_
                  refine G_iload 1 dr_cX17_mayMerge_92 rfl ?_
                  refine G_if_eq 106 dr_cX17_mayMerge_94 (by decide +kernel) (fun hc => absurd hc (by decide)) (fun _ => ?_)
                  refine G_iload 0 dr_cX17_mayMerge_97 rfl ?_
                  refine G_if_eq 106 dr_cX17_mayMerge_99 (by decide +kernel) (fun _ => ?_) (fun hc => absurd hc (by decide))
                  refine G_iconst 0 dr_cX17_mayMerge_106 (by decide +kernel) ?_
                  refine G_isub dr_cX17_mayMerge_107 (G_nam fun z398969 hz398969 => ?_)
                  have ez398969 : z398969.toInt = o398967.toInt - 0 := by rw [gI_sub hz398969 bo398967 (gBl (show Int32.toInt 0 = 0 by decide)) (by decide) (by decide), show Int32.toInt 0 = 0 from by decide]
                  have bz398969 : gB z398969 (-2147483648) 2147483647 := gB_sub (gI_sub hz398969 bo398967 (gBl (show Int32.toInt 0 = 0 by decide)) (by decide) (by decide)) bo398967 (gBl (show Int32.toInt 0 = 0 by decide)) (by decide) (by decide)
                  refine G_iload_n 7 dr_cX17_mayMerge_108 rfl ?_
                  refine G_icmp_lt 116 dr_cX17_mayMerge_109 (by decide +kernel) (fun hc398970 => ?_) (fun hc398970 => ?_)
                  · have r398971 : z398969.toInt < p397010.toInt := gC_lt hc398970
                    have bz398969' : gB z398969 (-2147483648) 2147483646 := ⟨by omega, by omega⟩
                    have bp397010' : gB p397010 (-2147483647) 2147483647 := ⟨by omega, by omega⟩
                    refine G_iconst 0 dr_cX17_mayMerge_116 (by decide +kernel) ?_
                    refine G_iadd dr_cX17_mayMerge_117 (G_nam fun z398972 hz398972 => ?_)
                    have ez398972 : z398972.toInt = g398846.toInt + 0 := by rw [gI_add hz398972 bg398846 (gBl (show Int32.toInt 0 = 0 by decide)) (by decide) (by decide), show Int32.toInt 0 = 0 from by decide]
                    have bz398972 : gB z398972 (-2147483648) 2147483647 := gB_add (gI_add hz398972 bg398846 (gBl (show Int32.toInt 0 = 0 by decide)) (by decide) (by decide)) bg398846 (gBl (show Int32.toInt 0 = 0 by decide)) (by decide) (by decide)
                    refine G_istore (L' := [(4, .int z398972), (7, .int 0), (6, .int 1), (5, .int g398845), (0, .ref q397007), (1, .int p397008), (2, .int p397009), (3, .int p397010)]) dr_cX17_mayMerge_118 (Nat.le_of_ble_eq_true rfl) rfl ?_
                    obtain ⟨z398973, hz398973⟩ : ∃ z : Int32, z = g398845 + Int32.ofInt 1 := ⟨_, rfl⟩
                    have ez398973 : z398973.toInt = g398845.toInt + 1 := gI_inc hz398973 (by decide) bg398845' (by decide) (by decide)
                    have bz398973 : gB z398973 1 2000 := ⟨by omega, by omega⟩
                    refine G_iinc (L' := [(5, .int z398973), (4, .int z398972), (7, .int 0), (6, .int 1), (0, .ref q397007), (1, .int p397008), (2, .int p397009), (3, .int p397010)]) z398973 3 dr_cX17_mayMerge_120 rfl hz398973.symm (Nat.le_of_ble_eq_true rfl) rfl ?_
                    refine G_goto 33 dr_cX17_mayMerge_123 (by decide +kernel) ?_
                    refine G_lv (L' := [(5, .int z398973), (4, .int z398972), (0, .ref q397007), (1, .int p397008), (2, .int p397009), (3, .int p397010)]) [0, 1, 4, 5, 6, 7] rfl ?_
                    exact ih33_398846 z398973 z398972 (gB_w bz398973 (by decide) (by decide)) (fun k e1 ht => kt33_398847 k e1 (fun R c1 c2 c3 c4 c5 c6 c7 c8 => c5 g398845 g398846 q398856 f398861 q398930 f398935 q398956 f398961 o398967 z398969 z398972 z398973 k e1 bg398845 r398854 fq398855 hx398858 he398860 r398880 hx398932 he398934 r398947 hx398958 he398960 ht398968 ez398969 r398971 ez398972 ez398973 (ht R c1 c2 c3 c4 c5 c6 c7 c8))) (mz_up ez398973 (Int.le_trans bg398845'.2 (by decide)) hm33_398846)
                  · have r398974 : p397010.toInt ≤ z398969.toInt := gC_nlt hc398970
                    refine G_iconst 1 dr_cX17_mayMerge_112 (by decide +kernel) ?_
                    refine G_goto 117 dr_cX17_mayMerge_113 (by decide +kernel) ?_
                    refine G_iadd dr_cX17_mayMerge_117 (G_nam fun z398975 hz398975 => ?_)
                    have bz398975 : gB z398975 (-2147483648) 2147483647 := gB_any z398975
                    refine G_istore (L' := [(4, .int z398975), (7, .int 0), (6, .int 1), (5, .int g398845), (0, .ref q397007), (1, .int p397008), (2, .int p397009), (3, .int p397010)]) dr_cX17_mayMerge_118 (Nat.le_of_ble_eq_true rfl) rfl ?_
                    obtain ⟨z398976, hz398976⟩ : ∃ z : Int32, z = g398845 + Int32.ofInt 1 := ⟨_, rfl⟩
                    have ez398976 : z398976.toInt = g398845.toInt + 1 := gI_inc hz398976 (by decide) bg398845' (by decide) (by decide)
                    have bz398976 : gB z398976 1 2000 := ⟨by omega, by omega⟩
                    refine G_iinc (L' := [(5, .int z398976), (4, .int z398975), (7, .int 0), (6, .int 1), (0, .ref q397007), (1, .int p397008), (2, .int p397009), (3, .int p397010)]) z398976 3 dr_cX17_mayMerge_120 rfl hz398976.symm (Nat.le_of_ble_eq_true rfl) rfl ?_
                    refine G_goto 33 dr_cX17_mayMerge_123 (by decide +kernel) ?_
                    refine G_lv (L' := [(5, .int z398976), (4, .int z398975), (0, .ref q397007), (1, .int p397008), (2, .int p397009), (3, .int p397010)]) [0, 1, 4, 5, 6, 7] rfl ?_
                    exact ih33_398846 z398976 z398975 (gB_w bz398976 (by decide) (by decide)) (fun k e1 ht => kt33_398847 k e1 (fun R c1 c2 c3 c4 c5 c6 c7 c8 => c6 g398845 g398846 q398856 f398861 q398930 f398935 q398956 f398961 o398967 z398969 z398975 z398976 k e1 bg398845 r398854 fq398855 hx398858 he398860 r398880 hx398932 he398934 r398947 hx398958 he398960 ht398968 ez398969 r398974 hz398975 ez398976 (ht R c1 c2 c3 c4 c5 c6 c7 c8))) (mz_up ez398976 (Int.le_trans bg398845'.2 (by decide)) hm33_398846)
                · change G _ _ _ _ _ _ _ (.int 1 :: _) _ _ _
                  refine G_widen (cs' := 0) (sl' := 0) (by omega) (by omega) ?_
                  refine G_istore (L' := [(7, .int 1), (6, .int 1), (5, .int g398845), (4, .int g398846), (0, .ref q397007), (1, .int p397008), (2, .int p397009), (3, .int p397010)]) dr_cX17_mayMerge_65 (Nat.le_of_ble_eq_true rfl) rfl ?_
                  refine G_iload 1 dr_cX17_mayMerge_67 rfl ?_
                  refine G_if_ne 80 dr_cX17_mayMerge_69 (by decide +kernel) (fun _ => ?_) (fun hc => absurd hc (by decide))
                  refine G_iload 3 dr_cX17_mayMerge_80 rfl ?_
                  refine G_aload_n 4 dr_cX17_mayMerge_82 rfl ?_
                  refine Gp_get 1 hm397018 he397019 dr_cX17_mayMerge_83 (gk_X17 D I) (Nat.le_of_ble_eq_true rfl) wr_7_75 rfl ?_
                  refine G_iload 2 dr_cX17_mayMerge_86 rfl ?_
                  obtain ⟨q398977, hx398979⟩ : ∃ x, x = γ 11 g398845.toInt.toNat := ⟨_, rfl⟩
                  have ht398978 : rKd γ q398977 36 := by rw [hx398979]; exact (hg397069 _ (show g398845.toInt.toNat < 2000 by omega)).2.1
                  refine Gp_aald 5 hm397066 he397067 dr_cX17_mayMerge_88 rfl rfl (gB_in bg398845' (by decide) (by decide)) ?_
                  rw [show f397068 g398845.toNatClampNeg = some q398977 from (hg397069 _ (show g398845.toInt.toNat < 2000 by omega)).1.trans (by rw [hx398979])]
                  change G _ _ _ _ _ _ _ (.ref q398977 :: _) _ _ _
                  have hm398980 : q398977 ∈ P397005 := RS_m hT ht398978 (by decide)
                  obtain ⟨f398982, he398981, wf398982⟩ := show rk_36 I (F397006 q398977) from RS_o hT ht398978
                  refine Gw_callS (As := [.ref q398977]) (gV_ok D I) (cp_1899_SpillForgeModel_count l hl0 D I P397005 F397006 q398977 f398982 hm398980 he398981) dr_cX17_mayMerge_89 ⟨wr_11_16, wr_1_14, wr_11_18, by decide, rfl, (Nat.le_of_ble_eq_true rfl), (Nat.le_of_ble_eq_true rfl)⟩ wr_11_17 (show 0 + 0 ≤ 0 by first | omega | decide) (show 0 + 0 ≤ 0 by first | omega | decide) (Nat.le_of_ble_eq_true rfl) (fun r398986 w398987 dc398983 ds398984 hp398985 => ?_) (fun _ _ _ _ _ z => z.elim)
                  obtain ⟨o398988, rfl, rfl, hdc, hds, ht398989⟩ := hp398985
                  have bo398988 := gB_any o398988
                  change G _ _ _ _ _ _ _ (.int o398988 :: _) _ _ _
                  refine G_widen (cs' := 0) (sl' := 0) (by omega) (by omega) ?_
                  refine G_iload 1 dr_cX17_mayMerge_92 rfl ?_
                  refine G_if_eq 106 dr_cX17_mayMerge_94 (by decide +kernel) (fun hc => absurd hc (by decide)) (fun _ => ?_)
                  refine G_iload 0 dr_cX17_mayMerge_97 rfl ?_
                  refine G_if_eq 106 dr_cX17_mayMerge_99 (by decide +kernel) (fun hc => absurd hc (by decide)) (fun _ => ?_)
                  refine G_iconst 1 dr_cX17_mayMerge_102 (by decide +kernel) ?_
                  refine G_goto 107 dr_cX17_mayMerge_103 (by decide +kernel) ?_
                  refine G_isub dr_cX17_mayMerge_107 (G_nam fun z398990 hz398990 => ?_)
                  have bz398990 : gB z398990 (-2147483648) 2147483647 := gB_any z398990
                  refine G_iload_n 7 dr_cX17_mayMerge_108 rfl ?_
                  refine G_icmp_lt 116 dr_cX17_mayMerge_109 (by decide +kernel) (fun hc398991 => ?_) (fun hc398991 => ?_)
                  · have r398992 : z398990.toInt < p397010.toInt := gC_lt hc398991
                    have bz398990' : gB z398990 (-2147483648) 2147483646 := ⟨by omega, by omega⟩
                    have bp397010' : gB p397010 (-2147483647) 2147483647 := ⟨by omega, by omega⟩
                    refine G_iconst 0 dr_cX17_mayMerge_116 (by decide +kernel) ?_
                    refine G_iadd dr_cX17_mayMerge_117 (G_nam fun z398993 hz398993 => ?_)
                    have ez398993 : z398993.toInt = g398846.toInt + 0 := by rw [gI_add hz398993 bg398846 (gBl (show Int32.toInt 0 = 0 by decide)) (by decide) (by decide), show Int32.toInt 0 = 0 from by decide]
                    have bz398993 : gB z398993 (-2147483648) 2147483647 := gB_add (gI_add hz398993 bg398846 (gBl (show Int32.toInt 0 = 0 by decide)) (by decide) (by decide)) bg398846 (gBl (show Int32.toInt 0 = 0 by decide)) (by decide) (by decide)
                    refine G_istore (L' := [(4, .int z398993), (7, .int 1), (6, .int 1), (5, .int g398845), (0, .ref q397007), (1, .int p397008), (2, .int p397009), (3, .int p397010)]) dr_cX17_mayMerge_118 (Nat.le_of_ble_eq_true rfl) rfl ?_
                    obtain ⟨z398994, hz398994⟩ : ∃ z : Int32, z = g398845 + Int32.ofInt 1 := ⟨_, rfl⟩
                    have ez398994 : z398994.toInt = g398845.toInt + 1 := gI_inc hz398994 (by decide) bg398845' (by decide) (by decide)
                    have bz398994 : gB z398994 1 2000 := ⟨by omega, by omega⟩
                    refine G_iinc (L' := [(5, .int z398994), (4, .int z398993), (7, .int 1), (6, .int 1), (0, .ref q397007), (1, .int p397008), (2, .int p397009), (3, .int p397010)]) z398994 3 dr_cX17_mayMerge_120 rfl hz398994.symm (Nat.le_of_ble_eq_true rfl) rfl ?_
                    refine G_goto 33 dr_cX17_mayMerge_123 (by decide +kernel) ?_
                    refine G_lv (L' := [(5, .int z398994), (4, .int z398993), (0, .ref q397007), (1, .int p397008), (2, .int p397009), (3, .int p397010)]) [0, 1, 4, 5, 6, 7] rfl ?_
                    exact ih33_398846 z398994 z398993 (gB_w bz398994 (by decide) (by decide)) (fun k e1 ht => kt33_398847 k e1 (fun R c1 c2 c3 c4 c5 c6 c7 c8 => c7 g398845 g398846 q398856 f398861 q398930 f398935 q398977 f398982 o398988 z398990 z398993 z398994 k e1 bg398845 r398854 fq398855 hx398858 he398860 r398880 hx398932 he398934 r398954 hx398979 he398981 ht398989 hz398990 r398992 ez398993 ez398994 (ht R c1 c2 c3 c4 c5 c6 c7 c8))) (mz_up ez398994 (Int.le_trans bg398845'.2 (by decide)) hm33_398846)
                  · have r398995 : p397010.toInt ≤ z398990.toInt := gC_nlt hc398991
                    refine G_iconst 1 dr_cX17_mayMerge_112 (by decide +kernel) ?_
                    refine G_goto 117 dr_cX17_mayMerge_113 (by decide +kernel) ?_
                    refine G_iadd dr_cX17_mayMerge_117 (G_nam fun z398996 hz398996 => ?_)
                    have bz398996 : gB z398996 (-2147483648) 2147483647 := gB_any z398996
                    refine G_istore (L' := [(4, .int z398996), (7, .int 1), (6, .int 1), (5, .int g398845), (0, .ref q397007), (1, .int p397008), (2, .int p397009), (3, .int p397010)]) dr_cX17_mayMerge_118 (Nat.le_of_ble_eq_true rfl) rfl ?_
                    obtain ⟨z398997, hz398997⟩ : ∃ z : Int32, z = g398845 + Int32.ofInt 1 := ⟨_, rfl⟩
                    have ez398997 : z398997.toInt = g398845.toInt + 1 := gI_inc hz398997 (by decide) bg398845' (by decide) (by decide)
                    have bz398997 : gB z398997 1 2000 := ⟨by omega, by omega⟩
                    refine G_iinc (L' := [(5, .int z398997), (4, .int z398996), (7, .int 1), (6, .int 1), (0, .ref q397007), (1, .int p397008), (2, .int p397009), (3, .int p397010)]) z398997 3 dr_cX17_mayMerge_120 rfl hz398997.symm (Nat.le_of_ble_eq_true rfl) rfl ?_
                    refine G_goto 33 dr_cX17_mayMerge_123 (by decide +kernel) ?_
                    refine G_lv (L' := [(5, .int z398997), (4, .int z398996), (0, .ref q397007), (1, .int p397008), (2, .int p397009), (3, .int p397010)]) [0, 1, 4, 5, 6, 7] rfl ?_
                    exact ih33_398846 z398997 z398996 (gB_w bz398997 (by decide) (by decide)) (fun k e1 ht => kt33_398847 k e1 (fun R c1 c2 c3 c4 c5 c6 c7 c8 => c8 g398845 g398846 q398856 f398861 q398930 f398935 q398977 f398982 o398988 z398990 z398996 z398997 k e1 bg398845 r398854 fq398855 hx398858 he398860 r398880 hx398932 he398934 r398954 hx398979 he398981 ht398989 hz398990 r398995 hz398996 ez398997 (ht R c1 c2 c3 c4 c5 c6 c7 c8))) (mz_up ez398997 (Int.le_trans bg398845'.2 (by decide)) hm33_398846)
        exact hlp33_398846 (((2001 : Int) - 0).toNat + 1) 0 0 (gB_w (gBl (show Int32.toInt 0 = 0 by decide)) (by decide) (by decide)) (fun k e1 ht => ht) (Nat.lt_succ_self _)
      · change G _ _ _ _ _ _ _ (.int 1 :: _) _ _ _
        refine G_widen (cs' := 0) (sl' := 0) (by omega) (by omega) ?_
        refine G_if_eq 27 dr_cX17_mayMerge_22 (by decide +kernel) (fun hc => absurd hc (by decide)) (fun _ => ?_)
        refine G_iconst 0 dr_cX17_mayMerge_25 (by decide +kernel) ?_
        exact G_zretA FieldType.boolean dr_cX17_mayMerge_26 rfl rfl (Nat.le_of_ble_eq_true rfl) (Nat.le_of_ble_eq_true rfl) ⟨0, rfl, rfl, (Nat.le_of_ble_eq_true rfl), (Nat.le_of_ble_eq_true rfl), (gB_w (gBl (show Int32.toInt 0 = 0 by decide)) (by decide) (by decide)), (by have qa0 : Int32.toInt 0 = 0 := (by decide); omega), (fun R c1 c2 c3 c4 c5 => c5 q397070 f397075 r397014 r397017 fq397065 hx397072 he397074 r397094)⟩
/- tl_RModel_merge_20: l5; out: l6, l5 -/
def tl_RModel_merge_20 (D : va_G) (I : FieldType → ClassId) (γ0 el0 : Nat → Nat → Nat) (f : Nat) (F : Nat → va_E) (c1 : Nat) (c2 : Nat → Nat → Nat) (c3 : Nat → Nat → Nat) (q0 : Nat) (a2 : Int32) (s1 : Int32) (k : Nat) (e1 : Nat) (e2 : Int32) : Prop := ∀ R : (Int32) → Nat → (Nat) → (Int32) → Prop,
  (∀ (l5_2 : Int32) (x1 : Nat) (x2 : Int32), gB l5_2 0 1000000 → fR (F c1) 0 = x1 → x2.toInt = (c2 2 x1 : Int) → fI (F x1) 2 = x2 → x2.toInt ≤ l5_2.toInt → R l5_2 172 (0 : Nat) (0 : Int32)) →
  (∀ (l5_2 : Int32) (x1 : Nat) (x2 : Int32) (x3 : Nat) (x4 : Int32) (x5 : Int32) (k : Nat) (e1 : Nat) (e2 : Int32), gB l5_2 0 1000000 → fR (F c1) 0 = x1 → x2.toInt = (c2 2 x1 : Int) → fI (F x1) 2 = x2 → l5_2.toInt < x2.toInt → x3 = c3 x1 l5_2.toInt.toNat → tr_RArrayList_get l5_2 x2 → fI (F x3) 0 = x4 → x4.toInt ≠ 0 → x5.toInt = l5_2.toInt + 1 → R x5 k e1 e2 → R l5_2 k e1 e2) →
  (∀ (l5_2 : Int32) (x1 : Nat) (x2 : Int32) (x3 : Nat) (x4 : Int32) (x5 : Int32) (x6 : Int32) (k : Nat) (e1 : Nat) (e2 : Int32), gB l5_2 0 1000000 → fR (F c1) 0 = x1 → x2.toInt = (c2 2 x1 : Int) → fI (F x1) 2 = x2 → l5_2.toInt < x2.toInt → x3 = c3 x1 l5_2.toInt.toNat → tr_RArrayList_get l5_2 x2 → fI (F x3) 0 = x4 → x4.toInt = 0 → fI (F x3) 5 = x5 → x5.toInt = 0 → x6.toInt = l5_2.toInt + 1 → R x6 k e1 e2 → R l5_2 k e1 e2) →
  (∀ (l5_2 : Int32) (x1 : Nat) (x2 : Int32) (x3 : Nat) (x4 : Int32) (x5 : Int32) (x6 : Int32) (x7 : Int32), gB l5_2 0 1000000 → fR (F c1) 0 = x1 → x2.toInt = (c2 2 x1 : Int) → fI (F x1) 2 = x2 → l5_2.toInt < x2.toInt → x3 = c3 x1 l5_2.toInt.toNat → tr_RArrayList_get l5_2 x2 → fI (F x3) 0 = x4 → x4.toInt = 0 → fI (F x3) 5 = x5 → x5.toInt ≠ 0 → fI (F x3) 1 = x6 → fI (F x3) 2 = x7 → x6.toInt = x7.toInt → R l5_2 98 x3 l5_2) →
  (∀ (l5_2 : Int32) (x1 : Nat) (x2 : Int32) (x3 : Nat) (x4 : Int32) (x5 : Int32) (x6 : Int32) (x7 : Int32) (x8 : Int32), gB l5_2 0 1000000 → fR (F c1) 0 = x1 → x2.toInt = (c2 2 x1 : Int) → fI (F x1) 2 = x2 → l5_2.toInt < x2.toInt → x3 = c3 x1 l5_2.toInt.toNat → tr_RArrayList_get l5_2 x2 → fI (F x3) 0 = x4 → x4.toInt = 0 → fI (F x3) 5 = x5 → x5.toInt ≠ 0 → fI (F x3) 1 = x6 → fI (F x3) 2 = x7 → x6.toInt ≠ x7.toInt → gB x8 0 1 → ((x8.toInt = 0 ∨ (x6.toInt < 100 ∧ x7.toInt < 100))) → tr_RModel_mayMerge D I c2 c3 F q0 x6 x7 a2 x8 → x8.toInt ≠ 0 → R l5_2 98 x3 l5_2) →
  (∀ (l5_2 : Int32) (x1 : Nat) (x2 : Int32) (x3 : Nat) (x4 : Int32) (x5 : Int32) (x6 : Int32) (x7 : Int32) (x8 : Int32) (x9 : Int32) (k : Nat) (e1 : Nat) (e2 : Int32), gB l5_2 0 1000000 → fR (F c1) 0 = x1 → x2.toInt = (c2 2 x1 : Int) → fI (F x1) 2 = x2 → l5_2.toInt < x2.toInt → x3 = c3 x1 l5_2.toInt.toNat → tr_RArrayList_get l5_2 x2 → fI (F x3) 0 = x4 → x4.toInt = 0 → fI (F x3) 5 = x5 → x5.toInt ≠ 0 → fI (F x3) 1 = x6 → fI (F x3) 2 = x7 → x6.toInt ≠ x7.toInt → gB x8 0 1 → ((x8.toInt = 0 ∨ (x6.toInt < 100 ∧ x7.toInt < 100))) → tr_RModel_mayMerge D I c2 c3 F q0 x6 x7 a2 x8 → x8.toInt = 0 → x9.toInt = l5_2.toInt + 1 → R x9 k e1 e2 → R l5_2 k e1 e2) →
  R s1 k e1 e2
/- tl_RModel_merge_2: l3; out: l6, l5, l4 -/
def tl_RModel_merge_2 (D : va_G) (I : FieldType → ClassId) (γ0 el0 : Nat → Nat → Nat) (f : Nat) (F : Nat → va_E) (q1 : Nat) (c1 : Nat → Nat → Nat) (c2 : Nat → Nat → Nat) (q0 : Nat) (a2 : Int32) (s1 : Int32) (k : Nat) (e1 : Nat) (e2 : Int32) (e3 : Nat) : Prop := ∀ R : (Int32) → Nat → (Nat) → (Int32) → (Nat) → Prop,
  (∀ (l3_1 : Int32) (x1 : Int32), gB l3_1 0 1000000 → fI (F q1) 3 = x1 → x1.toInt ≤ l3_1.toInt → R l3_1 178 (0 : Nat) (0 : Int32) (0 : Nat)) →
  (∀ (l3_1 : Int32) (x1 : Int32) (x2 : Nat) (x3 : Nat) (x4 : Int32) (x5 : Int32) (k : Nat) (e1 : Nat) (e2 : Int32) (e3 : Nat), gB l3_1 0 1000000 → fI (F q1) 3 = x1 → l3_1.toInt < x1.toInt → fR (F q1) 0 = x2 → x3 = c1 x2 l3_1.toInt.toNat → fI (F x2) 2 = x4 → tr_RCode_get l3_1 x4 → tl_RModel_merge_20 D I γ0 el0 f F x3 c2 c1 q0 a2 (0 : Int32) 172 (0 : Nat) (0 : Int32) → x5.toInt = l3_1.toInt + 1 → R x5 k e1 e2 e3 → R l3_1 k e1 e2 e3) →
  (∀ (l3_1 : Int32) (x1 : Int32) (x2 : Nat) (x3 : Nat) (x4 : Int32) (x5 : Nat) (x6 : Int32), gB l3_1 0 1000000 → fI (F q1) 3 = x1 → l3_1.toInt < x1.toInt → fR (F q1) 0 = x2 → x3 = c1 x2 l3_1.toInt.toNat → fI (F x2) 2 = x4 → tr_RCode_get l3_1 x4 → tl_RModel_merge_20 D I γ0 el0 f F x3 c2 c1 q0 a2 (0 : Int32) 98 x5 x6 → R l3_1 98 x5 x6 x3) →
  R s1 k e1 e2 e3
/- tr_RModel_merge: result, P, F, gm, el -/
def tr_RModel_merge (D : va_G) (I : FieldType → ClassId) (γ0 el0 : Nat → Nat → Nat) (f : Nat) (P : List Nat) (F : Nat → va_E) (q0 : Nat) (q1 : Nat) (a2 : Int32) (o1 : Int32) (o2 : List Nat) (o3 : Nat → va_E) (o4 : Nat → Nat → Nat) (o5 : Nat → Nat → Nat) : Prop := ∀ R : (Int32) → (List Nat) → (Nat → va_E) → (Nat → Nat → Nat) → (Nat → Nat → Nat) → Prop,
  (∀ (x1 : Nat → Nat → Nat) (x2 : Nat → Nat → Nat), x1 = γ0 → x2 = el0 → tl_RModel_merge_2 D I γ0 el0 f F q1 x2 x1 q0 a2 (0 : Int32) 178 (0 : Nat) (0 : Int32) (0 : Nat) → R (0 : Int32) P F x1 x2) →
  (∀ (x1 : Nat → Nat → Nat) (x2 : Nat → Nat → Nat) (x3 : Nat) (x4 : Int32) (x5 : Nat) (x6 : Int32) (x7 : Int32) (x8 : Int32) (x9 : Int32) (x10 : Nat) (x11 : Nat → va_E) (x12 : Nat → Nat → Nat) (x13 : Nat → Nat → Nat) (x14 : Int32) (x15 : Int32) (x16 : Nat → va_E), x1 = γ0 → x2 = el0 → tl_RModel_merge_2 D I γ0 el0 f F q1 x2 x1 q0 a2 (0 : Int32) 98 x3 x4 x5 → fI (F x3) 1 = x6 → fI (F x3) 2 = x7 → (x6.toInt ≥ x8.toInt ∧ x7.toInt ≥ x8.toInt ∧ (x8.toInt = x6.toInt ∨ x8.toInt = x7.toInt)) → (x6.toInt ≤ x9.toInt ∧ x7.toInt ≤ x9.toInt ∧ (x9.toInt = x6.toInt ∨ x9.toInt = x7.toInt)) → fR (F x5) 0 = x10 → rDq D I P F x1 x2 f x10 x4.toInt.toNat x11 x12 x13 → fI (x11 q0) 13 = x14 → x15 = x14 + (1 : Int32) → (∀ b, b ≠ q0 → x16 b = x11 b) → x16 q0 = cF (x11 q0) 13 (.int x15) → x8.toInt = x9.toInt → R (1 : Int32) P x16 x12 x13) →
  (∀ (x1 : Nat → Nat → Nat) (x2 : Nat → Nat → Nat) (x3 : Nat) (x4 : Int32) (x5 : Nat) (x6 : Int32) (x7 : Int32) (x8 : Int32) (x9 : Int32) (x10 : Nat) (x11 : Nat → va_E) (x12 : Nat → Nat → Nat) (x13 : Nat → Nat → Nat) (x14 : Int32) (x15 : Int32) (x16 : Nat → va_E) (x17 : Nat → va_E), x1 = γ0 → x2 = el0 → tl_RModel_merge_2 D I γ0 el0 f F q1 x2 x1 q0 a2 (0 : Int32) 98 x3 x4 x5 → fI (F x3) 1 = x6 → fI (F x3) 2 = x7 → (x6.toInt ≥ x8.toInt ∧ x7.toInt ≥ x8.toInt ∧ (x8.toInt = x6.toInt ∨ x8.toInt = x7.toInt)) → (x6.toInt ≤ x9.toInt ∧ x7.toInt ≤ x9.toInt ∧ (x9.toInt = x6.toInt ∨ x9.toInt = x7.toInt)) → fR (F x5) 0 = x10 → rDq D I P F x1 x2 f x10 x4.toInt.toNat x11 x12 x13 → fI (x11 q0) 13 = x14 → x15 = x14 + (1 : Int32) → (∀ b, b ≠ q0 → x16 b = x11 b) → x16 q0 = cF (x11 q0) 13 (.int x15) → x8.toInt ≠ x9.toInt → RS D I P x17 x12 x13 → rStr x12 [1] x16 x17 → ((∀ N : Nat → Prop, N (x8.toInt : Int).toNat → x9.toInt < 100 → rPl x12 x13 x16 q1 (x12 6 (x12 1 q1)) (fun _ _ => rNx N) → rPl x12 x13 x17 q1 (x12 6 (x12 1 q1)) (fun _ _ => rNx N))) → rFk [1] x12 x16 x17 → rFs x12 (x12 1 q1) x16 x17 → tr_RModel_rename D I x12 x13 P x16 q1 x9 x8 x17 → R (1 : Int32) P x17 x12 x13) →
  R o1 o2 o3 o4 o5
abbrev ky_399006_SpillForgeModel_merge : gKey := (cX17_merge, 9, "SpillForgeModel", (some FieldType.boolean), [], "merge", fun _ _ => True)
def pg_399006_SpillForgeModel_merge (D : va_G) (I : FieldType → ClassId) (γ0 el0 : Nat → Nat → Nat) (f : Nat) (B : Nat) (P399000 : List Nat) (F399001 : Nat → va_E) (q399002 : Nat) (q399003 : Nat) (p399004 : Int32) : Option Value → va_W → Nat → Nat → Prop := fun r w dc ds => ∃ (P409785 : List Nat) (F409786 : Nat → va_E) (γ el : Nat → Nat → Nat) (o409784 : Int32), r = some (.int o409784) ∧ w = va_pl P409785 F409786 ∧ rSk f [] ([1, 3, 6] ++ npk) D I P399000 F399001 γ0 el0 P409785 F409786 γ el ∧ (18 * dc + rPh γ0 el0 f ≤ rPh γ el f ∧ ds + rPh γ0 el0 f ≤ rPh γ el f) ∧ rBd γ el f B ∧ gB o409784 0 1 ∧ γ 6 f = γ0 6 f ∧ γ 7 f = γ0 7 f ∧ γ 16 f = γ0 16 f ∧ γ 18 f = γ0 18 f ∧ (o409784.toInt = 0 ∨ rsum (fun i => γ 2 (γ 14 (el (γ 14 q399003) i))) (γ 6 f) + 1 ≤ rsum (fun i => γ0 2 (γ0 14 (el0 (γ0 14 q399003) i))) (γ0 6 f)) ∧ (∀ N : Nat → Prop, rPl γ0 el0 F399001 q399003 (γ0 6 f) (fun _ _ => rNx N) → rPl γ el F409786 q399003 (γ 6 f) (fun _ _ => rNx N)) ∧ (fI (F409786 q399002) 11).toInt = (fI (F399001 q399002) 11).toInt ∧ (fI (F409786 q399002) 14).toInt = (fI (F399001 q399002) 14).toInt ∧ (gIp (o409784.toInt = 0) (γ = γ0 ∧ el = el0 ∧ F409786 = F399001)) ∧ mKp (F399001 q399002) (F409786 q399002) ∧ tr_RModel_merge D I γ0 el0 f P399000 F399001 q399002 q399003 p399004 o409784 P409785 F409786 γ el
set_option maxRecDepth 100000 in
set_option maxHeartbeats 1500000 in
theorem cg_399006_SpillForgeModel_merge (l : Launch) (hl0 : l.stackTraces = false) (D : va_G) (I : FieldType → ClassId) (γ0 el0 : Nat → Nat → Nat) (f : Nat) (B : Nat) (P399000 : List Nat) (F399001 : Nat → va_E) (q399002 : Nat) (q399003 : Nat) (p399004 : Int32) (hT0 : RS D I P399000 F399001 γ0 el0) (hzq399002 : rKd γ0 q399002 10) (hzq399003 : rKd γ0 q399003 9) (hf0 : γ0 1 q399003 = f) (hB0 : rBd γ0 el0 f B) (hBk : B ≤ 100000) (x399005 : 0 < γ0 6 f) : CtA (gV D I) l yX17_merge cX17_merge 9 (some FieldType.boolean) 5 111 (((387 * B + 6000) - rPh γ0 el0 f) / 18) ((387 * B + 6000) - rPh γ0 el0 f) [.ref q399002, .ref q399003, .int p399004] (va_pl P399000 F399001) (pg_399006_SpillForgeModel_merge D I γ0 el0 f B P399000 F399001 q399002 q399003 p399004) gNA := by
  refine CtA_of hl0 (by decide) (Nat.le_of_ble_eq_true rfl) ?_
  have bp399004 := gB_any p399004
  obtain ⟨gm_0, hγ0⟩ : ∃ z, z = γ0 := ⟨_, rfl⟩
  obtain ⟨el_0, hel0⟩ : ∃ z, z = el0 := ⟨_, rfl⟩
  have hT : RS D I P399000 F399001 gm_0 el_0 := by rw [hγ0, hel0]; exact hT0
  have hst : rSk f [] ([1, 3, 6] ++ npk) D I P399000 F399001 γ0 el0 P399000 F399001 gm_0 el_0 := by rw [hγ0, hel0]; exact rSk_rf hT0
  have hph : rPh γ0 el0 f ≤ rPh gm_0 el_0 f := by rw [hγ0, hel0]; exact Nat.le_refl _
  have hB : rBd gm_0 el_0 f B := by rw [hγ0, hel0]; exact hB0
  have htq399002 : rKd gm_0 q399002 10 := by rw [hγ0]; exact hzq399002
  have htq399003 : rKd gm_0 q399003 9 := by rw [hγ0]; exact hzq399003
  have hf1 : gm_0 1 q399003 = f := by rw [hγ0]; exact hf0
  have x399005n : 0 < gm_0 6 f := by rw [hγ0]; exact x399005
  have pk399007 : rPh gm_0 el_0 f ≤ 387 * B + 6000 := rm_pk (rM_ge hT htq399003 hf1).1 (rM_bd hB)
  refine G_widen (cs' := ((rPh gm_0 el_0 f - rPh γ0 el0 f) / 18)) (sl' := (rPh gm_0 el_0 f - rPh γ0 el0 f)) (Nat.zero_le _) (Nat.zero_le _) ?_
  have e0_399008 : gm_0 6 f = γ0 6 f := by rw [hγ0]
  have e0_399009 : gm_0 7 f = γ0 7 f := by rw [hγ0]
  have e0_399010 : gm_0 16 f = γ0 16 f := by rw [hγ0]
  have e0_399011 : gm_0 18 f = γ0 18 f := by rw [hγ0]
  have e0_399012 : gm_0 19 f = γ0 19 f := by rw [hγ0]
  have v0_399013 : 0 < gm_0 6 (gm_0 1 q399003) := by rw [hf1, hγ0]; exact x399005
  have s0_399014 : rsum (fun i => gm_0 2 (gm_0 14 (el_0 (gm_0 14 q399003) i))) (gm_0 6 f) = rsum (fun i => γ0 2 (γ0 14 (el0 (γ0 14 q399003) i))) (γ0 6 f) := by rw [hγ0, hel0]
  have hm399015 : q399002 ∈ P399000 := RS_m hT htq399002 (by decide)
  obtain ⟨q399017, q399018, p399019, p399020, p399021, p399022, p399023, p399024, p399025, p399026, p399027, p399028, p399029, p399030, p399031, p399032, p399033, he399016, hB399060, ht399034, ht399035, ht399036, ht399037, ht399038, ht399039, ht399040, ht399041, ht399042, ht399043, ht399044, ht399045, ht399046, ht399047, ht399048, ht399049, ht399050, ht399051, ht399052, ht399053, ht399054, ht399055, ht399056, ht399057, hB399061⟩ := show rk_10 gm_0 (F399001 q399002) from RS_o hT htq399002
  have ac0_11 : (fI (F399001 q399002) 11).toInt = p399021.toInt := by rw [he399016]; rfl
  have ac0_14 : (fI (F399001 q399002) 14).toInt = p399024.toInt := by rw [he399016]; rfl
  have bp399021 : gB p399021 0 100 := (hB399060.2.2.1)
  have bp399024 : gB p399024 0 2000 := (hB399060.2.2.2.1)
  refine G_iconst 0 dr_cX17_merge_0 (by decide +kernel) ?_
  refine G_istore_n (L' := [(3, .int 0), (0, .ref q399002), (1, .ref q399003), (2, .int p399004)]) dr_cX17_merge_1 (Nat.le_of_ble_eq_true rfl) rfl ?_
  have hlp2_408951 : ∀ (n2_408951 : Nat) (g408951 : Int32), gB g408951 0 1000000 → (∀ (k : Nat) (e1 : Nat) (e2 : Int32) (e3 : Nat), tl_RModel_merge_2 D I γ0 el0 f F399001 q399003 el_0 gm_0 q399002 p399004 g408951 k e1 e2 e3 → tl_RModel_merge_2 D I γ0 el0 f F399001 q399003 el_0 gm_0 q399002 p399004 (0 : Int32) k e1 e2 e3) → ((1000001 : Int) - g408951.toInt).toNat < n2_408951 → G (gV D I) l (gRm 5 111 (((387 * B + 6000) - rPh γ0 el0 f) / 18) ((387 * B + 6000) - rPh γ0 el0 f)) (gMA (gV D I) (pg_399006_SpillForgeModel_merge D I γ0 el0 f B P399000 F399001 q399002 q399003 p399004) gNA (((387 * B + 6000) - rPh γ0 el0 f) / 18) ((387 * B + 6000) - rPh γ0 el0 f)) ky_399006_SpillForgeModel_merge 2 [(3, .int g408951), (0, .ref q399002), (1, .ref q399003), (2, .int p399004)] [] (va_pl P399000 F399001) ((rPh gm_0 el_0 f - rPh γ0 el0 f) / 18) (rPh gm_0 el_0 f - rPh γ0 el0 f) := by
    intro n2_408951
    induction n2_408951 with
    | zero => intro g408951 bg408951 kt2_408952 hm2_408951; exact absurd hm2_408951 (Nat.not_lt_zero _)
    | succ n2_408951 ih2_408951 =>
      intro g408951 bg408951 kt2_408952 hm2_408951
      refine G_iload_n 0 dr_cX17_merge_2 rfl ?_
      refine G_aload_n 2 dr_cX17_merge_3 rfl ?_
      have hm408953 : q399003 ∈ P399000 := RS_m hT htq399003 (by decide)
      obtain ⟨q408955, q408956, p408957, p408958, he408954, ht408974, ht408959, ht408960, ht408961, ht408962, r408963, r408964, r408965, r408966, r408967, r408968, r408969, r408970, r408971, r408972, r408973⟩ := show rk_9 gm_0 el_0 q399003 (F399001 q399003) from RS_o hT htq399003
      have bp408957 : gB p408957 0 1000000 := ⟨by omega, by omega⟩
      have bp408958 : gB p408958 0 1000000 := ⟨by omega, by omega⟩
      have hf408975 : gm_0 1 q408955 = f := (show gm_0 1 q408955 = gm_0 1 q399003 from ht408960).trans hf1
      have hf408976 : gm_0 1 q408956 = f := (show gm_0 1 q408956 = gm_0 1 q399003 from ht408962).trans hf1
      have r408977 : gm_0 6 (gm_0 1 q399003) = gm_0 6 f := by rw [hf1]
      have r408978 : gm_0 16 (gm_0 1 q399003) = gm_0 16 f := by rw [hf1]
      have r408979 : p408958.toInt = gm_0 6 f ∧ p408958.toInt ≤ 40 := by omega
      clear r408969
      have fq408980 : fI (F399001 q399003) 3 = p408958 := by rw [he408954]; rfl
      refine Gw_callV (As := []) (gV_ok D I) (cp_12780_Code_size l hl0 D I P399000 F399001 q399003 q408955 q408956 p408957 p408958 hm408953 he408954) dr_cX17_merge_4 ⟨wr_10_160, wr_1_15, wr_9_131, by decide, rfl, (Nat.le_of_ble_eq_true rfl), (Nat.le_of_ble_eq_true rfl)⟩ wr_9_129 wr_9_130 hm408953 he408954 rfl (rm_zc pk399007) (rm_zs pk399007) (Nat.le_of_ble_eq_true rfl) (fun r408984 w408985 dc408981 ds408982 hp408983 => ?_) (fun _ _ _ _ _ z => z.elim)
      obtain ⟨rfl, rfl, hdc, hds⟩ := hp408983
      change G _ _ _ _ _ _ _ (.int p408958 :: _) _ _ _
      refine G_widen (cs' := ((rPh gm_0 el_0 f - rPh γ0 el0 f) / 18)) (sl' := (rPh gm_0 el_0 f - rPh γ0 el0 f)) (rm_d0 hdc) (rm_d0 hds) ?_
      refine G_icmp_ge 178 dr_cX17_merge_7 (by decide +kernel) (fun hc408986 => ?_) (fun hc408986 => ?_)
      · have r408987 : p408958.toInt ≤ g408951.toInt := gC_le hc408986
        have hx408988 : tl_RModel_merge_2 D I γ0 el0 f F399001 q399003 el_0 gm_0 q399002 p399004 (0 : Int32) 178 (0 : Nat) (0 : Int32) (0 : Nat) := kt2_408952 178 (0 : Nat) (0 : Int32) (0 : Nat) (fun R c1 c2 c3 => c1 g408951 p408958 bg408951 fq408980 r408987)
        have ac408989 : (fI (F399001 q399002) 11).toInt = p399021.toInt := by rw [he399016]; rfl
        have ac408990 : (fI (F399001 q399002) 14).toInt = p399024.toInt := by rw [he399016]; rfl
        refine G_iconst 0 dr_cX17_merge_178 (by decide +kernel) ?_
        exact G_zretA FieldType.boolean dr_cX17_merge_179 rfl rfl (show ((rPh gm_0 el_0 f - rPh γ0 el0 f) / 18) ≤ (((387 * B + 6000) - rPh γ0 el0 f) / 18) by omega) (show (rPh gm_0 el_0 f - rPh γ0 el0 f) ≤ ((387 * B + 6000) - rPh γ0 el0 f) by omega) ⟨P399000, F399001, gm_0, el_0, 0, rfl, rfl, hst, ⟨by omega, by omega⟩, hB, (gB_w (gBl (show Int32.toInt 0 = 0 by decide)) (by decide) (by decide)), (by have qa0 : Int32.toInt 0 = 0 := (by decide); omega), (by have qa0 : Int32.toInt 0 = 0 := (by decide); omega), (by have qa0 : Int32.toInt 0 = 0 := (by decide); omega), (by have qa0 : Int32.toInt 0 = 0 := (by decide); omega), (Or.inl (by decide)), (fun N h => by rw [hγ0, hel0]; exact h), (by have qa0 : Int32.toInt 0 = 0 := (by decide); omega), (by have qa0 : Int32.toInt 0 = 0 := (by decide); omega), (fun _ => ⟨hγ0, hel0, rfl⟩), mKp_rf, (fun R c1 c2 c3 => c1 gm_0 el_0 hγ0 hel0 hx408988)⟩
      · have r408991 : g408951.toInt < p408958.toInt := gC_nle hc408986
        have bg408951' : gB g408951 0 999999 := ⟨by omega, by omega⟩
        have bp408958' : gB p408958 1 1000000 := ⟨by omega, by omega⟩
        refine G_aload_n 2 dr_cX17_merge_10 rfl ?_
        refine G_iload_n 0 dr_cX17_merge_11 rfl ?_
        have hm408992 : q408955 ∈ P399000 := RS_m hT ht408959 (by decide)
        obtain ⟨⟨p408994, p408995, q408996, he408993, r408997, r408998, r408999, r409001⟩, r409000⟩ := show rk_4 D I gm_0 el_0 F399001 q408955 from RS_o hT ht408959
        have bp408994 := gB_any p408994
        have bp408995 : gB p408995 0 1000000 := ⟨by omega, by omega⟩
        obtain ⟨r409002, r409003, n409010, f409011, r409004, r409005, r409006, r409007, r409008, r409009⟩ := rLC_n r408999 (by omega)
        have hm409012 : q408996 ∈ P399000 := RS_m hT r409002 (by decide)
        obtain ⟨q409013, hx409014⟩ : ∃ x, x = el_0 q408955 g408951.toInt.toNat := ⟨_, rfl⟩
        have fq409018 : fR (F399001 q399003) 0 = q408955 := by rw [he408954]; rfl
        have hx409015 : f409011 g408951.toNatClampNeg = some q409013 := (r409008 _ (show g408951.toInt.toNat < gm_0 2 q408955 by first | assumption | omega)).trans (by rw [hx409014])
        have ht409019 : rKd gm_0 q409013 2 := by rw [hx409014]; exact (r408970 _ (by omega)).resolve_right (fun z => absurd z.1 (by omega))
        have ht409020 : rFm gm_0 q409013 q408955 := by rw [hx409014]; exact (r409000 _ (show g408951.toInt.toNat < gm_0 2 q408955 by omega)).2.1
        have hm409021 : q409013 ∈ P399000 := RS_m hT ht409019 (by decide)
        obtain ⟨q409023, q409024, p409025, p409026, he409022, ht409033, ht409027, ht409028, ht409029, ht409030, ht409031, bp409025, bp409026, r409032, r409034, r409035⟩ := show rk_2 gm_0 q409013 (F399001 q409013) from RS_o hT ht409019
        have fq409036 : fI (F399001 q408955) 2 = p408995 := by rw [he408993]; rfl
        refine Gw_callV (As := [.int g408951]) (gV_ok D I) (cp_7901_Code_get l hl0 D I P399000 F399001 q399003 q408955 q408996 g408951 q408956 p408957 p408958 p408994 p408995 f409011 n409010 q409013 q409023 q409024 p409025 p409026 hm408953 hm408992 hm409012 hm409021 he408954 he408993 r409004 he409022 (gB_w bg408951' (by decide) (by decide)) (gB_w bp408995 (by decide) (by decide)) (by omega) (by omega) (by assumption) (by omega)) dr_cX17_merge_12 ⟨wr_10_161, wr_1_15, wr_10_141, by decide, rfl, (Nat.le_of_ble_eq_true rfl), (Nat.le_of_ble_eq_true rfl)⟩ wr_10_139 wr_10_140 hm408953 he408954 rfl (rm_zc pk399007) (rm_zs pk399007) (Nat.le_of_ble_eq_true rfl) (fun r409040 w409041 dc409037 ds409038 hp409039 => ?_) (fun _ _ _ _ _ z => z.elim)
        obtain ⟨rfl, rfl, hdc, hds, ht409042⟩ := hp409039
        change G _ _ _ _ _ _ _ (.ref q409013 :: _) _ _ _
        refine G_widen (cs' := ((rPh gm_0 el_0 f - rPh γ0 el0 f) / 18)) (sl' := (rPh gm_0 el_0 f - rPh γ0 el0 f)) (rm_d0 hdc) (rm_d0 hds) ?_
        have hf409043 : gm_0 1 q409013 = f := (show gm_0 1 q409013 = gm_0 1 q408955 from ht409020).trans ((show gm_0 1 q408955 = gm_0 1 q399003 from ht408960).trans hf1)
        have hf409044 : gm_0 1 q409023 = f := (show gm_0 1 q409023 = gm_0 1 q409013 from ht409028).trans hf409043
        have hf409045 : gm_0 1 q409024 = f := (show gm_0 1 q409024 = gm_0 1 q409013 from ht409030).trans hf409043
        have r409046 : gm_0 6 (gm_0 1 q409013) = gm_0 6 f := by rw [hf409043]
        have r409047 : gm_0 7 (gm_0 1 q409013) = gm_0 7 f := by rw [hf409043]
        have r409048 : gm_0 19 (gm_0 1 q409013) = gm_0 19 f := by rw [hf409043]
        have r409049 := r409032.resolve_left (by omega)
        clear r409032
        have r409050 : gm_0 2 (gm_0 14 q409013) = gm_0 2 q409023 := by rw [ht409033.1]
        have r409051 : g408951.toInt.toNat < gm_0 2 (gm_0 14 q399003) := by rw [ht408974.1]; omega
        have r409052 : el_0 (gm_0 14 q399003) g408951.toInt.toNat = q409013 := by rw [ht408974.1, hx409014]
        refine G_astore (L' := [(4, .ref q409013), (3, .int g408951), (0, .ref q399002), (1, .ref q399003), (2, .int p399004)]) dr_cX17_merge_15 (Nat.le_of_ble_eq_true rfl) rfl ?_
        refine G_iconst 0 dr_cX17_merge_17 (by decide +kernel) ?_
        refine G_istore (L' := [(5, .int 0), (4, .ref q409013), (3, .int g408951), (0, .ref q399002), (1, .ref q399003), (2, .int p399004)]) dr_cX17_merge_18 (Nat.le_of_ble_eq_true rfl) rfl ?_
        have hlp20_409400 : ∀ (n20_409400 : Nat) (g409400 : Int32), gB g409400 0 1000000 → (∀ (k : Nat) (e1 : Nat) (e2 : Int32), tl_RModel_merge_20 D I γ0 el0 f F399001 q409013 gm_0 el_0 q399002 p399004 g409400 k e1 e2 → tl_RModel_merge_20 D I γ0 el0 f F399001 q409013 gm_0 el_0 q399002 p399004 (0 : Int32) k e1 e2) → ((1000001 : Int) - g409400.toInt).toNat < n20_409400 → G (gV D I) l (gRm 5 111 (((387 * B + 6000) - rPh γ0 el0 f) / 18) ((387 * B + 6000) - rPh γ0 el0 f)) (gMA (gV D I) (pg_399006_SpillForgeModel_merge D I γ0 el0 f B P399000 F399001 q399002 q399003 p399004) gNA (((387 * B + 6000) - rPh γ0 el0 f) / 18) ((387 * B + 6000) - rPh γ0 el0 f)) ky_399006_SpillForgeModel_merge 20 [(5, .int g409400), (4, .ref q409013), (3, .int g408951), (0, .ref q399002), (1, .ref q399003), (2, .int p399004)] [] (va_pl P399000 F399001) ((rPh gm_0 el_0 f - rPh γ0 el0 f) / 18) (rPh gm_0 el_0 f - rPh γ0 el0 f) := by
          intro n20_409400
          induction n20_409400 with
          | zero => intro g409400 bg409400 kt20_409401 hm20_409400; exact absurd hm20_409400 (Nat.not_lt_zero _)
          | succ n20_409400 ih20_409400 =>
            intro g409400 bg409400 kt20_409401 hm20_409400
            refine G_iload 0 dr_cX17_merge_20 rfl ?_
            refine G_aload 1 dr_cX17_merge_22 rfl ?_
            have fq409402 : fR (F399001 q409013) 0 = q409023 := by rw [he409022]; rfl
            refine Gp_get 0 hm409021 he409022 dr_cX17_merge_24 (gk_X12 D I) (Nat.le_of_ble_eq_true rfl) wr_9_220 rfl ?_
            have hm409403 : q409023 ∈ P399000 := RS_m hT ht409027 (by decide)
            obtain ⟨⟨p409405, p409406, q409407, he409404, r409408, r409409, r409410, r409412⟩, r409411⟩ := show rk_3 D I gm_0 el_0 F399001 q409023 from RS_o hT ht409027
            have bp409405 := gB_any p409405
            have bp409406 : gB p409406 0 1000000 := ⟨by omega, by omega⟩
            have fq409413 : p409406.toInt = (gm_0 2 q409023 : Int) := by omega
            have fq409414 : fI (F399001 q409023) 2 = p409406 := by rw [he409404]; rfl
            refine Gw_callV (As := []) (gV_ok D I) (cp_7_ArrayList_size l hl0 D I P399000 F399001 q409023 p409405 q409407 p409406 hm409403 he409404 (gB_w bp409406 (by decide) (by decide))) dr_cX17_merge_27 ⟨wr_10_200, wr_1_18, wr_9_160, by decide, rfl, (Nat.le_of_ble_eq_true rfl), (Nat.le_of_ble_eq_true rfl)⟩ wr_9_158 wr_9_159 hm409403 he409404 rfl (rm_zc pk399007) (rm_zs pk399007) (Nat.le_of_ble_eq_true rfl) (fun r409418 w409419 dc409415 ds409416 hp409417 => ?_) (fun _ _ _ _ _ z => z.elim)
            obtain ⟨rfl, rfl, hdc, hds⟩ := hp409417
            change G _ _ _ _ _ _ _ (.int p409406 :: _) _ _ _
            refine G_widen (cs' := ((rPh gm_0 el_0 f - rPh γ0 el0 f) / 18)) (sl' := (rPh gm_0 el_0 f - rPh γ0 el0 f)) (rm_d0 hdc) (rm_d0 hds) ?_
            refine G_icmp_ge 172 dr_cX17_merge_30 (by decide +kernel) (fun hc409420 => ?_) (fun hc409420 => ?_)
            · have r409421 : p409406.toInt ≤ g409400.toInt := gC_le hc409420
              have hx409422 : tl_RModel_merge_20 D I γ0 el0 f F399001 q409013 gm_0 el_0 q399002 p399004 (0 : Int32) 172 (0 : Nat) (0 : Int32) := kt20_409401 172 (0 : Nat) (0 : Int32) (fun R c1 c2 c3 c4 c5 c6 => c1 g409400 q409023 p409406 bg409400 fq409402 fq409413 fq409414 r409421)
              obtain ⟨z409423, hz409423⟩ : ∃ z : Int32, z = g408951 + Int32.ofInt 1 := ⟨_, rfl⟩
              have ez409423 : z409423.toInt = g408951.toInt + 1 := gI_inc hz409423 (by decide) bg408951' (by decide) (by decide)
              have bz409423 : gB z409423 1 1000000 := ⟨by omega, by omega⟩
              refine G_iinc (L' := [(3, .int z409423), (5, .int g409400), (4, .ref q409013), (0, .ref q399002), (1, .ref q399003), (2, .int p399004)]) z409423 2 dr_cX17_merge_172 rfl hz409423.symm (Nat.le_of_ble_eq_true rfl) rfl ?_
              refine G_goto 2 dr_cX17_merge_175 (by decide +kernel) ?_
              refine G_lv (L' := [(3, .int z409423), (0, .ref q399002), (1, .ref q399003), (2, .int p399004)]) [0, 3, 4, 5] rfl ?_
              exact ih2_408951 z409423 (gB_w bz409423 (by decide) (by decide)) (fun k e1 e2 e3 ht => kt2_408952 k e1 e2 e3 (fun R c1 c2 c3 => c2 g408951 p408958 q408955 q409013 p408995 z409423 k e1 e2 e3 bg408951 fq408980 r408991 fq409018 hx409014 fq409036 ht409042 hx409422 ez409423 (ht R c1 c2 c3))) (by omega)
            · have r409424 : g409400.toInt < p409406.toInt := gC_nle hc409420
              have bg409400' : gB g409400 0 999999 := ⟨by omega, by omega⟩
              have bp409406' : gB p409406 1 1000000 := ⟨by omega, by omega⟩
              refine G_aload 1 dr_cX17_merge_33 rfl ?_
              refine Gp_get 0 hm409021 he409022 dr_cX17_merge_35 (gk_X12 D I) (Nat.le_of_ble_eq_true rfl) wr_9_220 rfl ?_
              refine G_iload 0 dr_cX17_merge_38 rfl ?_
              obtain ⟨r409425, r409426, n409433, f409434, r409427, r409428, r409429, r409430, r409431, r409432⟩ := rLC_n r409410 (by omega)
              have hm409435 : q409407 ∈ P399000 := RS_m hT r409425 (by decide)
              obtain ⟨q409436, hx409437⟩ : ∃ x, x = el_0 q409023 g409400.toInt.toNat := ⟨_, rfl⟩
              have hx409438 : f409434 g409400.toNatClampNeg = some q409436 := (r409431 _ (show g409400.toInt.toNat < gm_0 2 q409023 by first | assumption | omega)).trans (by rw [hx409437])
              have ht409439 : rKd gm_0 q409436 1 := by rw [hx409437]; exact (r409411 _ (show g409400.toInt.toNat < gm_0 2 q409023 by first | assumption | omega)).1
              have ht409440 : rFm gm_0 q409436 q409023 := by rw [hx409437]; exact (r409411 _ (show g409400.toInt.toNat < gm_0 2 q409023 by first | assumption | omega)).2.1
              have hf409441 : gm_0 1 q409436 = f := (show gm_0 1 q409436 = gm_0 1 q409023 from ht409440).trans hf409044
              refine Gw_callV (As := [.int g409400]) (gV_ok D I) (cp_22_ArrayList_get l hl0 D I P399000 F399001 q409023 q409407 g409400 p409405 p409406 f409434 n409433 q409436 hm409403 hm409435 he409404 r409427 (gB_w bg409400' (by decide) (by decide)) (gB_w bp409406' (by decide) (by decide)) (by omega) (by omega) (by assumption) (by omega)) dr_cX17_merge_40 ⟨wr_10_201, wr_1_18, wr_10_65, by decide, rfl, (Nat.le_of_ble_eq_true rfl), (Nat.le_of_ble_eq_true rfl)⟩ wr_10_63 wr_10_64 hm409403 he409404 rfl (rm_zc pk399007) (rm_zs pk399007) (Nat.le_of_ble_eq_true rfl) (fun r409445 w409446 dc409442 ds409443 hp409444 => ?_) (fun _ _ _ _ _ z => z.elim)
              obtain ⟨rfl, rfl, hdc, hds, ht409447⟩ := hp409444
              change G _ _ _ _ _ _ _ (.ref q409436 :: _) _ _ _
              refine G_widen (cs' := ((rPh gm_0 el_0 f - rPh γ0 el0 f) / 18)) (sl' := (rPh gm_0 el_0 f - rPh γ0 el0 f)) (rm_d0 hdc) (rm_d0 hds) ?_
              have hm409448 : q409436 ∈ P399000 := RS_m hT ht409439 (by decide)
              obtain ⟨p409450, p409451, p409452, p409453, p409454, p409455, p409456, he409449, bp409450, bp409451, bp409454, bp409455, bp409456, r409457, r409458, r409459, r409460, r409461⟩ := show rk_1 gm_0 q409436 (F399001 q409436) from RS_o hT ht409439
              have bp409452 := gB_any p409452
              have bp409453 := gB_any p409453
              have r409462 : gm_0 7 (gm_0 1 q409436) = gm_0 7 f := by rw [hf409441]
              refine Gp_cast hm409448 he409449 rfl dr_cX17_merge_43 wr_10_202 (gr_cast 1 rfl) ?_
              refine G_astore (L' := [(6, .ref q409436), (5, .int g409400), (4, .ref q409013), (3, .int g408951), (0, .ref q399002), (1, .ref q399003), (2, .int p399004)]) dr_cX17_merge_46 (Nat.le_of_ble_eq_true rfl) rfl ?_
              refine G_aload 0 dr_cX17_merge_48 rfl ?_
              have fq409463 : fI (F399001 q409436) 0 = p409450 := by rw [he409449]; rfl
              refine Gp_get 0 hm409448 he409449 dr_cX17_merge_50 (gk_X15 D I) (Nat.le_of_ble_eq_true rfl) wr_9_177 rfl ?_
              refine G_if_ne 166 dr_cX17_merge_53 (by decide +kernel) (fun hc409464 => ?_) (fun hc409464 => ?_)
              · have r409465 : p409450.toInt ≠ 0 := gj_neq hc409464 (show Int32.toInt 0 = 0 by decide)
                have bp409450' : gB p409450 1 32 := ⟨by omega, by omega⟩
                obtain ⟨z409466, hz409466⟩ : ∃ z : Int32, z = g409400 + Int32.ofInt 1 := ⟨_, rfl⟩
                have ez409466 : z409466.toInt = g409400.toInt + 1 := gI_inc hz409466 (by decide) bg409400' (by decide) (by decide)
                have bz409466 : gB z409466 1 1000000 := ⟨by omega, by omega⟩
                refine G_iinc (L' := [(5, .int z409466), (6, .ref q409436), (4, .ref q409013), (3, .int g408951), (0, .ref q399002), (1, .ref q399003), (2, .int p399004)]) z409466 1 dr_cX17_merge_166 rfl hz409466.symm (Nat.le_of_ble_eq_true rfl) rfl ?_
                refine G_goto 20 dr_cX17_merge_169 (by decide +kernel) ?_
                refine G_lv (L' := [(5, .int z409466), (4, .ref q409013), (3, .int g408951), (0, .ref q399002), (1, .ref q399003), (2, .int p399004)]) [0, 2, 3, 4, 5, 6] rfl ?_
                exact ih20_409400 z409466 (gB_w bz409466 (by decide) (by decide)) (fun k e1 e2 ht => kt20_409401 k e1 e2 (fun R c1 c2 c3 c4 c5 c6 => c2 g409400 q409023 p409406 q409436 p409450 z409466 k e1 e2 bg409400 fq409402 fq409413 fq409414 r409424 hx409437 ht409447 fq409463 r409465 ez409466 (ht R c1 c2 c3 c4 c5 c6))) (by omega)
              · have r409467 : p409450.toInt = 0 := gj_eq hc409464 (show Int32.toInt 0 = 0 by decide)
                have bp409450' : gB p409450 0 0 := ⟨by omega, by omega⟩
                refine G_aload 0 dr_cX17_merge_56 rfl ?_
                have fq409468 : fI (F399001 q409436) 5 = p409455 := by rw [he409449]; rfl
                refine Gp_get 5 hm409448 he409449 dr_cX17_merge_58 (gk_X15 D I) (Nat.le_of_ble_eq_true rfl) wr_9_197 rfl ?_
                refine G_if_eq 166 dr_cX17_merge_61 (by decide +kernel) (fun hc409469 => ?_) (fun hc409469 => ?_)
                · have r409470 : p409455.toInt = 0 := gj_eq hc409469 (show Int32.toInt 0 = 0 by decide)
                  have bp409455' : gB p409455 0 0 := ⟨by omega, by omega⟩
                  obtain ⟨z409471, hz409471⟩ : ∃ z : Int32, z = g409400 + Int32.ofInt 1 := ⟨_, rfl⟩
                  have ez409471 : z409471.toInt = g409400.toInt + 1 := gI_inc hz409471 (by decide) bg409400' (by decide) (by decide)
                  have bz409471 : gB z409471 1 1000000 := ⟨by omega, by omega⟩
                  refine G_iinc (L' := [(5, .int z409471), (6, .ref q409436), (4, .ref q409013), (3, .int g408951), (0, .ref q399002), (1, .ref q399003), (2, .int p399004)]) z409471 1 dr_cX17_merge_166 rfl hz409471.symm (Nat.le_of_ble_eq_true rfl) rfl ?_
                  refine G_goto 20 dr_cX17_merge_169 (by decide +kernel) ?_
                  refine G_lv (L' := [(5, .int z409471), (4, .ref q409013), (3, .int g408951), (0, .ref q399002), (1, .ref q399003), (2, .int p399004)]) [0, 2, 3, 4, 5, 6] rfl ?_
                  exact ih20_409400 z409471 (gB_w bz409471 (by decide) (by decide)) (fun k e1 e2 ht => kt20_409401 k e1 e2 (fun R c1 c2 c3 c4 c5 c6 => c3 g409400 q409023 p409406 q409436 p409450 p409455 z409471 k e1 e2 bg409400 fq409402 fq409413 fq409414 r409424 hx409437 ht409447 fq409463 r409467 fq409468 r409470 ez409471 (ht R c1 c2 c3 c4 c5 c6))) (by omega)
                · have r409472 : p409455.toInt ≠ 0 := gj_neq hc409469 (show Int32.toInt 0 = 0 by decide)
                  have bp409455' : gB p409455 1 1 := ⟨by omega, by omega⟩
                  refine G_aload 0 dr_cX17_merge_64 rfl ?_
                  have fq409473 : fI (F399001 q409436) 1 = p409451 := by rw [he409449]; rfl
                  refine Gp_get 1 hm409448 he409449 dr_cX17_merge_66 (gk_X15 D I) (Nat.le_of_ble_eq_true rfl) wr_9_182 rfl ?_
                  refine G_aload 0 dr_cX17_merge_69 rfl ?_
                  have fq409474 : fI (F399001 q409436) 2 = p409452 := by rw [he409449]; rfl
                  refine Gp_get 2 hm409448 he409449 dr_cX17_merge_71 (gk_X15 D I) (Nat.le_of_ble_eq_true rfl) wr_9_186 rfl ?_
                  refine G_icmp_eq 98 dr_cX17_merge_74 (by decide +kernel) (fun hc409475 => ?_) (fun hc409475 => ?_)
                  · have r409476 : p409451.toInt = p409452.toInt := gC_eq hc409475
                    have bp409452' : gB p409452 0 1999 := ⟨by omega, by omega⟩
                    have hx409477 : tl_RModel_merge_20 D I γ0 el0 f F399001 q409013 gm_0 el_0 q399002 p399004 (0 : Int32) 98 q409436 g409400 := kt20_409401 98 q409436 g409400 (fun R c1 c2 c3 c4 c5 c6 => c4 g409400 q409023 p409406 q409436 p409450 p409455 p409451 p409452 bg409400 fq409402 fq409413 fq409414 r409424 hx409437 ht409447 fq409463 r409467 fq409468 r409472 fq409473 fq409474 r409476)
                    have hx409478 : tl_RModel_merge_2 D I γ0 el0 f F399001 q399003 el_0 gm_0 q399002 p399004 (0 : Int32) 98 q409436 g409400 q409013 := kt2_408952 98 q409436 g409400 q409013 (fun R c1 c2 c3 => c3 g408951 p408958 q408955 q409013 p408995 q409436 g409400 bg408951 fq408980 r408991 fq409018 hx409014 fq409036 ht409042 hx409477)
                    refine G_aload 0 dr_cX17_merge_98 rfl ?_
                    have fq409479 : fI (F399001 q409436) 1 = p409451 := by rw [he409449]; rfl
                    refine Gp_get 1 hm409448 he409449 dr_cX17_merge_100 (gk_X15 D I) (Nat.le_of_ble_eq_true rfl) wr_9_182 rfl ?_
                    refine G_aload 0 dr_cX17_merge_103 rfl ?_
                    have fq409480 : fI (F399001 q409436) 2 = p409452 := by rw [he409449]; rfl
                    refine Gp_get 2 hm409448 he409449 dr_cX17_merge_105 (gk_X15 D I) (Nat.le_of_ble_eq_true rfl) wr_9_186 rfl ?_
                    refine G_mmin dr_cX17_merge_108 wr_11_20 wr_3_227 wr_1_6 wr_3_228 (Nat.le_of_ble_eq_true rfl) (Nat.le_of_ble_eq_true rfl) (show ((rPh gm_0 el_0 f - rPh γ0 el0 f) / 18) ≤ (((387 * B + 6000) - rPh γ0 el0 f) / 18) by first | omega | decide) (show (rPh gm_0 el_0 f - rPh γ0 el0 f) ≤ ((387 * B + 6000) - rPh γ0 el0 f) by first | omega | decide) (G_nam fun z409481 hz409481 => ?_)
                    have ez409481 : p409451.toInt ≥ z409481.toInt ∧ p409452.toInt ≥ z409481.toInt ∧ (z409481.toInt = p409451.toInt ∨ z409481.toInt = p409452.toInt) := by have := gI_min hz409481; omega
                    have bz409481 : gB z409481 0 1999 := ⟨by omega, by omega⟩
                    refine G_istore (L' := [(7, .int z409481), (6, .ref q409436), (5, .int g409400), (4, .ref q409013), (3, .int g408951), (0, .ref q399002), (1, .ref q399003), (2, .int p399004)]) dr_cX17_merge_111 (Nat.le_of_ble_eq_true rfl) rfl ?_
                    refine G_aload 1 dr_cX17_merge_113 rfl ?_
                    refine Gp_get 1 hm409448 he409449 dr_cX17_merge_115 (gk_X15 D I) (Nat.le_of_ble_eq_true rfl) wr_9_182 rfl ?_
                    refine G_aload 1 dr_cX17_merge_118 rfl ?_
                    refine Gp_get 2 hm409448 he409449 dr_cX17_merge_120 (gk_X15 D I) (Nat.le_of_ble_eq_true rfl) wr_9_186 rfl ?_
                    refine G_mmax dr_cX17_merge_123 wr_11_21 wr_1_140 wr_1_6 wr_1_141 (Nat.le_of_ble_eq_true rfl) (Nat.le_of_ble_eq_true rfl) (show ((rPh gm_0 el_0 f - rPh γ0 el0 f) / 18) ≤ (((387 * B + 6000) - rPh γ0 el0 f) / 18) by first | omega | decide) (show (rPh gm_0 el_0 f - rPh γ0 el0 f) ≤ ((387 * B + 6000) - rPh γ0 el0 f) by first | omega | decide) (G_nam fun z409482 hz409482 => ?_)
                    have ez409482 : p409451.toInt ≤ z409482.toInt ∧ p409452.toInt ≤ z409482.toInt ∧ (z409482.toInt = p409451.toInt ∨ z409482.toInt = p409452.toInt) := by have := gI_max hz409482; omega
                    have bz409482 : gB z409482 0 1999 := ⟨by omega, by omega⟩
                    refine G_istore (L' := [(8, .int z409482), (7, .int z409481), (6, .ref q409436), (5, .int g409400), (4, .ref q409013), (3, .int g408951), (0, .ref q399002), (1, .ref q399003), (2, .int p399004)]) dr_cX17_merge_126 (Nat.le_of_ble_eq_true rfl) rfl ?_
                    refine G_aload 4 dr_cX17_merge_128 rfl ?_
                    have fq409483 : fR (F399001 q409013) 0 = q409023 := by rw [he409022]; rfl
                    refine Gp_get 0 hm409021 he409022 dr_cX17_merge_130 (gk_X12 D I) (Nat.le_of_ble_eq_true rfl) wr_9_220 rfl ?_
                    refine G_iload 3 dr_cX17_merge_133 rfl ?_
                    have rg409484 := rM_ge hT htq399003 hf1
                    have rm409485 := rM_bd hB
                    have bd409486 := rBd_c hT htq399003 hf1 hB
                    have rc409487 := rc_at hT htq399003 hf1
                    have r409489 : gm_0 14 (el_0 (gm_0 14 q399003) g408951.toInt.toNat) = q409023 := by rw [r409052]; exact ht409033.1
                    have r409490 := rg409484.2.2 _ r409051
                    rw [r409489] at r409490
                    have r409491 := bd409486.2.2.2 _ r409051
                    rw [r409489] at r409491
                    obtain ⟨q409493, hq409493⟩ : ∃ x, x = el_0 q409023 g409400.toInt.toNat := ⟨_, rfl⟩
                    refine Gt_rem (c := q399003) (f := f) hl0 dr_cX17_merge_135 ⟨wr_11_22, wr_1_18, wr_11_25, by decide, rfl, (Nat.le_of_ble_eq_true rfl), (Nat.le_of_ble_eq_true rfl)⟩ wr_11_23 wr_11_24 hT ht409027 hf409044 htq399003 hf1 (by omega) (by omega) (rm_zc pk399007) (rm_zs pk399007) (Nat.le_of_ble_eq_true rfl) (fun F409488 gm_F409488 el_F409488 hq409492 => ?_)
                    rw [← hq409493]
                    have hq409494 := hq409492
                    have vv409506 := RS_valid hT0 hzq399003 hf0 x399005
                    rw [← hγ0] at vv409506
                    have sm409505 := rDq_sum (m := γ0 6 f) hT htq399003 hf1 (show g408951.toInt.toNat < γ0 6 f by omega) (by omega) r409489 (show g409400.toInt.toNat < _ by omega) hq409492
                    rw [hγ0, hel0] at sm409505
                    have dn409507 := fun (N : Nat → Prop) hN => rPl_dx (N := N) hT htq399003 hf1 hq409492 r409489 (show g408951.toInt.toNat < _ by omega) (show g409400.toInt.toNat < _ by omega) hN
                    rw [hγ0, hel0] at dn409507
                    have nm409508 := fun (N : Nat → Prop) hN => rPl_nm (N := N) (f := f) (j := g409400.toInt.toNat) hN (show g408951.toInt.toNat < _ by omega) r409489 (show g409400.toInt.toNat < _ by omega) hx409437.symm he409449 (by omega) (by omega)
                    rw [hγ0, hel0] at nm409508
                    obtain ⟨hk409495, h2409496, hel409497, hot409498, h16409499, h18409500, hnu409501, hr409502, hM409503, hBB409504⟩ := hq409492
                    have hk409509 := rSk_of hk409495
                    have r409510 : (fI (F409488 q399003) 3).toInt = (fI (F399001 q399003) 3).toInt := by rw [rSk_F hk409509 htq399003 (by decide) (by decide)]
                    have hT409511 := hk409509.1
                    have hs409512 := rSk_tr hst hk409509 (by decide) (by decide) (by decide)
                    have kp409513 : F409488 q399002 = F399001 q399002 := rSk_F hk409509 htq399002 (by decide) (by decide)
                    have r409514 := rSk_F hk409509 htq399002 (by decide) (by decide)
                    have ht409515 : rKd gm_F409488 q399002 10 := rSk_k hk409509 htq399002 (by decide) (by decide)
                    have ht409516 : rKd gm_F409488 q399003 9 := rSk_k hk409509 htq399003 (by decide) (by decide)
                    have hf409517 : gm_F409488 1 q399003 = f := rSk_1 hk409509 htq399003 (by decide) hf1
                    have ht409518 : rKd gm_F409488 q409013 2 := rSk_k hk409509 ht409019 (by decide) (by decide)
                    have hf409519 : gm_F409488 1 q409013 = f := rSk_1 hk409509 ht409019 (by decide) hf409043
                    have ht409520 : rKd gm_F409488 q409023 3 := rSk_k hk409509 ht409027 (by decide) (by decide)
                    have hf409521 : gm_F409488 1 q409023 = f := rSk_1 hk409509 ht409027 (by decide) hf409044
                    have ht409522 : rKd gm_F409488 q409436 1 := rSk_k hk409509 ht409439 (by decide) (by decide)
                    have hf409523 : gm_F409488 1 q409436 = f := rSk_1 hk409509 ht409439 (by decide) hf409441
                    have mk409524 : mKp (F399001 q399002) (F409488 q399002) := mKp_tr mKp_rf (mKp_eq (rSk_F hk409509 htq399002 (by decide) (by decide)))
                    have r409525 := (rSk_s hk409509 htq399003 (by decide)).2.1
                    have r409526 := hot409498 _ (by rw [rc409487.2.1]; decide) (fun q => by rw [q, show _ = 3 from ht409027] at rc409487; exact absurd rc409487.2.1 (by decide))
                    have r409527 : g408951.toInt.toNat < gm_F409488 2 (gm_F409488 14 q399003) := by rw [r409525, r409526.1]; exact r409051
                    have r409528 : el_F409488 (gm_F409488 14 q399003) g408951.toInt.toNat = q409013 := by rw [r409525, r409526.2]; exact r409052
                    have he409529 : F409488 q409436 = .inr (20, [.int p409450, .int p409451, .int p409452, .int p409453, .int p409454, .int p409455, .int p409456]) := (rSk_F hk409509 ht409439 (by decide) (by decide)).trans he409449
                    have hm409530 : q409436 ∈ P399000 := RS_m hT409511 ht409522 (by decide)
                    clear r408963 r408964 r408965 r408966 r408967 r408968 r408970 r408971 r408972 r408973 bp408957 bp408958 bp409025 bp409026 r409034 r409035 rg409484 rm409485 bd409486 rc409487 r409490 r409491
                    have hm409531 : q399002 ∈ P399000 := RS_m hT409511 ht409515 (by decide)
                    obtain ⟨q409533, q409534, p409535, p409536, p409537, p409538, p409539, p409540, p409541, p409542, p409543, p409544, p409545, p409546, p409547, p409548, p409549, he409532, hB409576, ht409550, ht409551, ht409552, ht409553, ht409554, ht409555, ht409556, ht409557, ht409558, ht409559, ht409560, ht409561, ht409562, ht409563, ht409564, ht409565, ht409566, ht409567, ht409568, ht409569, ht409570, ht409571, ht409572, ht409573, hB409577⟩ := show rk_10 gm_F409488 (F409488 q399002) from RS_o hT409511 ht409515
                    have r409578 : p409537.toInt = p399021.toInt := by have z : p409537 = p399021 := congrArg (fun e => fI e 11) (he409532.symm.trans (r409514.trans he399016)); rw [z]
                    have bp409537 : gB p409537 0 100 := (hB409576.2.2.1)
                    have r409579 : p409540.toInt = p399024.toInt := by have z : p409540 = p399024 := congrArg (fun e => fI e 14) (he409532.symm.trans (r409514.trans he399016)); rw [z]
                    have bp409540 : gB p409540 0 2000 := (hB409576.2.2.2.1)
                    obtain ⟨nu409580, nu409581, nu409582, nu409583⟩ := hnu409501
                    have hB409584 : rBd gm_F409488 el_F409488 f B := hBB409504 B hB
                    have hph409585 : rPh γ0 el0 f ≤ rPh gm_F409488 el_F409488 f := by rw [hr409502]; exact hph
                    have pk409586 : rPh gm_F409488 el_F409488 f ≤ 387 * B + 6000 := rm_pk (rM_ge hT409511 ht409516 hf409517).1 (rM_bd hB409584)
                    refine G_widen (cs' := ((rPh gm_F409488 el_F409488 f - rPh γ0 el0 f) / 18)) (sl' := (rPh gm_F409488 el_F409488 f - rPh γ0 el0 f)) (rm_ec hr409502) (rm_es hr409502) ?_
                    refine G_pop dr_cX17_merge_138 rfl ?_
                    refine G_aload_n 6 dr_cX17_merge_139 rfl ?_
                    refine G_dup dr_cX17_merge_140 rfl ?_
                    have fq409587 : fI (F409488 q399002) 13 = p409539 := by rw [he409532]; rfl
                    refine Gp_get 13 hm409531 he409532 dr_cX17_merge_141 (gk_X17 D I) (Nat.le_of_ble_eq_true rfl) wr_7_87 rfl ?_
                    have bp409539 : gB p409539 (-2147483648) 2147483647 := (gB_any p409539)
                    refine G_iconst 1 dr_cX17_merge_144 (by decide +kernel) ?_
                    refine G_iadd dr_cX17_merge_145 (G_nam fun z409588 hz409588 => ?_)
                    have bz409588 : gB z409588 (-2147483648) 2147483647 := gB_any z409588
                    refine Gp_put 13 hm409531 he409532 dr_cX17_merge_146 (gk_X17 D I) (Nat.le_of_ble_eq_true rfl) wr_7_87 rfl rfl rfl (Nat.le_of_ble_eq_true rfl) (fun F409589 e409590 n409591 => ?_)
                    have he409592 : F409589 q409436 = .inr (20, [.int p409450, .int p409451, .int p409452, .int p409453, .int p409454, .int p409455, .int p409456]) := (n409591 q409436 (rn_oo he409529 he409532 (by decide))).trans he409529
                    have he409593 : F409589 q399002 = .inr (22, [.ref (gm_F409488 9 0), .ref (gm_F409488 9 1), .ref (gm_F409488 9 2), .ref (gm_F409488 9 3), .ref (gm_F409488 9 4), .ref (gm_F409488 9 5), .ref (gm_F409488 9 6), .ref (gm_F409488 9 7), .ref (gm_F409488 9 8), .int p409535, .int p409536, .int p409537, .int p409538, .int z409588, .int p409540, .ref (gm_F409488 9 15), .ref (gm_F409488 9 16), .ref (gm_F409488 9 17), .ref (gm_F409488 9 18), .ref (gm_F409488 9 19), .ref (gm_F409488 9 20), .ref (gm_F409488 9 21), .ref (gm_F409488 9 22), .int p409541, .int p409542, .int p409543, .int p409544, .int p409545, .ref q409533, .ref (gm_F409488 9 29), .int p409546, .ref (gm_F409488 9 31), .int p409547, .int p409548, .int p409549, .ref q409534]) := e409590
                    have mk409594 : mKp (F399001 q399002) (F409589 q399002) := mKp_tr mk409524 (by rw [he409532, he409593]; exact ⟨rfl, rfl⟩)
                    have fq409595 : F409589 q399002 = cF (F409488 q399002) 13 (.int z409588) := by rw [he409593, he409532]; rfl
                    have hT409596 : RS D I P399000 F409589 gm_F409488 el_F409488 := RS_set hT409511 n409591 ht409515 (by decide) ⟨q409533, q409534, p409535, p409536, p409537, p409538, z409588, p409540, p409541, p409542, p409543, p409544, p409545, p409546, p409547, p409548, p409549, he409593, ⟨(hB409576.1), (hB409576.2.1), bp409537, bp409540, (hB409576.2.2.2.2.1), (hB409576.2.2.2.2.2.1), (hB409576.2.2.2.2.2.2.1), (hB409576.2.2.2.2.2.2.2.1), (hB409576.2.2.2.2.2.2.2.2)⟩, ht409550, ht409551, ht409552, ht409553, ht409554, ht409555, ht409556, ht409557, ht409558, ht409559, ht409560, ht409561, ht409562, ht409563, ht409564, ht409565, ht409566, ht409567, ht409568, ht409569, ht409570, ht409571, ht409572, ht409573, hB409577⟩
                    have hs409597 := rSk_put hs409512 hT409596 n409591 ht409515 (by decide) (by decide) (Or.inr (Or.inr (by decide)))
                    have dn409598 : ∀ N : Nat → Prop, rPl γ0 el0 F399001 q399003 (γ0 6 f) (fun _ _ => rNx N) → rPl gm_F409488 el_F409488 F409589 q399003 (gm_F409488 6 f) (fun _ _ => rNx N) := fun N hN => rPl_fr hT409511 ht409516 hf409517 (dn409507 N hN) (fun b hb _ => n409591 b (rn_ty (show rKd gm_F409488 b 1 from hb) ht409515 (by decide)))
                    refine G_iload 1 dr_cX17_merge_149 rfl ?_
                    refine G_iload 0 dr_cX17_merge_151 rfl ?_
                    refine G_icmp_eq 164 dr_cX17_merge_153 (by decide +kernel) (fun hc409599 => ?_) (fun hc409599 => ?_)
                    · have r409600 : z409481.toInt = z409482.toInt := gC_eq hc409599
                      have ac409601 : (fI (F409589 q399002) 11).toInt = p409537.toInt := by rw [he409593]; rfl
                      have ac409602 : (fI (F409589 q399002) 14).toInt = p409540.toInt := by rw [he409593]; rfl
                      refine G_iconst 1 dr_cX17_merge_164 (by decide +kernel) ?_
                      exact G_zretA FieldType.boolean dr_cX17_merge_165 rfl rfl (show ((rPh gm_F409488 el_F409488 f - rPh γ0 el0 f) / 18) ≤ (((387 * B + 6000) - rPh γ0 el0 f) / 18) by omega) (show (rPh gm_F409488 el_F409488 f - rPh γ0 el0 f) ≤ ((387 * B + 6000) - rPh γ0 el0 f) by omega) ⟨P399000, F409589, gm_F409488, el_F409488, 1, rfl, rfl, hs409597, ⟨by omega, by omega⟩, hB409584, (gB_w (gBl (show Int32.toInt 1 = 1 by decide)) (by decide) (by decide)), (by have qa0 : Int32.toInt 1 = 1 := (by decide); omega), (by have qa0 : Int32.toInt 1 = 1 := (by decide); omega), (by have qa0 : Int32.toInt 1 = 1 := (by decide); omega), (by have qa0 : Int32.toInt 1 = 1 := (by decide); omega), (Or.inr (by rw [show gm_F409488 6 f = γ0 6 f by omega]; exact Nat.le_of_eq sm409505)), dn409598, (by have qa0 : Int32.toInt 1 = 1 := (by decide); omega), (by have qa0 : Int32.toInt 1 = 1 := (by decide); omega), (fun h => absurd h (by decide)), mk409594, (fun R c1 c2 c3 => c2 gm_0 el_0 q409436 g409400 q409013 p409451 p409452 z409481 z409482 q409023 F409488 gm_F409488 el_F409488 p409539 z409588 F409589 hγ0 hel0 hx409478 fq409479 fq409480 ez409481 ez409482 fq409483 hq409494 fq409587 hz409588 n409591 fq409595 r409600)⟩
                    · have r409603 : z409481.toInt ≠ z409482.toInt := gC_ne hc409599
                      refine G_aload_n 7 dr_cX17_merge_156 rfl ?_
                      refine G_iload 0 dr_cX17_merge_157 rfl ?_
                      refine G_iload 1 dr_cX17_merge_159 rfl ?_
                      have v0_409604 : 0 < gm_F409488 6 (gm_F409488 1 q399003) := by rw [hf409517]; omega
                      refine Gw_callS (As := [.ref q399003, .int z409482, .int z409481]) (gV_ok D I) (ct_369944_SpillForgeModel_rename l hl0 D I gm_F409488 el_F409488 P399000 F409589 q399003 z409482 z409481 hT409596 ht409516 bz409482 bz409481 (by omega)) dr_cX17_merge_161 ⟨wr_11_30, wr_1_14, wr_11_32, by decide, rfl, (Nat.le_of_ble_eq_true rfl), (Nat.le_of_ble_eq_true rfl)⟩ wr_11_31 (rm_zc pk409586) (rm_zs pk409586) (Nat.le_of_ble_eq_true rfl) (fun r409608 w409609 dc409605 ds409606 hp409607 => ?_) (fun _ _ _ _ _ z => z.elim)
                      obtain ⟨F409614, rfl, rfl, hT409615, hs409616, hdc, hds, x409610, x409611, x409612, ht409613⟩ := hp409607
                      have hs409617 := rSk_str hs409597 hT409615 hs409616 (by decide) (by decide) (by decide) (Or.inr (rFs_e x409612 hf409517))
                      have kp409618 : F409614 q399002 = F409589 q399002 := x409611 q399002 (rT0 ht409515 (by decide)) (rT2 ht409515 (by decide))
                      have mk409619 : mKp (F399001 q399002) (F409614 q399002) := mKp_tr mk409594 (mKp_eq (x409611 q399002 (rT0 ht409515 (by decide)) (rT2 ht409515 (by decide))))
                      have he409620 : F409614 q399002 = .inr (22, [.ref (gm_F409488 9 0), .ref (gm_F409488 9 1), .ref (gm_F409488 9 2), .ref (gm_F409488 9 3), .ref (gm_F409488 9 4), .ref (gm_F409488 9 5), .ref (gm_F409488 9 6), .ref (gm_F409488 9 7), .ref (gm_F409488 9 8), .int p409535, .int p409536, .int p409537, .int p409538, .int z409588, .int p409540, .ref (gm_F409488 9 15), .ref (gm_F409488 9 16), .ref (gm_F409488 9 17), .ref (gm_F409488 9 18), .ref (gm_F409488 9 19), .ref (gm_F409488 9 20), .ref (gm_F409488 9 21), .ref (gm_F409488 9 22), .int p409541, .int p409542, .int p409543, .int p409544, .int p409545, .ref q409533, .ref (gm_F409488 9 29), .int p409546, .ref (gm_F409488 9 31), .int p409547, .int p409548, .int p409549, .ref q409534]) := (x409611 q399002 (rT0 ht409515 (by decide)) (rT2 ht409515 (by decide))).trans he409593
                      change G _ _ _ _ _ _ _ _ _ _ _
                      refine G_widen (cs' := ((rPh gm_F409488 el_F409488 f - rPh γ0 el0 f) / 18)) (sl' := (rPh gm_F409488 el_F409488 f - rPh γ0 el0 f)) (rm_d0 hdc) (rm_d0 hds) ?_
                      have dn409621 : ∀ N : Nat → Prop, rPl γ0 el0 F399001 q399003 (γ0 6 f) (fun _ _ => rNx N) → rPl gm_F409488 el_F409488 F409614 q399003 (gm_F409488 6 f) (fun _ _ => rNx N) := fun N hN => by have z := x409610 N ((show z409481.toInt = p409451.toInt ∨ z409481.toInt = p409452.toInt by omega).elim (fun e => by rw [e]; exact (nm409508 N hN).1) (fun e => by rw [e]; exact (nm409508 N hN).2)) (by omega); rw [hf409517] at z; exact z (dn409598 N hN)
                      have ac409622 : (fI (F409614 q399002) 11).toInt = p409537.toInt := by rw [he409620]; rfl
                      have ac409623 : (fI (F409614 q399002) 14).toInt = p409540.toInt := by rw [he409620]; rfl
                      refine G_iconst 1 dr_cX17_merge_164 (by decide +kernel) ?_
                      exact G_zretA FieldType.boolean dr_cX17_merge_165 rfl rfl (show ((rPh gm_F409488 el_F409488 f - rPh γ0 el0 f) / 18) ≤ (((387 * B + 6000) - rPh γ0 el0 f) / 18) by omega) (show (rPh gm_F409488 el_F409488 f - rPh γ0 el0 f) ≤ ((387 * B + 6000) - rPh γ0 el0 f) by omega) ⟨P399000, F409614, gm_F409488, el_F409488, 1, rfl, rfl, hs409617, ⟨by omega, by omega⟩, hB409584, (gB_w (gBl (show Int32.toInt 1 = 1 by decide)) (by decide) (by decide)), (by have qa0 : Int32.toInt 1 = 1 := (by decide); omega), (by have qa0 : Int32.toInt 1 = 1 := (by decide); omega), (by have qa0 : Int32.toInt 1 = 1 := (by decide); omega), (by have qa0 : Int32.toInt 1 = 1 := (by decide); omega), (Or.inr (by rw [show gm_F409488 6 f = γ0 6 f by omega]; exact Nat.le_of_eq sm409505)), dn409621, (by have qa0 : Int32.toInt 1 = 1 := (by decide); omega), (by have qa0 : Int32.toInt 1 = 1 := (by decide); omega), (fun h => absurd h (by decide)), mk409619, (fun R c1 c2 c3 => c3 gm_0 el_0 q409436 g409400 q409013 p409451 p409452 z409481 z409482 q409023 F409488 gm_F409488 el_F409488 p409539 z409588 F409589 F409614 hγ0 hel0 hx409478 fq409479 fq409480 ez409481 ez409482 fq409483 hq409494 fq409587 hz409588 n409591 fq409595 r409603 hT409615 hs409616 x409610 x409611 x409612 ht409613)⟩
                  · have r409624 : p409451.toInt ≠ p409452.toInt := gC_ne hc409475
                    refine G_aload_n 4 dr_cX17_merge_77 rfl ?_
                    refine G_aload 0 dr_cX17_merge_78 rfl ?_
                    refine Gp_get 1 hm409448 he409449 dr_cX17_merge_80 (gk_X15 D I) (Nat.le_of_ble_eq_true rfl) wr_9_182 rfl ?_
                    refine G_aload 0 dr_cX17_merge_83 rfl ?_
                    refine Gp_get 2 hm409448 he409449 dr_cX17_merge_85 (gk_X15 D I) (Nat.le_of_ble_eq_true rfl) wr_9_186 rfl ?_
                    refine G_iload_n 6 dr_cX17_merge_88 rfl ?_
                    refine Gw_callV (As := [.int p409451, .int p409452, .int p399004]) (gV_ok D I) (ct_397011_SpillForgeModel_mayMerge l hl0 D I gm_0 el_0 P399000 F399001 q399002 p409451 p409452 p399004 hT htq399002 bp409451 ⟨by omega, by omega⟩) dr_cX17_merge_89 ⟨wr_11_12, wr_1_14, wr_11_15, by decide, rfl, (Nat.le_of_ble_eq_true rfl), (Nat.le_of_ble_eq_true rfl)⟩ wr_11_14 wr_p_102 hm399015 he399016 rfl (rm_zc pk399007) (rm_zs pk399007) (Nat.le_of_ble_eq_true rfl) (fun r409628 w409629 dc409625 ds409626 hp409627 => ?_) (fun _ _ _ _ _ z => z.elim)
                    obtain ⟨o409630, rfl, rfl, hdc, hds, bo409630, x409631, ht409632⟩ := hp409627
                    change G _ _ _ _ _ _ _ (.int o409630 :: _) _ _ _
                    refine G_widen (cs' := ((rPh gm_0 el_0 f - rPh γ0 el0 f) / 18)) (sl' := (rPh gm_0 el_0 f - rPh γ0 el0 f)) (rm_d0 hdc) (rm_d0 hds) ?_
                    refine G_if_ne 98 dr_cX17_merge_92 (by decide +kernel) (fun hc409633 => ?_) (fun hc409633 => ?_)
                    · have r409634 : o409630.toInt ≠ 0 := gj_neq hc409633 (show Int32.toInt 0 = 0 by decide)
                      have bo409630' : gB o409630 1 1 := ⟨by omega, by omega⟩
                      have hx409635 : tl_RModel_merge_20 D I γ0 el0 f F399001 q409013 gm_0 el_0 q399002 p399004 (0 : Int32) 98 q409436 g409400 := kt20_409401 98 q409436 g409400 (fun R c1 c2 c3 c4 c5 c6 => c5 g409400 q409023 p409406 q409436 p409450 p409455 p409451 p409452 o409630 bg409400 fq409402 fq409413 fq409414 r409424 hx409437 ht409447 fq409463 r409467 fq409468 r409472 fq409473 fq409474 r409624 bo409630 x409631 ht409632 r409634)
                      have hx409636 : tl_RModel_merge_2 D I γ0 el0 f F399001 q399003 el_0 gm_0 q399002 p399004 (0 : Int32) 98 q409436 g409400 q409013 := kt2_408952 98 q409436 g409400 q409013 (fun R c1 c2 c3 => c3 g408951 p408958 q408955 q409013 p408995 q409436 g409400 bg408951 fq408980 r408991 fq409018 hx409014 fq409036 ht409042 hx409635)
                      have bp409452' : gB p409452 0 1999 := ⟨by omega, by omega⟩
                      refine G_aload 0 dr_cX17_merge_98 rfl ?_
                      have fq409637 : fI (F399001 q409436) 1 = p409451 := by rw [he409449]; rfl
                      refine Gp_get 1 hm409448 he409449 dr_cX17_merge_100 (gk_X15 D I) (Nat.le_of_ble_eq_true rfl) wr_9_182 rfl ?_
                      refine G_aload 0 dr_cX17_merge_103 rfl ?_
                      have fq409638 : fI (F399001 q409436) 2 = p409452 := by rw [he409449]; rfl
                      refine Gp_get 2 hm409448 he409449 dr_cX17_merge_105 (gk_X15 D I) (Nat.le_of_ble_eq_true rfl) wr_9_186 rfl ?_
                      refine G_mmin dr_cX17_merge_108 wr_11_20 wr_3_227 wr_1_6 wr_3_228 (Nat.le_of_ble_eq_true rfl) (Nat.le_of_ble_eq_true rfl) (show ((rPh gm_0 el_0 f - rPh γ0 el0 f) / 18) ≤ (((387 * B + 6000) - rPh γ0 el0 f) / 18) by first | omega | decide) (show (rPh gm_0 el_0 f - rPh γ0 el0 f) ≤ ((387 * B + 6000) - rPh γ0 el0 f) by first | omega | decide) (G_nam fun z409639 hz409639 => ?_)
                      have ez409639 : p409451.toInt ≥ z409639.toInt ∧ p409452.toInt ≥ z409639.toInt ∧ (z409639.toInt = p409451.toInt ∨ z409639.toInt = p409452.toInt) := by have := gI_min hz409639; omega
                      have bz409639 : gB z409639 0 1999 := ⟨by omega, by omega⟩
                      refine G_istore (L' := [(7, .int z409639), (6, .ref q409436), (5, .int g409400), (4, .ref q409013), (3, .int g408951), (0, .ref q399002), (1, .ref q399003), (2, .int p399004)]) dr_cX17_merge_111 (Nat.le_of_ble_eq_true rfl) rfl ?_
                      refine G_aload 1 dr_cX17_merge_113 rfl ?_
                      refine Gp_get 1 hm409448 he409449 dr_cX17_merge_115 (gk_X15 D I) (Nat.le_of_ble_eq_true rfl) wr_9_182 rfl ?_
                      refine G_aload 1 dr_cX17_merge_118 rfl ?_
                      refine Gp_get 2 hm409448 he409449 dr_cX17_merge_120 (gk_X15 D I) (Nat.le_of_ble_eq_true rfl) wr_9_186 rfl ?_
                      refine G_mmax dr_cX17_merge_123 wr_11_21 wr_1_140 wr_1_6 wr_1_141 (Nat.le_of_ble_eq_true rfl) (Nat.le_of_ble_eq_true rfl) (show ((rPh gm_0 el_0 f - rPh γ0 el0 f) / 18) ≤ (((387 * B + 6000) - rPh γ0 el0 f) / 18) by first | omega | decide) (show (rPh gm_0 el_0 f - rPh γ0 el0 f) ≤ ((387 * B + 6000) - rPh γ0 el0 f) by first | omega | decide) (G_nam fun z409640 hz409640 => ?_)
                      have ez409640 : p409451.toInt ≤ z409640.toInt ∧ p409452.toInt ≤ z409640.toInt ∧ (z409640.toInt = p409451.toInt ∨ z409640.toInt = p409452.toInt) := by have := gI_max hz409640; omega
                      have bz409640 : gB z409640 0 1999 := ⟨by omega, by omega⟩
                      refine G_istore (L' := [(8, .int z409640), (7, .int z409639), (6, .ref q409436), (5, .int g409400), (4, .ref q409013), (3, .int g408951), (0, .ref q399002), (1, .ref q399003), (2, .int p399004)]) dr_cX17_merge_126 (Nat.le_of_ble_eq_true rfl) rfl ?_
                      refine G_aload 4 dr_cX17_merge_128 rfl ?_
                      have fq409641 : fR (F399001 q409013) 0 = q409023 := by rw [he409022]; rfl
                      refine Gp_get 0 hm409021 he409022 dr_cX17_merge_130 (gk_X12 D I) (Nat.le_of_ble_eq_true rfl) wr_9_220 rfl ?_
                      refine G_iload 3 dr_cX17_merge_133 rfl ?_
                      have rg409642 := rM_ge hT htq399003 hf1
                      have rm409643 := rM_bd hB
                      have bd409644 := rBd_c hT htq399003 hf1 hB
                      have rc409645 := rc_at hT htq399003 hf1
                      have r409647 : gm_0 14 (el_0 (gm_0 14 q399003) g408951.toInt.toNat) = q409023 := by rw [r409052]; exact ht409033.1
                      have r409648 := rg409642.2.2 _ r409051
                      rw [r409647] at r409648
                      have r409649 := bd409644.2.2.2 _ r409051
                      rw [r409647] at r409649
                      obtain ⟨q409651, hq409651⟩ : ∃ x, x = el_0 q409023 g409400.toInt.toNat := ⟨_, rfl⟩
                      refine Gt_rem (c := q399003) (f := f) hl0 dr_cX17_merge_135 ⟨wr_11_22, wr_1_18, wr_11_25, by decide, rfl, (Nat.le_of_ble_eq_true rfl), (Nat.le_of_ble_eq_true rfl)⟩ wr_11_23 wr_11_24 hT ht409027 hf409044 htq399003 hf1 (by omega) (by omega) (rm_zc pk399007) (rm_zs pk399007) (Nat.le_of_ble_eq_true rfl) (fun F409646 gm_F409646 el_F409646 hq409650 => ?_)
                      rw [← hq409651]
                      have hq409652 := hq409650
                      have vv409664 := RS_valid hT0 hzq399003 hf0 x399005
                      rw [← hγ0] at vv409664
                      have sm409663 := rDq_sum (m := γ0 6 f) hT htq399003 hf1 (show g408951.toInt.toNat < γ0 6 f by omega) (by omega) r409647 (show g409400.toInt.toNat < _ by omega) hq409650
                      rw [hγ0, hel0] at sm409663
                      have dn409665 := fun (N : Nat → Prop) hN => rPl_dx (N := N) hT htq399003 hf1 hq409650 r409647 (show g408951.toInt.toNat < _ by omega) (show g409400.toInt.toNat < _ by omega) hN
                      rw [hγ0, hel0] at dn409665
                      have nm409666 := fun (N : Nat → Prop) hN => rPl_nm (N := N) (f := f) (j := g409400.toInt.toNat) hN (show g408951.toInt.toNat < _ by omega) r409647 (show g409400.toInt.toNat < _ by omega) hx409437.symm he409449 (by omega) (by omega)
                      rw [hγ0, hel0] at nm409666
                      obtain ⟨hk409653, h2409654, hel409655, hot409656, h16409657, h18409658, hnu409659, hr409660, hM409661, hBB409662⟩ := hq409650
                      have hk409667 := rSk_of hk409653
                      have r409668 : (fI (F409646 q399003) 3).toInt = (fI (F399001 q399003) 3).toInt := by rw [rSk_F hk409667 htq399003 (by decide) (by decide)]
                      have hT409669 := hk409667.1
                      have hs409670 := rSk_tr hst hk409667 (by decide) (by decide) (by decide)
                      have kp409671 : F409646 q399002 = F399001 q399002 := rSk_F hk409667 htq399002 (by decide) (by decide)
                      have r409672 := rSk_F hk409667 htq399002 (by decide) (by decide)
                      have ht409673 : rKd gm_F409646 q399002 10 := rSk_k hk409667 htq399002 (by decide) (by decide)
                      have ht409674 : rKd gm_F409646 q399003 9 := rSk_k hk409667 htq399003 (by decide) (by decide)
                      have hf409675 : gm_F409646 1 q399003 = f := rSk_1 hk409667 htq399003 (by decide) hf1
                      have ht409676 : rKd gm_F409646 q409013 2 := rSk_k hk409667 ht409019 (by decide) (by decide)
                      have hf409677 : gm_F409646 1 q409013 = f := rSk_1 hk409667 ht409019 (by decide) hf409043
                      have ht409678 : rKd gm_F409646 q409023 3 := rSk_k hk409667 ht409027 (by decide) (by decide)
                      have hf409679 : gm_F409646 1 q409023 = f := rSk_1 hk409667 ht409027 (by decide) hf409044
                      have ht409680 : rKd gm_F409646 q409436 1 := rSk_k hk409667 ht409439 (by decide) (by decide)
                      have hf409681 : gm_F409646 1 q409436 = f := rSk_1 hk409667 ht409439 (by decide) hf409441
                      have mk409682 : mKp (F399001 q399002) (F409646 q399002) := mKp_tr mKp_rf (mKp_eq (rSk_F hk409667 htq399002 (by decide) (by decide)))
                      have r409683 := (rSk_s hk409667 htq399003 (by decide)).2.1
                      have r409684 := hot409656 _ (by rw [rc409645.2.1]; decide) (fun q => by rw [q, show _ = 3 from ht409027] at rc409645; exact absurd rc409645.2.1 (by decide))
                      have r409685 : g408951.toInt.toNat < gm_F409646 2 (gm_F409646 14 q399003) := by rw [r409683, r409684.1]; exact r409051
                      have r409686 : el_F409646 (gm_F409646 14 q399003) g408951.toInt.toNat = q409013 := by rw [r409683, r409684.2]; exact r409052
                      have he409687 : F409646 q409436 = .inr (20, [.int p409450, .int p409451, .int p409452, .int p409453, .int p409454, .int p409455, .int p409456]) := (rSk_F hk409667 ht409439 (by decide) (by decide)).trans he409449
                      have hm409688 : q409436 ∈ P399000 := RS_m hT409669 ht409680 (by decide)
                      clear r408963 r408964 r408965 r408966 r408967 r408968 r408970 r408971 r408972 r408973 bp408957 bp408958 bp409025 bp409026 r409034 r409035 rg409642 rm409643 bd409644 rc409645 r409648 r409649
                      have hm409689 : q399002 ∈ P399000 := RS_m hT409669 ht409673 (by decide)
                      obtain ⟨q409691, q409692, p409693, p409694, p409695, p409696, p409697, p409698, p409699, p409700, p409701, p409702, p409703, p409704, p409705, p409706, p409707, he409690, hB409734, ht409708, ht409709, ht409710, ht409711, ht409712, ht409713, ht409714, ht409715, ht409716, ht409717, ht409718, ht409719, ht409720, ht409721, ht409722, ht409723, ht409724, ht409725, ht409726, ht409727, ht409728, ht409729, ht409730, ht409731, hB409735⟩ := show rk_10 gm_F409646 (F409646 q399002) from RS_o hT409669 ht409673
                      have r409736 : p409695.toInt = p399021.toInt := by have z : p409695 = p399021 := congrArg (fun e => fI e 11) (he409690.symm.trans (r409672.trans he399016)); rw [z]
                      have bp409695 : gB p409695 0 100 := (hB409734.2.2.1)
                      have r409737 : p409698.toInt = p399024.toInt := by have z : p409698 = p399024 := congrArg (fun e => fI e 14) (he409690.symm.trans (r409672.trans he399016)); rw [z]
                      have bp409698 : gB p409698 0 2000 := (hB409734.2.2.2.1)
                      obtain ⟨nu409738, nu409739, nu409740, nu409741⟩ := hnu409659
                      have hB409742 : rBd gm_F409646 el_F409646 f B := hBB409662 B hB
                      have hph409743 : rPh γ0 el0 f ≤ rPh gm_F409646 el_F409646 f := by rw [hr409660]; exact hph
                      have pk409744 : rPh gm_F409646 el_F409646 f ≤ 387 * B + 6000 := rm_pk (rM_ge hT409669 ht409674 hf409675).1 (rM_bd hB409742)
                      refine G_widen (cs' := ((rPh gm_F409646 el_F409646 f - rPh γ0 el0 f) / 18)) (sl' := (rPh gm_F409646 el_F409646 f - rPh γ0 el0 f)) (rm_ec hr409660) (rm_es hr409660) ?_
                      refine G_pop dr_cX17_merge_138 rfl ?_
                      refine G_aload_n 6 dr_cX17_merge_139 rfl ?_
                      refine G_dup dr_cX17_merge_140 rfl ?_
                      have fq409745 : fI (F409646 q399002) 13 = p409697 := by rw [he409690]; rfl
                      refine Gp_get 13 hm409689 he409690 dr_cX17_merge_141 (gk_X17 D I) (Nat.le_of_ble_eq_true rfl) wr_7_87 rfl ?_
                      have bp409697 : gB p409697 (-2147483648) 2147483647 := (gB_any p409697)
                      refine G_iconst 1 dr_cX17_merge_144 (by decide +kernel) ?_
                      refine G_iadd dr_cX17_merge_145 (G_nam fun z409746 hz409746 => ?_)
                      have bz409746 : gB z409746 (-2147483648) 2147483647 := gB_any z409746
                      refine Gp_put 13 hm409689 he409690 dr_cX17_merge_146 (gk_X17 D I) (Nat.le_of_ble_eq_true rfl) wr_7_87 rfl rfl rfl (Nat.le_of_ble_eq_true rfl) (fun F409747 e409748 n409749 => ?_)
                      have he409750 : F409747 q409436 = .inr (20, [.int p409450, .int p409451, .int p409452, .int p409453, .int p409454, .int p409455, .int p409456]) := (n409749 q409436 (rn_oo he409687 he409690 (by decide))).trans he409687
                      have he409751 : F409747 q399002 = .inr (22, [.ref (gm_F409646 9 0), .ref (gm_F409646 9 1), .ref (gm_F409646 9 2), .ref (gm_F409646 9 3), .ref (gm_F409646 9 4), .ref (gm_F409646 9 5), .ref (gm_F409646 9 6), .ref (gm_F409646 9 7), .ref (gm_F409646 9 8), .int p409693, .int p409694, .int p409695, .int p409696, .int z409746, .int p409698, .ref (gm_F409646 9 15), .ref (gm_F409646 9 16), .ref (gm_F409646 9 17), .ref (gm_F409646 9 18), .ref (gm_F409646 9 19), .ref (gm_F409646 9 20), .ref (gm_F409646 9 21), .ref (gm_F409646 9 22), .int p409699, .int p409700, .int p409701, .int p409702, .int p409703, .ref q409691, .ref (gm_F409646 9 29), .int p409704, .ref (gm_F409646 9 31), .int p409705, .int p409706, .int p409707, .ref q409692]) := e409748
                      have mk409752 : mKp (F399001 q399002) (F409747 q399002) := mKp_tr mk409682 (by rw [he409690, he409751]; exact ⟨rfl, rfl⟩)
                      have fq409753 : F409747 q399002 = cF (F409646 q399002) 13 (.int z409746) := by rw [he409751, he409690]; rfl
                      have hT409754 : RS D I P399000 F409747 gm_F409646 el_F409646 := RS_set hT409669 n409749 ht409673 (by decide) ⟨q409691, q409692, p409693, p409694, p409695, p409696, z409746, p409698, p409699, p409700, p409701, p409702, p409703, p409704, p409705, p409706, p409707, he409751, ⟨(hB409734.1), (hB409734.2.1), bp409695, bp409698, (hB409734.2.2.2.2.1), (hB409734.2.2.2.2.2.1), (hB409734.2.2.2.2.2.2.1), (hB409734.2.2.2.2.2.2.2.1), (hB409734.2.2.2.2.2.2.2.2)⟩, ht409708, ht409709, ht409710, ht409711, ht409712, ht409713, ht409714, ht409715, ht409716, ht409717, ht409718, ht409719, ht409720, ht409721, ht409722, ht409723, ht409724, ht409725, ht409726, ht409727, ht409728, ht409729, ht409730, ht409731, hB409735⟩
                      have hs409755 := rSk_put hs409670 hT409754 n409749 ht409673 (by decide) (by decide) (Or.inr (Or.inr (by decide)))
                      have dn409756 : ∀ N : Nat → Prop, rPl γ0 el0 F399001 q399003 (γ0 6 f) (fun _ _ => rNx N) → rPl gm_F409646 el_F409646 F409747 q399003 (gm_F409646 6 f) (fun _ _ => rNx N) := fun N hN => rPl_fr hT409669 ht409674 hf409675 (dn409665 N hN) (fun b hb _ => n409749 b (rn_ty (show rKd gm_F409646 b 1 from hb) ht409673 (by decide)))
                      refine G_iload 1 dr_cX17_merge_149 rfl ?_
                      refine G_iload 0 dr_cX17_merge_151 rfl ?_
                      refine G_icmp_eq 164 dr_cX17_merge_153 (by decide +kernel) (fun hc409757 => ?_) (fun hc409757 => ?_)
                      · have r409758 : z409639.toInt = z409640.toInt := gC_eq hc409757
                        have ac409759 : (fI (F409747 q399002) 11).toInt = p409695.toInt := by rw [he409751]; rfl
                        have ac409760 : (fI (F409747 q399002) 14).toInt = p409698.toInt := by rw [he409751]; rfl
                        refine G_iconst 1 dr_cX17_merge_164 (by decide +kernel) ?_
                        exact G_zretA FieldType.boolean dr_cX17_merge_165 rfl rfl (show ((rPh gm_F409646 el_F409646 f - rPh γ0 el0 f) / 18) ≤ (((387 * B + 6000) - rPh γ0 el0 f) / 18) by omega) (show (rPh gm_F409646 el_F409646 f - rPh γ0 el0 f) ≤ ((387 * B + 6000) - rPh γ0 el0 f) by omega) ⟨P399000, F409747, gm_F409646, el_F409646, 1, rfl, rfl, hs409755, ⟨by omega, by omega⟩, hB409742, (gB_w (gBl (show Int32.toInt 1 = 1 by decide)) (by decide) (by decide)), (by have qa0 : Int32.toInt 1 = 1 := (by decide); omega), (by have qa0 : Int32.toInt 1 = 1 := (by decide); omega), (by have qa0 : Int32.toInt 1 = 1 := (by decide); omega), (by have qa0 : Int32.toInt 1 = 1 := (by decide); omega), (Or.inr (by rw [show gm_F409646 6 f = γ0 6 f by omega]; exact Nat.le_of_eq sm409663)), dn409756, (by have qa0 : Int32.toInt 1 = 1 := (by decide); omega), (by have qa0 : Int32.toInt 1 = 1 := (by decide); omega), (fun h => absurd h (by decide)), mk409752, (fun R c1 c2 c3 => c2 gm_0 el_0 q409436 g409400 q409013 p409451 p409452 z409639 z409640 q409023 F409646 gm_F409646 el_F409646 p409697 z409746 F409747 hγ0 hel0 hx409636 fq409637 fq409638 ez409639 ez409640 fq409641 hq409652 fq409745 hz409746 n409749 fq409753 r409758)⟩
                      · have r409761 : z409639.toInt ≠ z409640.toInt := gC_ne hc409757
                        refine G_aload_n 7 dr_cX17_merge_156 rfl ?_
                        refine G_iload 0 dr_cX17_merge_157 rfl ?_
                        refine G_iload 1 dr_cX17_merge_159 rfl ?_
                        have v0_409762 : 0 < gm_F409646 6 (gm_F409646 1 q399003) := by rw [hf409675]; omega
                        refine Gw_callS (As := [.ref q399003, .int z409640, .int z409639]) (gV_ok D I) (ct_369944_SpillForgeModel_rename l hl0 D I gm_F409646 el_F409646 P399000 F409747 q399003 z409640 z409639 hT409754 ht409674 bz409640 bz409639 (by omega)) dr_cX17_merge_161 ⟨wr_11_30, wr_1_14, wr_11_32, by decide, rfl, (Nat.le_of_ble_eq_true rfl), (Nat.le_of_ble_eq_true rfl)⟩ wr_11_31 (rm_zc pk409744) (rm_zs pk409744) (Nat.le_of_ble_eq_true rfl) (fun r409766 w409767 dc409763 ds409764 hp409765 => ?_) (fun _ _ _ _ _ z => z.elim)
                        obtain ⟨F409772, rfl, rfl, hT409773, hs409774, hdc, hds, x409768, x409769, x409770, ht409771⟩ := hp409765
                        have hs409775 := rSk_str hs409755 hT409773 hs409774 (by decide) (by decide) (by decide) (Or.inr (rFs_e x409770 hf409675))
                        have kp409776 : F409772 q399002 = F409747 q399002 := x409769 q399002 (rT0 ht409673 (by decide)) (rT2 ht409673 (by decide))
                        have mk409777 : mKp (F399001 q399002) (F409772 q399002) := mKp_tr mk409752 (mKp_eq (x409769 q399002 (rT0 ht409673 (by decide)) (rT2 ht409673 (by decide))))
                        have he409778 : F409772 q399002 = .inr (22, [.ref (gm_F409646 9 0), .ref (gm_F409646 9 1), .ref (gm_F409646 9 2), .ref (gm_F409646 9 3), .ref (gm_F409646 9 4), .ref (gm_F409646 9 5), .ref (gm_F409646 9 6), .ref (gm_F409646 9 7), .ref (gm_F409646 9 8), .int p409693, .int p409694, .int p409695, .int p409696, .int z409746, .int p409698, .ref (gm_F409646 9 15), .ref (gm_F409646 9 16), .ref (gm_F409646 9 17), .ref (gm_F409646 9 18), .ref (gm_F409646 9 19), .ref (gm_F409646 9 20), .ref (gm_F409646 9 21), .ref (gm_F409646 9 22), .int p409699, .int p409700, .int p409701, .int p409702, .int p409703, .ref q409691, .ref (gm_F409646 9 29), .int p409704, .ref (gm_F409646 9 31), .int p409705, .int p409706, .int p409707, .ref q409692]) := (x409769 q399002 (rT0 ht409673 (by decide)) (rT2 ht409673 (by decide))).trans he409751
                        change G _ _ _ _ _ _ _ _ _ _ _
                        refine G_widen (cs' := ((rPh gm_F409646 el_F409646 f - rPh γ0 el0 f) / 18)) (sl' := (rPh gm_F409646 el_F409646 f - rPh γ0 el0 f)) (rm_d0 hdc) (rm_d0 hds) ?_
                        have dn409779 : ∀ N : Nat → Prop, rPl γ0 el0 F399001 q399003 (γ0 6 f) (fun _ _ => rNx N) → rPl gm_F409646 el_F409646 F409772 q399003 (gm_F409646 6 f) (fun _ _ => rNx N) := fun N hN => by have z := x409768 N ((show z409639.toInt = p409451.toInt ∨ z409639.toInt = p409452.toInt by omega).elim (fun e => by rw [e]; exact (nm409666 N hN).1) (fun e => by rw [e]; exact (nm409666 N hN).2)) (by omega); rw [hf409675] at z; exact z (dn409756 N hN)
                        have ac409780 : (fI (F409772 q399002) 11).toInt = p409695.toInt := by rw [he409778]; rfl
                        have ac409781 : (fI (F409772 q399002) 14).toInt = p409698.toInt := by rw [he409778]; rfl
                        refine G_iconst 1 dr_cX17_merge_164 (by decide +kernel) ?_
                        exact G_zretA FieldType.boolean dr_cX17_merge_165 rfl rfl (show ((rPh gm_F409646 el_F409646 f - rPh γ0 el0 f) / 18) ≤ (((387 * B + 6000) - rPh γ0 el0 f) / 18) by omega) (show (rPh gm_F409646 el_F409646 f - rPh γ0 el0 f) ≤ ((387 * B + 6000) - rPh γ0 el0 f) by omega) ⟨P399000, F409772, gm_F409646, el_F409646, 1, rfl, rfl, hs409775, ⟨by omega, by omega⟩, hB409742, (gB_w (gBl (show Int32.toInt 1 = 1 by decide)) (by decide) (by decide)), (by have qa0 : Int32.toInt 1 = 1 := (by decide); omega), (by have qa0 : Int32.toInt 1 = 1 := (by decide); omega), (by have qa0 : Int32.toInt 1 = 1 := (by decide); omega), (by have qa0 : Int32.toInt 1 = 1 := (by decide); omega), (Or.inr (by rw [show gm_F409646 6 f = γ0 6 f by omega]; exact Nat.le_of_eq sm409663)), dn409779, (by have qa0 : Int32.toInt 1 = 1 := (by decide); omega), (by have qa0 : Int32.toInt 1 = 1 := (by decide); omega), (fun h => absurd h (by decide)), mk409777, (fun R c1 c2 c3 => c3 gm_0 el_0 q409436 g409400 q409013 p409451 p409452 z409639 z409640 q409023 F409646 gm_F409646 el_F409646 p409697 z409746 F409747 F409772 hγ0 hel0 hx409636 fq409637 fq409638 ez409639 ez409640 fq409641 hq409652 fq409745 hz409746 n409749 fq409753 r409761 hT409773 hs409774 x409768 x409769 x409770 ht409771)⟩
                    · have r409782 : o409630.toInt = 0 := gj_eq hc409633 (show Int32.toInt 0 = 0 by decide)
                      have bo409630' : gB o409630 0 0 := ⟨by omega, by omega⟩
                      refine G_goto 166 dr_cX17_merge_95 (by decide +kernel) ?_
                      obtain ⟨z409783, hz409783⟩ : ∃ z : Int32, z = g409400 + Int32.ofInt 1 := ⟨_, rfl⟩
                      have ez409783 : z409783.toInt = g409400.toInt + 1 := gI_inc hz409783 (by decide) bg409400' (by decide) (by decide)
                      have bz409783 : gB z409783 1 1000000 := ⟨by omega, by omega⟩
                      refine G_iinc (L' := [(5, .int z409783), (6, .ref q409436), (4, .ref q409013), (3, .int g408951), (0, .ref q399002), (1, .ref q399003), (2, .int p399004)]) z409783 1 dr_cX17_merge_166 rfl hz409783.symm (Nat.le_of_ble_eq_true rfl) rfl ?_
                      refine G_goto 20 dr_cX17_merge_169 (by decide +kernel) ?_
                      refine G_lv (L' := [(5, .int z409783), (4, .ref q409013), (3, .int g408951), (0, .ref q399002), (1, .ref q399003), (2, .int p399004)]) [0, 2, 3, 4, 5, 6] rfl ?_
                      exact ih20_409400 z409783 (gB_w bz409783 (by decide) (by decide)) (fun k e1 e2 ht => kt20_409401 k e1 e2 (fun R c1 c2 c3 c4 c5 c6 => c6 g409400 q409023 p409406 q409436 p409450 p409455 p409451 p409452 o409630 z409783 k e1 e2 bg409400 fq409402 fq409413 fq409414 r409424 hx409437 ht409447 fq409463 r409467 fq409468 r409472 fq409473 fq409474 r409624 bo409630 x409631 ht409632 r409782 ez409783 (ht R c1 c2 c3 c4 c5 c6))) (by omega)
        exact hlp20_409400 (((1000001 : Int) - 0).toNat + 1) 0 (gB_w (gBl (show Int32.toInt 0 = 0 by decide)) (by decide) (by decide)) (fun k e1 e2 ht => ht) (Nat.lt_succ_self _)
  exact hlp2_408951 (((1000001 : Int) - 0).toNat + 1) 0 (gB_w (gBl (show Int32.toInt 0 = 0 by decide)) (by decide) (by decide)) (fun k e1 e2 e3 ht => ht) (Nat.lt_succ_self _)
/- tr_RModel_load: result, P, F, gm, el -/
def tr_RModel_load (D : va_G) (I : FieldType → ClassId) (γ0 el0 : Nat → Nat → Nat) (f : Nat) (P : List Nat) (F : Nat → va_E) (q0 : Nat) (q1 : Nat) (q2 : Nat) (a3 : Int32) (a4 : Int32) (o1 : Int32) (o2 : List Nat) (o3 : Nat → va_E) (o4 : Nat → Nat → Nat) (o5 : Nat → Nat → Nat) : Prop := ∀ R : (Int32) → (List Nat) → (Nat → va_E) → (Nat → Nat → Nat) → (Nat → Nat → Nat) → Prop,
  (∀ (x1 : Nat → Nat → Nat) (x2 : Nat → Nat → Nat) (x3 : Int32) (x4 : List Nat) (x5 : Nat → va_E) (x6 : Nat → Nat → Nat) (x7 : Nat → Nat → Nat) (x8 : Nat) (x9 : Nat) (x10 : Nat) (x11 : Nat → va_E) (x12 : Int32) (x13 : Nat → va_E) (x14 : Nat → va_E) (x15 : Nat) (x16 : List Nat) (x17 : Nat → va_E) (x18 : Nat → Nat → Nat) (x19 : Nat → Nat → Nat) (x20 : Nat) (x21 : Nat) (x22 : Int32) (x23 : Int32) (x24 : Nat → va_E), x1 = γ0 → x2 = el0 → fI (F q0) 14 = x3 → x3.toInt ≠ 2000 → rRq D I P F x1 x2 f q1 x4 x5 x6 x7 x8 x9 x10 → (∀ b, b ≠ x8 → x11 b = x5 b) → x11 x8 = cF (x5 x8) 0 (.int 21) → fI (x11 q0) 14 = x12 → (∀ b, b ≠ x8 → x13 b = x11 b) → x13 x8 = cF (x11 x8) 1 (.int x12) → (∀ b, b ≠ x8 → x14 b = x13 b) → x14 x8 = cF (x13 x8) 4 (.int a4) → fR (x14 q2) 0 = x15 → rIq D I x4 x14 x6 x7 f x15 a3.toInt.toNat x8 x16 x17 x18 x19 x20 x21 → fI (x17 q0) 14 = x22 → x23.toInt = x22.toInt + 1 → (∀ b, b ≠ q0 → x24 b = x17 b) → x24 q0 = cF (x17 q0) 14 (.int x23) → fI (x24 x8) 1 = x12 → R x12 x16 x24 x18 x19) →
  (∀ (x1 : Nat → Nat → Nat) (x2 : Nat → Nat → Nat) (x3 : Int32), x1 = γ0 → x2 = el0 → fI (F q0) 14 = x3 → x3.toInt = 2000 → R (-1 : Int32) P F x1 x2) →
  R o1 o2 o3 o4 o5
