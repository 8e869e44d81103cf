abbrev ky_394975_SpillForgeModel_mayMerge : gKey := (cX17_mayMerge, 8, "SpillForgeModel", (some FieldType.boolean), [], "mayMerge", fun _ _ => True)
def pt_394975_SpillForgeModel_mayMerge (D : va_G) (I : FieldType → ClassId) (γ el : Nat → Nat → Nat) (P394969 : List Nat) (F394970 : Nat → va_E) (q394971 : Nat) (p394972 : Int32) (p394973 : Int32) (p394974 : Int32) : Option Value → va_W → Nat → Nat → Prop := fun r w dc ds => ∃ (o396959 : Int32), r = some (.int o396959) ∧ w = va_pl P394969 F394970 ∧ dc ≤ 0 ∧ ds ≤ 0 ∧ gB o396959 0 1 ∧ (o396959.toInt = 0 ∨ (p394972.toInt < 100 ∧ p394973.toInt < 100))
set_option maxRecDepth 100000 in
set_option maxHeartbeats 4000000 in
theorem ct_394975_SpillForgeModel_mayMerge (l : Launch) (hl0 : l.stackTraces = false) (D : va_G) (I : FieldType → ClassId) (γ el : Nat → Nat → Nat) (P394969 : List Nat) (F394970 : Nat → va_E) (q394971 : Nat) (p394972 : Int32) (p394973 : Int32) (p394974 : Int32) (hT : RS D I P394969 F394970 γ el) (htq394971 : rKd γ q394971 10) (bp394972 : gB p394972 0 1999) (bp394973 : gB p394973 0 1999) : CtA (gV D I) l yX17_mayMerge cX17_mayMerge 8 (some FieldType.boolean) 2 43 0 0 [.ref q394971, .int p394972, .int p394973, .int p394974] (va_pl P394969 F394970) (pt_394975_SpillForgeModel_mayMerge D I γ el P394969 F394970 q394971 p394972 p394973 p394974) gNA := by
  refine CtA_of hl0 (by decide) (Nat.le_of_ble_eq_true rfl) ?_
  have bp394974 := gB_any p394974
  refine G_iload_n 1 dr_cX17_mayMerge_0 rfl ?_
  refine G_bipush 100 dr_cX17_mayMerge_1 (by decide +kernel) ?_
  refine G_icmp_ge 25 dr_cX17_mayMerge_3 (by decide +kernel) (fun hc394976 => ?_) (fun hc394976 => ?_)
  · have r394977 : 100 ≤ p394972.toInt := gj_leL hc394976 (show Int32.toInt 100 = 100 by decide)
    have bp394972' : gB p394972 100 1999 := ⟨by omega, by omega⟩
    refine G_iconst 0 dr_cX17_mayMerge_25 (by decide +kernel) ?_
    exact G_zretA FieldType.boolean dr_cX17_mayMerge_26 rfl rfl (Nat.le_of_ble_eq_true rfl) (Nat.le_of_ble_eq_true rfl) ⟨0, rfl, rfl, (Nat.le_of_ble_eq_true rfl), (Nat.le_of_ble_eq_true rfl), (gB_w (gBl (show Int32.toInt 0 = 0 by decide)) (by decide) (by decide)), (by have qa0 : Int32.toInt 0 = 0 := (by decide); omega)⟩
  · have r394978 : p394972.toInt < 100 := gj_nleL hc394976 (show Int32.toInt 100 = 100 by decide)
    have bp394972' : gB p394972 0 99 := ⟨by omega, by omega⟩
    refine G_iload_n 2 dr_cX17_mayMerge_6 rfl ?_
    refine G_bipush 100 dr_cX17_mayMerge_7 (by decide +kernel) ?_
    refine G_icmp_ge 25 dr_cX17_mayMerge_9 (by decide +kernel) (fun hc394979 => ?_) (fun hc394979 => ?_)
    · have r394980 : 100 ≤ p394973.toInt := gj_leL hc394979 (show Int32.toInt 100 = 100 by decide)
      have bp394973' : gB p394973 100 1999 := ⟨by omega, by omega⟩
      refine G_iconst 0 dr_cX17_mayMerge_25 (by decide +kernel) ?_
      exact G_zretA FieldType.boolean dr_cX17_mayMerge_26 rfl rfl (Nat.le_of_ble_eq_true rfl) (Nat.le_of_ble_eq_true rfl) ⟨0, rfl, rfl, (Nat.le_of_ble_eq_true rfl), (Nat.le_of_ble_eq_true rfl), (gB_w (gBl (show Int32.toInt 0 = 0 by decide)) (by decide) (by decide)), (by have qa0 : Int32.toInt 0 = 0 := (by decide); omega)⟩
    · have r394981 : p394973.toInt < 100 := gj_nleL hc394979 (show Int32.toInt 100 = 100 by decide)
      have bp394973' : gB p394973 0 99 := ⟨by omega, by omega⟩
      refine G_aload_n 0 dr_cX17_mayMerge_12 rfl ?_
      have hm394982 : q394971 ∈ P394969 := RS_m hT htq394971 (by decide)
      refine rk10_e (show rk_10 γ (F394970 q394971) from RS_o hT htq394971) (fun q394984 q394985 p394986 p394987 p394988 p394989 p394990 p394991 p394992 p394993 p394994 p394995 p394996 p394997 p394998 p394999 p395000 he394983 hB395027 ht395001 ht395002 ht395003 ht395004 ht395005 ht395006 ht395007 ht395008 ht395009 ht395010 ht395011 ht395012 ht395013 ht395014 ht395015 ht395016 ht395017 ht395018 ht395019 ht395020 ht395021 ht395022 ht395023 ht395024 hB395028 => ?_)
      refine Gp_get 1 hm394982 he394983 dr_cX17_mayMerge_13 (gk_X17 D I) (Nat.le_of_ble_eq_true rfl) wr_7_75 rfl ?_
      refine G_iload_n 1 dr_cX17_mayMerge_16 rfl ?_
      have hm395029 : (γ 9 1) ∈ P394969 := RS_m hT ht395004 (by decide)
      obtain ⟨f395031, he395030, hg395032⟩ := show rk_13 I γ (F394970 (γ 9 1)) from RS_o hT ht395004
      obtain ⟨q395033, hx395035⟩ : ∃ x, x = γ 11 p394972.toInt.toNat := ⟨_, rfl⟩
      have ht395034 : rKd γ q395033 36 := by rw [hx395035]; exact (hg395032 _ (show p394972.toInt.toNat < 2000 by omega)).2.1
      refine Gp_aald 5 hm395029 he395030 dr_cX17_mayMerge_17 rfl rfl (gB_in bp394972' (by decide) (by decide)) ?_
      rw [show f395031 p394972.toNatClampNeg = some q395033 from (hg395032 _ (show p394972.toInt.toNat < 2000 by omega)).1.trans (by rw [hx395035])]
      change G _ _ _ _ _ _ _ (.ref q395033 :: _) _ _ _
      refine G_iload_n 2 dr_cX17_mayMerge_18 rfl ?_
      have hm395036 : q395033 ∈ P394969 := RS_m hT ht395034 (by decide)
      obtain ⟨f395038, he395037, wf395038⟩ := show rk_36 I (F394970 q395033) from RS_o hT ht395034
      refine Gw_callS (As := [.ref q395033, .int p394973]) (gV_ok D I) (cp_1845_SpillForgeModel_has l hl0 D I P394969 F394970 q395033 p394973 f395038 hm395036 he395037 (gB_w bp394973' (by decide) (by decide))) dr_cX17_mayMerge_19 ⟨wr_10_203, wr_1_14, wr_10_205, by decide, rfl, (Nat.le_of_ble_eq_true rfl), (Nat.le_of_ble_eq_true rfl)⟩ wr_10_204 (show 0 + 0 ≤ 0 by first | omega | decide) (show 0 + 0 ≤ 0 by first | omega | decide) (Nat.le_of_ble_eq_true rfl) (fun r395042 w395043 dc395039 ds395040 hp395041 => ?_) (fun _ _ _ _ _ z => z.elim)
      rcases hp395041 with ⟨z395044, z395045, rfl, rfl, hdc, hds, r395046, r395047, r395048, r395049, r395050⟩ | ⟨z395051, z395052, rfl, rfl, hdc, hds, r395053, r395054, r395055, r395056, r395057⟩
      · change G _ _ _ _ _ _ _ (.int 0 :: _) _ _ _
        refine G_widen (cs' := 0) (sl' := 0) (by omega) (by omega) ?_
        refine G_if_eq 27 dr_cX17_mayMerge_22 (by decide +kernel) (fun _ => ?_) (fun hc => absurd hc (by decide))
        refine G_iconst 0 dr_cX17_mayMerge_27 (by decide +kernel) ?_
        refine G_istore (L' := [(4, .int 0), (0, .ref q394971), (1, .int p394972), (2, .int p394973), (3, .int p394974)]) dr_cX17_mayMerge_28 (Nat.le_of_ble_eq_true rfl) rfl ?_
        refine G_iconst 0 dr_cX17_mayMerge_30 (by decide +kernel) ?_
        refine G_istore (L' := [(5, .int 0), (4, .int 0), (0, .ref q394971), (1, .int p394972), (2, .int p394973), (3, .int p394974)]) dr_cX17_mayMerge_31 (Nat.le_of_ble_eq_true rfl) rfl ?_
        have hlp33_396809 : ∀ (n33_396809 : Nat) (g396808 : Int32) (g396809 : Int32), gB g396808 0 2000 → ((2001 : Int) - g396808.toInt).toNat < n33_396809 → G (gV D I) l (gRm 2 43 0 0) (gMA (gV D I) (pt_394975_SpillForgeModel_mayMerge D I γ el P394969 F394970 q394971 p394972 p394973 p394974) gNA 0 0) ky_394975_SpillForgeModel_mayMerge 33 [(5, .int g396808), (4, .int g396809), (0, .ref q394971), (1, .int p394972), (2, .int p394973), (3, .int p394974)] [] (va_pl P394969 F394970) 0 0 := by
          intro n33_396809
          induction n33_396809 with
          | zero => intro g396808 g396809 bg396808 hm33_396809; exact absurd hm33_396809 (Nat.not_lt_zero _)
          | succ n33_396809 ih33_396809 =>
            intro g396808 g396809 bg396808 hm33_396809
            have bg396809 := gB_any g396809
            refine G_iload 0 dr_cX17_mayMerge_33 rfl ?_
            refine G_sipush 2000 dr_cX17_mayMerge_35 (by decide +kernel) ?_
            refine G_icmp_ge 126 dr_cX17_mayMerge_38 (by decide +kernel) (fun hc396811 => ?_) (fun hc396811 => ?_)
            · have r396812 : 2000 ≤ g396808.toInt := gj_leL hc396811 (show Int32.toInt 2000 = 2000 by decide)
              have bg396808' : gB g396808 2000 2000 := ⟨by omega, by omega⟩
              refine G_iload 1 dr_cX17_mayMerge_126 rfl ?_
              refine G_iload_n 5 dr_cX17_mayMerge_128 rfl ?_
              refine G_icmp_ge 136 dr_cX17_mayMerge_129 (by decide +kernel) (fun hc396813 => ?_) (fun hc396813 => ?_)
              · have r396814 : p394974.toInt ≤ g396809.toInt := gC_le hc396813
                refine G_iconst 0 dr_cX17_mayMerge_136 (by decide +kernel) ?_
                exact G_zretA FieldType.boolean dr_cX17_mayMerge_137 rfl rfl (Nat.le_of_ble_eq_true rfl) (Nat.le_of_ble_eq_true rfl) ⟨0, rfl, rfl, (Nat.le_of_ble_eq_true rfl), (Nat.le_of_ble_eq_true rfl), (gB_w (gBl (show Int32.toInt 0 = 0 by decide)) (by decide) (by decide)), (by have qa0 : Int32.toInt 0 = 0 := (by decide); omega)⟩
              · have r396815 : g396809.toInt < p394974.toInt := gC_nle hc396813
                have bg396809' : gB g396809 (-2147483648) 2147483646 := ⟨by omega, by omega⟩
                have bp394974' : gB p394974 (-2147483647) 2147483647 := ⟨by omega, by omega⟩
                refine G_iconst 1 dr_cX17_mayMerge_132 (by decide +kernel) ?_
                refine G_goto 137 dr_cX17_mayMerge_133 (by decide +kernel) ?_
                exact G_zretA FieldType.boolean dr_cX17_mayMerge_137 rfl rfl (Nat.le_of_ble_eq_true rfl) (Nat.le_of_ble_eq_true rfl) ⟨1, rfl, rfl, (Nat.le_of_ble_eq_true rfl), (Nat.le_of_ble_eq_true rfl), (gB_w (gBl (show Int32.toInt 1 = 1 by decide)) (by decide) (by decide)), (by have qa0 : Int32.toInt 1 = 1 := (by decide); omega)⟩
            · have r396816 : g396808.toInt < 2000 := gj_nleL hc396811 (show Int32.toInt 2000 = 2000 by decide)
              have bg396808' : gB g396808 0 1999 := ⟨by omega, by omega⟩
              refine G_aload_n 2 dr_cX17_mayMerge_41 rfl ?_
              refine Gp_get 1 hm394982 he394983 dr_cX17_mayMerge_42 (gk_X17 D I) (Nat.le_of_ble_eq_true rfl) wr_7_75 rfl ?_
              refine G_iload_n 3 dr_cX17_mayMerge_45 rfl ?_
              obtain ⟨q396817, hx396819⟩ : ∃ x, x = γ 11 p394972.toInt.toNat := ⟨_, rfl⟩
              have ht396818 : rKd γ q396817 36 := by rw [hx396819]; exact (hg395032 _ (show p394972.toInt.toNat < 2000 by omega)).2.1
              refine Gp_aald 5 hm395029 he395030 dr_cX17_mayMerge_46 rfl rfl (gB_in bp394972' (by decide) (by decide)) ?_
              rw [show f395031 p394972.toNatClampNeg = some q396817 from (hg395032 _ (show p394972.toInt.toNat < 2000 by omega)).1.trans (by rw [hx396819])]
              change G _ _ _ _ _ _ _ (.ref q396817 :: _) _ _ _
              refine G_iload 0 dr_cX17_mayMerge_47 rfl ?_
              have hm396820 : q396817 ∈ P394969 := RS_m hT ht396818 (by decide)
              obtain ⟨f396822, he396821, wf396822⟩ := show rk_36 I (F394970 q396817) from RS_o hT ht396818
              refine Gw_callS (As := [.ref q396817, .int g396808]) (gV_ok D I) (cp_1845_SpillForgeModel_has l hl0 D I P394969 F394970 q396817 g396808 f396822 hm396820 he396821 (gB_w bg396808' (by decide) (by decide))) dr_cX17_mayMerge_49 ⟨wr_10_203, wr_1_14, wr_10_205, by decide, rfl, (Nat.le_of_ble_eq_true rfl), (Nat.le_of_ble_eq_true rfl)⟩ wr_10_204 (show 0 + 0 ≤ 0 by first | omega | decide) (show 0 + 0 ≤ 0 by first | omega | decide) (Nat.le_of_ble_eq_true rfl) (fun r396826 w396827 dc396823 ds396824 hp396825 => ?_) (fun _ _ _ _ _ z => z.elim)
              rcases hp396825 with ⟨z396828, z396829, rfl, rfl, hdc, hds, r396830, r396831, r396832, r396833, r396834⟩ | ⟨z396835, z396836, rfl, rfl, hdc, hds, r396837, r396838, r396839, r396840, r396841⟩
              · change G _ _ _ _ _ _ _ (.int 0 :: _) _ _ _
                refine G_widen (cs' := 0) (sl' := 0) (by omega) (by omega) ?_
                refine G_istore (L' := [(6, .int 0), (5, .int g396808), (4, .int g396809), (0, .ref q394971), (1, .int p394972), (2, .int p394973), (3, .int p394974)]) dr_cX17_mayMerge_52 (Nat.le_of_ble_eq_true rfl) rfl ?_
                refine G_aload_n 3 dr_cX17_mayMerge_54 rfl ?_
                refine Gp_get 1 hm394982 he394983 dr_cX17_mayMerge_55 (gk_X17 D I) (Nat.le_of_ble_eq_true rfl) wr_7_75 rfl ?_
                refine G_iload_n 5 dr_cX17_mayMerge_58 rfl ?_
                obtain ⟨q396843, hx396845⟩ : ∃ x, x = γ 11 p394973.toInt.toNat := ⟨_, rfl⟩
                have ht396844 : rKd γ q396843 36 := by rw [hx396845]; exact (hg395032 _ (show p394973.toInt.toNat < 2000 by omega)).2.1
                refine Gp_aald 5 hm395029 he395030 dr_cX17_mayMerge_59 rfl rfl (gB_in bp394973' (by decide) (by decide)) ?_
                rw [show f395031 p394973.toNatClampNeg = some q396843 from (hg395032 _ (show p394973.toInt.toNat < 2000 by omega)).1.trans (by rw [hx396845])]
                change G _ _ _ _ _ _ _ (.ref q396843 :: _) _ _ _
                refine G_iload 1 dr_cX17_mayMerge_60 rfl ?_
                have hm396846 : q396843 ∈ P394969 := RS_m hT ht396844 (by decide)
                obtain ⟨f396848, he396847, wf396848⟩ := show rk_36 I (F394970 q396843) from RS_o hT ht396844
                refine Gw_callS (As := [.ref q396843, .int g396808]) (gV_ok D I) (cp_1845_SpillForgeModel_has l hl0 D I P394969 F394970 q396843 g396808 f396848 hm396846 he396847 (gB_w bg396808' (by decide) (by decide))) dr_cX17_mayMerge_62 ⟨wr_10_203, wr_1_14, wr_10_205, by decide, rfl, (Nat.le_of_ble_eq_true rfl), (Nat.le_of_ble_eq_true rfl)⟩ wr_10_204 (show 0 + 0 ≤ 0 by first | omega | decide) (show 0 + 0 ≤ 0 by first | omega | decide) (Nat.le_of_ble_eq_true rfl) (fun r396852 w396853 dc396849 ds396850 hp396851 => ?_) (fun _ _ _ _ _ z => z.elim)
                rcases hp396851 with ⟨z396854, z396855, rfl, rfl, hdc, hds, r396856, r396857, r396858, r396859, r396860⟩ | ⟨z396861, z396862, rfl, rfl, hdc, hds, r396863, r396864, r396865, r396866, r396867⟩
                · change G _ _ _ _ _ _ _ (.int 0 :: _) _ _ _
                  refine G_widen (cs' := 0) (sl' := 0) (by omega) (by omega) ?_
                  refine G_istore (L' := [(7, .int 0), (6, .int 0), (5, .int g396808), (4, .int g396809), (0, .ref q394971), (1, .int p394972), (2, .int p394973), (3, .int p394974)]) dr_cX17_mayMerge_65 (Nat.le_of_ble_eq_true rfl) rfl ?_
                  refine G_iload 1 dr_cX17_mayMerge_67 rfl ?_
                  refine G_if_ne 80 dr_cX17_mayMerge_69 (by decide +kernel) (fun hc => absurd hc (by decide)) (fun _ => ?_)
                  refine G_iload 0 dr_cX17_mayMerge_72 rfl ?_
                  refine G_if_ne 80 dr_cX17_mayMerge_74 (by decide +kernel) (fun hc => absurd hc (by decide)) (fun _ => ?_)
                  refine G_goto 120 dr_cX17_mayMerge_77 (by decide +kernel) ?_
                  obtain ⟨z396869, hz396869⟩ : ∃ z : Int32, z = g396808 + Int32.ofInt 1 := ⟨_, rfl⟩
                  have ez396869 : z396869.toInt = g396808.toInt + 1 := gI_inc hz396869 (by decide) bg396808' (by decide) (by decide)
                  have bz396869 : gB z396869 1 2000 := ⟨by omega, by omega⟩
                  refine G_iinc (L' := [(5, .int z396869), (7, .int 0), (6, .int 0), (4, .int g396809), (0, .ref q394971), (1, .int p394972), (2, .int p394973), (3, .int p394974)]) z396869 2 dr_cX17_mayMerge_120 rfl hz396869.symm (Nat.le_of_ble_eq_true rfl) rfl ?_
                  refine G_goto 33 dr_cX17_mayMerge_123 (by decide +kernel) ?_
                  refine G_lv (L' := [(5, .int z396869), (4, .int g396809), (0, .ref q394971), (1, .int p394972), (2, .int p394973), (3, .int p394974)]) [0, 3, 4, 5, 6, 7] rfl ?_
                  exact ih33_396809 z396869 g396809 (gB_w bz396869 (by decide) (by decide)) (mz_up ez396869 (Int.le_trans bg396808'.2 (by decide)) hm33_396809)
                · change G _ _ _ _ _ _ _ (.int 1 :: _) _ _ _
                  refine G_widen (cs' := 0) (sl' := 0) (by omega) (by omega) ?_
                  refine G_istore (L' := [(7, .int 1), (6, .int 0), (5, .int g396808), (4, .int g396809), (0, .ref q394971), (1, .int p394972), (2, .int p394973), (3, .int p394974)]) dr_cX17_mayMerge_65 (Nat.le_of_ble_eq_true rfl) rfl ?_
                  refine G_iload 1 dr_cX17_mayMerge_67 rfl ?_
                  refine G_if_ne 80 dr_cX17_mayMerge_69 (by decide +kernel) (fun hc => absurd hc (by decide)) (fun _ => ?_)
                  refine G_iload 0 dr_cX17_mayMerge_72 rfl ?_
                  refine G_if_ne 80 dr_cX17_mayMerge_74 (by decide +kernel) (fun _ => ?_) (fun hc => absurd hc (by decide))
                  refine G_iload 3 dr_cX17_mayMerge_80 rfl ?_
                  refine G_aload_n 4 dr_cX17_mayMerge_82 rfl ?_
                  refine Gp_get 1 hm394982 he394983 dr_cX17_mayMerge_83 (gk_X17 D I) (Nat.le_of_ble_eq_true rfl) wr_7_75 rfl ?_
                  refine G_iload 2 dr_cX17_mayMerge_86 rfl ?_
                  obtain ⟨q396870, hx396872⟩ : ∃ x, x = γ 11 g396808.toInt.toNat := ⟨_, rfl⟩
                  have ht396871 : rKd γ q396870 36 := by rw [hx396872]; exact (hg395032 _ (show g396808.toInt.toNat < 2000 by omega)).2.1
                  refine Gp_aald 5 hm395029 he395030 dr_cX17_mayMerge_88 rfl rfl (gB_in bg396808' (by decide) (by decide)) ?_
                  rw [show f395031 g396808.toNatClampNeg = some q396870 from (hg395032 _ (show g396808.toInt.toNat < 2000 by omega)).1.trans (by rw [hx396872])]
                  change G _ _ _ _ _ _ _ (.ref q396870 :: _) _ _ _
                  have hm396873 : q396870 ∈ P394969 := RS_m hT ht396871 (by decide)
                  obtain ⟨f396875, he396874, wf396875⟩ := show rk_36 I (F394970 q396870) from RS_o hT ht396871
                  refine Gw_callS (As := [.ref q396870]) (gV_ok D I) (cp_1899_SpillForgeModel_count l hl0 D I P394969 F394970 q396870 f396875 hm396873 he396874) dr_cX17_mayMerge_89 ⟨wr_11_16, wr_1_14, wr_11_18, by decide, rfl, (Nat.le_of_ble_eq_true rfl), (Nat.le_of_ble_eq_true rfl)⟩ wr_11_17 (show 0 + 0 ≤ 0 by first | omega | decide) (show 0 + 0 ≤ 0 by first | omega | decide) (Nat.le_of_ble_eq_true rfl) (fun r396879 w396880 dc396876 ds396877 hp396878 => ?_) (fun _ _ _ _ _ z => z.elim)
                  obtain ⟨o396881, rfl, rfl, hdc, hds, ht396882⟩ := hp396878
                  have bo396881 := gB_any o396881
                  change G _ _ _ _ _ _ _ (.int o396881 :: _) _ _ _
                  refine G_widen (cs' := 0) (sl' := 0) (by omega) (by omega) ?_
                  refine G_iload 1 dr_cX17_mayMerge_92 rfl ?_
                  refine G_if_eq 106 dr_cX17_mayMerge_94 (by decide +kernel) (fun _ => ?_) (fun hc => absurd hc (by decide))
                  refine G_iconst 0 dr_cX17_mayMerge_106 (by decide +kernel) ?_
                  refine G_isub dr_cX17_mayMerge_107 (G_nam fun z396883 hz396883 => ?_)
                  have ez396883 : z396883.toInt = o396881.toInt - 0 := by rw [gI_sub hz396883 bo396881 (gBl (show Int32.toInt 0 = 0 by decide)) (by decide) (by decide), show Int32.toInt 0 = 0 from by decide]
                  have bz396883 : gB z396883 (-2147483648) 2147483647 := gB_sub (gI_sub hz396883 bo396881 (gBl (show Int32.toInt 0 = 0 by decide)) (by decide) (by decide)) bo396881 (gBl (show Int32.toInt 0 = 0 by decide)) (by decide) (by decide)
                  refine G_iload_n 7 dr_cX17_mayMerge_108 rfl ?_
                  refine G_icmp_lt 116 dr_cX17_mayMerge_109 (by decide +kernel) (fun hc396884 => ?_) (fun hc396884 => ?_)
                  · have r396885 : z396883.toInt < p394974.toInt := gC_lt hc396884
                    have bz396883' : gB z396883 (-2147483648) 2147483646 := ⟨by omega, by omega⟩
                    have bp394974' : gB p394974 (-2147483647) 2147483647 := ⟨by omega, by omega⟩
                    refine G_iconst 0 dr_cX17_mayMerge_116 (by decide +kernel) ?_
                    refine G_iadd dr_cX17_mayMerge_117 (G_nam fun z396886 hz396886 => ?_)
                    have ez396886 : z396886.toInt = g396809.toInt + 0 := by rw [gI_add hz396886 bg396809 (gBl (show Int32.toInt 0 = 0 by decide)) (by decide) (by decide), show Int32.toInt 0 = 0 from by decide]
                    have bz396886 : gB z396886 (-2147483648) 2147483647 := gB_add (gI_add hz396886 bg396809 (gBl (show Int32.toInt 0 = 0 by decide)) (by decide) (by decide)) bg396809 (gBl (show Int32.toInt 0 = 0 by decide)) (by decide) (by decide)
                    refine G_istore (L' := [(4, .int z396886), (7, .int 1), (6, .int 0), (5, .int g396808), (0, .ref q394971), (1, .int p394972), (2, .int p394973), (3, .int p394974)]) dr_cX17_mayMerge_118 (Nat.le_of_ble_eq_true rfl) rfl ?_
                    obtain ⟨z396887, hz396887⟩ : ∃ z : Int32, z = g396808 + Int32.ofInt 1 := ⟨_, rfl⟩
                    have ez396887 : z396887.toInt = g396808.toInt + 1 := gI_inc hz396887 (by decide) bg396808' (by decide) (by decide)
                    have bz396887 : gB z396887 1 2000 := ⟨by omega, by omega⟩
                    refine G_iinc (L' := [(5, .int z396887), (4, .int z396886), (7, .int 1), (6, .int 0), (0, .ref q394971), (1, .int p394972), (2, .int p394973), (3, .int p394974)]) z396887 3 dr_cX17_mayMerge_120 rfl hz396887.symm (Nat.le_of_ble_eq_true rfl) rfl ?_
                    refine G_goto 33 dr_cX17_mayMerge_123 (by decide +kernel) ?_
                    refine G_lv (L' := [(5, .int z396887), (4, .int z396886), (0, .ref q394971), (1, .int p394972), (2, .int p394973), (3, .int p394974)]) [0, 1, 4, 5, 6, 7] rfl ?_
                    exact ih33_396809 z396887 z396886 (gB_w bz396887 (by decide) (by decide)) (mz_up ez396887 (Int.le_trans bg396808'.2 (by decide)) hm33_396809)
                  · have r396888 : p394974.toInt ≤ z396883.toInt := gC_nlt hc396884
                    refine G_iconst 1 dr_cX17_mayMerge_112 (by decide +kernel) ?_
                    refine G_goto 117 dr_cX17_mayMerge_113 (by decide +kernel) ?_
                    refine G_iadd dr_cX17_mayMerge_117 (G_nam fun z396889 hz396889 => ?_)
                    have bz396889 : gB z396889 (-2147483648) 2147483647 := gB_any z396889
                    refine G_istore (L' := [(4, .int z396889), (7, .int 1), (6, .int 0), (5, .int g396808), (0, .ref q394971), (1, .int p394972), (2, .int p394973), (3, .int p394974)]) dr_cX17_mayMerge_118 (Nat.le_of_ble_eq_true rfl) rfl ?_
                    obtain ⟨z396890, hz396890⟩ : ∃ z : Int32, z = g396808 + Int32.ofInt 1 := ⟨_, rfl⟩
                    have ez396890 : z396890.toInt = g396808.toInt + 1 := gI_inc hz396890 (by decide) bg396808' (by decide) (by decide)
                    have bz396890 : gB z396890 1 2000 := ⟨by omega, by omega⟩
                    refine G_iinc (L' := [(5, .int z396890), (4, .int z396889), (7, .int 1), (6, .int 0), (0, .ref q394971), (1, .int p394972), (2, .int p394973), (3, .int p394974)]) z396890 3 dr_cX17_mayMerge_120 rfl hz396890.symm (Nat.le_of_ble_eq_true rfl) rfl ?_
                    refine G_goto 33 dr_cX17_mayMerge_123 (by decide +kernel) ?_
                    refine G_lv (L' := [(5, .int z396890), (4, .int z396889), (0, .ref q394971), (1, .int p394972), (2, .int p394973), (3, .int p394974)]) [0, 1, 4, 5, 6, 7] rfl ?_
                    exact ih33_396809 z396890 z396889 (gB_w bz396890 (by decide) (by decide)) (mz_up ez396890 (Int.le_trans bg396808'.2 (by decide)) hm33_396809)
              · change G _ _ _ _ _ _ _ (.int 1 :: _) _ _ _
                refine G_widen (cs' := 0) (sl' := 0) (by omega) (by omega) ?_
                refine G_istore (L' := [(6, .int 1), (5, .int g396808), (4, .int g396809), (0, .ref q394971), (1, .int p394972), (2, .int p394973), (3, .int p394974)]) dr_cX17_mayMerge_52 (Nat.le_of_ble_eq_true rfl) rfl ?_
                refine G_aload_n 3 dr_cX17_mayMerge_54 rfl ?_
                refine Gp_get 1 hm394982 he394983 dr_cX17_mayMerge_55 (gk_X17 D I) (Nat.le_of_ble_eq_true rfl) wr_7_75 rfl ?_
                refine G_iload_n 5 dr_cX17_mayMerge_58 rfl ?_
                obtain ⟨q396891, hx396893⟩ : ∃ x, x = γ 11 p394973.toInt.toNat := ⟨_, rfl⟩
                have ht396892 : rKd γ q396891 36 := by rw [hx396893]; exact (hg395032 _ (show p394973.toInt.toNat < 2000 by omega)).2.1
                refine Gp_aald 5 hm395029 he395030 dr_cX17_mayMerge_59 rfl rfl (gB_in bp394973' (by decide) (by decide)) ?_
                rw [show f395031 p394973.toNatClampNeg = some q396891 from (hg395032 _ (show p394973.toInt.toNat < 2000 by omega)).1.trans (by rw [hx396893])]
                change G _ _ _ _ _ _ _ (.ref q396891 :: _) _ _ _
                refine G_iload 1 dr_cX17_mayMerge_60 rfl ?_
                have hm396894 : q396891 ∈ P394969 := RS_m hT ht396892 (by decide)
                obtain ⟨f396896, he396895, wf396896⟩ := show rk_36 I (F394970 q396891) from RS_o hT ht396892
                refine Gw_callS (As := [.ref q396891, .int g396808]) (gV_ok D I) (cp_1845_SpillForgeModel_has l hl0 D I P394969 F394970 q396891 g396808 f396896 hm396894 he396895 (gB_w bg396808' (by decide) (by decide))) dr_cX17_mayMerge_62 ⟨wr_10_203, wr_1_14, wr_10_205, by decide, rfl, (Nat.le_of_ble_eq_true rfl), (Nat.le_of_ble_eq_true rfl)⟩ wr_10_204 (show 0 + 0 ≤ 0 by first | omega | decide) (show 0 + 0 ≤ 0 by first | omega | decide) (Nat.le_of_ble_eq_true rfl) (fun r396900 w396901 dc396897 ds396898 hp396899 => ?_) (fun _ _ _ _ _ z => z.elim)
                rcases hp396899 with ⟨z396902, z396903, rfl, rfl, hdc, hds, r396904, r396905, r396906, r396907, r396908⟩ | ⟨z396909, z396910, rfl, rfl, hdc, hds, r396911, r396912, r396913, r396914, r396915⟩
                · change G _ _ _ _ _ _ _ (.int 0 :: _) _ _ _
                  refine G_widen (cs' := 0) (sl' := 0) (by omega) (by omega) ?_
                  refine G_istore (L' := [(7, .int 0), (6, .int 1), (5, .int g396808), (4, .int g396809), (0, .ref q394971), (1, .int p394972), (2, .int p394973), (3, .int p394974)]) dr_cX17_mayMerge_65 (Nat.le_of_ble_eq_true rfl) rfl ?_
                  refine G_iload 1 dr_cX17_mayMerge_67 rfl ?_
                  refine G_if_ne 80 dr_cX17_mayMerge_69 (by decide +kernel) (fun _ => ?_) (fun hc => absurd hc (by decide))
                  refine G_iload 3 dr_cX17_mayMerge_80 rfl ?_
                  refine G_aload_n 4 dr_cX17_mayMerge_82 rfl ?_
                  refine Gp_get 1 hm394982 he394983 dr_cX17_mayMerge_83 (gk_X17 D I) (Nat.le_of_ble_eq_true rfl) wr_7_75 rfl ?_
                  refine G_iload 2 dr_cX17_mayMerge_86 rfl ?_
                  obtain ⟨q396917, hx396919⟩ : ∃ x, x = γ 11 g396808.toInt.toNat := ⟨_, rfl⟩
                  have ht396918 : rKd γ q396917 36 := by rw [hx396919]; exact (hg395032 _ (show g396808.toInt.toNat < 2000 by omega)).2.1
                  refine Gp_aald 5 hm395029 he395030 dr_cX17_mayMerge_88 rfl rfl (gB_in bg396808' (by decide) (by decide)) ?_
                  rw [show f395031 g396808.toNatClampNeg = some q396917 from (hg395032 _ (show g396808.toInt.toNat < 2000 by omega)).1.trans (by rw [hx396919])]
                  change G _ _ _ _ _ _ _ (.ref q396917 :: _) _ _ _
                  have hm396920 : q396917 ∈ P394969 := RS_m hT ht396918 (by decide)
                  obtain ⟨f396922, he396921, wf396922⟩ := show rk_36 I (F394970 q396917) from RS_o hT ht396918
                  refine Gw_callS (As := [.ref q396917]) (gV_ok D I) (cp_1899_SpillForgeModel_count l hl0 D I P394969 F394970 q396917 f396922 hm396920 he396921) dr_cX17_mayMerge_89 ⟨wr_11_16, wr_1_14, wr_11_18, by decide, rfl, (Nat.le_of_ble_eq_true rfl), (Nat.le_of_ble_eq_true rfl)⟩ wr_11_17 (show 0 + 0 ≤ 0 by first | omega | decide) (show 0 + 0 ≤ 0 by first | omega | decide) (Nat.le_of_ble_eq_true rfl) (fun r396926 w396927 dc396923 ds396924 hp396925 => ?_) (fun _ _ _ _ _ z => z.elim)
                  obtain ⟨o396928, rfl, rfl, hdc, hds, ht396929⟩ := hp396925
                  have bo396928 := gB_any o396928
                  change G _ _ _ _ _ _ _ (.int o396928 :: _) _ _ _
                  refine G_widen (cs' := 0) (sl' := 0) (by omega) (by omega) ?_
                  refine G_iload 1 dr_cX17_mayMerge_92 rfl ?_
                  refine G_if_eq 106 dr_cX17_mayMerge_94 (by decide +kernel) (fun hc => absurd hc (by decide)) (fun _ => ?_)
                  refine G_iload 0 dr_cX17_mayMerge_97 rfl ?_
                  refine G_if_eq 106 dr_cX17_mayMerge_99 (by decide +kernel) (fun _ => ?_) (fun hc => absurd hc (by decide))
                  refine G_iconst 0 dr_cX17_mayMerge_106 (by decide +kernel) ?_
                  refine G_isub dr_cX17_mayMerge_107 (G_nam fun z396930 hz396930 => ?_)
                  have ez396930 : z396930.toInt = o396928.toInt - 0 := by rw [gI_sub hz396930 bo396928 (gBl (show Int32.toInt 0 = 0 by decide)) (by decide) (by decide), show Int32.toInt 0 = 0 from by decide]
                  have bz396930 : gB z396930 (-2147483648) 2147483647 := gB_sub (gI_sub hz396930 bo396928 (gBl (show Int32.toInt 0 = 0 by decide)) (by decide) (by decide)) bo396928 (gBl (show Int32.toInt 0 = 0 by decide)) (by decide) (by decide)
                  refine G_iload_n 7 dr_cX17_mayMerge_108 rfl ?_
                  refine G_icmp_lt 116 dr_cX17_mayMerge_109 (by decide +kernel) (fun hc396931 => ?_) (fun hc396931 => ?_)
                  · have r396932 : z396930.toInt < p394974.toInt := gC_lt hc396931
                    have bz396930' : gB z396930 (-2147483648) 2147483646 := ⟨by omega, by omega⟩
                    have bp394974' : gB p394974 (-2147483647) 2147483647 := ⟨by omega, by omega⟩
                    refine G_iconst 0 dr_cX17_mayMerge_116 (by decide +kernel) ?_
                    refine G_iadd dr_cX17_mayMerge_117 (G_nam fun z396933 hz396933 => ?_)
                    have ez396933 : z396933.toInt = g396809.toInt + 0 := by rw [gI_add hz396933 bg396809 (gBl (show Int32.toInt 0 = 0 by decide)) (by decide) (by decide), show Int32.toInt 0 = 0 from by decide]
                    have bz396933 : gB z396933 (-2147483648) 2147483647 := gB_add (gI_add hz396933 bg396809 (gBl (show Int32.toInt 0 = 0 by decide)) (by decide) (by decide)) bg396809 (gBl (show Int32.toInt 0 = 0 by decide)) (by decide) (by decide)
                    refine G_istore (L' := [(4, .int z396933), (7, .int 0), (6, .int 1), (5, .int g396808), (0, .ref q394971), (1, .int p394972), (2, .int p394973), (3, .int p394974)]) dr_cX17_mayMerge_118 (Nat.le_of_ble_eq_true rfl) rfl ?_
                    obtain ⟨z396934, hz396934⟩ : ∃ z : Int32, z = g396808 + Int32.ofInt 1 := ⟨_, rfl⟩
                    have ez396934 : z396934.toInt = g396808.toInt + 1 := gI_inc hz396934 (by decide) bg396808' (by decide) (by decide)
                    have bz396934 : gB z396934 1 2000 := ⟨by omega, by omega⟩
                    refine G_iinc (L' := [(5, .int z396934), (4, .int z396933), (7, .int 0), (6, .int 1), (0, .ref q394971), (1, .int p394972), (2, .int p394973), (3, .int p394974)]) z396934 3 dr_cX17_mayMerge_120 rfl hz396934.symm (Nat.le_of_ble_eq_true rfl) rfl ?_
                    refine G_goto 33 dr_cX17_mayMerge_123 (by decide +kernel) ?_
                    refine G_lv (L' := [(5, .int z396934), (4, .int z396933), (0, .ref q394971), (1, .int p394972), (2, .int p394973), (3, .int p394974)]) [0, 1, 4, 5, 6, 7] rfl ?_
                    exact ih33_396809 z396934 z396933 (gB_w bz396934 (by decide) (by decide)) (mz_up ez396934 (Int.le_trans bg396808'.2 (by decide)) hm33_396809)
                  · have r396935 : p394974.toInt ≤ z396930.toInt := gC_nlt hc396931
                    refine G_iconst 1 dr_cX17_mayMerge_112 (by decide +kernel) ?_
                    refine G_goto 117 dr_cX17_mayMerge_113 (by decide +kernel) ?_
                    refine G_iadd dr_cX17_mayMerge_117 (G_nam fun z396936 hz396936 => ?_)
                    have bz396936 : gB z396936 (-2147483648) 2147483647 := gB_any z396936
                    refine G_istore (L' := [(4, .int z396936), (7, .int 0), (6, .int 1), (5, .int g396808), (0, .ref q394971), (1, .int p394972), (2, .int p394973), (3, .int p394974)]) dr_cX17_mayMerge_118 (Nat.le_of_ble_eq_true rfl) rfl ?_
                    obtain ⟨z396937, hz396937⟩ : ∃ z : Int32, z = g396808 + Int32.ofInt 1 := ⟨_, rfl⟩
                    have ez396937 : z396937.toInt = g396808.toInt + 1 := gI_inc hz396937 (by decide) bg396808' (by decide) (by decide)
                    have bz396937 : gB z396937 1 2000 := ⟨by omega, by omega⟩
                    refine G_iinc (L' := [(5, .int z396937), (4, .int z396936), (7, .int 0), (6, .int 1), (0, .ref q394971), (1, .int p394972), (2, .int p394973), (3, .int p394974)]) z396937 3 dr_cX17_mayMerge_120 rfl hz396937.symm (Nat.le_of_ble_eq_true rfl) rfl ?_
                    refine G_goto 33 dr_cX17_mayMerge_123 (by decide +kernel) ?_
                    refine G_lv (L' := [(5, .int z396937), (4, .int z396936), (0, .ref q394971), (1, .int p394972), (2, .int p394973), (3, .int p394974)]) [0, 1, 4, 5, 6, 7] rfl ?_
                    exact ih33_396809 z396937 z396936 (gB_w bz396937 (by decide) (by decide)) (mz_up ez396937 (Int.le_trans bg396808'.2 (by decide)) hm33_396809)
                · change G _ _ _ _ _ _ _ (.int 1 :: _) _ _ _
                  refine G_widen (cs' := 0) (sl' := 0) (by omega) (by omega) ?_
                  refine G_istore (L' := [(7, .int 1), (6, .int 1), (5, .int g396808), (4, .int g396809), (0, .ref q394971), (1, .int p394972), (2, .int p394973), (3, .int p394974)]) dr_cX17_mayMerge_65 (Nat.le_of_ble_eq_true rfl) rfl ?_
                  refine G_iload 1 dr_cX17_mayMerge_67 rfl ?_
                  refine G_if_ne 80 dr_cX17_mayMerge_69 (by decide +kernel) (fun _ => ?_) (fun hc => absurd hc (by decide))
                  refine G_iload 3 dr_cX17_mayMerge_80 rfl ?_
                  refine G_aload_n 4 dr_cX17_mayMerge_82 rfl ?_
                  refine Gp_get 1 hm394982 he394983 dr_cX17_mayMerge_83 (gk_X17 D I) (Nat.le_of_ble_eq_true rfl) wr_7_75 rfl ?_
                  refine G_iload 2 dr_cX17_mayMerge_86 rfl ?_
                  obtain ⟨q396938, hx396940⟩ : ∃ x, x = γ 11 g396808.toInt.toNat := ⟨_, rfl⟩
                  have ht396939 : rKd γ q396938 36 := by rw [hx396940]; exact (hg395032 _ (show g396808.toInt.toNat < 2000 by omega)).2.1
                  refine Gp_aald 5 hm395029 he395030 dr_cX17_mayMerge_88 rfl rfl (gB_in bg396808' (by decide) (by decide)) ?_
                  rw [show f395031 g396808.toNatClampNeg = some q396938 from (hg395032 _ (show g396808.toInt.toNat < 2000 by omega)).1.trans (by rw [hx396940])]
                  change G _ _ _ _ _ _ _ (.ref q396938 :: _) _ _ _
                  have hm396941 : q396938 ∈ P394969 := RS_m hT ht396939 (by decide)
                  obtain ⟨f396943, he396942, wf396943⟩ := show rk_36 I (F394970 q396938) from RS_o hT ht396939
                  refine Gw_callS (As := [.ref q396938]) (gV_ok D I) (cp_1899_SpillForgeModel_count l hl0 D I P394969 F394970 q396938 f396943 hm396941 he396942) dr_cX17_mayMerge_89 ⟨wr_11_16, wr_1_14, wr_11_18, by decide, rfl, (Nat.le_of_ble_eq_true rfl), (Nat.le_of_ble_eq_true rfl)⟩ wr_11_17 (show 0 + 0 ≤ 0 by first | omega | decide) (show 0 + 0 ≤ 0 by first | omega | decide) (Nat.le_of_ble_eq_true rfl) (fun r396947 w396948 dc396944 ds396945 hp396946 => ?_) (fun _ _ _ _ _ z => z.elim)
                  obtain ⟨o396949, rfl, rfl, hdc, hds, ht396950⟩ := hp396946
                  have bo396949 := gB_any o396949
                  change G _ _ _ _ _ _ _ (.int o396949 :: _) _ _ _
                  refine G_widen (cs' := 0) (sl' := 0) (by omega) (by omega) ?_
                  refine G_iload 1 dr_cX17_mayMerge_92 rfl ?_
                  refine G_if_eq 106 dr_cX17_mayMerge_94 (by decide +kernel) (fun hc => absurd hc (by decide)) (fun _ => ?_)
                  refine G_iload 0 dr_cX17_mayMerge_97 rfl ?_
                  refine G_if_eq 106 dr_cX17_mayMerge_99 (by decide +kernel) (fun hc => absurd hc (by decide)) (fun _ => ?_)
                  refine G_iconst 1 dr_cX17_mayMerge_102 (by decide +kernel) ?_
                  refine G_goto 107 dr_cX17_mayMerge_103 (by decide +kernel) ?_
                  refine G_isub dr_cX17_mayMerge_107 (G_nam fun z396951 hz396951 => ?_)
                  have bz396951 : gB z396951 (-2147483648) 2147483647 := gB_any z396951
                  refine G_iload_n 7 dr_cX17_mayMerge_108 rfl ?_
                  refine G_icmp_lt 116 dr_cX17_mayMerge_109 (by decide +kernel) (fun hc396952 => ?_) (fun hc396952 => ?_)
                  · have r396953 : z396951.toInt < p394974.toInt := gC_lt hc396952
                    have bz396951' : gB z396951 (-2147483648) 2147483646 := ⟨by omega, by omega⟩
                    have bp394974' : gB p394974 (-2147483647) 2147483647 := ⟨by omega, by omega⟩
                    refine G_iconst 0 dr_cX17_mayMerge_116 (by decide +kernel) ?_
                    refine G_iadd dr_cX17_mayMerge_117 (G_nam fun z396954 hz396954 => ?_)
                    have ez396954 : z396954.toInt = g396809.toInt + 0 := by rw [gI_add hz396954 bg396809 (gBl (show Int32.toInt 0 = 0 by decide)) (by decide) (by decide), show Int32.toInt 0 = 0 from by decide]
                    have bz396954 : gB z396954 (-2147483648) 2147483647 := gB_add (gI_add hz396954 bg396809 (gBl (show Int32.toInt 0 = 0 by decide)) (by decide) (by decide)) bg396809 (gBl (show Int32.toInt 0 = 0 by decide)) (by decide) (by decide)
                    refine G_istore (L' := [(4, .int z396954), (7, .int 1), (6, .int 1), (5, .int g396808), (0, .ref q394971), (1, .int p394972), (2, .int p394973), (3, .int p394974)]) dr_cX17_mayMerge_118 (Nat.le_of_ble_eq_true rfl) rfl ?_
                    obtain ⟨z396955, hz396955⟩ : ∃ z : Int32, z = g396808 + Int32.ofInt 1 := ⟨_, rfl⟩
                    have ez396955 : z396955.toInt = g396808.toInt + 1 := gI_inc hz396955 (by decide) bg396808' (by decide) (by decide)
                    have bz396955 : gB z396955 1 2000 := ⟨by omega, by omega⟩
                    refine G_iinc (L' := [(5, .int z396955), (4, .int z396954), (7, .int 1), (6, .int 1), (0, .ref q394971), (1, .int p394972), (2, .int p394973), (3, .int p394974)]) z396955 3 dr_cX17_mayMerge_120 rfl hz396955.symm (Nat.le_of_ble_eq_true rfl) rfl ?_
                    refine G_goto 33 dr_cX17_mayMerge_123 (by decide +kernel) ?_
                    refine G_lv (L' := [(5, .int z396955), (4, .int z396954), (0, .ref q394971), (1, .int p394972), (2, .int p394973), (3, .int p394974)]) [0, 1, 4, 5, 6, 7] rfl ?_
                    exact ih33_396809 z396955 z396954 (gB_w bz396955 (by decide) (by decide)) (mz_up ez396955 (Int.le_trans bg396808'.2 (by decide)) hm33_396809)
                  · have r396956 : p394974.toInt ≤ z396951.toInt := gC_nlt hc396952
                    refine G_iconst 1 dr_cX17_mayMerge_112 (by decide +kernel) ?_
                    refine G_goto 117 dr_cX17_mayMerge_113 (by decide +kernel) ?_
                    refine G_iadd dr_cX17_mayMerge_117 (G_nam fun z396957 hz396957 => ?_)
                    have bz396957 : gB z396957 (-2147483648) 2147483647 := gB_any z396957
                    refine G_istore (L' := [(4, .int z396957), (7, .int 1), (6, .int 1), (5, .int g396808), (0, .ref q394971), (1, .int p394972), (2, .int p394973), (3, .int p394974)]) dr_cX17_mayMerge_118 (Nat.le_of_ble_eq_true rfl) rfl ?_
                    obtain ⟨z396958, hz396958⟩ : ∃ z : Int32, z = g396808 + Int32.ofInt 1 := ⟨_, rfl⟩
                    have ez396958 : z396958.toInt = g396808.toInt + 1 := gI_inc hz396958 (by decide) bg396808' (by decide) (by decide)
                    have bz396958 : gB z396958 1 2000 := ⟨by omega, by omega⟩
                    refine G_iinc (L' := [(5, .int z396958), (4, .int z396957), (7, .int 1), (6, .int 1), (0, .ref q394971), (1, .int p394972), (2, .int p394973), (3, .int p394974)]) z396958 3 dr_cX17_mayMerge_120 rfl hz396958.symm (Nat.le_of_ble_eq_true rfl) rfl ?_
                    refine G_goto 33 dr_cX17_mayMerge_123 (by decide +kernel) ?_
                    refine G_lv (L' := [(5, .int z396958), (4, .int z396957), (0, .ref q394971), (1, .int p394972), (2, .int p394973), (3, .int p394974)]) [0, 1, 4, 5, 6, 7] rfl ?_
                    exact ih33_396809 z396958 z396957 (gB_w bz396958 (by decide) (by decide)) (mz_up ez396958 (Int.le_trans bg396808'.2 (by decide)) hm33_396809)
        exact hlp33_396809 (((2001 : Int) - 0).toNat + 1) 0 0 (gB_w (gBl (show Int32.toInt 0 = 0 by decide)) (by decide) (by decide)) (Nat.lt_succ_self _)
      · change G _ _ _ _ _ _ _ (.int 1 :: _) _ _ _
        refine G_widen (cs' := 0) (sl' := 0) (by omega) (by omega) ?_
        refine G_if_eq 27 dr_cX17_mayMerge_22 (by decide +kernel) (fun hc => absurd hc (by decide)) (fun _ => ?_)
        refine G_iconst 0 dr_cX17_mayMerge_25 (by decide +kernel) ?_
        exact G_zretA FieldType.boolean dr_cX17_mayMerge_26 rfl rfl (Nat.le_of_ble_eq_true rfl) (Nat.le_of_ble_eq_true rfl) ⟨0, rfl, rfl, (Nat.le_of_ble_eq_true rfl), (Nat.le_of_ble_eq_true rfl), (gB_w (gBl (show Int32.toInt 0 = 0 by decide)) (by decide) (by decide)), (by have qa0 : Int32.toInt 0 = 0 := (by decide); omega)⟩
abbrev ky_396967_SpillForgeModel_merge : gKey := (cX17_merge, 9, "SpillForgeModel", (some FieldType.boolean), [], "merge", fun _ _ => True)
def pg_396967_SpillForgeModel_merge (D : va_G) (I : FieldType → ClassId) (γ0 el0 : Nat → Nat → Nat) (f : Nat) (B : Nat) (P396961 : List Nat) (F396962 : Nat → va_E) (q396963 : Nat) (q396964 : Nat) (p396965 : Int32) : Option Value → va_W → Nat → Nat → Prop := fun r w dc ds => ∃ (P407578 : List Nat) (F407579 : Nat → va_E) (γ el : Nat → Nat → Nat) (o407577 : Int32), r = some (.int o407577) ∧ w = va_pl P407578 F407579 ∧ rSk f [] ([1, 3, 6] ++ npk) D I P396961 F396962 γ0 el0 P407578 F407579 γ el ∧ (18 * dc + rPh γ0 el0 f ≤ rPh γ el f ∧ ds + rPh γ0 el0 f ≤ rPh γ el f) ∧ rBd γ el f B ∧ gB o407577 0 1 ∧ γ 6 f = γ0 6 f ∧ γ 7 f = γ0 7 f ∧ γ 16 f = γ0 16 f ∧ γ 18 f = γ0 18 f ∧ (o407577.toInt = 0 ∨ rsum (fun i => γ 2 (γ 14 (el (γ 14 q396964) i))) (γ 6 f) + 1 ≤ rsum (fun i => γ0 2 (γ0 14 (el0 (γ0 14 q396964) i))) (γ0 6 f)) ∧ (∀ N : Nat → Prop, rPl γ0 el0 F396962 q396964 (γ0 6 f) (fun _ _ => rNx N) → rPl γ el F407579 q396964 (γ 6 f) (fun _ _ => rNx N)) ∧ (fI (F407579 q396963) 11).toInt = (fI (F396962 q396963) 11).toInt ∧ (fI (F407579 q396963) 14).toInt = (fI (F396962 q396963) 14).toInt ∧ (gIp (o407577.toInt = 0) (γ = γ0 ∧ el = el0 ∧ F407579 = F396962)) ∧ mKp (F396962 q396963) (F407579 q396963)
set_option maxRecDepth 100000 in
set_option maxHeartbeats 1500000 in
theorem cg_396967_SpillForgeModel_merge (l : Launch) (hl0 : l.stackTraces = false) (D : va_G) (I : FieldType → ClassId) (γ0 el0 : Nat → Nat → Nat) (f : Nat) (B : Nat) (P396961 : List Nat) (F396962 : Nat → va_E) (q396963 : Nat) (q396964 : Nat) (p396965 : Int32) (hT0 : RS D I P396961 F396962 γ0 el0) (hzq396963 : rKd γ0 q396963 10) (hzq396964 : rKd γ0 q396964 9) (hf0 : γ0 1 q396964 = f) (hB0 : rBd γ0 el0 f B) (hBk : B ≤ 100000) (x396966 : 0 < γ0 6 f) : CtA (gV D I) l yX17_merge cX17_merge 9 (some FieldType.boolean) 5 111 (((387 * B + 6000) - rPh γ0 el0 f) / 18) ((387 * B + 6000) - rPh γ0 el0 f) [.ref q396963, .ref q396964, .int p396965] (va_pl P396961 F396962) (pg_396967_SpillForgeModel_merge D I γ0 el0 f B P396961 F396962 q396963 q396964 p396965) gNA := by
  refine CtA_of hl0 (by decide) (Nat.le_of_ble_eq_true rfl) ?_
  have bp396965 := gB_any p396965
  obtain ⟨γ, hγ0⟩ : ∃ z, z = γ0 := ⟨_, rfl⟩
  obtain ⟨el, hel0⟩ : ∃ z, z = el0 := ⟨_, rfl⟩
  have hT : RS D I P396961 F396962 γ el := by rw [hγ0, hel0]; exact hT0
  have hst : rSk f [] ([1, 3, 6] ++ npk) D I P396961 F396962 γ0 el0 P396961 F396962 γ el := by rw [hγ0, hel0]; exact rSk_rf hT0
  have hph : rPh γ0 el0 f ≤ rPh γ el f := by rw [hγ0, hel0]; exact Nat.le_refl _
  have hB : rBd γ el f B := by rw [hγ0, hel0]; exact hB0
  have htq396963 : rKd γ q396963 10 := by rw [hγ0]; exact hzq396963
  have htq396964 : rKd γ q396964 9 := by rw [hγ0]; exact hzq396964
  have hf1 : γ 1 q396964 = f := by rw [hγ0]; exact hf0
  have x396966n : 0 < γ 6 f := by rw [hγ0]; exact x396966
  have pk396968 : rPh γ el f ≤ 387 * B + 6000 := rm_pk (rM_ge hT htq396964 hf1).1 (rM_bd hB)
  refine G_widen (cs' := ((rPh γ el f - rPh γ0 el0 f) / 18)) (sl' := (rPh γ el f - rPh γ0 el0 f)) (Nat.zero_le _) (Nat.zero_le _) ?_
  have e0_396969 : γ 6 f = γ0 6 f := by rw [hγ0]
  have e0_396970 : γ 7 f = γ0 7 f := by rw [hγ0]
  have e0_396971 : γ 16 f = γ0 16 f := by rw [hγ0]
  have e0_396972 : γ 18 f = γ0 18 f := by rw [hγ0]
  have e0_396973 : γ 19 f = γ0 19 f := by rw [hγ0]
  have v0_396974 : 0 < γ 6 (γ 1 q396964) := by rw [hf1, hγ0]; exact x396966
  have s0_396975 : rsum (fun i => γ 2 (γ 14 (el (γ 14 q396964) i))) (γ 6 f) = rsum (fun i => γ0 2 (γ0 14 (el0 (γ0 14 q396964) i))) (γ0 6 f) := by rw [hγ0, hel0]
  have hm396976 : q396963 ∈ P396961 := RS_m hT htq396963 (by decide)
  obtain ⟨q396978, q396979, p396980, p396981, p396982, p396983, p396984, p396985, p396986, p396987, p396988, p396989, p396990, p396991, p396992, p396993, p396994, he396977, hB397021, ht396995, ht396996, ht396997, ht396998, ht396999, ht397000, ht397001, ht397002, ht397003, ht397004, ht397005, ht397006, ht397007, ht397008, ht397009, ht397010, ht397011, ht397012, ht397013, ht397014, ht397015, ht397016, ht397017, ht397018, hB397022⟩ := show rk_10 γ (F396962 q396963) from RS_o hT htq396963
  have ac0_11 : (fI (F396962 q396963) 11).toInt = p396982.toInt := by rw [he396977]; rfl
  have ac0_14 : (fI (F396962 q396963) 14).toInt = p396985.toInt := by rw [he396977]; rfl
  have bp396982 : gB p396982 0 100 := (hB397021.2.2.1)
  have bp396985 : gB p396985 0 2000 := (hB397021.2.2.2.1)
  refine G_iconst 0 dr_cX17_merge_0 (by decide +kernel) ?_
  refine G_istore_n (L' := [(3, .int 0), (0, .ref q396963), (1, .ref q396964), (2, .int p396965)]) dr_cX17_merge_1 (Nat.le_of_ble_eq_true rfl) rfl ?_
  have hlp2_406782 : ∀ (n2_406782 : Nat) (g406782 : Int32), gB g406782 0 1000000 → ((1000001 : Int) - g406782.toInt).toNat < n2_406782 → G (gV D I) l (gRm 5 111 (((387 * B + 6000) - rPh γ0 el0 f) / 18) ((387 * B + 6000) - rPh γ0 el0 f)) (gMA (gV D I) (pg_396967_SpillForgeModel_merge D I γ0 el0 f B P396961 F396962 q396963 q396964 p396965) gNA (((387 * B + 6000) - rPh γ0 el0 f) / 18) ((387 * B + 6000) - rPh γ0 el0 f)) ky_396967_SpillForgeModel_merge 2 [(3, .int g406782), (0, .ref q396963), (1, .ref q396964), (2, .int p396965)] [] (va_pl P396961 F396962) ((rPh γ el f - rPh γ0 el0 f) / 18) (rPh γ el f - rPh γ0 el0 f) := by
    intro n2_406782
    induction n2_406782 with
    | zero => intro g406782 bg406782 hm2_406782; exact absurd hm2_406782 (Nat.not_lt_zero _)
    | succ n2_406782 ih2_406782 =>
      intro g406782 bg406782 hm2_406782
      refine G_iload_n 0 dr_cX17_merge_2 rfl ?_
      refine G_aload_n 2 dr_cX17_merge_3 rfl ?_
      have hm406784 : q396964 ∈ P396961 := RS_m hT htq396964 (by decide)
      obtain ⟨q406786, q406787, p406788, p406789, he406785, ht406805, ht406790, ht406791, ht406792, ht406793, r406794, r406795, r406796, r406797, r406798, r406799, r406800, r406801, r406802, r406803, r406804⟩ := show rk_9 γ el q396964 (F396962 q396964) from RS_o hT htq396964
      have bp406788 : gB p406788 0 1000000 := ⟨by omega, by omega⟩
      have bp406789 : gB p406789 0 1000000 := ⟨by omega, by omega⟩
      have hf406806 : γ 1 q406786 = f := (show γ 1 q406786 = γ 1 q396964 from ht406791).trans hf1
      have hf406807 : γ 1 q406787 = f := (show γ 1 q406787 = γ 1 q396964 from ht406793).trans hf1
      have r406808 : γ 6 (γ 1 q396964) = γ 6 f := by rw [hf1]
      have r406809 : γ 16 (γ 1 q396964) = γ 16 f := by rw [hf1]
      have r406810 : p406789.toInt = γ 6 f ∧ p406789.toInt ≤ 40 := by omega
      clear r406800
      refine Gw_callV (As := []) (gV_ok D I) (cp_12780_Code_size l hl0 D I P396961 F396962 q396964 q406786 q406787 p406788 p406789 hm406784 he406785) dr_cX17_merge_4 ⟨wr_10_160, wr_1_15, wr_9_131, by decide, rfl, (Nat.le_of_ble_eq_true rfl), (Nat.le_of_ble_eq_true rfl)⟩ wr_9_129 wr_9_130 hm406784 he406785 rfl (rm_zc pk396968) (rm_zs pk396968) (Nat.le_of_ble_eq_true rfl) (fun r406814 w406815 dc406811 ds406812 hp406813 => ?_) (fun _ _ _ _ _ z => z.elim)
      obtain ⟨rfl, rfl, hdc, hds⟩ := hp406813
      change G _ _ _ _ _ _ _ (.int p406789 :: _) _ _ _
      refine G_widen (cs' := ((rPh γ el f - rPh γ0 el0 f) / 18)) (sl' := (rPh γ el f - rPh γ0 el0 f)) (rm_d0 hdc) (rm_d0 hds) ?_
      refine G_icmp_ge 178 dr_cX17_merge_7 (by decide +kernel) (fun hc406816 => ?_) (fun hc406816 => ?_)
      · have r406817 : p406789.toInt ≤ g406782.toInt := gC_le hc406816
        have ac406818 : (fI (F396962 q396963) 11).toInt = p396982.toInt := by rw [he396977]; rfl
        have ac406819 : (fI (F396962 q396963) 14).toInt = p396985.toInt := by rw [he396977]; rfl
        refine G_iconst 0 dr_cX17_merge_178 (by decide +kernel) ?_
        exact G_zretA FieldType.boolean dr_cX17_merge_179 rfl rfl (show ((rPh γ el f - rPh γ0 el0 f) / 18) ≤ (((387 * B + 6000) - rPh γ0 el0 f) / 18) by omega) (show (rPh γ el f - rPh γ0 el0 f) ≤ ((387 * B + 6000) - rPh γ0 el0 f) by omega) ⟨P396961, F396962, γ, el, 0, rfl, rfl, hst, ⟨by omega, by omega⟩, hB, (gB_w (gBl (show Int32.toInt 0 = 0 by decide)) (by decide) (by decide)), (by have qa0 : Int32.toInt 0 = 0 := (by decide); omega), (by have qa0 : Int32.toInt 0 = 0 := (by decide); omega), (by have qa0 : Int32.toInt 0 = 0 := (by decide); omega), (by have qa0 : Int32.toInt 0 = 0 := (by decide); omega), (Or.inl (by decide)), (fun N h => by rw [hγ0, hel0]; exact h), (by have qa0 : Int32.toInt 0 = 0 := (by decide); omega), (by have qa0 : Int32.toInt 0 = 0 := (by decide); omega), (fun _ => ⟨hγ0, hel0, rfl⟩), mKp_rf⟩
      · have r406820 : g406782.toInt < p406789.toInt := gC_nle hc406816
        have bg406782' : gB g406782 0 999999 := ⟨by omega, by omega⟩
        have bp406789' : gB p406789 1 1000000 := ⟨by omega, by omega⟩
        refine G_aload_n 2 dr_cX17_merge_10 rfl ?_
        refine G_iload_n 0 dr_cX17_merge_11 rfl ?_
        have hm406821 : q406786 ∈ P396961 := RS_m hT ht406790 (by decide)
        obtain ⟨⟨p406823, p406824, q406825, he406822, r406826, r406827, r406828, r406830⟩, r406829⟩ := show rk_4 D I γ el F396962 q406786 from RS_o hT ht406790
        have bp406823 := gB_any p406823
        have bp406824 : gB p406824 0 1000000 := ⟨by omega, by omega⟩
        obtain ⟨r406831, r406832, n406839, f406840, r406833, r406834, r406835, r406836, r406837, r406838⟩ := rLC_n r406828 (by omega)
        have hm406841 : q406825 ∈ P396961 := RS_m hT r406831 (by decide)
        obtain ⟨q406842, hx406843⟩ : ∃ x, x = el q406786 g406782.toInt.toNat := ⟨_, rfl⟩
        have hx406844 : f406840 g406782.toNatClampNeg = some q406842 := (r406837 _ (show g406782.toInt.toNat < γ 2 q406786 by first | assumption | omega)).trans (by rw [hx406843])
        have ht406847 : rKd γ q406842 2 := by rw [hx406843]; exact (r406801 _ (by omega)).resolve_right (fun z => absurd z.1 (by omega))
        have ht406848 : rFm γ q406842 q406786 := by rw [hx406843]; exact (r406829 _ (show g406782.toInt.toNat < γ 2 q406786 by omega)).2.1
        have hm406849 : q406842 ∈ P396961 := RS_m hT ht406847 (by decide)
        obtain ⟨q406851, q406852, p406853, p406854, he406850, ht406861, ht406855, ht406856, ht406857, ht406858, ht406859, bp406853, bp406854, r406860, r406862, r406863⟩ := show rk_2 γ q406842 (F396962 q406842) from RS_o hT ht406847
        refine Gw_callV (As := [.int g406782]) (gV_ok D I) (cp_7901_Code_get l hl0 D I P396961 F396962 q396964 q406786 q406825 g406782 q406787 p406788 p406789 p406823 p406824 f406840 n406839 q406842 q406851 q406852 p406853 p406854 hm406784 hm406821 hm406841 hm406849 he406785 he406822 r406833 he406850 (gB_w bg406782' (by decide) (by decide)) (gB_w bp406824 (by decide) (by decide)) (by omega) (by omega) (by assumption) (by omega)) dr_cX17_merge_12 ⟨wr_10_161, wr_1_15, wr_10_141, by decide, rfl, (Nat.le_of_ble_eq_true rfl), (Nat.le_of_ble_eq_true rfl)⟩ wr_10_139 wr_10_140 hm406784 he406785 rfl (rm_zc pk396968) (rm_zs pk396968) (Nat.le_of_ble_eq_true rfl) (fun r406867 w406868 dc406864 ds406865 hp406866 => ?_) (fun _ _ _ _ _ z => z.elim)
        obtain ⟨rfl, rfl, hdc, hds, ht406869⟩ := hp406866
        change G _ _ _ _ _ _ _ (.ref q406842 :: _) _ _ _
        refine G_widen (cs' := ((rPh γ el f - rPh γ0 el0 f) / 18)) (sl' := (rPh γ el f - rPh γ0 el0 f)) (rm_d0 hdc) (rm_d0 hds) ?_
        have hf406870 : γ 1 q406842 = f := (show γ 1 q406842 = γ 1 q406786 from ht406848).trans ((show γ 1 q406786 = γ 1 q396964 from ht406791).trans hf1)
        have hf406871 : γ 1 q406851 = f := (show γ 1 q406851 = γ 1 q406842 from ht406856).trans hf406870
        have hf406872 : γ 1 q406852 = f := (show γ 1 q406852 = γ 1 q406842 from ht406858).trans hf406870
        have r406873 : γ 6 (γ 1 q406842) = γ 6 f := by rw [hf406870]
        have r406874 : γ 7 (γ 1 q406842) = γ 7 f := by rw [hf406870]
        have r406875 : γ 19 (γ 1 q406842) = γ 19 f := by rw [hf406870]
        have r406876 := r406860.resolve_left (by omega)
        clear r406860
        have r406877 : γ 2 (γ 14 q406842) = γ 2 q406851 := by rw [ht406861.1]
        have r406878 : g406782.toInt.toNat < γ 2 (γ 14 q396964) := by rw [ht406805.1]; omega
        have r406879 : el (γ 14 q396964) g406782.toInt.toNat = q406842 := by rw [ht406805.1, hx406843]
        refine G_astore (L' := [(4, .ref q406842), (3, .int g406782), (0, .ref q396963), (1, .ref q396964), (2, .int p396965)]) dr_cX17_merge_15 (Nat.le_of_ble_eq_true rfl) rfl ?_
        refine G_iconst 0 dr_cX17_merge_17 (by decide +kernel) ?_
        refine G_istore (L' := [(5, .int 0), (4, .ref q406842), (3, .int g406782), (0, .ref q396963), (1, .ref q396964), (2, .int p396965)]) dr_cX17_merge_18 (Nat.le_of_ble_eq_true rfl) rfl ?_
        have hlp20_407222 : ∀ (n20_407222 : Nat) (g407222 : Int32), gB g407222 0 1000000 → ((1000001 : Int) - g407222.toInt).toNat < n20_407222 → G (gV D I) l (gRm 5 111 (((387 * B + 6000) - rPh γ0 el0 f) / 18) ((387 * B + 6000) - rPh γ0 el0 f)) (gMA (gV D I) (pg_396967_SpillForgeModel_merge D I γ0 el0 f B P396961 F396962 q396963 q396964 p396965) gNA (((387 * B + 6000) - rPh γ0 el0 f) / 18) ((387 * B + 6000) - rPh γ0 el0 f)) ky_396967_SpillForgeModel_merge 20 [(5, .int g407222), (4, .ref q406842), (3, .int g406782), (0, .ref q396963), (1, .ref q396964), (2, .int p396965)] [] (va_pl P396961 F396962) ((rPh γ el f - rPh γ0 el0 f) / 18) (rPh γ el f - rPh γ0 el0 f) := by
          intro n20_407222
          induction n20_407222 with
          | zero => intro g407222 bg407222 hm20_407222; exact absurd hm20_407222 (Nat.not_lt_zero _)
          | succ n20_407222 ih20_407222 =>
            intro g407222 bg407222 hm20_407222
            refine G_iload 0 dr_cX17_merge_20 rfl ?_
            refine G_aload 1 dr_cX17_merge_22 rfl ?_
            refine Gp_get 0 hm406849 he406850 dr_cX17_merge_24 (gk_X12 D I) (Nat.le_of_ble_eq_true rfl) wr_9_220 rfl ?_
            have hm407224 : q406851 ∈ P396961 := RS_m hT ht406855 (by decide)
            obtain ⟨⟨p407226, p407227, q407228, he407225, r407229, r407230, r407231, r407233⟩, r407232⟩ := show rk_3 D I γ el F396962 q406851 from RS_o hT ht406855
            have bp407226 := gB_any p407226
            have bp407227 : gB p407227 0 1000000 := ⟨by omega, by omega⟩
            refine Gw_callV (As := []) (gV_ok D I) (cp_7_ArrayList_size l hl0 D I P396961 F396962 q406851 p407226 q407228 p407227 hm407224 he407225 (gB_w bp407227 (by decide) (by decide))) dr_cX17_merge_27 ⟨wr_10_200, wr_1_18, wr_9_160, by decide, rfl, (Nat.le_of_ble_eq_true rfl), (Nat.le_of_ble_eq_true rfl)⟩ wr_9_158 wr_9_159 hm407224 he407225 rfl (rm_zc pk396968) (rm_zs pk396968) (Nat.le_of_ble_eq_true rfl) (fun r407237 w407238 dc407234 ds407235 hp407236 => ?_) (fun _ _ _ _ _ z => z.elim)
            obtain ⟨rfl, rfl, hdc, hds⟩ := hp407236
            change G _ _ _ _ _ _ _ (.int p407227 :: _) _ _ _
            refine G_widen (cs' := ((rPh γ el f - rPh γ0 el0 f) / 18)) (sl' := (rPh γ el f - rPh γ0 el0 f)) (rm_d0 hdc) (rm_d0 hds) ?_
            refine G_icmp_ge 172 dr_cX17_merge_30 (by decide +kernel) (fun hc407239 => ?_) (fun hc407239 => ?_)
            · have r407240 : p407227.toInt ≤ g407222.toInt := gC_le hc407239
              obtain ⟨z407241, hz407241⟩ : ∃ z : Int32, z = g406782 + Int32.ofInt 1 := ⟨_, rfl⟩
              have ez407241 : z407241.toInt = g406782.toInt + 1 := gI_inc hz407241 (by decide) bg406782' (by decide) (by decide)
              have bz407241 : gB z407241 1 1000000 := ⟨by omega, by omega⟩
              refine G_iinc (L' := [(3, .int z407241), (5, .int g407222), (4, .ref q406842), (0, .ref q396963), (1, .ref q396964), (2, .int p396965)]) z407241 2 dr_cX17_merge_172 rfl hz407241.symm (Nat.le_of_ble_eq_true rfl) rfl ?_
              refine G_goto 2 dr_cX17_merge_175 (by decide +kernel) ?_
              refine G_lv (L' := [(3, .int z407241), (0, .ref q396963), (1, .ref q396964), (2, .int p396965)]) [0, 3, 4, 5] rfl ?_
              exact ih2_406782 z407241 (gB_w bz407241 (by decide) (by decide)) (by omega)
            · have r407242 : g407222.toInt < p407227.toInt := gC_nle hc407239
              have bg407222' : gB g407222 0 999999 := ⟨by omega, by omega⟩
              have bp407227' : gB p407227 1 1000000 := ⟨by omega, by omega⟩
              refine G_aload 1 dr_cX17_merge_33 rfl ?_
              refine Gp_get 0 hm406849 he406850 dr_cX17_merge_35 (gk_X12 D I) (Nat.le_of_ble_eq_true rfl) wr_9_220 rfl ?_
              refine G_iload 0 dr_cX17_merge_38 rfl ?_
              obtain ⟨r407243, r407244, n407251, f407252, r407245, r407246, r407247, r407248, r407249, r407250⟩ := rLC_n r407231 (by omega)
              have hm407253 : q407228 ∈ P396961 := RS_m hT r407243 (by decide)
              obtain ⟨q407254, hx407255⟩ : ∃ x, x = el q406851 g407222.toInt.toNat := ⟨_, rfl⟩
              have hx407256 : f407252 g407222.toNatClampNeg = some q407254 := (r407249 _ (show g407222.toInt.toNat < γ 2 q406851 by first | assumption | omega)).trans (by rw [hx407255])
              have ht407257 : rKd γ q407254 1 := by rw [hx407255]; exact (r407232 _ (show g407222.toInt.toNat < γ 2 q406851 by first | assumption | omega)).1
              have ht407258 : rFm γ q407254 q406851 := by rw [hx407255]; exact (r407232 _ (show g407222.toInt.toNat < γ 2 q406851 by first | assumption | omega)).2.1
              have hf407259 : γ 1 q407254 = f := (show γ 1 q407254 = γ 1 q406851 from ht407258).trans hf406871
              refine Gw_callV (As := [.int g407222]) (gV_ok D I) (cp_22_ArrayList_get l hl0 D I P396961 F396962 q406851 q407228 g407222 p407226 p407227 f407252 n407251 q407254 hm407224 hm407253 he407225 r407245 (gB_w bg407222' (by decide) (by decide)) (gB_w bp407227' (by decide) (by decide)) (by omega) (by omega) (by assumption) (by omega)) dr_cX17_merge_40 ⟨wr_10_201, wr_1_18, wr_10_65, by decide, rfl, (Nat.le_of_ble_eq_true rfl), (Nat.le_of_ble_eq_true rfl)⟩ wr_10_63 wr_10_64 hm407224 he407225 rfl (rm_zc pk396968) (rm_zs pk396968) (Nat.le_of_ble_eq_true rfl) (fun r407263 w407264 dc407260 ds407261 hp407262 => ?_) (fun _ _ _ _ _ z => z.elim)
              obtain ⟨rfl, rfl, hdc, hds, ht407265⟩ := hp407262
              change G _ _ _ _ _ _ _ (.ref q407254 :: _) _ _ _
              refine G_widen (cs' := ((rPh γ el f - rPh γ0 el0 f) / 18)) (sl' := (rPh γ el f - rPh γ0 el0 f)) (rm_d0 hdc) (rm_d0 hds) ?_
              have hm407266 : q407254 ∈ P396961 := RS_m hT ht407257 (by decide)
              obtain ⟨p407268, p407269, p407270, p407271, p407272, p407273, p407274, he407267, bp407268, bp407269, bp407272, bp407273, bp407274, r407275, r407276, r407277, r407278, r407279⟩ := show rk_1 γ q407254 (F396962 q407254) from RS_o hT ht407257
              have bp407270 := gB_any p407270
              have bp407271 := gB_any p407271
              have r407280 : γ 7 (γ 1 q407254) = γ 7 f := by rw [hf407259]
              refine Gp_cast hm407266 he407267 rfl dr_cX17_merge_43 wr_10_202 (gr_cast 1 rfl) ?_
              refine G_astore (L' := [(6, .ref q407254), (5, .int g407222), (4, .ref q406842), (3, .int g406782), (0, .ref q396963), (1, .ref q396964), (2, .int p396965)]) dr_cX17_merge_46 (Nat.le_of_ble_eq_true rfl) rfl ?_
              refine G_aload 0 dr_cX17_merge_48 rfl ?_
              refine Gp_get 0 hm407266 he407267 dr_cX17_merge_50 (gk_X15 D I) (Nat.le_of_ble_eq_true rfl) wr_9_177 rfl ?_
              refine G_if_ne 166 dr_cX17_merge_53 (by decide +kernel) (fun hc407281 => ?_) (fun hc407281 => ?_)
              · have r407282 : p407268.toInt ≠ 0 := gj_neq hc407281 (show Int32.toInt 0 = 0 by decide)
                have bp407268' : gB p407268 1 32 := ⟨by omega, by omega⟩
                obtain ⟨z407283, hz407283⟩ : ∃ z : Int32, z = g407222 + Int32.ofInt 1 := ⟨_, rfl⟩
                have ez407283 : z407283.toInt = g407222.toInt + 1 := gI_inc hz407283 (by decide) bg407222' (by decide) (by decide)
                have bz407283 : gB z407283 1 1000000 := ⟨by omega, by omega⟩
                refine G_iinc (L' := [(5, .int z407283), (6, .ref q407254), (4, .ref q406842), (3, .int g406782), (0, .ref q396963), (1, .ref q396964), (2, .int p396965)]) z407283 1 dr_cX17_merge_166 rfl hz407283.symm (Nat.le_of_ble_eq_true rfl) rfl ?_
                refine G_goto 20 dr_cX17_merge_169 (by decide +kernel) ?_
                refine G_lv (L' := [(5, .int z407283), (4, .ref q406842), (3, .int g406782), (0, .ref q396963), (1, .ref q396964), (2, .int p396965)]) [0, 2, 3, 4, 5, 6] rfl ?_
                exact ih20_407222 z407283 (gB_w bz407283 (by decide) (by decide)) (by omega)
              · have r407284 : p407268.toInt = 0 := gj_eq hc407281 (show Int32.toInt 0 = 0 by decide)
                have bp407268' : gB p407268 0 0 := ⟨by omega, by omega⟩
                refine G_aload 0 dr_cX17_merge_56 rfl ?_
                refine Gp_get 5 hm407266 he407267 dr_cX17_merge_58 (gk_X15 D I) (Nat.le_of_ble_eq_true rfl) wr_9_197 rfl ?_
                refine G_if_eq 166 dr_cX17_merge_61 (by decide +kernel) (fun hc407285 => ?_) (fun hc407285 => ?_)
                · have r407286 : p407273.toInt = 0 := gj_eq hc407285 (show Int32.toInt 0 = 0 by decide)
                  have bp407273' : gB p407273 0 0 := ⟨by omega, by omega⟩
                  obtain ⟨z407287, hz407287⟩ : ∃ z : Int32, z = g407222 + Int32.ofInt 1 := ⟨_, rfl⟩
                  have ez407287 : z407287.toInt = g407222.toInt + 1 := gI_inc hz407287 (by decide) bg407222' (by decide) (by decide)
                  have bz407287 : gB z407287 1 1000000 := ⟨by omega, by omega⟩
                  refine G_iinc (L' := [(5, .int z407287), (6, .ref q407254), (4, .ref q406842), (3, .int g406782), (0, .ref q396963), (1, .ref q396964), (2, .int p396965)]) z407287 1 dr_cX17_merge_166 rfl hz407287.symm (Nat.le_of_ble_eq_true rfl) rfl ?_
                  refine G_goto 20 dr_cX17_merge_169 (by decide +kernel) ?_
                  refine G_lv (L' := [(5, .int z407287), (4, .ref q406842), (3, .int g406782), (0, .ref q396963), (1, .ref q396964), (2, .int p396965)]) [0, 2, 3, 4, 5, 6] rfl ?_
                  exact ih20_407222 z407287 (gB_w bz407287 (by decide) (by decide)) (by omega)
                · have r407288 : p407273.toInt ≠ 0 := gj_neq hc407285 (show Int32.toInt 0 = 0 by decide)
                  have bp407273' : gB p407273 1 1 := ⟨by omega, by omega⟩
                  refine G_aload 0 dr_cX17_merge_64 rfl ?_
                  refine Gp_get 1 hm407266 he407267 dr_cX17_merge_66 (gk_X15 D I) (Nat.le_of_ble_eq_true rfl) wr_9_182 rfl ?_
                  refine G_aload 0 dr_cX17_merge_69 rfl ?_
                  refine Gp_get 2 hm407266 he407267 dr_cX17_merge_71 (gk_X15 D I) (Nat.le_of_ble_eq_true rfl) wr_9_186 rfl ?_
                  refine G_icmp_eq 98 dr_cX17_merge_74 (by decide +kernel) (fun hc407289 => ?_) (fun hc407289 => ?_)
                  · have r407290 : p407269.toInt = p407270.toInt := gC_eq hc407289
                    have bp407270' : gB p407270 0 1999 := ⟨by omega, by omega⟩
                    refine G_aload 0 dr_cX17_merge_98 rfl ?_
                    refine Gp_get 1 hm407266 he407267 dr_cX17_merge_100 (gk_X15 D I) (Nat.le_of_ble_eq_true rfl) wr_9_182 rfl ?_
                    refine G_aload 0 dr_cX17_merge_103 rfl ?_
                    refine Gp_get 2 hm407266 he407267 dr_cX17_merge_105 (gk_X15 D I) (Nat.le_of_ble_eq_true rfl) wr_9_186 rfl ?_
                    refine G_mmin dr_cX17_merge_108 wr_11_20 wr_3_227 wr_1_6 wr_3_228 (Nat.le_of_ble_eq_true rfl) (Nat.le_of_ble_eq_true rfl) (show ((rPh γ el f - rPh γ0 el0 f) / 18) ≤ (((387 * B + 6000) - rPh γ0 el0 f) / 18) by first | omega | decide) (show (rPh γ el f - rPh γ0 el0 f) ≤ ((387 * B + 6000) - rPh γ0 el0 f) by first | omega | decide) (G_nam fun z407291 hz407291 => ?_)
                    have ez407291 : p407269.toInt ≥ z407291.toInt ∧ p407270.toInt ≥ z407291.toInt ∧ (z407291.toInt = p407269.toInt ∨ z407291.toInt = p407270.toInt) := by have := gI_min hz407291; omega
                    have bz407291 : gB z407291 0 1999 := ⟨by omega, by omega⟩
                    refine G_istore (L' := [(7, .int z407291), (6, .ref q407254), (5, .int g407222), (4, .ref q406842), (3, .int g406782), (0, .ref q396963), (1, .ref q396964), (2, .int p396965)]) dr_cX17_merge_111 (Nat.le_of_ble_eq_true rfl) rfl ?_
                    refine G_aload 1 dr_cX17_merge_113 rfl ?_
                    refine Gp_get 1 hm407266 he407267 dr_cX17_merge_115 (gk_X15 D I) (Nat.le_of_ble_eq_true rfl) wr_9_182 rfl ?_
                    refine G_aload 1 dr_cX17_merge_118 rfl ?_
                    refine Gp_get 2 hm407266 he407267 dr_cX17_merge_120 (gk_X15 D I) (Nat.le_of_ble_eq_true rfl) wr_9_186 rfl ?_
                    refine G_mmax dr_cX17_merge_123 wr_11_21 wr_1_140 wr_1_6 wr_1_141 (Nat.le_of_ble_eq_true rfl) (Nat.le_of_ble_eq_true rfl) (show ((rPh γ el f - rPh γ0 el0 f) / 18) ≤ (((387 * B + 6000) - rPh γ0 el0 f) / 18) by first | omega | decide) (show (rPh γ el f - rPh γ0 el0 f) ≤ ((387 * B + 6000) - rPh γ0 el0 f) by first | omega | decide) (G_nam fun z407292 hz407292 => ?_)
                    have ez407292 : p407269.toInt ≤ z407292.toInt ∧ p407270.toInt ≤ z407292.toInt ∧ (z407292.toInt = p407269.toInt ∨ z407292.toInt = p407270.toInt) := by have := gI_max hz407292; omega
                    have bz407292 : gB z407292 0 1999 := ⟨by omega, by omega⟩
                    refine G_istore (L' := [(8, .int z407292), (7, .int z407291), (6, .ref q407254), (5, .int g407222), (4, .ref q406842), (3, .int g406782), (0, .ref q396963), (1, .ref q396964), (2, .int p396965)]) dr_cX17_merge_126 (Nat.le_of_ble_eq_true rfl) rfl ?_
                    refine G_aload 4 dr_cX17_merge_128 rfl ?_
                    refine Gp_get 0 hm406849 he406850 dr_cX17_merge_130 (gk_X12 D I) (Nat.le_of_ble_eq_true rfl) wr_9_220 rfl ?_
                    refine G_iload 3 dr_cX17_merge_133 rfl ?_
                    have rg407293 := rM_ge hT htq396964 hf1
                    have rm407294 := rM_bd hB
                    have bd407295 := rBd_c hT htq396964 hf1 hB
                    have rc407296 := rc_at hT htq396964 hf1
                    have r407298 : γ 14 (el (γ 14 q396964) g406782.toInt.toNat) = q406851 := by rw [r406879]; exact ht406861.1
                    have r407299 := rg407293.2.2 _ r406878
                    rw [r407298] at r407299
                    have r407300 := bd407295.2.2.2 _ r406878
                    rw [r407298] at r407300
                    obtain ⟨q407302, hq407302⟩ : ∃ x, x = el q406851 g407222.toInt.toNat := ⟨_, rfl⟩
                    refine Gt_rem (c := q396964) (f := f) hl0 dr_cX17_merge_135 ⟨wr_11_22, wr_1_18, wr_11_25, by decide, rfl, (Nat.le_of_ble_eq_true rfl), (Nat.le_of_ble_eq_true rfl)⟩ wr_11_23 wr_11_24 hT ht406855 hf406871 htq396964 hf1 (by omega) (by omega) (rm_zc pk396968) (rm_zs pk396968) (Nat.le_of_ble_eq_true rfl) (fun F407297 γ el hq407301 => ?_)
                    rw [← hq407302]
                    have vv407314 := RS_valid hT0 hzq396964 hf0 x396966
                    rw [← hγ0] at vv407314
                    have sm407313 := rDq_sum (m := γ0 6 f) hT htq396964 hf1 (show g406782.toInt.toNat < γ0 6 f by omega) (by omega) r407298 (show g407222.toInt.toNat < _ by omega) hq407301
                    rw [hγ0, hel0] at sm407313
                    have dn407315 := fun (N : Nat → Prop) hN => rPl_dx (N := N) hT htq396964 hf1 hq407301 r407298 (show g406782.toInt.toNat < _ by omega) (show g407222.toInt.toNat < _ by omega) hN
                    rw [hγ0, hel0] at dn407315
                    have nm407316 := fun (N : Nat → Prop) hN => rPl_nm (N := N) (f := f) (j := g407222.toInt.toNat) hN (show g406782.toInt.toNat < _ by omega) r407298 (show g407222.toInt.toNat < _ by omega) hx407255.symm he407267 (by omega) (by omega)
                    rw [hγ0, hel0] at nm407316
                    obtain ⟨hk407303, h2407304, hel407305, hot407306, h16407307, h18407308, hnu407309, hr407310, hM407311, hBB407312⟩ := hq407301
                    have hk407317 := rSk_of hk407303
                    have r407318 : (fI (F407297 q396964) 3).toInt = (fI (F396962 q396964) 3).toInt := by rw [rSk_F hk407317 htq396964 (by decide) (by decide)]
                    have hT407319 := hk407317.1
                    have hs407320 := rSk_tr hst hk407317 (by decide) (by decide) (by decide)
                    have kp407321 : F407297 q396963 = F396962 q396963 := rSk_F hk407317 htq396963 (by decide) (by decide)
                    have r407322 := rSk_F hk407317 htq396963 (by decide) (by decide)
                    have ht407323 : rKd γ q396963 10 := rSk_k hk407317 htq396963 (by decide) (by decide)
                    have ht407324 : rKd γ q396964 9 := rSk_k hk407317 htq396964 (by decide) (by decide)
                    have hf407325 : γ 1 q396964 = f := rSk_1 hk407317 htq396964 (by decide) hf1
                    have ht407326 : rKd γ q406842 2 := rSk_k hk407317 ht406847 (by decide) (by decide)
                    have hf407327 : γ 1 q406842 = f := rSk_1 hk407317 ht406847 (by decide) hf406870
                    have ht407328 : rKd γ q406851 3 := rSk_k hk407317 ht406855 (by decide) (by decide)
                    have hf407329 : γ 1 q406851 = f := rSk_1 hk407317 ht406855 (by decide) hf406871
                    have ht407330 : rKd γ q407254 1 := rSk_k hk407317 ht407257 (by decide) (by decide)
                    have hf407331 : γ 1 q407254 = f := rSk_1 hk407317 ht407257 (by decide) hf407259
                    have mk407332 : mKp (F396962 q396963) (F407297 q396963) := mKp_tr mKp_rf (mKp_eq (rSk_F hk407317 htq396963 (by decide) (by decide)))
                    have r407333 := (rSk_s hk407317 htq396964 (by decide)).2.1
                    have r407334 := hot407306 _ (by rw [rc407296.2.1]; decide) (fun q => by rw [q, show _ = 3 from ht406855] at rc407296; exact absurd rc407296.2.1 (by decide))
                    have r407335 : g406782.toInt.toNat < γ 2 (γ 14 q396964) := by rw [r407333, r407334.1]; exact r406878
                    have r407336 : el (γ 14 q396964) g406782.toInt.toNat = q406842 := by rw [r407333, r407334.2]; exact r406879
                    have he407337 : F407297 q407254 = .inr (20, [.int p407268, .int p407269, .int p407270, .int p407271, .int p407272, .int p407273, .int p407274]) := (rSk_F hk407317 ht407257 (by decide) (by decide)).trans he407267
                    have hm407338 : q407254 ∈ P396961 := RS_m hT407319 ht407330 (by decide)
                    clear r406794 r406795 r406796 r406797 r406798 r406799 r406801 r406802 r406803 r406804 bp406788 bp406789 bp406853 bp406854 r406862 r406863 rg407293 rm407294 bd407295 rc407296 r407299 r407300
                    have hm407339 : q396963 ∈ P396961 := RS_m hT407319 ht407323 (by decide)
                    obtain ⟨q407341, q407342, p407343, p407344, p407345, p407346, p407347, p407348, p407349, p407350, p407351, p407352, p407353, p407354, p407355, p407356, p407357, he407340, hB407384, ht407358, ht407359, ht407360, ht407361, ht407362, ht407363, ht407364, ht407365, ht407366, ht407367, ht407368, ht407369, ht407370, ht407371, ht407372, ht407373, ht407374, ht407375, ht407376, ht407377, ht407378, ht407379, ht407380, ht407381, hB407385⟩ := show rk_10 γ (F407297 q396963) from RS_o hT407319 ht407323
                    have r407386 : p407345.toInt = p396982.toInt := by have z : p407345 = p396982 := congrArg (fun e => fI e 11) (he407340.symm.trans (r407322.trans he396977)); rw [z]
                    have bp407345 : gB p407345 0 100 := (hB407384.2.2.1)
                    have r407387 : p407348.toInt = p396985.toInt := by have z : p407348 = p396985 := congrArg (fun e => fI e 14) (he407340.symm.trans (r407322.trans he396977)); rw [z]
                    have bp407348 : gB p407348 0 2000 := (hB407384.2.2.2.1)
                    obtain ⟨nu407388, nu407389, nu407390, nu407391⟩ := hnu407309
                    have hB407392 : rBd γ el f B := hBB407312 B hB
                    have hph407393 : rPh γ0 el0 f ≤ rPh γ el f := by rw [hr407310]; exact hph
                    have pk407394 : rPh γ el f ≤ 387 * B + 6000 := rm_pk (rM_ge hT407319 ht407324 hf407325).1 (rM_bd hB407392)
                    refine G_widen (cs' := ((rPh γ el f - rPh γ0 el0 f) / 18)) (sl' := (rPh γ el f - rPh γ0 el0 f)) (rm_ec hr407310) (rm_es hr407310) ?_
                    refine G_pop dr_cX17_merge_138 rfl ?_
                    refine G_aload_n 6 dr_cX17_merge_139 rfl ?_
                    refine G_dup dr_cX17_merge_140 rfl ?_
                    refine Gp_get 13 hm407339 he407340 dr_cX17_merge_141 (gk_X17 D I) (Nat.le_of_ble_eq_true rfl) wr_7_87 rfl ?_
                    have bp407347 : gB p407347 (-2147483648) 2147483647 := (gB_any p407347)
                    refine G_iconst 1 dr_cX17_merge_144 (by decide +kernel) ?_
                    refine G_iadd dr_cX17_merge_145 (G_nam fun z407395 hz407395 => ?_)
                    have bz407395 : gB z407395 (-2147483648) 2147483647 := gB_any z407395
                    refine Gp_put 13 hm407339 he407340 dr_cX17_merge_146 (gk_X17 D I) (Nat.le_of_ble_eq_true rfl) wr_7_87 rfl rfl rfl (Nat.le_of_ble_eq_true rfl) (fun F407396 e407397 n407398 => ?_)
                    have he407399 : F407396 q407254 = .inr (20, [.int p407268, .int p407269, .int p407270, .int p407271, .int p407272, .int p407273, .int p407274]) := (n407398 q407254 (rn_oo he407337 he407340 (by decide))).trans he407337
                    have he407400 : F407396 q396963 = .inr (22, [.ref (γ 9 0), .ref (γ 9 1), .ref (γ 9 2), .ref (γ 9 3), .ref (γ 9 4), .ref (γ 9 5), .ref (γ 9 6), .ref (γ 9 7), .ref (γ 9 8), .int p407343, .int p407344, .int p407345, .int p407346, .int z407395, .int p407348, .ref (γ 9 15), .ref (γ 9 16), .ref (γ 9 17), .ref (γ 9 18), .ref (γ 9 19), .ref (γ 9 20), .ref (γ 9 21), .ref (γ 9 22), .int p407349, .int p407350, .int p407351, .int p407352, .int p407353, .ref q407341, .ref (γ 9 29), .int p407354, .ref (γ 9 31), .int p407355, .int p407356, .int p407357, .ref q407342]) := e407397
                    have mk407401 : mKp (F396962 q396963) (F407396 q396963) := mKp_tr mk407332 (by rw [he407340, he407400]; exact ⟨rfl, rfl⟩)
                    have hT407402 : RS D I P396961 F407396 γ el := RS_set hT407319 n407398 ht407323 (by decide) ⟨q407341, q407342, p407343, p407344, p407345, p407346, z407395, p407348, p407349, p407350, p407351, p407352, p407353, p407354, p407355, p407356, p407357, he407400, ⟨(hB407384.1), (hB407384.2.1), bp407345, bp407348, (hB407384.2.2.2.2.1), (hB407384.2.2.2.2.2.1), (hB407384.2.2.2.2.2.2.1), (hB407384.2.2.2.2.2.2.2.1), (hB407384.2.2.2.2.2.2.2.2)⟩, ht407358, ht407359, ht407360, ht407361, ht407362, ht407363, ht407364, ht407365, ht407366, ht407367, ht407368, ht407369, ht407370, ht407371, ht407372, ht407373, ht407374, ht407375, ht407376, ht407377, ht407378, ht407379, ht407380, ht407381, hB407385⟩
                    have hs407403 := rSk_put hs407320 hT407402 n407398 ht407323 (by decide) (by decide)
                    have dn407404 : ∀ N : Nat → Prop, rPl γ0 el0 F396962 q396964 (γ0 6 f) (fun _ _ => rNx N) → rPl γ el F407396 q396964 (γ 6 f) (fun _ _ => rNx N) := fun N hN => rPl_fr hT407319 ht407324 hf407325 (dn407315 N hN) (fun b hb _ => n407398 b (rn_ty (show rKd γ b 1 from hb) ht407323 (by decide)))
                    refine G_iload 1 dr_cX17_merge_149 rfl ?_
                    refine G_iload 0 dr_cX17_merge_151 rfl ?_
                    refine G_icmp_eq 164 dr_cX17_merge_153 (by decide +kernel) (fun hc407405 => ?_) (fun hc407405 => ?_)
                    · have r407406 : z407291.toInt = z407292.toInt := gC_eq hc407405
                      have ac407407 : (fI (F407396 q396963) 11).toInt = p407345.toInt := by rw [he407400]; rfl
                      have ac407408 : (fI (F407396 q396963) 14).toInt = p407348.toInt := by rw [he407400]; rfl
                      refine G_iconst 1 dr_cX17_merge_164 (by decide +kernel) ?_
                      exact G_zretA FieldType.boolean dr_cX17_merge_165 rfl rfl (show ((rPh γ el f - rPh γ0 el0 f) / 18) ≤ (((387 * B + 6000) - rPh γ0 el0 f) / 18) by omega) (show (rPh γ el f - rPh γ0 el0 f) ≤ ((387 * B + 6000) - rPh γ0 el0 f) by omega) ⟨P396961, F407396, γ, el, 1, rfl, rfl, hs407403, ⟨by omega, by omega⟩, hB407392, (gB_w (gBl (show Int32.toInt 1 = 1 by decide)) (by decide) (by decide)), (by have qa0 : Int32.toInt 1 = 1 := (by decide); omega), (by have qa0 : Int32.toInt 1 = 1 := (by decide); omega), (by have qa0 : Int32.toInt 1 = 1 := (by decide); omega), (by have qa0 : Int32.toInt 1 = 1 := (by decide); omega), (Or.inr (by rw [show γ 6 f = γ0 6 f by omega]; exact Nat.le_of_eq sm407313)), dn407404, (by have qa0 : Int32.toInt 1 = 1 := (by decide); omega), (by have qa0 : Int32.toInt 1 = 1 := (by decide); omega), (fun h => absurd h (by decide)), mk407401⟩
                    · have r407409 : z407291.toInt ≠ z407292.toInt := gC_ne hc407405
                      refine G_aload_n 7 dr_cX17_merge_156 rfl ?_
                      refine G_iload 0 dr_cX17_merge_157 rfl ?_
                      refine G_iload 1 dr_cX17_merge_159 rfl ?_
                      have v0_407410 : 0 < γ 6 (γ 1 q396964) := by rw [hf407325]; omega
                      refine Gw_callS (As := [.ref q396964, .int z407292, .int z407291]) (gV_ok D I) (ct_368779_SpillForgeModel_rename l hl0 D I γ el P396961 F407396 q396964 z407292 z407291 hT407402 ht407324 bz407292 bz407291 (by omega)) dr_cX17_merge_161 ⟨wr_11_30, wr_1_14, wr_11_32, by decide, rfl, (Nat.le_of_ble_eq_true rfl), (Nat.le_of_ble_eq_true rfl)⟩ wr_11_31 (rm_zc pk407394) (rm_zs pk407394) (Nat.le_of_ble_eq_true rfl) (fun r407414 w407415 dc407411 ds407412 hp407413 => ?_) (fun _ _ _ _ _ z => z.elim)
                      obtain ⟨F407418, rfl, rfl, hT407419, hs407420, hdc, hds, x407416, x407417⟩ := hp407413
                      have hs407421 := rSk_str hs407403 hT407419 hs407420 (by decide) (by decide) (by decide)
                      have kp407422 : F407418 q396963 = F407396 q396963 := x407417 q396963 (rT0 ht407323 (by decide)) (rT2 ht407323 (by decide))
                      have mk407423 : mKp (F396962 q396963) (F407418 q396963) := mKp_tr mk407401 (mKp_eq (x407417 q396963 (rT0 ht407323 (by decide)) (rT2 ht407323 (by decide))))
                      have he407424 : F407418 q396963 = .inr (22, [.ref (γ 9 0), .ref (γ 9 1), .ref (γ 9 2), .ref (γ 9 3), .ref (γ 9 4), .ref (γ 9 5), .ref (γ 9 6), .ref (γ 9 7), .ref (γ 9 8), .int p407343, .int p407344, .int p407345, .int p407346, .int z407395, .int p407348, .ref (γ 9 15), .ref (γ 9 16), .ref (γ 9 17), .ref (γ 9 18), .ref (γ 9 19), .ref (γ 9 20), .ref (γ 9 21), .ref (γ 9 22), .int p407349, .int p407350, .int p407351, .int p407352, .int p407353, .ref q407341, .ref (γ 9 29), .int p407354, .ref (γ 9 31), .int p407355, .int p407356, .int p407357, .ref q407342]) := (x407417 q396963 (rT0 ht407323 (by decide)) (rT2 ht407323 (by decide))).trans he407400
                      change G _ _ _ _ _ _ _ _ _ _ _
                      refine G_widen (cs' := ((rPh γ el f - rPh γ0 el0 f) / 18)) (sl' := (rPh γ el f - rPh γ0 el0 f)) (rm_d0 hdc) (rm_d0 hds) ?_
                      have dn407425 : ∀ N : Nat → Prop, rPl γ0 el0 F396962 q396964 (γ0 6 f) (fun _ _ => rNx N) → rPl γ el F407418 q396964 (γ 6 f) (fun _ _ => rNx N) := fun N hN => by have z := x407416 N ((show z407291.toInt = p407269.toInt ∨ z407291.toInt = p407270.toInt by omega).elim (fun e => by rw [e]; exact (nm407316 N hN).1) (fun e => by rw [e]; exact (nm407316 N hN).2)) (by omega); rw [hf407325] at z; exact z (dn407404 N hN)
                      have ac407426 : (fI (F407418 q396963) 11).toInt = p407345.toInt := by rw [he407424]; rfl
                      have ac407427 : (fI (F407418 q396963) 14).toInt = p407348.toInt := by rw [he407424]; rfl
                      refine G_iconst 1 dr_cX17_merge_164 (by decide +kernel) ?_
                      exact G_zretA FieldType.boolean dr_cX17_merge_165 rfl rfl (show ((rPh γ el f - rPh γ0 el0 f) / 18) ≤ (((387 * B + 6000) - rPh γ0 el0 f) / 18) by omega) (show (rPh γ el f - rPh γ0 el0 f) ≤ ((387 * B + 6000) - rPh γ0 el0 f) by omega) ⟨P396961, F407418, γ, el, 1, rfl, rfl, hs407421, ⟨by omega, by omega⟩, hB407392, (gB_w (gBl (show Int32.toInt 1 = 1 by decide)) (by decide) (by decide)), (by have qa0 : Int32.toInt 1 = 1 := (by decide); omega), (by have qa0 : Int32.toInt 1 = 1 := (by decide); omega), (by have qa0 : Int32.toInt 1 = 1 := (by decide); omega), (by have qa0 : Int32.toInt 1 = 1 := (by decide); omega), (Or.inr (by rw [show γ 6 f = γ0 6 f by omega]; exact Nat.le_of_eq sm407313)), dn407425, (by have qa0 : Int32.toInt 1 = 1 := (by decide); omega), (by have qa0 : Int32.toInt 1 = 1 := (by decide); omega), (fun h => absurd h (by decide)), mk407423⟩
                  · have r407428 : p407269.toInt ≠ p407270.toInt := gC_ne hc407289
                    refine G_aload_n 4 dr_cX17_merge_77 rfl ?_
                    refine G_aload 0 dr_cX17_merge_78 rfl ?_
                    refine Gp_get 1 hm407266 he407267 dr_cX17_merge_80 (gk_X15 D I) (Nat.le_of_ble_eq_true rfl) wr_9_182 rfl ?_
                    refine G_aload 0 dr_cX17_merge_83 rfl ?_
                    refine Gp_get 2 hm407266 he407267 dr_cX17_merge_85 (gk_X15 D I) (Nat.le_of_ble_eq_true rfl) wr_9_186 rfl ?_
                    refine G_iload_n 6 dr_cX17_merge_88 rfl ?_
                    refine Gw_callV (As := [.int p407269, .int p407270, .int p396965]) (gV_ok D I) (ct_394975_SpillForgeModel_mayMerge l hl0 D I γ el P396961 F396962 q396963 p407269 p407270 p396965 hT htq396963 bp407269 ⟨by omega, by omega⟩) dr_cX17_merge_89 ⟨wr_11_12, wr_1_14, wr_11_15, by decide, rfl, (Nat.le_of_ble_eq_true rfl), (Nat.le_of_ble_eq_true rfl)⟩ wr_11_14 wr_p_102 hm396976 he396977 rfl (rm_zc pk396968) (rm_zs pk396968) (Nat.le_of_ble_eq_true rfl) (fun r407432 w407433 dc407429 ds407430 hp407431 => ?_) (fun _ _ _ _ _ z => z.elim)
                    obtain ⟨o407434, rfl, rfl, hdc, hds, bo407434, x407435⟩ := hp407431
                    change G _ _ _ _ _ _ _ (.int o407434 :: _) _ _ _
                    refine G_widen (cs' := ((rPh γ el f - rPh γ0 el0 f) / 18)) (sl' := (rPh γ el f - rPh γ0 el0 f)) (rm_d0 hdc) (rm_d0 hds) ?_
                    refine G_if_ne 98 dr_cX17_merge_92 (by decide +kernel) (fun hc407436 => ?_) (fun hc407436 => ?_)
                    · have r407437 : o407434.toInt ≠ 0 := gj_neq hc407436 (show Int32.toInt 0 = 0 by decide)
                      have bo407434' : gB o407434 1 1 := ⟨by omega, by omega⟩
                      have bp407270' : gB p407270 0 1999 := ⟨by omega, by omega⟩
                      refine G_aload 0 dr_cX17_merge_98 rfl ?_
                      refine Gp_get 1 hm407266 he407267 dr_cX17_merge_100 (gk_X15 D I) (Nat.le_of_ble_eq_true rfl) wr_9_182 rfl ?_
                      refine G_aload 0 dr_cX17_merge_103 rfl ?_
                      refine Gp_get 2 hm407266 he407267 dr_cX17_merge_105 (gk_X15 D I) (Nat.le_of_ble_eq_true rfl) wr_9_186 rfl ?_
                      refine G_mmin dr_cX17_merge_108 wr_11_20 wr_3_227 wr_1_6 wr_3_228 (Nat.le_of_ble_eq_true rfl) (Nat.le_of_ble_eq_true rfl) (show ((rPh γ el f - rPh γ0 el0 f) / 18) ≤ (((387 * B + 6000) - rPh γ0 el0 f) / 18) by first | omega | decide) (show (rPh γ el f - rPh γ0 el0 f) ≤ ((387 * B + 6000) - rPh γ0 el0 f) by first | omega | decide) (G_nam fun z407438 hz407438 => ?_)
                      have ez407438 : p407269.toInt ≥ z407438.toInt ∧ p407270.toInt ≥ z407438.toInt ∧ (z407438.toInt = p407269.toInt ∨ z407438.toInt = p407270.toInt) := by have := gI_min hz407438; omega
                      have bz407438 : gB z407438 0 1999 := ⟨by omega, by omega⟩
                      refine G_istore (L' := [(7, .int z407438), (6, .ref q407254), (5, .int g407222), (4, .ref q406842), (3, .int g406782), (0, .ref q396963), (1, .ref q396964), (2, .int p396965)]) dr_cX17_merge_111 (Nat.le_of_ble_eq_true rfl) rfl ?_
                      refine G_aload 1 dr_cX17_merge_113 rfl ?_
                      refine Gp_get 1 hm407266 he407267 dr_cX17_merge_115 (gk_X15 D I) (Nat.le_of_ble_eq_true rfl) wr_9_182 rfl ?_
                      refine G_aload 1 dr_cX17_merge_118 rfl ?_
                      refine Gp_get 2 hm407266 he407267 dr_cX17_merge_120 (gk_X15 D I) (Nat.le_of_ble_eq_true rfl) wr_9_186 rfl ?_
                      refine G_mmax dr_cX17_merge_123 wr_11_21 wr_1_140 wr_1_6 wr_1_141 (Nat.le_of_ble_eq_true rfl) (Nat.le_of_ble_eq_true rfl) (show ((rPh γ el f - rPh γ0 el0 f) / 18) ≤ (((387 * B + 6000) - rPh γ0 el0 f) / 18) by first | omega | decide) (show (rPh γ el f - rPh γ0 el0 f) ≤ ((387 * B + 6000) - rPh γ0 el0 f) by first | omega | decide) (G_nam fun z407439 hz407439 => ?_)
                      have ez407439 : p407269.toInt ≤ z407439.toInt ∧ p407270.toInt ≤ z407439.toInt ∧ (z407439.toInt = p407269.toInt ∨ z407439.toInt = p407270.toInt) := by have := gI_max hz407439; omega
                      have bz407439 : gB z407439 0 1999 := ⟨by omega, by omega⟩
                      refine G_istore (L' := [(8, .int z407439), (7, .int z407438), (6, .ref q407254), (5, .int g407222), (4, .ref q406842), (3, .int g406782), (0, .ref q396963), (1, .ref q396964), (2, .int p396965)]) dr_cX17_merge_126 (Nat.le_of_ble_eq_true rfl) rfl ?_
                      refine G_aload 4 dr_cX17_merge_128 rfl ?_
                      refine Gp_get 0 hm406849 he406850 dr_cX17_merge_130 (gk_X12 D I) (Nat.le_of_ble_eq_true rfl) wr_9_220 rfl ?_
                      refine G_iload 3 dr_cX17_merge_133 rfl ?_
                      have rg407440 := rM_ge hT htq396964 hf1
                      have rm407441 := rM_bd hB
                      have bd407442 := rBd_c hT htq396964 hf1 hB
                      have rc407443 := rc_at hT htq396964 hf1
                      have r407445 : γ 14 (el (γ 14 q396964) g406782.toInt.toNat) = q406851 := by rw [r406879]; exact ht406861.1
                      have r407446 := rg407440.2.2 _ r406878
                      rw [r407445] at r407446
                      have r407447 := bd407442.2.2.2 _ r406878
                      rw [r407445] at r407447
                      obtain ⟨q407449, hq407449⟩ : ∃ x, x = el q406851 g407222.toInt.toNat := ⟨_, rfl⟩
                      refine Gt_rem (c := q396964) (f := f) hl0 dr_cX17_merge_135 ⟨wr_11_22, wr_1_18, wr_11_25, by decide, rfl, (Nat.le_of_ble_eq_true rfl), (Nat.le_of_ble_eq_true rfl)⟩ wr_11_23 wr_11_24 hT ht406855 hf406871 htq396964 hf1 (by omega) (by omega) (rm_zc pk396968) (rm_zs pk396968) (Nat.le_of_ble_eq_true rfl) (fun F407444 γ el hq407448 => ?_)
                      rw [← hq407449]
                      have vv407461 := RS_valid hT0 hzq396964 hf0 x396966
                      rw [← hγ0] at vv407461
                      have sm407460 := rDq_sum (m := γ0 6 f) hT htq396964 hf1 (show g406782.toInt.toNat < γ0 6 f by omega) (by omega) r407445 (show g407222.toInt.toNat < _ by omega) hq407448
                      rw [hγ0, hel0] at sm407460
                      have dn407462 := fun (N : Nat → Prop) hN => rPl_dx (N := N) hT htq396964 hf1 hq407448 r407445 (show g406782.toInt.toNat < _ by omega) (show g407222.toInt.toNat < _ by omega) hN
                      rw [hγ0, hel0] at dn407462
                      have nm407463 := fun (N : Nat → Prop) hN => rPl_nm (N := N) (f := f) (j := g407222.toInt.toNat) hN (show g406782.toInt.toNat < _ by omega) r407445 (show g407222.toInt.toNat < _ by omega) hx407255.symm he407267 (by omega) (by omega)
                      rw [hγ0, hel0] at nm407463
                      obtain ⟨hk407450, h2407451, hel407452, hot407453, h16407454, h18407455, hnu407456, hr407457, hM407458, hBB407459⟩ := hq407448
                      have hk407464 := rSk_of hk407450
                      have r407465 : (fI (F407444 q396964) 3).toInt = (fI (F396962 q396964) 3).toInt := by rw [rSk_F hk407464 htq396964 (by decide) (by decide)]
                      have hT407466 := hk407464.1
                      have hs407467 := rSk_tr hst hk407464 (by decide) (by decide) (by decide)
                      have kp407468 : F407444 q396963 = F396962 q396963 := rSk_F hk407464 htq396963 (by decide) (by decide)
                      have r407469 := rSk_F hk407464 htq396963 (by decide) (by decide)
                      have ht407470 : rKd γ q396963 10 := rSk_k hk407464 htq396963 (by decide) (by decide)
                      have ht407471 : rKd γ q396964 9 := rSk_k hk407464 htq396964 (by decide) (by decide)
                      have hf407472 : γ 1 q396964 = f := rSk_1 hk407464 htq396964 (by decide) hf1
                      have ht407473 : rKd γ q406842 2 := rSk_k hk407464 ht406847 (by decide) (by decide)
                      have hf407474 : γ 1 q406842 = f := rSk_1 hk407464 ht406847 (by decide) hf406870
                      have ht407475 : rKd γ q406851 3 := rSk_k hk407464 ht406855 (by decide) (by decide)
                      have hf407476 : γ 1 q406851 = f := rSk_1 hk407464 ht406855 (by decide) hf406871
                      have ht407477 : rKd γ q407254 1 := rSk_k hk407464 ht407257 (by decide) (by decide)
                      have hf407478 : γ 1 q407254 = f := rSk_1 hk407464 ht407257 (by decide) hf407259
                      have mk407479 : mKp (F396962 q396963) (F407444 q396963) := mKp_tr mKp_rf (mKp_eq (rSk_F hk407464 htq396963 (by decide) (by decide)))
                      have r407480 := (rSk_s hk407464 htq396964 (by decide)).2.1
                      have r407481 := hot407453 _ (by rw [rc407443.2.1]; decide) (fun q => by rw [q, show _ = 3 from ht406855] at rc407443; exact absurd rc407443.2.1 (by decide))
                      have r407482 : g406782.toInt.toNat < γ 2 (γ 14 q396964) := by rw [r407480, r407481.1]; exact r406878
                      have r407483 : el (γ 14 q396964) g406782.toInt.toNat = q406842 := by rw [r407480, r407481.2]; exact r406879
                      have he407484 : F407444 q407254 = .inr (20, [.int p407268, .int p407269, .int p407270, .int p407271, .int p407272, .int p407273, .int p407274]) := (rSk_F hk407464 ht407257 (by decide) (by decide)).trans he407267
                      have hm407485 : q407254 ∈ P396961 := RS_m hT407466 ht407477 (by decide)
                      clear r406794 r406795 r406796 r406797 r406798 r406799 r406801 r406802 r406803 r406804 bp406788 bp406789 bp406853 bp406854 r406862 r406863 rg407440 rm407441 bd407442 rc407443 r407446 r407447
                      have hm407486 : q396963 ∈ P396961 := RS_m hT407466 ht407470 (by decide)
                      obtain ⟨q407488, q407489, p407490, p407491, p407492, p407493, p407494, p407495, p407496, p407497, p407498, p407499, p407500, p407501, p407502, p407503, p407504, he407487, hB407531, ht407505, ht407506, ht407507, ht407508, ht407509, ht407510, ht407511, ht407512, ht407513, ht407514, ht407515, ht407516, ht407517, ht407518, ht407519, ht407520, ht407521, ht407522, ht407523, ht407524, ht407525, ht407526, ht407527, ht407528, hB407532⟩ := show rk_10 γ (F407444 q396963) from RS_o hT407466 ht407470
                      have r407533 : p407492.toInt = p396982.toInt := by have z : p407492 = p396982 := congrArg (fun e => fI e 11) (he407487.symm.trans (r407469.trans he396977)); rw [z]
                      have bp407492 : gB p407492 0 100 := (hB407531.2.2.1)
                      have r407534 : p407495.toInt = p396985.toInt := by have z : p407495 = p396985 := congrArg (fun e => fI e 14) (he407487.symm.trans (r407469.trans he396977)); rw [z]
                      have bp407495 : gB p407495 0 2000 := (hB407531.2.2.2.1)
                      obtain ⟨nu407535, nu407536, nu407537, nu407538⟩ := hnu407456
                      have hB407539 : rBd γ el f B := hBB407459 B hB
                      have hph407540 : rPh γ0 el0 f ≤ rPh γ el f := by rw [hr407457]; exact hph
                      have pk407541 : rPh γ el f ≤ 387 * B + 6000 := rm_pk (rM_ge hT407466 ht407471 hf407472).1 (rM_bd hB407539)
                      refine G_widen (cs' := ((rPh γ el f - rPh γ0 el0 f) / 18)) (sl' := (rPh γ el f - rPh γ0 el0 f)) (rm_ec hr407457) (rm_es hr407457) ?_
                      refine G_pop dr_cX17_merge_138 rfl ?_
                      refine G_aload_n 6 dr_cX17_merge_139 rfl ?_
                      refine G_dup dr_cX17_merge_140 rfl ?_
                      refine Gp_get 13 hm407486 he407487 dr_cX17_merge_141 (gk_X17 D I) (Nat.le_of_ble_eq_true rfl) wr_7_87 rfl ?_
                      have bp407494 : gB p407494 (-2147483648) 2147483647 := (gB_any p407494)
                      refine G_iconst 1 dr_cX17_merge_144 (by decide +kernel) ?_
                      refine G_iadd dr_cX17_merge_145 (G_nam fun z407542 hz407542 => ?_)
                      have bz407542 : gB z407542 (-2147483648) 2147483647 := gB_any z407542
                      refine Gp_put 13 hm407486 he407487 dr_cX17_merge_146 (gk_X17 D I) (Nat.le_of_ble_eq_true rfl) wr_7_87 rfl rfl rfl (Nat.le_of_ble_eq_true rfl) (fun F407543 e407544 n407545 => ?_)
                      have he407546 : F407543 q407254 = .inr (20, [.int p407268, .int p407269, .int p407270, .int p407271, .int p407272, .int p407273, .int p407274]) := (n407545 q407254 (rn_oo he407484 he407487 (by decide))).trans he407484
                      have he407547 : F407543 q396963 = .inr (22, [.ref (γ 9 0), .ref (γ 9 1), .ref (γ 9 2), .ref (γ 9 3), .ref (γ 9 4), .ref (γ 9 5), .ref (γ 9 6), .ref (γ 9 7), .ref (γ 9 8), .int p407490, .int p407491, .int p407492, .int p407493, .int z407542, .int p407495, .ref (γ 9 15), .ref (γ 9 16), .ref (γ 9 17), .ref (γ 9 18), .ref (γ 9 19), .ref (γ 9 20), .ref (γ 9 21), .ref (γ 9 22), .int p407496, .int p407497, .int p407498, .int p407499, .int p407500, .ref q407488, .ref (γ 9 29), .int p407501, .ref (γ 9 31), .int p407502, .int p407503, .int p407504, .ref q407489]) := e407544
                      have mk407548 : mKp (F396962 q396963) (F407543 q396963) := mKp_tr mk407479 (by rw [he407487, he407547]; exact ⟨rfl, rfl⟩)
                      have hT407549 : RS D I P396961 F407543 γ el := RS_set hT407466 n407545 ht407470 (by decide) ⟨q407488, q407489, p407490, p407491, p407492, p407493, z407542, p407495, p407496, p407497, p407498, p407499, p407500, p407501, p407502, p407503, p407504, he407547, ⟨(hB407531.1), (hB407531.2.1), bp407492, bp407495, (hB407531.2.2.2.2.1), (hB407531.2.2.2.2.2.1), (hB407531.2.2.2.2.2.2.1), (hB407531.2.2.2.2.2.2.2.1), (hB407531.2.2.2.2.2.2.2.2)⟩, ht407505, ht407506, ht407507, ht407508, ht407509, ht407510, ht407511, ht407512, ht407513, ht407514, ht407515, ht407516, ht407517, ht407518, ht407519, ht407520, ht407521, ht407522, ht407523, ht407524, ht407525, ht407526, ht407527, ht407528, hB407532⟩
                      have hs407550 := rSk_put hs407467 hT407549 n407545 ht407470 (by decide) (by decide)
                      have dn407551 : ∀ N : Nat → Prop, rPl γ0 el0 F396962 q396964 (γ0 6 f) (fun _ _ => rNx N) → rPl γ el F407543 q396964 (γ 6 f) (fun _ _ => rNx N) := fun N hN => rPl_fr hT407466 ht407471 hf407472 (dn407462 N hN) (fun b hb _ => n407545 b (rn_ty (show rKd γ b 1 from hb) ht407470 (by decide)))
                      refine G_iload 1 dr_cX17_merge_149 rfl ?_
                      refine G_iload 0 dr_cX17_merge_151 rfl ?_
                      refine G_icmp_eq 164 dr_cX17_merge_153 (by decide +kernel) (fun hc407552 => ?_) (fun hc407552 => ?_)
                      · have r407553 : z407438.toInt = z407439.toInt := gC_eq hc407552
                        have ac407554 : (fI (F407543 q396963) 11).toInt = p407492.toInt := by rw [he407547]; rfl
                        have ac407555 : (fI (F407543 q396963) 14).toInt = p407495.toInt := by rw [he407547]; rfl
                        refine G_iconst 1 dr_cX17_merge_164 (by decide +kernel) ?_
                        exact G_zretA FieldType.boolean dr_cX17_merge_165 rfl rfl (show ((rPh γ el f - rPh γ0 el0 f) / 18) ≤ (((387 * B + 6000) - rPh γ0 el0 f) / 18) by omega) (show (rPh γ el f - rPh γ0 el0 f) ≤ ((387 * B + 6000) - rPh γ0 el0 f) by omega) ⟨P396961, F407543, γ, el, 1, rfl, rfl, hs407550, ⟨by omega, by omega⟩, hB407539, (gB_w (gBl (show Int32.toInt 1 = 1 by decide)) (by decide) (by decide)), (by have qa0 : Int32.toInt 1 = 1 := (by decide); omega), (by have qa0 : Int32.toInt 1 = 1 := (by decide); omega), (by have qa0 : Int32.toInt 1 = 1 := (by decide); omega), (by have qa0 : Int32.toInt 1 = 1 := (by decide); omega), (Or.inr (by rw [show γ 6 f = γ0 6 f by omega]; exact Nat.le_of_eq sm407460)), dn407551, (by have qa0 : Int32.toInt 1 = 1 := (by decide); omega), (by have qa0 : Int32.toInt 1 = 1 := (by decide); omega), (fun h => absurd h (by decide)), mk407548⟩
                      · have r407556 : z407438.toInt ≠ z407439.toInt := gC_ne hc407552
                        refine G_aload_n 7 dr_cX17_merge_156 rfl ?_
                        refine G_iload 0 dr_cX17_merge_157 rfl ?_
                        refine G_iload 1 dr_cX17_merge_159 rfl ?_
                        have v0_407557 : 0 < γ 6 (γ 1 q396964) := by rw [hf407472]; omega
                        refine Gw_callS (As := [.ref q396964, .int z407439, .int z407438]) (gV_ok D I) (ct_368779_SpillForgeModel_rename l hl0 D I γ el P396961 F407543 q396964 z407439 z407438 hT407549 ht407471 bz407439 bz407438 (by omega)) dr_cX17_merge_161 ⟨wr_11_30, wr_1_14, wr_11_32, by decide, rfl, (Nat.le_of_ble_eq_true rfl), (Nat.le_of_ble_eq_true rfl)⟩ wr_11_31 (rm_zc pk407541) (rm_zs pk407541) (Nat.le_of_ble_eq_true rfl) (fun r407561 w407562 dc407558 ds407559 hp407560 => ?_) (fun _ _ _ _ _ z => z.elim)
                        obtain ⟨F407565, rfl, rfl, hT407566, hs407567, hdc, hds, x407563, x407564⟩ := hp407560
                        have hs407568 := rSk_str hs407550 hT407566 hs407567 (by decide) (by decide) (by decide)
                        have kp407569 : F407565 q396963 = F407543 q396963 := x407564 q396963 (rT0 ht407470 (by decide)) (rT2 ht407470 (by decide))
                        have mk407570 : mKp (F396962 q396963) (F407565 q396963) := mKp_tr mk407548 (mKp_eq (x407564 q396963 (rT0 ht407470 (by decide)) (rT2 ht407470 (by decide))))
                        have he407571 : F407565 q396963 = .inr (22, [.ref (γ 9 0), .ref (γ 9 1), .ref (γ 9 2), .ref (γ 9 3), .ref (γ 9 4), .ref (γ 9 5), .ref (γ 9 6), .ref (γ 9 7), .ref (γ 9 8), .int p407490, .int p407491, .int p407492, .int p407493, .int z407542, .int p407495, .ref (γ 9 15), .ref (γ 9 16), .ref (γ 9 17), .ref (γ 9 18), .ref (γ 9 19), .ref (γ 9 20), .ref (γ 9 21), .ref (γ 9 22), .int p407496, .int p407497, .int p407498, .int p407499, .int p407500, .ref q407488, .ref (γ 9 29), .int p407501, .ref (γ 9 31), .int p407502, .int p407503, .int p407504, .ref q407489]) := (x407564 q396963 (rT0 ht407470 (by decide)) (rT2 ht407470 (by decide))).trans he407547
                        change G _ _ _ _ _ _ _ _ _ _ _
                        refine G_widen (cs' := ((rPh γ el f - rPh γ0 el0 f) / 18)) (sl' := (rPh γ el f - rPh γ0 el0 f)) (rm_d0 hdc) (rm_d0 hds) ?_
                        have dn407572 : ∀ N : Nat → Prop, rPl γ0 el0 F396962 q396964 (γ0 6 f) (fun _ _ => rNx N) → rPl γ el F407565 q396964 (γ 6 f) (fun _ _ => rNx N) := fun N hN => by have z := x407563 N ((show z407438.toInt = p407269.toInt ∨ z407438.toInt = p407270.toInt by omega).elim (fun e => by rw [e]; exact (nm407463 N hN).1) (fun e => by rw [e]; exact (nm407463 N hN).2)) (by omega); rw [hf407472] at z; exact z (dn407551 N hN)
                        have ac407573 : (fI (F407565 q396963) 11).toInt = p407492.toInt := by rw [he407571]; rfl
                        have ac407574 : (fI (F407565 q396963) 14).toInt = p407495.toInt := by rw [he407571]; rfl
                        refine G_iconst 1 dr_cX17_merge_164 (by decide +kernel) ?_
                        exact G_zretA FieldType.boolean dr_cX17_merge_165 rfl rfl (show ((rPh γ el f - rPh γ0 el0 f) / 18) ≤ (((387 * B + 6000) - rPh γ0 el0 f) / 18) by omega) (show (rPh γ el f - rPh γ0 el0 f) ≤ ((387 * B + 6000) - rPh γ0 el0 f) by omega) ⟨P396961, F407565, γ, el, 1, rfl, rfl, hs407568, ⟨by omega, by omega⟩, hB407539, (gB_w (gBl (show Int32.toInt 1 = 1 by decide)) (by decide) (by decide)), (by have qa0 : Int32.toInt 1 = 1 := (by decide); omega), (by have qa0 : Int32.toInt 1 = 1 := (by decide); omega), (by have qa0 : Int32.toInt 1 = 1 := (by decide); omega), (by have qa0 : Int32.toInt 1 = 1 := (by decide); omega), (Or.inr (by rw [show γ 6 f = γ0 6 f by omega]; exact Nat.le_of_eq sm407460)), dn407572, (by have qa0 : Int32.toInt 1 = 1 := (by decide); omega), (by have qa0 : Int32.toInt 1 = 1 := (by decide); omega), (fun h => absurd h (by decide)), mk407570⟩
                    · have r407575 : o407434.toInt = 0 := gj_eq hc407436 (show Int32.toInt 0 = 0 by decide)
                      have bo407434' : gB o407434 0 0 := ⟨by omega, by omega⟩
                      refine G_goto 166 dr_cX17_merge_95 (by decide +kernel) ?_
                      obtain ⟨z407576, hz407576⟩ : ∃ z : Int32, z = g407222 + Int32.ofInt 1 := ⟨_, rfl⟩
                      have ez407576 : z407576.toInt = g407222.toInt + 1 := gI_inc hz407576 (by decide) bg407222' (by decide) (by decide)
                      have bz407576 : gB z407576 1 1000000 := ⟨by omega, by omega⟩
                      refine G_iinc (L' := [(5, .int z407576), (6, .ref q407254), (4, .ref q406842), (3, .int g406782), (0, .ref q396963), (1, .ref q396964), (2, .int p396965)]) z407576 1 dr_cX17_merge_166 rfl hz407576.symm (Nat.le_of_ble_eq_true rfl) rfl ?_
                      refine G_goto 20 dr_cX17_merge_169 (by decide +kernel) ?_
                      refine G_lv (L' := [(5, .int z407576), (4, .ref q406842), (3, .int g406782), (0, .ref q396963), (1, .ref q396964), (2, .int p396965)]) [0, 2, 3, 4, 5, 6] rfl ?_
                      exact ih20_407222 z407576 (gB_w bz407576 (by decide) (by decide)) (by omega)
        exact hlp20_407222 (((1000001 : Int) - 0).toNat + 1) 0 (gB_w (gBl (show Int32.toInt 0 = 0 by decide)) (by decide) (by decide)) (Nat.lt_succ_self _)
  exact hlp2_406782 (((1000001 : Int) - 0).toNat + 1) 0 (gB_w (gBl (show Int32.toInt 0 = 0 by decide)) (by decide) (by decide)) (Nat.lt_succ_self _)
