theorem dr_cX17_give_0 : decode cX17_give 0 = .ok (.aload_n 0, 1) := by decide +kernel
theorem dr_cX17_give_1 : decode cX17_give 1 = .ok (.iconst 0, 1) := by decide +kernel
theorem dr_cX17_give_2 : decode cX17_give 2 = .ok (.putfield 380, 3) := by decide +kernel
theorem dr_cX17_give_5 : decode cX17_give 5 = .ok (.iload_n 1, 1) := by decide +kernel
theorem dr_cX17_give_6 : decode cX17_give 6 = .ok (.iconst 1, 1) := by decide +kernel
theorem dr_cX17_give_7 : decode cX17_give 7 = .ok (.if_icmp .lt 9, 3) := by decide +kernel
theorem dr_cX17_give_16 : decode cX17_give 16 = .ok (.aload_n 0, 1) := by decide +kernel
theorem dr_cX17_give_17 : decode cX17_give 17 = .ok (.iconst 1, 1) := by decide +kernel
theorem dr_cX17_give_18 : decode cX17_give 18 = .ok (.invokevirtual 385, 3) := by decide +kernel
theorem dr_cX17_give_21 : decode cX17_give 21 = .ok (.ireturn, 1) := by decide +kernel
theorem dr_cX17_give_10 : decode cX17_give 10 = .ok (.iload_n 1, 1) := by decide +kernel
theorem dr_cX17_give_11 : decode cX17_give 11 = .ok (.bipush 32, 2) := by decide +kernel
theorem dr_cX17_give_13 : decode cX17_give 13 = .ok (.if_icmp .le 9, 3) := by decide +kernel
theorem dr_cX17_give_22 : decode cX17_give 22 = .ok (.aload_n 0, 1) := by decide +kernel
theorem dr_cX17_give_23 : decode cX17_give 23 = .ok (.getfield 414, 3) := by decide +kernel
theorem dr_cX17_give_26 : decode cX17_give 26 = .ok (.ifCond .ne 9, 3) := by decide +kernel
theorem dr_cX17_give_35 : decode cX17_give 35 = .ok (.aload_n 0, 1) := by decide +kernel
theorem dr_cX17_give_36 : decode cX17_give 36 = .ok (.getfield 365, 3) := by decide +kernel
theorem dr_cX17_give_39 : decode cX17_give 39 = .ok (.aload_n 0, 1) := by decide +kernel
theorem dr_cX17_give_40 : decode cX17_give 40 = .ok (.getfield 361, 3) := by decide +kernel
theorem dr_cX17_give_43 : decode cX17_give 43 = .ok (.invokevirtual 419, 3) := by decide +kernel
theorem dr_cX17_give_46 : decode cX17_give 46 = .ok (.aload_n 0, 1) := by decide +kernel
theorem dr_cX17_give_47 : decode cX17_give 47 = .ok (.aload_n 0, 1) := by decide +kernel
theorem dr_cX17_give_48 : decode cX17_give 48 = .ok (.getfield 365, 3) := by decide +kernel
theorem dr_cX17_give_51 : decode cX17_give 51 = .ok (.iload_n 1, 1) := by decide +kernel
theorem dr_cX17_give_52 : decode cX17_give 52 = .ok (.invokevirtual 422, 3) := by decide +kernel
theorem wr_10_148 : (Jvm.Cond.methodLink "SpillForgeModel" (422 : Nat) ({ cls := "SpillForgeModel", name := "giveAll", desc := "(LSpillForgeModel$Code;I)I" } : Jvm.MethodName)) ∈ gw := gw_10 148 rfl rfl
theorem wr_10_151 : (Jvm.Cond.code ({ cls := "SpillForgeModel", name := "giveAll", desc := "(LSpillForgeModel$Code;I)I" } : Jvm.MethodName) prog_14_method_24_code (8 : Nat) (Option.some Jvm.ClassFile.FieldType.int)) ∈ gw := gw_10 151 rfl rfl
theorem wr_10_150 : (Jvm.Cond.instanceMethod ({ cls := "SpillForgeModel", name := "giveAll", desc := "(LSpillForgeModel$Code;I)I" } : Jvm.MethodName)) ∈ gw := gw_10 150 rfl rfl
theorem wr_p_92 : Cond.selects "SpillForgeModel" ⟨"SpillForgeModel", "giveAll", "(LSpillForgeModel$Code;I)I"⟩ ⟨"SpillForgeModel", "giveAll", "(LSpillForgeModel$Code;I)I"⟩ ∈ gw := gw_p _ 92 rfl rfl rfl
theorem dr_cX17_give_55 : decode cX17_give 55 = .ok (.istore_n 2, 1) := by decide +kernel
theorem dr_cX17_give_56 : decode cX17_give 56 = .ok (.aload_n 0, 1) := by decide +kernel
theorem dr_cX17_give_57 : decode cX17_give 57 = .ok (.iload_n 2, 1) := by decide +kernel
theorem dr_cX17_give_58 : decode cX17_give 58 = .ok (.ifCond .le 7, 3) := by decide +kernel
theorem dr_cX17_give_65 : decode cX17_give 65 = .ok (.iconst 0, 1) := by decide +kernel
theorem dr_cX17_give_66 : decode cX17_give 66 = .ok (.putfield 416, 3) := by decide +kernel
theorem dr_cX17_give_69 : decode cX17_give 69 = .ok (.iload_n 2, 1) := by decide +kernel
theorem dr_cX17_give_70 : decode cX17_give 70 = .ok (.ireturn, 1) := by decide +kernel
theorem dr_cX17_give_61 : decode cX17_give 61 = .ok (.iconst 1, 1) := by decide +kernel
theorem dr_cX17_give_62 : decode cX17_give 62 = .ok (.goto 4, 3) := by decide +kernel
theorem dr_cX17_give_29 : decode cX17_give 29 = .ok (.aload_n 0, 1) := by decide +kernel
theorem dr_cX17_give_30 : decode cX17_give 30 = .ok (.iconst 2, 1) := by decide +kernel
theorem dr_cX17_give_31 : decode cX17_give 31 = .ok (.invokevirtual 385, 3) := by decide +kernel
theorem dr_cX17_give_34 : decode cX17_give 34 = .ok (.ireturn, 1) := by decide +kernel
abbrev ky_654802_SpillForgeModel_give : gKey := (cX17_give, 3, "SpillForgeModel", (some FieldType.int), [], "give", fun _ _ => True)
def pg_654802_SpillForgeModel_give (D : va_G) (I : FieldType → ClassId) (γ0 el0 : Nat → Nat → Nat) (f : Nat) (fo : Nat) (B : Nat) (P654790 : List Nat) (F654791 : Nat → va_E) (q654792 : Nat) (p654793 : Int32) (q654794 : Nat) (q654795 : Nat) : Option Value → va_W → Nat → Nat → Prop := fun r w dc ds => ∃ (P655328 : List Nat) (F655329 : Nat → va_E) (γ el : Nat → Nat → Nat) (o655327 : Int32), r = some (.int o655327) ∧ w = va_pl P655328 F655329 ∧ rSk f [1, 2, 3, 101, 102, 103, 202] ([1, 2, 3, 4, 5, 6, 7, 8, 9, 101, 102, 103, 202] ++ npk) D I P654790 F654791 γ0 el0 P655328 F655329 γ el ∧ (18 * dc + rPh γ0 el0 f ≤ rPh γ el f ∧ ds + rPh γ0 el0 f ≤ rPh γ el f) ∧ rBd γ el f B ∧ gB o655327 (-1) 40 ∧ ((fI (F655329 q654792) 10).toInt = 0 ∨ 0 < γ 6 f) ∧ mKp (F654791 q654792) (F655329 q654792)
set_option maxRecDepth 100000 in
set_option maxHeartbeats 20000000 in
theorem cg_654802_SpillForgeModel_give (l : Launch) (hl0 : l.stackTraces = false) (D : va_G) (I : FieldType → ClassId) (γ0 el0 : Nat → Nat → Nat) (f : Nat) (fo : Nat) (B : Nat) (P654790 : List Nat) (F654791 : Nat → va_E) (q654792 : Nat) (p654793 : Int32) (q654794 : Nat) (q654795 : Nat) (hT0 : RS D I P654790 F654791 γ0 el0) (hzq654792 : rKd γ0 q654792 10) (hzq654794 : rKd γ0 q654794 9) (hzq654795 : rKd γ0 q654795 9) (hvq654794 : γ0 9 7 = q654794) (hvq654795 : γ0 9 6 = q654795) (hf0 : γ0 1 q654794 = f) (hfo0 : γ0 1 q654795 = fo) (hne : fo ≠ f) (hB0 : rBd γ0 el0 f B) (hBk : B ≤ 100000) (x654796 : f = 1) (x654797 : fo = 0) (x654798 : ((fI (F654791 q654792) 9).toInt = 0 ∨ (0 < γ0 6 fo ∧ γ0 16 fo ≤ 160))) (x654799 : γ0 7 fo = 0) (x654800 : 4061 ≤ B) (x654801 : ((fI (F654791 q654792) 10).toInt = 0 ∨ 0 < γ0 6 f)) : CtA (gV D I) l yX17_give cX17_give 3 (some FieldType.int) 11 251 (((387 * B + 6000) - rPh γ0 el0 f) / 18) ((387 * B + 6000) - rPh γ0 el0 f) [.ref q654792, .int p654793] (va_pl P654790 F654791) (pg_654802_SpillForgeModel_give D I γ0 el0 f fo B P654790 F654791 q654792 p654793 q654794 q654795) gNA := by
  refine CtA_of hl0 (by decide) (Nat.le_of_ble_eq_true rfl) ?_
  have bp654793 := gB_any p654793
  obtain ⟨γ, hγ0⟩ : ∃ z, z = γ0 := ⟨_, rfl⟩
  obtain ⟨el, hel0⟩ : ∃ z, z = el0 := ⟨_, rfl⟩
  have hT : RS D I P654790 F654791 γ el := by rw [hγ0, hel0]; exact hT0
  have hst : rSk f [1, 2, 3, 101, 102, 103, 202] ([1, 2, 3, 4, 5, 6, 7, 8, 9, 101, 102, 103, 202] ++ npk) D I P654790 F654791 γ0 el0 P654790 F654791 γ el := by rw [hγ0, hel0]; exact rSk_rf hT0
  have hph : rPh γ0 el0 f ≤ rPh γ el f := by rw [hγ0, hel0]; exact Nat.le_refl _
  have hB : rBd γ el f B := by rw [hγ0, hel0]; exact hB0
  have htq654792 : rKd γ q654792 10 := by rw [hγ0]; exact hzq654792
  have htq654794 : rKd γ q654794 9 := by rw [hγ0]; exact hzq654794
  have htq654795 : rKd γ q654795 9 := by rw [hγ0]; exact hzq654795
  have hf1 : γ 1 q654794 = f := by rw [hγ0]; exact hf0
  have hfo1 : γ 1 q654795 = fo := by rw [hγ0]; exact hfo0
  have x654798n : ((fI (F654791 q654792) 9).toInt = 0 ∨ (0 < γ 6 fo ∧ γ 16 fo ≤ 160)) := by rw [hγ0]; exact x654798
  have x654799n : γ 7 fo = 0 := by rw [hγ0]; exact x654799
  have x654801n : ((fI (F654791 q654792) 10).toInt = 0 ∨ 0 < γ 6 f) := by rw [hγ0]; exact x654801
  have pk654803 : rPh γ el f ≤ 387 * B + 6000 := rm_pk (rM_ge hT htq654794 hf1).1 (rM_bd hB)
  refine G_widen (cs' := ((rPh γ el f - rPh γ0 el0 f) / 18)) (sl' := (rPh γ el f - rPh γ0 el0 f)) (Nat.zero_le _) (Nat.zero_le _) ?_
  have lz0 : Int32.toInt 0 = 0 := by decide
  have r654804 : γ 6 f = γ0 6 f := by rw [hγ0]
  have r654805 : γ 7 f = γ0 7 f := by rw [hγ0]
  have r654806 : γ 16 f = γ0 16 f := by rw [hγ0]
  have r654807 : γ 18 f = γ0 18 f := by rw [hγ0]
  have r654808 : γ 19 f = γ0 19 f := by rw [hγ0]
  have hm654809 : q654792 ∈ P654790 := RS_m hT htq654792 (by decide)
  refine rk10_e (show rk_10 γ (F654791 q654792) from RS_o hT htq654792) (fun q654811 q654812 p654813 p654814 p654815 p654816 p654817 p654818 p654819 p654820 p654821 p654822 p654823 p654824 p654825 p654826 p654827 he654810 hB654854 ht654828 ht654829 ht654830 ht654831 ht654832 ht654833 ht654834 ht654835 ht654836 ht654837 ht654838 ht654839 ht654840 ht654841 ht654842 ht654843 ht654844 ht654845 ht654846 ht654847 ht654848 ht654849 ht654850 ht654851 hB654855 => ?_)
  have ac0_9 : (fI (F654791 q654792) 9).toInt = p654813.toInt := by rw [he654810]; rfl
  have ac0_10 : (fI (F654791 q654792) 10).toInt = p654814.toInt := by rw [he654810]; rfl
  have ac0_32 : (fI (F654791 q654792) 32).toInt = p654825.toInt := by rw [he654810]; rfl
  have r654856 : γ 6 fo = γ0 6 fo := by rw [hγ0]
  have r654857 : γ 7 fo = γ0 7 fo := by rw [hγ0]
  have r654858 : γ 16 fo = γ0 16 fo := by rw [hγ0]
  refine G_aload_n 0 dr_cX17_give_0 rfl ?_
  refine G_iconst 0 dr_cX17_give_1 (by decide +kernel) ?_
  refine Gp_put 30 hm654809 he654810 dr_cX17_give_2 (gk_X17 D I) (Nat.le_of_ble_eq_true rfl) wr_7_104 rfl rfl rfl (Nat.le_of_ble_eq_true rfl) (fun F654859 e654860 n654861 => ?_)
  have he654862 : F654859 q654792 = .inr (22, [.ref (γ 9 0), .ref (γ 9 1), .ref (γ 9 2), .ref (γ 9 3), .ref (γ 9 4), .ref (γ 9 5), .ref (γ 9 6), .ref (γ 9 7), .ref (γ 9 8), .int p654813, .int p654814, .int p654815, .int p654816, .int p654817, .int p654818, .ref (γ 9 15), .ref (γ 9 16), .ref (γ 9 17), .ref (γ 9 18), .ref (γ 9 19), .ref (γ 9 20), .ref (γ 9 21), .ref (γ 9 22), .int p654819, .int p654820, .int p654821, .int p654822, .int p654823, .ref q654811, .ref (γ 9 29), .int 0, .ref (γ 9 31), .int p654825, .int p654826, .int p654827, .ref q654812]) := e654860
  have mk654863 : mKp (F654791 q654792) (F654859 q654792) := mKp_tr mKp_rf (by rw [he654810, he654862]; exact ⟨rfl, rfl⟩)
  have hT654864 : RS D I P654790 F654859 γ el := RS_set hT n654861 htq654792 (by decide) ⟨q654811, q654812, p654813, p654814, p654815, p654816, p654817, p654818, p654819, p654820, p654821, p654822, p654823, 0, p654825, p654826, p654827, he654862, ⟨(hB654854.1), (hB654854.2.1), (hB654854.2.2.1), (hB654854.2.2.2.1), (hB654854.2.2.2.2.1), (hB654854.2.2.2.2.2.1), (hB654854.2.2.2.2.2.2.1), (hB654854.2.2.2.2.2.2.2.1), (hB654854.2.2.2.2.2.2.2.2)⟩, ht654828, ht654829, ht654830, ht654831, ht654832, ht654833, ht654834, ht654835, ht654836, ht654837, ht654838, ht654839, ht654840, ht654841, ht654842, ht654843, ht654844, ht654845, ht654846, ht654847, ht654848, ht654849, ht654850, ht654851, hB654855⟩
  have hs654865 := rSk_put hst hT654864 n654861 htq654792 (by decide) (by decide)
  have ac654866 : (fI (F654859 q654792) 10).toInt = p654814.toInt := by rw [he654862]; rfl
  refine G_iload_n 1 dr_cX17_give_5 rfl ?_
  refine G_iconst 1 dr_cX17_give_6 (by decide +kernel) ?_
  refine G_icmp_lt 16 dr_cX17_give_7 (by decide +kernel) (fun hc654867 => ?_) (fun hc654867 => ?_)
  · have r654868 : p654793.toInt < 1 := gj_lt hc654867 (show Int32.toInt 1 = 1 by decide)
    have bp654793' : gB p654793 (-2147483648) 0 := ⟨by omega, by omega⟩
    refine G_aload_n 0 dr_cX17_give_16 rfl ?_
    refine G_iconst 1 dr_cX17_give_17 (by decide +kernel) ?_
    refine Gw_callV (As := [.int 1]) (gV_ok D I) (ct_586932_SpillForgeModel_no l hl0 D I γ el P654790 F654859 q654792 1 hT654864 htq654792) dr_cX17_give_18 ⟨wr_7_191, wr_1_14, wr_7_194, by decide, rfl, (Nat.le_of_ble_eq_true rfl), (Nat.le_of_ble_eq_true rfl)⟩ wr_7_193 wr_p_73 hm654809 he654862 rfl (rm_zc pk654803) (rm_zs pk654803) (Nat.le_of_ble_eq_true rfl) (fun r654872 w654873 dc654869 ds654870 hp654871 => ?_) (fun _ _ _ _ _ z => z.elim)
    obtain ⟨F654877, rfl, rfl, hT654878, hs654879, hdc, hds, x654874, x654875, ht654876⟩ := hp654871
    have hs654880 := rSk_str hs654865 hT654878 hs654879 (by decide) (by decide) (by decide)
    have mk654881 : mKp (F654791 q654792) (F654877 q654792) := mKp_tr mk654863 x654875
    change G _ _ _ _ _ _ _ (.int 0 :: _) _ _ _
    refine G_widen (cs' := ((rPh γ el f - rPh γ0 el0 f) / 18)) (sl' := (rPh γ el f - rPh γ0 el0 f)) (rm_d0 hdc) (rm_d0 hds) ?_
    have hm654882 : q654792 ∈ P654790 := RS_m hT654878 htq654792 (by decide)
    refine rk10_e (show rk_10 γ (F654877 q654792) from RS_o hT654878 htq654792) (fun q654884 q654885 p654886 p654887 p654888 p654889 p654890 p654891 p654892 p654893 p654894 p654895 p654896 p654897 p654898 p654899 p654900 he654883 hB654927 ht654901 ht654902 ht654903 ht654904 ht654905 ht654906 ht654907 ht654908 ht654909 ht654910 ht654911 ht654912 ht654913 ht654914 ht654915 ht654916 ht654917 ht654918 ht654919 ht654920 ht654921 ht654922 ht654923 ht654924 hB654928 => ?_)
    have ac654929 : (fI (F654877 q654792) 9).toInt = p654886.toInt := by rw [he654883]; rfl
    have ac654930 : (fI (F654877 q654792) 10).toInt = p654887.toInt := by rw [he654883]; rfl
    have ac654931 : (fI (F654877 q654792) 32).toInt = p654898.toInt := by rw [he654883]; rfl
    exact G_iretA dr_cX17_give_21 rfl (show ((rPh γ el f - rPh γ0 el0 f) / 18) ≤ (((387 * B + 6000) - rPh γ0 el0 f) / 18) by omega) (show (rPh γ el f - rPh γ0 el0 f) ≤ ((387 * B + 6000) - rPh γ0 el0 f) by omega) ⟨P654790, F654877, γ, el, 0, rfl, rfl, hs654880, ⟨by omega, by omega⟩, hB, (gB_w (gBl (show Int32.toInt 0 = 0 by decide)) (by decide) (by decide)), (by have qa0 : Int32.toInt 0 = 0 := (by decide); omega), mk654881⟩
  · have r654932 : 1 ≤ p654793.toInt := gj_nlt hc654867 (show Int32.toInt 1 = 1 by decide)
    have bp654793' : gB p654793 1 2147483647 := ⟨by omega, by omega⟩
    refine G_iload_n 1 dr_cX17_give_10 rfl ?_
    refine G_bipush 32 dr_cX17_give_11 (by decide +kernel) ?_
    refine G_icmp_le 22 dr_cX17_give_13 (by decide +kernel) (fun hc654933 => ?_) (fun hc654933 => ?_)
    · have r654934 : p654793.toInt ≤ 32 := gj_le hc654933 (show Int32.toInt 32 = 32 by decide)
      have bp654793'' : gB p654793 1 32 := ⟨by omega, by omega⟩
      refine G_aload_n 0 dr_cX17_give_22 rfl ?_
      refine Gp_get 9 hm654809 he654862 dr_cX17_give_23 (gk_X17 D I) (Nat.le_of_ble_eq_true rfl) wr_7_83 rfl ?_
      have bp654813 : gB p654813 0 1 := (hB654854.1)
      refine G_if_ne 35 dr_cX17_give_26 (by decide +kernel) (fun hc654935 => ?_) (fun hc654935 => ?_)
      · have r654936 : p654813.toInt ≠ 0 := gj_neq hc654935 (show Int32.toInt 0 = 0 by decide)
        have bp654813' : gB p654813 1 1 := gB_t1 bp654813 r654936
        refine G_aload_n 0 dr_cX17_give_35 rfl ?_
        refine Gp_get 7 hm654809 he654862 dr_cX17_give_36 (gk_X17 D I) (Nat.le_of_ble_eq_true rfl) wr_7_81 rfl ?_
        rw [show γ 9 7 = q654794 from (congrFun (rSk_9 hs654865) 7).trans hvq654794]
        refine G_aload_n 0 dr_cX17_give_39 rfl ?_
        refine Gp_get 6 hm654809 he654862 dr_cX17_give_40 (gk_X17 D I) (Nat.le_of_ble_eq_true rfl) wr_7_80 rfl ?_
        rw [show γ 9 6 = q654795 from (congrFun (rSk_9 hs654865) 6).trans hvq654795]
        have rg654937 := rM_ge hT654864 htq654794 hf1
        have rm654938 := rM_bd hB
        have bd654939 := rBd_c hT654864 htq654794 hf1 hB
        have rc654940 := rc_at hT654864 htq654794 hf1
        have hm654946 : q654794 ∈ P654790 := RS_m hT654864 htq654794 (by decide)
        obtain ⟨q654948, q654949, p654950, p654951, he654947, ht654967, ht654952, ht654953, ht654954, ht654955, r654956, r654957, r654958, r654959, r654960, r654961, r654962, r654963, r654964, r654965, r654966⟩ := show rk_9 γ el q654794 (F654859 q654794) from RS_o hT654864 htq654794
        have bp654950 : gB p654950 0 1000000 := ⟨by omega, by omega⟩
        have bp654951 : gB p654951 0 1000000 := ⟨by omega, by omega⟩
        have hf654968 : γ 1 q654948 = f := (show γ 1 q654948 = γ 1 q654794 from ht654953).trans hf1
        have hf654969 : γ 1 q654949 = f := (show γ 1 q654949 = γ 1 q654794 from ht654955).trans hf1
        have r654970 : γ 6 (γ 1 q654794) = γ 6 f := by rw [hf1]
        have r654971 : γ 16 (γ 1 q654794) = γ 16 f := by rw [hf1]
        refine Gw_callV (As := [.ref q654795]) (gV_ok D I) (cg_195839_Code_copy l hl0 D I γ el f fo B P654790 F654859 q654794 q654795 hT654864 htq654794 htq654795 hf1 hfo1 hne hB hBk (by omega) (by omega) (by omega)) dr_cX17_give_43 ⟨wr_10_132, wr_1_15, wr_10_135, by decide, rfl, (Nat.le_of_ble_eq_true rfl), (Nat.le_of_ble_eq_true rfl)⟩ wr_10_133 wr_10_134 hm654946 he654947 rfl (rm_gc hph pk654803) (rm_gs hph pk654803) (Nat.le_of_ble_eq_true rfl) (fun r654944 w654945 dc654941 ds654942 hp654943 => ?_) (fun _ _ _ _ _ z => z.elim)
        obtain ⟨P654977, F654978, γ, el, rfl, rfl, hk654979, ⟨hr654980, hr654981⟩, hB654982, x654972, x654973, x654974, x654975, ht654976⟩ := hp654943
        have hT654983 := hk654979.1
        have hs654984 := rSk_tr hs654865 hk654979 (by decide) (by decide) (by decide)
        have kp654985 : F654978 q654792 = F654859 q654792 := rSk_F hk654979 htq654792 (by decide) (by decide)
        have r654986 := rSk_F hk654979 htq654792 (by decide) (by decide)
        have ht654987 : rKd γ q654792 10 := rSk_k hk654979 htq654792 (by decide) (by decide)
        have ht654988 : rKd γ q654794 9 := rSk_k hk654979 htq654794 (by decide) (by decide)
        have hf654989 : γ 1 q654794 = f := rSk_1 hk654979 htq654794 (by decide) hf1
        have ht654990 : rKd γ q654795 9 := rSk_kf hk654979 htq654795 (by decide) (by rw [hfo1]; exact hne)
        have hf654991 : γ 1 q654795 = fo := rSk_1 hk654979 htq654795 (by decide) hfo1
        have mk654992 : mKp (F654791 q654792) (F654978 q654792) := mKp_tr mk654863 (mKp_eq (rSk_F hk654979 htq654792 (by decide) (by decide)))
        clear r654956 r654957 r654958 r654959 r654960 r654961 r654963 r654964 r654965 r654966 bp654950 bp654951 rg654937 rm654938 bd654939 rc654940
        clear r654962
        have hph654993 : rPh γ0 el0 f ≤ rPh γ el f := rm_ph hph hr654981
        have pk654994 : rPh γ el f ≤ 387 * B + 6000 := rm_pk (rM_ge hT654983 ht654988 hf654989).1 (rM_bd hB654982)
        change G _ _ _ _ _ _ _ _ _ _ _
        refine G_widen (cs' := ((rPh γ el f - rPh γ0 el0 f) / 18)) (sl' := (rPh γ el f - rPh γ0 el0 f)) (rm_wc hph hr654980) (rm_ws hph hr654981) ?_
        have r654995 := rSk_g hs654984 hne
        have r654996 : γ 6 fo = γ0 6 fo := r654995.1
        have r654997 : γ 7 fo = γ0 7 fo := r654995.2.1
        have r654998 : γ 16 fo = γ0 16 fo := r654995.2.2.1
        have r654999 : 0 < γ 6 (γ 1 q654794) := by rw [hf654989]; omega
        refine G_aload_n 0 dr_cX17_give_46 rfl ?_
        refine G_aload_n 0 dr_cX17_give_47 rfl ?_
        have hm655000 : q654792 ∈ P654977 := RS_m hT654983 ht654987 (by decide)
        refine rk10_e (show rk_10 γ (F654978 q654792) from RS_o hT654983 ht654987) (fun q655002 q655003 p655004 p655005 p655006 p655007 p655008 p655009 p655010 p655011 p655012 p655013 p655014 p655015 p655016 p655017 p655018 he655001 hB655045 ht655019 ht655020 ht655021 ht655022 ht655023 ht655024 ht655025 ht655026 ht655027 ht655028 ht655029 ht655030 ht655031 ht655032 ht655033 ht655034 ht655035 ht655036 ht655037 ht655038 ht655039 ht655040 ht655041 ht655042 hB655046 => ?_)
        refine Gp_get 7 hm655000 he655001 dr_cX17_give_48 (gk_X17 D I) (Nat.le_of_ble_eq_true rfl) wr_7_81 rfl ?_
        rw [show γ 9 7 = q654794 from (congrFun (rSk_9 hs654984) 7).trans hvq654794]
        refine G_iload_n 1 dr_cX17_give_51 rfl ?_
        have rg655047 := rM_ge hT654983 ht654988 hf654989
        have rm655048 := rM_bd hB654982
        have bd655049 := rBd_c hT654983 ht654988 hf654989 hB654982
        have rc655050 := rc_at hT654983 ht654988 hf654989
        refine Gw_callV (As := [.ref q654794, .int p654793]) (gV_ok D I) (cg_629340_SpillForgeModel_giveAll l hl0 D I γ el f B P654977 F654978 q654792 q654794 p654793 hT654983 ht654987 ht654988 hf654989 hB654982 hBk bp654793'' (by omega) (by omega) (by omega)) dr_cX17_give_52 ⟨wr_10_148, wr_1_14, wr_10_151, by decide, rfl, (Nat.le_of_ble_eq_true rfl), (Nat.le_of_ble_eq_true rfl)⟩ wr_10_150 wr_p_92 hm655000 he655001 rfl (rm_gc hph654993 pk654994) (rm_gs hph654993 pk654994) (Nat.le_of_ble_eq_true rfl) (fun r655054 w655055 dc655051 ds655052 hp655053 => ?_) (fun _ _ _ _ _ z => z.elim)
        obtain ⟨P655059, F655060, γ, el, o655056, rfl, rfl, hk655061, ⟨hr655062, hr655063⟩, hB655064, bo655056, x655057, x655058⟩ := hp655053
        have hT655065 := hk655061.1
        have hs655066 := rSk_tr hs654984 hk655061 (by decide) (by decide) (by decide)
        have ht655067 : rKd γ q654792 10 := rSk_k hk655061 ht654987 (by decide) (by decide)
        have ht655068 : rKd γ q654794 9 := rSk_k hk655061 ht654988 (by decide) (by decide)
        have hf655069 : γ 1 q654794 = f := rSk_1 hk655061 ht654988 (by decide) hf654989
        have ht655070 : rKd γ q654795 9 := rSk_kf hk655061 ht654990 (by decide) (by rw [hf654991]; exact hne)
        have hf655071 : γ 1 q654795 = fo := rSk_1 hk655061 ht654990 (by decide) hf654991
        clear rg655047 rm655048 bd655049 rc655050
        have mk655072 : mKp (F654791 q654792) (F655060 q654792) := mKp_tr mk654992 x655058
        have hph655073 : rPh γ0 el0 f ≤ rPh γ el f := rm_ph hph654993 hr655063
        have pk655074 : rPh γ el f ≤ 387 * B + 6000 := rm_pk (rM_ge hT655065 ht655068 hf655069).1 (rM_bd hB655064)
        change G _ _ _ _ _ _ _ (.int o655056 :: _) _ _ _
        refine G_widen (cs' := ((rPh γ el f - rPh γ0 el0 f) / 18)) (sl' := (rPh γ el f - rPh γ0 el0 f)) (rm_wc hph654993 hr655062) (rm_ws hph654993 hr655063) ?_
        have r655075 := rSk_g hs655066 hne
        have r655076 : γ 6 fo = γ0 6 fo := r655075.1
        have r655077 : γ 7 fo = γ0 7 fo := r655075.2.1
        have r655078 : γ 16 fo = γ0 16 fo := r655075.2.2.1
        have r655079 : 0 < γ 6 (γ 1 q654794) := by rw [hf655069]; omega
        refine G_istore_n (L' := [(2, .int o655056), (0, .ref q654792), (1, .int p654793)]) dr_cX17_give_55 (Nat.le_of_ble_eq_true rfl) rfl ?_
        refine G_aload_n 1 dr_cX17_give_56 rfl ?_
        refine G_iload_n 0 dr_cX17_give_57 rfl ?_
        refine G_if_le 65 dr_cX17_give_58 (by decide +kernel) (fun hc655080 => ?_) (fun hc655080 => ?_)
        · have r655081 : o655056.toInt ≤ 0 := gj_le hc655080 (show Int32.toInt 0 = 0 by decide)
          have bo655056' : gB o655056 (-1) 0 := ⟨by omega, by omega⟩
          refine G_iconst 0 dr_cX17_give_65 (by decide +kernel) ?_
          have hm655082 : q654792 ∈ P655059 := RS_m hT655065 ht655067 (by decide)
          refine rk10_e (show rk_10 γ (F655060 q654792) from RS_o hT655065 ht655067) (fun q655084 q655085 p655086 p655087 p655088 p655089 p655090 p655091 p655092 p655093 p655094 p655095 p655096 p655097 p655098 p655099 p655100 he655083 hB655127 ht655101 ht655102 ht655103 ht655104 ht655105 ht655106 ht655107 ht655108 ht655109 ht655110 ht655111 ht655112 ht655113 ht655114 ht655115 ht655116 ht655117 ht655118 ht655119 ht655120 ht655121 ht655122 ht655123 ht655124 hB655128 => ?_)
          refine Gp_put 10 hm655082 he655083 dr_cX17_give_66 (gk_X17 D I) (Nat.le_of_ble_eq_true rfl) wr_7_84 rfl rfl rfl (Nat.le_of_ble_eq_true rfl) (fun F655129 e655130 n655131 => ?_)
          have he655132 : F655129 q654792 = .inr (22, [.ref (γ 9 0), .ref (γ 9 1), .ref (γ 9 2), .ref (γ 9 3), .ref (γ 9 4), .ref (γ 9 5), .ref (γ 9 6), .ref (γ 9 7), .ref (γ 9 8), .int p655086, .int 0, .int p655088, .int p655089, .int p655090, .int p655091, .ref (γ 9 15), .ref (γ 9 16), .ref (γ 9 17), .ref (γ 9 18), .ref (γ 9 19), .ref (γ 9 20), .ref (γ 9 21), .ref (γ 9 22), .int p655092, .int p655093, .int p655094, .int p655095, .int p655096, .ref q655084, .ref (γ 9 29), .int p655097, .ref (γ 9 31), .int p655098, .int p655099, .int p655100, .ref q655085]) := e655130
          have mk655133 : mKp (F654791 q654792) (F655129 q654792) := mKp_tr mk655072 (by rw [he655083, he655132]; exact ⟨rfl, rfl⟩)
          refine G_iload_n 0 dr_cX17_give_69 rfl ?_
          have hT655134 : RS D I P655059 F655129 γ el := RS_set hT655065 n655131 ht655067 (by decide) ⟨q655084, q655085, p655086, 0, p655088, p655089, p655090, p655091, p655092, p655093, p655094, p655095, p655096, p655097, p655098, p655099, p655100, he655132, ⟨(hB655127.1), (gB_w (gBl (show Int32.toInt 0 = 0 by decide)) (by decide) (by decide)), (hB655127.2.2.1), (hB655127.2.2.2.1), (hB655127.2.2.2.2.1), (hB655127.2.2.2.2.2.1), (hB655127.2.2.2.2.2.2.1), (hB655127.2.2.2.2.2.2.2.1), (hB655127.2.2.2.2.2.2.2.2)⟩, ht655101, ht655102, ht655103, ht655104, ht655105, ht655106, ht655107, ht655108, ht655109, ht655110, ht655111, ht655112, ht655113, ht655114, ht655115, ht655116, ht655117, ht655118, ht655119, ht655120, ht655121, ht655122, ht655123, ht655124, ⟨(show (_ ∨ _ ∨ _) ∧ (_ ∨ _ ∨ _) ∧ _ from hB655128).1, Or.inr (Or.inl (by have z : 0 < γ 6 f := (by omega); rw [x654796] at z; exact z)), (show (_ ∨ _ ∨ _) ∧ (_ ∨ _ ∨ _) ∧ _ from hB655128).2.2⟩⟩
          have hs655135 := rSk_put hs655066 hT655134 n655131 ht655067 (by decide) (by decide)
          have ac655136 : (fI (F655129 q654792) 9).toInt = p655086.toInt := by rw [he655132]; rfl
          have ac655137 : (fI (F655129 q654792) 10).toInt = 0 := by rw [he655132]; show Int32.toInt 0 = 0; decide
          have ac655138 : (fI (F655129 q654792) 32).toInt = p655098.toInt := by rw [he655132]; rfl
          have mq655139 : mKp _ _ := mk655072
          exact G_iretA dr_cX17_give_70 rfl (show ((rPh γ el f - rPh γ0 el0 f) / 18) ≤ (((387 * B + 6000) - rPh γ0 el0 f) / 18) by omega) (show (rPh γ el f - rPh γ0 el0 f) ≤ ((387 * B + 6000) - rPh γ0 el0 f) by omega) ⟨P655059, F655129, γ, el, o655056, rfl, rfl, hs655135, ⟨by omega, by omega⟩, hB655064, (gB_w bo655056' (by decide) (by decide)), (by omega), mk655133⟩
        · have r655140 : 0 < o655056.toInt := gj_nle hc655080 (show Int32.toInt 0 = 0 by decide)
          have bo655056' : gB o655056 1 40 := ⟨by omega, by omega⟩
          refine G_iconst 1 dr_cX17_give_61 (by decide +kernel) ?_
          refine G_goto 66 dr_cX17_give_62 (by decide +kernel) ?_
          have hm655141 : q654792 ∈ P655059 := RS_m hT655065 ht655067 (by decide)
          refine rk10_e (show rk_10 γ (F655060 q654792) from RS_o hT655065 ht655067) (fun q655143 q655144 p655145 p655146 p655147 p655148 p655149 p655150 p655151 p655152 p655153 p655154 p655155 p655156 p655157 p655158 p655159 he655142 hB655186 ht655160 ht655161 ht655162 ht655163 ht655164 ht655165 ht655166 ht655167 ht655168 ht655169 ht655170 ht655171 ht655172 ht655173 ht655174 ht655175 ht655176 ht655177 ht655178 ht655179 ht655180 ht655181 ht655182 ht655183 hB655187 => ?_)
          refine Gp_put 10 hm655141 he655142 dr_cX17_give_66 (gk_X17 D I) (Nat.le_of_ble_eq_true rfl) wr_7_84 rfl rfl rfl (Nat.le_of_ble_eq_true rfl) (fun F655188 e655189 n655190 => ?_)
          have he655191 : F655188 q654792 = .inr (22, [.ref (γ 9 0), .ref (γ 9 1), .ref (γ 9 2), .ref (γ 9 3), .ref (γ 9 4), .ref (γ 9 5), .ref (γ 9 6), .ref (γ 9 7), .ref (γ 9 8), .int p655145, .int 1, .int p655147, .int p655148, .int p655149, .int p655150, .ref (γ 9 15), .ref (γ 9 16), .ref (γ 9 17), .ref (γ 9 18), .ref (γ 9 19), .ref (γ 9 20), .ref (γ 9 21), .ref (γ 9 22), .int p655151, .int p655152, .int p655153, .int p655154, .int p655155, .ref q655143, .ref (γ 9 29), .int p655156, .ref (γ 9 31), .int p655157, .int p655158, .int p655159, .ref q655144]) := e655189
          have mk655192 : mKp (F654791 q654792) (F655188 q654792) := mKp_tr mk655072 (by rw [he655142, he655191]; exact ⟨rfl, rfl⟩)
          refine G_iload_n 0 dr_cX17_give_69 rfl ?_
          have hT655193 : RS D I P655059 F655188 γ el := RS_set hT655065 n655190 ht655067 (by decide) ⟨q655143, q655144, p655145, 1, p655147, p655148, p655149, p655150, p655151, p655152, p655153, p655154, p655155, p655156, p655157, p655158, p655159, he655191, ⟨(hB655186.1), (gB_w (gBl (show Int32.toInt 1 = 1 by decide)) (by decide) (by decide)), (hB655186.2.2.1), (hB655186.2.2.2.1), (hB655186.2.2.2.2.1), (hB655186.2.2.2.2.2.1), (hB655186.2.2.2.2.2.2.1), (hB655186.2.2.2.2.2.2.2.1), (hB655186.2.2.2.2.2.2.2.2)⟩, ht655160, ht655161, ht655162, ht655163, ht655164, ht655165, ht655166, ht655167, ht655168, ht655169, ht655170, ht655171, ht655172, ht655173, ht655174, ht655175, ht655176, ht655177, ht655178, ht655179, ht655180, ht655181, ht655182, ht655183, ⟨(show (_ ∨ _ ∨ _) ∧ (_ ∨ _ ∨ _) ∧ _ from hB655187).1, Or.inr (Or.inl (by have z : 0 < γ 6 f := (by omega); rw [x654796] at z; exact z)), (show (_ ∨ _ ∨ _) ∧ (_ ∨ _ ∨ _) ∧ _ from hB655187).2.2⟩⟩
          have hs655194 := rSk_put hs655066 hT655193 n655190 ht655067 (by decide) (by decide)
          have ac655195 : (fI (F655188 q654792) 9).toInt = p655145.toInt := by rw [he655191]; rfl
          have ac655196 : (fI (F655188 q654792) 10).toInt = 1 := by rw [he655191]; show Int32.toInt 1 = 1; decide
          have ac655197 : (fI (F655188 q654792) 32).toInt = p655157.toInt := by rw [he655191]; rfl
          have mq655198 : mKp _ _ := mk655072
          exact G_iretA dr_cX17_give_70 rfl (show ((rPh γ el f - rPh γ0 el0 f) / 18) ≤ (((387 * B + 6000) - rPh γ0 el0 f) / 18) by omega) (show (rPh γ el f - rPh γ0 el0 f) ≤ ((387 * B + 6000) - rPh γ0 el0 f) by omega) ⟨P655059, F655188, γ, el, o655056, rfl, rfl, hs655194, ⟨by omega, by omega⟩, hB655064, (gB_w bo655056' (by decide) (by decide)), (by omega), mk655192⟩
      · have r655199 : p654813.toInt = 0 := gj_eq hc654935 (show Int32.toInt 0 = 0 by decide)
        have bp654813' : gB p654813 0 0 := gB_t0 r655199
        refine G_aload_n 0 dr_cX17_give_29 rfl ?_
        refine G_iconst 2 dr_cX17_give_30 (by decide +kernel) ?_
        refine Gw_callV (As := [.int 2]) (gV_ok D I) (ct_586932_SpillForgeModel_no l hl0 D I γ el P654790 F654859 q654792 2 hT654864 htq654792) dr_cX17_give_31 ⟨wr_7_191, wr_1_14, wr_7_194, by decide, rfl, (Nat.le_of_ble_eq_true rfl), (Nat.le_of_ble_eq_true rfl)⟩ wr_7_193 wr_p_73 hm654809 he654862 rfl (rm_zc pk654803) (rm_zs pk654803) (Nat.le_of_ble_eq_true rfl) (fun r655203 w655204 dc655200 ds655201 hp655202 => ?_) (fun _ _ _ _ _ z => z.elim)
        obtain ⟨F655208, rfl, rfl, hT655209, hs655210, hdc, hds, x655205, x655206, ht655207⟩ := hp655202
        have hs655211 := rSk_str hs654865 hT655209 hs655210 (by decide) (by decide) (by decide)
        have mk655212 : mKp (F654791 q654792) (F655208 q654792) := mKp_tr mk654863 x655206
        change G _ _ _ _ _ _ _ (.int 0 :: _) _ _ _
        refine G_widen (cs' := ((rPh γ el f - rPh γ0 el0 f) / 18)) (sl' := (rPh γ el f - rPh γ0 el0 f)) (rm_d0 hdc) (rm_d0 hds) ?_
        have hm655213 : q654792 ∈ P654790 := RS_m hT655209 htq654792 (by decide)
        refine rk10_e (show rk_10 γ (F655208 q654792) from RS_o hT655209 htq654792) (fun q655215 q655216 p655217 p655218 p655219 p655220 p655221 p655222 p655223 p655224 p655225 p655226 p655227 p655228 p655229 p655230 p655231 he655214 hB655258 ht655232 ht655233 ht655234 ht655235 ht655236 ht655237 ht655238 ht655239 ht655240 ht655241 ht655242 ht655243 ht655244 ht655245 ht655246 ht655247 ht655248 ht655249 ht655250 ht655251 ht655252 ht655253 ht655254 ht655255 hB655259 => ?_)
        have ac655260 : (fI (F655208 q654792) 9).toInt = p655217.toInt := by rw [he655214]; rfl
        have ac655261 : (fI (F655208 q654792) 10).toInt = p655218.toInt := by rw [he655214]; rfl
        have ac655262 : (fI (F655208 q654792) 32).toInt = p655229.toInt := by rw [he655214]; rfl
        exact G_iretA dr_cX17_give_34 rfl (show ((rPh γ el f - rPh γ0 el0 f) / 18) ≤ (((387 * B + 6000) - rPh γ0 el0 f) / 18) by omega) (show (rPh γ el f - rPh γ0 el0 f) ≤ ((387 * B + 6000) - rPh γ0 el0 f) by omega) ⟨P654790, F655208, γ, el, 0, rfl, rfl, hs655211, ⟨by omega, by omega⟩, hB, (gB_w (gBl (show Int32.toInt 0 = 0 by decide)) (by decide) (by decide)), (by have qa0 : Int32.toInt 0 = 0 := (by decide); omega), mk655212⟩
    · have r655263 : 32 < p654793.toInt := gj_nle hc654933 (show Int32.toInt 32 = 32 by decide)
      have bp654793'' : gB p654793 33 2147483647 := ⟨by omega, by omega⟩
      refine G_aload_n 0 dr_cX17_give_16 rfl ?_
      refine G_iconst 1 dr_cX17_give_17 (by decide +kernel) ?_
      refine Gw_callV (As := [.int 1]) (gV_ok D I) (ct_586932_SpillForgeModel_no l hl0 D I γ el P654790 F654859 q654792 1 hT654864 htq654792) dr_cX17_give_18 ⟨wr_7_191, wr_1_14, wr_7_194, by decide, rfl, (Nat.le_of_ble_eq_true rfl), (Nat.le_of_ble_eq_true rfl)⟩ wr_7_193 wr_p_73 hm654809 he654862 rfl (rm_zc pk654803) (rm_zs pk654803) (Nat.le_of_ble_eq_true rfl) (fun r655267 w655268 dc655264 ds655265 hp655266 => ?_) (fun _ _ _ _ _ z => z.elim)
      obtain ⟨F655272, rfl, rfl, hT655273, hs655274, hdc, hds, x655269, x655270, ht655271⟩ := hp655266
      have hs655275 := rSk_str hs654865 hT655273 hs655274 (by decide) (by decide) (by decide)
      have mk655276 : mKp (F654791 q654792) (F655272 q654792) := mKp_tr mk654863 x655270
      change G _ _ _ _ _ _ _ (.int 0 :: _) _ _ _
      refine G_widen (cs' := ((rPh γ el f - rPh γ0 el0 f) / 18)) (sl' := (rPh γ el f - rPh γ0 el0 f)) (rm_d0 hdc) (rm_d0 hds) ?_
      have hm655277 : q654792 ∈ P654790 := RS_m hT655273 htq654792 (by decide)
      refine rk10_e (show rk_10 γ (F655272 q654792) from RS_o hT655273 htq654792) (fun q655279 q655280 p655281 p655282 p655283 p655284 p655285 p655286 p655287 p655288 p655289 p655290 p655291 p655292 p655293 p655294 p655295 he655278 hB655322 ht655296 ht655297 ht655298 ht655299 ht655300 ht655301 ht655302 ht655303 ht655304 ht655305 ht655306 ht655307 ht655308 ht655309 ht655310 ht655311 ht655312 ht655313 ht655314 ht655315 ht655316 ht655317 ht655318 ht655319 hB655323 => ?_)
      have ac655324 : (fI (F655272 q654792) 9).toInt = p655281.toInt := by rw [he655278]; rfl
      have ac655325 : (fI (F655272 q654792) 10).toInt = p655282.toInt := by rw [he655278]; rfl
      have ac655326 : (fI (F655272 q654792) 32).toInt = p655293.toInt := by rw [he655278]; rfl
      exact G_iretA dr_cX17_give_21 rfl (show ((rPh γ el f - rPh γ0 el0 f) / 18) ≤ (((387 * B + 6000) - rPh γ0 el0 f) / 18) by omega) (show (rPh γ el f - rPh γ0 el0 f) ≤ ((387 * B + 6000) - rPh γ0 el0 f) by omega) ⟨P654790, F655272, γ, el, 0, rfl, rfl, hs655275, ⟨by omega, by omega⟩, hB, (gB_w (gBl (show Int32.toInt 0 = 0 by decide)) (by decide) (by decide)), (by have qa0 : Int32.toInt 0 = 0 := (by decide); omega), mk655276⟩
