theorem dr_cX17_give_0 : decode cX17_give 0 = .ok (.aload_n 0, 1) := by decide +kernel
theorem dr_cX17_give_1 : decode cX17_give 1 = .ok (.iconst 0, 1) := by decide +kernel
theorem dr_cX17_give_2 : decode cX17_give 2 = .ok (.putfield 380, 3) := by decide +kernel
theorem dr_cX17_give_5 : decode cX17_give 5 = .ok (.iload_n 1, 1) := by decide +kernel
theorem dr_cX17_give_6 : decode cX17_give 6 = .ok (.iconst 1, 1) := by decide +kernel
theorem dr_cX17_give_7 : decode cX17_give 7 = .ok (.if_icmp .lt 9, 3) := by decide +kernel
theorem dr_cX17_give_16 : decode cX17_give 16 = .ok (.aload_n 0, 1) := by decide +kernel
theorem dr_cX17_give_17 : decode cX17_give 17 = .ok (.iconst 1, 1) := by decide +kernel
theorem dr_cX17_give_18 : decode cX17_give 18 = .ok (.invokevirtual 385, 3) := by decide +kernel
theorem dr_cX17_give_21 : decode cX17_give 21 = .ok (.ireturn, 1) := by decide +kernel
theorem dr_cX17_give_10 : decode cX17_give 10 = .ok (.iload_n 1, 1) := by decide +kernel
theorem dr_cX17_give_11 : decode cX17_give 11 = .ok (.bipush 32, 2) := by decide +kernel
theorem dr_cX17_give_13 : decode cX17_give 13 = .ok (.if_icmp .le 9, 3) := by decide +kernel
theorem dr_cX17_give_22 : decode cX17_give 22 = .ok (.aload_n 0, 1) := by decide +kernel
theorem dr_cX17_give_23 : decode cX17_give 23 = .ok (.getfield 414, 3) := by decide +kernel
theorem dr_cX17_give_26 : decode cX17_give 26 = .ok (.ifCond .ne 9, 3) := by decide +kernel
theorem dr_cX17_give_35 : decode cX17_give 35 = .ok (.aload_n 0, 1) := by decide +kernel
theorem dr_cX17_give_36 : decode cX17_give 36 = .ok (.getfield 365, 3) := by decide +kernel
theorem dr_cX17_give_39 : decode cX17_give 39 = .ok (.aload_n 0, 1) := by decide +kernel
theorem dr_cX17_give_40 : decode cX17_give 40 = .ok (.getfield 361, 3) := by decide +kernel
theorem dr_cX17_give_43 : decode cX17_give 43 = .ok (.invokevirtual 419, 3) := by decide +kernel
theorem dr_cX17_give_46 : decode cX17_give 46 = .ok (.aload_n 0, 1) := by decide +kernel
theorem dr_cX17_give_47 : decode cX17_give 47 = .ok (.aload_n 0, 1) := by decide +kernel
theorem dr_cX17_give_48 : decode cX17_give 48 = .ok (.getfield 365, 3) := by decide +kernel
theorem dr_cX17_give_51 : decode cX17_give 51 = .ok (.iload_n 1, 1) := by decide +kernel
theorem dr_cX17_give_52 : decode cX17_give 52 = .ok (.invokevirtual 422, 3) := by decide +kernel
theorem wr_10_148 : (Jvm.Cond.methodLink "SpillForgeModel" (422 : Nat) ({ cls := "SpillForgeModel", name := "giveAll", desc := "(LSpillForgeModel$Code;I)I" } : Jvm.MethodName)) ∈ gw := gw_10 148 rfl rfl
theorem wr_10_151 : (Jvm.Cond.code ({ cls := "SpillForgeModel", name := "giveAll", desc := "(LSpillForgeModel$Code;I)I" } : Jvm.MethodName) prog_14_method_24_code (8 : Nat) (Option.some Jvm.ClassFile.FieldType.int)) ∈ gw := gw_10 151 rfl rfl
theorem wr_10_150 : (Jvm.Cond.instanceMethod ({ cls := "SpillForgeModel", name := "giveAll", desc := "(LSpillForgeModel$Code;I)I" } : Jvm.MethodName)) ∈ gw := gw_10 150 rfl rfl
theorem wr_p_92 : Cond.selects "SpillForgeModel" ⟨"SpillForgeModel", "giveAll", "(LSpillForgeModel$Code;I)I"⟩ ⟨"SpillForgeModel", "giveAll", "(LSpillForgeModel$Code;I)I"⟩ ∈ gw := gw_p _ 92 rfl rfl rfl
theorem dr_cX17_give_55 : decode cX17_give 55 = .ok (.istore_n 2, 1) := by decide +kernel
theorem dr_cX17_give_56 : decode cX17_give 56 = .ok (.aload_n 0, 1) := by decide +kernel
theorem dr_cX17_give_57 : decode cX17_give 57 = .ok (.iload_n 2, 1) := by decide +kernel
theorem dr_cX17_give_58 : decode cX17_give 58 = .ok (.ifCond .le 7, 3) := by decide +kernel
theorem dr_cX17_give_65 : decode cX17_give 65 = .ok (.iconst 0, 1) := by decide +kernel
theorem dr_cX17_give_66 : decode cX17_give 66 = .ok (.putfield 416, 3) := by decide +kernel
theorem dr_cX17_give_69 : decode cX17_give 69 = .ok (.iload_n 2, 1) := by decide +kernel
theorem dr_cX17_give_70 : decode cX17_give 70 = .ok (.ireturn, 1) := by decide +kernel
theorem dr_cX17_give_61 : decode cX17_give 61 = .ok (.iconst 1, 1) := by decide +kernel
theorem dr_cX17_give_62 : decode cX17_give 62 = .ok (.goto 4, 3) := by decide +kernel
theorem dr_cX17_give_29 : decode cX17_give 29 = .ok (.aload_n 0, 1) := by decide +kernel
theorem dr_cX17_give_30 : decode cX17_give 30 = .ok (.iconst 2, 1) := by decide +kernel
theorem dr_cX17_give_31 : decode cX17_give 31 = .ok (.invokevirtual 385, 3) := by decide +kernel
theorem dr_cX17_give_34 : decode cX17_give 34 = .ok (.ireturn, 1) := by decide +kernel
abbrev ky_657865_SpillForgeModel_give : gKey := (cX17_give, 3, "SpillForgeModel", (some FieldType.int), [], "give", fun _ _ => True)
def pg_657865_SpillForgeModel_give (D : va_G) (I : FieldType → ClassId) (γ0 el0 : Nat → Nat → Nat) (f : Nat) (fo : Nat) (B : Nat) (P657853 : List Nat) (F657854 : Nat → va_E) (q657855 : Nat) (p657856 : Int32) (q657857 : Nat) (q657858 : Nat) : Option Value → va_W → Nat → Nat → Prop := fun r w dc ds => ∃ (P658399 : List Nat) (F658400 : Nat → va_E) (γ el : Nat → Nat → Nat) (o658398 : Int32), r = some (.int o658398) ∧ w = va_pl P658399 F658400 ∧ rSk f [1, 2, 3, 101, 102, 103, 202] ([1, 2, 3, 4, 5, 6, 7, 8, 9, 101, 102, 103, 202] ++ npk) D I P657853 F657854 γ0 el0 P658399 F658400 γ el ∧ (18 * dc + rPh γ0 el0 f ≤ rPh γ el f ∧ ds + rPh γ0 el0 f ≤ rPh γ el f) ∧ rBd γ el f B ∧ gB o658398 (-1) 40 ∧ ((fI (F658400 q657855) 10).toInt = 0 ∨ 0 < γ 6 f) ∧ mKq (F657854 q657855) (F658400 q657855) ∧ tr_RModel_give D I γ0 el0 f fo P657853 F657854 q657855 p657856 q657857 q657858 o658398 P658399 F658400 γ el
set_option maxRecDepth 100000 in
set_option maxHeartbeats 20000000 in
theorem cg_657865_SpillForgeModel_give (l : Launch) (hl0 : l.stackTraces = false) (D : va_G) (I : FieldType → ClassId) (γ0 el0 : Nat → Nat → Nat) (f : Nat) (fo : Nat) (B : Nat) (P657853 : List Nat) (F657854 : Nat → va_E) (q657855 : Nat) (p657856 : Int32) (q657857 : Nat) (q657858 : Nat) (hT0 : RS D I P657853 F657854 γ0 el0) (hzq657855 : rKd γ0 q657855 10) (hzq657857 : rKd γ0 q657857 9) (hzq657858 : rKd γ0 q657858 9) (hvq657857 : γ0 9 7 = q657857) (hvq657858 : γ0 9 6 = q657858) (hf0 : γ0 1 q657857 = f) (hfo0 : γ0 1 q657858 = fo) (hne : fo ≠ f) (hB0 : rBd γ0 el0 f B) (hBk : B ≤ 100000) (x657859 : f = 1) (x657860 : fo = 0) (x657861 : ((fI (F657854 q657855) 9).toInt = 0 ∨ (0 < γ0 6 fo ∧ γ0 16 fo ≤ 160))) (x657862 : γ0 7 fo = 0) (x657863 : 4061 ≤ B) (x657864 : ((fI (F657854 q657855) 10).toInt = 0 ∨ 0 < γ0 6 f)) : CtA (gV D I) l yX17_give cX17_give 3 (some FieldType.int) 11 251 (((387 * B + 6000) - rPh γ0 el0 f) / 18) ((387 * B + 6000) - rPh γ0 el0 f) [.ref q657855, .int p657856] (va_pl P657853 F657854) (pg_657865_SpillForgeModel_give D I γ0 el0 f fo B P657853 F657854 q657855 p657856 q657857 q657858) gNA := by
  refine CtA_of hl0 (by decide) (Nat.le_of_ble_eq_true rfl) ?_
  have bp657856 := gB_any p657856
  obtain ⟨gm_0, hγ0⟩ : ∃ z, z = γ0 := ⟨_, rfl⟩
  obtain ⟨el_0, hel0⟩ : ∃ z, z = el0 := ⟨_, rfl⟩
  have hT : RS D I P657853 F657854 gm_0 el_0 := by rw [hγ0, hel0]; exact hT0
  have hst : rSk f [1, 2, 3, 101, 102, 103, 202] ([1, 2, 3, 4, 5, 6, 7, 8, 9, 101, 102, 103, 202] ++ npk) D I P657853 F657854 γ0 el0 P657853 F657854 gm_0 el_0 := by rw [hγ0, hel0]; exact rSk_rf hT0
  have hph : rPh γ0 el0 f ≤ rPh gm_0 el_0 f := by rw [hγ0, hel0]; exact Nat.le_refl _
  have hB : rBd gm_0 el_0 f B := by rw [hγ0, hel0]; exact hB0
  have htq657855 : rKd gm_0 q657855 10 := by rw [hγ0]; exact hzq657855
  have htq657857 : rKd gm_0 q657857 9 := by rw [hγ0]; exact hzq657857
  have htq657858 : rKd gm_0 q657858 9 := by rw [hγ0]; exact hzq657858
  have hf1 : gm_0 1 q657857 = f := by rw [hγ0]; exact hf0
  have hfo1 : gm_0 1 q657858 = fo := by rw [hγ0]; exact hfo0
  have x657861n : ((fI (F657854 q657855) 9).toInt = 0 ∨ (0 < gm_0 6 fo ∧ gm_0 16 fo ≤ 160)) := by rw [hγ0]; exact x657861
  have x657862n : gm_0 7 fo = 0 := by rw [hγ0]; exact x657862
  have x657864n : ((fI (F657854 q657855) 10).toInt = 0 ∨ 0 < gm_0 6 f) := by rw [hγ0]; exact x657864
  have pk657866 : rPh gm_0 el_0 f ≤ 387 * B + 6000 := rm_pk (rM_ge hT htq657857 hf1).1 (rM_bd hB)
  refine G_widen (cs' := ((rPh gm_0 el_0 f - rPh γ0 el0 f) / 18)) (sl' := (rPh gm_0 el_0 f - rPh γ0 el0 f)) (Nat.zero_le _) (Nat.zero_le _) ?_
  have lz0 : Int32.toInt 0 = 0 := by decide
  have r657867 : gm_0 6 f = γ0 6 f := by rw [hγ0]
  have r657868 : gm_0 7 f = γ0 7 f := by rw [hγ0]
  have r657869 : gm_0 16 f = γ0 16 f := by rw [hγ0]
  have r657870 : gm_0 18 f = γ0 18 f := by rw [hγ0]
  have r657871 : gm_0 19 f = γ0 19 f := by rw [hγ0]
  have hm657872 : q657855 ∈ P657853 := RS_m hT htq657855 (by decide)
  refine rk10_e (show rk_10 gm_0 (F657854 q657855) from RS_o hT htq657855) (fun q657874 q657875 p657876 p657877 p657878 p657879 p657880 p657881 p657882 p657883 p657884 p657885 p657886 p657887 p657888 p657889 p657890 he657873 hB657917 ht657891 ht657892 ht657893 ht657894 ht657895 ht657896 ht657897 ht657898 ht657899 ht657900 ht657901 ht657902 ht657903 ht657904 ht657905 ht657906 ht657907 ht657908 ht657909 ht657910 ht657911 ht657912 ht657913 ht657914 hB657918 => ?_)
  have ac0_9 : (fI (F657854 q657855) 9).toInt = p657876.toInt := by rw [he657873]; rfl
  have ac0_10 : (fI (F657854 q657855) 10).toInt = p657877.toInt := by rw [he657873]; rfl
  have ac0_32 : (fI (F657854 q657855) 32).toInt = p657888.toInt := by rw [he657873]; rfl
  have r657919 : gm_0 6 fo = γ0 6 fo := by rw [hγ0]
  have r657920 : gm_0 7 fo = γ0 7 fo := by rw [hγ0]
  have r657921 : gm_0 16 fo = γ0 16 fo := by rw [hγ0]
  refine G_aload_n 0 dr_cX17_give_0 rfl ?_
  refine G_iconst 0 dr_cX17_give_1 (by decide +kernel) ?_
  refine Gp_put 30 hm657872 he657873 dr_cX17_give_2 (gk_X17 D I) (Nat.le_of_ble_eq_true rfl) wr_7_104 rfl rfl rfl (Nat.le_of_ble_eq_true rfl) (fun F657922 e657923 n657924 => ?_)
  have he657925 : F657922 q657855 = .inr (22, [.ref (gm_0 9 0), .ref (gm_0 9 1), .ref (gm_0 9 2), .ref (gm_0 9 3), .ref (gm_0 9 4), .ref (gm_0 9 5), .ref (gm_0 9 6), .ref (gm_0 9 7), .ref (gm_0 9 8), .int p657876, .int p657877, .int p657878, .int p657879, .int p657880, .int p657881, .ref (gm_0 9 15), .ref (gm_0 9 16), .ref (gm_0 9 17), .ref (gm_0 9 18), .ref (gm_0 9 19), .ref (gm_0 9 20), .ref (gm_0 9 21), .ref (gm_0 9 22), .int p657882, .int p657883, .int p657884, .int p657885, .int p657886, .ref q657874, .ref (gm_0 9 29), .int 0, .ref (gm_0 9 31), .int p657888, .int p657889, .int p657890, .ref q657875]) := e657923
  have mk657926 : mKq (F657854 q657855) (F657922 q657855) := mKq_tr mKq_rf (by rw [he657873, he657925]; exact ⟨rfl, rfl⟩)
  have fq657927 : F657922 q657855 = cF (F657854 q657855) 30 (.int 0) := by rw [he657925, he657873]; rfl
  have hT657928 : RS D I P657853 F657922 gm_0 el_0 := RS_set hT n657924 htq657855 (by decide) ⟨q657874, q657875, p657876, p657877, p657878, p657879, p657880, p657881, p657882, p657883, p657884, p657885, p657886, 0, p657888, p657889, p657890, he657925, ⟨(hB657917.1), (hB657917.2.1), (hB657917.2.2.1), (hB657917.2.2.2.1), (hB657917.2.2.2.2.1), (hB657917.2.2.2.2.2.1), (hB657917.2.2.2.2.2.2.1), (hB657917.2.2.2.2.2.2.2.1), (hB657917.2.2.2.2.2.2.2.2)⟩, ht657891, ht657892, ht657893, ht657894, ht657895, ht657896, ht657897, ht657898, ht657899, ht657900, ht657901, ht657902, ht657903, ht657904, ht657905, ht657906, ht657907, ht657908, ht657909, ht657910, ht657911, ht657912, ht657913, ht657914, hB657918⟩
  have hs657929 := rSk_put hst hT657928 n657924 htq657855 (by decide) (by decide) (Or.inr (Or.inr (by decide)))
  have ac657930 : (fI (F657922 q657855) 10).toInt = p657877.toInt := by rw [he657925]; rfl
  refine G_iload_n 1 dr_cX17_give_5 rfl ?_
  refine G_iconst 1 dr_cX17_give_6 (by decide +kernel) ?_
  refine G_icmp_lt 16 dr_cX17_give_7 (by decide +kernel) (fun hc657931 => ?_) (fun hc657931 => ?_)
  · have r657932 : p657856.toInt < 1 := gj_lt hc657931 (show Int32.toInt 1 = 1 by decide)
    have bp657856' : gB p657856 (-2147483648) 0 := ⟨by omega, by omega⟩
    refine G_aload_n 0 dr_cX17_give_16 rfl ?_
    refine G_iconst 1 dr_cX17_give_17 (by decide +kernel) ?_
    refine Gw_callV (As := [.int 1]) (gV_ok D I) (ct_589523_SpillForgeModel_no l hl0 D I gm_0 el_0 P657853 F657922 q657855 1 hT657928 htq657855) dr_cX17_give_18 ⟨wr_7_191, wr_1_14, wr_7_194, by decide, rfl, (Nat.le_of_ble_eq_true rfl), (Nat.le_of_ble_eq_true rfl)⟩ wr_7_193 wr_p_73 hm657872 he657925 rfl (rm_zc pk657866) (rm_zs pk657866) (Nat.le_of_ble_eq_true rfl) (fun r657936 w657937 dc657933 ds657934 hp657935 => ?_) (fun _ _ _ _ _ z => z.elim)
    obtain ⟨F657941, rfl, rfl, hT657942, hs657943, hdc, hds, x657938, x657939, ht657940⟩ := hp657935
    have hs657944 := rSk_str hs657929 hT657942 hs657943 (by decide) (by decide) (by decide)
    have mk657945 : mKq (F657854 q657855) (F657941 q657855) := mKq_tr mk657926 x657939
    change G _ _ _ _ _ _ _ (.int 0 :: _) _ _ _
    refine G_widen (cs' := ((rPh gm_0 el_0 f - rPh γ0 el0 f) / 18)) (sl' := (rPh gm_0 el_0 f - rPh γ0 el0 f)) (rm_d0 hdc) (rm_d0 hds) ?_
    have hm657946 : q657855 ∈ P657853 := RS_m hT657942 htq657855 (by decide)
    refine rk10_e (show rk_10 gm_0 (F657941 q657855) from RS_o hT657942 htq657855) (fun q657948 q657949 p657950 p657951 p657952 p657953 p657954 p657955 p657956 p657957 p657958 p657959 p657960 p657961 p657962 p657963 p657964 he657947 hB657991 ht657965 ht657966 ht657967 ht657968 ht657969 ht657970 ht657971 ht657972 ht657973 ht657974 ht657975 ht657976 ht657977 ht657978 ht657979 ht657980 ht657981 ht657982 ht657983 ht657984 ht657985 ht657986 ht657987 ht657988 hB657992 => ?_)
    have ac657993 : (fI (F657941 q657855) 9).toInt = p657950.toInt := by rw [he657947]; rfl
    have ac657994 : (fI (F657941 q657855) 10).toInt = p657951.toInt := by rw [he657947]; rfl
    have ac657995 : (fI (F657941 q657855) 32).toInt = p657962.toInt := by rw [he657947]; rfl
    exact G_iretA dr_cX17_give_21 rfl (show ((rPh gm_0 el_0 f - rPh γ0 el0 f) / 18) ≤ (((387 * B + 6000) - rPh γ0 el0 f) / 18) by omega) (show (rPh gm_0 el_0 f - rPh γ0 el0 f) ≤ ((387 * B + 6000) - rPh γ0 el0 f) by omega) ⟨P657853, F657941, gm_0, el_0, 0, rfl, rfl, hs657944, ⟨by omega, by omega⟩, hB, (gB_w (gBl (show Int32.toInt 0 = 0 by decide)) (by decide) (by decide)), (by have qa0 : Int32.toInt 0 = 0 := (by decide); omega), mk657945, (fun R c1 c2 c3 c4 c5 => c1 gm_0 el_0 F657922 F657941 hγ0 hel0 n657924 fq657927 r657932 hT657942 hs657943 x657938 x657939 ht657940)⟩
  · have r657996 : 1 ≤ p657856.toInt := gj_nlt hc657931 (show Int32.toInt 1 = 1 by decide)
    have bp657856' : gB p657856 1 2147483647 := ⟨by omega, by omega⟩
    refine G_iload_n 1 dr_cX17_give_10 rfl ?_
    refine G_bipush 32 dr_cX17_give_11 (by decide +kernel) ?_
    refine G_icmp_le 22 dr_cX17_give_13 (by decide +kernel) (fun hc657997 => ?_) (fun hc657997 => ?_)
    · have r657998 : p657856.toInt ≤ 32 := gj_le hc657997 (show Int32.toInt 32 = 32 by decide)
      have bp657856'' : gB p657856 1 32 := ⟨by omega, by omega⟩
      refine G_aload_n 0 dr_cX17_give_22 rfl ?_
      have fq657999 : fI (F657922 q657855) 9 = p657876 := by rw [he657925]; rfl
      refine Gp_get 9 hm657872 he657925 dr_cX17_give_23 (gk_X17 D I) (Nat.le_of_ble_eq_true rfl) wr_7_83 rfl ?_
      have bp657876 : gB p657876 0 1 := (hB657917.1)
      refine G_if_ne 35 dr_cX17_give_26 (by decide +kernel) (fun hc658000 => ?_) (fun hc658000 => ?_)
      · have r658001 : p657876.toInt ≠ 0 := gj_neq hc658000 (show Int32.toInt 0 = 0 by decide)
        have bp657876' : gB p657876 1 1 := gB_t1 bp657876 r658001
        refine G_aload_n 0 dr_cX17_give_35 rfl ?_
        have fq658002 : fR (F657922 q657855) 7 = (gm_0 9 7) := by rw [he657925]; rfl
        refine Gp_get 7 hm657872 he657925 dr_cX17_give_36 (gk_X17 D I) (Nat.le_of_ble_eq_true rfl) wr_7_81 rfl ?_
        rw [show gm_0 9 7 = q657857 from (congrFun (rSk_9 hs657929) 7).trans hvq657857]
        refine G_aload_n 0 dr_cX17_give_39 rfl ?_
        have fq658003 : fR (F657922 q657855) 6 = (gm_0 9 6) := by rw [he657925]; rfl
        refine Gp_get 6 hm657872 he657925 dr_cX17_give_40 (gk_X17 D I) (Nat.le_of_ble_eq_true rfl) wr_7_80 rfl ?_
        rw [show gm_0 9 6 = q657858 from (congrFun (rSk_9 hs657929) 6).trans hvq657858]
        have rg658004 := rM_ge hT657928 htq657857 hf1
        have rm658005 := rM_bd hB
        have bd658006 := rBd_c hT657928 htq657857 hf1 hB
        have rc658007 := rc_at hT657928 htq657857 hf1
        have hm658013 : q657857 ∈ P657853 := RS_m hT657928 htq657857 (by decide)
        obtain ⟨q658015, q658016, p658017, p658018, he658014, ht658034, ht658019, ht658020, ht658021, ht658022, r658023, r658024, r658025, r658026, r658027, r658028, r658029, r658030, r658031, r658032, r658033⟩ := show rk_9 gm_0 el_0 q657857 (F657922 q657857) from RS_o hT657928 htq657857
        have bp658017 : gB p658017 0 1000000 := ⟨by omega, by omega⟩
        have bp658018 : gB p658018 0 1000000 := ⟨by omega, by omega⟩
        have hf658035 : gm_0 1 q658015 = f := (show gm_0 1 q658015 = gm_0 1 q657857 from ht658020).trans hf1
        have hf658036 : gm_0 1 q658016 = f := (show gm_0 1 q658016 = gm_0 1 q657857 from ht658022).trans hf1
        have r658037 : gm_0 6 (gm_0 1 q657857) = gm_0 6 f := by rw [hf1]
        have r658038 : gm_0 16 (gm_0 1 q657857) = gm_0 16 f := by rw [hf1]
        refine Gw_callV (As := [.ref q657858]) (gV_ok D I) (cg_196630_Code_copy l hl0 D I gm_0 el_0 f fo B P657853 F657922 q657857 q657858 hT657928 htq657857 htq657858 hf1 hfo1 hne hB hBk (by omega) (by omega) (by omega)) dr_cX17_give_43 ⟨wr_10_132, wr_1_15, wr_10_135, by decide, rfl, (Nat.le_of_ble_eq_true rfl), (Nat.le_of_ble_eq_true rfl)⟩ wr_10_133 wr_10_134 hm658013 he658014 rfl (rm_gc hph pk657866) (rm_gs hph pk657866) (Nat.le_of_ble_eq_true rfl) (fun r658011 w658012 dc658008 ds658009 hp658010 => ?_) (fun _ _ _ _ _ z => z.elim)
        obtain ⟨P658044, F658045, gm_F658045, el_F658045, rfl, rfl, hk658046, ⟨hr658047, hr658048⟩, hB658049, x658039, x658040, x658041, x658042, ht658043⟩ := hp658010
        have hT658050 := hk658046.1
        have hs658051 := rSk_tr hs657929 hk658046 (by decide) (by decide) (by decide)
        have kp658052 : F658045 q657855 = F657922 q657855 := rSk_F hk658046 htq657855 (by decide) (by decide)
        have r658053 := rSk_F hk658046 htq657855 (by decide) (by decide)
        have ht658054 : rKd gm_F658045 q657855 10 := rSk_k hk658046 htq657855 (by decide) (by decide)
        have ht658055 : rKd gm_F658045 q657857 9 := rSk_k hk658046 htq657857 (by decide) (by decide)
        have hf658056 : gm_F658045 1 q657857 = f := rSk_1 hk658046 htq657857 (by decide) hf1
        have ht658057 : rKd gm_F658045 q657858 9 := rSk_kf hk658046 htq657858 (by decide) (by rw [hfo1]; exact hne)
        have hf658058 : gm_F658045 1 q657858 = fo := rSk_1 hk658046 htq657858 (by decide) hfo1
        have mk658059 : mKq (F657854 q657855) (F658045 q657855) := mKq_tr mk657926 (mKp_q (mKp_eq (rSk_F hk658046 htq657855 (by decide) (by decide))))
        clear r658023 r658024 r658025 r658026 r658027 r658028 r658030 r658031 r658032 r658033 bp658017 bp658018 rg658004 rm658005 bd658006 rc658007
        clear r658029
        have hph658060 : rPh γ0 el0 f ≤ rPh gm_F658045 el_F658045 f := rm_ph hph hr658048
        have pk658061 : rPh gm_F658045 el_F658045 f ≤ 387 * B + 6000 := rm_pk (rM_ge hT658050 ht658055 hf658056).1 (rM_bd hB658049)
        change G _ _ _ _ _ _ _ _ _ _ _
        refine G_widen (cs' := ((rPh gm_F658045 el_F658045 f - rPh γ0 el0 f) / 18)) (sl' := (rPh gm_F658045 el_F658045 f - rPh γ0 el0 f)) (rm_wc hph hr658047) (rm_ws hph hr658048) ?_
        have r658062 := rSk_g hs658051 hne
        have r658063 : gm_F658045 6 fo = γ0 6 fo := r658062.1
        have r658064 : gm_F658045 7 fo = γ0 7 fo := r658062.2.1
        have r658065 : gm_F658045 16 fo = γ0 16 fo := r658062.2.2.1
        have r658066 : 0 < gm_F658045 6 (gm_F658045 1 q657857) := by rw [hf658056]; omega
        refine G_aload_n 0 dr_cX17_give_46 rfl ?_
        refine G_aload_n 0 dr_cX17_give_47 rfl ?_
        have hm658067 : q657855 ∈ P658044 := RS_m hT658050 ht658054 (by decide)
        refine rk10_e (show rk_10 gm_F658045 (F658045 q657855) from RS_o hT658050 ht658054) (fun q658069 q658070 p658071 p658072 p658073 p658074 p658075 p658076 p658077 p658078 p658079 p658080 p658081 p658082 p658083 p658084 p658085 he658068 hB658112 ht658086 ht658087 ht658088 ht658089 ht658090 ht658091 ht658092 ht658093 ht658094 ht658095 ht658096 ht658097 ht658098 ht658099 ht658100 ht658101 ht658102 ht658103 ht658104 ht658105 ht658106 ht658107 ht658108 ht658109 hB658113 => ?_)
        have fq658114 : fR (F658045 q657855) 7 = (gm_F658045 9 7) := by rw [he658068]; rfl
        refine Gp_get 7 hm658067 he658068 dr_cX17_give_48 (gk_X17 D I) (Nat.le_of_ble_eq_true rfl) wr_7_81 rfl ?_
        rw [show gm_F658045 9 7 = q657857 from (congrFun (rSk_9 hs658051) 7).trans hvq657857]
        refine G_iload_n 1 dr_cX17_give_51 rfl ?_
        have rg658115 := rM_ge hT658050 ht658055 hf658056
        have rm658116 := rM_bd hB658049
        have bd658117 := rBd_c hT658050 ht658055 hf658056 hB658049
        have rc658118 := rc_at hT658050 ht658055 hf658056
        refine Gw_callV (As := [.ref q657857, .int p657856]) (gV_ok D I) (cg_632134_SpillForgeModel_giveAll l hl0 D I gm_F658045 el_F658045 f B P658044 F658045 q657855 q657857 p657856 hT658050 ht658054 ht658055 hf658056 hB658049 hBk bp657856'' (by omega) (by omega) (by omega)) dr_cX17_give_52 ⟨wr_10_148, wr_1_14, wr_10_151, by decide, rfl, (Nat.le_of_ble_eq_true rfl), (Nat.le_of_ble_eq_true rfl)⟩ wr_10_150 wr_p_92 hm658067 he658068 rfl (rm_gc hph658060 pk658061) (rm_gs hph658060 pk658061) (Nat.le_of_ble_eq_true rfl) (fun r658122 w658123 dc658119 ds658120 hp658121 => ?_) (fun _ _ _ _ _ z => z.elim)
        obtain ⟨P658128, F658129, gm_F658129, el_F658129, o658124, rfl, rfl, hk658130, ⟨hr658131, hr658132⟩, hB658133, bo658124, x658125, x658126, ht658127⟩ := hp658121
        have hT658134 := hk658130.1
        have hs658135 := rSk_tr hs658051 hk658130 (by decide) (by decide) (by decide)
        have ht658136 : rKd gm_F658129 q657855 10 := rSk_k hk658130 ht658054 (by decide) (by decide)
        have ht658137 : rKd gm_F658129 q657857 9 := rSk_k hk658130 ht658055 (by decide) (by decide)
        have hf658138 : gm_F658129 1 q657857 = f := rSk_1 hk658130 ht658055 (by decide) hf658056
        have ht658139 : rKd gm_F658129 q657858 9 := rSk_kf hk658130 ht658057 (by decide) (by rw [hf658058]; exact hne)
        have hf658140 : gm_F658129 1 q657858 = fo := rSk_1 hk658130 ht658057 (by decide) hf658058
        clear rg658115 rm658116 bd658117 rc658118
        have mk658141 : mKq (F657854 q657855) (F658129 q657855) := mKq_tr mk658059 (mKp_q x658126)
        have hph658142 : rPh γ0 el0 f ≤ rPh gm_F658129 el_F658129 f := rm_ph hph658060 hr658132
        have pk658143 : rPh gm_F658129 el_F658129 f ≤ 387 * B + 6000 := rm_pk (rM_ge hT658134 ht658137 hf658138).1 (rM_bd hB658133)
        change G _ _ _ _ _ _ _ (.int o658124 :: _) _ _ _
        refine G_widen (cs' := ((rPh gm_F658129 el_F658129 f - rPh γ0 el0 f) / 18)) (sl' := (rPh gm_F658129 el_F658129 f - rPh γ0 el0 f)) (rm_wc hph658060 hr658131) (rm_ws hph658060 hr658132) ?_
        have r658144 := rSk_g hs658135 hne
        have r658145 : gm_F658129 6 fo = γ0 6 fo := r658144.1
        have r658146 : gm_F658129 7 fo = γ0 7 fo := r658144.2.1
        have r658147 : gm_F658129 16 fo = γ0 16 fo := r658144.2.2.1
        have r658148 : 0 < gm_F658129 6 (gm_F658129 1 q657857) := by rw [hf658138]; omega
        refine G_istore_n (L' := [(2, .int o658124), (0, .ref q657855), (1, .int p657856)]) dr_cX17_give_55 (Nat.le_of_ble_eq_true rfl) rfl ?_
        refine G_aload_n 1 dr_cX17_give_56 rfl ?_
        refine G_iload_n 0 dr_cX17_give_57 rfl ?_
        refine G_if_le 65 dr_cX17_give_58 (by decide +kernel) (fun hc658149 => ?_) (fun hc658149 => ?_)
        · have r658150 : o658124.toInt ≤ 0 := gj_le hc658149 (show Int32.toInt 0 = 0 by decide)
          have bo658124' : gB o658124 (-1) 0 := ⟨by omega, by omega⟩
          refine G_iconst 0 dr_cX17_give_65 (by decide +kernel) ?_
          have hm658151 : q657855 ∈ P658128 := RS_m hT658134 ht658136 (by decide)
          refine rk10_e (show rk_10 gm_F658129 (F658129 q657855) from RS_o hT658134 ht658136) (fun q658153 q658154 p658155 p658156 p658157 p658158 p658159 p658160 p658161 p658162 p658163 p658164 p658165 p658166 p658167 p658168 p658169 he658152 hB658196 ht658170 ht658171 ht658172 ht658173 ht658174 ht658175 ht658176 ht658177 ht658178 ht658179 ht658180 ht658181 ht658182 ht658183 ht658184 ht658185 ht658186 ht658187 ht658188 ht658189 ht658190 ht658191 ht658192 ht658193 hB658197 => ?_)
          refine Gp_put 10 hm658151 he658152 dr_cX17_give_66 (gk_X17 D I) (Nat.le_of_ble_eq_true rfl) wr_7_84 rfl rfl rfl (Nat.le_of_ble_eq_true rfl) (fun F658198 e658199 n658200 => ?_)
          have he658201 : F658198 q657855 = .inr (22, [.ref (gm_F658129 9 0), .ref (gm_F658129 9 1), .ref (gm_F658129 9 2), .ref (gm_F658129 9 3), .ref (gm_F658129 9 4), .ref (gm_F658129 9 5), .ref (gm_F658129 9 6), .ref (gm_F658129 9 7), .ref (gm_F658129 9 8), .int p658155, .int 0, .int p658157, .int p658158, .int p658159, .int p658160, .ref (gm_F658129 9 15), .ref (gm_F658129 9 16), .ref (gm_F658129 9 17), .ref (gm_F658129 9 18), .ref (gm_F658129 9 19), .ref (gm_F658129 9 20), .ref (gm_F658129 9 21), .ref (gm_F658129 9 22), .int p658161, .int p658162, .int p658163, .int p658164, .int p658165, .ref q658153, .ref (gm_F658129 9 29), .int p658166, .ref (gm_F658129 9 31), .int p658167, .int p658168, .int p658169, .ref q658154]) := e658199
          have mk658202 : mKq (F657854 q657855) (F658198 q657855) := mKq_tr mk658141 (by rw [he658152, he658201]; exact ⟨rfl, rfl⟩)
          have fq658203 : F658198 q657855 = cF (F658129 q657855) 10 (.int 0) := by rw [he658201, he658152]; rfl
          refine G_iload_n 0 dr_cX17_give_69 rfl ?_
          have hT658204 : RS D I P658128 F658198 gm_F658129 el_F658129 := RS_set hT658134 n658200 ht658136 (by decide) ⟨q658153, q658154, p658155, 0, p658157, p658158, p658159, p658160, p658161, p658162, p658163, p658164, p658165, p658166, p658167, p658168, p658169, he658201, ⟨(hB658196.1), (gB_w (gBl (show Int32.toInt 0 = 0 by decide)) (by decide) (by decide)), (hB658196.2.2.1), (hB658196.2.2.2.1), (hB658196.2.2.2.2.1), (hB658196.2.2.2.2.2.1), (hB658196.2.2.2.2.2.2.1), (hB658196.2.2.2.2.2.2.2.1), (hB658196.2.2.2.2.2.2.2.2)⟩, ht658170, ht658171, ht658172, ht658173, ht658174, ht658175, ht658176, ht658177, ht658178, ht658179, ht658180, ht658181, ht658182, ht658183, ht658184, ht658185, ht658186, ht658187, ht658188, ht658189, ht658190, ht658191, ht658192, ht658193, ⟨(show (_ ∨ _ ∨ _) ∧ (_ ∨ _ ∨ _) ∧ _ from hB658197).1, Or.inr (Or.inl (by have z : 0 < gm_F658129 6 f := (by omega); rw [x657859] at z; exact z)), (show (_ ∨ _ ∨ _) ∧ (_ ∨ _ ∨ _) ∧ _ from hB658197).2.2⟩⟩
          have hs658205 := rSk_put hs658135 hT658204 n658200 ht658136 (by decide) (by decide) (Or.inr (Or.inr (by decide)))
          have ac658206 : (fI (F658198 q657855) 9).toInt = p658155.toInt := by rw [he658201]; rfl
          have ac658207 : (fI (F658198 q657855) 10).toInt = 0 := by rw [he658201]; show Int32.toInt 0 = 0; decide
          have ac658208 : (fI (F658198 q657855) 32).toInt = p658167.toInt := by rw [he658201]; rfl
          have mq658209 : mKq _ _ := mk658141
          exact G_iretA dr_cX17_give_70 rfl (show ((rPh gm_F658129 el_F658129 f - rPh γ0 el0 f) / 18) ≤ (((387 * B + 6000) - rPh γ0 el0 f) / 18) by omega) (show (rPh gm_F658129 el_F658129 f - rPh γ0 el0 f) ≤ ((387 * B + 6000) - rPh γ0 el0 f) by omega) ⟨P658128, F658198, gm_F658129, el_F658129, o658124, rfl, rfl, hs658205, ⟨by omega, by omega⟩, hB658133, (gB_w bo658124' (by decide) (by decide)), (by omega), mk658202, (fun R c1 c2 c3 c4 c5 => c2 gm_0 el_0 F657922 p657876 P658044 F658045 gm_F658045 el_F658045 P658128 F658129 gm_F658129 el_F658129 o658124 F658198 hγ0 hel0 n657924 fq657927 r657996 r657998 fq657999 r658001 fq658002 fq658003 hk658046 x658039 x658040 x658041 x658042 ht658043 fq658114 hk658130 x658125 x658126 ht658127 r658150 n658200 fq658203)⟩
        · have r658210 : 0 < o658124.toInt := gj_nle hc658149 (show Int32.toInt 0 = 0 by decide)
          have bo658124' : gB o658124 1 40 := ⟨by omega, by omega⟩
          refine G_iconst 1 dr_cX17_give_61 (by decide +kernel) ?_
          refine G_goto 66 dr_cX17_give_62 (by decide +kernel) ?_
          have hm658211 : q657855 ∈ P658128 := RS_m hT658134 ht658136 (by decide)
          refine rk10_e (show rk_10 gm_F658129 (F658129 q657855) from RS_o hT658134 ht658136) (fun q658213 q658214 p658215 p658216 p658217 p658218 p658219 p658220 p658221 p658222 p658223 p658224 p658225 p658226 p658227 p658228 p658229 he658212 hB658256 ht658230 ht658231 ht658232 ht658233 ht658234 ht658235 ht658236 ht658237 ht658238 ht658239 ht658240 ht658241 ht658242 ht658243 ht658244 ht658245 ht658246 ht658247 ht658248 ht658249 ht658250 ht658251 ht658252 ht658253 hB658257 => ?_)
          refine Gp_put 10 hm658211 he658212 dr_cX17_give_66 (gk_X17 D I) (Nat.le_of_ble_eq_true rfl) wr_7_84 rfl rfl rfl (Nat.le_of_ble_eq_true rfl) (fun F658258 e658259 n658260 => ?_)
          have he658261 : F658258 q657855 = .inr (22, [.ref (gm_F658129 9 0), .ref (gm_F658129 9 1), .ref (gm_F658129 9 2), .ref (gm_F658129 9 3), .ref (gm_F658129 9 4), .ref (gm_F658129 9 5), .ref (gm_F658129 9 6), .ref (gm_F658129 9 7), .ref (gm_F658129 9 8), .int p658215, .int 1, .int p658217, .int p658218, .int p658219, .int p658220, .ref (gm_F658129 9 15), .ref (gm_F658129 9 16), .ref (gm_F658129 9 17), .ref (gm_F658129 9 18), .ref (gm_F658129 9 19), .ref (gm_F658129 9 20), .ref (gm_F658129 9 21), .ref (gm_F658129 9 22), .int p658221, .int p658222, .int p658223, .int p658224, .int p658225, .ref q658213, .ref (gm_F658129 9 29), .int p658226, .ref (gm_F658129 9 31), .int p658227, .int p658228, .int p658229, .ref q658214]) := e658259
          have mk658262 : mKq (F657854 q657855) (F658258 q657855) := mKq_tr mk658141 (by rw [he658212, he658261]; exact ⟨rfl, rfl⟩)
          have fq658263 : F658258 q657855 = cF (F658129 q657855) 10 (.int 1) := by rw [he658261, he658212]; rfl
          refine G_iload_n 0 dr_cX17_give_69 rfl ?_
          have hT658264 : RS D I P658128 F658258 gm_F658129 el_F658129 := RS_set hT658134 n658260 ht658136 (by decide) ⟨q658213, q658214, p658215, 1, p658217, p658218, p658219, p658220, p658221, p658222, p658223, p658224, p658225, p658226, p658227, p658228, p658229, he658261, ⟨(hB658256.1), (gB_w (gBl (show Int32.toInt 1 = 1 by decide)) (by decide) (by decide)), (hB658256.2.2.1), (hB658256.2.2.2.1), (hB658256.2.2.2.2.1), (hB658256.2.2.2.2.2.1), (hB658256.2.2.2.2.2.2.1), (hB658256.2.2.2.2.2.2.2.1), (hB658256.2.2.2.2.2.2.2.2)⟩, ht658230, ht658231, ht658232, ht658233, ht658234, ht658235, ht658236, ht658237, ht658238, ht658239, ht658240, ht658241, ht658242, ht658243, ht658244, ht658245, ht658246, ht658247, ht658248, ht658249, ht658250, ht658251, ht658252, ht658253, ⟨(show (_ ∨ _ ∨ _) ∧ (_ ∨ _ ∨ _) ∧ _ from hB658257).1, Or.inr (Or.inl (by have z : 0 < gm_F658129 6 f := (by omega); rw [x657859] at z; exact z)), (show (_ ∨ _ ∨ _) ∧ (_ ∨ _ ∨ _) ∧ _ from hB658257).2.2⟩⟩
          have hs658265 := rSk_put hs658135 hT658264 n658260 ht658136 (by decide) (by decide) (Or.inr (Or.inr (by decide)))
          have ac658266 : (fI (F658258 q657855) 9).toInt = p658215.toInt := by rw [he658261]; rfl
          have ac658267 : (fI (F658258 q657855) 10).toInt = 1 := by rw [he658261]; show Int32.toInt 1 = 1; decide
          have ac658268 : (fI (F658258 q657855) 32).toInt = p658227.toInt := by rw [he658261]; rfl
          have mq658269 : mKq _ _ := mk658141
          exact G_iretA dr_cX17_give_70 rfl (show ((rPh gm_F658129 el_F658129 f - rPh γ0 el0 f) / 18) ≤ (((387 * B + 6000) - rPh γ0 el0 f) / 18) by omega) (show (rPh gm_F658129 el_F658129 f - rPh γ0 el0 f) ≤ ((387 * B + 6000) - rPh γ0 el0 f) by omega) ⟨P658128, F658258, gm_F658129, el_F658129, o658124, rfl, rfl, hs658265, ⟨by omega, by omega⟩, hB658133, (gB_w bo658124' (by decide) (by decide)), (by omega), mk658262, (fun R c1 c2 c3 c4 c5 => c3 gm_0 el_0 F657922 p657876 P658044 F658045 gm_F658045 el_F658045 P658128 F658129 gm_F658129 el_F658129 o658124 F658258 hγ0 hel0 n657924 fq657927 r657996 r657998 fq657999 r658001 fq658002 fq658003 hk658046 x658039 x658040 x658041 x658042 ht658043 fq658114 hk658130 x658125 x658126 ht658127 r658210 n658260 fq658263)⟩
      · have r658270 : p657876.toInt = 0 := gj_eq hc658000 (show Int32.toInt 0 = 0 by decide)
        have bp657876' : gB p657876 0 0 := gB_t0 r658270
        refine G_aload_n 0 dr_cX17_give_29 rfl ?_
        refine G_iconst 2 dr_cX17_give_30 (by decide +kernel) ?_
        refine Gw_callV (As := [.int 2]) (gV_ok D I) (ct_589523_SpillForgeModel_no l hl0 D I gm_0 el_0 P657853 F657922 q657855 2 hT657928 htq657855) dr_cX17_give_31 ⟨wr_7_191, wr_1_14, wr_7_194, by decide, rfl, (Nat.le_of_ble_eq_true rfl), (Nat.le_of_ble_eq_true rfl)⟩ wr_7_193 wr_p_73 hm657872 he657925 rfl (rm_zc pk657866) (rm_zs pk657866) (Nat.le_of_ble_eq_true rfl) (fun r658274 w658275 dc658271 ds658272 hp658273 => ?_) (fun _ _ _ _ _ z => z.elim)
        obtain ⟨F658279, rfl, rfl, hT658280, hs658281, hdc, hds, x658276, x658277, ht658278⟩ := hp658273
        have hs658282 := rSk_str hs657929 hT658280 hs658281 (by decide) (by decide) (by decide)
        have mk658283 : mKq (F657854 q657855) (F658279 q657855) := mKq_tr mk657926 x658277
        change G _ _ _ _ _ _ _ (.int 0 :: _) _ _ _
        refine G_widen (cs' := ((rPh gm_0 el_0 f - rPh γ0 el0 f) / 18)) (sl' := (rPh gm_0 el_0 f - rPh γ0 el0 f)) (rm_d0 hdc) (rm_d0 hds) ?_
        have hm658284 : q657855 ∈ P657853 := RS_m hT658280 htq657855 (by decide)
        refine rk10_e (show rk_10 gm_0 (F658279 q657855) from RS_o hT658280 htq657855) (fun q658286 q658287 p658288 p658289 p658290 p658291 p658292 p658293 p658294 p658295 p658296 p658297 p658298 p658299 p658300 p658301 p658302 he658285 hB658329 ht658303 ht658304 ht658305 ht658306 ht658307 ht658308 ht658309 ht658310 ht658311 ht658312 ht658313 ht658314 ht658315 ht658316 ht658317 ht658318 ht658319 ht658320 ht658321 ht658322 ht658323 ht658324 ht658325 ht658326 hB658330 => ?_)
        have ac658331 : (fI (F658279 q657855) 9).toInt = p658288.toInt := by rw [he658285]; rfl
        have ac658332 : (fI (F658279 q657855) 10).toInt = p658289.toInt := by rw [he658285]; rfl
        have ac658333 : (fI (F658279 q657855) 32).toInt = p658300.toInt := by rw [he658285]; rfl
        exact G_iretA dr_cX17_give_34 rfl (show ((rPh gm_0 el_0 f - rPh γ0 el0 f) / 18) ≤ (((387 * B + 6000) - rPh γ0 el0 f) / 18) by omega) (show (rPh gm_0 el_0 f - rPh γ0 el0 f) ≤ ((387 * B + 6000) - rPh γ0 el0 f) by omega) ⟨P657853, F658279, gm_0, el_0, 0, rfl, rfl, hs658282, ⟨by omega, by omega⟩, hB, (gB_w (gBl (show Int32.toInt 0 = 0 by decide)) (by decide) (by decide)), (by have qa0 : Int32.toInt 0 = 0 := (by decide); omega), mk658283, (fun R c1 c2 c3 c4 c5 => c4 gm_0 el_0 F657922 p657876 F658279 hγ0 hel0 n657924 fq657927 r657996 r657998 fq657999 r658270 hT658280 hs658281 x658276 x658277 ht658278)⟩
    · have r658334 : 32 < p657856.toInt := gj_nle hc657997 (show Int32.toInt 32 = 32 by decide)
      have bp657856'' : gB p657856 33 2147483647 := ⟨by omega, by omega⟩
      refine G_aload_n 0 dr_cX17_give_16 rfl ?_
      refine G_iconst 1 dr_cX17_give_17 (by decide +kernel) ?_
      refine Gw_callV (As := [.int 1]) (gV_ok D I) (ct_589523_SpillForgeModel_no l hl0 D I gm_0 el_0 P657853 F657922 q657855 1 hT657928 htq657855) dr_cX17_give_18 ⟨wr_7_191, wr_1_14, wr_7_194, by decide, rfl, (Nat.le_of_ble_eq_true rfl), (Nat.le_of_ble_eq_true rfl)⟩ wr_7_193 wr_p_73 hm657872 he657925 rfl (rm_zc pk657866) (rm_zs pk657866) (Nat.le_of_ble_eq_true rfl) (fun r658338 w658339 dc658335 ds658336 hp658337 => ?_) (fun _ _ _ _ _ z => z.elim)
      obtain ⟨F658343, rfl, rfl, hT658344, hs658345, hdc, hds, x658340, x658341, ht658342⟩ := hp658337
      have hs658346 := rSk_str hs657929 hT658344 hs658345 (by decide) (by decide) (by decide)
      have mk658347 : mKq (F657854 q657855) (F658343 q657855) := mKq_tr mk657926 x658341
      change G _ _ _ _ _ _ _ (.int 0 :: _) _ _ _
      refine G_widen (cs' := ((rPh gm_0 el_0 f - rPh γ0 el0 f) / 18)) (sl' := (rPh gm_0 el_0 f - rPh γ0 el0 f)) (rm_d0 hdc) (rm_d0 hds) ?_
      have hm658348 : q657855 ∈ P657853 := RS_m hT658344 htq657855 (by decide)
      refine rk10_e (show rk_10 gm_0 (F658343 q657855) from RS_o hT658344 htq657855) (fun q658350 q658351 p658352 p658353 p658354 p658355 p658356 p658357 p658358 p658359 p658360 p658361 p658362 p658363 p658364 p658365 p658366 he658349 hB658393 ht658367 ht658368 ht658369 ht658370 ht658371 ht658372 ht658373 ht658374 ht658375 ht658376 ht658377 ht658378 ht658379 ht658380 ht658381 ht658382 ht658383 ht658384 ht658385 ht658386 ht658387 ht658388 ht658389 ht658390 hB658394 => ?_)
      have ac658395 : (fI (F658343 q657855) 9).toInt = p658352.toInt := by rw [he658349]; rfl
      have ac658396 : (fI (F658343 q657855) 10).toInt = p658353.toInt := by rw [he658349]; rfl
      have ac658397 : (fI (F658343 q657855) 32).toInt = p658364.toInt := by rw [he658349]; rfl
      exact G_iretA dr_cX17_give_21 rfl (show ((rPh gm_0 el_0 f - rPh γ0 el0 f) / 18) ≤ (((387 * B + 6000) - rPh γ0 el0 f) / 18) by omega) (show (rPh gm_0 el_0 f - rPh γ0 el0 f) ≤ ((387 * B + 6000) - rPh γ0 el0 f) by omega) ⟨P657853, F658343, gm_0, el_0, 0, rfl, rfl, hs658346, ⟨by omega, by omega⟩, hB, (gB_w (gBl (show Int32.toInt 0 = 0 by decide)) (by decide) (by decide)), (by have qa0 : Int32.toInt 0 = 0 := (by decide); omega), mk658347, (fun R c1 c2 c3 c4 c5 => c5 gm_0 el_0 F657922 F658343 hγ0 hel0 n657924 fq657927 r657996 r658334 hT658344 hs658345 x658340 x658341 ht658342)⟩
