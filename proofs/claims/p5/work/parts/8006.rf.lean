abbrev ky_564856_SpillForgeModel_end : gKey := (cX17_end, 2, "SpillForgeModel", (some FieldType.int), [], "end", fun _ _ => True)
def pt_564856_SpillForgeModel_end (D : va_G) (I : FieldType → ClassId) (γ el : Nat → Nat → Nat) (P564852 : List Nat) (F564853 : Nat → va_E) (q564854 : Nat) (p564855 : Int32) : Option Value → va_W → Nat → Nat → Prop := fun r w dc ds => ∃ (F565077 : Nat → va_E) (o565076 : Int32), r = some (.int o565076) ∧ w = va_pl P564852 F565077 ∧ RS D I P564852 F565077 γ el ∧ rStr γ [] F564853 F565077 ∧ dc ≤ 0 ∧ ds ≤ 0 ∧ gB o565076 0 8192 ∧ ((0 ≤ p564855.toInt ∧ p564855.toInt ≤ (fI (F564853 q564854) 32).toInt ∧ o565076.toInt = p564855.toInt ∧ (fI (F565077 q564854) 32).toInt = p564855.toInt ∧ (fI (F565077 q564854) 30).toInt = 0) ∨ ((p564855.toInt < 0 ∨ (fI (F564853 q564854) 32).toInt < p564855.toInt) ∧ (fI (F565077 q564854) 30).toInt = 1 ∧ (fI (F565077 q564854) 32).toInt = (fI (F564853 q564854) 32).toInt)) ∧ (fI (F565077 q564854) 9).toInt = (fI (F564853 q564854) 9).toInt ∧ (fI (F565077 q564854) 10).toInt = (fI (F564853 q564854) 10).toInt
set_option maxRecDepth 100000 in
set_option maxHeartbeats 4000000 in
theorem ct_564856_SpillForgeModel_end (l : Launch) (hl0 : l.stackTraces = false) (D : va_G) (I : FieldType → ClassId) (γ el : Nat → Nat → Nat) (P564852 : List Nat) (F564853 : Nat → va_E) (q564854 : Nat) (p564855 : Int32) (hT : RS D I P564852 F564853 γ el) (htq564854 : rKd γ q564854 10) : CtA (gV D I) l yX17_end cX17_end 2 (some FieldType.int) 1 21 0 0 [.ref q564854, .int p564855] (va_pl P564852 F564853) (pt_564856_SpillForgeModel_end D I γ el P564852 F564853 q564854 p564855) gNA := by
  refine CtA_of hl0 (by decide) (Nat.le_of_ble_eq_true rfl) ?_
  have bp564855 := gB_any p564855
  have hm564857 : q564854 ∈ P564852 := RS_m hT htq564854 (by decide)
  refine rk10_e (show rk_10 γ (F564853 q564854) from RS_o hT htq564854) (fun q564859 q564860 p564861 p564862 p564863 p564864 p564865 p564866 p564867 p564868 p564869 p564870 p564871 p564872 p564873 p564874 p564875 he564858 hB564902 ht564876 ht564877 ht564878 ht564879 ht564880 ht564881 ht564882 ht564883 ht564884 ht564885 ht564886 ht564887 ht564888 ht564889 ht564890 ht564891 ht564892 ht564893 ht564894 ht564895 ht564896 ht564897 ht564898 ht564899 hB564903 => ?_)
  have ac564904 : (fI (F564853 q564854) 9).toInt = p564861.toInt := by rw [he564858]; rfl
  have bp564861 : gB p564861 0 1 := (hB564902.1)
  have ac564905 : (fI (F564853 q564854) 10).toInt = p564862.toInt := by rw [he564858]; rfl
  have bp564862 : gB p564862 0 1 := (hB564902.2.1)
  have ac564906 : (fI (F564853 q564854) 32).toInt = p564873.toInt := by rw [he564858]; rfl
  have bp564873 : gB p564873 0 8192 := (hB564902.2.2.2.2.2.2.2.1)
  have ac564907 : (fI (F564853 q564854) 30).toInt = p564872.toInt := by rw [he564858]; rfl
  have bp564872 : gB p564872 (-2147483648) 2147483647 := (gB_any p564872)
  refine G_aload_n 0 dr_cX17_end_0 rfl ?_
  refine G_iconst 0 dr_cX17_end_1 (by decide +kernel) ?_
  refine Gp_put 30 hm564857 he564858 dr_cX17_end_2 (gk_X17 D I) (Nat.le_of_ble_eq_true rfl) wr_7_104 rfl rfl rfl (Nat.le_of_ble_eq_true rfl) (fun F564908 e564909 n564910 => ?_)
  have he564911 : F564908 q564854 = .inr (22, [.ref (γ 9 0), .ref (γ 9 1), .ref (γ 9 2), .ref (γ 9 3), .ref (γ 9 4), .ref (γ 9 5), .ref (γ 9 6), .ref (γ 9 7), .ref (γ 9 8), .int p564861, .int p564862, .int p564863, .int p564864, .int p564865, .int p564866, .ref (γ 9 15), .ref (γ 9 16), .ref (γ 9 17), .ref (γ 9 18), .ref (γ 9 19), .ref (γ 9 20), .ref (γ 9 21), .ref (γ 9 22), .int p564867, .int p564868, .int p564869, .int p564870, .int p564871, .ref q564859, .ref (γ 9 29), .int 0, .ref (γ 9 31), .int p564873, .int p564874, .int p564875, .ref q564860]) := e564909
  have hs564912 : rStr γ [] F564853 F564908 := rStr_put (rStr_rf (γ := γ) (W := []) (F := F564853)) n564910 htq564854 (by decide)
  refine G_iload_n 1 dr_cX17_end_5 rfl ?_
  refine G_if_lt 17 dr_cX17_end_6 (by decide +kernel) (fun hc564913 => ?_) (fun hc564913 => ?_)
  · have r564914 : p564855.toInt < 0 := gj_lt hc564913 (show Int32.toInt 0 = 0 by decide)
    have bp564855' : gB p564855 (-2147483648) (-1) := ⟨by omega, by omega⟩
    refine G_aload_n 0 dr_cX17_end_17 rfl ?_
    refine G_iconst 1 dr_cX17_end_18 (by decide +kernel) ?_
    have hT564915 : RS D I P564852 F564908 γ el := RS_set hT n564910 htq564854 (by decide) ⟨q564859, q564860, p564861, p564862, p564863, p564864, p564865, p564866, p564867, p564868, p564869, p564870, p564871, 0, p564873, p564874, p564875, he564911, ⟨bp564861, bp564862, (hB564902.2.2.1), (hB564902.2.2.2.1), (hB564902.2.2.2.2.1), (hB564902.2.2.2.2.2.1), (hB564902.2.2.2.2.2.2.1), bp564873, (hB564902.2.2.2.2.2.2.2.2)⟩, ht564876, ht564877, ht564878, ht564879, ht564880, ht564881, ht564882, ht564883, ht564884, ht564885, ht564886, ht564887, ht564888, ht564889, ht564890, ht564891, ht564892, ht564893, ht564894, ht564895, ht564896, ht564897, ht564898, ht564899, hB564903⟩
    have ac564916 : (fI (F564908 q564854) 9).toInt = p564861.toInt := by rw [he564911]; rfl
    have ac564917 : (fI (F564908 q564854) 10).toInt = p564862.toInt := by rw [he564911]; rfl
    have ac564918 : (fI (F564908 q564854) 32).toInt = p564873.toInt := by rw [he564911]; rfl
    have ac564919 : (fI (F564908 q564854) 30).toInt = 0 := by rw [he564911]; show Int32.toInt 0 = 0; decide
    refine Gw_callV (As := [.int 1]) (gV_ok D I) (ct_563506_SpillForgeModel_no l hl0 D I γ el P564852 F564908 q564854 1 hT564915 htq564854) dr_cX17_end_19 ⟨wr_7_187, wr_1_14, wr_7_190, by decide, rfl, (Nat.le_of_ble_eq_true rfl), (Nat.le_of_ble_eq_true rfl)⟩ wr_7_189 wr_p_73 hm564857 he564911 rfl (show 0 + 0 ≤ 0 by first | omega | decide) (show 0 + 0 ≤ 0 by first | omega | decide) (Nat.le_of_ble_eq_true rfl) (fun r564923 w564924 dc564920 ds564921 hp564922 => ?_) (fun _ _ _ _ _ z => z.elim)
    obtain ⟨F564929, rfl, rfl, hT564930, hs564931, hdc, hds, x564925, x564926, x564927, x564928⟩ := hp564922
    have hs564932 : rStr γ [] F564853 F564929 := rStr_tr hs564912 hs564931
    rw [show Int32.toInt 1 = 1 from by decide] at x564928
    change G _ _ _ _ _ _ _ (.int 0 :: _) _ _ _
    refine G_widen (cs' := 0) (sl' := 0) (by omega) (by omega) ?_
    have hm564933 : q564854 ∈ P564852 := RS_m hT564930 htq564854 (by decide)
    refine rk10_e (show rk_10 γ (F564929 q564854) from RS_o hT564930 htq564854) (fun q564935 q564936 p564937 p564938 p564939 p564940 p564941 p564942 p564943 p564944 p564945 p564946 p564947 p564948 p564949 p564950 p564951 he564934 hB564978 ht564952 ht564953 ht564954 ht564955 ht564956 ht564957 ht564958 ht564959 ht564960 ht564961 ht564962 ht564963 ht564964 ht564965 ht564966 ht564967 ht564968 ht564969 ht564970 ht564971 ht564972 ht564973 ht564974 ht564975 hB564979 => ?_)
    have ac564980 : (fI (F564929 q564854) 9).toInt = p564937.toInt := by rw [he564934]; rfl
    have bp564937 : gB p564937 0 1 := (hB564978.1)
    have ac564981 : (fI (F564929 q564854) 10).toInt = p564938.toInt := by rw [he564934]; rfl
    have bp564938 : gB p564938 0 1 := (hB564978.2.1)
    have ac564982 : (fI (F564929 q564854) 32).toInt = p564949.toInt := by rw [he564934]; rfl
    have bp564949 : gB p564949 0 8192 := (hB564978.2.2.2.2.2.2.2.1)
    have ac564983 : (fI (F564929 q564854) 30).toInt = p564948.toInt := by rw [he564934]; rfl
    have bp564948 : gB p564948 (-2147483648) 2147483647 := (gB_any p564948)
    have ac564984 : (fI (F564929 q564854) 9).toInt = p564937.toInt := by rw [he564934]; rfl
    have ac564985 : (fI (F564929 q564854) 10).toInt = p564938.toInt := by rw [he564934]; rfl
    have ac564986 : (fI (F564929 q564854) 32).toInt = p564949.toInt := by rw [he564934]; rfl
    have ac564987 : (fI (F564929 q564854) 30).toInt = p564948.toInt := by rw [he564934]; rfl
    exact G_iretA dr_cX17_end_22 rfl (Nat.le_of_ble_eq_true rfl) (Nat.le_of_ble_eq_true rfl) ⟨F564929, 0, rfl, rfl, hT564930, hs564932, (Nat.le_of_ble_eq_true rfl), (Nat.le_of_ble_eq_true rfl), (gB_w (gBl (show Int32.toInt 0 = 0 by decide)) (by decide) (by decide)), (by have qa0 : Int32.toInt 0 = 0 := (by decide); omega), (by have qa0 : Int32.toInt 0 = 0 := (by decide); omega), (by have qa0 : Int32.toInt 0 = 0 := (by decide); omega)⟩
  · have r564988 : 0 ≤ p564855.toInt := gj_nlt hc564913 (show Int32.toInt 0 = 0 by decide)
    have bp564855' : gB p564855 0 2147483647 := ⟨by omega, by omega⟩
    refine G_iload_n 1 dr_cX17_end_9 rfl ?_
    refine G_aload_n 0 dr_cX17_end_10 rfl ?_
    refine Gp_get 32 hm564857 he564911 dr_cX17_end_11 (gk_X17 D I) (Nat.le_of_ble_eq_true rfl) wr_7_106 rfl ?_
    refine G_icmp_le 23 dr_cX17_end_14 (by decide +kernel) (fun hc564989 => ?_) (fun hc564989 => ?_)
    · have r564990 : p564855.toInt ≤ p564873.toInt := gC_le hc564989
      have bp564855'' : gB p564855 0 8192 := ⟨by omega, by omega⟩
      refine G_aload_n 0 dr_cX17_end_23 rfl ?_
      refine G_iload_n 1 dr_cX17_end_24 rfl ?_
      refine Gp_put 32 hm564857 he564911 dr_cX17_end_25 (gk_X17 D I) (Nat.le_of_ble_eq_true rfl) wr_7_106 rfl rfl rfl (Nat.le_of_ble_eq_true rfl) (fun F564991 e564992 n564993 => ?_)
      have he564994 : F564991 q564854 = .inr (22, [.ref (γ 9 0), .ref (γ 9 1), .ref (γ 9 2), .ref (γ 9 3), .ref (γ 9 4), .ref (γ 9 5), .ref (γ 9 6), .ref (γ 9 7), .ref (γ 9 8), .int p564861, .int p564862, .int p564863, .int p564864, .int p564865, .int p564866, .ref (γ 9 15), .ref (γ 9 16), .ref (γ 9 17), .ref (γ 9 18), .ref (γ 9 19), .ref (γ 9 20), .ref (γ 9 21), .ref (γ 9 22), .int p564867, .int p564868, .int p564869, .int p564870, .int p564871, .ref q564859, .ref (γ 9 29), .int 0, .ref (γ 9 31), .int p564855, .int p564874, .int p564875, .ref q564860]) := e564992
      have hs564995 : rStr γ [] F564853 F564991 := rStr_put hs564912 n564993 htq564854 (by decide)
      have n564996 : ∀ b, b ≠ q564854 → F564991 b = F564853 b := fun b hb => (n564993 b hb).trans (n564910 b hb)
      refine G_iload_n 1 dr_cX17_end_28 rfl ?_
      have hT564997 : RS D I P564852 F564991 γ el := RS_set hT n564996 htq564854 (by decide) ⟨q564859, q564860, p564861, p564862, p564863, p564864, p564865, p564866, p564867, p564868, p564869, p564870, p564871, 0, p564855, p564874, p564875, he564994, ⟨bp564861, bp564862, (hB564902.2.2.1), (hB564902.2.2.2.1), (hB564902.2.2.2.2.1), (hB564902.2.2.2.2.2.1), (hB564902.2.2.2.2.2.2.1), bp564855'', (hB564902.2.2.2.2.2.2.2.2)⟩, ht564876, ht564877, ht564878, ht564879, ht564880, ht564881, ht564882, ht564883, ht564884, ht564885, ht564886, ht564887, ht564888, ht564889, ht564890, ht564891, ht564892, ht564893, ht564894, ht564895, ht564896, ht564897, ht564898, ht564899, hB564903⟩
      have ac564998 : (fI (F564991 q564854) 9).toInt = p564861.toInt := by rw [he564994]; rfl
      have ac564999 : (fI (F564991 q564854) 10).toInt = p564862.toInt := by rw [he564994]; rfl
      have ac565000 : (fI (F564991 q564854) 32).toInt = p564855.toInt := by rw [he564994]; rfl
      have ac565001 : (fI (F564991 q564854) 30).toInt = 0 := by rw [he564994]; show Int32.toInt 0 = 0; decide
      exact G_iretA dr_cX17_end_29 rfl (Nat.le_of_ble_eq_true rfl) (Nat.le_of_ble_eq_true rfl) ⟨F564991, p564855, rfl, rfl, hT564997, hs564995, (Nat.le_of_ble_eq_true rfl), (Nat.le_of_ble_eq_true rfl), bp564855'', (by omega), (by omega), (by omega)⟩
    · have r565002 : p564873.toInt < p564855.toInt := gC_nle hc564989
      have bp564855'' : gB p564855 1 2147483647 := ⟨by omega, by omega⟩
      refine G_aload_n 0 dr_cX17_end_17 rfl ?_
      refine G_iconst 1 dr_cX17_end_18 (by decide +kernel) ?_
      have hT565003 : RS D I P564852 F564908 γ el := RS_set hT n564910 htq564854 (by decide) ⟨q564859, q564860, p564861, p564862, p564863, p564864, p564865, p564866, p564867, p564868, p564869, p564870, p564871, 0, p564873, p564874, p564875, he564911, ⟨bp564861, bp564862, (hB564902.2.2.1), (hB564902.2.2.2.1), (hB564902.2.2.2.2.1), (hB564902.2.2.2.2.2.1), (hB564902.2.2.2.2.2.2.1), bp564873, (hB564902.2.2.2.2.2.2.2.2)⟩, ht564876, ht564877, ht564878, ht564879, ht564880, ht564881, ht564882, ht564883, ht564884, ht564885, ht564886, ht564887, ht564888, ht564889, ht564890, ht564891, ht564892, ht564893, ht564894, ht564895, ht564896, ht564897, ht564898, ht564899, hB564903⟩
      have ac565004 : (fI (F564908 q564854) 9).toInt = p564861.toInt := by rw [he564911]; rfl
      have ac565005 : (fI (F564908 q564854) 10).toInt = p564862.toInt := by rw [he564911]; rfl
      have ac565006 : (fI (F564908 q564854) 32).toInt = p564873.toInt := by rw [he564911]; rfl
      have ac565007 : (fI (F564908 q564854) 30).toInt = 0 := by rw [he564911]; show Int32.toInt 0 = 0; decide
      refine Gw_callV (As := [.int 1]) (gV_ok D I) (ct_563506_SpillForgeModel_no l hl0 D I γ el P564852 F564908 q564854 1 hT565003 htq564854) dr_cX17_end_19 ⟨wr_7_187, wr_1_14, wr_7_190, by decide, rfl, (Nat.le_of_ble_eq_true rfl), (Nat.le_of_ble_eq_true rfl)⟩ wr_7_189 wr_p_73 hm564857 he564911 rfl (show 0 + 0 ≤ 0 by first | omega | decide) (show 0 + 0 ≤ 0 by first | omega | decide) (Nat.le_of_ble_eq_true rfl) (fun r565011 w565012 dc565008 ds565009 hp565010 => ?_) (fun _ _ _ _ _ z => z.elim)
      obtain ⟨F565017, rfl, rfl, hT565018, hs565019, hdc, hds, x565013, x565014, x565015, x565016⟩ := hp565010
      have hs565020 : rStr γ [] F564853 F565017 := rStr_tr hs564912 hs565019
      rw [show Int32.toInt 1 = 1 from by decide] at x565016
      change G _ _ _ _ _ _ _ (.int 0 :: _) _ _ _
      refine G_widen (cs' := 0) (sl' := 0) (by omega) (by omega) ?_
      have hm565021 : q564854 ∈ P564852 := RS_m hT565018 htq564854 (by decide)
      refine rk10_e (show rk_10 γ (F565017 q564854) from RS_o hT565018 htq564854) (fun q565023 q565024 p565025 p565026 p565027 p565028 p565029 p565030 p565031 p565032 p565033 p565034 p565035 p565036 p565037 p565038 p565039 he565022 hB565066 ht565040 ht565041 ht565042 ht565043 ht565044 ht565045 ht565046 ht565047 ht565048 ht565049 ht565050 ht565051 ht565052 ht565053 ht565054 ht565055 ht565056 ht565057 ht565058 ht565059 ht565060 ht565061 ht565062 ht565063 hB565067 => ?_)
      have ac565068 : (fI (F565017 q564854) 9).toInt = p565025.toInt := by rw [he565022]; rfl
      have bp565025 : gB p565025 0 1 := (hB565066.1)
      have ac565069 : (fI (F565017 q564854) 10).toInt = p565026.toInt := by rw [he565022]; rfl
      have bp565026 : gB p565026 0 1 := (hB565066.2.1)
      have ac565070 : (fI (F565017 q564854) 32).toInt = p565037.toInt := by rw [he565022]; rfl
      have bp565037 : gB p565037 0 8192 := (hB565066.2.2.2.2.2.2.2.1)
      have ac565071 : (fI (F565017 q564854) 30).toInt = p565036.toInt := by rw [he565022]; rfl
      have bp565036 : gB p565036 (-2147483648) 2147483647 := (gB_any p565036)
      have ac565072 : (fI (F565017 q564854) 9).toInt = p565025.toInt := by rw [he565022]; rfl
      have ac565073 : (fI (F565017 q564854) 10).toInt = p565026.toInt := by rw [he565022]; rfl
      have ac565074 : (fI (F565017 q564854) 32).toInt = p565037.toInt := by rw [he565022]; rfl
      have ac565075 : (fI (F565017 q564854) 30).toInt = p565036.toInt := by rw [he565022]; rfl
      exact G_iretA dr_cX17_end_22 rfl (Nat.le_of_ble_eq_true rfl) (Nat.le_of_ble_eq_true rfl) ⟨F565017, 0, rfl, rfl, hT565018, hs565020, (Nat.le_of_ble_eq_true rfl), (Nat.le_of_ble_eq_true rfl), (gB_w (gBl (show Int32.toInt 0 = 0 by decide)) (by decide) (by decide)), (by have qa0 : Int32.toInt 0 = 0 := (by decide); omega), (by have qa0 : Int32.toInt 0 = 0 := (by decide); omega), (by have qa0 : Int32.toInt 0 = 0 := (by decide); omega)⟩
abbrev ky_565860_SpillForgeModel_step : gKey := (cX17_step, 4, "SpillForgeModel", (some FieldType.int), [], "step", fun _ _ => True)
def pt_565860_SpillForgeModel_step (D : va_G) (I : FieldType → ClassId) (γ el : Nat → Nat → Nat) (P565856 : List Nat) (F565857 : Nat → va_E) (q565858 : Nat) (q565859 : Nat) : Option Value → va_W → Nat → Nat → Prop := fun r w dc ds => ∃ (F566145 : Nat → va_E) (o566144 : Int32), r = some (.int o566144) ∧ w = va_pl P565856 F566145 ∧ RS D I P565856 F566145 γ el ∧ rStr γ [] F565857 F566145 ∧ dc ≤ 0 ∧ ds ≤ 0 ∧ gB o566144 (-1) 5 ∧ (fI (F566145 q565858) 26).toInt = (fI (F565857 q565858) 26).toInt ∧ (fI (F566145 q565858) 9).toInt = (fI (F565857 q565858) 9).toInt ∧ (fI (F566145 q565858) 10).toInt = (fI (F565857 q565858) 10).toInt ∧ (fI (F566145 q565858) 32).toInt = (fI (F565857 q565858) 32).toInt
set_option maxRecDepth 100000 in
set_option maxHeartbeats 4000000 in
theorem ct_565860_SpillForgeModel_step (l : Launch) (hl0 : l.stackTraces = false) (D : va_G) (I : FieldType → ClassId) (γ el : Nat → Nat → Nat) (P565856 : List Nat) (F565857 : Nat → va_E) (q565858 : Nat) (q565859 : Nat) (hT : RS D I P565856 F565857 γ el) (htq565858 : rKd γ q565858 10) (htq565859 : rKd γ q565859 1) : CtA (gV D I) l yX17_step cX17_step 4 (some FieldType.int) 1 23 0 0 [.ref q565858, .ref q565859] (va_pl P565856 F565857) (pt_565860_SpillForgeModel_step D I γ el P565856 F565857 q565858 q565859) gNA := by
  refine CtA_of hl0 (by decide) (Nat.le_of_ble_eq_true rfl) ?_
  have hm565861 : q565858 ∈ P565856 := RS_m hT htq565858 (by decide)
  refine rk10_e (show rk_10 γ (F565857 q565858) from RS_o hT htq565858) (fun q565863 q565864 p565865 p565866 p565867 p565868 p565869 p565870 p565871 p565872 p565873 p565874 p565875 p565876 p565877 p565878 p565879 he565862 hB565906 ht565880 ht565881 ht565882 ht565883 ht565884 ht565885 ht565886 ht565887 ht565888 ht565889 ht565890 ht565891 ht565892 ht565893 ht565894 ht565895 ht565896 ht565897 ht565898 ht565899 ht565900 ht565901 ht565902 ht565903 hB565907 => ?_)
  have ac565908 : (fI (F565857 q565858) 26).toInt = p565874.toInt := by rw [he565862]; rfl
  have bp565874 : gB p565874 0 100000 := (hB565906.2.2.2.2.2.1)
  have ac565909 : (fI (F565857 q565858) 9).toInt = p565865.toInt := by rw [he565862]; rfl
  have bp565865 : gB p565865 0 1 := (hB565906.1)
  have ac565910 : (fI (F565857 q565858) 10).toInt = p565866.toInt := by rw [he565862]; rfl
  have bp565866 : gB p565866 0 1 := (hB565906.2.1)
  have ac565911 : (fI (F565857 q565858) 32).toInt = p565877.toInt := by rw [he565862]; rfl
  have bp565877 : gB p565877 0 8192 := (hB565906.2.2.2.2.2.2.2.1)
  refine G_aload_n 1 dr_cX17_step_0 rfl ?_
  have hm565912 : q565859 ∈ P565856 := RS_m hT htq565859 (by decide)
  obtain ⟨p565914, p565915, p565916, p565917, p565918, p565919, p565920, he565913, bp565914, bp565915, bp565918, bp565919, bp565920, r565921, r565922, r565923, r565924, r565925⟩ := show rk_1 γ q565859 (F565857 q565859) from RS_o hT htq565859
  have bp565916 := gB_any p565916
  have bp565917 := gB_any p565917
  refine Gp_get 0 hm565912 he565913 dr_cX17_step_1 (gk_X15 D I) (Nat.le_of_ble_eq_true rfl) wr_9_173 rfl ?_
  by_cases hs565926 : p565914 = 0
  · have ehs565926 : p565914.toInt = 0 := gj_eq hs565926 (show Int32.toInt 0 = 0 by decide)
    have bp565914' : gB p565914 0 0 := ⟨by omega, by omega⟩
    refine G_eqi (y := 0) hs565926 ?_
    refine G_lookup 198 dr_cX17_step_4 (by decide) (by first | rfl | decide) (by decide) ?_
    refine G_aload_n 0 dr_cX17_step_198 rfl ?_
    refine Gp_get 20 hm565861 he565862 dr_cX17_step_199 (gk_X17 D I) (Nat.le_of_ble_eq_true rfl) wr_7_94 rfl ?_
    refine G_aload_n 1 dr_cX17_step_202 rfl ?_
    refine Gp_get 1 hm565912 he565913 dr_cX17_step_203 (gk_X15 D I) (Nat.le_of_ble_eq_true rfl) wr_9_178 rfl ?_
    refine G_aload_n 0 dr_cX17_step_206 rfl ?_
    refine G_aload_n 1 dr_cX17_step_207 rfl ?_
    refine Gp_get 5 hm565912 he565913 dr_cX17_step_208 (gk_X15 D I) (Nat.le_of_ble_eq_true rfl) wr_9_193 rfl ?_
    refine G_aload_n 1 dr_cX17_step_211 rfl ?_
    refine Gp_get 2 hm565912 he565913 dr_cX17_step_212 (gk_X15 D I) (Nat.le_of_ble_eq_true rfl) wr_9_182 rfl ?_
    refine Gw_callV (As := [.int p565919, .int p565916]) (gV_ok D I) (ct_7383_SpillForgeModel_value l hl0 D I γ el P565856 F565857 q565858 p565919 p565916 hT htq565858 bp565919 (by omega)) dr_cX17_step_215 ⟨wr_11_96, wr_1_14, wr_11_99, by decide, rfl, (Nat.le_of_ble_eq_true rfl), (Nat.le_of_ble_eq_true rfl)⟩ wr_11_98 wr_p_115 hm565861 he565862 rfl (show 0 + 0 ≤ 0 by first | omega | decide) (show 0 + 0 ≤ 0 by first | omega | decide) (Nat.le_of_ble_eq_true rfl) (fun r565930 w565931 dc565927 ds565928 hp565929 => ?_) (fun _ _ _ _ _ z => z.elim)
    obtain ⟨o565932, rfl, rfl, hdc, hds⟩ := hp565929
    have bo565932 := gB_any o565932
    change G _ _ _ _ _ _ _ (.int o565932 :: _) _ _ _
    refine G_widen (cs' := 0) (sl' := 0) (by omega) (by omega) ?_
    have hm565933 : (γ 9 20) ∈ P565856 := RS_m hT ht565896 (by decide)
    obtain ⟨f565935, he565934⟩ := show rk_22 I (F565857 (γ 9 20)) from RS_o hT ht565896
    refine Gp_iast 0 hm565933 he565934 dr_cX17_step_218 rfl (gB_in bp565915 (by decide) (by decide)) (fun F565936 e565937 n565938 => ?_)
    obtain ⟨f565939, hf565939⟩ : ∃ z, z = upd f565935 p565915.toNatClampNeg o565932 := ⟨_, rfl⟩
    rw [← hf565939] at e565937
    have he565940 : F565936 q565858 = .inr (22, [.ref (γ 9 0), .ref (γ 9 1), .ref (γ 9 2), .ref (γ 9 3), .ref (γ 9 4), .ref (γ 9 5), .ref (γ 9 6), .ref (γ 9 7), .ref (γ 9 8), .int p565865, .int p565866, .int p565867, .int p565868, .int p565869, .int p565870, .ref (γ 9 15), .ref (γ 9 16), .ref (γ 9 17), .ref (γ 9 18), .ref (γ 9 19), .ref (γ 9 20), .ref (γ 9 21), .ref (γ 9 22), .int p565871, .int p565872, .int p565873, .int p565874, .int p565875, .ref q565863, .ref (γ 9 29), .int p565876, .ref (γ 9 31), .int p565877, .int p565878, .int p565879, .ref q565864]) := (n565938 q565858 (rn_oa he565862 he565934)).trans he565862
    have he565941 : F565936 q565859 = .inr (20, [.int p565914, .int p565915, .int p565916, .int p565917, .int p565918, .int p565919, .int p565920]) := (n565938 q565859 (rn_oa he565913 he565934)).trans he565913
    have he565942 : F565936 (γ 9 20) = .inl (I .int, 2000, .inl f565939) := e565937
    have hs565943 : rStr γ [] F565857 F565936 := rStr_put (rStr_rf (γ := γ) (W := []) (F := F565857)) n565938 ht565896 (by decide)
    refine G_iconst (-1) dr_cX17_step_219 (by decide +kernel) ?_
    have hT565944 : RS D I P565856 F565936 γ el := RS_set hT n565938 ht565896 (by decide) ⟨f565939, he565942⟩
    have ac565945 : (fI (F565936 q565858) 26).toInt = p565874.toInt := by rw [he565940]; rfl
    have ac565946 : (fI (F565936 q565858) 9).toInt = p565865.toInt := by rw [he565940]; rfl
    have ac565947 : (fI (F565936 q565858) 10).toInt = p565866.toInt := by rw [he565940]; rfl
    have ac565948 : (fI (F565936 q565858) 32).toInt = p565877.toInt := by rw [he565940]; rfl
    exact G_iretA dr_cX17_step_220 rfl (Nat.le_of_ble_eq_true rfl) (Nat.le_of_ble_eq_true rfl) ⟨F565936, (-1), rfl, rfl, hT565944, hs565943, (Nat.le_of_ble_eq_true rfl), (Nat.le_of_ble_eq_true rfl), (gB_w (gBl (show Int32.toInt (-1) = (-1) by decide)) (by decide) (by decide)), (by have qa0 : Int32.toInt (-1) = (-1) := (by decide); omega), (by have qa0 : Int32.toInt (-1) = (-1) := (by decide); omega), (by have qa0 : Int32.toInt (-1) = (-1) := (by decide); omega), (by have qa0 : Int32.toInt (-1) = (-1) := (by decide); omega)⟩
  by_cases hs565949 : p565914 = 20
  · have ehs565949 : p565914.toInt = 20 := gj_eq hs565949 (show Int32.toInt 20 = 20 by decide)
    have bp565914' : gB p565914 20 20 := ⟨by omega, by omega⟩
    refine G_eqi (y := 20) hs565949 ?_
    refine G_lookup 56 dr_cX17_step_4 (by decide) (by first | rfl | decide) (by decide) ?_
    refine G_aload_n 0 dr_cX17_step_56 rfl ?_
    refine Gp_get 20 hm565861 he565862 dr_cX17_step_57 (gk_X17 D I) (Nat.le_of_ble_eq_true rfl) wr_7_94 rfl ?_
    refine G_aload_n 1 dr_cX17_step_60 rfl ?_
    refine Gp_get 1 hm565912 he565913 dr_cX17_step_61 (gk_X15 D I) (Nat.le_of_ble_eq_true rfl) wr_9_178 rfl ?_
    refine G_aload_n 0 dr_cX17_step_64 rfl ?_
    refine Gp_get 27 hm565861 he565862 dr_cX17_step_65 (gk_X17 D I) (Nat.le_of_ble_eq_true rfl) wr_7_101 rfl ?_
    have bp565875 : gB p565875 0 2048 := (hB565906.2.2.2.2.2.2.1)
    refine G_aload_n 0 dr_cX17_step_68 rfl ?_
    refine Gp_get 28 hm565861 he565862 dr_cX17_step_69 (gk_X17 D I) (Nat.le_of_ble_eq_true rfl) wr_7_102 rfl ?_
    have hm565950 : q565863 ∈ P565856 := RS_m hT ht565880 (by decide)
    obtain ⟨n565953, f565952, he565951, hn565953⟩ := show rk_26 I (F565857 q565863) from RS_o hT ht565880
    refine Gp_alen (Int32.ofNat n565953) 0 hm565950 he565951 dr_cX17_step_72 rfl rfl (G_nam fun z565954 hz565954 => ?_)
    have ez565954 : z565954.toInt = (n565953 : Nat) := gI_ofM hz565954 (by omega)
    have bz565954 : gB z565954 0 16777216 := ⟨by omega, by omega⟩
    refine G_icmp_ge 88 dr_cX17_step_73 (by decide +kernel) (fun hc565955 => ?_) (fun hc565955 => ?_)
    · have r565956 : z565954.toInt ≤ p565875.toInt := gC_le hc565955
      have bz565954' : gB z565954 0 2048 := ⟨by omega, by omega⟩
      refine G_iconst 0 dr_cX17_step_88 (by decide +kernel) ?_
      have hm565957 : (γ 9 20) ∈ P565856 := RS_m hT ht565896 (by decide)
      obtain ⟨f565959, he565958⟩ := show rk_22 I (F565857 (γ 9 20)) from RS_o hT ht565896
      refine Gp_iast 0 hm565957 he565958 dr_cX17_step_89 rfl (gB_in bp565915 (by decide) (by decide)) (fun F565960 e565961 n565962 => ?_)
      obtain ⟨f565963, hf565963⟩ : ∃ z, z = upd f565959 p565915.toNatClampNeg 0 := ⟨_, rfl⟩
      rw [← hf565963] at e565961
      have he565964 : F565960 q565858 = .inr (22, [.ref (γ 9 0), .ref (γ 9 1), .ref (γ 9 2), .ref (γ 9 3), .ref (γ 9 4), .ref (γ 9 5), .ref (γ 9 6), .ref (γ 9 7), .ref (γ 9 8), .int p565865, .int p565866, .int p565867, .int p565868, .int p565869, .int p565870, .ref (γ 9 15), .ref (γ 9 16), .ref (γ 9 17), .ref (γ 9 18), .ref (γ 9 19), .ref (γ 9 20), .ref (γ 9 21), .ref (γ 9 22), .int p565871, .int p565872, .int p565873, .int p565874, .int p565875, .ref q565863, .ref (γ 9 29), .int p565876, .ref (γ 9 31), .int p565877, .int p565878, .int p565879, .ref q565864]) := (n565962 q565858 (rn_oa he565862 he565958)).trans he565862
      have he565965 : F565960 q565859 = .inr (20, [.int p565914, .int p565915, .int p565916, .int p565917, .int p565918, .int p565919, .int p565920]) := (n565962 q565859 (rn_oa he565913 he565958)).trans he565913
      have he565966 : F565960 q565863 = .inl (I .int, n565953, .inl f565952) := (n565962 q565863 (rn_ty ht565880 ht565896 (by decide))).trans he565951
      have he565967 : F565960 (γ 9 20) = .inl (I .int, 2000, .inl f565963) := e565961
      have hs565968 : rStr γ [] F565857 F565960 := rStr_put (rStr_rf (γ := γ) (W := []) (F := F565857)) n565962 ht565896 (by decide)
      refine G_aload_n 0 dr_cX17_step_90 rfl ?_
      refine G_aload_n 0 dr_cX17_step_91 rfl ?_
      refine Gp_get 27 hm565861 he565964 dr_cX17_step_92 (gk_X17 D I) (Nat.le_of_ble_eq_true rfl) wr_7_101 rfl ?_
      refine G_iconst 1 dr_cX17_step_95 (by decide +kernel) ?_
      refine G_iadd dr_cX17_step_96 (G_nam fun z565969 hz565969 => ?_)
      have ez565969 : z565969.toInt = p565875.toInt + 1 := by rw [gI_add hz565969 bp565875 (gBl (show Int32.toInt 1 = 1 by decide)) (by decide) (by decide), show Int32.toInt 1 = 1 from by decide]
      have bz565969 : gB z565969 1 2049 := gB_add (gI_add hz565969 bp565875 (gBl (show Int32.toInt 1 = 1 by decide)) (by decide) (by decide)) bp565875 (gBl (show Int32.toInt 1 = 1 by decide)) (by decide) (by decide)
      refine G_aload_n 0 dr_cX17_step_97 rfl ?_
      refine Gp_get 28 hm565861 he565964 dr_cX17_step_98 (gk_X17 D I) (Nat.le_of_ble_eq_true rfl) wr_7_102 rfl ?_
      refine Gp_alen (Int32.ofNat n565953) 0 hm565950 he565966 dr_cX17_step_101 rfl rfl (G_nam fun z565970 hz565970 => ?_)
      have ez565970 : z565970.toInt = (n565953 : Nat) := gI_ofM hz565970 (by omega)
      have bz565970 : gB z565970 0 16777216 := ⟨by omega, by omega⟩
      refine G_mmin dr_cX17_step_102 wr_11_16 wr_3_227 wr_1_6 wr_3_228 (Nat.le_of_ble_eq_true rfl) (Nat.le_of_ble_eq_true rfl) (show 0 ≤ 0 by first | omega | decide) (show 0 ≤ 0 by first | omega | decide) (G_nam fun z565971 hz565971 => ?_)
      have ez565971 : z565969.toInt ≥ z565971.toInt ∧ z565970.toInt ≥ z565971.toInt ∧ (z565971.toInt = z565969.toInt ∨ z565971.toInt = z565970.toInt) := by have := gI_min hz565971; omega
      have bz565971 : gB z565971 0 2049 := ⟨by omega, by omega⟩
      have hT565972 : RS D I P565856 F565960 γ el := RS_set hT n565962 ht565896 (by decide) ⟨f565963, he565967⟩
      refine Gp_put 27 hm565861 he565964 dr_cX17_step_105 (gk_X17 D I) (Nat.le_of_ble_eq_true rfl) wr_7_101 rfl rfl rfl (Nat.le_of_ble_eq_true rfl) (fun F565973 e565974 n565975 => ?_)
      have he565976 : F565973 q565859 = .inr (20, [.int p565914, .int p565915, .int p565916, .int p565917, .int p565918, .int p565919, .int p565920]) := (n565975 q565859 (rn_oo he565965 he565964 (by decide))).trans he565965
      have he565977 : F565973 q565863 = .inl (I .int, n565953, .inl f565952) := (n565975 q565863 (rn_ao he565966 he565964)).trans he565966
      have he565978 : F565973 (γ 9 20) = .inl (I .int, 2000, .inl f565963) := (n565975 (γ 9 20) (rn_ao he565967 he565964)).trans he565967
      have he565979 : F565973 q565858 = .inr (22, [.ref (γ 9 0), .ref (γ 9 1), .ref (γ 9 2), .ref (γ 9 3), .ref (γ 9 4), .ref (γ 9 5), .ref (γ 9 6), .ref (γ 9 7), .ref (γ 9 8), .int p565865, .int p565866, .int p565867, .int p565868, .int p565869, .int p565870, .ref (γ 9 15), .ref (γ 9 16), .ref (γ 9 17), .ref (γ 9 18), .ref (γ 9 19), .ref (γ 9 20), .ref (γ 9 21), .ref (γ 9 22), .int p565871, .int p565872, .int p565873, .int p565874, .int z565971, .ref q565863, .ref (γ 9 29), .int p565876, .ref (γ 9 31), .int p565877, .int p565878, .int p565879, .ref q565864]) := e565974
      have hs565980 : rStr γ [] F565857 F565973 := rStr_put hs565968 n565975 htq565858 (by decide)
      refine G_iconst (-1) dr_cX17_step_108 (by decide +kernel) ?_
      have hT565981 : RS D I P565856 F565973 γ el := RS_set hT565972 n565975 htq565858 (by decide) ⟨q565863, q565864, p565865, p565866, p565867, p565868, p565869, p565870, p565871, p565872, p565873, p565874, z565971, p565876, p565877, p565878, p565879, he565979, ⟨bp565865, bp565866, (hB565906.2.2.1), (hB565906.2.2.2.1), (hB565906.2.2.2.2.1), bp565874, ⟨by omega, by omega⟩, bp565877, (hB565906.2.2.2.2.2.2.2.2)⟩, ht565880, ht565881, ht565882, ht565883, ht565884, ht565885, ht565886, ht565887, ht565888, ht565889, ht565890, ht565891, ht565892, ht565893, ht565894, ht565895, ht565896, ht565897, ht565898, ht565899, ht565900, ht565901, ht565902, ht565903, hB565907⟩
      have ac565982 : (fI (F565973 q565858) 26).toInt = p565874.toInt := by rw [he565979]; rfl
      have ac565983 : (fI (F565973 q565858) 9).toInt = p565865.toInt := by rw [he565979]; rfl
      have ac565984 : (fI (F565973 q565858) 10).toInt = p565866.toInt := by rw [he565979]; rfl
      have ac565985 : (fI (F565973 q565858) 32).toInt = p565877.toInt := by rw [he565979]; rfl
      exact G_iretA dr_cX17_step_109 rfl (Nat.le_of_ble_eq_true rfl) (Nat.le_of_ble_eq_true rfl) ⟨F565973, (-1), rfl, rfl, hT565981, hs565980, (Nat.le_of_ble_eq_true rfl), (Nat.le_of_ble_eq_true rfl), (gB_w (gBl (show Int32.toInt (-1) = (-1) by decide)) (by decide) (by decide)), (by have qa0 : Int32.toInt (-1) = (-1) := (by decide); omega), (by have qa0 : Int32.toInt (-1) = (-1) := (by decide); omega), (by have qa0 : Int32.toInt (-1) = (-1) := (by decide); omega), (by have qa0 : Int32.toInt (-1) = (-1) := (by decide); omega)⟩
    · have r565986 : p565875.toInt < z565954.toInt := gC_nle hc565955
      have bz565954' : gB z565954 1 16777216 := ⟨by omega, by omega⟩
      refine G_aload_n 0 dr_cX17_step_76 rfl ?_
      refine Gp_get 28 hm565861 he565862 dr_cX17_step_77 (gk_X17 D I) (Nat.le_of_ble_eq_true rfl) wr_7_102 rfl ?_
      refine G_aload_n 0 dr_cX17_step_80 rfl ?_
      refine Gp_get 27 hm565861 he565862 dr_cX17_step_81 (gk_X17 D I) (Nat.le_of_ble_eq_true rfl) wr_7_101 rfl ?_
      refine Gp_iald 0 hm565950 he565951 dr_cX17_step_84 rfl (gB_inr (by omega) (by omega)) (G_nam fun z565987 hz565987 => ?_)
      have bz565987 : gB z565987 (-2147483648) 2147483647 := gB_any z565987
      refine G_goto 89 dr_cX17_step_85 (by decide +kernel) ?_
      have hm565988 : (γ 9 20) ∈ P565856 := RS_m hT ht565896 (by decide)
      obtain ⟨f565990, he565989⟩ := show rk_22 I (F565857 (γ 9 20)) from RS_o hT ht565896
      refine Gp_iast 0 hm565988 he565989 dr_cX17_step_89 rfl (gB_in bp565915 (by decide) (by decide)) (fun F565991 e565992 n565993 => ?_)
      obtain ⟨f565994, hf565994⟩ : ∃ z, z = upd f565990 p565915.toNatClampNeg z565987 := ⟨_, rfl⟩
      rw [← hf565994] at e565992
      have he565995 : F565991 q565858 = .inr (22, [.ref (γ 9 0), .ref (γ 9 1), .ref (γ 9 2), .ref (γ 9 3), .ref (γ 9 4), .ref (γ 9 5), .ref (γ 9 6), .ref (γ 9 7), .ref (γ 9 8), .int p565865, .int p565866, .int p565867, .int p565868, .int p565869, .int p565870, .ref (γ 9 15), .ref (γ 9 16), .ref (γ 9 17), .ref (γ 9 18), .ref (γ 9 19), .ref (γ 9 20), .ref (γ 9 21), .ref (γ 9 22), .int p565871, .int p565872, .int p565873, .int p565874, .int p565875, .ref q565863, .ref (γ 9 29), .int p565876, .ref (γ 9 31), .int p565877, .int p565878, .int p565879, .ref q565864]) := (n565993 q565858 (rn_oa he565862 he565989)).trans he565862
      have he565996 : F565991 q565859 = .inr (20, [.int p565914, .int p565915, .int p565916, .int p565917, .int p565918, .int p565919, .int p565920]) := (n565993 q565859 (rn_oa he565913 he565989)).trans he565913
      have he565997 : F565991 q565863 = .inl (I .int, n565953, .inl f565952) := (n565993 q565863 (rn_ty ht565880 ht565896 (by decide))).trans he565951
      have he565998 : F565991 (γ 9 20) = .inl (I .int, 2000, .inl f565994) := e565992
      have hs565999 : rStr γ [] F565857 F565991 := rStr_put (rStr_rf (γ := γ) (W := []) (F := F565857)) n565993 ht565896 (by decide)
      refine G_aload_n 0 dr_cX17_step_90 rfl ?_
      refine G_aload_n 0 dr_cX17_step_91 rfl ?_
      refine Gp_get 27 hm565861 he565995 dr_cX17_step_92 (gk_X17 D I) (Nat.le_of_ble_eq_true rfl) wr_7_101 rfl ?_
      refine G_iconst 1 dr_cX17_step_95 (by decide +kernel) ?_
      refine G_iadd dr_cX17_step_96 (G_nam fun z566000 hz566000 => ?_)
      have ez566000 : z566000.toInt = p565875.toInt + 1 := by rw [gI_add hz566000 bp565875 (gBl (show Int32.toInt 1 = 1 by decide)) (by decide) (by decide), show Int32.toInt 1 = 1 from by decide]
      have bz566000 : gB z566000 1 2049 := gB_add (gI_add hz566000 bp565875 (gBl (show Int32.toInt 1 = 1 by decide)) (by decide) (by decide)) bp565875 (gBl (show Int32.toInt 1 = 1 by decide)) (by decide) (by decide)
      refine G_aload_n 0 dr_cX17_step_97 rfl ?_
      refine Gp_get 28 hm565861 he565995 dr_cX17_step_98 (gk_X17 D I) (Nat.le_of_ble_eq_true rfl) wr_7_102 rfl ?_
      refine Gp_alen (Int32.ofNat n565953) 0 hm565950 he565997 dr_cX17_step_101 rfl rfl (G_nam fun z566001 hz566001 => ?_)
      have ez566001 : z566001.toInt = (n565953 : Nat) := gI_ofM hz566001 (by omega)
      have bz566001 : gB z566001 0 16777216 := ⟨by omega, by omega⟩
      refine G_mmin dr_cX17_step_102 wr_11_16 wr_3_227 wr_1_6 wr_3_228 (Nat.le_of_ble_eq_true rfl) (Nat.le_of_ble_eq_true rfl) (show 0 ≤ 0 by first | omega | decide) (show 0 ≤ 0 by first | omega | decide) (G_nam fun z566002 hz566002 => ?_)
      have ez566002 : z566000.toInt ≥ z566002.toInt ∧ z566001.toInt ≥ z566002.toInt ∧ (z566002.toInt = z566000.toInt ∨ z566002.toInt = z566001.toInt) := by have := gI_min hz566002; omega
      have bz566002 : gB z566002 0 2049 := ⟨by omega, by omega⟩
      have hT566003 : RS D I P565856 F565991 γ el := RS_set hT n565993 ht565896 (by decide) ⟨f565994, he565998⟩
      refine Gp_put 27 hm565861 he565995 dr_cX17_step_105 (gk_X17 D I) (Nat.le_of_ble_eq_true rfl) wr_7_101 rfl rfl rfl (Nat.le_of_ble_eq_true rfl) (fun F566004 e566005 n566006 => ?_)
      have he566007 : F566004 q565859 = .inr (20, [.int p565914, .int p565915, .int p565916, .int p565917, .int p565918, .int p565919, .int p565920]) := (n566006 q565859 (rn_oo he565996 he565995 (by decide))).trans he565996
      have he566008 : F566004 q565863 = .inl (I .int, n565953, .inl f565952) := (n566006 q565863 (rn_ao he565997 he565995)).trans he565997
      have he566009 : F566004 (γ 9 20) = .inl (I .int, 2000, .inl f565994) := (n566006 (γ 9 20) (rn_ao he565998 he565995)).trans he565998
      have he566010 : F566004 q565858 = .inr (22, [.ref (γ 9 0), .ref (γ 9 1), .ref (γ 9 2), .ref (γ 9 3), .ref (γ 9 4), .ref (γ 9 5), .ref (γ 9 6), .ref (γ 9 7), .ref (γ 9 8), .int p565865, .int p565866, .int p565867, .int p565868, .int p565869, .int p565870, .ref (γ 9 15), .ref (γ 9 16), .ref (γ 9 17), .ref (γ 9 18), .ref (γ 9 19), .ref (γ 9 20), .ref (γ 9 21), .ref (γ 9 22), .int p565871, .int p565872, .int p565873, .int p565874, .int z566002, .ref q565863, .ref (γ 9 29), .int p565876, .ref (γ 9 31), .int p565877, .int p565878, .int p565879, .ref q565864]) := e566005
      have hs566011 : rStr γ [] F565857 F566004 := rStr_put hs565999 n566006 htq565858 (by decide)
      refine G_iconst (-1) dr_cX17_step_108 (by decide +kernel) ?_
      have hT566012 : RS D I P565856 F566004 γ el := RS_set hT566003 n566006 htq565858 (by decide) ⟨q565863, q565864, p565865, p565866, p565867, p565868, p565869, p565870, p565871, p565872, p565873, p565874, z566002, p565876, p565877, p565878, p565879, he566010, ⟨bp565865, bp565866, (hB565906.2.2.1), (hB565906.2.2.2.1), (hB565906.2.2.2.2.1), bp565874, ⟨by omega, by omega⟩, bp565877, (hB565906.2.2.2.2.2.2.2.2)⟩, ht565880, ht565881, ht565882, ht565883, ht565884, ht565885, ht565886, ht565887, ht565888, ht565889, ht565890, ht565891, ht565892, ht565893, ht565894, ht565895, ht565896, ht565897, ht565898, ht565899, ht565900, ht565901, ht565902, ht565903, hB565907⟩
      have ac566013 : (fI (F566004 q565858) 26).toInt = p565874.toInt := by rw [he566010]; rfl
      have ac566014 : (fI (F566004 q565858) 9).toInt = p565865.toInt := by rw [he566010]; rfl
      have ac566015 : (fI (F566004 q565858) 10).toInt = p565866.toInt := by rw [he566010]; rfl
      have ac566016 : (fI (F566004 q565858) 32).toInt = p565877.toInt := by rw [he566010]; rfl
      exact G_iretA dr_cX17_step_109 rfl (Nat.le_of_ble_eq_true rfl) (Nat.le_of_ble_eq_true rfl) ⟨F566004, (-1), rfl, rfl, hT566012, hs566011, (Nat.le_of_ble_eq_true rfl), (Nat.le_of_ble_eq_true rfl), (gB_w (gBl (show Int32.toInt (-1) = (-1) by decide)) (by decide) (by decide)), (by have qa0 : Int32.toInt (-1) = (-1) := (by decide); omega), (by have qa0 : Int32.toInt (-1) = (-1) := (by decide); omega), (by have qa0 : Int32.toInt (-1) = (-1) := (by decide); omega), (by have qa0 : Int32.toInt (-1) = (-1) := (by decide); omega)⟩
  by_cases hs566017 : p565914 = 21
  · have ehs566017 : p565914.toInt = 21 := gj_eq hs566017 (show Int32.toInt 21 = 21 by decide)
    have bp565914' : gB p565914 21 21 := ⟨by omega, by omega⟩
    refine G_eqi (y := 21) hs566017 ?_
    refine G_lookup 155 dr_cX17_step_4 (by decide) (by first | rfl | decide) (by decide) ?_
    refine G_aload_n 0 dr_cX17_step_155 rfl ?_
    refine Gp_get 20 hm565861 he565862 dr_cX17_step_156 (gk_X17 D I) (Nat.le_of_ble_eq_true rfl) wr_7_94 rfl ?_
    refine G_aload_n 1 dr_cX17_step_159 rfl ?_
    refine Gp_get 1 hm565912 he565913 dr_cX17_step_160 (gk_X15 D I) (Nat.le_of_ble_eq_true rfl) wr_9_178 rfl ?_
    refine G_aload_n 0 dr_cX17_step_163 rfl ?_
    refine Gp_get 21 hm565861 he565862 dr_cX17_step_164 (gk_X17 D I) (Nat.le_of_ble_eq_true rfl) wr_7_95 rfl ?_
    refine G_aload_n 1 dr_cX17_step_167 rfl ?_
    refine Gp_get 4 hm565912 he565913 dr_cX17_step_168 (gk_X15 D I) (Nat.le_of_ble_eq_true rfl) wr_9_189 rfl ?_
    have hm566018 : (γ 9 21) ∈ P565856 := RS_m hT ht565897 (by decide)
    obtain ⟨f566020, he566019⟩ := show rk_23 I (F565857 (γ 9 21)) from RS_o hT ht565897
    refine Gp_iald 0 hm566018 he566019 dr_cX17_step_171 rfl (gB_in bp565918 (by decide) (by decide)) (G_nam fun z566021 hz566021 => ?_)
    have bz566021 : gB z566021 (-2147483648) 2147483647 := gB_any z566021
    have hm566022 : (γ 9 20) ∈ P565856 := RS_m hT ht565896 (by decide)
    obtain ⟨f566024, he566023⟩ := show rk_22 I (F565857 (γ 9 20)) from RS_o hT ht565896
    refine Gp_iast 0 hm566022 he566023 dr_cX17_step_172 rfl (gB_in bp565915 (by decide) (by decide)) (fun F566025 e566026 n566027 => ?_)
    obtain ⟨f566028, hf566028⟩ : ∃ z, z = upd f566024 p565915.toNatClampNeg z566021 := ⟨_, rfl⟩
    rw [← hf566028] at e566026
    have he566029 : F566025 q565858 = .inr (22, [.ref (γ 9 0), .ref (γ 9 1), .ref (γ 9 2), .ref (γ 9 3), .ref (γ 9 4), .ref (γ 9 5), .ref (γ 9 6), .ref (γ 9 7), .ref (γ 9 8), .int p565865, .int p565866, .int p565867, .int p565868, .int p565869, .int p565870, .ref (γ 9 15), .ref (γ 9 16), .ref (γ 9 17), .ref (γ 9 18), .ref (γ 9 19), .ref (γ 9 20), .ref (γ 9 21), .ref (γ 9 22), .int p565871, .int p565872, .int p565873, .int p565874, .int p565875, .ref q565863, .ref (γ 9 29), .int p565876, .ref (γ 9 31), .int p565877, .int p565878, .int p565879, .ref q565864]) := (n566027 q565858 (rn_oa he565862 he566023)).trans he565862
    have he566030 : F566025 q565859 = .inr (20, [.int p565914, .int p565915, .int p565916, .int p565917, .int p565918, .int p565919, .int p565920]) := (n566027 q565859 (rn_oa he565913 he566023)).trans he565913
    have he566031 : F566025 (γ 9 21) = .inl (I .int, 2000, .inl f566020) := (n566027 (γ 9 21) (rn_ty ht565897 ht565896 (by decide))).trans he566019
    have he566032 : F566025 (γ 9 20) = .inl (I .int, 2000, .inl f566028) := e566026
    have hs566033 : rStr γ [] F565857 F566025 := rStr_put (rStr_rf (γ := γ) (W := []) (F := F565857)) n566027 ht565896 (by decide)
    refine G_iconst (-1) dr_cX17_step_173 (by decide +kernel) ?_
    have hT566034 : RS D I P565856 F566025 γ el := RS_set hT n566027 ht565896 (by decide) ⟨f566028, he566032⟩
    have ac566035 : (fI (F566025 q565858) 26).toInt = p565874.toInt := by rw [he566029]; rfl
    have ac566036 : (fI (F566025 q565858) 9).toInt = p565865.toInt := by rw [he566029]; rfl
    have ac566037 : (fI (F566025 q565858) 10).toInt = p565866.toInt := by rw [he566029]; rfl
    have ac566038 : (fI (F566025 q565858) 32).toInt = p565877.toInt := by rw [he566029]; rfl
    exact G_iretA dr_cX17_step_174 rfl (Nat.le_of_ble_eq_true rfl) (Nat.le_of_ble_eq_true rfl) ⟨F566025, (-1), rfl, rfl, hT566034, hs566033, (Nat.le_of_ble_eq_true rfl), (Nat.le_of_ble_eq_true rfl), (gB_w (gBl (show Int32.toInt (-1) = (-1) by decide)) (by decide) (by decide)), (by have qa0 : Int32.toInt (-1) = (-1) := (by decide); omega), (by have qa0 : Int32.toInt (-1) = (-1) := (by decide); omega), (by have qa0 : Int32.toInt (-1) = (-1) := (by decide); omega), (by have qa0 : Int32.toInt (-1) = (-1) := (by decide); omega)⟩
  by_cases hs566039 : p565914 = 22
  · have ehs566039 : p565914.toInt = 22 := gj_eq hs566039 (show Int32.toInt 22 = 22 by decide)
    have bp565914' : gB p565914 22 22 := ⟨by omega, by omega⟩
    refine G_eqi (y := 22) hs566039 ?_
    refine G_lookup 110 dr_cX17_step_4 (by decide) (by first | rfl | decide) (by decide) ?_
    refine G_aload_n 0 dr_cX17_step_110 rfl ?_
    refine Gp_get 25 hm565861 he565862 dr_cX17_step_111 (gk_X17 D I) (Nat.le_of_ble_eq_true rfl) wr_7_99 rfl ?_
    have bp565873 : gB p565873 0 512 := (hB565906.2.2.2.2.1)
    refine G_sipush 512 dr_cX17_step_114 (by decide +kernel) ?_
    refine G_icmp_ne 122 dr_cX17_step_117 (by decide +kernel) (fun hc566040 => ?_) (fun hc566040 => ?_)
    · have r566041 : p565873.toInt ≠ 512 := gj_neq hc566040 (show Int32.toInt 512 = 512 by decide)
      have bp565873' : gB p565873 0 511 := ⟨by omega, by omega⟩
      refine G_aload_n 0 dr_cX17_step_122 rfl ?_
      refine Gp_get 22 hm565861 he565862 dr_cX17_step_123 (gk_X17 D I) (Nat.le_of_ble_eq_true rfl) wr_7_96 rfl ?_
      refine G_aload_n 0 dr_cX17_step_126 rfl ?_
      refine Gp_get 25 hm565861 he565862 dr_cX17_step_127 (gk_X17 D I) (Nat.le_of_ble_eq_true rfl) wr_7_99 rfl ?_
      refine G_aload_n 0 dr_cX17_step_130 rfl ?_
      refine G_aload_n 1 dr_cX17_step_131 rfl ?_
      refine Gp_get 5 hm565912 he565913 dr_cX17_step_132 (gk_X15 D I) (Nat.le_of_ble_eq_true rfl) wr_9_193 rfl ?_
      refine G_aload_n 1 dr_cX17_step_135 rfl ?_
      refine Gp_get 2 hm565912 he565913 dr_cX17_step_136 (gk_X15 D I) (Nat.le_of_ble_eq_true rfl) wr_9_182 rfl ?_
      refine Gw_callV (As := [.int p565919, .int p565916]) (gV_ok D I) (ct_7383_SpillForgeModel_value l hl0 D I γ el P565856 F565857 q565858 p565919 p565916 hT htq565858 bp565919 (by omega)) dr_cX17_step_139 ⟨wr_11_96, wr_1_14, wr_11_99, by decide, rfl, (Nat.le_of_ble_eq_true rfl), (Nat.le_of_ble_eq_true rfl)⟩ wr_11_98 wr_p_115 hm565861 he565862 rfl (show 0 + 0 ≤ 0 by first | omega | decide) (show 0 + 0 ≤ 0 by first | omega | decide) (Nat.le_of_ble_eq_true rfl) (fun r566045 w566046 dc566042 ds566043 hp566044 => ?_) (fun _ _ _ _ _ z => z.elim)
      obtain ⟨o566047, rfl, rfl, hdc, hds⟩ := hp566044
      have bo566047 := gB_any o566047
      change G _ _ _ _ _ _ _ (.int o566047 :: _) _ _ _
      refine G_widen (cs' := 0) (sl' := 0) (by omega) (by omega) ?_
      have hm566048 : (γ 9 22) ∈ P565856 := RS_m hT ht565898 (by decide)
      obtain ⟨f566050, he566049⟩ := show rk_24 I (F565857 (γ 9 22)) from RS_o hT ht565898
      refine Gp_iast 0 hm566048 he566049 dr_cX17_step_142 rfl (gB_in bp565873' (by decide) (by decide)) (fun F566051 e566052 n566053 => ?_)
      obtain ⟨f566054, hf566054⟩ : ∃ z, z = upd f566050 p565873.toNatClampNeg o566047 := ⟨_, rfl⟩
      rw [← hf566054] at e566052
      have he566055 : F566051 q565858 = .inr (22, [.ref (γ 9 0), .ref (γ 9 1), .ref (γ 9 2), .ref (γ 9 3), .ref (γ 9 4), .ref (γ 9 5), .ref (γ 9 6), .ref (γ 9 7), .ref (γ 9 8), .int p565865, .int p565866, .int p565867, .int p565868, .int p565869, .int p565870, .ref (γ 9 15), .ref (γ 9 16), .ref (γ 9 17), .ref (γ 9 18), .ref (γ 9 19), .ref (γ 9 20), .ref (γ 9 21), .ref (γ 9 22), .int p565871, .int p565872, .int p565873, .int p565874, .int p565875, .ref q565863, .ref (γ 9 29), .int p565876, .ref (γ 9 31), .int p565877, .int p565878, .int p565879, .ref q565864]) := (n566053 q565858 (rn_oa he565862 he566049)).trans he565862
      have he566056 : F566051 q565859 = .inr (20, [.int p565914, .int p565915, .int p565916, .int p565917, .int p565918, .int p565919, .int p565920]) := (n566053 q565859 (rn_oa he565913 he566049)).trans he565913
      have he566057 : F566051 (γ 9 22) = .inl (I .int, 512, .inl f566054) := e566052
      have hs566058 : rStr γ [] F565857 F566051 := rStr_put (rStr_rf (γ := γ) (W := []) (F := F565857)) n566053 ht565898 (by decide)
      refine G_aload_n 0 dr_cX17_step_143 rfl ?_
      refine G_dup dr_cX17_step_144 rfl ?_
      refine Gp_get 25 hm565861 he566055 dr_cX17_step_145 (gk_X17 D I) (Nat.le_of_ble_eq_true rfl) wr_7_99 rfl ?_
      refine G_iconst 1 dr_cX17_step_148 (by decide +kernel) ?_
      refine G_iadd dr_cX17_step_149 (G_nam fun z566059 hz566059 => ?_)
      have ez566059 : z566059.toInt = p565873.toInt + 1 := by rw [gI_add hz566059 bp565873' (gBl (show Int32.toInt 1 = 1 by decide)) (by decide) (by decide), show Int32.toInt 1 = 1 from by decide]
      have bz566059 : gB z566059 1 512 := gB_add (gI_add hz566059 bp565873' (gBl (show Int32.toInt 1 = 1 by decide)) (by decide) (by decide)) bp565873' (gBl (show Int32.toInt 1 = 1 by decide)) (by decide) (by decide)
      have hT566060 : RS D I P565856 F566051 γ el := RS_set hT n566053 ht565898 (by decide) ⟨f566054, he566057⟩
      refine Gp_put 25 hm565861 he566055 dr_cX17_step_150 (gk_X17 D I) (Nat.le_of_ble_eq_true rfl) wr_7_99 rfl rfl rfl (Nat.le_of_ble_eq_true rfl) (fun F566061 e566062 n566063 => ?_)
      have he566064 : F566061 q565859 = .inr (20, [.int p565914, .int p565915, .int p565916, .int p565917, .int p565918, .int p565919, .int p565920]) := (n566063 q565859 (rn_oo he566056 he566055 (by decide))).trans he566056
      have he566065 : F566061 (γ 9 22) = .inl (I .int, 512, .inl f566054) := (n566063 (γ 9 22) (rn_ao he566057 he566055)).trans he566057
      have he566066 : F566061 q565858 = .inr (22, [.ref (γ 9 0), .ref (γ 9 1), .ref (γ 9 2), .ref (γ 9 3), .ref (γ 9 4), .ref (γ 9 5), .ref (γ 9 6), .ref (γ 9 7), .ref (γ 9 8), .int p565865, .int p565866, .int p565867, .int p565868, .int p565869, .int p565870, .ref (γ 9 15), .ref (γ 9 16), .ref (γ 9 17), .ref (γ 9 18), .ref (γ 9 19), .ref (γ 9 20), .ref (γ 9 21), .ref (γ 9 22), .int p565871, .int p565872, .int z566059, .int p565874, .int p565875, .ref q565863, .ref (γ 9 29), .int p565876, .ref (γ 9 31), .int p565877, .int p565878, .int p565879, .ref q565864]) := e566062
      have hs566067 : rStr γ [] F565857 F566061 := rStr_put hs566058 n566063 htq565858 (by decide)
      refine G_iconst (-1) dr_cX17_step_153 (by decide +kernel) ?_
      have hT566068 : RS D I P565856 F566061 γ el := RS_set hT566060 n566063 htq565858 (by decide) ⟨q565863, q565864, p565865, p565866, p565867, p565868, p565869, p565870, p565871, p565872, z566059, p565874, p565875, p565876, p565877, p565878, p565879, he566066, ⟨bp565865, bp565866, (hB565906.2.2.1), (hB565906.2.2.2.1), (gB_w bz566059 (by decide) (by decide)), bp565874, (hB565906.2.2.2.2.2.2.1), bp565877, (hB565906.2.2.2.2.2.2.2.2)⟩, ht565880, ht565881, ht565882, ht565883, ht565884, ht565885, ht565886, ht565887, ht565888, ht565889, ht565890, ht565891, ht565892, ht565893, ht565894, ht565895, ht565896, ht565897, ht565898, ht565899, ht565900, ht565901, ht565902, ht565903, hB565907⟩
      have ac566069 : (fI (F566061 q565858) 26).toInt = p565874.toInt := by rw [he566066]; rfl
      have ac566070 : (fI (F566061 q565858) 9).toInt = p565865.toInt := by rw [he566066]; rfl
      have ac566071 : (fI (F566061 q565858) 10).toInt = p565866.toInt := by rw [he566066]; rfl
      have ac566072 : (fI (F566061 q565858) 32).toInt = p565877.toInt := by rw [he566066]; rfl
      exact G_iretA dr_cX17_step_154 rfl (Nat.le_of_ble_eq_true rfl) (Nat.le_of_ble_eq_true rfl) ⟨F566061, (-1), rfl, rfl, hT566068, hs566067, (Nat.le_of_ble_eq_true rfl), (Nat.le_of_ble_eq_true rfl), (gB_w (gBl (show Int32.toInt (-1) = (-1) by decide)) (by decide) (by decide)), (by have qa0 : Int32.toInt (-1) = (-1) := (by decide); omega), (by have qa0 : Int32.toInt (-1) = (-1) := (by decide); omega), (by have qa0 : Int32.toInt (-1) = (-1) := (by decide); omega), (by have qa0 : Int32.toInt (-1) = (-1) := (by decide); omega)⟩
    · have r566073 : p565873.toInt = 512 := gj_eq hc566040 (show Int32.toInt 512 = 512 by decide)
      have bp565873' : gB p565873 512 512 := ⟨by omega, by omega⟩
      refine G_iconst 5 dr_cX17_step_120 (by decide +kernel) ?_
      have ac566074 : (fI (F565857 q565858) 26).toInt = p565874.toInt := by rw [he565862]; rfl
      have ac566075 : (fI (F565857 q565858) 9).toInt = p565865.toInt := by rw [he565862]; rfl
      have ac566076 : (fI (F565857 q565858) 10).toInt = p565866.toInt := by rw [he565862]; rfl
      have ac566077 : (fI (F565857 q565858) 32).toInt = p565877.toInt := by rw [he565862]; rfl
      exact G_iretA dr_cX17_step_121 rfl (Nat.le_of_ble_eq_true rfl) (Nat.le_of_ble_eq_true rfl) ⟨F565857, 5, rfl, rfl, hT, (rStr_rf (γ := γ) (W := []) (F := F565857)), (Nat.le_of_ble_eq_true rfl), (Nat.le_of_ble_eq_true rfl), (gB_w (gBl (show Int32.toInt 5 = 5 by decide)) (by decide) (by decide)), (by have qa0 : Int32.toInt 5 = 5 := (by decide); omega), (by have qa0 : Int32.toInt 5 = 5 := (by decide); omega), (by have qa0 : Int32.toInt 5 = 5 := (by decide); omega), (by have qa0 : Int32.toInt 5 = 5 := (by decide); omega)⟩
  by_cases hs566078 : p565914 = 23
  · have ehs566078 : p565914.toInt = 23 := gj_eq hs566078 (show Int32.toInt 23 = 23 by decide)
    have bp565914' : gB p565914 23 23 := ⟨by omega, by omega⟩
    refine G_eqi (y := 23) hs566078 ?_
    refine G_lookup 175 dr_cX17_step_4 (by decide) (by first | rfl | decide) (by decide) ?_
    refine G_aload_n 0 dr_cX17_step_175 rfl ?_
    refine Gp_get 21 hm565861 he565862 dr_cX17_step_176 (gk_X17 D I) (Nat.le_of_ble_eq_true rfl) wr_7_95 rfl ?_
    refine G_aload_n 1 dr_cX17_step_179 rfl ?_
    refine Gp_get 4 hm565912 he565913 dr_cX17_step_180 (gk_X15 D I) (Nat.le_of_ble_eq_true rfl) wr_9_189 rfl ?_
    refine G_aload_n 0 dr_cX17_step_183 rfl ?_
    refine G_aload_n 1 dr_cX17_step_184 rfl ?_
    refine Gp_get 5 hm565912 he565913 dr_cX17_step_185 (gk_X15 D I) (Nat.le_of_ble_eq_true rfl) wr_9_193 rfl ?_
    refine G_aload_n 1 dr_cX17_step_188 rfl ?_
    refine Gp_get 2 hm565912 he565913 dr_cX17_step_189 (gk_X15 D I) (Nat.le_of_ble_eq_true rfl) wr_9_182 rfl ?_
    refine Gw_callV (As := [.int p565919, .int p565916]) (gV_ok D I) (ct_7383_SpillForgeModel_value l hl0 D I γ el P565856 F565857 q565858 p565919 p565916 hT htq565858 bp565919 (by omega)) dr_cX17_step_192 ⟨wr_11_96, wr_1_14, wr_11_99, by decide, rfl, (Nat.le_of_ble_eq_true rfl), (Nat.le_of_ble_eq_true rfl)⟩ wr_11_98 wr_p_115 hm565861 he565862 rfl (show 0 + 0 ≤ 0 by first | omega | decide) (show 0 + 0 ≤ 0 by first | omega | decide) (Nat.le_of_ble_eq_true rfl) (fun r566082 w566083 dc566079 ds566080 hp566081 => ?_) (fun _ _ _ _ _ z => z.elim)
    obtain ⟨o566084, rfl, rfl, hdc, hds⟩ := hp566081
    have bo566084 := gB_any o566084
    change G _ _ _ _ _ _ _ (.int o566084 :: _) _ _ _
    refine G_widen (cs' := 0) (sl' := 0) (by omega) (by omega) ?_
    have hm566085 : (γ 9 21) ∈ P565856 := RS_m hT ht565897 (by decide)
    obtain ⟨f566087, he566086⟩ := show rk_23 I (F565857 (γ 9 21)) from RS_o hT ht565897
    refine Gp_iast 0 hm566085 he566086 dr_cX17_step_195 rfl (gB_in bp565918 (by decide) (by decide)) (fun F566088 e566089 n566090 => ?_)
    obtain ⟨f566091, hf566091⟩ : ∃ z, z = upd f566087 p565918.toNatClampNeg o566084 := ⟨_, rfl⟩
    rw [← hf566091] at e566089
    have he566092 : F566088 q565858 = .inr (22, [.ref (γ 9 0), .ref (γ 9 1), .ref (γ 9 2), .ref (γ 9 3), .ref (γ 9 4), .ref (γ 9 5), .ref (γ 9 6), .ref (γ 9 7), .ref (γ 9 8), .int p565865, .int p565866, .int p565867, .int p565868, .int p565869, .int p565870, .ref (γ 9 15), .ref (γ 9 16), .ref (γ 9 17), .ref (γ 9 18), .ref (γ 9 19), .ref (γ 9 20), .ref (γ 9 21), .ref (γ 9 22), .int p565871, .int p565872, .int p565873, .int p565874, .int p565875, .ref q565863, .ref (γ 9 29), .int p565876, .ref (γ 9 31), .int p565877, .int p565878, .int p565879, .ref q565864]) := (n566090 q565858 (rn_oa he565862 he566086)).trans he565862
    have he566093 : F566088 q565859 = .inr (20, [.int p565914, .int p565915, .int p565916, .int p565917, .int p565918, .int p565919, .int p565920]) := (n566090 q565859 (rn_oa he565913 he566086)).trans he565913
    have he566094 : F566088 (γ 9 21) = .inl (I .int, 2000, .inl f566091) := e566089
    have hs566095 : rStr γ [] F565857 F566088 := rStr_put (rStr_rf (γ := γ) (W := []) (F := F565857)) n566090 ht565897 (by decide)
    refine G_iconst (-1) dr_cX17_step_196 (by decide +kernel) ?_
    have hT566096 : RS D I P565856 F566088 γ el := RS_set hT n566090 ht565897 (by decide) ⟨f566091, he566094⟩
    have ac566097 : (fI (F566088 q565858) 26).toInt = p565874.toInt := by rw [he566092]; rfl
    have ac566098 : (fI (F566088 q565858) 9).toInt = p565865.toInt := by rw [he566092]; rfl
    have ac566099 : (fI (F566088 q565858) 10).toInt = p565866.toInt := by rw [he566092]; rfl
    have ac566100 : (fI (F566088 q565858) 32).toInt = p565877.toInt := by rw [he566092]; rfl
    exact G_iretA dr_cX17_step_197 rfl (Nat.le_of_ble_eq_true rfl) (Nat.le_of_ble_eq_true rfl) ⟨F566088, (-1), rfl, rfl, hT566096, hs566095, (Nat.le_of_ble_eq_true rfl), (Nat.le_of_ble_eq_true rfl), (gB_w (gBl (show Int32.toInt (-1) = (-1) by decide)) (by decide) (by decide)), (by have qa0 : Int32.toInt (-1) = (-1) := (by decide); omega), (by have qa0 : Int32.toInt (-1) = (-1) := (by decide); omega), (by have qa0 : Int32.toInt (-1) = (-1) := (by decide); omega), (by have qa0 : Int32.toInt (-1) = (-1) := (by decide); omega)⟩
  have ehs565926 := lv_neT hs565926 (show Int32.toInt 0 = 0 by decide)
  have ehs565949 := lv_neT hs565949 (show Int32.toInt 20 = 20 by decide)
  have ehs566017 := lv_neT hs566017 (show Int32.toInt 21 = 21 by decide)
  have ehs566039 := lv_neT hs566039 (show Int32.toInt 22 = 22 by decide)
  have ehs566078 := lv_neT hs566078 (show Int32.toInt 23 = 23 by decide)
  refine G_lookup 221 dr_cX17_step_4 (by decide) (by show Op.lookupswitch.offset [(0, 194), (20, 52), (21, 151), (22, 106), (23, 171)] _ _ = 217; rw [lv_osw hs565926 (show Int32.toInt 0 = 0 by decide), lv_osw hs565949 (show Int32.toInt 20 = 20 by decide), lv_osw hs566017 (show Int32.toInt 21 = 21 by decide), lv_osw hs566039 (show Int32.toInt 22 = 22 by decide), lv_osw hs566078 (show Int32.toInt 23 = 23 by decide)]; first | done | rfl) (by decide) ?_
  refine G_aload_n 1 dr_cX17_step_221 rfl ?_
  refine Gp_get 0 hm565912 he565913 dr_cX17_step_222 (gk_X15 D I) (Nat.le_of_ble_eq_true rfl) wr_9_173 rfl ?_
  refine G_aload_n 0 dr_cX17_step_225 rfl ?_
  refine G_aload_n 1 dr_cX17_step_226 rfl ?_
  refine Gp_get 5 hm565912 he565913 dr_cX17_step_227 (gk_X15 D I) (Nat.le_of_ble_eq_true rfl) wr_9_193 rfl ?_
  refine G_aload_n 1 dr_cX17_step_230 rfl ?_
  refine Gp_get 2 hm565912 he565913 dr_cX17_step_231 (gk_X15 D I) (Nat.le_of_ble_eq_true rfl) wr_9_182 rfl ?_
  refine Gw_callV (As := [.int p565919, .int p565916]) (gV_ok D I) (ct_7383_SpillForgeModel_value l hl0 D I γ el P565856 F565857 q565858 p565919 p565916 hT htq565858 bp565919 (by omega)) dr_cX17_step_234 ⟨wr_11_96, wr_1_14, wr_11_99, by decide, rfl, (Nat.le_of_ble_eq_true rfl), (Nat.le_of_ble_eq_true rfl)⟩ wr_11_98 wr_p_115 hm565861 he565862 rfl (show 0 + 0 ≤ 0 by first | omega | decide) (show 0 + 0 ≤ 0 by first | omega | decide) (Nat.le_of_ble_eq_true rfl) (fun r566104 w566105 dc566101 ds566102 hp566103 => ?_) (fun _ _ _ _ _ z => z.elim)
  obtain ⟨o566106, rfl, rfl, hdc, hds⟩ := hp566103
  have bo566106 := gB_any o566106
  change G _ _ _ _ _ _ _ (.int o566106 :: _) _ _ _
  refine G_widen (cs' := 0) (sl' := 0) (by omega) (by omega) ?_
  refine G_aload_n 0 dr_cX17_step_237 rfl ?_
  refine G_aload_n 1 dr_cX17_step_238 rfl ?_
  refine Gp_get 6 hm565912 he565913 dr_cX17_step_239 (gk_X15 D I) (Nat.le_of_ble_eq_true rfl) wr_9_198 rfl ?_
  refine G_aload_n 1 dr_cX17_step_242 rfl ?_
  refine Gp_get 3 hm565912 he565913 dr_cX17_step_243 (gk_X15 D I) (Nat.le_of_ble_eq_true rfl) wr_9_186 rfl ?_
  refine Gw_callV (As := [.int p565920, .int p565917]) (gV_ok D I) (ct_7383_SpillForgeModel_value l hl0 D I γ el P565856 F565857 q565858 p565920 p565917 hT htq565858 bp565920 (by omega)) dr_cX17_step_246 ⟨wr_11_96, wr_1_14, wr_11_99, by decide, rfl, (Nat.le_of_ble_eq_true rfl), (Nat.le_of_ble_eq_true rfl)⟩ wr_11_98 wr_p_115 hm565861 he565862 rfl (show 0 + 0 ≤ 0 by first | omega | decide) (show 0 + 0 ≤ 0 by first | omega | decide) (Nat.le_of_ble_eq_true rfl) (fun r566110 w566111 dc566107 ds566108 hp566109 => ?_) (fun _ _ _ _ _ z => z.elim)
  obtain ⟨o566112, rfl, rfl, hdc, hds⟩ := hp566109
  have bo566112 := gB_any o566112
  change G _ _ _ _ _ _ _ (.int o566112 :: _) _ _ _
  refine G_widen (cs' := 0) (sl' := 0) (by omega) (by omega) ?_
  refine Gw_callS (As := [.int p565914, .int o566106, .int o566112]) (gV_ok D I) (cp_2019_SpillForgeModel_result l hl0 D I P565856 F565857 p565914 o566106 o566112 ) dr_cX17_step_249 ⟨wr_11_100, wr_1_14, wr_11_102, by decide, rfl, (Nat.le_of_ble_eq_true rfl), (Nat.le_of_ble_eq_true rfl)⟩ wr_11_101 (show 0 + 0 ≤ 0 by first | omega | decide) (show 0 + 0 ≤ 0 by first | omega | decide) (Nat.le_of_ble_eq_true rfl) (fun r566116 w566117 dc566113 ds566114 hp566115 => ?_) (fun _ _ _ _ _ z => z.elim)
  obtain ⟨ol566118, rfl, rfl, hdc, hds⟩ := hp566115
  change G _ _ _ _ _ _ _ (.long ol566118 :: _) _ _ _
  refine G_widen (cs' := 0) (sl' := 0) (by omega) (by omega) ?_
  refine G_lstore_n (L' := [(2, .long ol566118), (0, .ref q565858), (1, .ref q565859)]) dr_cX17_step_252 (Nat.le_of_ble_eq_true rfl) rfl ?_
  refine G_lload_n 0 dr_cX17_step_253 rfl ?_
  refine G_ldc2 4294967296 dr_cX17_step_254 wr_11_103 ?_
  refine G_lcmp dr_cX17_step_257 (G_nam fun z566119 hz566119 => ?_)
  have bz566119 : gB z566119 (-1) 1 := gB_cmp hz566119
  refine G_if_ne 263 dr_cX17_step_258 (by decide +kernel) (fun hc566120 => ?_) (fun hc566120 => ?_)
  · have r566121 : z566119.toInt ≠ 0 := gj_neq hc566120 (show Int32.toInt 0 = 0 by decide)
    have lhc566120 := gC_cmpN hz566119 hc566120
    refine G_aload_n 1 dr_cX17_step_263 rfl ?_
    refine Gp_get 20 hm565861 he565862 dr_cX17_step_264 (gk_X17 D I) (Nat.le_of_ble_eq_true rfl) wr_7_94 rfl ?_
    refine G_aload_n 2 dr_cX17_step_267 rfl ?_
    refine Gp_get 1 hm565912 he565913 dr_cX17_step_268 (gk_X15 D I) (Nat.le_of_ble_eq_true rfl) wr_9_178 rfl ?_
    refine G_lload_n 0 dr_cX17_step_271 rfl ?_
    refine G_l2i dr_cX17_step_272 (G_nam fun z566122 hz566122 => ?_)
    have bz566122 : gB z566122 (-2147483648) 2147483647 := gB_any z566122
    have hm566123 : (γ 9 20) ∈ P565856 := RS_m hT ht565896 (by decide)
    obtain ⟨f566125, he566124⟩ := show rk_22 I (F565857 (γ 9 20)) from RS_o hT ht565896
    refine Gp_iast 0 hm566123 he566124 dr_cX17_step_273 rfl (gB_in bp565915 (by decide) (by decide)) (fun F566126 e566127 n566128 => ?_)
    obtain ⟨f566129, hf566129⟩ : ∃ z, z = upd f566125 p565915.toNatClampNeg z566122 := ⟨_, rfl⟩
    rw [← hf566129] at e566127
    have he566130 : F566126 q565858 = .inr (22, [.ref (γ 9 0), .ref (γ 9 1), .ref (γ 9 2), .ref (γ 9 3), .ref (γ 9 4), .ref (γ 9 5), .ref (γ 9 6), .ref (γ 9 7), .ref (γ 9 8), .int p565865, .int p565866, .int p565867, .int p565868, .int p565869, .int p565870, .ref (γ 9 15), .ref (γ 9 16), .ref (γ 9 17), .ref (γ 9 18), .ref (γ 9 19), .ref (γ 9 20), .ref (γ 9 21), .ref (γ 9 22), .int p565871, .int p565872, .int p565873, .int p565874, .int p565875, .ref q565863, .ref (γ 9 29), .int p565876, .ref (γ 9 31), .int p565877, .int p565878, .int p565879, .ref q565864]) := (n566128 q565858 (rn_oa he565862 he566124)).trans he565862
    have he566131 : F566126 q565859 = .inr (20, [.int p565914, .int p565915, .int p565916, .int p565917, .int p565918, .int p565919, .int p565920]) := (n566128 q565859 (rn_oa he565913 he566124)).trans he565913
    have he566132 : F566126 (γ 9 20) = .inl (I .int, 2000, .inl f566129) := e566127
    have hs566133 : rStr γ [] F565857 F566126 := rStr_put (rStr_rf (γ := γ) (W := []) (F := F565857)) n566128 ht565896 (by decide)
    refine G_iconst (-1) dr_cX17_step_274 (by decide +kernel) ?_
    have hT566134 : RS D I P565856 F566126 γ el := RS_set hT n566128 ht565896 (by decide) ⟨f566129, he566132⟩
    have ac566135 : (fI (F566126 q565858) 26).toInt = p565874.toInt := by rw [he566130]; rfl
    have ac566136 : (fI (F566126 q565858) 9).toInt = p565865.toInt := by rw [he566130]; rfl
    have ac566137 : (fI (F566126 q565858) 10).toInt = p565866.toInt := by rw [he566130]; rfl
    have ac566138 : (fI (F566126 q565858) 32).toInt = p565877.toInt := by rw [he566130]; rfl
    exact G_iretA dr_cX17_step_275 rfl (Nat.le_of_ble_eq_true rfl) (Nat.le_of_ble_eq_true rfl) ⟨F566126, (-1), rfl, rfl, hT566134, hs566133, (Nat.le_of_ble_eq_true rfl), (Nat.le_of_ble_eq_true rfl), (gB_w (gBl (show Int32.toInt (-1) = (-1) by decide)) (by decide) (by decide)), (by have qa0 : Int32.toInt (-1) = (-1) := (by decide); omega), (by have qa0 : Int32.toInt (-1) = (-1) := (by decide); omega), (by have qa0 : Int32.toInt (-1) = (-1) := (by decide); omega), (by have qa0 : Int32.toInt (-1) = (-1) := (by decide); omega)⟩
  · have r566139 : z566119.toInt = 0 := gj_eq hc566120 (show Int32.toInt 0 = 0 by decide)
    have bz566119' : gB z566119 0 0 := ⟨by omega, by omega⟩
    have lhc566120 := gC_cmpE hz566119 hc566120
    refine G_iconst 1 dr_cX17_step_261 (by decide +kernel) ?_
    have ac566140 : (fI (F565857 q565858) 26).toInt = p565874.toInt := by rw [he565862]; rfl
    have ac566141 : (fI (F565857 q565858) 9).toInt = p565865.toInt := by rw [he565862]; rfl
    have ac566142 : (fI (F565857 q565858) 10).toInt = p565866.toInt := by rw [he565862]; rfl
    have ac566143 : (fI (F565857 q565858) 32).toInt = p565877.toInt := by rw [he565862]; rfl
    exact G_iretA dr_cX17_step_262 rfl (Nat.le_of_ble_eq_true rfl) (Nat.le_of_ble_eq_true rfl) ⟨F565857, 1, rfl, rfl, hT, (rStr_rf (γ := γ) (W := []) (F := F565857)), (Nat.le_of_ble_eq_true rfl), (Nat.le_of_ble_eq_true rfl), (gB_w (gBl (show Int32.toInt 1 = 1 by decide)) (by decide) (by decide)), (by have qa0 : Int32.toInt 1 = 1 := (by decide); omega), (by have qa0 : Int32.toInt 1 = 1 := (by decide); omega), (by have qa0 : Int32.toInt 1 = 1 := (by decide); omega), (by have qa0 : Int32.toInt 1 = 1 := (by decide); omega)⟩
