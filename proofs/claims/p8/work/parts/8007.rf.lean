abbrev ky_579831_SpillForgeModel_end : gKey := (cX17_end, 2, "SpillForgeModel", (some FieldType.int), [], "end", fun _ _ => True)
def pt_579831_SpillForgeModel_end (D : va_G) (I : FieldType → ClassId) (γ el : Nat → Nat → Nat) (P579827 : List Nat) (F579828 : Nat → va_E) (q579829 : Nat) (p579830 : Int32) : Option Value → va_W → Nat → Nat → Prop := fun r w dc ds => ∃ (F580052 : Nat → va_E) (o580051 : Int32), r = some (.int o580051) ∧ w = va_pl P579827 F580052 ∧ RS D I P579827 F580052 γ el ∧ rStr γ [] F579828 F580052 ∧ dc ≤ 0 ∧ ds ≤ 0 ∧ gB o580051 0 8192 ∧ ((0 ≤ p579830.toInt ∧ p579830.toInt ≤ (fI (F579828 q579829) 32).toInt ∧ o580051.toInt = p579830.toInt ∧ (fI (F580052 q579829) 32).toInt = p579830.toInt ∧ (fI (F580052 q579829) 30).toInt = 0) ∨ ((p579830.toInt < 0 ∨ (fI (F579828 q579829) 32).toInt < p579830.toInt) ∧ (fI (F580052 q579829) 30).toInt = 1 ∧ (fI (F580052 q579829) 32).toInt = (fI (F579828 q579829) 32).toInt)) ∧ (fI (F580052 q579829) 9).toInt = (fI (F579828 q579829) 9).toInt ∧ (fI (F580052 q579829) 10).toInt = (fI (F579828 q579829) 10).toInt
set_option maxRecDepth 100000 in
set_option maxHeartbeats 4000000 in
theorem ct_579831_SpillForgeModel_end (l : Launch) (hl0 : l.stackTraces = false) (D : va_G) (I : FieldType → ClassId) (γ el : Nat → Nat → Nat) (P579827 : List Nat) (F579828 : Nat → va_E) (q579829 : Nat) (p579830 : Int32) (hT : RS D I P579827 F579828 γ el) (htq579829 : rKd γ q579829 10) : CtA (gV D I) l yX17_end cX17_end 2 (some FieldType.int) 1 21 0 0 [.ref q579829, .int p579830] (va_pl P579827 F579828) (pt_579831_SpillForgeModel_end D I γ el P579827 F579828 q579829 p579830) gNA := by
  refine CtA_of hl0 (by decide) (Nat.le_of_ble_eq_true rfl) ?_
  have bp579830 := gB_any p579830
  have hm579832 : q579829 ∈ P579827 := RS_m hT htq579829 (by decide)
  refine rk10_e (show rk_10 γ (F579828 q579829) from RS_o hT htq579829) (fun q579834 q579835 p579836 p579837 p579838 p579839 p579840 p579841 p579842 p579843 p579844 p579845 p579846 p579847 p579848 p579849 p579850 he579833 hB579877 ht579851 ht579852 ht579853 ht579854 ht579855 ht579856 ht579857 ht579858 ht579859 ht579860 ht579861 ht579862 ht579863 ht579864 ht579865 ht579866 ht579867 ht579868 ht579869 ht579870 ht579871 ht579872 ht579873 ht579874 hB579878 => ?_)
  have ac579879 : (fI (F579828 q579829) 9).toInt = p579836.toInt := by rw [he579833]; rfl
  have bp579836 : gB p579836 0 1 := (hB579877.1)
  have ac579880 : (fI (F579828 q579829) 10).toInt = p579837.toInt := by rw [he579833]; rfl
  have bp579837 : gB p579837 0 1 := (hB579877.2.1)
  have ac579881 : (fI (F579828 q579829) 32).toInt = p579848.toInt := by rw [he579833]; rfl
  have bp579848 : gB p579848 0 8192 := (hB579877.2.2.2.2.2.2.2.1)
  have ac579882 : (fI (F579828 q579829) 30).toInt = p579847.toInt := by rw [he579833]; rfl
  have bp579847 : gB p579847 (-2147483648) 2147483647 := (gB_any p579847)
  refine G_aload_n 0 dr_cX17_end_0 rfl ?_
  refine G_iconst 0 dr_cX17_end_1 (by decide +kernel) ?_
  refine Gp_put 30 hm579832 he579833 dr_cX17_end_2 (gk_X17 D I) (Nat.le_of_ble_eq_true rfl) wr_7_104 rfl rfl rfl (Nat.le_of_ble_eq_true rfl) (fun F579883 e579884 n579885 => ?_)
  have he579886 : F579883 q579829 = .inr (22, [.ref (γ 9 0), .ref (γ 9 1), .ref (γ 9 2), .ref (γ 9 3), .ref (γ 9 4), .ref (γ 9 5), .ref (γ 9 6), .ref (γ 9 7), .ref (γ 9 8), .int p579836, .int p579837, .int p579838, .int p579839, .int p579840, .int p579841, .ref (γ 9 15), .ref (γ 9 16), .ref (γ 9 17), .ref (γ 9 18), .ref (γ 9 19), .ref (γ 9 20), .ref (γ 9 21), .ref (γ 9 22), .int p579842, .int p579843, .int p579844, .int p579845, .int p579846, .ref q579834, .ref (γ 9 29), .int 0, .ref (γ 9 31), .int p579848, .int p579849, .int p579850, .ref q579835]) := e579884
  have hs579887 : rStr γ [] F579828 F579883 := rStr_put (rStr_rf (γ := γ) (W := []) (F := F579828)) n579885 htq579829 (by decide)
  refine G_iload_n 1 dr_cX17_end_5 rfl ?_
  refine G_if_lt 17 dr_cX17_end_6 (by decide +kernel) (fun hc579888 => ?_) (fun hc579888 => ?_)
  · have r579889 : p579830.toInt < 0 := gj_lt hc579888 (show Int32.toInt 0 = 0 by decide)
    have bp579830' : gB p579830 (-2147483648) (-1) := ⟨by omega, by omega⟩
    refine G_aload_n 0 dr_cX17_end_17 rfl ?_
    refine G_iconst 1 dr_cX17_end_18 (by decide +kernel) ?_
    have hT579890 : RS D I P579827 F579883 γ el := RS_set hT n579885 htq579829 (by decide) ⟨q579834, q579835, p579836, p579837, p579838, p579839, p579840, p579841, p579842, p579843, p579844, p579845, p579846, 0, p579848, p579849, p579850, he579886, ⟨bp579836, bp579837, (hB579877.2.2.1), (hB579877.2.2.2.1), (hB579877.2.2.2.2.1), (hB579877.2.2.2.2.2.1), (hB579877.2.2.2.2.2.2.1), bp579848, (hB579877.2.2.2.2.2.2.2.2)⟩, ht579851, ht579852, ht579853, ht579854, ht579855, ht579856, ht579857, ht579858, ht579859, ht579860, ht579861, ht579862, ht579863, ht579864, ht579865, ht579866, ht579867, ht579868, ht579869, ht579870, ht579871, ht579872, ht579873, ht579874, hB579878⟩
    have ac579891 : (fI (F579883 q579829) 9).toInt = p579836.toInt := by rw [he579886]; rfl
    have ac579892 : (fI (F579883 q579829) 10).toInt = p579837.toInt := by rw [he579886]; rfl
    have ac579893 : (fI (F579883 q579829) 32).toInt = p579848.toInt := by rw [he579886]; rfl
    have ac579894 : (fI (F579883 q579829) 30).toInt = 0 := by rw [he579886]; show Int32.toInt 0 = 0; decide
    refine Gw_callV (As := [.int 1]) (gV_ok D I) (ct_578426_SpillForgeModel_no l hl0 D I γ el P579827 F579883 q579829 1 hT579890 htq579829) dr_cX17_end_19 ⟨wr_7_191, wr_1_14, wr_7_194, by decide, rfl, (Nat.le_of_ble_eq_true rfl), (Nat.le_of_ble_eq_true rfl)⟩ wr_7_193 wr_p_73 hm579832 he579886 rfl (show 0 + 0 ≤ 0 by first | omega | decide) (show 0 + 0 ≤ 0 by first | omega | decide) (Nat.le_of_ble_eq_true rfl) (fun r579898 w579899 dc579895 ds579896 hp579897 => ?_) (fun _ _ _ _ _ z => z.elim)
    obtain ⟨F579904, rfl, rfl, hT579905, hs579906, hdc, hds, x579900, x579901, x579902, x579903⟩ := hp579897
    have hs579907 : rStr γ [] F579828 F579904 := rStr_tr hs579887 hs579906
    rw [show Int32.toInt 1 = 1 from by decide] at x579903
    change G _ _ _ _ _ _ _ (.int 0 :: _) _ _ _
    refine G_widen (cs' := 0) (sl' := 0) (by omega) (by omega) ?_
    have hm579908 : q579829 ∈ P579827 := RS_m hT579905 htq579829 (by decide)
    refine rk10_e (show rk_10 γ (F579904 q579829) from RS_o hT579905 htq579829) (fun q579910 q579911 p579912 p579913 p579914 p579915 p579916 p579917 p579918 p579919 p579920 p579921 p579922 p579923 p579924 p579925 p579926 he579909 hB579953 ht579927 ht579928 ht579929 ht579930 ht579931 ht579932 ht579933 ht579934 ht579935 ht579936 ht579937 ht579938 ht579939 ht579940 ht579941 ht579942 ht579943 ht579944 ht579945 ht579946 ht579947 ht579948 ht579949 ht579950 hB579954 => ?_)
    have ac579955 : (fI (F579904 q579829) 9).toInt = p579912.toInt := by rw [he579909]; rfl
    have bp579912 : gB p579912 0 1 := (hB579953.1)
    have ac579956 : (fI (F579904 q579829) 10).toInt = p579913.toInt := by rw [he579909]; rfl
    have bp579913 : gB p579913 0 1 := (hB579953.2.1)
    have ac579957 : (fI (F579904 q579829) 32).toInt = p579924.toInt := by rw [he579909]; rfl
    have bp579924 : gB p579924 0 8192 := (hB579953.2.2.2.2.2.2.2.1)
    have ac579958 : (fI (F579904 q579829) 30).toInt = p579923.toInt := by rw [he579909]; rfl
    have bp579923 : gB p579923 (-2147483648) 2147483647 := (gB_any p579923)
    have ac579959 : (fI (F579904 q579829) 9).toInt = p579912.toInt := by rw [he579909]; rfl
    have ac579960 : (fI (F579904 q579829) 10).toInt = p579913.toInt := by rw [he579909]; rfl
    have ac579961 : (fI (F579904 q579829) 32).toInt = p579924.toInt := by rw [he579909]; rfl
    have ac579962 : (fI (F579904 q579829) 30).toInt = p579923.toInt := by rw [he579909]; rfl
    exact G_iretA dr_cX17_end_22 rfl (Nat.le_of_ble_eq_true rfl) (Nat.le_of_ble_eq_true rfl) ⟨F579904, 0, rfl, rfl, hT579905, hs579907, (Nat.le_of_ble_eq_true rfl), (Nat.le_of_ble_eq_true rfl), (gB_w (gBl (show Int32.toInt 0 = 0 by decide)) (by decide) (by decide)), (by have qa0 : Int32.toInt 0 = 0 := (by decide); omega), (by have qa0 : Int32.toInt 0 = 0 := (by decide); omega), (by have qa0 : Int32.toInt 0 = 0 := (by decide); omega)⟩
  · have r579963 : 0 ≤ p579830.toInt := gj_nlt hc579888 (show Int32.toInt 0 = 0 by decide)
    have bp579830' : gB p579830 0 2147483647 := ⟨by omega, by omega⟩
    refine G_iload_n 1 dr_cX17_end_9 rfl ?_
    refine G_aload_n 0 dr_cX17_end_10 rfl ?_
    refine Gp_get 32 hm579832 he579886 dr_cX17_end_11 (gk_X17 D I) (Nat.le_of_ble_eq_true rfl) wr_7_106 rfl ?_
    refine G_icmp_le 23 dr_cX17_end_14 (by decide +kernel) (fun hc579964 => ?_) (fun hc579964 => ?_)
    · have r579965 : p579830.toInt ≤ p579848.toInt := gC_le hc579964
      have bp579830'' : gB p579830 0 8192 := ⟨by omega, by omega⟩
      refine G_aload_n 0 dr_cX17_end_23 rfl ?_
      refine G_iload_n 1 dr_cX17_end_24 rfl ?_
      refine Gp_put 32 hm579832 he579886 dr_cX17_end_25 (gk_X17 D I) (Nat.le_of_ble_eq_true rfl) wr_7_106 rfl rfl rfl (Nat.le_of_ble_eq_true rfl) (fun F579966 e579967 n579968 => ?_)
      have he579969 : F579966 q579829 = .inr (22, [.ref (γ 9 0), .ref (γ 9 1), .ref (γ 9 2), .ref (γ 9 3), .ref (γ 9 4), .ref (γ 9 5), .ref (γ 9 6), .ref (γ 9 7), .ref (γ 9 8), .int p579836, .int p579837, .int p579838, .int p579839, .int p579840, .int p579841, .ref (γ 9 15), .ref (γ 9 16), .ref (γ 9 17), .ref (γ 9 18), .ref (γ 9 19), .ref (γ 9 20), .ref (γ 9 21), .ref (γ 9 22), .int p579842, .int p579843, .int p579844, .int p579845, .int p579846, .ref q579834, .ref (γ 9 29), .int 0, .ref (γ 9 31), .int p579830, .int p579849, .int p579850, .ref q579835]) := e579967
      have hs579970 : rStr γ [] F579828 F579966 := rStr_put hs579887 n579968 htq579829 (by decide)
      have n579971 : ∀ b, b ≠ q579829 → F579966 b = F579828 b := fun b hb => (n579968 b hb).trans (n579885 b hb)
      refine G_iload_n 1 dr_cX17_end_28 rfl ?_
      have hT579972 : RS D I P579827 F579966 γ el := RS_set hT n579971 htq579829 (by decide) ⟨q579834, q579835, p579836, p579837, p579838, p579839, p579840, p579841, p579842, p579843, p579844, p579845, p579846, 0, p579830, p579849, p579850, he579969, ⟨bp579836, bp579837, (hB579877.2.2.1), (hB579877.2.2.2.1), (hB579877.2.2.2.2.1), (hB579877.2.2.2.2.2.1), (hB579877.2.2.2.2.2.2.1), bp579830'', (hB579877.2.2.2.2.2.2.2.2)⟩, ht579851, ht579852, ht579853, ht579854, ht579855, ht579856, ht579857, ht579858, ht579859, ht579860, ht579861, ht579862, ht579863, ht579864, ht579865, ht579866, ht579867, ht579868, ht579869, ht579870, ht579871, ht579872, ht579873, ht579874, hB579878⟩
      have ac579973 : (fI (F579966 q579829) 9).toInt = p579836.toInt := by rw [he579969]; rfl
      have ac579974 : (fI (F579966 q579829) 10).toInt = p579837.toInt := by rw [he579969]; rfl
      have ac579975 : (fI (F579966 q579829) 32).toInt = p579830.toInt := by rw [he579969]; rfl
      have ac579976 : (fI (F579966 q579829) 30).toInt = 0 := by rw [he579969]; show Int32.toInt 0 = 0; decide
      exact G_iretA dr_cX17_end_29 rfl (Nat.le_of_ble_eq_true rfl) (Nat.le_of_ble_eq_true rfl) ⟨F579966, p579830, rfl, rfl, hT579972, hs579970, (Nat.le_of_ble_eq_true rfl), (Nat.le_of_ble_eq_true rfl), bp579830'', (by omega), (by omega), (by omega)⟩
    · have r579977 : p579848.toInt < p579830.toInt := gC_nle hc579964
      have bp579830'' : gB p579830 1 2147483647 := ⟨by omega, by omega⟩
      refine G_aload_n 0 dr_cX17_end_17 rfl ?_
      refine G_iconst 1 dr_cX17_end_18 (by decide +kernel) ?_
      have hT579978 : RS D I P579827 F579883 γ el := RS_set hT n579885 htq579829 (by decide) ⟨q579834, q579835, p579836, p579837, p579838, p579839, p579840, p579841, p579842, p579843, p579844, p579845, p579846, 0, p579848, p579849, p579850, he579886, ⟨bp579836, bp579837, (hB579877.2.2.1), (hB579877.2.2.2.1), (hB579877.2.2.2.2.1), (hB579877.2.2.2.2.2.1), (hB579877.2.2.2.2.2.2.1), bp579848, (hB579877.2.2.2.2.2.2.2.2)⟩, ht579851, ht579852, ht579853, ht579854, ht579855, ht579856, ht579857, ht579858, ht579859, ht579860, ht579861, ht579862, ht579863, ht579864, ht579865, ht579866, ht579867, ht579868, ht579869, ht579870, ht579871, ht579872, ht579873, ht579874, hB579878⟩
      have ac579979 : (fI (F579883 q579829) 9).toInt = p579836.toInt := by rw [he579886]; rfl
      have ac579980 : (fI (F579883 q579829) 10).toInt = p579837.toInt := by rw [he579886]; rfl
      have ac579981 : (fI (F579883 q579829) 32).toInt = p579848.toInt := by rw [he579886]; rfl
      have ac579982 : (fI (F579883 q579829) 30).toInt = 0 := by rw [he579886]; show Int32.toInt 0 = 0; decide
      refine Gw_callV (As := [.int 1]) (gV_ok D I) (ct_578426_SpillForgeModel_no l hl0 D I γ el P579827 F579883 q579829 1 hT579978 htq579829) dr_cX17_end_19 ⟨wr_7_191, wr_1_14, wr_7_194, by decide, rfl, (Nat.le_of_ble_eq_true rfl), (Nat.le_of_ble_eq_true rfl)⟩ wr_7_193 wr_p_73 hm579832 he579886 rfl (show 0 + 0 ≤ 0 by first | omega | decide) (show 0 + 0 ≤ 0 by first | omega | decide) (Nat.le_of_ble_eq_true rfl) (fun r579986 w579987 dc579983 ds579984 hp579985 => ?_) (fun _ _ _ _ _ z => z.elim)
      obtain ⟨F579992, rfl, rfl, hT579993, hs579994, hdc, hds, x579988, x579989, x579990, x579991⟩ := hp579985
      have hs579995 : rStr γ [] F579828 F579992 := rStr_tr hs579887 hs579994
      rw [show Int32.toInt 1 = 1 from by decide] at x579991
      change G _ _ _ _ _ _ _ (.int 0 :: _) _ _ _
      refine G_widen (cs' := 0) (sl' := 0) (by omega) (by omega) ?_
      have hm579996 : q579829 ∈ P579827 := RS_m hT579993 htq579829 (by decide)
      refine rk10_e (show rk_10 γ (F579992 q579829) from RS_o hT579993 htq579829) (fun q579998 q579999 p580000 p580001 p580002 p580003 p580004 p580005 p580006 p580007 p580008 p580009 p580010 p580011 p580012 p580013 p580014 he579997 hB580041 ht580015 ht580016 ht580017 ht580018 ht580019 ht580020 ht580021 ht580022 ht580023 ht580024 ht580025 ht580026 ht580027 ht580028 ht580029 ht580030 ht580031 ht580032 ht580033 ht580034 ht580035 ht580036 ht580037 ht580038 hB580042 => ?_)
      have ac580043 : (fI (F579992 q579829) 9).toInt = p580000.toInt := by rw [he579997]; rfl
      have bp580000 : gB p580000 0 1 := (hB580041.1)
      have ac580044 : (fI (F579992 q579829) 10).toInt = p580001.toInt := by rw [he579997]; rfl
      have bp580001 : gB p580001 0 1 := (hB580041.2.1)
      have ac580045 : (fI (F579992 q579829) 32).toInt = p580012.toInt := by rw [he579997]; rfl
      have bp580012 : gB p580012 0 8192 := (hB580041.2.2.2.2.2.2.2.1)
      have ac580046 : (fI (F579992 q579829) 30).toInt = p580011.toInt := by rw [he579997]; rfl
      have bp580011 : gB p580011 (-2147483648) 2147483647 := (gB_any p580011)
      have ac580047 : (fI (F579992 q579829) 9).toInt = p580000.toInt := by rw [he579997]; rfl
      have ac580048 : (fI (F579992 q579829) 10).toInt = p580001.toInt := by rw [he579997]; rfl
      have ac580049 : (fI (F579992 q579829) 32).toInt = p580012.toInt := by rw [he579997]; rfl
      have ac580050 : (fI (F579992 q579829) 30).toInt = p580011.toInt := by rw [he579997]; rfl
      exact G_iretA dr_cX17_end_22 rfl (Nat.le_of_ble_eq_true rfl) (Nat.le_of_ble_eq_true rfl) ⟨F579992, 0, rfl, rfl, hT579993, hs579995, (Nat.le_of_ble_eq_true rfl), (Nat.le_of_ble_eq_true rfl), (gB_w (gBl (show Int32.toInt 0 = 0 by decide)) (by decide) (by decide)), (by have qa0 : Int32.toInt 0 = 0 := (by decide); omega), (by have qa0 : Int32.toInt 0 = 0 := (by decide); omega), (by have qa0 : Int32.toInt 0 = 0 := (by decide); omega)⟩
abbrev ky_580839_SpillForgeModel_step : gKey := (cX17_step, 4, "SpillForgeModel", (some FieldType.int), [], "step", fun _ _ => True)
def pt_580839_SpillForgeModel_step (D : va_G) (I : FieldType → ClassId) (γ el : Nat → Nat → Nat) (P580835 : List Nat) (F580836 : Nat → va_E) (q580837 : Nat) (q580838 : Nat) : Option Value → va_W → Nat → Nat → Prop := fun r w dc ds => ∃ (F581130 : Nat → va_E) (o581129 : Int32), r = some (.int o581129) ∧ w = va_pl P580835 F581130 ∧ RS D I P580835 F581130 γ el ∧ rStr γ [] F580836 F581130 ∧ dc ≤ 0 ∧ ds ≤ 0 ∧ gB o581129 (-1) 5 ∧ (fI (F581130 q580837) 26).toInt = (fI (F580836 q580837) 26).toInt ∧ (fI (F581130 q580837) 9).toInt = (fI (F580836 q580837) 9).toInt ∧ (fI (F581130 q580837) 10).toInt = (fI (F580836 q580837) 10).toInt ∧ (fI (F581130 q580837) 32).toInt = (fI (F580836 q580837) 32).toInt
set_option maxRecDepth 100000 in
set_option maxHeartbeats 4000000 in
theorem ct_580839_SpillForgeModel_step (l : Launch) (hl0 : l.stackTraces = false) (D : va_G) (I : FieldType → ClassId) (γ el : Nat → Nat → Nat) (P580835 : List Nat) (F580836 : Nat → va_E) (q580837 : Nat) (q580838 : Nat) (hT : RS D I P580835 F580836 γ el) (htq580837 : rKd γ q580837 10) (htq580838 : rKd γ q580838 1) : CtA (gV D I) l yX17_step cX17_step 4 (some FieldType.int) 1 23 0 0 [.ref q580837, .ref q580838] (va_pl P580835 F580836) (pt_580839_SpillForgeModel_step D I γ el P580835 F580836 q580837 q580838) gNA := by
  refine CtA_of hl0 (by decide) (Nat.le_of_ble_eq_true rfl) ?_
  have hm580840 : q580837 ∈ P580835 := RS_m hT htq580837 (by decide)
  refine rk10_e (show rk_10 γ (F580836 q580837) from RS_o hT htq580837) (fun q580842 q580843 p580844 p580845 p580846 p580847 p580848 p580849 p580850 p580851 p580852 p580853 p580854 p580855 p580856 p580857 p580858 he580841 hB580885 ht580859 ht580860 ht580861 ht580862 ht580863 ht580864 ht580865 ht580866 ht580867 ht580868 ht580869 ht580870 ht580871 ht580872 ht580873 ht580874 ht580875 ht580876 ht580877 ht580878 ht580879 ht580880 ht580881 ht580882 hB580886 => ?_)
  have ac580887 : (fI (F580836 q580837) 26).toInt = p580853.toInt := by rw [he580841]; rfl
  have bp580853 : gB p580853 0 100000 := (hB580885.2.2.2.2.2.1)
  have ac580888 : (fI (F580836 q580837) 9).toInt = p580844.toInt := by rw [he580841]; rfl
  have bp580844 : gB p580844 0 1 := (hB580885.1)
  have ac580889 : (fI (F580836 q580837) 10).toInt = p580845.toInt := by rw [he580841]; rfl
  have bp580845 : gB p580845 0 1 := (hB580885.2.1)
  have ac580890 : (fI (F580836 q580837) 32).toInt = p580856.toInt := by rw [he580841]; rfl
  have bp580856 : gB p580856 0 8192 := (hB580885.2.2.2.2.2.2.2.1)
  refine G_aload_n 1 dr_cX17_step_0 rfl ?_
  have hm580891 : q580838 ∈ P580835 := RS_m hT htq580838 (by decide)
  obtain ⟨p580893, p580894, p580895, p580896, p580897, p580898, p580899, he580892, bp580893, bp580894, bp580897, bp580898, bp580899, r580900, r580901, r580902, r580903, r580904⟩ := show rk_1 γ q580838 (F580836 q580838) from RS_o hT htq580838
  have bp580895 := gB_any p580895
  have bp580896 := gB_any p580896
  refine Gp_get 0 hm580891 he580892 dr_cX17_step_1 (gk_X15 D I) (Nat.le_of_ble_eq_true rfl) wr_9_177 rfl ?_
  by_cases hs580905 : p580893 = 0
  · have ehs580905 : p580893.toInt = 0 := gj_eq hs580905 (show Int32.toInt 0 = 0 by decide)
    have bp580893' : gB p580893 0 0 := ⟨by omega, by omega⟩
    refine G_eqi (y := 0) hs580905 ?_
    refine G_lookup 198 dr_cX17_step_4 (by decide) (by first | rfl | decide) (by decide) ?_
    refine G_aload_n 0 dr_cX17_step_198 rfl ?_
    refine Gp_get 20 hm580840 he580841 dr_cX17_step_199 (gk_X17 D I) (Nat.le_of_ble_eq_true rfl) wr_7_94 rfl ?_
    refine G_aload_n 1 dr_cX17_step_202 rfl ?_
    refine Gp_get 1 hm580891 he580892 dr_cX17_step_203 (gk_X15 D I) (Nat.le_of_ble_eq_true rfl) wr_9_182 rfl ?_
    refine G_aload_n 0 dr_cX17_step_206 rfl ?_
    refine G_aload_n 1 dr_cX17_step_207 rfl ?_
    refine Gp_get 5 hm580891 he580892 dr_cX17_step_208 (gk_X15 D I) (Nat.le_of_ble_eq_true rfl) wr_9_197 rfl ?_
    refine G_aload_n 1 dr_cX17_step_211 rfl ?_
    refine Gp_get 2 hm580891 he580892 dr_cX17_step_212 (gk_X15 D I) (Nat.le_of_ble_eq_true rfl) wr_9_186 rfl ?_
    refine Gw_callV (As := [.int p580898, .int p580895]) (gV_ok D I) (ct_7532_SpillForgeModel_value l hl0 D I γ el P580835 F580836 q580837 p580898 p580895 hT htq580837 bp580898 (by omega)) dr_cX17_step_215 ⟨wr_11_100, wr_1_14, wr_11_103, by decide, rfl, (Nat.le_of_ble_eq_true rfl), (Nat.le_of_ble_eq_true rfl)⟩ wr_11_102 wr_p_115 hm580840 he580841 rfl (show 0 + 0 ≤ 0 by first | omega | decide) (show 0 + 0 ≤ 0 by first | omega | decide) (Nat.le_of_ble_eq_true rfl) (fun r580909 w580910 dc580906 ds580907 hp580908 => ?_) (fun _ _ _ _ _ z => z.elim)
    obtain ⟨o580911, rfl, rfl, hdc, hds, ht580912⟩ := hp580908
    have bo580911 := gB_any o580911
    change G _ _ _ _ _ _ _ (.int o580911 :: _) _ _ _
    refine G_widen (cs' := 0) (sl' := 0) (by omega) (by omega) ?_
    have hm580913 : (γ 9 20) ∈ P580835 := RS_m hT ht580875 (by decide)
    obtain ⟨f580915, he580914⟩ := show rk_22 I (F580836 (γ 9 20)) from RS_o hT ht580875
    refine Gp_iast 0 hm580913 he580914 dr_cX17_step_218 rfl (gB_in bp580894 (by decide) (by decide)) (fun F580916 e580917 n580918 => ?_)
    obtain ⟨f580919, hf580919⟩ : ∃ z, z = upd f580915 p580894.toNatClampNeg o580911 := ⟨_, rfl⟩
    rw [← hf580919] at e580917
    have he580920 : F580916 q580837 = .inr (22, [.ref (γ 9 0), .ref (γ 9 1), .ref (γ 9 2), .ref (γ 9 3), .ref (γ 9 4), .ref (γ 9 5), .ref (γ 9 6), .ref (γ 9 7), .ref (γ 9 8), .int p580844, .int p580845, .int p580846, .int p580847, .int p580848, .int p580849, .ref (γ 9 15), .ref (γ 9 16), .ref (γ 9 17), .ref (γ 9 18), .ref (γ 9 19), .ref (γ 9 20), .ref (γ 9 21), .ref (γ 9 22), .int p580850, .int p580851, .int p580852, .int p580853, .int p580854, .ref q580842, .ref (γ 9 29), .int p580855, .ref (γ 9 31), .int p580856, .int p580857, .int p580858, .ref q580843]) := (n580918 q580837 (rn_oa he580841 he580914)).trans he580841
    have he580921 : F580916 q580838 = .inr (20, [.int p580893, .int p580894, .int p580895, .int p580896, .int p580897, .int p580898, .int p580899]) := (n580918 q580838 (rn_oa he580892 he580914)).trans he580892
    have he580922 : F580916 (γ 9 20) = .inl (I .int, 2000, .inl f580919) := e580917
    have hs580923 : rStr γ [] F580836 F580916 := rStr_put (rStr_rf (γ := γ) (W := []) (F := F580836)) n580918 ht580875 (by decide)
    refine G_iconst (-1) dr_cX17_step_219 (by decide +kernel) ?_
    have hT580924 : RS D I P580835 F580916 γ el := RS_set hT n580918 ht580875 (by decide) ⟨f580919, he580922⟩
    have ac580925 : (fI (F580916 q580837) 26).toInt = p580853.toInt := by rw [he580920]; rfl
    have ac580926 : (fI (F580916 q580837) 9).toInt = p580844.toInt := by rw [he580920]; rfl
    have ac580927 : (fI (F580916 q580837) 10).toInt = p580845.toInt := by rw [he580920]; rfl
    have ac580928 : (fI (F580916 q580837) 32).toInt = p580856.toInt := by rw [he580920]; rfl
    exact G_iretA dr_cX17_step_220 rfl (Nat.le_of_ble_eq_true rfl) (Nat.le_of_ble_eq_true rfl) ⟨F580916, (-1), rfl, rfl, hT580924, hs580923, (Nat.le_of_ble_eq_true rfl), (Nat.le_of_ble_eq_true rfl), (gB_w (gBl (show Int32.toInt (-1) = (-1) by decide)) (by decide) (by decide)), (by have qa0 : Int32.toInt (-1) = (-1) := (by decide); omega), (by have qa0 : Int32.toInt (-1) = (-1) := (by decide); omega), (by have qa0 : Int32.toInt (-1) = (-1) := (by decide); omega), (by have qa0 : Int32.toInt (-1) = (-1) := (by decide); omega)⟩
  by_cases hs580929 : p580893 = 20
  · have ehs580929 : p580893.toInt = 20 := gj_eq hs580929 (show Int32.toInt 20 = 20 by decide)
    have bp580893' : gB p580893 20 20 := ⟨by omega, by omega⟩
    refine G_eqi (y := 20) hs580929 ?_
    refine G_lookup 56 dr_cX17_step_4 (by decide) (by first | rfl | decide) (by decide) ?_
    refine G_aload_n 0 dr_cX17_step_56 rfl ?_
    refine Gp_get 20 hm580840 he580841 dr_cX17_step_57 (gk_X17 D I) (Nat.le_of_ble_eq_true rfl) wr_7_94 rfl ?_
    refine G_aload_n 1 dr_cX17_step_60 rfl ?_
    refine Gp_get 1 hm580891 he580892 dr_cX17_step_61 (gk_X15 D I) (Nat.le_of_ble_eq_true rfl) wr_9_182 rfl ?_
    refine G_aload_n 0 dr_cX17_step_64 rfl ?_
    refine Gp_get 27 hm580840 he580841 dr_cX17_step_65 (gk_X17 D I) (Nat.le_of_ble_eq_true rfl) wr_7_101 rfl ?_
    have bp580854 : gB p580854 0 2048 := (hB580885.2.2.2.2.2.2.1)
    refine G_aload_n 0 dr_cX17_step_68 rfl ?_
    refine Gp_get 28 hm580840 he580841 dr_cX17_step_69 (gk_X17 D I) (Nat.le_of_ble_eq_true rfl) wr_7_102 rfl ?_
    have hm580930 : q580842 ∈ P580835 := RS_m hT ht580859 (by decide)
    obtain ⟨n580933, f580932, he580931, hn580933⟩ := show rk_26 I (F580836 q580842) from RS_o hT ht580859
    refine Gp_alen (Int32.ofNat n580933) 0 hm580930 he580931 dr_cX17_step_72 rfl rfl (G_nam fun z580934 hz580934 => ?_)
    have ez580934 : z580934.toInt = (n580933 : Nat) := gI_ofM hz580934 (by omega)
    have bz580934 : gB z580934 0 16777216 := ⟨by omega, by omega⟩
    refine G_icmp_ge 88 dr_cX17_step_73 (by decide +kernel) (fun hc580935 => ?_) (fun hc580935 => ?_)
    · have r580936 : z580934.toInt ≤ p580854.toInt := gC_le hc580935
      have bz580934' : gB z580934 0 2048 := ⟨by omega, by omega⟩
      refine G_iconst 0 dr_cX17_step_88 (by decide +kernel) ?_
      have hm580937 : (γ 9 20) ∈ P580835 := RS_m hT ht580875 (by decide)
      obtain ⟨f580939, he580938⟩ := show rk_22 I (F580836 (γ 9 20)) from RS_o hT ht580875
      refine Gp_iast 0 hm580937 he580938 dr_cX17_step_89 rfl (gB_in bp580894 (by decide) (by decide)) (fun F580940 e580941 n580942 => ?_)
      obtain ⟨f580943, hf580943⟩ : ∃ z, z = upd f580939 p580894.toNatClampNeg 0 := ⟨_, rfl⟩
      rw [← hf580943] at e580941
      have he580944 : F580940 q580837 = .inr (22, [.ref (γ 9 0), .ref (γ 9 1), .ref (γ 9 2), .ref (γ 9 3), .ref (γ 9 4), .ref (γ 9 5), .ref (γ 9 6), .ref (γ 9 7), .ref (γ 9 8), .int p580844, .int p580845, .int p580846, .int p580847, .int p580848, .int p580849, .ref (γ 9 15), .ref (γ 9 16), .ref (γ 9 17), .ref (γ 9 18), .ref (γ 9 19), .ref (γ 9 20), .ref (γ 9 21), .ref (γ 9 22), .int p580850, .int p580851, .int p580852, .int p580853, .int p580854, .ref q580842, .ref (γ 9 29), .int p580855, .ref (γ 9 31), .int p580856, .int p580857, .int p580858, .ref q580843]) := (n580942 q580837 (rn_oa he580841 he580938)).trans he580841
      have he580945 : F580940 q580838 = .inr (20, [.int p580893, .int p580894, .int p580895, .int p580896, .int p580897, .int p580898, .int p580899]) := (n580942 q580838 (rn_oa he580892 he580938)).trans he580892
      have he580946 : F580940 q580842 = .inl (I .int, n580933, .inl f580932) := (n580942 q580842 (rn_ty ht580859 ht580875 (by decide))).trans he580931
      have he580947 : F580940 (γ 9 20) = .inl (I .int, 2000, .inl f580943) := e580941
      have hs580948 : rStr γ [] F580836 F580940 := rStr_put (rStr_rf (γ := γ) (W := []) (F := F580836)) n580942 ht580875 (by decide)
      refine G_aload_n 0 dr_cX17_step_90 rfl ?_
      refine G_aload_n 0 dr_cX17_step_91 rfl ?_
      refine Gp_get 27 hm580840 he580944 dr_cX17_step_92 (gk_X17 D I) (Nat.le_of_ble_eq_true rfl) wr_7_101 rfl ?_
      refine G_iconst 1 dr_cX17_step_95 (by decide +kernel) ?_
      refine G_iadd dr_cX17_step_96 (G_nam fun z580949 hz580949 => ?_)
      have ez580949 : z580949.toInt = p580854.toInt + 1 := by rw [gI_add hz580949 bp580854 (gBl (show Int32.toInt 1 = 1 by decide)) (by decide) (by decide), show Int32.toInt 1 = 1 from by decide]
      have bz580949 : gB z580949 1 2049 := gB_add (gI_add hz580949 bp580854 (gBl (show Int32.toInt 1 = 1 by decide)) (by decide) (by decide)) bp580854 (gBl (show Int32.toInt 1 = 1 by decide)) (by decide) (by decide)
      refine G_aload_n 0 dr_cX17_step_97 rfl ?_
      refine Gp_get 28 hm580840 he580944 dr_cX17_step_98 (gk_X17 D I) (Nat.le_of_ble_eq_true rfl) wr_7_102 rfl ?_
      refine Gp_alen (Int32.ofNat n580933) 0 hm580930 he580946 dr_cX17_step_101 rfl rfl (G_nam fun z580950 hz580950 => ?_)
      have ez580950 : z580950.toInt = (n580933 : Nat) := gI_ofM hz580950 (by omega)
      have bz580950 : gB z580950 0 16777216 := ⟨by omega, by omega⟩
      refine G_mmin dr_cX17_step_102 wr_11_20 wr_3_227 wr_1_6 wr_3_228 (Nat.le_of_ble_eq_true rfl) (Nat.le_of_ble_eq_true rfl) (show 0 ≤ 0 by first | omega | decide) (show 0 ≤ 0 by first | omega | decide) (G_nam fun z580951 hz580951 => ?_)
      have ez580951 : z580949.toInt ≥ z580951.toInt ∧ z580950.toInt ≥ z580951.toInt ∧ (z580951.toInt = z580949.toInt ∨ z580951.toInt = z580950.toInt) := by have := gI_min hz580951; omega
      have bz580951 : gB z580951 0 2049 := ⟨by omega, by omega⟩
      have hT580952 : RS D I P580835 F580940 γ el := RS_set hT n580942 ht580875 (by decide) ⟨f580943, he580947⟩
      refine Gp_put 27 hm580840 he580944 dr_cX17_step_105 (gk_X17 D I) (Nat.le_of_ble_eq_true rfl) wr_7_101 rfl rfl rfl (Nat.le_of_ble_eq_true rfl) (fun F580953 e580954 n580955 => ?_)
      have he580956 : F580953 q580838 = .inr (20, [.int p580893, .int p580894, .int p580895, .int p580896, .int p580897, .int p580898, .int p580899]) := (n580955 q580838 (rn_oo he580945 he580944 (by decide))).trans he580945
      have he580957 : F580953 q580842 = .inl (I .int, n580933, .inl f580932) := (n580955 q580842 (rn_ao he580946 he580944)).trans he580946
      have he580958 : F580953 (γ 9 20) = .inl (I .int, 2000, .inl f580943) := (n580955 (γ 9 20) (rn_ao he580947 he580944)).trans he580947
      have he580959 : F580953 q580837 = .inr (22, [.ref (γ 9 0), .ref (γ 9 1), .ref (γ 9 2), .ref (γ 9 3), .ref (γ 9 4), .ref (γ 9 5), .ref (γ 9 6), .ref (γ 9 7), .ref (γ 9 8), .int p580844, .int p580845, .int p580846, .int p580847, .int p580848, .int p580849, .ref (γ 9 15), .ref (γ 9 16), .ref (γ 9 17), .ref (γ 9 18), .ref (γ 9 19), .ref (γ 9 20), .ref (γ 9 21), .ref (γ 9 22), .int p580850, .int p580851, .int p580852, .int p580853, .int z580951, .ref q580842, .ref (γ 9 29), .int p580855, .ref (γ 9 31), .int p580856, .int p580857, .int p580858, .ref q580843]) := e580954
      have hs580960 : rStr γ [] F580836 F580953 := rStr_put hs580948 n580955 htq580837 (by decide)
      refine G_iconst (-1) dr_cX17_step_108 (by decide +kernel) ?_
      have hT580961 : RS D I P580835 F580953 γ el := RS_set hT580952 n580955 htq580837 (by decide) ⟨q580842, q580843, p580844, p580845, p580846, p580847, p580848, p580849, p580850, p580851, p580852, p580853, z580951, p580855, p580856, p580857, p580858, he580959, ⟨bp580844, bp580845, (hB580885.2.2.1), (hB580885.2.2.2.1), (hB580885.2.2.2.2.1), bp580853, ⟨by omega, by omega⟩, bp580856, (hB580885.2.2.2.2.2.2.2.2)⟩, ht580859, ht580860, ht580861, ht580862, ht580863, ht580864, ht580865, ht580866, ht580867, ht580868, ht580869, ht580870, ht580871, ht580872, ht580873, ht580874, ht580875, ht580876, ht580877, ht580878, ht580879, ht580880, ht580881, ht580882, hB580886⟩
      have ac580962 : (fI (F580953 q580837) 26).toInt = p580853.toInt := by rw [he580959]; rfl
      have ac580963 : (fI (F580953 q580837) 9).toInt = p580844.toInt := by rw [he580959]; rfl
      have ac580964 : (fI (F580953 q580837) 10).toInt = p580845.toInt := by rw [he580959]; rfl
      have ac580965 : (fI (F580953 q580837) 32).toInt = p580856.toInt := by rw [he580959]; rfl
      exact G_iretA dr_cX17_step_109 rfl (Nat.le_of_ble_eq_true rfl) (Nat.le_of_ble_eq_true rfl) ⟨F580953, (-1), rfl, rfl, hT580961, hs580960, (Nat.le_of_ble_eq_true rfl), (Nat.le_of_ble_eq_true rfl), (gB_w (gBl (show Int32.toInt (-1) = (-1) by decide)) (by decide) (by decide)), (by have qa0 : Int32.toInt (-1) = (-1) := (by decide); omega), (by have qa0 : Int32.toInt (-1) = (-1) := (by decide); omega), (by have qa0 : Int32.toInt (-1) = (-1) := (by decide); omega), (by have qa0 : Int32.toInt (-1) = (-1) := (by decide); omega)⟩
    · have r580966 : p580854.toInt < z580934.toInt := gC_nle hc580935
      have bz580934' : gB z580934 1 16777216 := ⟨by omega, by omega⟩
      refine G_aload_n 0 dr_cX17_step_76 rfl ?_
      refine Gp_get 28 hm580840 he580841 dr_cX17_step_77 (gk_X17 D I) (Nat.le_of_ble_eq_true rfl) wr_7_102 rfl ?_
      refine G_aload_n 0 dr_cX17_step_80 rfl ?_
      refine Gp_get 27 hm580840 he580841 dr_cX17_step_81 (gk_X17 D I) (Nat.le_of_ble_eq_true rfl) wr_7_101 rfl ?_
      refine Gp_iald 0 hm580930 he580931 dr_cX17_step_84 rfl (gB_inr (by omega) (by omega)) (G_nam fun z580967 hz580967 => ?_)
      have bz580967 : gB z580967 (-2147483648) 2147483647 := gB_any z580967
      refine G_goto 89 dr_cX17_step_85 (by decide +kernel) ?_
      have hm580968 : (γ 9 20) ∈ P580835 := RS_m hT ht580875 (by decide)
      obtain ⟨f580970, he580969⟩ := show rk_22 I (F580836 (γ 9 20)) from RS_o hT ht580875
      refine Gp_iast 0 hm580968 he580969 dr_cX17_step_89 rfl (gB_in bp580894 (by decide) (by decide)) (fun F580971 e580972 n580973 => ?_)
      obtain ⟨f580974, hf580974⟩ : ∃ z, z = upd f580970 p580894.toNatClampNeg z580967 := ⟨_, rfl⟩
      rw [← hf580974] at e580972
      have he580975 : F580971 q580837 = .inr (22, [.ref (γ 9 0), .ref (γ 9 1), .ref (γ 9 2), .ref (γ 9 3), .ref (γ 9 4), .ref (γ 9 5), .ref (γ 9 6), .ref (γ 9 7), .ref (γ 9 8), .int p580844, .int p580845, .int p580846, .int p580847, .int p580848, .int p580849, .ref (γ 9 15), .ref (γ 9 16), .ref (γ 9 17), .ref (γ 9 18), .ref (γ 9 19), .ref (γ 9 20), .ref (γ 9 21), .ref (γ 9 22), .int p580850, .int p580851, .int p580852, .int p580853, .int p580854, .ref q580842, .ref (γ 9 29), .int p580855, .ref (γ 9 31), .int p580856, .int p580857, .int p580858, .ref q580843]) := (n580973 q580837 (rn_oa he580841 he580969)).trans he580841
      have he580976 : F580971 q580838 = .inr (20, [.int p580893, .int p580894, .int p580895, .int p580896, .int p580897, .int p580898, .int p580899]) := (n580973 q580838 (rn_oa he580892 he580969)).trans he580892
      have he580977 : F580971 q580842 = .inl (I .int, n580933, .inl f580932) := (n580973 q580842 (rn_ty ht580859 ht580875 (by decide))).trans he580931
      have he580978 : F580971 (γ 9 20) = .inl (I .int, 2000, .inl f580974) := e580972
      have hs580979 : rStr γ [] F580836 F580971 := rStr_put (rStr_rf (γ := γ) (W := []) (F := F580836)) n580973 ht580875 (by decide)
      refine G_aload_n 0 dr_cX17_step_90 rfl ?_
      refine G_aload_n 0 dr_cX17_step_91 rfl ?_
      refine Gp_get 27 hm580840 he580975 dr_cX17_step_92 (gk_X17 D I) (Nat.le_of_ble_eq_true rfl) wr_7_101 rfl ?_
      refine G_iconst 1 dr_cX17_step_95 (by decide +kernel) ?_
      refine G_iadd dr_cX17_step_96 (G_nam fun z580980 hz580980 => ?_)
      have ez580980 : z580980.toInt = p580854.toInt + 1 := by rw [gI_add hz580980 bp580854 (gBl (show Int32.toInt 1 = 1 by decide)) (by decide) (by decide), show Int32.toInt 1 = 1 from by decide]
      have bz580980 : gB z580980 1 2049 := gB_add (gI_add hz580980 bp580854 (gBl (show Int32.toInt 1 = 1 by decide)) (by decide) (by decide)) bp580854 (gBl (show Int32.toInt 1 = 1 by decide)) (by decide) (by decide)
      refine G_aload_n 0 dr_cX17_step_97 rfl ?_
      refine Gp_get 28 hm580840 he580975 dr_cX17_step_98 (gk_X17 D I) (Nat.le_of_ble_eq_true rfl) wr_7_102 rfl ?_
      refine Gp_alen (Int32.ofNat n580933) 0 hm580930 he580977 dr_cX17_step_101 rfl rfl (G_nam fun z580981 hz580981 => ?_)
      have ez580981 : z580981.toInt = (n580933 : Nat) := gI_ofM hz580981 (by omega)
      have bz580981 : gB z580981 0 16777216 := ⟨by omega, by omega⟩
      refine G_mmin dr_cX17_step_102 wr_11_20 wr_3_227 wr_1_6 wr_3_228 (Nat.le_of_ble_eq_true rfl) (Nat.le_of_ble_eq_true rfl) (show 0 ≤ 0 by first | omega | decide) (show 0 ≤ 0 by first | omega | decide) (G_nam fun z580982 hz580982 => ?_)
      have ez580982 : z580980.toInt ≥ z580982.toInt ∧ z580981.toInt ≥ z580982.toInt ∧ (z580982.toInt = z580980.toInt ∨ z580982.toInt = z580981.toInt) := by have := gI_min hz580982; omega
      have bz580982 : gB z580982 0 2049 := ⟨by omega, by omega⟩
      have hT580983 : RS D I P580835 F580971 γ el := RS_set hT n580973 ht580875 (by decide) ⟨f580974, he580978⟩
      refine Gp_put 27 hm580840 he580975 dr_cX17_step_105 (gk_X17 D I) (Nat.le_of_ble_eq_true rfl) wr_7_101 rfl rfl rfl (Nat.le_of_ble_eq_true rfl) (fun F580984 e580985 n580986 => ?_)
      have he580987 : F580984 q580838 = .inr (20, [.int p580893, .int p580894, .int p580895, .int p580896, .int p580897, .int p580898, .int p580899]) := (n580986 q580838 (rn_oo he580976 he580975 (by decide))).trans he580976
      have he580988 : F580984 q580842 = .inl (I .int, n580933, .inl f580932) := (n580986 q580842 (rn_ao he580977 he580975)).trans he580977
      have he580989 : F580984 (γ 9 20) = .inl (I .int, 2000, .inl f580974) := (n580986 (γ 9 20) (rn_ao he580978 he580975)).trans he580978
      have he580990 : F580984 q580837 = .inr (22, [.ref (γ 9 0), .ref (γ 9 1), .ref (γ 9 2), .ref (γ 9 3), .ref (γ 9 4), .ref (γ 9 5), .ref (γ 9 6), .ref (γ 9 7), .ref (γ 9 8), .int p580844, .int p580845, .int p580846, .int p580847, .int p580848, .int p580849, .ref (γ 9 15), .ref (γ 9 16), .ref (γ 9 17), .ref (γ 9 18), .ref (γ 9 19), .ref (γ 9 20), .ref (γ 9 21), .ref (γ 9 22), .int p580850, .int p580851, .int p580852, .int p580853, .int z580982, .ref q580842, .ref (γ 9 29), .int p580855, .ref (γ 9 31), .int p580856, .int p580857, .int p580858, .ref q580843]) := e580985
      have hs580991 : rStr γ [] F580836 F580984 := rStr_put hs580979 n580986 htq580837 (by decide)
      refine G_iconst (-1) dr_cX17_step_108 (by decide +kernel) ?_
      have hT580992 : RS D I P580835 F580984 γ el := RS_set hT580983 n580986 htq580837 (by decide) ⟨q580842, q580843, p580844, p580845, p580846, p580847, p580848, p580849, p580850, p580851, p580852, p580853, z580982, p580855, p580856, p580857, p580858, he580990, ⟨bp580844, bp580845, (hB580885.2.2.1), (hB580885.2.2.2.1), (hB580885.2.2.2.2.1), bp580853, ⟨by omega, by omega⟩, bp580856, (hB580885.2.2.2.2.2.2.2.2)⟩, ht580859, ht580860, ht580861, ht580862, ht580863, ht580864, ht580865, ht580866, ht580867, ht580868, ht580869, ht580870, ht580871, ht580872, ht580873, ht580874, ht580875, ht580876, ht580877, ht580878, ht580879, ht580880, ht580881, ht580882, hB580886⟩
      have ac580993 : (fI (F580984 q580837) 26).toInt = p580853.toInt := by rw [he580990]; rfl
      have ac580994 : (fI (F580984 q580837) 9).toInt = p580844.toInt := by rw [he580990]; rfl
      have ac580995 : (fI (F580984 q580837) 10).toInt = p580845.toInt := by rw [he580990]; rfl
      have ac580996 : (fI (F580984 q580837) 32).toInt = p580856.toInt := by rw [he580990]; rfl
      exact G_iretA dr_cX17_step_109 rfl (Nat.le_of_ble_eq_true rfl) (Nat.le_of_ble_eq_true rfl) ⟨F580984, (-1), rfl, rfl, hT580992, hs580991, (Nat.le_of_ble_eq_true rfl), (Nat.le_of_ble_eq_true rfl), (gB_w (gBl (show Int32.toInt (-1) = (-1) by decide)) (by decide) (by decide)), (by have qa0 : Int32.toInt (-1) = (-1) := (by decide); omega), (by have qa0 : Int32.toInt (-1) = (-1) := (by decide); omega), (by have qa0 : Int32.toInt (-1) = (-1) := (by decide); omega), (by have qa0 : Int32.toInt (-1) = (-1) := (by decide); omega)⟩
  by_cases hs580997 : p580893 = 21
  · have ehs580997 : p580893.toInt = 21 := gj_eq hs580997 (show Int32.toInt 21 = 21 by decide)
    have bp580893' : gB p580893 21 21 := ⟨by omega, by omega⟩
    refine G_eqi (y := 21) hs580997 ?_
    refine G_lookup 155 dr_cX17_step_4 (by decide) (by first | rfl | decide) (by decide) ?_
    refine G_aload_n 0 dr_cX17_step_155 rfl ?_
    refine Gp_get 20 hm580840 he580841 dr_cX17_step_156 (gk_X17 D I) (Nat.le_of_ble_eq_true rfl) wr_7_94 rfl ?_
    refine G_aload_n 1 dr_cX17_step_159 rfl ?_
    refine Gp_get 1 hm580891 he580892 dr_cX17_step_160 (gk_X15 D I) (Nat.le_of_ble_eq_true rfl) wr_9_182 rfl ?_
    refine G_aload_n 0 dr_cX17_step_163 rfl ?_
    refine Gp_get 21 hm580840 he580841 dr_cX17_step_164 (gk_X17 D I) (Nat.le_of_ble_eq_true rfl) wr_7_95 rfl ?_
    refine G_aload_n 1 dr_cX17_step_167 rfl ?_
    refine Gp_get 4 hm580891 he580892 dr_cX17_step_168 (gk_X15 D I) (Nat.le_of_ble_eq_true rfl) wr_9_193 rfl ?_
    have hm580998 : (γ 9 21) ∈ P580835 := RS_m hT ht580876 (by decide)
    obtain ⟨f581000, he580999⟩ := show rk_23 I (F580836 (γ 9 21)) from RS_o hT ht580876
    refine Gp_iald 0 hm580998 he580999 dr_cX17_step_171 rfl (gB_in bp580897 (by decide) (by decide)) (G_nam fun z581001 hz581001 => ?_)
    have bz581001 : gB z581001 (-2147483648) 2147483647 := gB_any z581001
    have hm581002 : (γ 9 20) ∈ P580835 := RS_m hT ht580875 (by decide)
    obtain ⟨f581004, he581003⟩ := show rk_22 I (F580836 (γ 9 20)) from RS_o hT ht580875
    refine Gp_iast 0 hm581002 he581003 dr_cX17_step_172 rfl (gB_in bp580894 (by decide) (by decide)) (fun F581005 e581006 n581007 => ?_)
    obtain ⟨f581008, hf581008⟩ : ∃ z, z = upd f581004 p580894.toNatClampNeg z581001 := ⟨_, rfl⟩
    rw [← hf581008] at e581006
    have he581009 : F581005 q580837 = .inr (22, [.ref (γ 9 0), .ref (γ 9 1), .ref (γ 9 2), .ref (γ 9 3), .ref (γ 9 4), .ref (γ 9 5), .ref (γ 9 6), .ref (γ 9 7), .ref (γ 9 8), .int p580844, .int p580845, .int p580846, .int p580847, .int p580848, .int p580849, .ref (γ 9 15), .ref (γ 9 16), .ref (γ 9 17), .ref (γ 9 18), .ref (γ 9 19), .ref (γ 9 20), .ref (γ 9 21), .ref (γ 9 22), .int p580850, .int p580851, .int p580852, .int p580853, .int p580854, .ref q580842, .ref (γ 9 29), .int p580855, .ref (γ 9 31), .int p580856, .int p580857, .int p580858, .ref q580843]) := (n581007 q580837 (rn_oa he580841 he581003)).trans he580841
    have he581010 : F581005 q580838 = .inr (20, [.int p580893, .int p580894, .int p580895, .int p580896, .int p580897, .int p580898, .int p580899]) := (n581007 q580838 (rn_oa he580892 he581003)).trans he580892
    have he581011 : F581005 (γ 9 21) = .inl (I .int, 2000, .inl f581000) := (n581007 (γ 9 21) (rn_ty ht580876 ht580875 (by decide))).trans he580999
    have he581012 : F581005 (γ 9 20) = .inl (I .int, 2000, .inl f581008) := e581006
    have hs581013 : rStr γ [] F580836 F581005 := rStr_put (rStr_rf (γ := γ) (W := []) (F := F580836)) n581007 ht580875 (by decide)
    refine G_iconst (-1) dr_cX17_step_173 (by decide +kernel) ?_
    have hT581014 : RS D I P580835 F581005 γ el := RS_set hT n581007 ht580875 (by decide) ⟨f581008, he581012⟩
    have ac581015 : (fI (F581005 q580837) 26).toInt = p580853.toInt := by rw [he581009]; rfl
    have ac581016 : (fI (F581005 q580837) 9).toInt = p580844.toInt := by rw [he581009]; rfl
    have ac581017 : (fI (F581005 q580837) 10).toInt = p580845.toInt := by rw [he581009]; rfl
    have ac581018 : (fI (F581005 q580837) 32).toInt = p580856.toInt := by rw [he581009]; rfl
    exact G_iretA dr_cX17_step_174 rfl (Nat.le_of_ble_eq_true rfl) (Nat.le_of_ble_eq_true rfl) ⟨F581005, (-1), rfl, rfl, hT581014, hs581013, (Nat.le_of_ble_eq_true rfl), (Nat.le_of_ble_eq_true rfl), (gB_w (gBl (show Int32.toInt (-1) = (-1) by decide)) (by decide) (by decide)), (by have qa0 : Int32.toInt (-1) = (-1) := (by decide); omega), (by have qa0 : Int32.toInt (-1) = (-1) := (by decide); omega), (by have qa0 : Int32.toInt (-1) = (-1) := (by decide); omega), (by have qa0 : Int32.toInt (-1) = (-1) := (by decide); omega)⟩
  by_cases hs581019 : p580893 = 22
  · have ehs581019 : p580893.toInt = 22 := gj_eq hs581019 (show Int32.toInt 22 = 22 by decide)
    have bp580893' : gB p580893 22 22 := ⟨by omega, by omega⟩
    refine G_eqi (y := 22) hs581019 ?_
    refine G_lookup 110 dr_cX17_step_4 (by decide) (by first | rfl | decide) (by decide) ?_
    refine G_aload_n 0 dr_cX17_step_110 rfl ?_
    refine Gp_get 25 hm580840 he580841 dr_cX17_step_111 (gk_X17 D I) (Nat.le_of_ble_eq_true rfl) wr_7_99 rfl ?_
    have bp580852 : gB p580852 0 512 := (hB580885.2.2.2.2.1)
    refine G_sipush 512 dr_cX17_step_114 (by decide +kernel) ?_
    refine G_icmp_ne 122 dr_cX17_step_117 (by decide +kernel) (fun hc581020 => ?_) (fun hc581020 => ?_)
    · have r581021 : p580852.toInt ≠ 512 := gj_neq hc581020 (show Int32.toInt 512 = 512 by decide)
      have bp580852' : gB p580852 0 511 := ⟨by omega, by omega⟩
      refine G_aload_n 0 dr_cX17_step_122 rfl ?_
      refine Gp_get 22 hm580840 he580841 dr_cX17_step_123 (gk_X17 D I) (Nat.le_of_ble_eq_true rfl) wr_7_96 rfl ?_
      refine G_aload_n 0 dr_cX17_step_126 rfl ?_
      refine Gp_get 25 hm580840 he580841 dr_cX17_step_127 (gk_X17 D I) (Nat.le_of_ble_eq_true rfl) wr_7_99 rfl ?_
      refine G_aload_n 0 dr_cX17_step_130 rfl ?_
      refine G_aload_n 1 dr_cX17_step_131 rfl ?_
      refine Gp_get 5 hm580891 he580892 dr_cX17_step_132 (gk_X15 D I) (Nat.le_of_ble_eq_true rfl) wr_9_197 rfl ?_
      refine G_aload_n 1 dr_cX17_step_135 rfl ?_
      refine Gp_get 2 hm580891 he580892 dr_cX17_step_136 (gk_X15 D I) (Nat.le_of_ble_eq_true rfl) wr_9_186 rfl ?_
      refine Gw_callV (As := [.int p580898, .int p580895]) (gV_ok D I) (ct_7532_SpillForgeModel_value l hl0 D I γ el P580835 F580836 q580837 p580898 p580895 hT htq580837 bp580898 (by omega)) dr_cX17_step_139 ⟨wr_11_100, wr_1_14, wr_11_103, by decide, rfl, (Nat.le_of_ble_eq_true rfl), (Nat.le_of_ble_eq_true rfl)⟩ wr_11_102 wr_p_115 hm580840 he580841 rfl (show 0 + 0 ≤ 0 by first | omega | decide) (show 0 + 0 ≤ 0 by first | omega | decide) (Nat.le_of_ble_eq_true rfl) (fun r581025 w581026 dc581022 ds581023 hp581024 => ?_) (fun _ _ _ _ _ z => z.elim)
      obtain ⟨o581027, rfl, rfl, hdc, hds, ht581028⟩ := hp581024
      have bo581027 := gB_any o581027
      change G _ _ _ _ _ _ _ (.int o581027 :: _) _ _ _
      refine G_widen (cs' := 0) (sl' := 0) (by omega) (by omega) ?_
      have hm581029 : (γ 9 22) ∈ P580835 := RS_m hT ht580877 (by decide)
      obtain ⟨f581031, he581030⟩ := show rk_24 I (F580836 (γ 9 22)) from RS_o hT ht580877
      refine Gp_iast 0 hm581029 he581030 dr_cX17_step_142 rfl (gB_in bp580852' (by decide) (by decide)) (fun F581032 e581033 n581034 => ?_)
      obtain ⟨f581035, hf581035⟩ : ∃ z, z = upd f581031 p580852.toNatClampNeg o581027 := ⟨_, rfl⟩
      rw [← hf581035] at e581033
      have he581036 : F581032 q580837 = .inr (22, [.ref (γ 9 0), .ref (γ 9 1), .ref (γ 9 2), .ref (γ 9 3), .ref (γ 9 4), .ref (γ 9 5), .ref (γ 9 6), .ref (γ 9 7), .ref (γ 9 8), .int p580844, .int p580845, .int p580846, .int p580847, .int p580848, .int p580849, .ref (γ 9 15), .ref (γ 9 16), .ref (γ 9 17), .ref (γ 9 18), .ref (γ 9 19), .ref (γ 9 20), .ref (γ 9 21), .ref (γ 9 22), .int p580850, .int p580851, .int p580852, .int p580853, .int p580854, .ref q580842, .ref (γ 9 29), .int p580855, .ref (γ 9 31), .int p580856, .int p580857, .int p580858, .ref q580843]) := (n581034 q580837 (rn_oa he580841 he581030)).trans he580841
      have he581037 : F581032 q580838 = .inr (20, [.int p580893, .int p580894, .int p580895, .int p580896, .int p580897, .int p580898, .int p580899]) := (n581034 q580838 (rn_oa he580892 he581030)).trans he580892
      have he581038 : F581032 (γ 9 22) = .inl (I .int, 512, .inl f581035) := e581033
      have hs581039 : rStr γ [] F580836 F581032 := rStr_put (rStr_rf (γ := γ) (W := []) (F := F580836)) n581034 ht580877 (by decide)
      refine G_aload_n 0 dr_cX17_step_143 rfl ?_
      refine G_dup dr_cX17_step_144 rfl ?_
      refine Gp_get 25 hm580840 he581036 dr_cX17_step_145 (gk_X17 D I) (Nat.le_of_ble_eq_true rfl) wr_7_99 rfl ?_
      refine G_iconst 1 dr_cX17_step_148 (by decide +kernel) ?_
      refine G_iadd dr_cX17_step_149 (G_nam fun z581040 hz581040 => ?_)
      have ez581040 : z581040.toInt = p580852.toInt + 1 := by rw [gI_add hz581040 bp580852' (gBl (show Int32.toInt 1 = 1 by decide)) (by decide) (by decide), show Int32.toInt 1 = 1 from by decide]
      have bz581040 : gB z581040 1 512 := gB_add (gI_add hz581040 bp580852' (gBl (show Int32.toInt 1 = 1 by decide)) (by decide) (by decide)) bp580852' (gBl (show Int32.toInt 1 = 1 by decide)) (by decide) (by decide)
      have hT581041 : RS D I P580835 F581032 γ el := RS_set hT n581034 ht580877 (by decide) ⟨f581035, he581038⟩
      refine Gp_put 25 hm580840 he581036 dr_cX17_step_150 (gk_X17 D I) (Nat.le_of_ble_eq_true rfl) wr_7_99 rfl rfl rfl (Nat.le_of_ble_eq_true rfl) (fun F581042 e581043 n581044 => ?_)
      have he581045 : F581042 q580838 = .inr (20, [.int p580893, .int p580894, .int p580895, .int p580896, .int p580897, .int p580898, .int p580899]) := (n581044 q580838 (rn_oo he581037 he581036 (by decide))).trans he581037
      have he581046 : F581042 (γ 9 22) = .inl (I .int, 512, .inl f581035) := (n581044 (γ 9 22) (rn_ao he581038 he581036)).trans he581038
      have he581047 : F581042 q580837 = .inr (22, [.ref (γ 9 0), .ref (γ 9 1), .ref (γ 9 2), .ref (γ 9 3), .ref (γ 9 4), .ref (γ 9 5), .ref (γ 9 6), .ref (γ 9 7), .ref (γ 9 8), .int p580844, .int p580845, .int p580846, .int p580847, .int p580848, .int p580849, .ref (γ 9 15), .ref (γ 9 16), .ref (γ 9 17), .ref (γ 9 18), .ref (γ 9 19), .ref (γ 9 20), .ref (γ 9 21), .ref (γ 9 22), .int p580850, .int p580851, .int z581040, .int p580853, .int p580854, .ref q580842, .ref (γ 9 29), .int p580855, .ref (γ 9 31), .int p580856, .int p580857, .int p580858, .ref q580843]) := e581043
      have hs581048 : rStr γ [] F580836 F581042 := rStr_put hs581039 n581044 htq580837 (by decide)
      refine G_iconst (-1) dr_cX17_step_153 (by decide +kernel) ?_
      have hT581049 : RS D I P580835 F581042 γ el := RS_set hT581041 n581044 htq580837 (by decide) ⟨q580842, q580843, p580844, p580845, p580846, p580847, p580848, p580849, p580850, p580851, z581040, p580853, p580854, p580855, p580856, p580857, p580858, he581047, ⟨bp580844, bp580845, (hB580885.2.2.1), (hB580885.2.2.2.1), (gB_w bz581040 (by decide) (by decide)), bp580853, (hB580885.2.2.2.2.2.2.1), bp580856, (hB580885.2.2.2.2.2.2.2.2)⟩, ht580859, ht580860, ht580861, ht580862, ht580863, ht580864, ht580865, ht580866, ht580867, ht580868, ht580869, ht580870, ht580871, ht580872, ht580873, ht580874, ht580875, ht580876, ht580877, ht580878, ht580879, ht580880, ht580881, ht580882, hB580886⟩
      have ac581050 : (fI (F581042 q580837) 26).toInt = p580853.toInt := by rw [he581047]; rfl
      have ac581051 : (fI (F581042 q580837) 9).toInt = p580844.toInt := by rw [he581047]; rfl
      have ac581052 : (fI (F581042 q580837) 10).toInt = p580845.toInt := by rw [he581047]; rfl
      have ac581053 : (fI (F581042 q580837) 32).toInt = p580856.toInt := by rw [he581047]; rfl
      exact G_iretA dr_cX17_step_154 rfl (Nat.le_of_ble_eq_true rfl) (Nat.le_of_ble_eq_true rfl) ⟨F581042, (-1), rfl, rfl, hT581049, hs581048, (Nat.le_of_ble_eq_true rfl), (Nat.le_of_ble_eq_true rfl), (gB_w (gBl (show Int32.toInt (-1) = (-1) by decide)) (by decide) (by decide)), (by have qa0 : Int32.toInt (-1) = (-1) := (by decide); omega), (by have qa0 : Int32.toInt (-1) = (-1) := (by decide); omega), (by have qa0 : Int32.toInt (-1) = (-1) := (by decide); omega), (by have qa0 : Int32.toInt (-1) = (-1) := (by decide); omega)⟩
    · have r581054 : p580852.toInt = 512 := gj_eq hc581020 (show Int32.toInt 512 = 512 by decide)
      have bp580852' : gB p580852 512 512 := ⟨by omega, by omega⟩
      refine G_iconst 5 dr_cX17_step_120 (by decide +kernel) ?_
      have ac581055 : (fI (F580836 q580837) 26).toInt = p580853.toInt := by rw [he580841]; rfl
      have ac581056 : (fI (F580836 q580837) 9).toInt = p580844.toInt := by rw [he580841]; rfl
      have ac581057 : (fI (F580836 q580837) 10).toInt = p580845.toInt := by rw [he580841]; rfl
      have ac581058 : (fI (F580836 q580837) 32).toInt = p580856.toInt := by rw [he580841]; rfl
      exact G_iretA dr_cX17_step_121 rfl (Nat.le_of_ble_eq_true rfl) (Nat.le_of_ble_eq_true rfl) ⟨F580836, 5, rfl, rfl, hT, (rStr_rf (γ := γ) (W := []) (F := F580836)), (Nat.le_of_ble_eq_true rfl), (Nat.le_of_ble_eq_true rfl), (gB_w (gBl (show Int32.toInt 5 = 5 by decide)) (by decide) (by decide)), (by have qa0 : Int32.toInt 5 = 5 := (by decide); omega), (by have qa0 : Int32.toInt 5 = 5 := (by decide); omega), (by have qa0 : Int32.toInt 5 = 5 := (by decide); omega), (by have qa0 : Int32.toInt 5 = 5 := (by decide); omega)⟩
  by_cases hs581059 : p580893 = 23
  · have ehs581059 : p580893.toInt = 23 := gj_eq hs581059 (show Int32.toInt 23 = 23 by decide)
    have bp580893' : gB p580893 23 23 := ⟨by omega, by omega⟩
    refine G_eqi (y := 23) hs581059 ?_
    refine G_lookup 175 dr_cX17_step_4 (by decide) (by first | rfl | decide) (by decide) ?_
    refine G_aload_n 0 dr_cX17_step_175 rfl ?_
    refine Gp_get 21 hm580840 he580841 dr_cX17_step_176 (gk_X17 D I) (Nat.le_of_ble_eq_true rfl) wr_7_95 rfl ?_
    refine G_aload_n 1 dr_cX17_step_179 rfl ?_
    refine Gp_get 4 hm580891 he580892 dr_cX17_step_180 (gk_X15 D I) (Nat.le_of_ble_eq_true rfl) wr_9_193 rfl ?_
    refine G_aload_n 0 dr_cX17_step_183 rfl ?_
    refine G_aload_n 1 dr_cX17_step_184 rfl ?_
    refine Gp_get 5 hm580891 he580892 dr_cX17_step_185 (gk_X15 D I) (Nat.le_of_ble_eq_true rfl) wr_9_197 rfl ?_
    refine G_aload_n 1 dr_cX17_step_188 rfl ?_
    refine Gp_get 2 hm580891 he580892 dr_cX17_step_189 (gk_X15 D I) (Nat.le_of_ble_eq_true rfl) wr_9_186 rfl ?_
    refine Gw_callV (As := [.int p580898, .int p580895]) (gV_ok D I) (ct_7532_SpillForgeModel_value l hl0 D I γ el P580835 F580836 q580837 p580898 p580895 hT htq580837 bp580898 (by omega)) dr_cX17_step_192 ⟨wr_11_100, wr_1_14, wr_11_103, by decide, rfl, (Nat.le_of_ble_eq_true rfl), (Nat.le_of_ble_eq_true rfl)⟩ wr_11_102 wr_p_115 hm580840 he580841 rfl (show 0 + 0 ≤ 0 by first | omega | decide) (show 0 + 0 ≤ 0 by first | omega | decide) (Nat.le_of_ble_eq_true rfl) (fun r581063 w581064 dc581060 ds581061 hp581062 => ?_) (fun _ _ _ _ _ z => z.elim)
    obtain ⟨o581065, rfl, rfl, hdc, hds, ht581066⟩ := hp581062
    have bo581065 := gB_any o581065
    change G _ _ _ _ _ _ _ (.int o581065 :: _) _ _ _
    refine G_widen (cs' := 0) (sl' := 0) (by omega) (by omega) ?_
    have hm581067 : (γ 9 21) ∈ P580835 := RS_m hT ht580876 (by decide)
    obtain ⟨f581069, he581068⟩ := show rk_23 I (F580836 (γ 9 21)) from RS_o hT ht580876
    refine Gp_iast 0 hm581067 he581068 dr_cX17_step_195 rfl (gB_in bp580897 (by decide) (by decide)) (fun F581070 e581071 n581072 => ?_)
    obtain ⟨f581073, hf581073⟩ : ∃ z, z = upd f581069 p580897.toNatClampNeg o581065 := ⟨_, rfl⟩
    rw [← hf581073] at e581071
    have he581074 : F581070 q580837 = .inr (22, [.ref (γ 9 0), .ref (γ 9 1), .ref (γ 9 2), .ref (γ 9 3), .ref (γ 9 4), .ref (γ 9 5), .ref (γ 9 6), .ref (γ 9 7), .ref (γ 9 8), .int p580844, .int p580845, .int p580846, .int p580847, .int p580848, .int p580849, .ref (γ 9 15), .ref (γ 9 16), .ref (γ 9 17), .ref (γ 9 18), .ref (γ 9 19), .ref (γ 9 20), .ref (γ 9 21), .ref (γ 9 22), .int p580850, .int p580851, .int p580852, .int p580853, .int p580854, .ref q580842, .ref (γ 9 29), .int p580855, .ref (γ 9 31), .int p580856, .int p580857, .int p580858, .ref q580843]) := (n581072 q580837 (rn_oa he580841 he581068)).trans he580841
    have he581075 : F581070 q580838 = .inr (20, [.int p580893, .int p580894, .int p580895, .int p580896, .int p580897, .int p580898, .int p580899]) := (n581072 q580838 (rn_oa he580892 he581068)).trans he580892
    have he581076 : F581070 (γ 9 21) = .inl (I .int, 2000, .inl f581073) := e581071
    have hs581077 : rStr γ [] F580836 F581070 := rStr_put (rStr_rf (γ := γ) (W := []) (F := F580836)) n581072 ht580876 (by decide)
    refine G_iconst (-1) dr_cX17_step_196 (by decide +kernel) ?_
    have hT581078 : RS D I P580835 F581070 γ el := RS_set hT n581072 ht580876 (by decide) ⟨f581073, he581076⟩
    have ac581079 : (fI (F581070 q580837) 26).toInt = p580853.toInt := by rw [he581074]; rfl
    have ac581080 : (fI (F581070 q580837) 9).toInt = p580844.toInt := by rw [he581074]; rfl
    have ac581081 : (fI (F581070 q580837) 10).toInt = p580845.toInt := by rw [he581074]; rfl
    have ac581082 : (fI (F581070 q580837) 32).toInt = p580856.toInt := by rw [he581074]; rfl
    exact G_iretA dr_cX17_step_197 rfl (Nat.le_of_ble_eq_true rfl) (Nat.le_of_ble_eq_true rfl) ⟨F581070, (-1), rfl, rfl, hT581078, hs581077, (Nat.le_of_ble_eq_true rfl), (Nat.le_of_ble_eq_true rfl), (gB_w (gBl (show Int32.toInt (-1) = (-1) by decide)) (by decide) (by decide)), (by have qa0 : Int32.toInt (-1) = (-1) := (by decide); omega), (by have qa0 : Int32.toInt (-1) = (-1) := (by decide); omega), (by have qa0 : Int32.toInt (-1) = (-1) := (by decide); omega), (by have qa0 : Int32.toInt (-1) = (-1) := (by decide); omega)⟩
  have ehs580905 := lv_neT hs580905 (show Int32.toInt 0 = 0 by decide)
  have ehs580929 := lv_neT hs580929 (show Int32.toInt 20 = 20 by decide)
  have ehs580997 := lv_neT hs580997 (show Int32.toInt 21 = 21 by decide)
  have ehs581019 := lv_neT hs581019 (show Int32.toInt 22 = 22 by decide)
  have ehs581059 := lv_neT hs581059 (show Int32.toInt 23 = 23 by decide)
  refine G_lookup 221 dr_cX17_step_4 (by decide) (by show Op.lookupswitch.offset [(0, 194), (20, 52), (21, 151), (22, 106), (23, 171)] _ _ = 217; rw [lv_osw hs580905 (show Int32.toInt 0 = 0 by decide), lv_osw hs580929 (show Int32.toInt 20 = 20 by decide), lv_osw hs580997 (show Int32.toInt 21 = 21 by decide), lv_osw hs581019 (show Int32.toInt 22 = 22 by decide), lv_osw hs581059 (show Int32.toInt 23 = 23 by decide)]; first | done | rfl) (by decide) ?_
  refine G_aload_n 1 dr_cX17_step_221 rfl ?_
  refine Gp_get 0 hm580891 he580892 dr_cX17_step_222 (gk_X15 D I) (Nat.le_of_ble_eq_true rfl) wr_9_177 rfl ?_
  refine G_aload_n 0 dr_cX17_step_225 rfl ?_
  refine G_aload_n 1 dr_cX17_step_226 rfl ?_
  refine Gp_get 5 hm580891 he580892 dr_cX17_step_227 (gk_X15 D I) (Nat.le_of_ble_eq_true rfl) wr_9_197 rfl ?_
  refine G_aload_n 1 dr_cX17_step_230 rfl ?_
  refine Gp_get 2 hm580891 he580892 dr_cX17_step_231 (gk_X15 D I) (Nat.le_of_ble_eq_true rfl) wr_9_186 rfl ?_
  refine Gw_callV (As := [.int p580898, .int p580895]) (gV_ok D I) (ct_7532_SpillForgeModel_value l hl0 D I γ el P580835 F580836 q580837 p580898 p580895 hT htq580837 bp580898 (by omega)) dr_cX17_step_234 ⟨wr_11_100, wr_1_14, wr_11_103, by decide, rfl, (Nat.le_of_ble_eq_true rfl), (Nat.le_of_ble_eq_true rfl)⟩ wr_11_102 wr_p_115 hm580840 he580841 rfl (show 0 + 0 ≤ 0 by first | omega | decide) (show 0 + 0 ≤ 0 by first | omega | decide) (Nat.le_of_ble_eq_true rfl) (fun r581086 w581087 dc581083 ds581084 hp581085 => ?_) (fun _ _ _ _ _ z => z.elim)
  obtain ⟨o581088, rfl, rfl, hdc, hds, ht581089⟩ := hp581085
  have bo581088 := gB_any o581088
  change G _ _ _ _ _ _ _ (.int o581088 :: _) _ _ _
  refine G_widen (cs' := 0) (sl' := 0) (by omega) (by omega) ?_
  refine G_aload_n 0 dr_cX17_step_237 rfl ?_
  refine G_aload_n 1 dr_cX17_step_238 rfl ?_
  refine Gp_get 6 hm580891 he580892 dr_cX17_step_239 (gk_X15 D I) (Nat.le_of_ble_eq_true rfl) wr_9_202 rfl ?_
  refine G_aload_n 1 dr_cX17_step_242 rfl ?_
  refine Gp_get 3 hm580891 he580892 dr_cX17_step_243 (gk_X15 D I) (Nat.le_of_ble_eq_true rfl) wr_9_190 rfl ?_
  refine Gw_callV (As := [.int p580899, .int p580896]) (gV_ok D I) (ct_7532_SpillForgeModel_value l hl0 D I γ el P580835 F580836 q580837 p580899 p580896 hT htq580837 bp580899 (by omega)) dr_cX17_step_246 ⟨wr_11_100, wr_1_14, wr_11_103, by decide, rfl, (Nat.le_of_ble_eq_true rfl), (Nat.le_of_ble_eq_true rfl)⟩ wr_11_102 wr_p_115 hm580840 he580841 rfl (show 0 + 0 ≤ 0 by first | omega | decide) (show 0 + 0 ≤ 0 by first | omega | decide) (Nat.le_of_ble_eq_true rfl) (fun r581093 w581094 dc581090 ds581091 hp581092 => ?_) (fun _ _ _ _ _ z => z.elim)
  obtain ⟨o581095, rfl, rfl, hdc, hds, ht581096⟩ := hp581092
  have bo581095 := gB_any o581095
  change G _ _ _ _ _ _ _ (.int o581095 :: _) _ _ _
  refine G_widen (cs' := 0) (sl' := 0) (by omega) (by omega) ?_
  refine Gw_callS (As := [.int p580893, .int o581088, .int o581095]) (gV_ok D I) (cp_2035_SpillForgeModel_result l hl0 D I P580835 F580836 p580893 o581088 o581095 ) dr_cX17_step_249 ⟨wr_11_104, wr_1_14, wr_11_106, by decide, rfl, (Nat.le_of_ble_eq_true rfl), (Nat.le_of_ble_eq_true rfl)⟩ wr_11_105 (show 0 + 0 ≤ 0 by first | omega | decide) (show 0 + 0 ≤ 0 by first | omega | decide) (Nat.le_of_ble_eq_true rfl) (fun r581100 w581101 dc581097 ds581098 hp581099 => ?_) (fun _ _ _ _ _ z => z.elim)
  obtain ⟨ol581102, rfl, rfl, hdc, hds, ht581103⟩ := hp581099
  change G _ _ _ _ _ _ _ (.long ol581102 :: _) _ _ _
  refine G_widen (cs' := 0) (sl' := 0) (by omega) (by omega) ?_
  refine G_lstore_n (L' := [(2, .long ol581102), (0, .ref q580837), (1, .ref q580838)]) dr_cX17_step_252 (Nat.le_of_ble_eq_true rfl) rfl ?_
  refine G_lload_n 0 dr_cX17_step_253 rfl ?_
  refine G_ldc2 4294967296 dr_cX17_step_254 wr_11_107 ?_
  refine G_lcmp dr_cX17_step_257 (G_nam fun z581104 hz581104 => ?_)
  have bz581104 : gB z581104 (-1) 1 := gB_cmp hz581104
  refine G_if_ne 263 dr_cX17_step_258 (by decide +kernel) (fun hc581105 => ?_) (fun hc581105 => ?_)
  · have r581106 : z581104.toInt ≠ 0 := gj_neq hc581105 (show Int32.toInt 0 = 0 by decide)
    have lhc581105 := gC_cmpN hz581104 hc581105
    refine G_aload_n 1 dr_cX17_step_263 rfl ?_
    refine Gp_get 20 hm580840 he580841 dr_cX17_step_264 (gk_X17 D I) (Nat.le_of_ble_eq_true rfl) wr_7_94 rfl ?_
    refine G_aload_n 2 dr_cX17_step_267 rfl ?_
    refine Gp_get 1 hm580891 he580892 dr_cX17_step_268 (gk_X15 D I) (Nat.le_of_ble_eq_true rfl) wr_9_182 rfl ?_
    refine G_lload_n 0 dr_cX17_step_271 rfl ?_
    refine G_l2i dr_cX17_step_272 (G_nam fun z581107 hz581107 => ?_)
    have bz581107 : gB z581107 (-2147483648) 2147483647 := gB_any z581107
    have hm581108 : (γ 9 20) ∈ P580835 := RS_m hT ht580875 (by decide)
    obtain ⟨f581110, he581109⟩ := show rk_22 I (F580836 (γ 9 20)) from RS_o hT ht580875
    refine Gp_iast 0 hm581108 he581109 dr_cX17_step_273 rfl (gB_in bp580894 (by decide) (by decide)) (fun F581111 e581112 n581113 => ?_)
    obtain ⟨f581114, hf581114⟩ : ∃ z, z = upd f581110 p580894.toNatClampNeg z581107 := ⟨_, rfl⟩
    rw [← hf581114] at e581112
    have he581115 : F581111 q580837 = .inr (22, [.ref (γ 9 0), .ref (γ 9 1), .ref (γ 9 2), .ref (γ 9 3), .ref (γ 9 4), .ref (γ 9 5), .ref (γ 9 6), .ref (γ 9 7), .ref (γ 9 8), .int p580844, .int p580845, .int p580846, .int p580847, .int p580848, .int p580849, .ref (γ 9 15), .ref (γ 9 16), .ref (γ 9 17), .ref (γ 9 18), .ref (γ 9 19), .ref (γ 9 20), .ref (γ 9 21), .ref (γ 9 22), .int p580850, .int p580851, .int p580852, .int p580853, .int p580854, .ref q580842, .ref (γ 9 29), .int p580855, .ref (γ 9 31), .int p580856, .int p580857, .int p580858, .ref q580843]) := (n581113 q580837 (rn_oa he580841 he581109)).trans he580841
    have he581116 : F581111 q580838 = .inr (20, [.int p580893, .int p580894, .int p580895, .int p580896, .int p580897, .int p580898, .int p580899]) := (n581113 q580838 (rn_oa he580892 he581109)).trans he580892
    have he581117 : F581111 (γ 9 20) = .inl (I .int, 2000, .inl f581114) := e581112
    have hs581118 : rStr γ [] F580836 F581111 := rStr_put (rStr_rf (γ := γ) (W := []) (F := F580836)) n581113 ht580875 (by decide)
    refine G_iconst (-1) dr_cX17_step_274 (by decide +kernel) ?_
    have hT581119 : RS D I P580835 F581111 γ el := RS_set hT n581113 ht580875 (by decide) ⟨f581114, he581117⟩
    have ac581120 : (fI (F581111 q580837) 26).toInt = p580853.toInt := by rw [he581115]; rfl
    have ac581121 : (fI (F581111 q580837) 9).toInt = p580844.toInt := by rw [he581115]; rfl
    have ac581122 : (fI (F581111 q580837) 10).toInt = p580845.toInt := by rw [he581115]; rfl
    have ac581123 : (fI (F581111 q580837) 32).toInt = p580856.toInt := by rw [he581115]; rfl
    exact G_iretA dr_cX17_step_275 rfl (Nat.le_of_ble_eq_true rfl) (Nat.le_of_ble_eq_true rfl) ⟨F581111, (-1), rfl, rfl, hT581119, hs581118, (Nat.le_of_ble_eq_true rfl), (Nat.le_of_ble_eq_true rfl), (gB_w (gBl (show Int32.toInt (-1) = (-1) by decide)) (by decide) (by decide)), (by have qa0 : Int32.toInt (-1) = (-1) := (by decide); omega), (by have qa0 : Int32.toInt (-1) = (-1) := (by decide); omega), (by have qa0 : Int32.toInt (-1) = (-1) := (by decide); omega), (by have qa0 : Int32.toInt (-1) = (-1) := (by decide); omega)⟩
  · have r581124 : z581104.toInt = 0 := gj_eq hc581105 (show Int32.toInt 0 = 0 by decide)
    have bz581104' : gB z581104 0 0 := ⟨by omega, by omega⟩
    have lhc581105 := gC_cmpE hz581104 hc581105
    refine G_iconst 1 dr_cX17_step_261 (by decide +kernel) ?_
    have ac581125 : (fI (F580836 q580837) 26).toInt = p580853.toInt := by rw [he580841]; rfl
    have ac581126 : (fI (F580836 q580837) 9).toInt = p580844.toInt := by rw [he580841]; rfl
    have ac581127 : (fI (F580836 q580837) 10).toInt = p580845.toInt := by rw [he580841]; rfl
    have ac581128 : (fI (F580836 q580837) 32).toInt = p580856.toInt := by rw [he580841]; rfl
    exact G_iretA dr_cX17_step_262 rfl (Nat.le_of_ble_eq_true rfl) (Nat.le_of_ble_eq_true rfl) ⟨F580836, 1, rfl, rfl, hT, (rStr_rf (γ := γ) (W := []) (F := F580836)), (Nat.le_of_ble_eq_true rfl), (Nat.le_of_ble_eq_true rfl), (gB_w (gBl (show Int32.toInt 1 = 1 by decide)) (by decide) (by decide)), (by have qa0 : Int32.toInt 1 = 1 := (by decide); omega), (by have qa0 : Int32.toInt 1 = 1 := (by decide); omega), (by have qa0 : Int32.toInt 1 = 1 := (by decide); omega), (by have qa0 : Int32.toInt 1 = 1 := (by decide); omega)⟩
