abbrev ky_580980_SpillForgeModel_no : gKey := (cX17_no, 2, "SpillForgeModel", (some FieldType.int), [], "no", fun _ _ => True)
def pt_580980_SpillForgeModel_no (D : va_G) (I : FieldType → ClassId) (γ el : Nat → Nat → Nat) (P580976 : List Nat) (F580977 : Nat → va_E) (q580978 : Nat) (p580979 : Int32) : Option Value → va_W → Nat → Nat → Prop := fun r w dc ds => ∃ (F581043 : Nat → va_E), r = some (.int 0) ∧ w = va_pl P580976 F581043 ∧ RS D I P580976 F581043 γ el ∧ rStr γ [] F580977 F581043 ∧ dc ≤ 0 ∧ ds ≤ 0 ∧ (fI (F581043 q580978) 9).toInt = (fI (F580977 q580978) 9).toInt ∧ (fI (F581043 q580978) 10).toInt = (fI (F580977 q580978) 10).toInt ∧ (fI (F581043 q580978) 32).toInt = (fI (F580977 q580978) 32).toInt ∧ (fI (F581043 q580978) 30).toInt = p580979.toInt ∧ tr_RModel_no D I γ el F580977 q580978 p580979 F581043
set_option maxRecDepth 100000 in
set_option maxHeartbeats 4000000 in
theorem ct_580980_SpillForgeModel_no (l : Launch) (hl0 : l.stackTraces = false) (D : va_G) (I : FieldType → ClassId) (γ el : Nat → Nat → Nat) (P580976 : List Nat) (F580977 : Nat → va_E) (q580978 : Nat) (p580979 : Int32) (hT : RS D I P580976 F580977 γ el) (htq580978 : rKd γ q580978 10) : CtA (gV D I) l yX17_no cX17_no 2 (some FieldType.int) 0 0 0 0 [.ref q580978, .int p580979] (va_pl P580976 F580977) (pt_580980_SpillForgeModel_no D I γ el P580976 F580977 q580978 p580979) gNA := by
  refine CtA_of hl0 (by decide) (Nat.le_of_ble_eq_true rfl) ?_
  have bp580979 := gB_any p580979
  have hm580981 : q580978 ∈ P580976 := RS_m hT htq580978 (by decide)
  refine rk10_e (show rk_10 γ (F580977 q580978) from RS_o hT htq580978) (fun q580983 q580984 p580985 p580986 p580987 p580988 p580989 p580990 p580991 p580992 p580993 p580994 p580995 p580996 p580997 p580998 p580999 he580982 hB581026 ht581000 ht581001 ht581002 ht581003 ht581004 ht581005 ht581006 ht581007 ht581008 ht581009 ht581010 ht581011 ht581012 ht581013 ht581014 ht581015 ht581016 ht581017 ht581018 ht581019 ht581020 ht581021 ht581022 ht581023 hB581027 => ?_)
  have ac581028 : (fI (F580977 q580978) 9).toInt = p580985.toInt := by rw [he580982]; rfl
  have bp580985 : gB p580985 0 1 := (hB581026.1)
  have ac581029 : (fI (F580977 q580978) 10).toInt = p580986.toInt := by rw [he580982]; rfl
  have bp580986 : gB p580986 0 1 := (hB581026.2.1)
  have ac581030 : (fI (F580977 q580978) 32).toInt = p580997.toInt := by rw [he580982]; rfl
  have bp580997 : gB p580997 0 8192 := (hB581026.2.2.2.2.2.2.2.1)
  have ac581031 : (fI (F580977 q580978) 30).toInt = p580996.toInt := by rw [he580982]; rfl
  have bp580996 : gB p580996 (-2147483648) 2147483647 := (gB_any p580996)
  refine G_aload_n 0 dr_cX17_no_0 rfl ?_
  refine G_iload_n 1 dr_cX17_no_1 rfl ?_
  refine Gp_put 30 hm580981 he580982 dr_cX17_no_2 (gk_X17 D I) (Nat.le_of_ble_eq_true rfl) wr_7_104 rfl rfl rfl (Nat.le_of_ble_eq_true rfl) (fun F581032 e581033 n581034 => ?_)
  have he581035 : F581032 q580978 = .inr (22, [.ref (γ 9 0), .ref (γ 9 1), .ref (γ 9 2), .ref (γ 9 3), .ref (γ 9 4), .ref (γ 9 5), .ref (γ 9 6), .ref (γ 9 7), .ref (γ 9 8), .int p580985, .int p580986, .int p580987, .int p580988, .int p580989, .int p580990, .ref (γ 9 15), .ref (γ 9 16), .ref (γ 9 17), .ref (γ 9 18), .ref (γ 9 19), .ref (γ 9 20), .ref (γ 9 21), .ref (γ 9 22), .int p580991, .int p580992, .int p580993, .int p580994, .int p580995, .ref q580983, .ref (γ 9 29), .int p580979, .ref (γ 9 31), .int p580997, .int p580998, .int p580999, .ref q580984]) := e581033
  have hs581036 : rStr γ [] F580977 F581032 := rStr_put (rStr_rf (γ := γ) (W := []) (F := F580977)) n581034 htq580978 (by decide)
  have fq581037 : F581032 q580978 = cF (F580977 q580978) 30 (.int p580979) := by rw [he581035, he580982]; rfl
  refine G_iconst 0 dr_cX17_no_5 (by decide +kernel) ?_
  have hT581038 : RS D I P580976 F581032 γ el := RS_set hT n581034 htq580978 (by decide) ⟨q580983, q580984, p580985, p580986, p580987, p580988, p580989, p580990, p580991, p580992, p580993, p580994, p580995, p580979, p580997, p580998, p580999, he581035, ⟨bp580985, bp580986, (hB581026.2.2.1), (hB581026.2.2.2.1), (hB581026.2.2.2.2.1), (hB581026.2.2.2.2.2.1), (hB581026.2.2.2.2.2.2.1), bp580997, (hB581026.2.2.2.2.2.2.2.2)⟩, ht581000, ht581001, ht581002, ht581003, ht581004, ht581005, ht581006, ht581007, ht581008, ht581009, ht581010, ht581011, ht581012, ht581013, ht581014, ht581015, ht581016, ht581017, ht581018, ht581019, ht581020, ht581021, ht581022, ht581023, hB581027⟩
  have ac581039 : (fI (F581032 q580978) 9).toInt = p580985.toInt := by rw [he581035]; rfl
  have ac581040 : (fI (F581032 q580978) 10).toInt = p580986.toInt := by rw [he581035]; rfl
  have ac581041 : (fI (F581032 q580978) 32).toInt = p580997.toInt := by rw [he581035]; rfl
  have ac581042 : (fI (F581032 q580978) 30).toInt = p580979.toInt := by rw [he581035]; rfl
  exact G_iretA dr_cX17_no_6 rfl (Nat.le_of_ble_eq_true rfl) (Nat.le_of_ble_eq_true rfl) ⟨F581032, rfl, rfl, hT581038, hs581036, (Nat.le_of_ble_eq_true rfl), (Nat.le_of_ble_eq_true rfl), (by have qa0 : Int32.toInt 0 = 0 := (by decide); omega), (by have qa0 : Int32.toInt 0 = 0 := (by decide); omega), (by have qa0 : Int32.toInt 0 = 0 := (by decide); omega), (by have qa0 : Int32.toInt 0 = 0 := (by decide); omega), (fun R c1 => c1 F581032 n581034 fq581037)⟩
/- tr_RModel_told: result, F -/
def tr_RModel_told (D : va_G) (I : FieldType → ClassId) (γ el : Nat → Nat → Nat) (P : List Nat) (F : Nat → va_E) (q0 : Nat) (a1 : Int32) (o1 : Int32) (o2 : Nat → va_E) : Prop := ∀ R : (Int32) → (Nat → va_E) → Prop,
  (∀ (x1 : Nat → va_E) (x2 : Int32), (∀ b, b ≠ q0 → x1 b = F b) → x1 q0 = cF (F q0) 30 (.int 0) → a1.toInt = 0 → fI (x1 q0) 23 = x2 → x2.toInt ≠ 0 → R (0 : Int32) x1) →
  (∀ (x1 : Nat → va_E) (x2 : Int32) (x3 : Int32), (∀ b, b ≠ q0 → x1 b = F b) → x1 q0 = cF (F q0) 30 (.int 0) → a1.toInt = 0 → fI (x1 q0) 23 = x2 → x2.toInt = 0 → fI (x1 q0) 24 = x3 → R x3 x1) →
  (∀ (x1 : Nat → va_E) (x2 : Int32), (∀ b, b ≠ q0 → x1 b = F b) → x1 q0 = cF (F q0) 30 (.int 0) → a1.toInt = 1 → fI (x1 q0) 25 = x2 → R x2 x1) →
  (∀ (x1 : Nat → va_E) (x2 : Int32), (∀ b, b ≠ q0 → x1 b = F b) → x1 q0 = cF (F q0) 30 (.int 0) → a1.toInt = 2 → fI (x1 q0) 26 = x2 → R x2 x1) →
  (∀ (x1 : Nat → va_E) (x2 : Int32), (∀ b, b ≠ q0 → x1 b = F b) → x1 q0 = cF (F q0) 30 (.int 0) → a1.toInt = 3 → fI (x1 q0) 27 = x2 → R x2 x1) →
  (∀ (x1 : Nat → va_E) (x2 : Int32), (∀ b, b ≠ q0 → x1 b = F b) → x1 q0 = cF (F q0) 30 (.int 0) → a1.toInt = 4 → fI (x1 q0) 23 = x2 → R x2 x1) →
  (∀ (x1 : Nat → va_E) (x2 : Nat → va_E), (∀ b, b ≠ q0 → x1 b = F b) → x1 q0 = cF (F q0) 30 (.int 0) → a1.toInt ≠ 0 → a1.toInt ≠ 1 → a1.toInt ≠ 2 → a1.toInt ≠ 3 → a1.toInt ≠ 4 → RS D I P x2 γ el → rStr γ [] x1 x2 → (fI (x2 q0) 9).toInt = (fI (x1 q0) 9).toInt → (fI (x2 q0) 10).toInt = (fI (x1 q0) 10).toInt → (fI (x2 q0) 32).toInt = (fI (x1 q0) 32).toInt → (fI (x2 q0) 30).toInt = 1 → tr_RModel_no D I γ el x1 q0 (1 : Int32) x2 → R (0 : Int32) x2) →
  R o1 o2
abbrev ky_580880_SpillForgeModel_told : gKey := (cX17_told, 2, "SpillForgeModel", (some FieldType.int), [], "told", fun _ _ => True)
def pt_580880_SpillForgeModel_told (D : va_G) (I : FieldType → ClassId) (γ el : Nat → Nat → Nat) (P580876 : List Nat) (F580877 : Nat → va_E) (q580878 : Nat) (p580879 : Int32) : Option Value → va_W → Nat → Nat → Prop := fun r w dc ds => ∃ (F581115 : Nat → va_E) (o581114 : Int32), r = some (.int o581114) ∧ w = va_pl P580876 F581115 ∧ RS D I P580876 F581115 γ el ∧ rStr γ [] F580877 F581115 ∧ dc ≤ 0 ∧ ds ≤ 0 ∧ (fI (F581115 q580878) 9).toInt = (fI (F580877 q580878) 9).toInt ∧ (fI (F581115 q580878) 10).toInt = (fI (F580877 q580878) 10).toInt ∧ (fI (F581115 q580878) 32).toInt = (fI (F580877 q580878) 32).toInt ∧ tr_RModel_told D I γ el P580876 F580877 q580878 p580879 o581114 F581115
set_option maxRecDepth 100000 in
set_option maxHeartbeats 4000000 in
theorem ct_580880_SpillForgeModel_told (l : Launch) (hl0 : l.stackTraces = false) (D : va_G) (I : FieldType → ClassId) (γ el : Nat → Nat → Nat) (P580876 : List Nat) (F580877 : Nat → va_E) (q580878 : Nat) (p580879 : Int32) (hT : RS D I P580876 F580877 γ el) (htq580878 : rKd γ q580878 10) : CtA (gV D I) l yX17_told cX17_told 2 (some FieldType.int) 1 21 0 0 [.ref q580878, .int p580879] (va_pl P580876 F580877) (pt_580880_SpillForgeModel_told D I γ el P580876 F580877 q580878 p580879) gNA := by
  refine CtA_of hl0 (by decide) (Nat.le_of_ble_eq_true rfl) ?_
  have bp580879 := gB_any p580879
  have hm580881 : q580878 ∈ P580876 := RS_m hT htq580878 (by decide)
  refine rk10_e (show rk_10 γ (F580877 q580878) from RS_o hT htq580878) (fun q580883 q580884 p580885 p580886 p580887 p580888 p580889 p580890 p580891 p580892 p580893 p580894 p580895 p580896 p580897 p580898 p580899 he580882 hB580926 ht580900 ht580901 ht580902 ht580903 ht580904 ht580905 ht580906 ht580907 ht580908 ht580909 ht580910 ht580911 ht580912 ht580913 ht580914 ht580915 ht580916 ht580917 ht580918 ht580919 ht580920 ht580921 ht580922 ht580923 hB580927 => ?_)
  have ac580928 : (fI (F580877 q580878) 9).toInt = p580885.toInt := by rw [he580882]; rfl
  have bp580885 : gB p580885 0 1 := (hB580926.1)
  have ac580929 : (fI (F580877 q580878) 10).toInt = p580886.toInt := by rw [he580882]; rfl
  have bp580886 : gB p580886 0 1 := (hB580926.2.1)
  have ac580930 : (fI (F580877 q580878) 32).toInt = p580897.toInt := by rw [he580882]; rfl
  have bp580897 : gB p580897 0 8192 := (hB580926.2.2.2.2.2.2.2.1)
  refine G_aload_n 0 dr_cX17_told_0 rfl ?_
  refine G_iconst 0 dr_cX17_told_1 (by decide +kernel) ?_
  refine Gp_put 30 hm580881 he580882 dr_cX17_told_2 (gk_X17 D I) (Nat.le_of_ble_eq_true rfl) wr_7_104 rfl rfl rfl (Nat.le_of_ble_eq_true rfl) (fun F580931 e580932 n580933 => ?_)
  have he580934 : F580931 q580878 = .inr (22, [.ref (γ 9 0), .ref (γ 9 1), .ref (γ 9 2), .ref (γ 9 3), .ref (γ 9 4), .ref (γ 9 5), .ref (γ 9 6), .ref (γ 9 7), .ref (γ 9 8), .int p580885, .int p580886, .int p580887, .int p580888, .int p580889, .int p580890, .ref (γ 9 15), .ref (γ 9 16), .ref (γ 9 17), .ref (γ 9 18), .ref (γ 9 19), .ref (γ 9 20), .ref (γ 9 21), .ref (γ 9 22), .int p580891, .int p580892, .int p580893, .int p580894, .int p580895, .ref q580883, .ref (γ 9 29), .int 0, .ref (γ 9 31), .int p580897, .int p580898, .int p580899, .ref q580884]) := e580932
  have hs580935 : rStr γ [] F580877 F580931 := rStr_put (rStr_rf (γ := γ) (W := []) (F := F580877)) n580933 htq580878 (by decide)
  have fq580936 : F580931 q580878 = cF (F580877 q580878) 30 (.int 0) := by rw [he580934, he580882]; rfl
  refine G_iload_n 1 dr_cX17_told_5 rfl ?_
  by_cases hs580937 : p580879 = 0
  · have ehs580937 : p580879.toInt = 0 := gj_eq hs580937 (show Int32.toInt 0 = 0 by decide)
    have bp580879' : gB p580879 0 0 := ⟨by omega, by omega⟩
    refine G_eqi (y := 0) hs580937 ?_
    refine G_tableIn 40 dr_cX17_told_6 (by decide) (by decide) (by first | rfl | decide) (by decide) ?_
    refine G_aload_n 0 dr_cX17_told_40 rfl ?_
    have fq580938 : fI (F580931 q580878) 23 = p580891 := by rw [he580934]; rfl
    refine Gp_get 23 hm580881 he580934 dr_cX17_told_41 (gk_X17 D I) (Nat.le_of_ble_eq_true rfl) wr_7_97 rfl ?_
    have bp580891 : gB p580891 (-2147483648) 2147483647 := (gB_any p580891)
    refine G_if_ne 54 dr_cX17_told_44 (by decide +kernel) (fun hc580939 => ?_) (fun hc580939 => ?_)
    · have r580940 : p580891.toInt ≠ 0 := gj_neq hc580939 (show Int32.toInt 0 = 0 by decide)
      refine G_iconst 0 dr_cX17_told_54 (by decide +kernel) ?_
      have hT580941 : RS D I P580876 F580931 γ el := RS_set hT n580933 htq580878 (by decide) ⟨q580883, q580884, p580885, p580886, p580887, p580888, p580889, p580890, p580891, p580892, p580893, p580894, p580895, 0, p580897, p580898, p580899, he580934, ⟨bp580885, bp580886, (hB580926.2.2.1), (hB580926.2.2.2.1), (hB580926.2.2.2.2.1), (hB580926.2.2.2.2.2.1), (hB580926.2.2.2.2.2.2.1), bp580897, (hB580926.2.2.2.2.2.2.2.2)⟩, ht580900, ht580901, ht580902, ht580903, ht580904, ht580905, ht580906, ht580907, ht580908, ht580909, ht580910, ht580911, ht580912, ht580913, ht580914, ht580915, ht580916, ht580917, ht580918, ht580919, ht580920, ht580921, ht580922, ht580923, hB580927⟩
      have ac580942 : (fI (F580931 q580878) 9).toInt = p580885.toInt := by rw [he580934]; rfl
      have ac580943 : (fI (F580931 q580878) 10).toInt = p580886.toInt := by rw [he580934]; rfl
      have ac580944 : (fI (F580931 q580878) 32).toInt = p580897.toInt := by rw [he580934]; rfl
      exact G_iretA dr_cX17_told_55 rfl (Nat.le_of_ble_eq_true rfl) (Nat.le_of_ble_eq_true rfl) ⟨F580931, 0, rfl, rfl, hT580941, hs580935, (Nat.le_of_ble_eq_true rfl), (Nat.le_of_ble_eq_true rfl), (by have qa0 : Int32.toInt 0 = 0 := (by decide); omega), (by have qa0 : Int32.toInt 0 = 0 := (by decide); omega), (by have qa0 : Int32.toInt 0 = 0 := (by decide); omega), (fun R c1 c2 c3 c4 c5 c6 c7 => c1 F580931 p580891 n580933 fq580936 ehs580937 fq580938 r580940)⟩
    · have r580945 : p580891.toInt = 0 := gj_eq hc580939 (show Int32.toInt 0 = 0 by decide)
      have bp580891' : gB p580891 0 0 := ⟨by omega, by omega⟩
      refine G_aload_n 0 dr_cX17_told_47 rfl ?_
      have fq580946 : fI (F580931 q580878) 24 = p580892 := by rw [he580934]; rfl
      refine Gp_get 24 hm580881 he580934 dr_cX17_told_48 (gk_X17 D I) (Nat.le_of_ble_eq_true rfl) wr_7_98 rfl ?_
      have bp580892 : gB p580892 (-2147483648) 2147483647 := (gB_any p580892)
      refine G_goto 55 dr_cX17_told_51 (by decide +kernel) ?_
      have hT580947 : RS D I P580876 F580931 γ el := RS_set hT n580933 htq580878 (by decide) ⟨q580883, q580884, p580885, p580886, p580887, p580888, p580889, p580890, p580891, p580892, p580893, p580894, p580895, 0, p580897, p580898, p580899, he580934, ⟨bp580885, bp580886, (hB580926.2.2.1), (hB580926.2.2.2.1), (hB580926.2.2.2.2.1), (hB580926.2.2.2.2.2.1), (hB580926.2.2.2.2.2.2.1), bp580897, (hB580926.2.2.2.2.2.2.2.2)⟩, ht580900, ht580901, ht580902, ht580903, ht580904, ht580905, ht580906, ht580907, ht580908, ht580909, ht580910, ht580911, ht580912, ht580913, ht580914, ht580915, ht580916, ht580917, ht580918, ht580919, ht580920, ht580921, ht580922, ht580923, hB580927⟩
      have ac580948 : (fI (F580931 q580878) 9).toInt = p580885.toInt := by rw [he580934]; rfl
      have ac580949 : (fI (F580931 q580878) 10).toInt = p580886.toInt := by rw [he580934]; rfl
      have ac580950 : (fI (F580931 q580878) 32).toInt = p580897.toInt := by rw [he580934]; rfl
      exact G_iretA dr_cX17_told_55 rfl (Nat.le_of_ble_eq_true rfl) (Nat.le_of_ble_eq_true rfl) ⟨F580931, p580892, rfl, rfl, hT580947, hs580935, (Nat.le_of_ble_eq_true rfl), (Nat.le_of_ble_eq_true rfl), (by omega), (by omega), (by omega), (fun R c1 c2 c3 c4 c5 c6 c7 => c2 F580931 p580891 p580892 n580933 fq580936 ehs580937 fq580938 r580945 fq580946)⟩
  by_cases hs580951 : p580879 = 1
  · have ehs580951 : p580879.toInt = 1 := gj_eq hs580951 (show Int32.toInt 1 = 1 by decide)
    have bp580879' : gB p580879 1 1 := ⟨by omega, by omega⟩
    refine G_eqi (y := 1) hs580951 ?_
    refine G_tableIn 56 dr_cX17_told_6 (by decide) (by decide) (by first | rfl | decide) (by decide) ?_
    refine G_aload_n 0 dr_cX17_told_56 rfl ?_
    have fq580952 : fI (F580931 q580878) 25 = p580893 := by rw [he580934]; rfl
    refine Gp_get 25 hm580881 he580934 dr_cX17_told_57 (gk_X17 D I) (Nat.le_of_ble_eq_true rfl) wr_7_99 rfl ?_
    have bp580893 : gB p580893 0 512 := (hB580926.2.2.2.2.1)
    have hT580953 : RS D I P580876 F580931 γ el := RS_set hT n580933 htq580878 (by decide) ⟨q580883, q580884, p580885, p580886, p580887, p580888, p580889, p580890, p580891, p580892, p580893, p580894, p580895, 0, p580897, p580898, p580899, he580934, ⟨bp580885, bp580886, (hB580926.2.2.1), (hB580926.2.2.2.1), bp580893, (hB580926.2.2.2.2.2.1), (hB580926.2.2.2.2.2.2.1), bp580897, (hB580926.2.2.2.2.2.2.2.2)⟩, ht580900, ht580901, ht580902, ht580903, ht580904, ht580905, ht580906, ht580907, ht580908, ht580909, ht580910, ht580911, ht580912, ht580913, ht580914, ht580915, ht580916, ht580917, ht580918, ht580919, ht580920, ht580921, ht580922, ht580923, hB580927⟩
    have ac580954 : (fI (F580931 q580878) 9).toInt = p580885.toInt := by rw [he580934]; rfl
    have ac580955 : (fI (F580931 q580878) 10).toInt = p580886.toInt := by rw [he580934]; rfl
    have ac580956 : (fI (F580931 q580878) 32).toInt = p580897.toInt := by rw [he580934]; rfl
    exact G_iretA dr_cX17_told_60 rfl (Nat.le_of_ble_eq_true rfl) (Nat.le_of_ble_eq_true rfl) ⟨F580931, p580893, rfl, rfl, hT580953, hs580935, (Nat.le_of_ble_eq_true rfl), (Nat.le_of_ble_eq_true rfl), (by omega), (by omega), (by omega), (fun R c1 c2 c3 c4 c5 c6 c7 => c3 F580931 p580893 n580933 fq580936 ehs580951 fq580952)⟩
  by_cases hs580957 : p580879 = 2
  · have ehs580957 : p580879.toInt = 2 := gj_eq hs580957 (show Int32.toInt 2 = 2 by decide)
    have bp580879' : gB p580879 2 2 := ⟨by omega, by omega⟩
    refine G_eqi (y := 2) hs580957 ?_
    refine G_tableIn 61 dr_cX17_told_6 (by decide) (by decide) (by first | rfl | decide) (by decide) ?_
    refine G_aload_n 0 dr_cX17_told_61 rfl ?_
    have fq580958 : fI (F580931 q580878) 26 = p580894 := by rw [he580934]; rfl
    refine Gp_get 26 hm580881 he580934 dr_cX17_told_62 (gk_X17 D I) (Nat.le_of_ble_eq_true rfl) wr_7_100 rfl ?_
    have bp580894 : gB p580894 0 100000 := (hB580926.2.2.2.2.2.1)
    have hT580959 : RS D I P580876 F580931 γ el := RS_set hT n580933 htq580878 (by decide) ⟨q580883, q580884, p580885, p580886, p580887, p580888, p580889, p580890, p580891, p580892, p580893, p580894, p580895, 0, p580897, p580898, p580899, he580934, ⟨bp580885, bp580886, (hB580926.2.2.1), (hB580926.2.2.2.1), (hB580926.2.2.2.2.1), bp580894, (hB580926.2.2.2.2.2.2.1), bp580897, (hB580926.2.2.2.2.2.2.2.2)⟩, ht580900, ht580901, ht580902, ht580903, ht580904, ht580905, ht580906, ht580907, ht580908, ht580909, ht580910, ht580911, ht580912, ht580913, ht580914, ht580915, ht580916, ht580917, ht580918, ht580919, ht580920, ht580921, ht580922, ht580923, hB580927⟩
    have ac580960 : (fI (F580931 q580878) 9).toInt = p580885.toInt := by rw [he580934]; rfl
    have ac580961 : (fI (F580931 q580878) 10).toInt = p580886.toInt := by rw [he580934]; rfl
    have ac580962 : (fI (F580931 q580878) 32).toInt = p580897.toInt := by rw [he580934]; rfl
    exact G_iretA dr_cX17_told_65 rfl (Nat.le_of_ble_eq_true rfl) (Nat.le_of_ble_eq_true rfl) ⟨F580931, p580894, rfl, rfl, hT580959, hs580935, (Nat.le_of_ble_eq_true rfl), (Nat.le_of_ble_eq_true rfl), (by omega), (by omega), (by omega), (fun R c1 c2 c3 c4 c5 c6 c7 => c4 F580931 p580894 n580933 fq580936 ehs580957 fq580958)⟩
  by_cases hs580963 : p580879 = 3
  · have ehs580963 : p580879.toInt = 3 := gj_eq hs580963 (show Int32.toInt 3 = 3 by decide)
    have bp580879' : gB p580879 3 3 := ⟨by omega, by omega⟩
    refine G_eqi (y := 3) hs580963 ?_
    refine G_tableIn 66 dr_cX17_told_6 (by decide) (by decide) (by first | rfl | decide) (by decide) ?_
    refine G_aload_n 0 dr_cX17_told_66 rfl ?_
    have fq580964 : fI (F580931 q580878) 27 = p580895 := by rw [he580934]; rfl
    refine Gp_get 27 hm580881 he580934 dr_cX17_told_67 (gk_X17 D I) (Nat.le_of_ble_eq_true rfl) wr_7_101 rfl ?_
    have bp580895 : gB p580895 0 2048 := (hB580926.2.2.2.2.2.2.1)
    have hT580965 : RS D I P580876 F580931 γ el := RS_set hT n580933 htq580878 (by decide) ⟨q580883, q580884, p580885, p580886, p580887, p580888, p580889, p580890, p580891, p580892, p580893, p580894, p580895, 0, p580897, p580898, p580899, he580934, ⟨bp580885, bp580886, (hB580926.2.2.1), (hB580926.2.2.2.1), (hB580926.2.2.2.2.1), (hB580926.2.2.2.2.2.1), bp580895, bp580897, (hB580926.2.2.2.2.2.2.2.2)⟩, ht580900, ht580901, ht580902, ht580903, ht580904, ht580905, ht580906, ht580907, ht580908, ht580909, ht580910, ht580911, ht580912, ht580913, ht580914, ht580915, ht580916, ht580917, ht580918, ht580919, ht580920, ht580921, ht580922, ht580923, hB580927⟩
    have ac580966 : (fI (F580931 q580878) 9).toInt = p580885.toInt := by rw [he580934]; rfl
    have ac580967 : (fI (F580931 q580878) 10).toInt = p580886.toInt := by rw [he580934]; rfl
    have ac580968 : (fI (F580931 q580878) 32).toInt = p580897.toInt := by rw [he580934]; rfl
    exact G_iretA dr_cX17_told_70 rfl (Nat.le_of_ble_eq_true rfl) (Nat.le_of_ble_eq_true rfl) ⟨F580931, p580895, rfl, rfl, hT580965, hs580935, (Nat.le_of_ble_eq_true rfl), (Nat.le_of_ble_eq_true rfl), (by omega), (by omega), (by omega), (fun R c1 c2 c3 c4 c5 c6 c7 => c5 F580931 p580895 n580933 fq580936 ehs580963 fq580964)⟩
  by_cases hs580969 : p580879 = 4
  · have ehs580969 : p580879.toInt = 4 := gj_eq hs580969 (show Int32.toInt 4 = 4 by decide)
    have bp580879' : gB p580879 4 4 := ⟨by omega, by omega⟩
    refine G_eqi (y := 4) hs580969 ?_
    refine G_tableIn 71 dr_cX17_told_6 (by decide) (by decide) (by first | rfl | decide) (by decide) ?_
    refine G_aload_n 0 dr_cX17_told_71 rfl ?_
    have fq580970 : fI (F580931 q580878) 23 = p580891 := by rw [he580934]; rfl
    refine Gp_get 23 hm580881 he580934 dr_cX17_told_72 (gk_X17 D I) (Nat.le_of_ble_eq_true rfl) wr_7_97 rfl ?_
    have bp580891 : gB p580891 (-2147483648) 2147483647 := (gB_any p580891)
    have hT580971 : RS D I P580876 F580931 γ el := RS_set hT n580933 htq580878 (by decide) ⟨q580883, q580884, p580885, p580886, p580887, p580888, p580889, p580890, p580891, p580892, p580893, p580894, p580895, 0, p580897, p580898, p580899, he580934, ⟨bp580885, bp580886, (hB580926.2.2.1), (hB580926.2.2.2.1), (hB580926.2.2.2.2.1), (hB580926.2.2.2.2.2.1), (hB580926.2.2.2.2.2.2.1), bp580897, (hB580926.2.2.2.2.2.2.2.2)⟩, ht580900, ht580901, ht580902, ht580903, ht580904, ht580905, ht580906, ht580907, ht580908, ht580909, ht580910, ht580911, ht580912, ht580913, ht580914, ht580915, ht580916, ht580917, ht580918, ht580919, ht580920, ht580921, ht580922, ht580923, hB580927⟩
    have ac580972 : (fI (F580931 q580878) 9).toInt = p580885.toInt := by rw [he580934]; rfl
    have ac580973 : (fI (F580931 q580878) 10).toInt = p580886.toInt := by rw [he580934]; rfl
    have ac580974 : (fI (F580931 q580878) 32).toInt = p580897.toInt := by rw [he580934]; rfl
    exact G_iretA dr_cX17_told_75 rfl (Nat.le_of_ble_eq_true rfl) (Nat.le_of_ble_eq_true rfl) ⟨F580931, p580891, rfl, rfl, hT580971, hs580935, (Nat.le_of_ble_eq_true rfl), (Nat.le_of_ble_eq_true rfl), (by omega), (by omega), (by omega), (fun R c1 c2 c3 c4 c5 c6 c7 => c6 F580931 p580891 n580933 fq580936 ehs580969 fq580970)⟩
  have ehs580937 := lv_neT hs580937 (show Int32.toInt 0 = 0 by decide)
  have ehs580951 := lv_neT hs580951 (show Int32.toInt 1 = 1 by decide)
  have ehs580957 := lv_neT hs580957 (show Int32.toInt 2 = 2 by decide)
  have ehs580963 := lv_neT hs580963 (show Int32.toInt 3 = 3 by decide)
  have ehs580969 := lv_neT hs580969 (show Int32.toInt 4 = 4 by decide)
  refine G_tableOut 76 dr_cX17_told_6 (by omega) (by decide) ?_
  refine G_aload_n 0 dr_cX17_told_76 rfl ?_
  refine G_iconst 1 dr_cX17_told_77 (by decide +kernel) ?_
  have hT580975 : RS D I P580876 F580931 γ el := RS_set hT n580933 htq580878 (by decide) ⟨q580883, q580884, p580885, p580886, p580887, p580888, p580889, p580890, p580891, p580892, p580893, p580894, p580895, 0, p580897, p580898, p580899, he580934, ⟨bp580885, bp580886, (hB580926.2.2.1), (hB580926.2.2.2.1), (hB580926.2.2.2.2.1), (hB580926.2.2.2.2.2.1), (hB580926.2.2.2.2.2.2.1), bp580897, (hB580926.2.2.2.2.2.2.2.2)⟩, ht580900, ht580901, ht580902, ht580903, ht580904, ht580905, ht580906, ht580907, ht580908, ht580909, ht580910, ht580911, ht580912, ht580913, ht580914, ht580915, ht580916, ht580917, ht580918, ht580919, ht580920, ht580921, ht580922, ht580923, hB580927⟩
  have ac581044 : (fI (F580931 q580878) 9).toInt = p580885.toInt := by rw [he580934]; rfl
  have ac581045 : (fI (F580931 q580878) 10).toInt = p580886.toInt := by rw [he580934]; rfl
  have ac581046 : (fI (F580931 q580878) 32).toInt = p580897.toInt := by rw [he580934]; rfl
  refine Gw_callV (As := [.int 1]) (gV_ok D I) (ct_580980_SpillForgeModel_no l hl0 D I γ el P580876 F580931 q580878 1 hT580975 htq580878) dr_cX17_told_78 ⟨wr_7_191, wr_1_14, wr_7_194, by decide, rfl, (Nat.le_of_ble_eq_true rfl), (Nat.le_of_ble_eq_true rfl)⟩ wr_7_193 wr_p_73 hm580881 he580934 rfl (show 0 + 0 ≤ 0 by first | omega | decide) (show 0 + 0 ≤ 0 by first | omega | decide) (Nat.le_of_ble_eq_true rfl) (fun r581050 w581051 dc581047 ds581048 hp581049 => ?_) (fun _ _ _ _ _ z => z.elim)
  obtain ⟨F581057, rfl, rfl, hT581058, hs581059, hdc, hds, x581052, x581053, x581054, x581055, ht581056⟩ := hp581049
  have hs581060 : rStr γ [] F580877 F581057 := rStr_tr hs580935 hs581059
  rw [show Int32.toInt 1 = 1 from by decide] at x581055
  change G _ _ _ _ _ _ _ (.int 0 :: _) _ _ _
  refine G_widen (cs' := 0) (sl' := 0) (by omega) (by omega) ?_
  have hm581061 : q580878 ∈ P580876 := RS_m hT581058 htq580878 (by decide)
  refine rk10_e (show rk_10 γ (F581057 q580878) from RS_o hT581058 htq580878) (fun q581063 q581064 p581065 p581066 p581067 p581068 p581069 p581070 p581071 p581072 p581073 p581074 p581075 p581076 p581077 p581078 p581079 he581062 hB581106 ht581080 ht581081 ht581082 ht581083 ht581084 ht581085 ht581086 ht581087 ht581088 ht581089 ht581090 ht581091 ht581092 ht581093 ht581094 ht581095 ht581096 ht581097 ht581098 ht581099 ht581100 ht581101 ht581102 ht581103 hB581107 => ?_)
  have ac581108 : (fI (F581057 q580878) 9).toInt = p581065.toInt := by rw [he581062]; rfl
  have bp581065 : gB p581065 0 1 := (hB581106.1)
  have ac581109 : (fI (F581057 q580878) 10).toInt = p581066.toInt := by rw [he581062]; rfl
  have bp581066 : gB p581066 0 1 := (hB581106.2.1)
  have ac581110 : (fI (F581057 q580878) 32).toInt = p581077.toInt := by rw [he581062]; rfl
  have bp581077 : gB p581077 0 8192 := (hB581106.2.2.2.2.2.2.2.1)
  have ac581111 : (fI (F581057 q580878) 9).toInt = p581065.toInt := by rw [he581062]; rfl
  have ac581112 : (fI (F581057 q580878) 10).toInt = p581066.toInt := by rw [he581062]; rfl
  have ac581113 : (fI (F581057 q580878) 32).toInt = p581077.toInt := by rw [he581062]; rfl
  exact G_iretA dr_cX17_told_81 rfl (Nat.le_of_ble_eq_true rfl) (Nat.le_of_ble_eq_true rfl) ⟨F581057, 0, rfl, rfl, hT581058, hs581060, (Nat.le_of_ble_eq_true rfl), (Nat.le_of_ble_eq_true rfl), (by have qa0 : Int32.toInt 0 = 0 := (by decide); omega), (by have qa0 : Int32.toInt 0 = 0 := (by decide); omega), (by have qa0 : Int32.toInt 0 = 0 := (by decide); omega), (fun R c1 c2 c3 c4 c5 c6 c7 => c7 F580931 F581057 n580933 fq580936 ehs580937 ehs580951 ehs580957 ehs580963 ehs580969 hT581058 hs581059 x581052 x581053 x581054 x581055 ht581056)⟩
/- tr_RModel_shown: result, F -/
def tr_RModel_shown (D : va_G) (I : FieldType → ClassId) (γ el : Nat → Nat → Nat) (P : List Nat) (F : Nat → va_E) (q0 : Nat) (a1 : Int32) (o1 : Int32) (o2 : Nat → va_E) : Prop := ∀ R : (Int32) → (Nat → va_E) → Prop,
  (∀ (x1 : Nat → va_E) (x2 : Nat → va_E), (∀ b, b ≠ q0 → x1 b = F b) → x1 q0 = cF (F q0) 30 (.int 0) → a1.toInt < 0 → RS D I P x2 γ el → rStr γ [] x1 x2 → (fI (x2 q0) 9).toInt = (fI (x1 q0) 9).toInt → (fI (x2 q0) 10).toInt = (fI (x1 q0) 10).toInt → (fI (x2 q0) 32).toInt = (fI (x1 q0) 32).toInt → (fI (x2 q0) 30).toInt = 1 → tr_RModel_no D I γ el x1 q0 (1 : Int32) x2 → R (0 : Int32) x2) →
  (∀ (x1 : Nat → va_E) (x2 : Int32) (x3 : Nat → va_E), (∀ b, b ≠ q0 → x1 b = F b) → x1 q0 = cF (F q0) 30 (.int 0) → 0 ≤ a1.toInt → fI (x1 q0) 25 = x2 → x2.toInt ≤ a1.toInt → RS D I P x3 γ el → rStr γ [] x1 x3 → (fI (x3 q0) 9).toInt = (fI (x1 q0) 9).toInt → (fI (x3 q0) 10).toInt = (fI (x1 q0) 10).toInt → (fI (x3 q0) 32).toInt = (fI (x1 q0) 32).toInt → (fI (x3 q0) 30).toInt = 1 → tr_RModel_no D I γ el x1 q0 (1 : Int32) x3 → R (0 : Int32) x3) →
  (∀ (x1 : Nat → va_E) (x2 : Int32) (x3 : Nat → Int32) (x4 : Int32), (∀ b, b ≠ q0 → x1 b = F b) → x1 q0 = cF (F q0) 30 (.int 0) → 0 ≤ a1.toInt → fI (x1 q0) 25 = x2 → a1.toInt < x2.toInt → fR (x1 q0) 22 = (γ 9 22) → x1 (γ 9 22) = .inl (I .int, 512, .inl x3) → x4 = x3 a1.toNatClampNeg → R x4 x1) →
  R o1 o2
abbrev ky_581120_SpillForgeModel_shown : gKey := (cX17_shown, 2, "SpillForgeModel", (some FieldType.int), [], "shown", fun _ _ => True)
def pt_581120_SpillForgeModel_shown (D : va_G) (I : FieldType → ClassId) (γ el : Nat → Nat → Nat) (P581116 : List Nat) (F581117 : Nat → va_E) (q581118 : Nat) (p581119 : Int32) : Option Value → va_W → Nat → Nat → Prop := fun r w dc ds => ∃ (F581336 : Nat → va_E) (o581335 : Int32), r = some (.int o581335) ∧ w = va_pl P581116 F581336 ∧ RS D I P581116 F581336 γ el ∧ rStr γ [] F581117 F581336 ∧ dc ≤ 0 ∧ ds ≤ 0 ∧ (fI (F581336 q581118) 9).toInt = (fI (F581117 q581118) 9).toInt ∧ (fI (F581336 q581118) 10).toInt = (fI (F581117 q581118) 10).toInt ∧ (fI (F581336 q581118) 32).toInt = (fI (F581117 q581118) 32).toInt ∧ tr_RModel_shown D I γ el P581116 F581117 q581118 p581119 o581335 F581336
set_option maxRecDepth 100000 in
set_option maxHeartbeats 4000000 in
theorem ct_581120_SpillForgeModel_shown (l : Launch) (hl0 : l.stackTraces = false) (D : va_G) (I : FieldType → ClassId) (γ el : Nat → Nat → Nat) (P581116 : List Nat) (F581117 : Nat → va_E) (q581118 : Nat) (p581119 : Int32) (hT : RS D I P581116 F581117 γ el) (htq581118 : rKd γ q581118 10) : CtA (gV D I) l yX17_shown cX17_shown 2 (some FieldType.int) 1 21 0 0 [.ref q581118, .int p581119] (va_pl P581116 F581117) (pt_581120_SpillForgeModel_shown D I γ el P581116 F581117 q581118 p581119) gNA := by
  refine CtA_of hl0 (by decide) (Nat.le_of_ble_eq_true rfl) ?_
  have bp581119 := gB_any p581119
  have hm581121 : q581118 ∈ P581116 := RS_m hT htq581118 (by decide)
  refine rk10_e (show rk_10 γ (F581117 q581118) from RS_o hT htq581118) (fun q581123 q581124 p581125 p581126 p581127 p581128 p581129 p581130 p581131 p581132 p581133 p581134 p581135 p581136 p581137 p581138 p581139 he581122 hB581166 ht581140 ht581141 ht581142 ht581143 ht581144 ht581145 ht581146 ht581147 ht581148 ht581149 ht581150 ht581151 ht581152 ht581153 ht581154 ht581155 ht581156 ht581157 ht581158 ht581159 ht581160 ht581161 ht581162 ht581163 hB581167 => ?_)
  have ac581168 : (fI (F581117 q581118) 9).toInt = p581125.toInt := by rw [he581122]; rfl
  have bp581125 : gB p581125 0 1 := (hB581166.1)
  have ac581169 : (fI (F581117 q581118) 10).toInt = p581126.toInt := by rw [he581122]; rfl
  have bp581126 : gB p581126 0 1 := (hB581166.2.1)
  have ac581170 : (fI (F581117 q581118) 32).toInt = p581137.toInt := by rw [he581122]; rfl
  have bp581137 : gB p581137 0 8192 := (hB581166.2.2.2.2.2.2.2.1)
  refine G_aload_n 0 dr_cX17_shown_0 rfl ?_
  refine G_iconst 0 dr_cX17_shown_1 (by decide +kernel) ?_
  refine Gp_put 30 hm581121 he581122 dr_cX17_shown_2 (gk_X17 D I) (Nat.le_of_ble_eq_true rfl) wr_7_104 rfl rfl rfl (Nat.le_of_ble_eq_true rfl) (fun F581171 e581172 n581173 => ?_)
  have he581174 : F581171 q581118 = .inr (22, [.ref (γ 9 0), .ref (γ 9 1), .ref (γ 9 2), .ref (γ 9 3), .ref (γ 9 4), .ref (γ 9 5), .ref (γ 9 6), .ref (γ 9 7), .ref (γ 9 8), .int p581125, .int p581126, .int p581127, .int p581128, .int p581129, .int p581130, .ref (γ 9 15), .ref (γ 9 16), .ref (γ 9 17), .ref (γ 9 18), .ref (γ 9 19), .ref (γ 9 20), .ref (γ 9 21), .ref (γ 9 22), .int p581131, .int p581132, .int p581133, .int p581134, .int p581135, .ref q581123, .ref (γ 9 29), .int 0, .ref (γ 9 31), .int p581137, .int p581138, .int p581139, .ref q581124]) := e581172
  have hs581175 : rStr γ [] F581117 F581171 := rStr_put (rStr_rf (γ := γ) (W := []) (F := F581117)) n581173 htq581118 (by decide)
  have fq581176 : F581171 q581118 = cF (F581117 q581118) 30 (.int 0) := by rw [he581174, he581122]; rfl
  refine G_iload_n 1 dr_cX17_shown_5 rfl ?_
  refine G_if_lt 26 dr_cX17_shown_6 (by decide +kernel) (fun hc581177 => ?_) (fun hc581177 => ?_)
  · have r581178 : p581119.toInt < 0 := gj_lt hc581177 (show Int32.toInt 0 = 0 by decide)
    have bp581119' : gB p581119 (-2147483648) (-1) := ⟨by omega, by omega⟩
    refine G_aload_n 0 dr_cX17_shown_26 rfl ?_
    refine G_iconst 1 dr_cX17_shown_27 (by decide +kernel) ?_
    have hT581179 : RS D I P581116 F581171 γ el := RS_set hT n581173 htq581118 (by decide) ⟨q581123, q581124, p581125, p581126, p581127, p581128, p581129, p581130, p581131, p581132, p581133, p581134, p581135, 0, p581137, p581138, p581139, he581174, ⟨bp581125, bp581126, (hB581166.2.2.1), (hB581166.2.2.2.1), (hB581166.2.2.2.2.1), (hB581166.2.2.2.2.2.1), (hB581166.2.2.2.2.2.2.1), bp581137, (hB581166.2.2.2.2.2.2.2.2)⟩, ht581140, ht581141, ht581142, ht581143, ht581144, ht581145, ht581146, ht581147, ht581148, ht581149, ht581150, ht581151, ht581152, ht581153, ht581154, ht581155, ht581156, ht581157, ht581158, ht581159, ht581160, ht581161, ht581162, ht581163, hB581167⟩
    have ac581180 : (fI (F581171 q581118) 9).toInt = p581125.toInt := by rw [he581174]; rfl
    have ac581181 : (fI (F581171 q581118) 10).toInt = p581126.toInt := by rw [he581174]; rfl
    have ac581182 : (fI (F581171 q581118) 32).toInt = p581137.toInt := by rw [he581174]; rfl
    refine Gw_callV (As := [.int 1]) (gV_ok D I) (ct_580980_SpillForgeModel_no l hl0 D I γ el P581116 F581171 q581118 1 hT581179 htq581118) dr_cX17_shown_28 ⟨wr_7_191, wr_1_14, wr_7_194, by decide, rfl, (Nat.le_of_ble_eq_true rfl), (Nat.le_of_ble_eq_true rfl)⟩ wr_7_193 wr_p_73 hm581121 he581174 rfl (show 0 + 0 ≤ 0 by first | omega | decide) (show 0 + 0 ≤ 0 by first | omega | decide) (Nat.le_of_ble_eq_true rfl) (fun r581186 w581187 dc581183 ds581184 hp581185 => ?_) (fun _ _ _ _ _ z => z.elim)
    obtain ⟨F581193, rfl, rfl, hT581194, hs581195, hdc, hds, x581188, x581189, x581190, x581191, ht581192⟩ := hp581185
    have hs581196 : rStr γ [] F581117 F581193 := rStr_tr hs581175 hs581195
    rw [show Int32.toInt 1 = 1 from by decide] at x581191
    change G _ _ _ _ _ _ _ (.int 0 :: _) _ _ _
    refine G_widen (cs' := 0) (sl' := 0) (by omega) (by omega) ?_
    have hm581197 : q581118 ∈ P581116 := RS_m hT581194 htq581118 (by decide)
    refine rk10_e (show rk_10 γ (F581193 q581118) from RS_o hT581194 htq581118) (fun q581199 q581200 p581201 p581202 p581203 p581204 p581205 p581206 p581207 p581208 p581209 p581210 p581211 p581212 p581213 p581214 p581215 he581198 hB581242 ht581216 ht581217 ht581218 ht581219 ht581220 ht581221 ht581222 ht581223 ht581224 ht581225 ht581226 ht581227 ht581228 ht581229 ht581230 ht581231 ht581232 ht581233 ht581234 ht581235 ht581236 ht581237 ht581238 ht581239 hB581243 => ?_)
    have ac581244 : (fI (F581193 q581118) 9).toInt = p581201.toInt := by rw [he581198]; rfl
    have bp581201 : gB p581201 0 1 := (hB581242.1)
    have ac581245 : (fI (F581193 q581118) 10).toInt = p581202.toInt := by rw [he581198]; rfl
    have bp581202 : gB p581202 0 1 := (hB581242.2.1)
    have ac581246 : (fI (F581193 q581118) 32).toInt = p581213.toInt := by rw [he581198]; rfl
    have bp581213 : gB p581213 0 8192 := (hB581242.2.2.2.2.2.2.2.1)
    have ac581247 : (fI (F581193 q581118) 9).toInt = p581201.toInt := by rw [he581198]; rfl
    have ac581248 : (fI (F581193 q581118) 10).toInt = p581202.toInt := by rw [he581198]; rfl
    have ac581249 : (fI (F581193 q581118) 32).toInt = p581213.toInt := by rw [he581198]; rfl
    exact G_iretA dr_cX17_shown_31 rfl (Nat.le_of_ble_eq_true rfl) (Nat.le_of_ble_eq_true rfl) ⟨F581193, 0, rfl, rfl, hT581194, hs581196, (Nat.le_of_ble_eq_true rfl), (Nat.le_of_ble_eq_true rfl), (by have qa0 : Int32.toInt 0 = 0 := (by decide); omega), (by have qa0 : Int32.toInt 0 = 0 := (by decide); omega), (by have qa0 : Int32.toInt 0 = 0 := (by decide); omega), (fun R c1 c2 c3 => c1 F581171 F581193 n581173 fq581176 r581178 hT581194 hs581195 x581188 x581189 x581190 x581191 ht581192)⟩
  · have r581250 : 0 ≤ p581119.toInt := gj_nlt hc581177 (show Int32.toInt 0 = 0 by decide)
    have bp581119' : gB p581119 0 2147483647 := ⟨by omega, by omega⟩
    refine G_iload_n 1 dr_cX17_shown_9 rfl ?_
    refine G_aload_n 0 dr_cX17_shown_10 rfl ?_
    have fq581251 : fI (F581171 q581118) 25 = p581133 := by rw [he581174]; rfl
    refine Gp_get 25 hm581121 he581174 dr_cX17_shown_11 (gk_X17 D I) (Nat.le_of_ble_eq_true rfl) wr_7_99 rfl ?_
    have bp581133 : gB p581133 0 512 := (hB581166.2.2.2.2.1)
    refine G_icmp_ge 26 dr_cX17_shown_14 (by decide +kernel) (fun hc581252 => ?_) (fun hc581252 => ?_)
    · have r581253 : p581133.toInt ≤ p581119.toInt := gC_le hc581252
      refine G_aload_n 0 dr_cX17_shown_26 rfl ?_
      refine G_iconst 1 dr_cX17_shown_27 (by decide +kernel) ?_
      have hT581254 : RS D I P581116 F581171 γ el := RS_set hT n581173 htq581118 (by decide) ⟨q581123, q581124, p581125, p581126, p581127, p581128, p581129, p581130, p581131, p581132, p581133, p581134, p581135, 0, p581137, p581138, p581139, he581174, ⟨bp581125, bp581126, (hB581166.2.2.1), (hB581166.2.2.2.1), bp581133, (hB581166.2.2.2.2.2.1), (hB581166.2.2.2.2.2.2.1), bp581137, (hB581166.2.2.2.2.2.2.2.2)⟩, ht581140, ht581141, ht581142, ht581143, ht581144, ht581145, ht581146, ht581147, ht581148, ht581149, ht581150, ht581151, ht581152, ht581153, ht581154, ht581155, ht581156, ht581157, ht581158, ht581159, ht581160, ht581161, ht581162, ht581163, hB581167⟩
      have ac581255 : (fI (F581171 q581118) 9).toInt = p581125.toInt := by rw [he581174]; rfl
      have ac581256 : (fI (F581171 q581118) 10).toInt = p581126.toInt := by rw [he581174]; rfl
      have ac581257 : (fI (F581171 q581118) 32).toInt = p581137.toInt := by rw [he581174]; rfl
      refine Gw_callV (As := [.int 1]) (gV_ok D I) (ct_580980_SpillForgeModel_no l hl0 D I γ el P581116 F581171 q581118 1 hT581254 htq581118) dr_cX17_shown_28 ⟨wr_7_191, wr_1_14, wr_7_194, by decide, rfl, (Nat.le_of_ble_eq_true rfl), (Nat.le_of_ble_eq_true rfl)⟩ wr_7_193 wr_p_73 hm581121 he581174 rfl (show 0 + 0 ≤ 0 by first | omega | decide) (show 0 + 0 ≤ 0 by first | omega | decide) (Nat.le_of_ble_eq_true rfl) (fun r581261 w581262 dc581258 ds581259 hp581260 => ?_) (fun _ _ _ _ _ z => z.elim)
      obtain ⟨F581268, rfl, rfl, hT581269, hs581270, hdc, hds, x581263, x581264, x581265, x581266, ht581267⟩ := hp581260
      have hs581271 : rStr γ [] F581117 F581268 := rStr_tr hs581175 hs581270
      rw [show Int32.toInt 1 = 1 from by decide] at x581266
      change G _ _ _ _ _ _ _ (.int 0 :: _) _ _ _
      refine G_widen (cs' := 0) (sl' := 0) (by omega) (by omega) ?_
      have hm581272 : q581118 ∈ P581116 := RS_m hT581269 htq581118 (by decide)
      refine rk10_e (show rk_10 γ (F581268 q581118) from RS_o hT581269 htq581118) (fun q581274 q581275 p581276 p581277 p581278 p581279 p581280 p581281 p581282 p581283 p581284 p581285 p581286 p581287 p581288 p581289 p581290 he581273 hB581317 ht581291 ht581292 ht581293 ht581294 ht581295 ht581296 ht581297 ht581298 ht581299 ht581300 ht581301 ht581302 ht581303 ht581304 ht581305 ht581306 ht581307 ht581308 ht581309 ht581310 ht581311 ht581312 ht581313 ht581314 hB581318 => ?_)
      have ac581319 : (fI (F581268 q581118) 9).toInt = p581276.toInt := by rw [he581273]; rfl
      have bp581276 : gB p581276 0 1 := (hB581317.1)
      have ac581320 : (fI (F581268 q581118) 10).toInt = p581277.toInt := by rw [he581273]; rfl
      have bp581277 : gB p581277 0 1 := (hB581317.2.1)
      have ac581321 : (fI (F581268 q581118) 32).toInt = p581288.toInt := by rw [he581273]; rfl
      have bp581288 : gB p581288 0 8192 := (hB581317.2.2.2.2.2.2.2.1)
      have ac581322 : (fI (F581268 q581118) 9).toInt = p581276.toInt := by rw [he581273]; rfl
      have ac581323 : (fI (F581268 q581118) 10).toInt = p581277.toInt := by rw [he581273]; rfl
      have ac581324 : (fI (F581268 q581118) 32).toInt = p581288.toInt := by rw [he581273]; rfl
      exact G_iretA dr_cX17_shown_31 rfl (Nat.le_of_ble_eq_true rfl) (Nat.le_of_ble_eq_true rfl) ⟨F581268, 0, rfl, rfl, hT581269, hs581271, (Nat.le_of_ble_eq_true rfl), (Nat.le_of_ble_eq_true rfl), (by have qa0 : Int32.toInt 0 = 0 := (by decide); omega), (by have qa0 : Int32.toInt 0 = 0 := (by decide); omega), (by have qa0 : Int32.toInt 0 = 0 := (by decide); omega), (fun R c1 c2 c3 => c2 F581171 p581133 F581268 n581173 fq581176 r581250 fq581251 r581253 hT581269 hs581270 x581263 x581264 x581265 x581266 ht581267)⟩
    · have r581325 : p581119.toInt < p581133.toInt := gC_nle hc581252
      have bp581119'' : gB p581119 0 511 := ⟨by omega, by omega⟩
      have bp581133' : gB p581133 1 512 := ⟨by omega, by omega⟩
      refine G_aload_n 0 dr_cX17_shown_17 rfl ?_
      have fq581326 : fR (F581171 q581118) 22 = (γ 9 22) := by rw [he581174]; rfl
      refine Gp_get 22 hm581121 he581174 dr_cX17_shown_18 (gk_X17 D I) (Nat.le_of_ble_eq_true rfl) wr_7_96 rfl ?_
      refine G_iload_n 1 dr_cX17_shown_21 rfl ?_
      have hT581327 : RS D I P581116 F581171 γ el := RS_set hT n581173 htq581118 (by decide) ⟨q581123, q581124, p581125, p581126, p581127, p581128, p581129, p581130, p581131, p581132, p581133, p581134, p581135, 0, p581137, p581138, p581139, he581174, ⟨bp581125, bp581126, (hB581166.2.2.1), (hB581166.2.2.2.1), (gB_w bp581133' (by decide) (by decide)), (hB581166.2.2.2.2.2.1), (hB581166.2.2.2.2.2.2.1), bp581137, (hB581166.2.2.2.2.2.2.2.2)⟩, ht581140, ht581141, ht581142, ht581143, ht581144, ht581145, ht581146, ht581147, ht581148, ht581149, ht581150, ht581151, ht581152, ht581153, ht581154, ht581155, ht581156, ht581157, ht581158, ht581159, ht581160, ht581161, ht581162, ht581163, hB581167⟩
      have hm581328 : (γ 9 22) ∈ P581116 := RS_m hT581327 ht581158 (by decide)
      obtain ⟨f581330, he581329⟩ := show rk_24 I (F581171 (γ 9 22)) from RS_o hT581327 ht581158
      refine Gp_iald 0 hm581328 he581329 dr_cX17_shown_22 rfl (gB_in bp581119'' (by decide) (by decide)) (G_nam fun z581331 hz581331 => ?_)
      have bz581331 : gB z581331 (-2147483648) 2147483647 := gB_any z581331
      refine G_goto 31 dr_cX17_shown_23 (by decide +kernel) ?_
      have ac581332 : (fI (F581171 q581118) 9).toInt = p581125.toInt := by rw [he581174]; rfl
      have ac581333 : (fI (F581171 q581118) 10).toInt = p581126.toInt := by rw [he581174]; rfl
      have ac581334 : (fI (F581171 q581118) 32).toInt = p581137.toInt := by rw [he581174]; rfl
      exact G_iretA dr_cX17_shown_31 rfl (Nat.le_of_ble_eq_true rfl) (Nat.le_of_ble_eq_true rfl) ⟨F581171, z581331, rfl, rfl, hT581327, hs581175, (Nat.le_of_ble_eq_true rfl), (Nat.le_of_ble_eq_true rfl), (by omega), (by omega), (by omega), (fun R c1 c2 c3 => c3 F581171 p581133 f581330 z581331 n581173 fq581176 r581250 fq581251 r581325 fq581326 he581329 hz581331)⟩
/- tr_RModel_thrown: result -/
def tr_RModel_thrown (D : va_G) (I : FieldType → ClassId) (γ el : Nat → Nat → Nat) (F : Nat → va_E) (q0 : Nat) (o1 : Int32) : Prop := ∀ R : (Int32) → Prop,
  (∀ (x1 : Int32), fI (F q0) 30 = x1 → R x1) →
  R o1
abbrev ky_581340_SpillForgeModel_thrown : gKey := (cX17_thrown, 1, "SpillForgeModel", (some FieldType.int), [], "thrown", fun _ _ => True)
def pt_581340_SpillForgeModel_thrown (D : va_G) (I : FieldType → ClassId) (γ el : Nat → Nat → Nat) (P581337 : List Nat) (F581338 : Nat → va_E) (q581339 : Nat) : Option Value → va_W → Nat → Nat → Prop := fun r w dc ds => ∃ (o581391 : Int32), r = some (.int o581391) ∧ w = va_pl P581337 F581338 ∧ dc ≤ 0 ∧ ds ≤ 0 ∧ o581391.toInt = (fI (F581338 q581339) 30).toInt ∧ tr_RModel_thrown D I γ el F581338 q581339 o581391
set_option maxRecDepth 100000 in
set_option maxHeartbeats 4000000 in
theorem ct_581340_SpillForgeModel_thrown (l : Launch) (hl0 : l.stackTraces = false) (D : va_G) (I : FieldType → ClassId) (γ el : Nat → Nat → Nat) (P581337 : List Nat) (F581338 : Nat → va_E) (q581339 : Nat) (hT : RS D I P581337 F581338 γ el) (htq581339 : rKd γ q581339 10) : CtA (gV D I) l yX17_thrown cX17_thrown 1 (some FieldType.int) 0 0 0 0 [.ref q581339] (va_pl P581337 F581338) (pt_581340_SpillForgeModel_thrown D I γ el P581337 F581338 q581339) gNA := by
  refine CtA_of hl0 (by decide) (Nat.le_of_ble_eq_true rfl) ?_
  have hm581341 : q581339 ∈ P581337 := RS_m hT htq581339 (by decide)
  refine rk10_e (show rk_10 γ (F581338 q581339) from RS_o hT htq581339) (fun q581343 q581344 p581345 p581346 p581347 p581348 p581349 p581350 p581351 p581352 p581353 p581354 p581355 p581356 p581357 p581358 p581359 he581342 hB581386 ht581360 ht581361 ht581362 ht581363 ht581364 ht581365 ht581366 ht581367 ht581368 ht581369 ht581370 ht581371 ht581372 ht581373 ht581374 ht581375 ht581376 ht581377 ht581378 ht581379 ht581380 ht581381 ht581382 ht581383 hB581387 => ?_)
  have ac581388 : (fI (F581338 q581339) 30).toInt = p581356.toInt := by rw [he581342]; rfl
  have bp581356 : gB p581356 (-2147483648) 2147483647 := (gB_any p581356)
  refine G_aload_n 0 dr_cX17_thrown_0 rfl ?_
  have fq581389 : fI (F581338 q581339) 30 = p581356 := by rw [he581342]; rfl
  refine Gp_get 30 hm581341 he581342 dr_cX17_thrown_1 (gk_X17 D I) (Nat.le_of_ble_eq_true rfl) wr_7_104 rfl ?_
  have ac581390 : (fI (F581338 q581339) 30).toInt = p581356.toInt := by rw [he581342]; rfl
  exact G_iretA dr_cX17_thrown_4 rfl (Nat.le_of_ble_eq_true rfl) (Nat.le_of_ble_eq_true rfl) ⟨p581356, rfl, rfl, (Nat.le_of_ble_eq_true rfl), (Nat.le_of_ble_eq_true rfl), (by omega), (fun R c1 => c1 p581356 fq581389)⟩
/- tl_RModel_word_2: F, l3; out: F -/
def tl_RModel_word_2 (D : va_G) (I : FieldType → ClassId) (γ el : Nat → Nat → Nat) (P : List Nat) (F : Nat → va_E) (q0 : Nat) (a2 : Int32) (a1 : Int32) (s1 : Nat → va_E) (s2 : Int32) (k : Nat) (e1 : Nat → va_E) : Prop := ∀ R : (Nat → va_E) → (Int32) → Nat → (Nat → va_E) → Prop,
  (∀ (F_1 : Nat → va_E) (l3_1 : Int32), gB l3_1 0 4 → RS D I P F_1 γ el → rStr γ [99] F F_1 → (fI (F_1 q0) 9).toInt = (fI (F q0) 9).toInt → (fI (F_1 q0) 10).toInt = (fI (F q0) 10).toInt → (fI (F_1 q0) 32).toInt = (fI (F q0) 32).toInt → (fI (F_1 q0) 30).toInt = (fI (F q0) 30).toInt → 4 ≤ l3_1.toInt → R F_1 l3_1 31 F_1) →
  (∀ (F_1 : Nat → va_E) (l3_1 : Int32) (x1 : Int32) (x2 : Int32) (x3 : Int32) (x4 : Int32) (x5 : Int32) (x6 : Nat → Int32) (x7 : Nat → Int32) (x8 : Nat → va_E) (x9 : Int32) (k : Nat) (e1 : Nat → va_E), gB l3_1 0 4 → RS D I P F_1 γ el → rStr γ [99] F F_1 → (fI (F_1 q0) 9).toInt = (fI (F q0) 9).toInt → (fI (F_1 q0) 10).toInt = (fI (F q0) 10).toInt → (fI (F_1 q0) 32).toInt = (fI (F q0) 32).toInt → (fI (F_1 q0) 30).toInt = (fI (F q0) 30).toInt → l3_1.toInt < 4 → fR (F_1 q0) 31 = (γ 9 31) → x1.toInt = a2.toInt + l3_1.toInt → x2.toInt = 8 * l3_1.toInt → x3.toInt = 24 - x2.toInt → x4 = a1 >>> (x3 &&& 31) → x5 = x4.toInt8.toInt32 → F_1 (γ 9 31) = .inl (I .byte, 8192, .inl x6) → x7 = upd x6 x1.toNatClampNeg (vp_nar .byte x5) → (∀ b, b ≠ (γ 9 31) → x8 b = F_1 b) → x8 (γ 9 31) = .inl (I .byte, 8192, .inl x7) → x9.toInt = l3_1.toInt + 1 → R x8 x9 k e1 → R F_1 l3_1 k e1) →
  R s1 s2 k e1
/- tr_RModel_word: F -/
def tr_RModel_word (D : va_G) (I : FieldType → ClassId) (γ el : Nat → Nat → Nat) (P : List Nat) (F : Nat → va_E) (q0 : Nat) (a1 : Int32) (a2 : Int32) (o1 : Nat → va_E) : Prop := ∀ R : (Nat → va_E) → Prop,
  (∀ (x1 : Nat → va_E), tl_RModel_word_2 D I γ el P F q0 a2 a1 F (0 : Int32) 31 x1 → R x1) →
  R o1
abbrev ky_581469_SpillForgeModel_word : gKey := (cX17_word, 4, "SpillForgeModel", none, [], "word", fun _ _ => True)
def pt_581469_SpillForgeModel_word (D : va_G) (I : FieldType → ClassId) (γ el : Nat → Nat → Nat) (P581464 : List Nat) (F581465 : Nat → va_E) (q581466 : Nat) (p581467 : Int32) (p581468 : Int32) : Option Value → va_W → Nat → Nat → Prop := fun r w dc ds => ∃ (F581961 : Nat → va_E), r = none ∧ w = va_pl P581464 F581961 ∧ RS D I P581464 F581961 γ el ∧ rStr γ [99] F581465 F581961 ∧ dc ≤ 0 ∧ ds ≤ 0 ∧ (fI (F581961 q581466) 9).toInt = (fI (F581465 q581466) 9).toInt ∧ (fI (F581961 q581466) 10).toInt = (fI (F581465 q581466) 10).toInt ∧ (fI (F581961 q581466) 32).toInt = (fI (F581465 q581466) 32).toInt ∧ (fI (F581961 q581466) 30).toInt = (fI (F581465 q581466) 30).toInt ∧ tr_RModel_word D I γ el P581464 F581465 q581466 p581467 p581468 F581961
set_option maxRecDepth 100000 in
set_option maxHeartbeats 4000000 in
theorem ct_581469_SpillForgeModel_word (l : Launch) (hl0 : l.stackTraces = false) (D : va_G) (I : FieldType → ClassId) (γ el : Nat → Nat → Nat) (P581464 : List Nat) (F581465 : Nat → va_E) (q581466 : Nat) (p581467 : Int32) (p581468 : Int32) (hT : RS D I P581464 F581465 γ el) (htq581466 : rKd γ q581466 10) (bp581468 : gB p581468 0 8188) : CtA (gV D I) l yX17_word cX17_word 4 none 0 0 0 0 [.ref q581466, .int p581467, .int p581468] (va_pl P581464 F581465) (pt_581469_SpillForgeModel_word D I γ el P581464 F581465 q581466 p581467 p581468) gNA := by
  refine CtA_of hl0 (by decide) (Nat.le_of_ble_eq_true rfl) ?_
  have bp581467 := gB_any p581467
  have hm581470 : q581466 ∈ P581464 := RS_m hT htq581466 (by decide)
  refine rk10_e (show rk_10 γ (F581465 q581466) from RS_o hT htq581466) (fun q581472 q581473 p581474 p581475 p581476 p581477 p581478 p581479 p581480 p581481 p581482 p581483 p581484 p581485 p581486 p581487 p581488 he581471 hB581515 ht581489 ht581490 ht581491 ht581492 ht581493 ht581494 ht581495 ht581496 ht581497 ht581498 ht581499 ht581500 ht581501 ht581502 ht581503 ht581504 ht581505 ht581506 ht581507 ht581508 ht581509 ht581510 ht581511 ht581512 hB581516 => ?_)
  have ac581517 : (fI (F581465 q581466) 9).toInt = p581474.toInt := by rw [he581471]; rfl
  have bp581474 : gB p581474 0 1 := (hB581515.1)
  have ac581518 : (fI (F581465 q581466) 10).toInt = p581475.toInt := by rw [he581471]; rfl
  have bp581475 : gB p581475 0 1 := (hB581515.2.1)
  have ac581519 : (fI (F581465 q581466) 32).toInt = p581486.toInt := by rw [he581471]; rfl
  have bp581486 : gB p581486 0 8192 := (hB581515.2.2.2.2.2.2.2.1)
  have ac581520 : (fI (F581465 q581466) 30).toInt = p581485.toInt := by rw [he581471]; rfl
  have bp581485 : gB p581485 (-2147483648) 2147483647 := (gB_any p581485)
  refine G_iconst 0 dr_cX17_word_0 (by decide +kernel) ?_
  refine G_istore_n (L' := [(3, .int 0), (0, .ref q581466), (1, .int p581467), (2, .int p581468)]) dr_cX17_word_1 (Nat.le_of_ble_eq_true rfl) rfl ?_
  have hlp2_581868 : ∀ (n2_581868 : Nat) (F581862 : Nat → va_E) (g581861 : Int32), gB g581861 0 4 → RS D I P581464 F581862 γ el → rStr γ [99] F581465 F581862 → (fI (F581862 q581466) 9).toInt = (fI (F581465 q581466) 9).toInt → (fI (F581862 q581466) 10).toInt = (fI (F581465 q581466) 10).toInt → (fI (F581862 q581466) 32).toInt = (fI (F581465 q581466) 32).toInt → (fI (F581862 q581466) 30).toInt = (fI (F581465 q581466) 30).toInt → (∀ (k : Nat) (e1 : Nat → va_E), tl_RModel_word_2 D I γ el P581464 F581465 q581466 p581468 p581467 F581862 g581861 k e1 → tl_RModel_word_2 D I γ el P581464 F581465 q581466 p581468 p581467 F581465 (0 : Int32) k e1) → ((5 : Int) - g581861.toInt).toNat < n2_581868 → G (gV D I) l (gRm 0 0 0 0) (gMA (gV D I) (pt_581469_SpillForgeModel_word D I γ el P581464 F581465 q581466 p581467 p581468) gNA 0 0) ky_581469_SpillForgeModel_word 2 [(3, .int g581861), (0, .ref q581466), (1, .int p581467), (2, .int p581468)] [] (va_pl P581464 F581862) 0 0 := by
    intro n2_581868
    induction n2_581868 with
    | zero => intro F581862 g581861 bg581861 hT581863 hs581864 x581865 x581866 x581867 x581868 kt2_581869 hm2_581868; exact absurd hm2_581868 (Nat.not_lt_zero _)
    | succ n2_581868 ih2_581868 =>
      intro F581862 g581861 bg581861 hT581863 hs581864 x581865 x581866 x581867 x581868 kt2_581869 hm2_581868
      have hs581870 : rStr γ [99] F581465 F581862 := fun b h0 hb hw => (hs581864 b h0 hb hw).trans ((rStr_rf (γ := γ) (W := [99]) (F := F581465)) b h0 hb hw).symm
      have hs581871 : rStr γ [99] F581465 F581862 := rStr_tr (rStr_rf (γ := γ) (W := [99]) (F := F581465)) hs581870
      have hm581872 : q581466 ∈ P581464 := RS_m hT581863 htq581466 (by decide)
      refine rk10_e (show rk_10 γ (F581862 q581466) from RS_o hT581863 htq581466) (fun q581874 q581875 p581876 p581877 p581878 p581879 p581880 p581881 p581882 p581883 p581884 p581885 p581886 p581887 p581888 p581889 p581890 he581873 hB581917 ht581891 ht581892 ht581893 ht581894 ht581895 ht581896 ht581897 ht581898 ht581899 ht581900 ht581901 ht581902 ht581903 ht581904 ht581905 ht581906 ht581907 ht581908 ht581909 ht581910 ht581911 ht581912 ht581913 ht581914 hB581918 => ?_)
      have ac581919 : (fI (F581862 q581466) 9).toInt = p581876.toInt := by rw [he581873]; rfl
      have bp581876 : gB p581876 0 1 := (hB581917.1)
      have ac581920 : (fI (F581862 q581466) 10).toInt = p581877.toInt := by rw [he581873]; rfl
      have bp581877 : gB p581877 0 1 := (hB581917.2.1)
      have ac581921 : (fI (F581862 q581466) 32).toInt = p581888.toInt := by rw [he581873]; rfl
      have bp581888 : gB p581888 0 8192 := (hB581917.2.2.2.2.2.2.2.1)
      have ac581922 : (fI (F581862 q581466) 30).toInt = p581887.toInt := by rw [he581873]; rfl
      have bp581887 : gB p581887 (-2147483648) 2147483647 := (gB_any p581887)
      have ac581923 : (fI (F581862 q581466) 9).toInt = p581876.toInt := by rw [he581873]; rfl
      have ac581924 : (fI (F581862 q581466) 10).toInt = p581877.toInt := by rw [he581873]; rfl
      have ac581925 : (fI (F581862 q581466) 32).toInt = p581888.toInt := by rw [he581873]; rfl
      have ac581926 : (fI (F581862 q581466) 30).toInt = p581887.toInt := by rw [he581873]; rfl
      refine G_iload_n 0 dr_cX17_word_2 rfl ?_
      refine G_iconst 4 dr_cX17_word_3 (by decide +kernel) ?_
      refine G_icmp_ge 31 dr_cX17_word_4 (by decide +kernel) (fun hc581927 => ?_) (fun hc581927 => ?_)
      · have r581928 : 4 ≤ g581861.toInt := gj_leL hc581927 (show Int32.toInt 4 = 4 by decide)
        have bg581861' : gB g581861 4 4 := ⟨by omega, by omega⟩
        have hx581929 : tl_RModel_word_2 D I γ el P581464 F581465 q581466 p581468 p581467 F581465 (0 : Int32) 31 F581862 := kt2_581869 31 F581862 (fun R c1 c2 => c1 F581862 g581861 bg581861 hT581863 hs581864 x581865 x581866 x581867 x581868 r581928)
        have ac581930 : (fI (F581862 q581466) 9).toInt = p581876.toInt := by rw [he581873]; rfl
        have ac581931 : (fI (F581862 q581466) 10).toInt = p581877.toInt := by rw [he581873]; rfl
        have ac581932 : (fI (F581862 q581466) 32).toInt = p581888.toInt := by rw [he581873]; rfl
        have ac581933 : (fI (F581862 q581466) 30).toInt = p581887.toInt := by rw [he581873]; rfl
        exact G_vretA dr_cX17_word_31 rfl (Nat.le_of_ble_eq_true rfl) (Nat.le_of_ble_eq_true rfl) ⟨F581862, rfl, rfl, hT581863, hs581864, (Nat.le_of_ble_eq_true rfl), (Nat.le_of_ble_eq_true rfl), (by omega), (by omega), (by omega), (by omega), (fun R c1 => c1 F581862 hx581929)⟩
      · have r581934 : g581861.toInt < 4 := gj_nleL hc581927 (show Int32.toInt 4 = 4 by decide)
        have bg581861' : gB g581861 0 3 := ⟨by omega, by omega⟩
        refine G_aload_n 1 dr_cX17_word_7 rfl ?_
        have fq581935 : fR (F581862 q581466) 31 = (γ 9 31) := by rw [he581873]; rfl
        refine Gp_get 31 hm581872 he581873 dr_cX17_word_8 (gk_X17 D I) (Nat.le_of_ble_eq_true rfl) wr_7_105 rfl ?_
        refine G_iload_n 3 dr_cX17_word_11 rfl ?_
        refine G_iload_n 0 dr_cX17_word_12 rfl ?_
        refine G_iadd dr_cX17_word_13 (G_nam fun z581936 hz581936 => ?_)
        have ez581936 : z581936.toInt = p581468.toInt + g581861.toInt := by rw [gI_add hz581936 bp581468 bg581861' (by decide) (by decide)]
        have bz581936 : gB z581936 0 8191 := gB_add (gI_add hz581936 bp581468 bg581861' (by decide) (by decide)) bp581468 bg581861' (by decide) (by decide)
        refine G_iload_n 2 dr_cX17_word_14 rfl ?_
        refine G_bipush 24 dr_cX17_word_15 (by decide +kernel) ?_
        refine G_bipush 8 dr_cX17_word_17 (by decide +kernel) ?_
        refine G_iload_n 0 dr_cX17_word_19 rfl ?_
        refine G_imul dr_cX17_word_20 (G_nam fun z581937 hz581937 => ?_)
        have ez581937 : z581937.toInt = 8 * g581861.toInt := by rw [gI_mul hz581937 (gBl (show Int32.toInt 8 = 8 by decide)) bg581861' (by decide) (by decide) (by decide), show Int32.toInt 8 = 8 from by decide]
        have bz581937 : gB z581937 0 24 := gB_mul hz581937 (gBl (show Int32.toInt 8 = 8 by decide)) bg581861' (by decide) (by decide) (by decide) (by decide)
        refine G_isub dr_cX17_word_21 (G_nam fun z581938 hz581938 => ?_)
        have ez581938 : z581938.toInt = 24 - z581937.toInt := by rw [gI_sub hz581938 (gBl (show Int32.toInt 24 = 24 by decide)) bz581937 (by decide) (by decide), show Int32.toInt 24 = 24 from by decide]
        have bz581938 : gB z581938 0 24 := gB_sub (gI_sub hz581938 (gBl (show Int32.toInt 24 = 24 by decide)) bz581937 (by decide) (by decide)) (gBl (show Int32.toInt 24 = 24 by decide)) bz581937 (by decide) (by decide)
        refine G_ishr dr_cX17_word_22 (G_nam fun z581939 hz581939 => ?_)
        have bz581939 : gB z581939 (-2147483648) 2147483647 := gB_any z581939
        refine G_i2b dr_cX17_word_23 (G_nam fun z581940 hz581940 => ?_)
        have bz581940 : gB z581940 (-128) 127 := gB_i2b hz581940
        have hm581941 : (γ 9 31) ∈ P581464 := RS_m hT581863 ht581911 (by decide)
        obtain ⟨f581943, he581942, bf581943⟩ := show rk_99 I (F581862 (γ 9 31)) from RS_o hT581863 ht581911
        refine Gp_bast 1 hm581941 he581942 dr_cX17_word_24 rfl (gB_in bz581936 (by decide) (by decide)) (fun F581944 e581945 n581946 => ?_)
        obtain ⟨f581947, hf581947⟩ : ∃ z, z = upd f581943 z581936.toNatClampNeg (vp_nar .byte z581940) := ⟨_, rfl⟩
        rw [← hf581947] at e581945
        have he581948 : F581944 q581466 = .inr (22, [.ref (γ 9 0), .ref (γ 9 1), .ref (γ 9 2), .ref (γ 9 3), .ref (γ 9 4), .ref (γ 9 5), .ref (γ 9 6), .ref (γ 9 7), .ref (γ 9 8), .int p581876, .int p581877, .int p581878, .int p581879, .int p581880, .int p581881, .ref (γ 9 15), .ref (γ 9 16), .ref (γ 9 17), .ref (γ 9 18), .ref (γ 9 19), .ref (γ 9 20), .ref (γ 9 21), .ref (γ 9 22), .int p581882, .int p581883, .int p581884, .int p581885, .int p581886, .ref q581874, .ref (γ 9 29), .int p581887, .ref (γ 9 31), .int p581888, .int p581889, .int p581890, .ref q581875]) := (n581946 q581466 (rn_oa he581873 he581942)).trans he581873
        have he581949 : F581944 (γ 9 31) = .inl (I .byte, 8192, .inl f581947) := e581945
        have hs581950 : rStr γ [99] F581465 F581944 := rStr_pu2 hs581864 n581946 ht581911 (by decide)
        have bf581947 : gF f581947 (-128) 127 := gF_upd hf581947 bf581943 gB_byte
        obtain ⟨z581951, hz581951⟩ : ∃ z : Int32, z = g581861 + Int32.ofInt 1 := ⟨_, rfl⟩
        have ez581951 : z581951.toInt = g581861.toInt + 1 := gI_inc hz581951 (by decide) bg581861' (by decide) (by decide)
        have bz581951 : gB z581951 1 4 := ⟨by omega, by omega⟩
        refine G_iinc (L' := [(3, .int z581951), (0, .ref q581466), (1, .int p581467), (2, .int p581468)]) z581951 0 dr_cX17_word_25 rfl hz581951.symm (Nat.le_of_ble_eq_true rfl) rfl ?_
        refine G_goto 2 dr_cX17_word_28 (by decide +kernel) ?_
        have hT581952 : RS D I P581464 F581944 γ el := RS_set hT581863 n581946 ht581911 (by decide) ⟨f581947, he581949, bf581947⟩
        have ac581953 : (fI (F581944 q581466) 9).toInt = p581876.toInt := by rw [he581948]; rfl
        have ac581954 : (fI (F581944 q581466) 10).toInt = p581877.toInt := by rw [he581948]; rfl
        have ac581955 : (fI (F581944 q581466) 32).toInt = p581888.toInt := by rw [he581948]; rfl
        have ac581956 : (fI (F581944 q581466) 30).toInt = p581887.toInt := by rw [he581948]; rfl
        exact ih2_581868 F581944 z581951 (gB_w bz581951 (by decide) (by decide)) hT581952 hs581950 (by omega) (by omega) (by omega) (by omega) (fun k e1 ht => kt2_581869 k e1 (fun R c1 c2 => c2 F581862 g581861 z581936 z581937 z581938 z581939 z581940 f581943 f581947 F581944 z581951 k e1 bg581861 hT581863 hs581864 x581865 x581866 x581867 x581868 r581934 fq581935 ez581936 ez581937 ez581938 hz581939 hz581940 he581942 hf581947 n581946 he581949 ez581951 (ht R c1 c2))) (mz_up ez581951 (Int.le_trans bg581861'.2 (by decide)) hm2_581868)
  have ac581957 : (fI (F581465 q581466) 9).toInt = p581474.toInt := by rw [he581471]; rfl
  have ac581958 : (fI (F581465 q581466) 10).toInt = p581475.toInt := by rw [he581471]; rfl
  have ac581959 : (fI (F581465 q581466) 32).toInt = p581486.toInt := by rw [he581471]; rfl
  have ac581960 : (fI (F581465 q581466) 30).toInt = p581485.toInt := by rw [he581471]; rfl
  exact hlp2_581868 (((5 : Int) - 0).toNat + 1) F581465 0 (gB_w (gBl (show Int32.toInt 0 = 0 by decide)) (by decide) (by decide)) hT (rStr_rf (γ := γ) (W := [99]) (F := F581465)) (by omega) (by omega) (by omega) (by omega) (fun k e1 ht => ht) (Nat.lt_succ_self _)
/- tr_RModel_feed: result, F -/
def tr_RModel_feed (D : va_G) (I : FieldType → ClassId) (γ el : Nat → Nat → Nat) (P : List Nat) (F : Nat → va_E) (q0 : Nat) (a1 : Int32) (a2 : Int32) (a3 : Int32) (a4 : Int32) (a5 : Int32) (o1 : Int32) (o2 : Nat → va_E) : Prop := ∀ R : (Int32) → (Nat → va_E) → Prop,
  (∀ (x1 : Nat → va_E) (x2 : Int32) (x3 : Int32) (x4 : Nat → va_E) (x5 : Int32) (x6 : Int32) (x7 : Nat → va_E) (x8 : Int32) (x9 : Int32) (x10 : Nat → va_E) (x11 : Int32) (x12 : Int32) (x13 : Nat → va_E) (x14 : Int32) (x15 : Int32) (x16 : Nat → va_E) (x17 : Int32) (x18 : Int32) (x19 : Nat → va_E), (∀ b, b ≠ q0 → x1 b = F b) → x1 q0 = cF (F q0) 30 (.int 0) → fI (x1 q0) 32 = x2 → x3.toInt = x2.toInt + 20 → x3.toInt ≤ 8192 → RS D I P x4 γ el → rStr γ [99] x1 x4 → (fI (x4 q0) 9).toInt = (fI (x1 q0) 9).toInt → (fI (x4 q0) 10).toInt = (fI (x1 q0) 10).toInt → (fI (x4 q0) 32).toInt = (fI (x1 q0) 32).toInt → (fI (x4 q0) 30).toInt = (fI (x1 q0) 30).toInt → tr_RModel_word D I γ el P x1 q0 a1 x2 x4 → fI (x4 q0) 32 = x5 → x6.toInt = x5.toInt + 4 → RS D I P x7 γ el → rStr γ [99] x4 x7 → (fI (x7 q0) 9).toInt = (fI (x4 q0) 9).toInt → (fI (x7 q0) 10).toInt = (fI (x4 q0) 10).toInt → (fI (x7 q0) 32).toInt = (fI (x4 q0) 32).toInt → (fI (x7 q0) 30).toInt = (fI (x4 q0) 30).toInt → tr_RModel_word D I γ el P x4 q0 a2 x6 x7 → fI (x7 q0) 32 = x8 → x9.toInt = x8.toInt + 8 → RS D I P x10 γ el → rStr γ [99] x7 x10 → (fI (x10 q0) 9).toInt = (fI (x7 q0) 9).toInt → (fI (x10 q0) 10).toInt = (fI (x7 q0) 10).toInt → (fI (x10 q0) 32).toInt = (fI (x7 q0) 32).toInt → (fI (x10 q0) 30).toInt = (fI (x7 q0) 30).toInt → tr_RModel_word D I γ el P x7 q0 a3 x9 x10 → fI (x10 q0) 32 = x11 → x12.toInt = x11.toInt + 12 → RS D I P x13 γ el → rStr γ [99] x10 x13 → (fI (x13 q0) 9).toInt = (fI (x10 q0) 9).toInt → (fI (x13 q0) 10).toInt = (fI (x10 q0) 10).toInt → (fI (x13 q0) 32).toInt = (fI (x10 q0) 32).toInt → (fI (x13 q0) 30).toInt = (fI (x10 q0) 30).toInt → tr_RModel_word D I γ el P x10 q0 a4 x12 x13 → fI (x13 q0) 32 = x14 → x15.toInt = x14.toInt + 16 → RS D I P x16 γ el → rStr γ [99] x13 x16 → (fI (x16 q0) 9).toInt = (fI (x13 q0) 9).toInt → (fI (x16 q0) 10).toInt = (fI (x13 q0) 10).toInt → (fI (x16 q0) 32).toInt = (fI (x13 q0) 32).toInt → (fI (x16 q0) 30).toInt = (fI (x13 q0) 30).toInt → tr_RModel_word D I γ el P x13 q0 a5 x15 x16 → fI (x16 q0) 32 = x17 → x18.toInt = x17.toInt + 20 → (∀ b, b ≠ q0 → x19 b = x16 b) → x19 q0 = cF (x16 q0) 32 (.int x18) → fI (x19 q0) 32 = x18 → R x18 x19) →
  (∀ (x1 : Nat → va_E) (x2 : Int32) (x3 : Int32) (x4 : Nat → va_E), (∀ b, b ≠ q0 → x1 b = F b) → x1 q0 = cF (F q0) 30 (.int 0) → fI (x1 q0) 32 = x2 → x3.toInt = x2.toInt + 20 → 8192 < x3.toInt → RS D I P x4 γ el → rStr γ [] x1 x4 → (fI (x4 q0) 9).toInt = (fI (x1 q0) 9).toInt → (fI (x4 q0) 10).toInt = (fI (x1 q0) 10).toInt → (fI (x4 q0) 32).toInt = (fI (x1 q0) 32).toInt → (fI (x4 q0) 30).toInt = 1 → tr_RModel_no D I γ el x1 q0 (1 : Int32) x4 → R (0 : Int32) x4) →
  R o1 o2
