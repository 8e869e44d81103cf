abbrev ky_581027_SpillForgeModel_no : gKey := (cX17_no, 2, "SpillForgeModel", (some FieldType.int), [], "no", fun _ _ => True)
def pt_581027_SpillForgeModel_no (D : va_G) (I : FieldType → ClassId) (γ el : Nat → Nat → Nat) (P581023 : List Nat) (F581024 : Nat → va_E) (q581025 : Nat) (p581026 : Int32) : Option Value → va_W → Nat → Nat → Prop := fun r w dc ds => ∃ (F581090 : Nat → va_E), r = some (.int 0) ∧ w = va_pl P581023 F581090 ∧ RS D I P581023 F581090 γ el ∧ rStr γ [] F581024 F581090 ∧ dc ≤ 0 ∧ ds ≤ 0 ∧ (fI (F581090 q581025) 9).toInt = (fI (F581024 q581025) 9).toInt ∧ (fI (F581090 q581025) 10).toInt = (fI (F581024 q581025) 10).toInt ∧ (fI (F581090 q581025) 32).toInt = (fI (F581024 q581025) 32).toInt ∧ (fI (F581090 q581025) 30).toInt = p581026.toInt ∧ tr_RModel_no D I γ el F581024 q581025 p581026 F581090
set_option maxRecDepth 100000 in
set_option maxHeartbeats 4000000 in
theorem ct_581027_SpillForgeModel_no (l : Launch) (hl0 : l.stackTraces = false) (D : va_G) (I : FieldType → ClassId) (γ el : Nat → Nat → Nat) (P581023 : List Nat) (F581024 : Nat → va_E) (q581025 : Nat) (p581026 : Int32) (hT : RS D I P581023 F581024 γ el) (htq581025 : rKd γ q581025 10) : CtA (gV D I) l yX17_no cX17_no 2 (some FieldType.int) 0 0 0 0 [.ref q581025, .int p581026] (va_pl P581023 F581024) (pt_581027_SpillForgeModel_no D I γ el P581023 F581024 q581025 p581026) gNA := by
  refine CtA_of hl0 (by decide) (Nat.le_of_ble_eq_true rfl) ?_
  have bp581026 := gB_any p581026
  have hm581028 : q581025 ∈ P581023 := RS_m hT htq581025 (by decide)
  refine rk10_e (show rk_10 γ (F581024 q581025) from RS_o hT htq581025) (fun q581030 q581031 p581032 p581033 p581034 p581035 p581036 p581037 p581038 p581039 p581040 p581041 p581042 p581043 p581044 p581045 p581046 he581029 hB581073 ht581047 ht581048 ht581049 ht581050 ht581051 ht581052 ht581053 ht581054 ht581055 ht581056 ht581057 ht581058 ht581059 ht581060 ht581061 ht581062 ht581063 ht581064 ht581065 ht581066 ht581067 ht581068 ht581069 ht581070 hB581074 => ?_)
  have ac581075 : (fI (F581024 q581025) 9).toInt = p581032.toInt := by rw [he581029]; rfl
  have bp581032 : gB p581032 0 1 := (hB581073.1)
  have ac581076 : (fI (F581024 q581025) 10).toInt = p581033.toInt := by rw [he581029]; rfl
  have bp581033 : gB p581033 0 1 := (hB581073.2.1)
  have ac581077 : (fI (F581024 q581025) 32).toInt = p581044.toInt := by rw [he581029]; rfl
  have bp581044 : gB p581044 0 8192 := (hB581073.2.2.2.2.2.2.2.1)
  have ac581078 : (fI (F581024 q581025) 30).toInt = p581043.toInt := by rw [he581029]; rfl
  have bp581043 : gB p581043 (-2147483648) 2147483647 := (gB_any p581043)
  refine G_aload_n 0 dr_cX17_no_0 rfl ?_
  refine G_iload_n 1 dr_cX17_no_1 rfl ?_
  refine Gp_put 30 hm581028 he581029 dr_cX17_no_2 (gk_X17 D I) (Nat.le_of_ble_eq_true rfl) wr_7_104 rfl rfl rfl (Nat.le_of_ble_eq_true rfl) (fun F581079 e581080 n581081 => ?_)
  have he581082 : F581079 q581025 = .inr (22, [.ref (γ 9 0), .ref (γ 9 1), .ref (γ 9 2), .ref (γ 9 3), .ref (γ 9 4), .ref (γ 9 5), .ref (γ 9 6), .ref (γ 9 7), .ref (γ 9 8), .int p581032, .int p581033, .int p581034, .int p581035, .int p581036, .int p581037, .ref (γ 9 15), .ref (γ 9 16), .ref (γ 9 17), .ref (γ 9 18), .ref (γ 9 19), .ref (γ 9 20), .ref (γ 9 21), .ref (γ 9 22), .int p581038, .int p581039, .int p581040, .int p581041, .int p581042, .ref q581030, .ref (γ 9 29), .int p581026, .ref (γ 9 31), .int p581044, .int p581045, .int p581046, .ref q581031]) := e581080
  have hs581083 : rStr γ [] F581024 F581079 := rStr_put (rStr_rf (γ := γ) (W := []) (F := F581024)) n581081 htq581025 (by decide)
  have fq581084 : F581079 q581025 = cF (F581024 q581025) 30 (.int p581026) := by rw [he581082, he581029]; rfl
  refine G_iconst 0 dr_cX17_no_5 (by decide +kernel) ?_
  have hT581085 : RS D I P581023 F581079 γ el := RS_set hT n581081 htq581025 (by decide) ⟨q581030, q581031, p581032, p581033, p581034, p581035, p581036, p581037, p581038, p581039, p581040, p581041, p581042, p581026, p581044, p581045, p581046, he581082, ⟨bp581032, bp581033, (hB581073.2.2.1), (hB581073.2.2.2.1), (hB581073.2.2.2.2.1), (hB581073.2.2.2.2.2.1), (hB581073.2.2.2.2.2.2.1), bp581044, (hB581073.2.2.2.2.2.2.2.2)⟩, ht581047, ht581048, ht581049, ht581050, ht581051, ht581052, ht581053, ht581054, ht581055, ht581056, ht581057, ht581058, ht581059, ht581060, ht581061, ht581062, ht581063, ht581064, ht581065, ht581066, ht581067, ht581068, ht581069, ht581070, hB581074⟩
  have ac581086 : (fI (F581079 q581025) 9).toInt = p581032.toInt := by rw [he581082]; rfl
  have ac581087 : (fI (F581079 q581025) 10).toInt = p581033.toInt := by rw [he581082]; rfl
  have ac581088 : (fI (F581079 q581025) 32).toInt = p581044.toInt := by rw [he581082]; rfl
  have ac581089 : (fI (F581079 q581025) 30).toInt = p581026.toInt := by rw [he581082]; rfl
  exact G_iretA dr_cX17_no_6 rfl (Nat.le_of_ble_eq_true rfl) (Nat.le_of_ble_eq_true rfl) ⟨F581079, rfl, rfl, hT581085, hs581083, (Nat.le_of_ble_eq_true rfl), (Nat.le_of_ble_eq_true rfl), (by have qa0 : Int32.toInt 0 = 0 := (by decide); omega), (by have qa0 : Int32.toInt 0 = 0 := (by decide); omega), (by have qa0 : Int32.toInt 0 = 0 := (by decide); omega), (by have qa0 : Int32.toInt 0 = 0 := (by decide); omega), (fun R c1 => c1 F581079 n581081 fq581084)⟩
/- tr_RModel_told: result, F -/
def tr_RModel_told (D : va_G) (I : FieldType → ClassId) (γ el : Nat → Nat → Nat) (P : List Nat) (F : Nat → va_E) (q0 : Nat) (a1 : Int32) (o1 : Int32) (o2 : Nat → va_E) : Prop := ∀ R : (Int32) → (Nat → va_E) → Prop,
  (∀ (x1 : Nat → va_E) (x2 : Int32), (∀ b, b ≠ q0 → x1 b = F b) → x1 q0 = cF (F q0) 30 (.int 0) → a1.toInt = 0 → fI (x1 q0) 23 = x2 → x2.toInt ≠ 0 → R (0 : Int32) x1) →
  (∀ (x1 : Nat → va_E) (x2 : Int32) (x3 : Int32), (∀ b, b ≠ q0 → x1 b = F b) → x1 q0 = cF (F q0) 30 (.int 0) → a1.toInt = 0 → fI (x1 q0) 23 = x2 → x2.toInt = 0 → fI (x1 q0) 24 = x3 → R x3 x1) →
  (∀ (x1 : Nat → va_E) (x2 : Int32), (∀ b, b ≠ q0 → x1 b = F b) → x1 q0 = cF (F q0) 30 (.int 0) → a1.toInt = 1 → fI (x1 q0) 25 = x2 → R x2 x1) →
  (∀ (x1 : Nat → va_E) (x2 : Int32), (∀ b, b ≠ q0 → x1 b = F b) → x1 q0 = cF (F q0) 30 (.int 0) → a1.toInt = 2 → fI (x1 q0) 26 = x2 → R x2 x1) →
  (∀ (x1 : Nat → va_E) (x2 : Int32), (∀ b, b ≠ q0 → x1 b = F b) → x1 q0 = cF (F q0) 30 (.int 0) → a1.toInt = 3 → fI (x1 q0) 27 = x2 → R x2 x1) →
  (∀ (x1 : Nat → va_E) (x2 : Int32), (∀ b, b ≠ q0 → x1 b = F b) → x1 q0 = cF (F q0) 30 (.int 0) → a1.toInt = 4 → fI (x1 q0) 23 = x2 → R x2 x1) →
  (∀ (x1 : Nat → va_E) (x2 : Nat → va_E), (∀ b, b ≠ q0 → x1 b = F b) → x1 q0 = cF (F q0) 30 (.int 0) → a1.toInt ≠ 0 → a1.toInt ≠ 1 → a1.toInt ≠ 2 → a1.toInt ≠ 3 → a1.toInt ≠ 4 → RS D I P x2 γ el → rStr γ [] x1 x2 → (fI (x2 q0) 9).toInt = (fI (x1 q0) 9).toInt → (fI (x2 q0) 10).toInt = (fI (x1 q0) 10).toInt → (fI (x2 q0) 32).toInt = (fI (x1 q0) 32).toInt → (fI (x2 q0) 30).toInt = 1 → tr_RModel_no D I γ el x1 q0 (1 : Int32) x2 → R (0 : Int32) x2) →
  R o1 o2
abbrev ky_580927_SpillForgeModel_told : gKey := (cX17_told, 2, "SpillForgeModel", (some FieldType.int), [], "told", fun _ _ => True)
def pt_580927_SpillForgeModel_told (D : va_G) (I : FieldType → ClassId) (γ el : Nat → Nat → Nat) (P580923 : List Nat) (F580924 : Nat → va_E) (q580925 : Nat) (p580926 : Int32) : Option Value → va_W → Nat → Nat → Prop := fun r w dc ds => ∃ (F581162 : Nat → va_E) (o581161 : Int32), r = some (.int o581161) ∧ w = va_pl P580923 F581162 ∧ RS D I P580923 F581162 γ el ∧ rStr γ [] F580924 F581162 ∧ dc ≤ 0 ∧ ds ≤ 0 ∧ (fI (F581162 q580925) 9).toInt = (fI (F580924 q580925) 9).toInt ∧ (fI (F581162 q580925) 10).toInt = (fI (F580924 q580925) 10).toInt ∧ (fI (F581162 q580925) 32).toInt = (fI (F580924 q580925) 32).toInt ∧ tr_RModel_told D I γ el P580923 F580924 q580925 p580926 o581161 F581162
set_option maxRecDepth 100000 in
set_option maxHeartbeats 4000000 in
theorem ct_580927_SpillForgeModel_told (l : Launch) (hl0 : l.stackTraces = false) (D : va_G) (I : FieldType → ClassId) (γ el : Nat → Nat → Nat) (P580923 : List Nat) (F580924 : Nat → va_E) (q580925 : Nat) (p580926 : Int32) (hT : RS D I P580923 F580924 γ el) (htq580925 : rKd γ q580925 10) : CtA (gV D I) l yX17_told cX17_told 2 (some FieldType.int) 1 21 0 0 [.ref q580925, .int p580926] (va_pl P580923 F580924) (pt_580927_SpillForgeModel_told D I γ el P580923 F580924 q580925 p580926) gNA := by
  refine CtA_of hl0 (by decide) (Nat.le_of_ble_eq_true rfl) ?_
  have bp580926 := gB_any p580926
  have hm580928 : q580925 ∈ P580923 := RS_m hT htq580925 (by decide)
  refine rk10_e (show rk_10 γ (F580924 q580925) from RS_o hT htq580925) (fun q580930 q580931 p580932 p580933 p580934 p580935 p580936 p580937 p580938 p580939 p580940 p580941 p580942 p580943 p580944 p580945 p580946 he580929 hB580973 ht580947 ht580948 ht580949 ht580950 ht580951 ht580952 ht580953 ht580954 ht580955 ht580956 ht580957 ht580958 ht580959 ht580960 ht580961 ht580962 ht580963 ht580964 ht580965 ht580966 ht580967 ht580968 ht580969 ht580970 hB580974 => ?_)
  have ac580975 : (fI (F580924 q580925) 9).toInt = p580932.toInt := by rw [he580929]; rfl
  have bp580932 : gB p580932 0 1 := (hB580973.1)
  have ac580976 : (fI (F580924 q580925) 10).toInt = p580933.toInt := by rw [he580929]; rfl
  have bp580933 : gB p580933 0 1 := (hB580973.2.1)
  have ac580977 : (fI (F580924 q580925) 32).toInt = p580944.toInt := by rw [he580929]; rfl
  have bp580944 : gB p580944 0 8192 := (hB580973.2.2.2.2.2.2.2.1)
  refine G_aload_n 0 dr_cX17_told_0 rfl ?_
  refine G_iconst 0 dr_cX17_told_1 (by decide +kernel) ?_
  refine Gp_put 30 hm580928 he580929 dr_cX17_told_2 (gk_X17 D I) (Nat.le_of_ble_eq_true rfl) wr_7_104 rfl rfl rfl (Nat.le_of_ble_eq_true rfl) (fun F580978 e580979 n580980 => ?_)
  have he580981 : F580978 q580925 = .inr (22, [.ref (γ 9 0), .ref (γ 9 1), .ref (γ 9 2), .ref (γ 9 3), .ref (γ 9 4), .ref (γ 9 5), .ref (γ 9 6), .ref (γ 9 7), .ref (γ 9 8), .int p580932, .int p580933, .int p580934, .int p580935, .int p580936, .int p580937, .ref (γ 9 15), .ref (γ 9 16), .ref (γ 9 17), .ref (γ 9 18), .ref (γ 9 19), .ref (γ 9 20), .ref (γ 9 21), .ref (γ 9 22), .int p580938, .int p580939, .int p580940, .int p580941, .int p580942, .ref q580930, .ref (γ 9 29), .int 0, .ref (γ 9 31), .int p580944, .int p580945, .int p580946, .ref q580931]) := e580979
  have hs580982 : rStr γ [] F580924 F580978 := rStr_put (rStr_rf (γ := γ) (W := []) (F := F580924)) n580980 htq580925 (by decide)
  have fq580983 : F580978 q580925 = cF (F580924 q580925) 30 (.int 0) := by rw [he580981, he580929]; rfl
  refine G_iload_n 1 dr_cX17_told_5 rfl ?_
  by_cases hs580984 : p580926 = 0
  · have ehs580984 : p580926.toInt = 0 := gj_eq hs580984 (show Int32.toInt 0 = 0 by decide)
    have bp580926' : gB p580926 0 0 := ⟨by omega, by omega⟩
    refine G_eqi (y := 0) hs580984 ?_
    refine G_tableIn 40 dr_cX17_told_6 (by decide) (by decide) (by first | rfl | decide) (by decide) ?_
    refine G_aload_n 0 dr_cX17_told_40 rfl ?_
    have fq580985 : fI (F580978 q580925) 23 = p580938 := by rw [he580981]; rfl
    refine Gp_get 23 hm580928 he580981 dr_cX17_told_41 (gk_X17 D I) (Nat.le_of_ble_eq_true rfl) wr_7_97 rfl ?_
    have bp580938 : gB p580938 (-2147483648) 2147483647 := (gB_any p580938)
    refine G_if_ne 54 dr_cX17_told_44 (by decide +kernel) (fun hc580986 => ?_) (fun hc580986 => ?_)
    · have r580987 : p580938.toInt ≠ 0 := gj_neq hc580986 (show Int32.toInt 0 = 0 by decide)
      refine G_iconst 0 dr_cX17_told_54 (by decide +kernel) ?_
      have hT580988 : RS D I P580923 F580978 γ el := RS_set hT n580980 htq580925 (by decide) ⟨q580930, q580931, p580932, p580933, p580934, p580935, p580936, p580937, p580938, p580939, p580940, p580941, p580942, 0, p580944, p580945, p580946, he580981, ⟨bp580932, bp580933, (hB580973.2.2.1), (hB580973.2.2.2.1), (hB580973.2.2.2.2.1), (hB580973.2.2.2.2.2.1), (hB580973.2.2.2.2.2.2.1), bp580944, (hB580973.2.2.2.2.2.2.2.2)⟩, ht580947, ht580948, ht580949, ht580950, ht580951, ht580952, ht580953, ht580954, ht580955, ht580956, ht580957, ht580958, ht580959, ht580960, ht580961, ht580962, ht580963, ht580964, ht580965, ht580966, ht580967, ht580968, ht580969, ht580970, hB580974⟩
      have ac580989 : (fI (F580978 q580925) 9).toInt = p580932.toInt := by rw [he580981]; rfl
      have ac580990 : (fI (F580978 q580925) 10).toInt = p580933.toInt := by rw [he580981]; rfl
      have ac580991 : (fI (F580978 q580925) 32).toInt = p580944.toInt := by rw [he580981]; rfl
      exact G_iretA dr_cX17_told_55 rfl (Nat.le_of_ble_eq_true rfl) (Nat.le_of_ble_eq_true rfl) ⟨F580978, 0, rfl, rfl, hT580988, hs580982, (Nat.le_of_ble_eq_true rfl), (Nat.le_of_ble_eq_true rfl), (by have qa0 : Int32.toInt 0 = 0 := (by decide); omega), (by have qa0 : Int32.toInt 0 = 0 := (by decide); omega), (by have qa0 : Int32.toInt 0 = 0 := (by decide); omega), (fun R c1 c2 c3 c4 c5 c6 c7 => c1 F580978 p580938 n580980 fq580983 ehs580984 fq580985 r580987)⟩
    · have r580992 : p580938.toInt = 0 := gj_eq hc580986 (show Int32.toInt 0 = 0 by decide)
      have bp580938' : gB p580938 0 0 := ⟨by omega, by omega⟩
      refine G_aload_n 0 dr_cX17_told_47 rfl ?_
      have fq580993 : fI (F580978 q580925) 24 = p580939 := by rw [he580981]; rfl
      refine Gp_get 24 hm580928 he580981 dr_cX17_told_48 (gk_X17 D I) (Nat.le_of_ble_eq_true rfl) wr_7_98 rfl ?_
      have bp580939 : gB p580939 (-2147483648) 2147483647 := (gB_any p580939)
      refine G_goto 55 dr_cX17_told_51 (by decide +kernel) ?_
      have hT580994 : RS D I P580923 F580978 γ el := RS_set hT n580980 htq580925 (by decide) ⟨q580930, q580931, p580932, p580933, p580934, p580935, p580936, p580937, p580938, p580939, p580940, p580941, p580942, 0, p580944, p580945, p580946, he580981, ⟨bp580932, bp580933, (hB580973.2.2.1), (hB580973.2.2.2.1), (hB580973.2.2.2.2.1), (hB580973.2.2.2.2.2.1), (hB580973.2.2.2.2.2.2.1), bp580944, (hB580973.2.2.2.2.2.2.2.2)⟩, ht580947, ht580948, ht580949, ht580950, ht580951, ht580952, ht580953, ht580954, ht580955, ht580956, ht580957, ht580958, ht580959, ht580960, ht580961, ht580962, ht580963, ht580964, ht580965, ht580966, ht580967, ht580968, ht580969, ht580970, hB580974⟩
      have ac580995 : (fI (F580978 q580925) 9).toInt = p580932.toInt := by rw [he580981]; rfl
      have ac580996 : (fI (F580978 q580925) 10).toInt = p580933.toInt := by rw [he580981]; rfl
      have ac580997 : (fI (F580978 q580925) 32).toInt = p580944.toInt := by rw [he580981]; rfl
      exact G_iretA dr_cX17_told_55 rfl (Nat.le_of_ble_eq_true rfl) (Nat.le_of_ble_eq_true rfl) ⟨F580978, p580939, rfl, rfl, hT580994, hs580982, (Nat.le_of_ble_eq_true rfl), (Nat.le_of_ble_eq_true rfl), (by omega), (by omega), (by omega), (fun R c1 c2 c3 c4 c5 c6 c7 => c2 F580978 p580938 p580939 n580980 fq580983 ehs580984 fq580985 r580992 fq580993)⟩
  by_cases hs580998 : p580926 = 1
  · have ehs580998 : p580926.toInt = 1 := gj_eq hs580998 (show Int32.toInt 1 = 1 by decide)
    have bp580926' : gB p580926 1 1 := ⟨by omega, by omega⟩
    refine G_eqi (y := 1) hs580998 ?_
    refine G_tableIn 56 dr_cX17_told_6 (by decide) (by decide) (by first | rfl | decide) (by decide) ?_
    refine G_aload_n 0 dr_cX17_told_56 rfl ?_
    have fq580999 : fI (F580978 q580925) 25 = p580940 := by rw [he580981]; rfl
    refine Gp_get 25 hm580928 he580981 dr_cX17_told_57 (gk_X17 D I) (Nat.le_of_ble_eq_true rfl) wr_7_99 rfl ?_
    have bp580940 : gB p580940 0 512 := (hB580973.2.2.2.2.1)
    have hT581000 : RS D I P580923 F580978 γ el := RS_set hT n580980 htq580925 (by decide) ⟨q580930, q580931, p580932, p580933, p580934, p580935, p580936, p580937, p580938, p580939, p580940, p580941, p580942, 0, p580944, p580945, p580946, he580981, ⟨bp580932, bp580933, (hB580973.2.2.1), (hB580973.2.2.2.1), bp580940, (hB580973.2.2.2.2.2.1), (hB580973.2.2.2.2.2.2.1), bp580944, (hB580973.2.2.2.2.2.2.2.2)⟩, ht580947, ht580948, ht580949, ht580950, ht580951, ht580952, ht580953, ht580954, ht580955, ht580956, ht580957, ht580958, ht580959, ht580960, ht580961, ht580962, ht580963, ht580964, ht580965, ht580966, ht580967, ht580968, ht580969, ht580970, hB580974⟩
    have ac581001 : (fI (F580978 q580925) 9).toInt = p580932.toInt := by rw [he580981]; rfl
    have ac581002 : (fI (F580978 q580925) 10).toInt = p580933.toInt := by rw [he580981]; rfl
    have ac581003 : (fI (F580978 q580925) 32).toInt = p580944.toInt := by rw [he580981]; rfl
    exact G_iretA dr_cX17_told_60 rfl (Nat.le_of_ble_eq_true rfl) (Nat.le_of_ble_eq_true rfl) ⟨F580978, p580940, rfl, rfl, hT581000, hs580982, (Nat.le_of_ble_eq_true rfl), (Nat.le_of_ble_eq_true rfl), (by omega), (by omega), (by omega), (fun R c1 c2 c3 c4 c5 c6 c7 => c3 F580978 p580940 n580980 fq580983 ehs580998 fq580999)⟩
  by_cases hs581004 : p580926 = 2
  · have ehs581004 : p580926.toInt = 2 := gj_eq hs581004 (show Int32.toInt 2 = 2 by decide)
    have bp580926' : gB p580926 2 2 := ⟨by omega, by omega⟩
    refine G_eqi (y := 2) hs581004 ?_
    refine G_tableIn 61 dr_cX17_told_6 (by decide) (by decide) (by first | rfl | decide) (by decide) ?_
    refine G_aload_n 0 dr_cX17_told_61 rfl ?_
    have fq581005 : fI (F580978 q580925) 26 = p580941 := by rw [he580981]; rfl
    refine Gp_get 26 hm580928 he580981 dr_cX17_told_62 (gk_X17 D I) (Nat.le_of_ble_eq_true rfl) wr_7_100 rfl ?_
    have bp580941 : gB p580941 0 100000 := (hB580973.2.2.2.2.2.1)
    have hT581006 : RS D I P580923 F580978 γ el := RS_set hT n580980 htq580925 (by decide) ⟨q580930, q580931, p580932, p580933, p580934, p580935, p580936, p580937, p580938, p580939, p580940, p580941, p580942, 0, p580944, p580945, p580946, he580981, ⟨bp580932, bp580933, (hB580973.2.2.1), (hB580973.2.2.2.1), (hB580973.2.2.2.2.1), bp580941, (hB580973.2.2.2.2.2.2.1), bp580944, (hB580973.2.2.2.2.2.2.2.2)⟩, ht580947, ht580948, ht580949, ht580950, ht580951, ht580952, ht580953, ht580954, ht580955, ht580956, ht580957, ht580958, ht580959, ht580960, ht580961, ht580962, ht580963, ht580964, ht580965, ht580966, ht580967, ht580968, ht580969, ht580970, hB580974⟩
    have ac581007 : (fI (F580978 q580925) 9).toInt = p580932.toInt := by rw [he580981]; rfl
    have ac581008 : (fI (F580978 q580925) 10).toInt = p580933.toInt := by rw [he580981]; rfl
    have ac581009 : (fI (F580978 q580925) 32).toInt = p580944.toInt := by rw [he580981]; rfl
    exact G_iretA dr_cX17_told_65 rfl (Nat.le_of_ble_eq_true rfl) (Nat.le_of_ble_eq_true rfl) ⟨F580978, p580941, rfl, rfl, hT581006, hs580982, (Nat.le_of_ble_eq_true rfl), (Nat.le_of_ble_eq_true rfl), (by omega), (by omega), (by omega), (fun R c1 c2 c3 c4 c5 c6 c7 => c4 F580978 p580941 n580980 fq580983 ehs581004 fq581005)⟩
  by_cases hs581010 : p580926 = 3
  · have ehs581010 : p580926.toInt = 3 := gj_eq hs581010 (show Int32.toInt 3 = 3 by decide)
    have bp580926' : gB p580926 3 3 := ⟨by omega, by omega⟩
    refine G_eqi (y := 3) hs581010 ?_
    refine G_tableIn 66 dr_cX17_told_6 (by decide) (by decide) (by first | rfl | decide) (by decide) ?_
    refine G_aload_n 0 dr_cX17_told_66 rfl ?_
    have fq581011 : fI (F580978 q580925) 27 = p580942 := by rw [he580981]; rfl
    refine Gp_get 27 hm580928 he580981 dr_cX17_told_67 (gk_X17 D I) (Nat.le_of_ble_eq_true rfl) wr_7_101 rfl ?_
    have bp580942 : gB p580942 0 2048 := (hB580973.2.2.2.2.2.2.1)
    have hT581012 : RS D I P580923 F580978 γ el := RS_set hT n580980 htq580925 (by decide) ⟨q580930, q580931, p580932, p580933, p580934, p580935, p580936, p580937, p580938, p580939, p580940, p580941, p580942, 0, p580944, p580945, p580946, he580981, ⟨bp580932, bp580933, (hB580973.2.2.1), (hB580973.2.2.2.1), (hB580973.2.2.2.2.1), (hB580973.2.2.2.2.2.1), bp580942, bp580944, (hB580973.2.2.2.2.2.2.2.2)⟩, ht580947, ht580948, ht580949, ht580950, ht580951, ht580952, ht580953, ht580954, ht580955, ht580956, ht580957, ht580958, ht580959, ht580960, ht580961, ht580962, ht580963, ht580964, ht580965, ht580966, ht580967, ht580968, ht580969, ht580970, hB580974⟩
    have ac581013 : (fI (F580978 q580925) 9).toInt = p580932.toInt := by rw [he580981]; rfl
    have ac581014 : (fI (F580978 q580925) 10).toInt = p580933.toInt := by rw [he580981]; rfl
    have ac581015 : (fI (F580978 q580925) 32).toInt = p580944.toInt := by rw [he580981]; rfl
    exact G_iretA dr_cX17_told_70 rfl (Nat.le_of_ble_eq_true rfl) (Nat.le_of_ble_eq_true rfl) ⟨F580978, p580942, rfl, rfl, hT581012, hs580982, (Nat.le_of_ble_eq_true rfl), (Nat.le_of_ble_eq_true rfl), (by omega), (by omega), (by omega), (fun R c1 c2 c3 c4 c5 c6 c7 => c5 F580978 p580942 n580980 fq580983 ehs581010 fq581011)⟩
  by_cases hs581016 : p580926 = 4
  · have ehs581016 : p580926.toInt = 4 := gj_eq hs581016 (show Int32.toInt 4 = 4 by decide)
    have bp580926' : gB p580926 4 4 := ⟨by omega, by omega⟩
    refine G_eqi (y := 4) hs581016 ?_
    refine G_tableIn 71 dr_cX17_told_6 (by decide) (by decide) (by first | rfl | decide) (by decide) ?_
    refine G_aload_n 0 dr_cX17_told_71 rfl ?_
    have fq581017 : fI (F580978 q580925) 23 = p580938 := by rw [he580981]; rfl
    refine Gp_get 23 hm580928 he580981 dr_cX17_told_72 (gk_X17 D I) (Nat.le_of_ble_eq_true rfl) wr_7_97 rfl ?_
    have bp580938 : gB p580938 (-2147483648) 2147483647 := (gB_any p580938)
    have hT581018 : RS D I P580923 F580978 γ el := RS_set hT n580980 htq580925 (by decide) ⟨q580930, q580931, p580932, p580933, p580934, p580935, p580936, p580937, p580938, p580939, p580940, p580941, p580942, 0, p580944, p580945, p580946, he580981, ⟨bp580932, bp580933, (hB580973.2.2.1), (hB580973.2.2.2.1), (hB580973.2.2.2.2.1), (hB580973.2.2.2.2.2.1), (hB580973.2.2.2.2.2.2.1), bp580944, (hB580973.2.2.2.2.2.2.2.2)⟩, ht580947, ht580948, ht580949, ht580950, ht580951, ht580952, ht580953, ht580954, ht580955, ht580956, ht580957, ht580958, ht580959, ht580960, ht580961, ht580962, ht580963, ht580964, ht580965, ht580966, ht580967, ht580968, ht580969, ht580970, hB580974⟩
    have ac581019 : (fI (F580978 q580925) 9).toInt = p580932.toInt := by rw [he580981]; rfl
    have ac581020 : (fI (F580978 q580925) 10).toInt = p580933.toInt := by rw [he580981]; rfl
    have ac581021 : (fI (F580978 q580925) 32).toInt = p580944.toInt := by rw [he580981]; rfl
    exact G_iretA dr_cX17_told_75 rfl (Nat.le_of_ble_eq_true rfl) (Nat.le_of_ble_eq_true rfl) ⟨F580978, p580938, rfl, rfl, hT581018, hs580982, (Nat.le_of_ble_eq_true rfl), (Nat.le_of_ble_eq_true rfl), (by omega), (by omega), (by omega), (fun R c1 c2 c3 c4 c5 c6 c7 => c6 F580978 p580938 n580980 fq580983 ehs581016 fq581017)⟩
  have ehs580984 := lv_neT hs580984 (show Int32.toInt 0 = 0 by decide)
  have ehs580998 := lv_neT hs580998 (show Int32.toInt 1 = 1 by decide)
  have ehs581004 := lv_neT hs581004 (show Int32.toInt 2 = 2 by decide)
  have ehs581010 := lv_neT hs581010 (show Int32.toInt 3 = 3 by decide)
  have ehs581016 := lv_neT hs581016 (show Int32.toInt 4 = 4 by decide)
  refine G_tableOut 76 dr_cX17_told_6 (by omega) (by decide) ?_
  refine G_aload_n 0 dr_cX17_told_76 rfl ?_
  refine G_iconst 1 dr_cX17_told_77 (by decide +kernel) ?_
  have hT581022 : RS D I P580923 F580978 γ el := RS_set hT n580980 htq580925 (by decide) ⟨q580930, q580931, p580932, p580933, p580934, p580935, p580936, p580937, p580938, p580939, p580940, p580941, p580942, 0, p580944, p580945, p580946, he580981, ⟨bp580932, bp580933, (hB580973.2.2.1), (hB580973.2.2.2.1), (hB580973.2.2.2.2.1), (hB580973.2.2.2.2.2.1), (hB580973.2.2.2.2.2.2.1), bp580944, (hB580973.2.2.2.2.2.2.2.2)⟩, ht580947, ht580948, ht580949, ht580950, ht580951, ht580952, ht580953, ht580954, ht580955, ht580956, ht580957, ht580958, ht580959, ht580960, ht580961, ht580962, ht580963, ht580964, ht580965, ht580966, ht580967, ht580968, ht580969, ht580970, hB580974⟩
  have ac581091 : (fI (F580978 q580925) 9).toInt = p580932.toInt := by rw [he580981]; rfl
  have ac581092 : (fI (F580978 q580925) 10).toInt = p580933.toInt := by rw [he580981]; rfl
  have ac581093 : (fI (F580978 q580925) 32).toInt = p580944.toInt := by rw [he580981]; rfl
  refine Gw_callV (As := [.int 1]) (gV_ok D I) (ct_581027_SpillForgeModel_no l hl0 D I γ el P580923 F580978 q580925 1 hT581022 htq580925) dr_cX17_told_78 ⟨wr_7_191, wr_1_14, wr_7_194, by decide, rfl, (Nat.le_of_ble_eq_true rfl), (Nat.le_of_ble_eq_true rfl)⟩ wr_7_193 wr_p_73 hm580928 he580981 rfl (show 0 + 0 ≤ 0 by first | omega | decide) (show 0 + 0 ≤ 0 by first | omega | decide) (Nat.le_of_ble_eq_true rfl) (fun r581097 w581098 dc581094 ds581095 hp581096 => ?_) (fun _ _ _ _ _ z => z.elim)
  obtain ⟨F581104, rfl, rfl, hT581105, hs581106, hdc, hds, x581099, x581100, x581101, x581102, ht581103⟩ := hp581096
  have hs581107 : rStr γ [] F580924 F581104 := rStr_tr hs580982 hs581106
  rw [show Int32.toInt 1 = 1 from by decide] at x581102
  change G _ _ _ _ _ _ _ (.int 0 :: _) _ _ _
  refine G_widen (cs' := 0) (sl' := 0) (by omega) (by omega) ?_
  have hm581108 : q580925 ∈ P580923 := RS_m hT581105 htq580925 (by decide)
  refine rk10_e (show rk_10 γ (F581104 q580925) from RS_o hT581105 htq580925) (fun q581110 q581111 p581112 p581113 p581114 p581115 p581116 p581117 p581118 p581119 p581120 p581121 p581122 p581123 p581124 p581125 p581126 he581109 hB581153 ht581127 ht581128 ht581129 ht581130 ht581131 ht581132 ht581133 ht581134 ht581135 ht581136 ht581137 ht581138 ht581139 ht581140 ht581141 ht581142 ht581143 ht581144 ht581145 ht581146 ht581147 ht581148 ht581149 ht581150 hB581154 => ?_)
  have ac581155 : (fI (F581104 q580925) 9).toInt = p581112.toInt := by rw [he581109]; rfl
  have bp581112 : gB p581112 0 1 := (hB581153.1)
  have ac581156 : (fI (F581104 q580925) 10).toInt = p581113.toInt := by rw [he581109]; rfl
  have bp581113 : gB p581113 0 1 := (hB581153.2.1)
  have ac581157 : (fI (F581104 q580925) 32).toInt = p581124.toInt := by rw [he581109]; rfl
  have bp581124 : gB p581124 0 8192 := (hB581153.2.2.2.2.2.2.2.1)
  have ac581158 : (fI (F581104 q580925) 9).toInt = p581112.toInt := by rw [he581109]; rfl
  have ac581159 : (fI (F581104 q580925) 10).toInt = p581113.toInt := by rw [he581109]; rfl
  have ac581160 : (fI (F581104 q580925) 32).toInt = p581124.toInt := by rw [he581109]; rfl
  exact G_iretA dr_cX17_told_81 rfl (Nat.le_of_ble_eq_true rfl) (Nat.le_of_ble_eq_true rfl) ⟨F581104, 0, rfl, rfl, hT581105, hs581107, (Nat.le_of_ble_eq_true rfl), (Nat.le_of_ble_eq_true rfl), (by have qa0 : Int32.toInt 0 = 0 := (by decide); omega), (by have qa0 : Int32.toInt 0 = 0 := (by decide); omega), (by have qa0 : Int32.toInt 0 = 0 := (by decide); omega), (fun R c1 c2 c3 c4 c5 c6 c7 => c7 F580978 F581104 n580980 fq580983 ehs580984 ehs580998 ehs581004 ehs581010 ehs581016 hT581105 hs581106 x581099 x581100 x581101 x581102 ht581103)⟩
/- tr_RModel_shown: result, F -/
def tr_RModel_shown (D : va_G) (I : FieldType → ClassId) (γ el : Nat → Nat → Nat) (P : List Nat) (F : Nat → va_E) (q0 : Nat) (a1 : Int32) (o1 : Int32) (o2 : Nat → va_E) : Prop := ∀ R : (Int32) → (Nat → va_E) → Prop,
  (∀ (x1 : Nat → va_E) (x2 : Nat → va_E), (∀ b, b ≠ q0 → x1 b = F b) → x1 q0 = cF (F q0) 30 (.int 0) → a1.toInt < 0 → RS D I P x2 γ el → rStr γ [] x1 x2 → (fI (x2 q0) 9).toInt = (fI (x1 q0) 9).toInt → (fI (x2 q0) 10).toInt = (fI (x1 q0) 10).toInt → (fI (x2 q0) 32).toInt = (fI (x1 q0) 32).toInt → (fI (x2 q0) 30).toInt = 1 → tr_RModel_no D I γ el x1 q0 (1 : Int32) x2 → R (0 : Int32) x2) →
  (∀ (x1 : Nat → va_E) (x2 : Int32) (x3 : Nat → va_E), (∀ b, b ≠ q0 → x1 b = F b) → x1 q0 = cF (F q0) 30 (.int 0) → 0 ≤ a1.toInt → fI (x1 q0) 25 = x2 → x2.toInt ≤ a1.toInt → RS D I P x3 γ el → rStr γ [] x1 x3 → (fI (x3 q0) 9).toInt = (fI (x1 q0) 9).toInt → (fI (x3 q0) 10).toInt = (fI (x1 q0) 10).toInt → (fI (x3 q0) 32).toInt = (fI (x1 q0) 32).toInt → (fI (x3 q0) 30).toInt = 1 → tr_RModel_no D I γ el x1 q0 (1 : Int32) x3 → R (0 : Int32) x3) →
  (∀ (x1 : Nat → va_E) (x2 : Int32) (x3 : Nat → Int32) (x4 : Int32), (∀ b, b ≠ q0 → x1 b = F b) → x1 q0 = cF (F q0) 30 (.int 0) → 0 ≤ a1.toInt → fI (x1 q0) 25 = x2 → a1.toInt < x2.toInt → fR (x1 q0) 22 = (γ 9 22) → x1 (γ 9 22) = .inl (I .int, 512, .inl x3) → x4 = x3 a1.toNatClampNeg → R x4 x1) →
  R o1 o2
abbrev ky_581167_SpillForgeModel_shown : gKey := (cX17_shown, 2, "SpillForgeModel", (some FieldType.int), [], "shown", fun _ _ => True)
def pt_581167_SpillForgeModel_shown (D : va_G) (I : FieldType → ClassId) (γ el : Nat → Nat → Nat) (P581163 : List Nat) (F581164 : Nat → va_E) (q581165 : Nat) (p581166 : Int32) : Option Value → va_W → Nat → Nat → Prop := fun r w dc ds => ∃ (F581383 : Nat → va_E) (o581382 : Int32), r = some (.int o581382) ∧ w = va_pl P581163 F581383 ∧ RS D I P581163 F581383 γ el ∧ rStr γ [] F581164 F581383 ∧ dc ≤ 0 ∧ ds ≤ 0 ∧ (fI (F581383 q581165) 9).toInt = (fI (F581164 q581165) 9).toInt ∧ (fI (F581383 q581165) 10).toInt = (fI (F581164 q581165) 10).toInt ∧ (fI (F581383 q581165) 32).toInt = (fI (F581164 q581165) 32).toInt ∧ tr_RModel_shown D I γ el P581163 F581164 q581165 p581166 o581382 F581383
set_option maxRecDepth 100000 in
set_option maxHeartbeats 4000000 in
theorem ct_581167_SpillForgeModel_shown (l : Launch) (hl0 : l.stackTraces = false) (D : va_G) (I : FieldType → ClassId) (γ el : Nat → Nat → Nat) (P581163 : List Nat) (F581164 : Nat → va_E) (q581165 : Nat) (p581166 : Int32) (hT : RS D I P581163 F581164 γ el) (htq581165 : rKd γ q581165 10) : CtA (gV D I) l yX17_shown cX17_shown 2 (some FieldType.int) 1 21 0 0 [.ref q581165, .int p581166] (va_pl P581163 F581164) (pt_581167_SpillForgeModel_shown D I γ el P581163 F581164 q581165 p581166) gNA := by
  refine CtA_of hl0 (by decide) (Nat.le_of_ble_eq_true rfl) ?_
  have bp581166 := gB_any p581166
  have hm581168 : q581165 ∈ P581163 := RS_m hT htq581165 (by decide)
  refine rk10_e (show rk_10 γ (F581164 q581165) from RS_o hT htq581165) (fun q581170 q581171 p581172 p581173 p581174 p581175 p581176 p581177 p581178 p581179 p581180 p581181 p581182 p581183 p581184 p581185 p581186 he581169 hB581213 ht581187 ht581188 ht581189 ht581190 ht581191 ht581192 ht581193 ht581194 ht581195 ht581196 ht581197 ht581198 ht581199 ht581200 ht581201 ht581202 ht581203 ht581204 ht581205 ht581206 ht581207 ht581208 ht581209 ht581210 hB581214 => ?_)
  have ac581215 : (fI (F581164 q581165) 9).toInt = p581172.toInt := by rw [he581169]; rfl
  have bp581172 : gB p581172 0 1 := (hB581213.1)
  have ac581216 : (fI (F581164 q581165) 10).toInt = p581173.toInt := by rw [he581169]; rfl
  have bp581173 : gB p581173 0 1 := (hB581213.2.1)
  have ac581217 : (fI (F581164 q581165) 32).toInt = p581184.toInt := by rw [he581169]; rfl
  have bp581184 : gB p581184 0 8192 := (hB581213.2.2.2.2.2.2.2.1)
  refine G_aload_n 0 dr_cX17_shown_0 rfl ?_
  refine G_iconst 0 dr_cX17_shown_1 (by decide +kernel) ?_
  refine Gp_put 30 hm581168 he581169 dr_cX17_shown_2 (gk_X17 D I) (Nat.le_of_ble_eq_true rfl) wr_7_104 rfl rfl rfl (Nat.le_of_ble_eq_true rfl) (fun F581218 e581219 n581220 => ?_)
  have he581221 : F581218 q581165 = .inr (22, [.ref (γ 9 0), .ref (γ 9 1), .ref (γ 9 2), .ref (γ 9 3), .ref (γ 9 4), .ref (γ 9 5), .ref (γ 9 6), .ref (γ 9 7), .ref (γ 9 8), .int p581172, .int p581173, .int p581174, .int p581175, .int p581176, .int p581177, .ref (γ 9 15), .ref (γ 9 16), .ref (γ 9 17), .ref (γ 9 18), .ref (γ 9 19), .ref (γ 9 20), .ref (γ 9 21), .ref (γ 9 22), .int p581178, .int p581179, .int p581180, .int p581181, .int p581182, .ref q581170, .ref (γ 9 29), .int 0, .ref (γ 9 31), .int p581184, .int p581185, .int p581186, .ref q581171]) := e581219
  have hs581222 : rStr γ [] F581164 F581218 := rStr_put (rStr_rf (γ := γ) (W := []) (F := F581164)) n581220 htq581165 (by decide)
  have fq581223 : F581218 q581165 = cF (F581164 q581165) 30 (.int 0) := by rw [he581221, he581169]; rfl
  refine G_iload_n 1 dr_cX17_shown_5 rfl ?_
  refine G_if_lt 26 dr_cX17_shown_6 (by decide +kernel) (fun hc581224 => ?_) (fun hc581224 => ?_)
  · have r581225 : p581166.toInt < 0 := gj_lt hc581224 (show Int32.toInt 0 = 0 by decide)
    have bp581166' : gB p581166 (-2147483648) (-1) := ⟨by omega, by omega⟩
    refine G_aload_n 0 dr_cX17_shown_26 rfl ?_
    refine G_iconst 1 dr_cX17_shown_27 (by decide +kernel) ?_
    have hT581226 : RS D I P581163 F581218 γ el := RS_set hT n581220 htq581165 (by decide) ⟨q581170, q581171, p581172, p581173, p581174, p581175, p581176, p581177, p581178, p581179, p581180, p581181, p581182, 0, p581184, p581185, p581186, he581221, ⟨bp581172, bp581173, (hB581213.2.2.1), (hB581213.2.2.2.1), (hB581213.2.2.2.2.1), (hB581213.2.2.2.2.2.1), (hB581213.2.2.2.2.2.2.1), bp581184, (hB581213.2.2.2.2.2.2.2.2)⟩, ht581187, ht581188, ht581189, ht581190, ht581191, ht581192, ht581193, ht581194, ht581195, ht581196, ht581197, ht581198, ht581199, ht581200, ht581201, ht581202, ht581203, ht581204, ht581205, ht581206, ht581207, ht581208, ht581209, ht581210, hB581214⟩
    have ac581227 : (fI (F581218 q581165) 9).toInt = p581172.toInt := by rw [he581221]; rfl
    have ac581228 : (fI (F581218 q581165) 10).toInt = p581173.toInt := by rw [he581221]; rfl
    have ac581229 : (fI (F581218 q581165) 32).toInt = p581184.toInt := by rw [he581221]; rfl
    refine Gw_callV (As := [.int 1]) (gV_ok D I) (ct_581027_SpillForgeModel_no l hl0 D I γ el P581163 F581218 q581165 1 hT581226 htq581165) dr_cX17_shown_28 ⟨wr_7_191, wr_1_14, wr_7_194, by decide, rfl, (Nat.le_of_ble_eq_true rfl), (Nat.le_of_ble_eq_true rfl)⟩ wr_7_193 wr_p_73 hm581168 he581221 rfl (show 0 + 0 ≤ 0 by first | omega | decide) (show 0 + 0 ≤ 0 by first | omega | decide) (Nat.le_of_ble_eq_true rfl) (fun r581233 w581234 dc581230 ds581231 hp581232 => ?_) (fun _ _ _ _ _ z => z.elim)
    obtain ⟨F581240, rfl, rfl, hT581241, hs581242, hdc, hds, x581235, x581236, x581237, x581238, ht581239⟩ := hp581232
    have hs581243 : rStr γ [] F581164 F581240 := rStr_tr hs581222 hs581242
    rw [show Int32.toInt 1 = 1 from by decide] at x581238
    change G _ _ _ _ _ _ _ (.int 0 :: _) _ _ _
    refine G_widen (cs' := 0) (sl' := 0) (by omega) (by omega) ?_
    have hm581244 : q581165 ∈ P581163 := RS_m hT581241 htq581165 (by decide)
    refine rk10_e (show rk_10 γ (F581240 q581165) from RS_o hT581241 htq581165) (fun q581246 q581247 p581248 p581249 p581250 p581251 p581252 p581253 p581254 p581255 p581256 p581257 p581258 p581259 p581260 p581261 p581262 he581245 hB581289 ht581263 ht581264 ht581265 ht581266 ht581267 ht581268 ht581269 ht581270 ht581271 ht581272 ht581273 ht581274 ht581275 ht581276 ht581277 ht581278 ht581279 ht581280 ht581281 ht581282 ht581283 ht581284 ht581285 ht581286 hB581290 => ?_)
    have ac581291 : (fI (F581240 q581165) 9).toInt = p581248.toInt := by rw [he581245]; rfl
    have bp581248 : gB p581248 0 1 := (hB581289.1)
    have ac581292 : (fI (F581240 q581165) 10).toInt = p581249.toInt := by rw [he581245]; rfl
    have bp581249 : gB p581249 0 1 := (hB581289.2.1)
    have ac581293 : (fI (F581240 q581165) 32).toInt = p581260.toInt := by rw [he581245]; rfl
    have bp581260 : gB p581260 0 8192 := (hB581289.2.2.2.2.2.2.2.1)
    have ac581294 : (fI (F581240 q581165) 9).toInt = p581248.toInt := by rw [he581245]; rfl
    have ac581295 : (fI (F581240 q581165) 10).toInt = p581249.toInt := by rw [he581245]; rfl
    have ac581296 : (fI (F581240 q581165) 32).toInt = p581260.toInt := by rw [he581245]; rfl
    exact G_iretA dr_cX17_shown_31 rfl (Nat.le_of_ble_eq_true rfl) (Nat.le_of_ble_eq_true rfl) ⟨F581240, 0, rfl, rfl, hT581241, hs581243, (Nat.le_of_ble_eq_true rfl), (Nat.le_of_ble_eq_true rfl), (by have qa0 : Int32.toInt 0 = 0 := (by decide); omega), (by have qa0 : Int32.toInt 0 = 0 := (by decide); omega), (by have qa0 : Int32.toInt 0 = 0 := (by decide); omega), (fun R c1 c2 c3 => c1 F581218 F581240 n581220 fq581223 r581225 hT581241 hs581242 x581235 x581236 x581237 x581238 ht581239)⟩
  · have r581297 : 0 ≤ p581166.toInt := gj_nlt hc581224 (show Int32.toInt 0 = 0 by decide)
    have bp581166' : gB p581166 0 2147483647 := ⟨by omega, by omega⟩
    refine G_iload_n 1 dr_cX17_shown_9 rfl ?_
    refine G_aload_n 0 dr_cX17_shown_10 rfl ?_
    have fq581298 : fI (F581218 q581165) 25 = p581180 := by rw [he581221]; rfl
    refine Gp_get 25 hm581168 he581221 dr_cX17_shown_11 (gk_X17 D I) (Nat.le_of_ble_eq_true rfl) wr_7_99 rfl ?_
    have bp581180 : gB p581180 0 512 := (hB581213.2.2.2.2.1)
    refine G_icmp_ge 26 dr_cX17_shown_14 (by decide +kernel) (fun hc581299 => ?_) (fun hc581299 => ?_)
    · have r581300 : p581180.toInt ≤ p581166.toInt := gC_le hc581299
      refine G_aload_n 0 dr_cX17_shown_26 rfl ?_
      refine G_iconst 1 dr_cX17_shown_27 (by decide +kernel) ?_
      have hT581301 : RS D I P581163 F581218 γ el := RS_set hT n581220 htq581165 (by decide) ⟨q581170, q581171, p581172, p581173, p581174, p581175, p581176, p581177, p581178, p581179, p581180, p581181, p581182, 0, p581184, p581185, p581186, he581221, ⟨bp581172, bp581173, (hB581213.2.2.1), (hB581213.2.2.2.1), bp581180, (hB581213.2.2.2.2.2.1), (hB581213.2.2.2.2.2.2.1), bp581184, (hB581213.2.2.2.2.2.2.2.2)⟩, ht581187, ht581188, ht581189, ht581190, ht581191, ht581192, ht581193, ht581194, ht581195, ht581196, ht581197, ht581198, ht581199, ht581200, ht581201, ht581202, ht581203, ht581204, ht581205, ht581206, ht581207, ht581208, ht581209, ht581210, hB581214⟩
      have ac581302 : (fI (F581218 q581165) 9).toInt = p581172.toInt := by rw [he581221]; rfl
      have ac581303 : (fI (F581218 q581165) 10).toInt = p581173.toInt := by rw [he581221]; rfl
      have ac581304 : (fI (F581218 q581165) 32).toInt = p581184.toInt := by rw [he581221]; rfl
      refine Gw_callV (As := [.int 1]) (gV_ok D I) (ct_581027_SpillForgeModel_no l hl0 D I γ el P581163 F581218 q581165 1 hT581301 htq581165) dr_cX17_shown_28 ⟨wr_7_191, wr_1_14, wr_7_194, by decide, rfl, (Nat.le_of_ble_eq_true rfl), (Nat.le_of_ble_eq_true rfl)⟩ wr_7_193 wr_p_73 hm581168 he581221 rfl (show 0 + 0 ≤ 0 by first | omega | decide) (show 0 + 0 ≤ 0 by first | omega | decide) (Nat.le_of_ble_eq_true rfl) (fun r581308 w581309 dc581305 ds581306 hp581307 => ?_) (fun _ _ _ _ _ z => z.elim)
      obtain ⟨F581315, rfl, rfl, hT581316, hs581317, hdc, hds, x581310, x581311, x581312, x581313, ht581314⟩ := hp581307
      have hs581318 : rStr γ [] F581164 F581315 := rStr_tr hs581222 hs581317
      rw [show Int32.toInt 1 = 1 from by decide] at x581313
      change G _ _ _ _ _ _ _ (.int 0 :: _) _ _ _
      refine G_widen (cs' := 0) (sl' := 0) (by omega) (by omega) ?_
      have hm581319 : q581165 ∈ P581163 := RS_m hT581316 htq581165 (by decide)
      refine rk10_e (show rk_10 γ (F581315 q581165) from RS_o hT581316 htq581165) (fun q581321 q581322 p581323 p581324 p581325 p581326 p581327 p581328 p581329 p581330 p581331 p581332 p581333 p581334 p581335 p581336 p581337 he581320 hB581364 ht581338 ht581339 ht581340 ht581341 ht581342 ht581343 ht581344 ht581345 ht581346 ht581347 ht581348 ht581349 ht581350 ht581351 ht581352 ht581353 ht581354 ht581355 ht581356 ht581357 ht581358 ht581359 ht581360 ht581361 hB581365 => ?_)
      have ac581366 : (fI (F581315 q581165) 9).toInt = p581323.toInt := by rw [he581320]; rfl
      have bp581323 : gB p581323 0 1 := (hB581364.1)
      have ac581367 : (fI (F581315 q581165) 10).toInt = p581324.toInt := by rw [he581320]; rfl
      have bp581324 : gB p581324 0 1 := (hB581364.2.1)
      have ac581368 : (fI (F581315 q581165) 32).toInt = p581335.toInt := by rw [he581320]; rfl
      have bp581335 : gB p581335 0 8192 := (hB581364.2.2.2.2.2.2.2.1)
      have ac581369 : (fI (F581315 q581165) 9).toInt = p581323.toInt := by rw [he581320]; rfl
      have ac581370 : (fI (F581315 q581165) 10).toInt = p581324.toInt := by rw [he581320]; rfl
      have ac581371 : (fI (F581315 q581165) 32).toInt = p581335.toInt := by rw [he581320]; rfl
      exact G_iretA dr_cX17_shown_31 rfl (Nat.le_of_ble_eq_true rfl) (Nat.le_of_ble_eq_true rfl) ⟨F581315, 0, rfl, rfl, hT581316, hs581318, (Nat.le_of_ble_eq_true rfl), (Nat.le_of_ble_eq_true rfl), (by have qa0 : Int32.toInt 0 = 0 := (by decide); omega), (by have qa0 : Int32.toInt 0 = 0 := (by decide); omega), (by have qa0 : Int32.toInt 0 = 0 := (by decide); omega), (fun R c1 c2 c3 => c2 F581218 p581180 F581315 n581220 fq581223 r581297 fq581298 r581300 hT581316 hs581317 x581310 x581311 x581312 x581313 ht581314)⟩
    · have r581372 : p581166.toInt < p581180.toInt := gC_nle hc581299
      have bp581166'' : gB p581166 0 511 := ⟨by omega, by omega⟩
      have bp581180' : gB p581180 1 512 := ⟨by omega, by omega⟩
      refine G_aload_n 0 dr_cX17_shown_17 rfl ?_
      have fq581373 : fR (F581218 q581165) 22 = (γ 9 22) := by rw [he581221]; rfl
      refine Gp_get 22 hm581168 he581221 dr_cX17_shown_18 (gk_X17 D I) (Nat.le_of_ble_eq_true rfl) wr_7_96 rfl ?_
      refine G_iload_n 1 dr_cX17_shown_21 rfl ?_
      have hT581374 : RS D I P581163 F581218 γ el := RS_set hT n581220 htq581165 (by decide) ⟨q581170, q581171, p581172, p581173, p581174, p581175, p581176, p581177, p581178, p581179, p581180, p581181, p581182, 0, p581184, p581185, p581186, he581221, ⟨bp581172, bp581173, (hB581213.2.2.1), (hB581213.2.2.2.1), (gB_w bp581180' (by decide) (by decide)), (hB581213.2.2.2.2.2.1), (hB581213.2.2.2.2.2.2.1), bp581184, (hB581213.2.2.2.2.2.2.2.2)⟩, ht581187, ht581188, ht581189, ht581190, ht581191, ht581192, ht581193, ht581194, ht581195, ht581196, ht581197, ht581198, ht581199, ht581200, ht581201, ht581202, ht581203, ht581204, ht581205, ht581206, ht581207, ht581208, ht581209, ht581210, hB581214⟩
      have hm581375 : (γ 9 22) ∈ P581163 := RS_m hT581374 ht581205 (by decide)
      obtain ⟨f581377, he581376⟩ := show rk_97 I (F581218 (γ 9 22)) from RS_o hT581374 ht581205
      refine Gp_iald 0 hm581375 he581376 dr_cX17_shown_22 rfl (gB_in bp581166'' (by decide) (by decide)) (G_nam fun z581378 hz581378 => ?_)
      have bz581378 : gB z581378 (-2147483648) 2147483647 := gB_any z581378
      refine G_goto 31 dr_cX17_shown_23 (by decide +kernel) ?_
      have ac581379 : (fI (F581218 q581165) 9).toInt = p581172.toInt := by rw [he581221]; rfl
      have ac581380 : (fI (F581218 q581165) 10).toInt = p581173.toInt := by rw [he581221]; rfl
      have ac581381 : (fI (F581218 q581165) 32).toInt = p581184.toInt := by rw [he581221]; rfl
      exact G_iretA dr_cX17_shown_31 rfl (Nat.le_of_ble_eq_true rfl) (Nat.le_of_ble_eq_true rfl) ⟨F581218, z581378, rfl, rfl, hT581374, hs581222, (Nat.le_of_ble_eq_true rfl), (Nat.le_of_ble_eq_true rfl), (by omega), (by omega), (by omega), (fun R c1 c2 c3 => c3 F581218 p581180 f581377 z581378 n581220 fq581223 r581297 fq581298 r581372 fq581373 he581376 hz581378)⟩
/- tr_RModel_thrown: result -/
def tr_RModel_thrown (D : va_G) (I : FieldType → ClassId) (γ el : Nat → Nat → Nat) (F : Nat → va_E) (q0 : Nat) (o1 : Int32) : Prop := ∀ R : (Int32) → Prop,
  (∀ (x1 : Int32), fI (F q0) 30 = x1 → R x1) →
  R o1
abbrev ky_581387_SpillForgeModel_thrown : gKey := (cX17_thrown, 1, "SpillForgeModel", (some FieldType.int), [], "thrown", fun _ _ => True)
def pt_581387_SpillForgeModel_thrown (D : va_G) (I : FieldType → ClassId) (γ el : Nat → Nat → Nat) (P581384 : List Nat) (F581385 : Nat → va_E) (q581386 : Nat) : Option Value → va_W → Nat → Nat → Prop := fun r w dc ds => ∃ (o581438 : Int32), r = some (.int o581438) ∧ w = va_pl P581384 F581385 ∧ dc ≤ 0 ∧ ds ≤ 0 ∧ o581438.toInt = (fI (F581385 q581386) 30).toInt ∧ tr_RModel_thrown D I γ el F581385 q581386 o581438
set_option maxRecDepth 100000 in
set_option maxHeartbeats 4000000 in
theorem ct_581387_SpillForgeModel_thrown (l : Launch) (hl0 : l.stackTraces = false) (D : va_G) (I : FieldType → ClassId) (γ el : Nat → Nat → Nat) (P581384 : List Nat) (F581385 : Nat → va_E) (q581386 : Nat) (hT : RS D I P581384 F581385 γ el) (htq581386 : rKd γ q581386 10) : CtA (gV D I) l yX17_thrown cX17_thrown 1 (some FieldType.int) 0 0 0 0 [.ref q581386] (va_pl P581384 F581385) (pt_581387_SpillForgeModel_thrown D I γ el P581384 F581385 q581386) gNA := by
  refine CtA_of hl0 (by decide) (Nat.le_of_ble_eq_true rfl) ?_
  have hm581388 : q581386 ∈ P581384 := RS_m hT htq581386 (by decide)
  refine rk10_e (show rk_10 γ (F581385 q581386) from RS_o hT htq581386) (fun q581390 q581391 p581392 p581393 p581394 p581395 p581396 p581397 p581398 p581399 p581400 p581401 p581402 p581403 p581404 p581405 p581406 he581389 hB581433 ht581407 ht581408 ht581409 ht581410 ht581411 ht581412 ht581413 ht581414 ht581415 ht581416 ht581417 ht581418 ht581419 ht581420 ht581421 ht581422 ht581423 ht581424 ht581425 ht581426 ht581427 ht581428 ht581429 ht581430 hB581434 => ?_)
  have ac581435 : (fI (F581385 q581386) 30).toInt = p581403.toInt := by rw [he581389]; rfl
  have bp581403 : gB p581403 (-2147483648) 2147483647 := (gB_any p581403)
  refine G_aload_n 0 dr_cX17_thrown_0 rfl ?_
  have fq581436 : fI (F581385 q581386) 30 = p581403 := by rw [he581389]; rfl
  refine Gp_get 30 hm581388 he581389 dr_cX17_thrown_1 (gk_X17 D I) (Nat.le_of_ble_eq_true rfl) wr_7_104 rfl ?_
  have ac581437 : (fI (F581385 q581386) 30).toInt = p581403.toInt := by rw [he581389]; rfl
  exact G_iretA dr_cX17_thrown_4 rfl (Nat.le_of_ble_eq_true rfl) (Nat.le_of_ble_eq_true rfl) ⟨p581403, rfl, rfl, (Nat.le_of_ble_eq_true rfl), (Nat.le_of_ble_eq_true rfl), (by omega), (fun R c1 => c1 p581403 fq581436)⟩
/- tl_RModel_word_2: F, l3; out: F -/
def tl_RModel_word_2 (D : va_G) (I : FieldType → ClassId) (γ el : Nat → Nat → Nat) (P : List Nat) (F : Nat → va_E) (q0 : Nat) (a2 : Int32) (a1 : Int32) (s1 : Nat → va_E) (s2 : Int32) (k : Nat) (e1 : Nat → va_E) : Prop := ∀ R : (Nat → va_E) → (Int32) → Nat → (Nat → va_E) → Prop,
  (∀ (F_1 : Nat → va_E) (l3_1 : Int32), gB l3_1 0 4 → RS D I P F_1 γ el → rStr γ [99] F F_1 → (fI (F_1 q0) 9).toInt = (fI (F q0) 9).toInt → (fI (F_1 q0) 10).toInt = (fI (F q0) 10).toInt → (fI (F_1 q0) 32).toInt = (fI (F q0) 32).toInt → (fI (F_1 q0) 30).toInt = (fI (F q0) 30).toInt → 4 ≤ l3_1.toInt → R F_1 l3_1 31 F_1) →
  (∀ (F_1 : Nat → va_E) (l3_1 : Int32) (x1 : Int32) (x2 : Int32) (x3 : Int32) (x4 : Int32) (x5 : Int32) (x6 : Nat → Int32) (x7 : Nat → Int32) (x8 : Nat → va_E) (x9 : Int32) (k : Nat) (e1 : Nat → va_E), gB l3_1 0 4 → RS D I P F_1 γ el → rStr γ [99] F F_1 → (fI (F_1 q0) 9).toInt = (fI (F q0) 9).toInt → (fI (F_1 q0) 10).toInt = (fI (F q0) 10).toInt → (fI (F_1 q0) 32).toInt = (fI (F q0) 32).toInt → (fI (F_1 q0) 30).toInt = (fI (F q0) 30).toInt → l3_1.toInt < 4 → fR (F_1 q0) 31 = (γ 9 31) → x1.toInt = a2.toInt + l3_1.toInt → x2.toInt = 8 * l3_1.toInt → x3.toInt = 24 - x2.toInt → x4 = a1 >>> (x3 &&& 31) → x5 = x4.toInt8.toInt32 → F_1 (γ 9 31) = .inl (I .byte, 8192, .inl x6) → x7 = upd x6 x1.toNatClampNeg (vp_nar .byte x5) → (∀ b, b ≠ (γ 9 31) → x8 b = F_1 b) → x8 (γ 9 31) = .inl (I .byte, 8192, .inl x7) → x9.toInt = l3_1.toInt + 1 → R x8 x9 k e1 → R F_1 l3_1 k e1) →
  R s1 s2 k e1
/- tr_RModel_word: F -/
def tr_RModel_word (D : va_G) (I : FieldType → ClassId) (γ el : Nat → Nat → Nat) (P : List Nat) (F : Nat → va_E) (q0 : Nat) (a1 : Int32) (a2 : Int32) (o1 : Nat → va_E) : Prop := ∀ R : (Nat → va_E) → Prop,
  (∀ (x1 : Nat → va_E), tl_RModel_word_2 D I γ el P F q0 a2 a1 F (0 : Int32) 31 x1 → R x1) →
  R o1
abbrev ky_581516_SpillForgeModel_word : gKey := (cX17_word, 4, "SpillForgeModel", none, [], "word", fun _ _ => True)
def pt_581516_SpillForgeModel_word (D : va_G) (I : FieldType → ClassId) (γ el : Nat → Nat → Nat) (P581511 : List Nat) (F581512 : Nat → va_E) (q581513 : Nat) (p581514 : Int32) (p581515 : Int32) : Option Value → va_W → Nat → Nat → Prop := fun r w dc ds => ∃ (F582008 : Nat → va_E), r = none ∧ w = va_pl P581511 F582008 ∧ RS D I P581511 F582008 γ el ∧ rStr γ [99] F581512 F582008 ∧ dc ≤ 0 ∧ ds ≤ 0 ∧ (fI (F582008 q581513) 9).toInt = (fI (F581512 q581513) 9).toInt ∧ (fI (F582008 q581513) 10).toInt = (fI (F581512 q581513) 10).toInt ∧ (fI (F582008 q581513) 32).toInt = (fI (F581512 q581513) 32).toInt ∧ (fI (F582008 q581513) 30).toInt = (fI (F581512 q581513) 30).toInt ∧ tr_RModel_word D I γ el P581511 F581512 q581513 p581514 p581515 F582008
set_option maxRecDepth 100000 in
set_option maxHeartbeats 4000000 in
theorem ct_581516_SpillForgeModel_word (l : Launch) (hl0 : l.stackTraces = false) (D : va_G) (I : FieldType → ClassId) (γ el : Nat → Nat → Nat) (P581511 : List Nat) (F581512 : Nat → va_E) (q581513 : Nat) (p581514 : Int32) (p581515 : Int32) (hT : RS D I P581511 F581512 γ el) (htq581513 : rKd γ q581513 10) (bp581515 : gB p581515 0 8188) : CtA (gV D I) l yX17_word cX17_word 4 none 0 0 0 0 [.ref q581513, .int p581514, .int p581515] (va_pl P581511 F581512) (pt_581516_SpillForgeModel_word D I γ el P581511 F581512 q581513 p581514 p581515) gNA := by
  refine CtA_of hl0 (by decide) (Nat.le_of_ble_eq_true rfl) ?_
  have bp581514 := gB_any p581514
  have hm581517 : q581513 ∈ P581511 := RS_m hT htq581513 (by decide)
  refine rk10_e (show rk_10 γ (F581512 q581513) from RS_o hT htq581513) (fun q581519 q581520 p581521 p581522 p581523 p581524 p581525 p581526 p581527 p581528 p581529 p581530 p581531 p581532 p581533 p581534 p581535 he581518 hB581562 ht581536 ht581537 ht581538 ht581539 ht581540 ht581541 ht581542 ht581543 ht581544 ht581545 ht581546 ht581547 ht581548 ht581549 ht581550 ht581551 ht581552 ht581553 ht581554 ht581555 ht581556 ht581557 ht581558 ht581559 hB581563 => ?_)
  have ac581564 : (fI (F581512 q581513) 9).toInt = p581521.toInt := by rw [he581518]; rfl
  have bp581521 : gB p581521 0 1 := (hB581562.1)
  have ac581565 : (fI (F581512 q581513) 10).toInt = p581522.toInt := by rw [he581518]; rfl
  have bp581522 : gB p581522 0 1 := (hB581562.2.1)
  have ac581566 : (fI (F581512 q581513) 32).toInt = p581533.toInt := by rw [he581518]; rfl
  have bp581533 : gB p581533 0 8192 := (hB581562.2.2.2.2.2.2.2.1)
  have ac581567 : (fI (F581512 q581513) 30).toInt = p581532.toInt := by rw [he581518]; rfl
  have bp581532 : gB p581532 (-2147483648) 2147483647 := (gB_any p581532)
  refine G_iconst 0 dr_cX17_word_0 (by decide +kernel) ?_
  refine G_istore_n (L' := [(3, .int 0), (0, .ref q581513), (1, .int p581514), (2, .int p581515)]) dr_cX17_word_1 (Nat.le_of_ble_eq_true rfl) rfl ?_
  have hlp2_581915 : ∀ (n2_581915 : Nat) (F581909 : Nat → va_E) (g581908 : Int32), gB g581908 0 4 → RS D I P581511 F581909 γ el → rStr γ [99] F581512 F581909 → (fI (F581909 q581513) 9).toInt = (fI (F581512 q581513) 9).toInt → (fI (F581909 q581513) 10).toInt = (fI (F581512 q581513) 10).toInt → (fI (F581909 q581513) 32).toInt = (fI (F581512 q581513) 32).toInt → (fI (F581909 q581513) 30).toInt = (fI (F581512 q581513) 30).toInt → (∀ (k : Nat) (e1 : Nat → va_E), tl_RModel_word_2 D I γ el P581511 F581512 q581513 p581515 p581514 F581909 g581908 k e1 → tl_RModel_word_2 D I γ el P581511 F581512 q581513 p581515 p581514 F581512 (0 : Int32) k e1) → ((5 : Int) - g581908.toInt).toNat < n2_581915 → G (gV D I) l (gRm 0 0 0 0) (gMA (gV D I) (pt_581516_SpillForgeModel_word D I γ el P581511 F581512 q581513 p581514 p581515) gNA 0 0) ky_581516_SpillForgeModel_word 2 [(3, .int g581908), (0, .ref q581513), (1, .int p581514), (2, .int p581515)] [] (va_pl P581511 F581909) 0 0 := by
    intro n2_581915
    induction n2_581915 with
    | zero => intro F581909 g581908 bg581908 hT581910 hs581911 x581912 x581913 x581914 x581915 kt2_581916 hm2_581915; exact absurd hm2_581915 (Nat.not_lt_zero _)
    | succ n2_581915 ih2_581915 =>
      intro F581909 g581908 bg581908 hT581910 hs581911 x581912 x581913 x581914 x581915 kt2_581916 hm2_581915
      have hs581917 : rStr γ [99] F581512 F581909 := fun b h0 hb hw => (hs581911 b h0 hb hw).trans ((rStr_rf (γ := γ) (W := [99]) (F := F581512)) b h0 hb hw).symm
      have hs581918 : rStr γ [99] F581512 F581909 := rStr_tr (rStr_rf (γ := γ) (W := [99]) (F := F581512)) hs581917
      have hm581919 : q581513 ∈ P581511 := RS_m hT581910 htq581513 (by decide)
      refine rk10_e (show rk_10 γ (F581909 q581513) from RS_o hT581910 htq581513) (fun q581921 q581922 p581923 p581924 p581925 p581926 p581927 p581928 p581929 p581930 p581931 p581932 p581933 p581934 p581935 p581936 p581937 he581920 hB581964 ht581938 ht581939 ht581940 ht581941 ht581942 ht581943 ht581944 ht581945 ht581946 ht581947 ht581948 ht581949 ht581950 ht581951 ht581952 ht581953 ht581954 ht581955 ht581956 ht581957 ht581958 ht581959 ht581960 ht581961 hB581965 => ?_)
      have ac581966 : (fI (F581909 q581513) 9).toInt = p581923.toInt := by rw [he581920]; rfl
      have bp581923 : gB p581923 0 1 := (hB581964.1)
      have ac581967 : (fI (F581909 q581513) 10).toInt = p581924.toInt := by rw [he581920]; rfl
      have bp581924 : gB p581924 0 1 := (hB581964.2.1)
      have ac581968 : (fI (F581909 q581513) 32).toInt = p581935.toInt := by rw [he581920]; rfl
      have bp581935 : gB p581935 0 8192 := (hB581964.2.2.2.2.2.2.2.1)
      have ac581969 : (fI (F581909 q581513) 30).toInt = p581934.toInt := by rw [he581920]; rfl
      have bp581934 : gB p581934 (-2147483648) 2147483647 := (gB_any p581934)
      have ac581970 : (fI (F581909 q581513) 9).toInt = p581923.toInt := by rw [he581920]; rfl
      have ac581971 : (fI (F581909 q581513) 10).toInt = p581924.toInt := by rw [he581920]; rfl
      have ac581972 : (fI (F581909 q581513) 32).toInt = p581935.toInt := by rw [he581920]; rfl
      have ac581973 : (fI (F581909 q581513) 30).toInt = p581934.toInt := by rw [he581920]; rfl
      refine G_iload_n 0 dr_cX17_word_2 rfl ?_
      refine G_iconst 4 dr_cX17_word_3 (by decide +kernel) ?_
      refine G_icmp_ge 31 dr_cX17_word_4 (by decide +kernel) (fun hc581974 => ?_) (fun hc581974 => ?_)
      · have r581975 : 4 ≤ g581908.toInt := gj_leL hc581974 (show Int32.toInt 4 = 4 by decide)
        have bg581908' : gB g581908 4 4 := ⟨by omega, by omega⟩
        have hx581976 : tl_RModel_word_2 D I γ el P581511 F581512 q581513 p581515 p581514 F581512 (0 : Int32) 31 F581909 := kt2_581916 31 F581909 (fun R c1 c2 => c1 F581909 g581908 bg581908 hT581910 hs581911 x581912 x581913 x581914 x581915 r581975)
        have ac581977 : (fI (F581909 q581513) 9).toInt = p581923.toInt := by rw [he581920]; rfl
        have ac581978 : (fI (F581909 q581513) 10).toInt = p581924.toInt := by rw [he581920]; rfl
        have ac581979 : (fI (F581909 q581513) 32).toInt = p581935.toInt := by rw [he581920]; rfl
        have ac581980 : (fI (F581909 q581513) 30).toInt = p581934.toInt := by rw [he581920]; rfl
        exact G_vretA dr_cX17_word_31 rfl (Nat.le_of_ble_eq_true rfl) (Nat.le_of_ble_eq_true rfl) ⟨F581909, rfl, rfl, hT581910, hs581911, (Nat.le_of_ble_eq_true rfl), (Nat.le_of_ble_eq_true rfl), (by omega), (by omega), (by omega), (by omega), (fun R c1 => c1 F581909 hx581976)⟩
      · have r581981 : g581908.toInt < 4 := gj_nleL hc581974 (show Int32.toInt 4 = 4 by decide)
        have bg581908' : gB g581908 0 3 := ⟨by omega, by omega⟩
        refine G_aload_n 1 dr_cX17_word_7 rfl ?_
        have fq581982 : fR (F581909 q581513) 31 = (γ 9 31) := by rw [he581920]; rfl
        refine Gp_get 31 hm581919 he581920 dr_cX17_word_8 (gk_X17 D I) (Nat.le_of_ble_eq_true rfl) wr_7_105 rfl ?_
        refine G_iload_n 3 dr_cX17_word_11 rfl ?_
        refine G_iload_n 0 dr_cX17_word_12 rfl ?_
        refine G_iadd dr_cX17_word_13 (G_nam fun z581983 hz581983 => ?_)
        have ez581983 : z581983.toInt = p581515.toInt + g581908.toInt := by rw [gI_add hz581983 bp581515 bg581908' (by decide) (by decide)]
        have bz581983 : gB z581983 0 8191 := gB_add (gI_add hz581983 bp581515 bg581908' (by decide) (by decide)) bp581515 bg581908' (by decide) (by decide)
        refine G_iload_n 2 dr_cX17_word_14 rfl ?_
        refine G_bipush 24 dr_cX17_word_15 (by decide +kernel) ?_
        refine G_bipush 8 dr_cX17_word_17 (by decide +kernel) ?_
        refine G_iload_n 0 dr_cX17_word_19 rfl ?_
        refine G_imul dr_cX17_word_20 (G_nam fun z581984 hz581984 => ?_)
        have ez581984 : z581984.toInt = 8 * g581908.toInt := by rw [gI_mul hz581984 (gBl (show Int32.toInt 8 = 8 by decide)) bg581908' (by decide) (by decide) (by decide), show Int32.toInt 8 = 8 from by decide]
        have bz581984 : gB z581984 0 24 := gB_mul hz581984 (gBl (show Int32.toInt 8 = 8 by decide)) bg581908' (by decide) (by decide) (by decide) (by decide)
        refine G_isub dr_cX17_word_21 (G_nam fun z581985 hz581985 => ?_)
        have ez581985 : z581985.toInt = 24 - z581984.toInt := by rw [gI_sub hz581985 (gBl (show Int32.toInt 24 = 24 by decide)) bz581984 (by decide) (by decide), show Int32.toInt 24 = 24 from by decide]
        have bz581985 : gB z581985 0 24 := gB_sub (gI_sub hz581985 (gBl (show Int32.toInt 24 = 24 by decide)) bz581984 (by decide) (by decide)) (gBl (show Int32.toInt 24 = 24 by decide)) bz581984 (by decide) (by decide)
        refine G_ishr dr_cX17_word_22 (G_nam fun z581986 hz581986 => ?_)
        have bz581986 : gB z581986 (-2147483648) 2147483647 := gB_any z581986
        refine G_i2b dr_cX17_word_23 (G_nam fun z581987 hz581987 => ?_)
        have bz581987 : gB z581987 (-128) 127 := gB_i2b hz581987
        have hm581988 : (γ 9 31) ∈ P581511 := RS_m hT581910 ht581958 (by decide)
        obtain ⟨f581990, he581989, bf581990⟩ := show rk_99 I (F581909 (γ 9 31)) from RS_o hT581910 ht581958
        refine Gp_bast 1 hm581988 he581989 dr_cX17_word_24 rfl (gB_in bz581983 (by decide) (by decide)) (fun F581991 e581992 n581993 => ?_)
        obtain ⟨f581994, hf581994⟩ : ∃ z, z = upd f581990 z581983.toNatClampNeg (vp_nar .byte z581987) := ⟨_, rfl⟩
        rw [← hf581994] at e581992
        have he581995 : F581991 q581513 = .inr (22, [.ref (γ 9 0), .ref (γ 9 1), .ref (γ 9 2), .ref (γ 9 3), .ref (γ 9 4), .ref (γ 9 5), .ref (γ 9 6), .ref (γ 9 7), .ref (γ 9 8), .int p581923, .int p581924, .int p581925, .int p581926, .int p581927, .int p581928, .ref (γ 9 15), .ref (γ 9 16), .ref (γ 9 17), .ref (γ 9 18), .ref (γ 9 19), .ref (γ 9 20), .ref (γ 9 21), .ref (γ 9 22), .int p581929, .int p581930, .int p581931, .int p581932, .int p581933, .ref q581921, .ref (γ 9 29), .int p581934, .ref (γ 9 31), .int p581935, .int p581936, .int p581937, .ref q581922]) := (n581993 q581513 (rn_oa he581920 he581989)).trans he581920
        have he581996 : F581991 (γ 9 31) = .inl (I .byte, 8192, .inl f581994) := e581992
        have hs581997 : rStr γ [99] F581512 F581991 := rStr_pu2 hs581911 n581993 ht581958 (by decide)
        have bf581994 : gF f581994 (-128) 127 := gF_upd hf581994 bf581990 gB_byte
        obtain ⟨z581998, hz581998⟩ : ∃ z : Int32, z = g581908 + Int32.ofInt 1 := ⟨_, rfl⟩
        have ez581998 : z581998.toInt = g581908.toInt + 1 := gI_inc hz581998 (by decide) bg581908' (by decide) (by decide)
        have bz581998 : gB z581998 1 4 := ⟨by omega, by omega⟩
        refine G_iinc (L' := [(3, .int z581998), (0, .ref q581513), (1, .int p581514), (2, .int p581515)]) z581998 0 dr_cX17_word_25 rfl hz581998.symm (Nat.le_of_ble_eq_true rfl) rfl ?_
        refine G_goto 2 dr_cX17_word_28 (by decide +kernel) ?_
        have hT581999 : RS D I P581511 F581991 γ el := RS_set hT581910 n581993 ht581958 (by decide) ⟨f581994, he581996, bf581994⟩
        have ac582000 : (fI (F581991 q581513) 9).toInt = p581923.toInt := by rw [he581995]; rfl
        have ac582001 : (fI (F581991 q581513) 10).toInt = p581924.toInt := by rw [he581995]; rfl
        have ac582002 : (fI (F581991 q581513) 32).toInt = p581935.toInt := by rw [he581995]; rfl
        have ac582003 : (fI (F581991 q581513) 30).toInt = p581934.toInt := by rw [he581995]; rfl
        exact ih2_581915 F581991 z581998 (gB_w bz581998 (by decide) (by decide)) hT581999 hs581997 (by omega) (by omega) (by omega) (by omega) (fun k e1 ht => kt2_581916 k e1 (fun R c1 c2 => c2 F581909 g581908 z581983 z581984 z581985 z581986 z581987 f581990 f581994 F581991 z581998 k e1 bg581908 hT581910 hs581911 x581912 x581913 x581914 x581915 r581981 fq581982 ez581983 ez581984 ez581985 hz581986 hz581987 he581989 hf581994 n581993 he581996 ez581998 (ht R c1 c2))) (mz_up ez581998 (Int.le_trans bg581908'.2 (by decide)) hm2_581915)
  have ac582004 : (fI (F581512 q581513) 9).toInt = p581521.toInt := by rw [he581518]; rfl
  have ac582005 : (fI (F581512 q581513) 10).toInt = p581522.toInt := by rw [he581518]; rfl
  have ac582006 : (fI (F581512 q581513) 32).toInt = p581533.toInt := by rw [he581518]; rfl
  have ac582007 : (fI (F581512 q581513) 30).toInt = p581532.toInt := by rw [he581518]; rfl
  exact hlp2_581915 (((5 : Int) - 0).toNat + 1) F581512 0 (gB_w (gBl (show Int32.toInt 0 = 0 by decide)) (by decide) (by decide)) hT (rStr_rf (γ := γ) (W := [99]) (F := F581512)) (by omega) (by omega) (by omega) (by omega) (fun k e1 ht => ht) (Nat.lt_succ_self _)
/- tr_RModel_feed: result, F -/
def tr_RModel_feed (D : va_G) (I : FieldType → ClassId) (γ el : Nat → Nat → Nat) (P : List Nat) (F : Nat → va_E) (q0 : Nat) (a1 : Int32) (a2 : Int32) (a3 : Int32) (a4 : Int32) (a5 : Int32) (o1 : Int32) (o2 : Nat → va_E) : Prop := ∀ R : (Int32) → (Nat → va_E) → Prop,
  (∀ (x1 : Nat → va_E) (x2 : Int32) (x3 : Int32) (x4 : Nat → va_E) (x5 : Int32) (x6 : Int32) (x7 : Nat → va_E) (x8 : Int32) (x9 : Int32) (x10 : Nat → va_E) (x11 : Int32) (x12 : Int32) (x13 : Nat → va_E) (x14 : Int32) (x15 : Int32) (x16 : Nat → va_E) (x17 : Int32) (x18 : Int32) (x19 : Nat → va_E), (∀ b, b ≠ q0 → x1 b = F b) → x1 q0 = cF (F q0) 30 (.int 0) → fI (x1 q0) 32 = x2 → x3.toInt = x2.toInt + 20 → x3.toInt ≤ 8192 → RS D I P x4 γ el → rStr γ [99] x1 x4 → (fI (x4 q0) 9).toInt = (fI (x1 q0) 9).toInt → (fI (x4 q0) 10).toInt = (fI (x1 q0) 10).toInt → (fI (x4 q0) 32).toInt = (fI (x1 q0) 32).toInt → (fI (x4 q0) 30).toInt = (fI (x1 q0) 30).toInt → tr_RModel_word D I γ el P x1 q0 a1 x2 x4 → fI (x4 q0) 32 = x5 → x6.toInt = x5.toInt + 4 → RS D I P x7 γ el → rStr γ [99] x4 x7 → (fI (x7 q0) 9).toInt = (fI (x4 q0) 9).toInt → (fI (x7 q0) 10).toInt = (fI (x4 q0) 10).toInt → (fI (x7 q0) 32).toInt = (fI (x4 q0) 32).toInt → (fI (x7 q0) 30).toInt = (fI (x4 q0) 30).toInt → tr_RModel_word D I γ el P x4 q0 a2 x6 x7 → fI (x7 q0) 32 = x8 → x9.toInt = x8.toInt + 8 → RS D I P x10 γ el → rStr γ [99] x7 x10 → (fI (x10 q0) 9).toInt = (fI (x7 q0) 9).toInt → (fI (x10 q0) 10).toInt = (fI (x7 q0) 10).toInt → (fI (x10 q0) 32).toInt = (fI (x7 q0) 32).toInt → (fI (x10 q0) 30).toInt = (fI (x7 q0) 30).toInt → tr_RModel_word D I γ el P x7 q0 a3 x9 x10 → fI (x10 q0) 32 = x11 → x12.toInt = x11.toInt + 12 → RS D I P x13 γ el → rStr γ [99] x10 x13 → (fI (x13 q0) 9).toInt = (fI (x10 q0) 9).toInt → (fI (x13 q0) 10).toInt = (fI (x10 q0) 10).toInt → (fI (x13 q0) 32).toInt = (fI (x10 q0) 32).toInt → (fI (x13 q0) 30).toInt = (fI (x10 q0) 30).toInt → tr_RModel_word D I γ el P x10 q0 a4 x12 x13 → fI (x13 q0) 32 = x14 → x15.toInt = x14.toInt + 16 → RS D I P x16 γ el → rStr γ [99] x13 x16 → (fI (x16 q0) 9).toInt = (fI (x13 q0) 9).toInt → (fI (x16 q0) 10).toInt = (fI (x13 q0) 10).toInt → (fI (x16 q0) 32).toInt = (fI (x13 q0) 32).toInt → (fI (x16 q0) 30).toInt = (fI (x13 q0) 30).toInt → tr_RModel_word D I γ el P x13 q0 a5 x15 x16 → fI (x16 q0) 32 = x17 → x18.toInt = x17.toInt + 20 → (∀ b, b ≠ q0 → x19 b = x16 b) → x19 q0 = cF (x16 q0) 32 (.int x18) → fI (x19 q0) 32 = x18 → R x18 x19) →
  (∀ (x1 : Nat → va_E) (x2 : Int32) (x3 : Int32) (x4 : Nat → va_E), (∀ b, b ≠ q0 → x1 b = F b) → x1 q0 = cF (F q0) 30 (.int 0) → fI (x1 q0) 32 = x2 → x3.toInt = x2.toInt + 20 → 8192 < x3.toInt → RS D I P x4 γ el → rStr γ [] x1 x4 → (fI (x4 q0) 9).toInt = (fI (x1 q0) 9).toInt → (fI (x4 q0) 10).toInt = (fI (x1 q0) 10).toInt → (fI (x4 q0) 32).toInt = (fI (x1 q0) 32).toInt → (fI (x4 q0) 30).toInt = 1 → tr_RModel_no D I γ el x1 q0 (1 : Int32) x4 → R (0 : Int32) x4) →
  R o1 o2
