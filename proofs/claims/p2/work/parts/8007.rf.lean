abbrev ky_627106_SpillForgeModel_no : gKey := (cX17_no, 2, "SpillForgeModel", (some FieldType.int), [], "no", fun _ _ => True)
def pt_627106_SpillForgeModel_no (D : va_G) (I : FieldType → ClassId) (γ el : Nat → Nat → Nat) (P627102 : List Nat) (F627103 : Nat → va_E) (q627104 : Nat) (p627105 : Int32) : Option Value → va_W → Nat → Nat → Prop := fun r w dc ds => ∃ (F627168 : Nat → va_E), r = some (.int 0) ∧ w = va_pl P627102 F627168 ∧ RS D I P627102 F627168 γ el ∧ rStr γ [] F627103 F627168 ∧ dc ≤ 0 ∧ ds ≤ 0 ∧ (fI (F627168 q627104) 9).toInt = (fI (F627103 q627104) 9).toInt ∧ (fI (F627168 q627104) 10).toInt = (fI (F627103 q627104) 10).toInt ∧ (fI (F627168 q627104) 32).toInt = (fI (F627103 q627104) 32).toInt ∧ (fI (F627168 q627104) 30).toInt = p627105.toInt
set_option maxRecDepth 100000 in
set_option maxHeartbeats 4000000 in
theorem ct_627106_SpillForgeModel_no (l : Launch) (hl0 : l.stackTraces = false) (D : va_G) (I : FieldType → ClassId) (γ el : Nat → Nat → Nat) (P627102 : List Nat) (F627103 : Nat → va_E) (q627104 : Nat) (p627105 : Int32) (hT : RS D I P627102 F627103 γ el) (htq627104 : rKd γ q627104 10) : CtA (gV D I) l yX17_no cX17_no 2 (some FieldType.int) 0 0 0 0 [.ref q627104, .int p627105] (va_pl P627102 F627103) (pt_627106_SpillForgeModel_no D I γ el P627102 F627103 q627104 p627105) gNA := by
  refine CtA_of hl0 (by decide) (Nat.le_of_ble_eq_true rfl) ?_
  have bp627105 := gB_any p627105
  have hm627107 : q627104 ∈ P627102 := RS_m hT htq627104 (by decide)
  refine rk10_e (show rk_10 γ (F627103 q627104) from RS_o hT htq627104) (fun q627109 q627110 p627111 p627112 p627113 p627114 p627115 p627116 p627117 p627118 p627119 p627120 p627121 p627122 p627123 p627124 p627125 he627108 hB627152 ht627126 ht627127 ht627128 ht627129 ht627130 ht627131 ht627132 ht627133 ht627134 ht627135 ht627136 ht627137 ht627138 ht627139 ht627140 ht627141 ht627142 ht627143 ht627144 ht627145 ht627146 ht627147 ht627148 ht627149 hB627153 => ?_)
  have ac627154 : (fI (F627103 q627104) 9).toInt = p627111.toInt := by rw [he627108]; rfl
  have bp627111 : gB p627111 0 1 := (hB627152.1)
  have ac627155 : (fI (F627103 q627104) 10).toInt = p627112.toInt := by rw [he627108]; rfl
  have bp627112 : gB p627112 0 1 := (hB627152.2.1)
  have ac627156 : (fI (F627103 q627104) 32).toInt = p627123.toInt := by rw [he627108]; rfl
  have bp627123 : gB p627123 0 8192 := (hB627152.2.2.2.2.2.2.2.1)
  have ac627157 : (fI (F627103 q627104) 30).toInt = p627122.toInt := by rw [he627108]; rfl
  have bp627122 : gB p627122 (-2147483648) 2147483647 := (gB_any p627122)
  refine G_aload_n 0 dr_cX17_no_0 rfl ?_
  refine G_iload_n 1 dr_cX17_no_1 rfl ?_
  refine Gp_put 30 hm627107 he627108 dr_cX17_no_2 (gk_X17 D I) (Nat.le_of_ble_eq_true rfl) wr_7_104 rfl rfl rfl (Nat.le_of_ble_eq_true rfl) (fun F627158 e627159 n627160 => ?_)
  have he627161 : F627158 q627104 = .inr (22, [.ref (γ 9 0), .ref (γ 9 1), .ref (γ 9 2), .ref (γ 9 3), .ref (γ 9 4), .ref (γ 9 5), .ref (γ 9 6), .ref (γ 9 7), .ref (γ 9 8), .int p627111, .int p627112, .int p627113, .int p627114, .int p627115, .int p627116, .ref (γ 9 15), .ref (γ 9 16), .ref (γ 9 17), .ref (γ 9 18), .ref (γ 9 19), .ref (γ 9 20), .ref (γ 9 21), .ref (γ 9 22), .int p627117, .int p627118, .int p627119, .int p627120, .int p627121, .ref q627109, .ref (γ 9 29), .int p627105, .ref (γ 9 31), .int p627123, .int p627124, .int p627125, .ref q627110]) := e627159
  have hs627162 : rStr γ [] F627103 F627158 := rStr_put (rStr_rf (γ := γ) (W := []) (F := F627103)) n627160 htq627104 (by decide)
  refine G_iconst 0 dr_cX17_no_5 (by decide +kernel) ?_
  have hT627163 : RS D I P627102 F627158 γ el := RS_set hT n627160 htq627104 (by decide) ⟨q627109, q627110, p627111, p627112, p627113, p627114, p627115, p627116, p627117, p627118, p627119, p627120, p627121, p627105, p627123, p627124, p627125, he627161, ⟨bp627111, bp627112, (hB627152.2.2.1), (hB627152.2.2.2.1), (hB627152.2.2.2.2.1), (hB627152.2.2.2.2.2.1), (hB627152.2.2.2.2.2.2.1), bp627123, (hB627152.2.2.2.2.2.2.2.2)⟩, ht627126, ht627127, ht627128, ht627129, ht627130, ht627131, ht627132, ht627133, ht627134, ht627135, ht627136, ht627137, ht627138, ht627139, ht627140, ht627141, ht627142, ht627143, ht627144, ht627145, ht627146, ht627147, ht627148, ht627149, hB627153⟩
  have ac627164 : (fI (F627158 q627104) 9).toInt = p627111.toInt := by rw [he627161]; rfl
  have ac627165 : (fI (F627158 q627104) 10).toInt = p627112.toInt := by rw [he627161]; rfl
  have ac627166 : (fI (F627158 q627104) 32).toInt = p627123.toInt := by rw [he627161]; rfl
  have ac627167 : (fI (F627158 q627104) 30).toInt = p627105.toInt := by rw [he627161]; rfl
  exact G_iretA dr_cX17_no_6 rfl (Nat.le_of_ble_eq_true rfl) (Nat.le_of_ble_eq_true rfl) ⟨F627158, rfl, rfl, hT627163, hs627162, (Nat.le_of_ble_eq_true rfl), (Nat.le_of_ble_eq_true rfl), (by have qa0 : Int32.toInt 0 = 0 := (by decide); omega), (by have qa0 : Int32.toInt 0 = 0 := (by decide); omega), (by have qa0 : Int32.toInt 0 = 0 := (by decide); omega), (by have qa0 : Int32.toInt 0 = 0 := (by decide); omega)⟩
abbrev ky_627013_SpillForgeModel_told : gKey := (cX17_told, 2, "SpillForgeModel", (some FieldType.int), [], "told", fun _ _ => True)
def pt_627013_SpillForgeModel_told (D : va_G) (I : FieldType → ClassId) (γ el : Nat → Nat → Nat) (P627009 : List Nat) (F627010 : Nat → va_E) (q627011 : Nat) (p627012 : Int32) : Option Value → va_W → Nat → Nat → Prop := fun r w dc ds => ∃ (F627239 : Nat → va_E) (o627238 : Int32), r = some (.int o627238) ∧ w = va_pl P627009 F627239 ∧ RS D I P627009 F627239 γ el ∧ rStr γ [] F627010 F627239 ∧ dc ≤ 0 ∧ ds ≤ 0 ∧ (fI (F627239 q627011) 9).toInt = (fI (F627010 q627011) 9).toInt ∧ (fI (F627239 q627011) 10).toInt = (fI (F627010 q627011) 10).toInt ∧ (fI (F627239 q627011) 32).toInt = (fI (F627010 q627011) 32).toInt
set_option maxRecDepth 100000 in
set_option maxHeartbeats 4000000 in
theorem ct_627013_SpillForgeModel_told (l : Launch) (hl0 : l.stackTraces = false) (D : va_G) (I : FieldType → ClassId) (γ el : Nat → Nat → Nat) (P627009 : List Nat) (F627010 : Nat → va_E) (q627011 : Nat) (p627012 : Int32) (hT : RS D I P627009 F627010 γ el) (htq627011 : rKd γ q627011 10) : CtA (gV D I) l yX17_told cX17_told 2 (some FieldType.int) 1 21 0 0 [.ref q627011, .int p627012] (va_pl P627009 F627010) (pt_627013_SpillForgeModel_told D I γ el P627009 F627010 q627011 p627012) gNA := by
  refine CtA_of hl0 (by decide) (Nat.le_of_ble_eq_true rfl) ?_
  have bp627012 := gB_any p627012
  have hm627014 : q627011 ∈ P627009 := RS_m hT htq627011 (by decide)
  refine rk10_e (show rk_10 γ (F627010 q627011) from RS_o hT htq627011) (fun q627016 q627017 p627018 p627019 p627020 p627021 p627022 p627023 p627024 p627025 p627026 p627027 p627028 p627029 p627030 p627031 p627032 he627015 hB627059 ht627033 ht627034 ht627035 ht627036 ht627037 ht627038 ht627039 ht627040 ht627041 ht627042 ht627043 ht627044 ht627045 ht627046 ht627047 ht627048 ht627049 ht627050 ht627051 ht627052 ht627053 ht627054 ht627055 ht627056 hB627060 => ?_)
  have ac627061 : (fI (F627010 q627011) 9).toInt = p627018.toInt := by rw [he627015]; rfl
  have bp627018 : gB p627018 0 1 := (hB627059.1)
  have ac627062 : (fI (F627010 q627011) 10).toInt = p627019.toInt := by rw [he627015]; rfl
  have bp627019 : gB p627019 0 1 := (hB627059.2.1)
  have ac627063 : (fI (F627010 q627011) 32).toInt = p627030.toInt := by rw [he627015]; rfl
  have bp627030 : gB p627030 0 8192 := (hB627059.2.2.2.2.2.2.2.1)
  refine G_aload_n 0 dr_cX17_told_0 rfl ?_
  refine G_iconst 0 dr_cX17_told_1 (by decide +kernel) ?_
  refine Gp_put 30 hm627014 he627015 dr_cX17_told_2 (gk_X17 D I) (Nat.le_of_ble_eq_true rfl) wr_7_104 rfl rfl rfl (Nat.le_of_ble_eq_true rfl) (fun F627064 e627065 n627066 => ?_)
  have he627067 : F627064 q627011 = .inr (22, [.ref (γ 9 0), .ref (γ 9 1), .ref (γ 9 2), .ref (γ 9 3), .ref (γ 9 4), .ref (γ 9 5), .ref (γ 9 6), .ref (γ 9 7), .ref (γ 9 8), .int p627018, .int p627019, .int p627020, .int p627021, .int p627022, .int p627023, .ref (γ 9 15), .ref (γ 9 16), .ref (γ 9 17), .ref (γ 9 18), .ref (γ 9 19), .ref (γ 9 20), .ref (γ 9 21), .ref (γ 9 22), .int p627024, .int p627025, .int p627026, .int p627027, .int p627028, .ref q627016, .ref (γ 9 29), .int 0, .ref (γ 9 31), .int p627030, .int p627031, .int p627032, .ref q627017]) := e627065
  have hs627068 : rStr γ [] F627010 F627064 := rStr_put (rStr_rf (γ := γ) (W := []) (F := F627010)) n627066 htq627011 (by decide)
  refine G_iload_n 1 dr_cX17_told_5 rfl ?_
  by_cases hs627069 : p627012 = 0
  · have ehs627069 : p627012.toInt = 0 := gj_eq hs627069 (show Int32.toInt 0 = 0 by decide)
    have bp627012' : gB p627012 0 0 := ⟨by omega, by omega⟩
    refine G_eqi (y := 0) hs627069 ?_
    refine G_tableIn 40 dr_cX17_told_6 (by decide) (by decide) (by first | rfl | decide) (by decide) ?_
    refine G_aload_n 0 dr_cX17_told_40 rfl ?_
    refine Gp_get 23 hm627014 he627067 dr_cX17_told_41 (gk_X17 D I) (Nat.le_of_ble_eq_true rfl) wr_7_97 rfl ?_
    have bp627024 : gB p627024 (-2147483648) 2147483647 := (gB_any p627024)
    refine G_if_ne 54 dr_cX17_told_44 (by decide +kernel) (fun hc627070 => ?_) (fun hc627070 => ?_)
    · have r627071 : p627024.toInt ≠ 0 := gj_neq hc627070 (show Int32.toInt 0 = 0 by decide)
      refine G_iconst 0 dr_cX17_told_54 (by decide +kernel) ?_
      have hT627072 : RS D I P627009 F627064 γ el := RS_set hT n627066 htq627011 (by decide) ⟨q627016, q627017, p627018, p627019, p627020, p627021, p627022, p627023, p627024, p627025, p627026, p627027, p627028, 0, p627030, p627031, p627032, he627067, ⟨bp627018, bp627019, (hB627059.2.2.1), (hB627059.2.2.2.1), (hB627059.2.2.2.2.1), (hB627059.2.2.2.2.2.1), (hB627059.2.2.2.2.2.2.1), bp627030, (hB627059.2.2.2.2.2.2.2.2)⟩, ht627033, ht627034, ht627035, ht627036, ht627037, ht627038, ht627039, ht627040, ht627041, ht627042, ht627043, ht627044, ht627045, ht627046, ht627047, ht627048, ht627049, ht627050, ht627051, ht627052, ht627053, ht627054, ht627055, ht627056, hB627060⟩
      have ac627073 : (fI (F627064 q627011) 9).toInt = p627018.toInt := by rw [he627067]; rfl
      have ac627074 : (fI (F627064 q627011) 10).toInt = p627019.toInt := by rw [he627067]; rfl
      have ac627075 : (fI (F627064 q627011) 32).toInt = p627030.toInt := by rw [he627067]; rfl
      exact G_iretA dr_cX17_told_55 rfl (Nat.le_of_ble_eq_true rfl) (Nat.le_of_ble_eq_true rfl) ⟨F627064, 0, rfl, rfl, hT627072, hs627068, (Nat.le_of_ble_eq_true rfl), (Nat.le_of_ble_eq_true rfl), (by have qa0 : Int32.toInt 0 = 0 := (by decide); omega), (by have qa0 : Int32.toInt 0 = 0 := (by decide); omega), (by have qa0 : Int32.toInt 0 = 0 := (by decide); omega)⟩
    · have r627076 : p627024.toInt = 0 := gj_eq hc627070 (show Int32.toInt 0 = 0 by decide)
      have bp627024' : gB p627024 0 0 := ⟨by omega, by omega⟩
      refine G_aload_n 0 dr_cX17_told_47 rfl ?_
      refine Gp_get 24 hm627014 he627067 dr_cX17_told_48 (gk_X17 D I) (Nat.le_of_ble_eq_true rfl) wr_7_98 rfl ?_
      have bp627025 : gB p627025 (-2147483648) 2147483647 := (gB_any p627025)
      refine G_goto 55 dr_cX17_told_51 (by decide +kernel) ?_
      have hT627077 : RS D I P627009 F627064 γ el := RS_set hT n627066 htq627011 (by decide) ⟨q627016, q627017, p627018, p627019, p627020, p627021, p627022, p627023, p627024, p627025, p627026, p627027, p627028, 0, p627030, p627031, p627032, he627067, ⟨bp627018, bp627019, (hB627059.2.2.1), (hB627059.2.2.2.1), (hB627059.2.2.2.2.1), (hB627059.2.2.2.2.2.1), (hB627059.2.2.2.2.2.2.1), bp627030, (hB627059.2.2.2.2.2.2.2.2)⟩, ht627033, ht627034, ht627035, ht627036, ht627037, ht627038, ht627039, ht627040, ht627041, ht627042, ht627043, ht627044, ht627045, ht627046, ht627047, ht627048, ht627049, ht627050, ht627051, ht627052, ht627053, ht627054, ht627055, ht627056, hB627060⟩
      have ac627078 : (fI (F627064 q627011) 9).toInt = p627018.toInt := by rw [he627067]; rfl
      have ac627079 : (fI (F627064 q627011) 10).toInt = p627019.toInt := by rw [he627067]; rfl
      have ac627080 : (fI (F627064 q627011) 32).toInt = p627030.toInt := by rw [he627067]; rfl
      exact G_iretA dr_cX17_told_55 rfl (Nat.le_of_ble_eq_true rfl) (Nat.le_of_ble_eq_true rfl) ⟨F627064, p627025, rfl, rfl, hT627077, hs627068, (Nat.le_of_ble_eq_true rfl), (Nat.le_of_ble_eq_true rfl), (by omega), (by omega), (by omega)⟩
  by_cases hs627081 : p627012 = 1
  · have ehs627081 : p627012.toInt = 1 := gj_eq hs627081 (show Int32.toInt 1 = 1 by decide)
    have bp627012' : gB p627012 1 1 := ⟨by omega, by omega⟩
    refine G_eqi (y := 1) hs627081 ?_
    refine G_tableIn 56 dr_cX17_told_6 (by decide) (by decide) (by first | rfl | decide) (by decide) ?_
    refine G_aload_n 0 dr_cX17_told_56 rfl ?_
    refine Gp_get 25 hm627014 he627067 dr_cX17_told_57 (gk_X17 D I) (Nat.le_of_ble_eq_true rfl) wr_7_99 rfl ?_
    have bp627026 : gB p627026 0 512 := (hB627059.2.2.2.2.1)
    have hT627082 : RS D I P627009 F627064 γ el := RS_set hT n627066 htq627011 (by decide) ⟨q627016, q627017, p627018, p627019, p627020, p627021, p627022, p627023, p627024, p627025, p627026, p627027, p627028, 0, p627030, p627031, p627032, he627067, ⟨bp627018, bp627019, (hB627059.2.2.1), (hB627059.2.2.2.1), bp627026, (hB627059.2.2.2.2.2.1), (hB627059.2.2.2.2.2.2.1), bp627030, (hB627059.2.2.2.2.2.2.2.2)⟩, ht627033, ht627034, ht627035, ht627036, ht627037, ht627038, ht627039, ht627040, ht627041, ht627042, ht627043, ht627044, ht627045, ht627046, ht627047, ht627048, ht627049, ht627050, ht627051, ht627052, ht627053, ht627054, ht627055, ht627056, hB627060⟩
    have ac627083 : (fI (F627064 q627011) 9).toInt = p627018.toInt := by rw [he627067]; rfl
    have ac627084 : (fI (F627064 q627011) 10).toInt = p627019.toInt := by rw [he627067]; rfl
    have ac627085 : (fI (F627064 q627011) 32).toInt = p627030.toInt := by rw [he627067]; rfl
    exact G_iretA dr_cX17_told_60 rfl (Nat.le_of_ble_eq_true rfl) (Nat.le_of_ble_eq_true rfl) ⟨F627064, p627026, rfl, rfl, hT627082, hs627068, (Nat.le_of_ble_eq_true rfl), (Nat.le_of_ble_eq_true rfl), (by omega), (by omega), (by omega)⟩
  by_cases hs627086 : p627012 = 2
  · have ehs627086 : p627012.toInt = 2 := gj_eq hs627086 (show Int32.toInt 2 = 2 by decide)
    have bp627012' : gB p627012 2 2 := ⟨by omega, by omega⟩
    refine G_eqi (y := 2) hs627086 ?_
    refine G_tableIn 61 dr_cX17_told_6 (by decide) (by decide) (by first | rfl | decide) (by decide) ?_
    refine G_aload_n 0 dr_cX17_told_61 rfl ?_
    refine Gp_get 26 hm627014 he627067 dr_cX17_told_62 (gk_X17 D I) (Nat.le_of_ble_eq_true rfl) wr_7_100 rfl ?_
    have bp627027 : gB p627027 0 100000 := (hB627059.2.2.2.2.2.1)
    have hT627087 : RS D I P627009 F627064 γ el := RS_set hT n627066 htq627011 (by decide) ⟨q627016, q627017, p627018, p627019, p627020, p627021, p627022, p627023, p627024, p627025, p627026, p627027, p627028, 0, p627030, p627031, p627032, he627067, ⟨bp627018, bp627019, (hB627059.2.2.1), (hB627059.2.2.2.1), (hB627059.2.2.2.2.1), bp627027, (hB627059.2.2.2.2.2.2.1), bp627030, (hB627059.2.2.2.2.2.2.2.2)⟩, ht627033, ht627034, ht627035, ht627036, ht627037, ht627038, ht627039, ht627040, ht627041, ht627042, ht627043, ht627044, ht627045, ht627046, ht627047, ht627048, ht627049, ht627050, ht627051, ht627052, ht627053, ht627054, ht627055, ht627056, hB627060⟩
    have ac627088 : (fI (F627064 q627011) 9).toInt = p627018.toInt := by rw [he627067]; rfl
    have ac627089 : (fI (F627064 q627011) 10).toInt = p627019.toInt := by rw [he627067]; rfl
    have ac627090 : (fI (F627064 q627011) 32).toInt = p627030.toInt := by rw [he627067]; rfl
    exact G_iretA dr_cX17_told_65 rfl (Nat.le_of_ble_eq_true rfl) (Nat.le_of_ble_eq_true rfl) ⟨F627064, p627027, rfl, rfl, hT627087, hs627068, (Nat.le_of_ble_eq_true rfl), (Nat.le_of_ble_eq_true rfl), (by omega), (by omega), (by omega)⟩
  by_cases hs627091 : p627012 = 3
  · have ehs627091 : p627012.toInt = 3 := gj_eq hs627091 (show Int32.toInt 3 = 3 by decide)
    have bp627012' : gB p627012 3 3 := ⟨by omega, by omega⟩
    refine G_eqi (y := 3) hs627091 ?_
    refine G_tableIn 66 dr_cX17_told_6 (by decide) (by decide) (by first | rfl | decide) (by decide) ?_
    refine G_aload_n 0 dr_cX17_told_66 rfl ?_
    refine Gp_get 27 hm627014 he627067 dr_cX17_told_67 (gk_X17 D I) (Nat.le_of_ble_eq_true rfl) wr_7_101 rfl ?_
    have bp627028 : gB p627028 0 2048 := (hB627059.2.2.2.2.2.2.1)
    have hT627092 : RS D I P627009 F627064 γ el := RS_set hT n627066 htq627011 (by decide) ⟨q627016, q627017, p627018, p627019, p627020, p627021, p627022, p627023, p627024, p627025, p627026, p627027, p627028, 0, p627030, p627031, p627032, he627067, ⟨bp627018, bp627019, (hB627059.2.2.1), (hB627059.2.2.2.1), (hB627059.2.2.2.2.1), (hB627059.2.2.2.2.2.1), bp627028, bp627030, (hB627059.2.2.2.2.2.2.2.2)⟩, ht627033, ht627034, ht627035, ht627036, ht627037, ht627038, ht627039, ht627040, ht627041, ht627042, ht627043, ht627044, ht627045, ht627046, ht627047, ht627048, ht627049, ht627050, ht627051, ht627052, ht627053, ht627054, ht627055, ht627056, hB627060⟩
    have ac627093 : (fI (F627064 q627011) 9).toInt = p627018.toInt := by rw [he627067]; rfl
    have ac627094 : (fI (F627064 q627011) 10).toInt = p627019.toInt := by rw [he627067]; rfl
    have ac627095 : (fI (F627064 q627011) 32).toInt = p627030.toInt := by rw [he627067]; rfl
    exact G_iretA dr_cX17_told_70 rfl (Nat.le_of_ble_eq_true rfl) (Nat.le_of_ble_eq_true rfl) ⟨F627064, p627028, rfl, rfl, hT627092, hs627068, (Nat.le_of_ble_eq_true rfl), (Nat.le_of_ble_eq_true rfl), (by omega), (by omega), (by omega)⟩
  by_cases hs627096 : p627012 = 4
  · have ehs627096 : p627012.toInt = 4 := gj_eq hs627096 (show Int32.toInt 4 = 4 by decide)
    have bp627012' : gB p627012 4 4 := ⟨by omega, by omega⟩
    refine G_eqi (y := 4) hs627096 ?_
    refine G_tableIn 71 dr_cX17_told_6 (by decide) (by decide) (by first | rfl | decide) (by decide) ?_
    refine G_aload_n 0 dr_cX17_told_71 rfl ?_
    refine Gp_get 23 hm627014 he627067 dr_cX17_told_72 (gk_X17 D I) (Nat.le_of_ble_eq_true rfl) wr_7_97 rfl ?_
    have bp627024 : gB p627024 (-2147483648) 2147483647 := (gB_any p627024)
    have hT627097 : RS D I P627009 F627064 γ el := RS_set hT n627066 htq627011 (by decide) ⟨q627016, q627017, p627018, p627019, p627020, p627021, p627022, p627023, p627024, p627025, p627026, p627027, p627028, 0, p627030, p627031, p627032, he627067, ⟨bp627018, bp627019, (hB627059.2.2.1), (hB627059.2.2.2.1), (hB627059.2.2.2.2.1), (hB627059.2.2.2.2.2.1), (hB627059.2.2.2.2.2.2.1), bp627030, (hB627059.2.2.2.2.2.2.2.2)⟩, ht627033, ht627034, ht627035, ht627036, ht627037, ht627038, ht627039, ht627040, ht627041, ht627042, ht627043, ht627044, ht627045, ht627046, ht627047, ht627048, ht627049, ht627050, ht627051, ht627052, ht627053, ht627054, ht627055, ht627056, hB627060⟩
    have ac627098 : (fI (F627064 q627011) 9).toInt = p627018.toInt := by rw [he627067]; rfl
    have ac627099 : (fI (F627064 q627011) 10).toInt = p627019.toInt := by rw [he627067]; rfl
    have ac627100 : (fI (F627064 q627011) 32).toInt = p627030.toInt := by rw [he627067]; rfl
    exact G_iretA dr_cX17_told_75 rfl (Nat.le_of_ble_eq_true rfl) (Nat.le_of_ble_eq_true rfl) ⟨F627064, p627024, rfl, rfl, hT627097, hs627068, (Nat.le_of_ble_eq_true rfl), (Nat.le_of_ble_eq_true rfl), (by omega), (by omega), (by omega)⟩
  have ehs627069 := lv_neT hs627069 (show Int32.toInt 0 = 0 by decide)
  have ehs627081 := lv_neT hs627081 (show Int32.toInt 1 = 1 by decide)
  have ehs627086 := lv_neT hs627086 (show Int32.toInt 2 = 2 by decide)
  have ehs627091 := lv_neT hs627091 (show Int32.toInt 3 = 3 by decide)
  have ehs627096 := lv_neT hs627096 (show Int32.toInt 4 = 4 by decide)
  refine G_tableOut 76 dr_cX17_told_6 (by omega) (by decide) ?_
  refine G_aload_n 0 dr_cX17_told_76 rfl ?_
  refine G_iconst 1 dr_cX17_told_77 (by decide +kernel) ?_
  have hT627101 : RS D I P627009 F627064 γ el := RS_set hT n627066 htq627011 (by decide) ⟨q627016, q627017, p627018, p627019, p627020, p627021, p627022, p627023, p627024, p627025, p627026, p627027, p627028, 0, p627030, p627031, p627032, he627067, ⟨bp627018, bp627019, (hB627059.2.2.1), (hB627059.2.2.2.1), (hB627059.2.2.2.2.1), (hB627059.2.2.2.2.2.1), (hB627059.2.2.2.2.2.2.1), bp627030, (hB627059.2.2.2.2.2.2.2.2)⟩, ht627033, ht627034, ht627035, ht627036, ht627037, ht627038, ht627039, ht627040, ht627041, ht627042, ht627043, ht627044, ht627045, ht627046, ht627047, ht627048, ht627049, ht627050, ht627051, ht627052, ht627053, ht627054, ht627055, ht627056, hB627060⟩
  have ac627169 : (fI (F627064 q627011) 9).toInt = p627018.toInt := by rw [he627067]; rfl
  have ac627170 : (fI (F627064 q627011) 10).toInt = p627019.toInt := by rw [he627067]; rfl
  have ac627171 : (fI (F627064 q627011) 32).toInt = p627030.toInt := by rw [he627067]; rfl
  refine Gw_callV (As := [.int 1]) (gV_ok D I) (ct_627106_SpillForgeModel_no l hl0 D I γ el P627009 F627064 q627011 1 hT627101 htq627011) dr_cX17_told_78 ⟨wr_7_191, wr_1_14, wr_7_194, by decide, rfl, (Nat.le_of_ble_eq_true rfl), (Nat.le_of_ble_eq_true rfl)⟩ wr_7_193 wr_p_73 hm627014 he627067 rfl (show 0 + 0 ≤ 0 by first | omega | decide) (show 0 + 0 ≤ 0 by first | omega | decide) (Nat.le_of_ble_eq_true rfl) (fun r627175 w627176 dc627172 ds627173 hp627174 => ?_) (fun _ _ _ _ _ z => z.elim)
  obtain ⟨F627181, rfl, rfl, hT627182, hs627183, hdc, hds, x627177, x627178, x627179, x627180⟩ := hp627174
  have hs627184 : rStr γ [] F627010 F627181 := rStr_tr hs627068 hs627183
  rw [show Int32.toInt 1 = 1 from by decide] at x627180
  change G _ _ _ _ _ _ _ (.int 0 :: _) _ _ _
  refine G_widen (cs' := 0) (sl' := 0) (by omega) (by omega) ?_
  have hm627185 : q627011 ∈ P627009 := RS_m hT627182 htq627011 (by decide)
  refine rk10_e (show rk_10 γ (F627181 q627011) from RS_o hT627182 htq627011) (fun q627187 q627188 p627189 p627190 p627191 p627192 p627193 p627194 p627195 p627196 p627197 p627198 p627199 p627200 p627201 p627202 p627203 he627186 hB627230 ht627204 ht627205 ht627206 ht627207 ht627208 ht627209 ht627210 ht627211 ht627212 ht627213 ht627214 ht627215 ht627216 ht627217 ht627218 ht627219 ht627220 ht627221 ht627222 ht627223 ht627224 ht627225 ht627226 ht627227 hB627231 => ?_)
  have ac627232 : (fI (F627181 q627011) 9).toInt = p627189.toInt := by rw [he627186]; rfl
  have bp627189 : gB p627189 0 1 := (hB627230.1)
  have ac627233 : (fI (F627181 q627011) 10).toInt = p627190.toInt := by rw [he627186]; rfl
  have bp627190 : gB p627190 0 1 := (hB627230.2.1)
  have ac627234 : (fI (F627181 q627011) 32).toInt = p627201.toInt := by rw [he627186]; rfl
  have bp627201 : gB p627201 0 8192 := (hB627230.2.2.2.2.2.2.2.1)
  have ac627235 : (fI (F627181 q627011) 9).toInt = p627189.toInt := by rw [he627186]; rfl
  have ac627236 : (fI (F627181 q627011) 10).toInt = p627190.toInt := by rw [he627186]; rfl
  have ac627237 : (fI (F627181 q627011) 32).toInt = p627201.toInt := by rw [he627186]; rfl
  exact G_iretA dr_cX17_told_81 rfl (Nat.le_of_ble_eq_true rfl) (Nat.le_of_ble_eq_true rfl) ⟨F627181, 0, rfl, rfl, hT627182, hs627184, (Nat.le_of_ble_eq_true rfl), (Nat.le_of_ble_eq_true rfl), (by have qa0 : Int32.toInt 0 = 0 := (by decide); omega), (by have qa0 : Int32.toInt 0 = 0 := (by decide); omega), (by have qa0 : Int32.toInt 0 = 0 := (by decide); omega)⟩
abbrev ky_627244_SpillForgeModel_shown : gKey := (cX17_shown, 2, "SpillForgeModel", (some FieldType.int), [], "shown", fun _ _ => True)
def pt_627244_SpillForgeModel_shown (D : va_G) (I : FieldType → ClassId) (γ el : Nat → Nat → Nat) (P627240 : List Nat) (F627241 : Nat → va_E) (q627242 : Nat) (p627243 : Int32) : Option Value → va_W → Nat → Nat → Prop := fun r w dc ds => ∃ (F627455 : Nat → va_E) (o627454 : Int32), r = some (.int o627454) ∧ w = va_pl P627240 F627455 ∧ RS D I P627240 F627455 γ el ∧ rStr γ [] F627241 F627455 ∧ dc ≤ 0 ∧ ds ≤ 0 ∧ (fI (F627455 q627242) 9).toInt = (fI (F627241 q627242) 9).toInt ∧ (fI (F627455 q627242) 10).toInt = (fI (F627241 q627242) 10).toInt ∧ (fI (F627455 q627242) 32).toInt = (fI (F627241 q627242) 32).toInt
set_option maxRecDepth 100000 in
set_option maxHeartbeats 4000000 in
theorem ct_627244_SpillForgeModel_shown (l : Launch) (hl0 : l.stackTraces = false) (D : va_G) (I : FieldType → ClassId) (γ el : Nat → Nat → Nat) (P627240 : List Nat) (F627241 : Nat → va_E) (q627242 : Nat) (p627243 : Int32) (hT : RS D I P627240 F627241 γ el) (htq627242 : rKd γ q627242 10) : CtA (gV D I) l yX17_shown cX17_shown 2 (some FieldType.int) 1 21 0 0 [.ref q627242, .int p627243] (va_pl P627240 F627241) (pt_627244_SpillForgeModel_shown D I γ el P627240 F627241 q627242 p627243) gNA := by
  refine CtA_of hl0 (by decide) (Nat.le_of_ble_eq_true rfl) ?_
  have bp627243 := gB_any p627243
  have hm627245 : q627242 ∈ P627240 := RS_m hT htq627242 (by decide)
  refine rk10_e (show rk_10 γ (F627241 q627242) from RS_o hT htq627242) (fun q627247 q627248 p627249 p627250 p627251 p627252 p627253 p627254 p627255 p627256 p627257 p627258 p627259 p627260 p627261 p627262 p627263 he627246 hB627290 ht627264 ht627265 ht627266 ht627267 ht627268 ht627269 ht627270 ht627271 ht627272 ht627273 ht627274 ht627275 ht627276 ht627277 ht627278 ht627279 ht627280 ht627281 ht627282 ht627283 ht627284 ht627285 ht627286 ht627287 hB627291 => ?_)
  have ac627292 : (fI (F627241 q627242) 9).toInt = p627249.toInt := by rw [he627246]; rfl
  have bp627249 : gB p627249 0 1 := (hB627290.1)
  have ac627293 : (fI (F627241 q627242) 10).toInt = p627250.toInt := by rw [he627246]; rfl
  have bp627250 : gB p627250 0 1 := (hB627290.2.1)
  have ac627294 : (fI (F627241 q627242) 32).toInt = p627261.toInt := by rw [he627246]; rfl
  have bp627261 : gB p627261 0 8192 := (hB627290.2.2.2.2.2.2.2.1)
  refine G_aload_n 0 dr_cX17_shown_0 rfl ?_
  refine G_iconst 0 dr_cX17_shown_1 (by decide +kernel) ?_
  refine Gp_put 30 hm627245 he627246 dr_cX17_shown_2 (gk_X17 D I) (Nat.le_of_ble_eq_true rfl) wr_7_104 rfl rfl rfl (Nat.le_of_ble_eq_true rfl) (fun F627295 e627296 n627297 => ?_)
  have he627298 : F627295 q627242 = .inr (22, [.ref (γ 9 0), .ref (γ 9 1), .ref (γ 9 2), .ref (γ 9 3), .ref (γ 9 4), .ref (γ 9 5), .ref (γ 9 6), .ref (γ 9 7), .ref (γ 9 8), .int p627249, .int p627250, .int p627251, .int p627252, .int p627253, .int p627254, .ref (γ 9 15), .ref (γ 9 16), .ref (γ 9 17), .ref (γ 9 18), .ref (γ 9 19), .ref (γ 9 20), .ref (γ 9 21), .ref (γ 9 22), .int p627255, .int p627256, .int p627257, .int p627258, .int p627259, .ref q627247, .ref (γ 9 29), .int 0, .ref (γ 9 31), .int p627261, .int p627262, .int p627263, .ref q627248]) := e627296
  have hs627299 : rStr γ [] F627241 F627295 := rStr_put (rStr_rf (γ := γ) (W := []) (F := F627241)) n627297 htq627242 (by decide)
  refine G_iload_n 1 dr_cX17_shown_5 rfl ?_
  refine G_if_lt 26 dr_cX17_shown_6 (by decide +kernel) (fun hc627300 => ?_) (fun hc627300 => ?_)
  · have r627301 : p627243.toInt < 0 := gj_lt hc627300 (show Int32.toInt 0 = 0 by decide)
    have bp627243' : gB p627243 (-2147483648) (-1) := ⟨by omega, by omega⟩
    refine G_aload_n 0 dr_cX17_shown_26 rfl ?_
    refine G_iconst 1 dr_cX17_shown_27 (by decide +kernel) ?_
    have hT627302 : RS D I P627240 F627295 γ el := RS_set hT n627297 htq627242 (by decide) ⟨q627247, q627248, p627249, p627250, p627251, p627252, p627253, p627254, p627255, p627256, p627257, p627258, p627259, 0, p627261, p627262, p627263, he627298, ⟨bp627249, bp627250, (hB627290.2.2.1), (hB627290.2.2.2.1), (hB627290.2.2.2.2.1), (hB627290.2.2.2.2.2.1), (hB627290.2.2.2.2.2.2.1), bp627261, (hB627290.2.2.2.2.2.2.2.2)⟩, ht627264, ht627265, ht627266, ht627267, ht627268, ht627269, ht627270, ht627271, ht627272, ht627273, ht627274, ht627275, ht627276, ht627277, ht627278, ht627279, ht627280, ht627281, ht627282, ht627283, ht627284, ht627285, ht627286, ht627287, hB627291⟩
    have ac627303 : (fI (F627295 q627242) 9).toInt = p627249.toInt := by rw [he627298]; rfl
    have ac627304 : (fI (F627295 q627242) 10).toInt = p627250.toInt := by rw [he627298]; rfl
    have ac627305 : (fI (F627295 q627242) 32).toInt = p627261.toInt := by rw [he627298]; rfl
    refine Gw_callV (As := [.int 1]) (gV_ok D I) (ct_627106_SpillForgeModel_no l hl0 D I γ el P627240 F627295 q627242 1 hT627302 htq627242) dr_cX17_shown_28 ⟨wr_7_191, wr_1_14, wr_7_194, by decide, rfl, (Nat.le_of_ble_eq_true rfl), (Nat.le_of_ble_eq_true rfl)⟩ wr_7_193 wr_p_73 hm627245 he627298 rfl (show 0 + 0 ≤ 0 by first | omega | decide) (show 0 + 0 ≤ 0 by first | omega | decide) (Nat.le_of_ble_eq_true rfl) (fun r627309 w627310 dc627306 ds627307 hp627308 => ?_) (fun _ _ _ _ _ z => z.elim)
    obtain ⟨F627315, rfl, rfl, hT627316, hs627317, hdc, hds, x627311, x627312, x627313, x627314⟩ := hp627308
    have hs627318 : rStr γ [] F627241 F627315 := rStr_tr hs627299 hs627317
    rw [show Int32.toInt 1 = 1 from by decide] at x627314
    change G _ _ _ _ _ _ _ (.int 0 :: _) _ _ _
    refine G_widen (cs' := 0) (sl' := 0) (by omega) (by omega) ?_
    have hm627319 : q627242 ∈ P627240 := RS_m hT627316 htq627242 (by decide)
    refine rk10_e (show rk_10 γ (F627315 q627242) from RS_o hT627316 htq627242) (fun q627321 q627322 p627323 p627324 p627325 p627326 p627327 p627328 p627329 p627330 p627331 p627332 p627333 p627334 p627335 p627336 p627337 he627320 hB627364 ht627338 ht627339 ht627340 ht627341 ht627342 ht627343 ht627344 ht627345 ht627346 ht627347 ht627348 ht627349 ht627350 ht627351 ht627352 ht627353 ht627354 ht627355 ht627356 ht627357 ht627358 ht627359 ht627360 ht627361 hB627365 => ?_)
    have ac627366 : (fI (F627315 q627242) 9).toInt = p627323.toInt := by rw [he627320]; rfl
    have bp627323 : gB p627323 0 1 := (hB627364.1)
    have ac627367 : (fI (F627315 q627242) 10).toInt = p627324.toInt := by rw [he627320]; rfl
    have bp627324 : gB p627324 0 1 := (hB627364.2.1)
    have ac627368 : (fI (F627315 q627242) 32).toInt = p627335.toInt := by rw [he627320]; rfl
    have bp627335 : gB p627335 0 8192 := (hB627364.2.2.2.2.2.2.2.1)
    have ac627369 : (fI (F627315 q627242) 9).toInt = p627323.toInt := by rw [he627320]; rfl
    have ac627370 : (fI (F627315 q627242) 10).toInt = p627324.toInt := by rw [he627320]; rfl
    have ac627371 : (fI (F627315 q627242) 32).toInt = p627335.toInt := by rw [he627320]; rfl
    exact G_iretA dr_cX17_shown_31 rfl (Nat.le_of_ble_eq_true rfl) (Nat.le_of_ble_eq_true rfl) ⟨F627315, 0, rfl, rfl, hT627316, hs627318, (Nat.le_of_ble_eq_true rfl), (Nat.le_of_ble_eq_true rfl), (by have qa0 : Int32.toInt 0 = 0 := (by decide); omega), (by have qa0 : Int32.toInt 0 = 0 := (by decide); omega), (by have qa0 : Int32.toInt 0 = 0 := (by decide); omega)⟩
  · have r627372 : 0 ≤ p627243.toInt := gj_nlt hc627300 (show Int32.toInt 0 = 0 by decide)
    have bp627243' : gB p627243 0 2147483647 := ⟨by omega, by omega⟩
    refine G_iload_n 1 dr_cX17_shown_9 rfl ?_
    refine G_aload_n 0 dr_cX17_shown_10 rfl ?_
    refine Gp_get 25 hm627245 he627298 dr_cX17_shown_11 (gk_X17 D I) (Nat.le_of_ble_eq_true rfl) wr_7_99 rfl ?_
    have bp627257 : gB p627257 0 512 := (hB627290.2.2.2.2.1)
    refine G_icmp_ge 26 dr_cX17_shown_14 (by decide +kernel) (fun hc627373 => ?_) (fun hc627373 => ?_)
    · have r627374 : p627257.toInt ≤ p627243.toInt := gC_le hc627373
      refine G_aload_n 0 dr_cX17_shown_26 rfl ?_
      refine G_iconst 1 dr_cX17_shown_27 (by decide +kernel) ?_
      have hT627375 : RS D I P627240 F627295 γ el := RS_set hT n627297 htq627242 (by decide) ⟨q627247, q627248, p627249, p627250, p627251, p627252, p627253, p627254, p627255, p627256, p627257, p627258, p627259, 0, p627261, p627262, p627263, he627298, ⟨bp627249, bp627250, (hB627290.2.2.1), (hB627290.2.2.2.1), bp627257, (hB627290.2.2.2.2.2.1), (hB627290.2.2.2.2.2.2.1), bp627261, (hB627290.2.2.2.2.2.2.2.2)⟩, ht627264, ht627265, ht627266, ht627267, ht627268, ht627269, ht627270, ht627271, ht627272, ht627273, ht627274, ht627275, ht627276, ht627277, ht627278, ht627279, ht627280, ht627281, ht627282, ht627283, ht627284, ht627285, ht627286, ht627287, hB627291⟩
      have ac627376 : (fI (F627295 q627242) 9).toInt = p627249.toInt := by rw [he627298]; rfl
      have ac627377 : (fI (F627295 q627242) 10).toInt = p627250.toInt := by rw [he627298]; rfl
      have ac627378 : (fI (F627295 q627242) 32).toInt = p627261.toInt := by rw [he627298]; rfl
      refine Gw_callV (As := [.int 1]) (gV_ok D I) (ct_627106_SpillForgeModel_no l hl0 D I γ el P627240 F627295 q627242 1 hT627375 htq627242) dr_cX17_shown_28 ⟨wr_7_191, wr_1_14, wr_7_194, by decide, rfl, (Nat.le_of_ble_eq_true rfl), (Nat.le_of_ble_eq_true rfl)⟩ wr_7_193 wr_p_73 hm627245 he627298 rfl (show 0 + 0 ≤ 0 by first | omega | decide) (show 0 + 0 ≤ 0 by first | omega | decide) (Nat.le_of_ble_eq_true rfl) (fun r627382 w627383 dc627379 ds627380 hp627381 => ?_) (fun _ _ _ _ _ z => z.elim)
      obtain ⟨F627388, rfl, rfl, hT627389, hs627390, hdc, hds, x627384, x627385, x627386, x627387⟩ := hp627381
      have hs627391 : rStr γ [] F627241 F627388 := rStr_tr hs627299 hs627390
      rw [show Int32.toInt 1 = 1 from by decide] at x627387
      change G _ _ _ _ _ _ _ (.int 0 :: _) _ _ _
      refine G_widen (cs' := 0) (sl' := 0) (by omega) (by omega) ?_
      have hm627392 : q627242 ∈ P627240 := RS_m hT627389 htq627242 (by decide)
      refine rk10_e (show rk_10 γ (F627388 q627242) from RS_o hT627389 htq627242) (fun q627394 q627395 p627396 p627397 p627398 p627399 p627400 p627401 p627402 p627403 p627404 p627405 p627406 p627407 p627408 p627409 p627410 he627393 hB627437 ht627411 ht627412 ht627413 ht627414 ht627415 ht627416 ht627417 ht627418 ht627419 ht627420 ht627421 ht627422 ht627423 ht627424 ht627425 ht627426 ht627427 ht627428 ht627429 ht627430 ht627431 ht627432 ht627433 ht627434 hB627438 => ?_)
      have ac627439 : (fI (F627388 q627242) 9).toInt = p627396.toInt := by rw [he627393]; rfl
      have bp627396 : gB p627396 0 1 := (hB627437.1)
      have ac627440 : (fI (F627388 q627242) 10).toInt = p627397.toInt := by rw [he627393]; rfl
      have bp627397 : gB p627397 0 1 := (hB627437.2.1)
      have ac627441 : (fI (F627388 q627242) 32).toInt = p627408.toInt := by rw [he627393]; rfl
      have bp627408 : gB p627408 0 8192 := (hB627437.2.2.2.2.2.2.2.1)
      have ac627442 : (fI (F627388 q627242) 9).toInt = p627396.toInt := by rw [he627393]; rfl
      have ac627443 : (fI (F627388 q627242) 10).toInt = p627397.toInt := by rw [he627393]; rfl
      have ac627444 : (fI (F627388 q627242) 32).toInt = p627408.toInt := by rw [he627393]; rfl
      exact G_iretA dr_cX17_shown_31 rfl (Nat.le_of_ble_eq_true rfl) (Nat.le_of_ble_eq_true rfl) ⟨F627388, 0, rfl, rfl, hT627389, hs627391, (Nat.le_of_ble_eq_true rfl), (Nat.le_of_ble_eq_true rfl), (by have qa0 : Int32.toInt 0 = 0 := (by decide); omega), (by have qa0 : Int32.toInt 0 = 0 := (by decide); omega), (by have qa0 : Int32.toInt 0 = 0 := (by decide); omega)⟩
    · have r627445 : p627243.toInt < p627257.toInt := gC_nle hc627373
      have bp627243'' : gB p627243 0 511 := ⟨by omega, by omega⟩
      have bp627257' : gB p627257 1 512 := ⟨by omega, by omega⟩
      refine G_aload_n 0 dr_cX17_shown_17 rfl ?_
      refine Gp_get 22 hm627245 he627298 dr_cX17_shown_18 (gk_X17 D I) (Nat.le_of_ble_eq_true rfl) wr_7_96 rfl ?_
      refine G_iload_n 1 dr_cX17_shown_21 rfl ?_
      have hT627446 : RS D I P627240 F627295 γ el := RS_set hT n627297 htq627242 (by decide) ⟨q627247, q627248, p627249, p627250, p627251, p627252, p627253, p627254, p627255, p627256, p627257, p627258, p627259, 0, p627261, p627262, p627263, he627298, ⟨bp627249, bp627250, (hB627290.2.2.1), (hB627290.2.2.2.1), (gB_w bp627257' (by decide) (by decide)), (hB627290.2.2.2.2.2.1), (hB627290.2.2.2.2.2.2.1), bp627261, (hB627290.2.2.2.2.2.2.2.2)⟩, ht627264, ht627265, ht627266, ht627267, ht627268, ht627269, ht627270, ht627271, ht627272, ht627273, ht627274, ht627275, ht627276, ht627277, ht627278, ht627279, ht627280, ht627281, ht627282, ht627283, ht627284, ht627285, ht627286, ht627287, hB627291⟩
      have hm627447 : (γ 9 22) ∈ P627240 := RS_m hT627446 ht627282 (by decide)
      obtain ⟨f627449, he627448⟩ := show rk_24 I (F627295 (γ 9 22)) from RS_o hT627446 ht627282
      refine Gp_iald 0 hm627447 he627448 dr_cX17_shown_22 rfl (gB_in bp627243'' (by decide) (by decide)) (G_nam fun z627450 hz627450 => ?_)
      have bz627450 : gB z627450 (-2147483648) 2147483647 := gB_any z627450
      refine G_goto 31 dr_cX17_shown_23 (by decide +kernel) ?_
      have ac627451 : (fI (F627295 q627242) 9).toInt = p627249.toInt := by rw [he627298]; rfl
      have ac627452 : (fI (F627295 q627242) 10).toInt = p627250.toInt := by rw [he627298]; rfl
      have ac627453 : (fI (F627295 q627242) 32).toInt = p627261.toInt := by rw [he627298]; rfl
      exact G_iretA dr_cX17_shown_31 rfl (Nat.le_of_ble_eq_true rfl) (Nat.le_of_ble_eq_true rfl) ⟨F627295, z627450, rfl, rfl, hT627446, hs627299, (Nat.le_of_ble_eq_true rfl), (Nat.le_of_ble_eq_true rfl), (by omega), (by omega), (by omega)⟩
abbrev ky_627459_SpillForgeModel_thrown : gKey := (cX17_thrown, 1, "SpillForgeModel", (some FieldType.int), [], "thrown", fun _ _ => True)
def pt_627459_SpillForgeModel_thrown (D : va_G) (I : FieldType → ClassId) (γ el : Nat → Nat → Nat) (P627456 : List Nat) (F627457 : Nat → va_E) (q627458 : Nat) : Option Value → va_W → Nat → Nat → Prop := fun r w dc ds => ∃ (o627509 : Int32), r = some (.int o627509) ∧ w = va_pl P627456 F627457 ∧ dc ≤ 0 ∧ ds ≤ 0 ∧ o627509.toInt = (fI (F627457 q627458) 30).toInt
set_option maxRecDepth 100000 in
set_option maxHeartbeats 4000000 in
theorem ct_627459_SpillForgeModel_thrown (l : Launch) (hl0 : l.stackTraces = false) (D : va_G) (I : FieldType → ClassId) (γ el : Nat → Nat → Nat) (P627456 : List Nat) (F627457 : Nat → va_E) (q627458 : Nat) (hT : RS D I P627456 F627457 γ el) (htq627458 : rKd γ q627458 10) : CtA (gV D I) l yX17_thrown cX17_thrown 1 (some FieldType.int) 0 0 0 0 [.ref q627458] (va_pl P627456 F627457) (pt_627459_SpillForgeModel_thrown D I γ el P627456 F627457 q627458) gNA := by
  refine CtA_of hl0 (by decide) (Nat.le_of_ble_eq_true rfl) ?_
  have hm627460 : q627458 ∈ P627456 := RS_m hT htq627458 (by decide)
  refine rk10_e (show rk_10 γ (F627457 q627458) from RS_o hT htq627458) (fun q627462 q627463 p627464 p627465 p627466 p627467 p627468 p627469 p627470 p627471 p627472 p627473 p627474 p627475 p627476 p627477 p627478 he627461 hB627505 ht627479 ht627480 ht627481 ht627482 ht627483 ht627484 ht627485 ht627486 ht627487 ht627488 ht627489 ht627490 ht627491 ht627492 ht627493 ht627494 ht627495 ht627496 ht627497 ht627498 ht627499 ht627500 ht627501 ht627502 hB627506 => ?_)
  have ac627507 : (fI (F627457 q627458) 30).toInt = p627475.toInt := by rw [he627461]; rfl
  have bp627475 : gB p627475 (-2147483648) 2147483647 := (gB_any p627475)
  refine G_aload_n 0 dr_cX17_thrown_0 rfl ?_
  refine Gp_get 30 hm627460 he627461 dr_cX17_thrown_1 (gk_X17 D I) (Nat.le_of_ble_eq_true rfl) wr_7_104 rfl ?_
  have ac627508 : (fI (F627457 q627458) 30).toInt = p627475.toInt := by rw [he627461]; rfl
  exact G_iretA dr_cX17_thrown_4 rfl (Nat.le_of_ble_eq_true rfl) (Nat.le_of_ble_eq_true rfl) ⟨p627475, rfl, rfl, (Nat.le_of_ble_eq_true rfl), (Nat.le_of_ble_eq_true rfl), (by omega)⟩
abbrev ky_627585_SpillForgeModel_word : gKey := (cX17_word, 4, "SpillForgeModel", none, [], "word", fun _ _ => True)
def pt_627585_SpillForgeModel_word (D : va_G) (I : FieldType → ClassId) (γ el : Nat → Nat → Nat) (P627580 : List Nat) (F627581 : Nat → va_E) (q627582 : Nat) (p627583 : Int32) (p627584 : Int32) : Option Value → va_W → Nat → Nat → Prop := fun r w dc ds => ∃ (F628075 : Nat → va_E), r = none ∧ w = va_pl P627580 F628075 ∧ RS D I P627580 F628075 γ el ∧ rStr γ [] F627581 F628075 ∧ dc ≤ 0 ∧ ds ≤ 0 ∧ (fI (F628075 q627582) 9).toInt = (fI (F627581 q627582) 9).toInt ∧ (fI (F628075 q627582) 10).toInt = (fI (F627581 q627582) 10).toInt ∧ (fI (F628075 q627582) 32).toInt = (fI (F627581 q627582) 32).toInt ∧ (fI (F628075 q627582) 30).toInt = (fI (F627581 q627582) 30).toInt
set_option maxRecDepth 100000 in
set_option maxHeartbeats 4000000 in
theorem ct_627585_SpillForgeModel_word (l : Launch) (hl0 : l.stackTraces = false) (D : va_G) (I : FieldType → ClassId) (γ el : Nat → Nat → Nat) (P627580 : List Nat) (F627581 : Nat → va_E) (q627582 : Nat) (p627583 : Int32) (p627584 : Int32) (hT : RS D I P627580 F627581 γ el) (htq627582 : rKd γ q627582 10) (bp627584 : gB p627584 0 8188) : CtA (gV D I) l yX17_word cX17_word 4 none 0 0 0 0 [.ref q627582, .int p627583, .int p627584] (va_pl P627580 F627581) (pt_627585_SpillForgeModel_word D I γ el P627580 F627581 q627582 p627583 p627584) gNA := by
  refine CtA_of hl0 (by decide) (Nat.le_of_ble_eq_true rfl) ?_
  have bp627583 := gB_any p627583
  have hm627586 : q627582 ∈ P627580 := RS_m hT htq627582 (by decide)
  refine rk10_e (show rk_10 γ (F627581 q627582) from RS_o hT htq627582) (fun q627588 q627589 p627590 p627591 p627592 p627593 p627594 p627595 p627596 p627597 p627598 p627599 p627600 p627601 p627602 p627603 p627604 he627587 hB627631 ht627605 ht627606 ht627607 ht627608 ht627609 ht627610 ht627611 ht627612 ht627613 ht627614 ht627615 ht627616 ht627617 ht627618 ht627619 ht627620 ht627621 ht627622 ht627623 ht627624 ht627625 ht627626 ht627627 ht627628 hB627632 => ?_)
  have ac627633 : (fI (F627581 q627582) 9).toInt = p627590.toInt := by rw [he627587]; rfl
  have bp627590 : gB p627590 0 1 := (hB627631.1)
  have ac627634 : (fI (F627581 q627582) 10).toInt = p627591.toInt := by rw [he627587]; rfl
  have bp627591 : gB p627591 0 1 := (hB627631.2.1)
  have ac627635 : (fI (F627581 q627582) 32).toInt = p627602.toInt := by rw [he627587]; rfl
  have bp627602 : gB p627602 0 8192 := (hB627631.2.2.2.2.2.2.2.1)
  have ac627636 : (fI (F627581 q627582) 30).toInt = p627601.toInt := by rw [he627587]; rfl
  have bp627601 : gB p627601 (-2147483648) 2147483647 := (gB_any p627601)
  refine G_iconst 0 dr_cX17_word_0 (by decide +kernel) ?_
  refine G_istore_n (L' := [(3, .int 0), (0, .ref q627582), (1, .int p627583), (2, .int p627584)]) dr_cX17_word_1 (Nat.le_of_ble_eq_true rfl) rfl ?_
  have hlp2_627984 : ∀ (n2_627984 : Nat) (F627978 : Nat → va_E) (g627977 : Int32), gB g627977 0 4 → RS D I P627580 F627978 γ el → rStr γ [] F627581 F627978 → (fI (F627978 q627582) 9).toInt = (fI (F627581 q627582) 9).toInt → (fI (F627978 q627582) 10).toInt = (fI (F627581 q627582) 10).toInt → (fI (F627978 q627582) 32).toInt = (fI (F627581 q627582) 32).toInt → (fI (F627978 q627582) 30).toInt = (fI (F627581 q627582) 30).toInt → ((5 : Int) - g627977.toInt).toNat < n2_627984 → G (gV D I) l (gRm 0 0 0 0) (gMA (gV D I) (pt_627585_SpillForgeModel_word D I γ el P627580 F627581 q627582 p627583 p627584) gNA 0 0) ky_627585_SpillForgeModel_word 2 [(3, .int g627977), (0, .ref q627582), (1, .int p627583), (2, .int p627584)] [] (va_pl P627580 F627978) 0 0 := by
    intro n2_627984
    induction n2_627984 with
    | zero => intro F627978 g627977 bg627977 hT627979 hs627980 x627981 x627982 x627983 x627984 hm2_627984; exact absurd hm2_627984 (Nat.not_lt_zero _)
    | succ n2_627984 ih2_627984 =>
      intro F627978 g627977 bg627977 hT627979 hs627980 x627981 x627982 x627983 x627984 hm2_627984
      have hs627986 : rStr γ [] F627581 F627978 := fun b h0 hb hw => (hs627980 b h0 hb hw).trans ((rStr_rf (γ := γ) (W := []) (F := F627581)) b h0 hb hw).symm
      have hs627987 : rStr γ [] F627581 F627978 := rStr_tr (rStr_rf (γ := γ) (W := []) (F := F627581)) hs627986
      have hm627988 : q627582 ∈ P627580 := RS_m hT627979 htq627582 (by decide)
      refine rk10_e (show rk_10 γ (F627978 q627582) from RS_o hT627979 htq627582) (fun q627990 q627991 p627992 p627993 p627994 p627995 p627996 p627997 p627998 p627999 p628000 p628001 p628002 p628003 p628004 p628005 p628006 he627989 hB628033 ht628007 ht628008 ht628009 ht628010 ht628011 ht628012 ht628013 ht628014 ht628015 ht628016 ht628017 ht628018 ht628019 ht628020 ht628021 ht628022 ht628023 ht628024 ht628025 ht628026 ht628027 ht628028 ht628029 ht628030 hB628034 => ?_)
      have ac628035 : (fI (F627978 q627582) 9).toInt = p627992.toInt := by rw [he627989]; rfl
      have bp627992 : gB p627992 0 1 := (hB628033.1)
      have ac628036 : (fI (F627978 q627582) 10).toInt = p627993.toInt := by rw [he627989]; rfl
      have bp627993 : gB p627993 0 1 := (hB628033.2.1)
      have ac628037 : (fI (F627978 q627582) 32).toInt = p628004.toInt := by rw [he627989]; rfl
      have bp628004 : gB p628004 0 8192 := (hB628033.2.2.2.2.2.2.2.1)
      have ac628038 : (fI (F627978 q627582) 30).toInt = p628003.toInt := by rw [he627989]; rfl
      have bp628003 : gB p628003 (-2147483648) 2147483647 := (gB_any p628003)
      have ac628039 : (fI (F627978 q627582) 9).toInt = p627992.toInt := by rw [he627989]; rfl
      have ac628040 : (fI (F627978 q627582) 10).toInt = p627993.toInt := by rw [he627989]; rfl
      have ac628041 : (fI (F627978 q627582) 32).toInt = p628004.toInt := by rw [he627989]; rfl
      have ac628042 : (fI (F627978 q627582) 30).toInt = p628003.toInt := by rw [he627989]; rfl
      refine G_iload_n 0 dr_cX17_word_2 rfl ?_
      refine G_iconst 4 dr_cX17_word_3 (by decide +kernel) ?_
      refine G_icmp_ge 31 dr_cX17_word_4 (by decide +kernel) (fun hc628043 => ?_) (fun hc628043 => ?_)
      · have r628044 : 4 ≤ g627977.toInt := gj_leL hc628043 (show Int32.toInt 4 = 4 by decide)
        have bg627977' : gB g627977 4 4 := ⟨by omega, by omega⟩
        have ac628045 : (fI (F627978 q627582) 9).toInt = p627992.toInt := by rw [he627989]; rfl
        have ac628046 : (fI (F627978 q627582) 10).toInt = p627993.toInt := by rw [he627989]; rfl
        have ac628047 : (fI (F627978 q627582) 32).toInt = p628004.toInt := by rw [he627989]; rfl
        have ac628048 : (fI (F627978 q627582) 30).toInt = p628003.toInt := by rw [he627989]; rfl
        exact G_vretA dr_cX17_word_31 rfl (Nat.le_of_ble_eq_true rfl) (Nat.le_of_ble_eq_true rfl) ⟨F627978, rfl, rfl, hT627979, hs627980, (Nat.le_of_ble_eq_true rfl), (Nat.le_of_ble_eq_true rfl), (by omega), (by omega), (by omega), (by omega)⟩
      · have r628049 : g627977.toInt < 4 := gj_nleL hc628043 (show Int32.toInt 4 = 4 by decide)
        have bg627977' : gB g627977 0 3 := ⟨by omega, by omega⟩
        refine G_aload_n 1 dr_cX17_word_7 rfl ?_
        refine Gp_get 31 hm627988 he627989 dr_cX17_word_8 (gk_X17 D I) (Nat.le_of_ble_eq_true rfl) wr_7_105 rfl ?_
        refine G_iload_n 3 dr_cX17_word_11 rfl ?_
        refine G_iload_n 0 dr_cX17_word_12 rfl ?_
        refine G_iadd dr_cX17_word_13 (G_nam fun z628050 hz628050 => ?_)
        have ez628050 : z628050.toInt = p627584.toInt + g627977.toInt := by rw [gI_add hz628050 bp627584 bg627977' (by decide) (by decide)]
        have bz628050 : gB z628050 0 8191 := gB_add (gI_add hz628050 bp627584 bg627977' (by decide) (by decide)) bp627584 bg627977' (by decide) (by decide)
        refine G_iload_n 2 dr_cX17_word_14 rfl ?_
        refine G_bipush 24 dr_cX17_word_15 (by decide +kernel) ?_
        refine G_bipush 8 dr_cX17_word_17 (by decide +kernel) ?_
        refine G_iload_n 0 dr_cX17_word_19 rfl ?_
        refine G_imul dr_cX17_word_20 (G_nam fun z628051 hz628051 => ?_)
        have ez628051 : z628051.toInt = 8 * g627977.toInt := by rw [gI_mul hz628051 (gBl (show Int32.toInt 8 = 8 by decide)) bg627977' (by decide) (by decide) (by decide), show Int32.toInt 8 = 8 from by decide]
        have bz628051 : gB z628051 0 24 := gB_mul hz628051 (gBl (show Int32.toInt 8 = 8 by decide)) bg627977' (by decide) (by decide) (by decide) (by decide)
        refine G_isub dr_cX17_word_21 (G_nam fun z628052 hz628052 => ?_)
        have ez628052 : z628052.toInt = 24 - z628051.toInt := by rw [gI_sub hz628052 (gBl (show Int32.toInt 24 = 24 by decide)) bz628051 (by decide) (by decide), show Int32.toInt 24 = 24 from by decide]
        have bz628052 : gB z628052 0 24 := gB_sub (gI_sub hz628052 (gBl (show Int32.toInt 24 = 24 by decide)) bz628051 (by decide) (by decide)) (gBl (show Int32.toInt 24 = 24 by decide)) bz628051 (by decide) (by decide)
        refine G_ishr dr_cX17_word_22 (G_nam fun z628053 hz628053 => ?_)
        have bz628053 : gB z628053 (-2147483648) 2147483647 := gB_any z628053
        refine G_i2b dr_cX17_word_23 (G_nam fun z628054 hz628054 => ?_)
        have bz628054 : gB z628054 (-128) 127 := gB_i2b hz628054
        have hm628055 : (γ 9 31) ∈ P627580 := RS_m hT627979 ht628027 (by decide)
        obtain ⟨f628057, he628056, bf628057⟩ := show rk_25 I (F627978 (γ 9 31)) from RS_o hT627979 ht628027
        refine Gp_bast 1 hm628055 he628056 dr_cX17_word_24 rfl (gB_in bz628050 (by decide) (by decide)) (fun F628058 e628059 n628060 => ?_)
        obtain ⟨f628061, hf628061⟩ : ∃ z, z = upd f628057 z628050.toNatClampNeg (vp_nar .byte z628054) := ⟨_, rfl⟩
        rw [← hf628061] at e628059
        have he628062 : F628058 q627582 = .inr (22, [.ref (γ 9 0), .ref (γ 9 1), .ref (γ 9 2), .ref (γ 9 3), .ref (γ 9 4), .ref (γ 9 5), .ref (γ 9 6), .ref (γ 9 7), .ref (γ 9 8), .int p627992, .int p627993, .int p627994, .int p627995, .int p627996, .int p627997, .ref (γ 9 15), .ref (γ 9 16), .ref (γ 9 17), .ref (γ 9 18), .ref (γ 9 19), .ref (γ 9 20), .ref (γ 9 21), .ref (γ 9 22), .int p627998, .int p627999, .int p628000, .int p628001, .int p628002, .ref q627990, .ref (γ 9 29), .int p628003, .ref (γ 9 31), .int p628004, .int p628005, .int p628006, .ref q627991]) := (n628060 q627582 (rn_oa he627989 he628056)).trans he627989
        have he628063 : F628058 (γ 9 31) = .inl (I .byte, 8192, .inl f628061) := e628059
        have hs628064 : rStr γ [] F627581 F628058 := rStr_put hs627980 n628060 ht628027 (by decide)
        have bf628061 : gF f628061 (-128) 127 := gF_upd hf628061 bf628057 gB_byte
        obtain ⟨z628065, hz628065⟩ : ∃ z : Int32, z = g627977 + Int32.ofInt 1 := ⟨_, rfl⟩
        have ez628065 : z628065.toInt = g627977.toInt + 1 := gI_inc hz628065 (by decide) bg627977' (by decide) (by decide)
        have bz628065 : gB z628065 1 4 := ⟨by omega, by omega⟩
        refine G_iinc (L' := [(3, .int z628065), (0, .ref q627582), (1, .int p627583), (2, .int p627584)]) z628065 0 dr_cX17_word_25 rfl hz628065.symm (Nat.le_of_ble_eq_true rfl) rfl ?_
        refine G_goto 2 dr_cX17_word_28 (by decide +kernel) ?_
        have hT628066 : RS D I P627580 F628058 γ el := RS_set hT627979 n628060 ht628027 (by decide) ⟨f628061, he628063, bf628061⟩
        have ac628067 : (fI (F628058 q627582) 9).toInt = p627992.toInt := by rw [he628062]; rfl
        have ac628068 : (fI (F628058 q627582) 10).toInt = p627993.toInt := by rw [he628062]; rfl
        have ac628069 : (fI (F628058 q627582) 32).toInt = p628004.toInt := by rw [he628062]; rfl
        have ac628070 : (fI (F628058 q627582) 30).toInt = p628003.toInt := by rw [he628062]; rfl
        exact ih2_627984 F628058 z628065 (gB_w bz628065 (by decide) (by decide)) hT628066 hs628064 (by omega) (by omega) (by omega) (by omega) (mz_up ez628065 (Int.le_trans bg627977'.2 (by decide)) hm2_627984)
  have ac628071 : (fI (F627581 q627582) 9).toInt = p627590.toInt := by rw [he627587]; rfl
  have ac628072 : (fI (F627581 q627582) 10).toInt = p627591.toInt := by rw [he627587]; rfl
  have ac628073 : (fI (F627581 q627582) 32).toInt = p627602.toInt := by rw [he627587]; rfl
  have ac628074 : (fI (F627581 q627582) 30).toInt = p627601.toInt := by rw [he627587]; rfl
  exact hlp2_627984 (((5 : Int) - 0).toNat + 1) F627581 0 (gB_w (gBl (show Int32.toInt 0 = 0 by decide)) (by decide) (by decide)) hT (rStr_rf (γ := γ) (W := []) (F := F627581)) (by omega) (by omega) (by omega) (by omega) (Nat.lt_succ_self _)
abbrev ky_627519_SpillForgeModel_feed : gKey := (cX17_feed, 6, "SpillForgeModel", (some FieldType.int), [], "feed", fun _ _ => True)
def pt_627519_SpillForgeModel_feed (D : va_G) (I : FieldType → ClassId) (γ el : Nat → Nat → Nat) (P627511 : List Nat) (F627512 : Nat → va_E) (q627513 : Nat) (p627514 : Int32) (p627515 : Int32) (p627516 : Int32) (p627517 : Int32) (p627518 : Int32) : Option Value → va_W → Nat → Nat → Prop := fun r w dc ds => ∃ (F628506 : Nat → va_E) (o628505 : Int32), r = some (.int o628505) ∧ w = va_pl P627511 F628506 ∧ RS D I P627511 F628506 γ el ∧ rStr γ [] F627512 F628506 ∧ dc ≤ 0 ∧ ds ≤ 0 ∧ gB o628505 0 8212 ∧ (((fI (F627512 q627513) 32).toInt ≤ 8172 ∧ o628505.toInt = (fI (F627512 q627513) 32).toInt + 20 ∧ (fI (F628506 q627513) 32).toInt = (fI (F627512 q627513) 32).toInt + 20 ∧ (fI (F628506 q627513) 30).toInt = 0) ∨ (8172 < (fI (F627512 q627513) 32).toInt ∧ (fI (F628506 q627513) 30).toInt = 1 ∧ (fI (F628506 q627513) 32).toInt = (fI (F627512 q627513) 32).toInt)) ∧ (fI (F628506 q627513) 9).toInt = (fI (F627512 q627513) 9).toInt ∧ (fI (F628506 q627513) 10).toInt = (fI (F627512 q627513) 10).toInt
set_option maxRecDepth 100000 in
set_option maxHeartbeats 4000000 in
theorem ct_627519_SpillForgeModel_feed (l : Launch) (hl0 : l.stackTraces = false) (D : va_G) (I : FieldType → ClassId) (γ el : Nat → Nat → Nat) (P627511 : List Nat) (F627512 : Nat → va_E) (q627513 : Nat) (p627514 : Int32) (p627515 : Int32) (p627516 : Int32) (p627517 : Int32) (p627518 : Int32) (hT : RS D I P627511 F627512 γ el) (htq627513 : rKd γ q627513 10) : CtA (gV D I) l yX17_feed cX17_feed 6 (some FieldType.int) 1 23 0 0 [.ref q627513, .int p627514, .int p627515, .int p627516, .int p627517, .int p627518] (va_pl P627511 F627512) (pt_627519_SpillForgeModel_feed D I γ el P627511 F627512 q627513 p627514 p627515 p627516 p627517 p627518) gNA := by
  refine CtA_of hl0 (by decide) (Nat.le_of_ble_eq_true rfl) ?_
  have bp627514 := gB_any p627514
  have bp627515 := gB_any p627515
  have bp627516 := gB_any p627516
  have bp627517 := gB_any p627517
  have bp627518 := gB_any p627518
  have hm627520 : q627513 ∈ P627511 := RS_m hT htq627513 (by decide)
  refine rk10_e (show rk_10 γ (F627512 q627513) from RS_o hT htq627513) (fun q627522 q627523 p627524 p627525 p627526 p627527 p627528 p627529 p627530 p627531 p627532 p627533 p627534 p627535 p627536 p627537 p627538 he627521 hB627565 ht627539 ht627540 ht627541 ht627542 ht627543 ht627544 ht627545 ht627546 ht627547 ht627548 ht627549 ht627550 ht627551 ht627552 ht627553 ht627554 ht627555 ht627556 ht627557 ht627558 ht627559 ht627560 ht627561 ht627562 hB627566 => ?_)
  have ac627567 : (fI (F627512 q627513) 9).toInt = p627524.toInt := by rw [he627521]; rfl
  have bp627524 : gB p627524 0 1 := (hB627565.1)
  have ac627568 : (fI (F627512 q627513) 10).toInt = p627525.toInt := by rw [he627521]; rfl
  have bp627525 : gB p627525 0 1 := (hB627565.2.1)
  have ac627569 : (fI (F627512 q627513) 32).toInt = p627536.toInt := by rw [he627521]; rfl
  have bp627536 : gB p627536 0 8192 := (hB627565.2.2.2.2.2.2.2.1)
  have ac627570 : (fI (F627512 q627513) 30).toInt = p627535.toInt := by rw [he627521]; rfl
  have bp627535 : gB p627535 (-2147483648) 2147483647 := (gB_any p627535)
  refine G_aload_n 0 dr_cX17_feed_0 rfl ?_
  refine G_iconst 0 dr_cX17_feed_1 (by decide +kernel) ?_
  refine Gp_put 30 hm627520 he627521 dr_cX17_feed_2 (gk_X17 D I) (Nat.le_of_ble_eq_true rfl) wr_7_104 rfl rfl rfl (Nat.le_of_ble_eq_true rfl) (fun F627571 e627572 n627573 => ?_)
  have he627574 : F627571 q627513 = .inr (22, [.ref (γ 9 0), .ref (γ 9 1), .ref (γ 9 2), .ref (γ 9 3), .ref (γ 9 4), .ref (γ 9 5), .ref (γ 9 6), .ref (γ 9 7), .ref (γ 9 8), .int p627524, .int p627525, .int p627526, .int p627527, .int p627528, .int p627529, .ref (γ 9 15), .ref (γ 9 16), .ref (γ 9 17), .ref (γ 9 18), .ref (γ 9 19), .ref (γ 9 20), .ref (γ 9 21), .ref (γ 9 22), .int p627530, .int p627531, .int p627532, .int p627533, .int p627534, .ref q627522, .ref (γ 9 29), .int 0, .ref (γ 9 31), .int p627536, .int p627537, .int p627538, .ref q627523]) := e627572
  have hs627575 : rStr γ [] F627512 F627571 := rStr_put (rStr_rf (γ := γ) (W := []) (F := F627512)) n627573 htq627513 (by decide)
  refine G_aload_n 0 dr_cX17_feed_5 rfl ?_
  refine Gp_get 32 hm627520 he627574 dr_cX17_feed_6 (gk_X17 D I) (Nat.le_of_ble_eq_true rfl) wr_7_106 rfl ?_
  refine G_bipush 20 dr_cX17_feed_9 (by decide +kernel) ?_
  refine G_iadd dr_cX17_feed_11 (G_nam fun z627576 hz627576 => ?_)
  have ez627576 : z627576.toInt = p627536.toInt + 20 := by rw [gI_add hz627576 bp627536 (gBl (show Int32.toInt 20 = 20 by decide)) (by decide) (by decide), show Int32.toInt 20 = 20 from by decide]
  have bz627576 : gB z627576 20 8212 := gB_add (gI_add hz627576 bp627536 (gBl (show Int32.toInt 20 = 20 by decide)) (by decide) (by decide)) bp627536 (gBl (show Int32.toInt 20 = 20 by decide)) (by decide) (by decide)
  refine G_sipush 8192 dr_cX17_feed_12 (by decide +kernel) ?_
  refine G_icmp_le 24 dr_cX17_feed_15 (by decide +kernel) (fun hc627577 => ?_) (fun hc627577 => ?_)
  · have r627578 : z627576.toInt ≤ 8192 := gj_le hc627577 (show Int32.toInt 8192 = 8192 by decide)
    have bz627576' : gB z627576 20 8192 := ⟨by omega, by omega⟩
    refine G_aload_n 0 dr_cX17_feed_24 rfl ?_
    refine G_iload_n 1 dr_cX17_feed_25 rfl ?_
    refine G_aload_n 0 dr_cX17_feed_26 rfl ?_
    refine Gp_get 32 hm627520 he627574 dr_cX17_feed_27 (gk_X17 D I) (Nat.le_of_ble_eq_true rfl) wr_7_106 rfl ?_
    have hT627579 : RS D I P627511 F627571 γ el := RS_set hT n627573 htq627513 (by decide) ⟨q627522, q627523, p627524, p627525, p627526, p627527, p627528, p627529, p627530, p627531, p627532, p627533, p627534, 0, p627536, p627537, p627538, he627574, ⟨bp627524, bp627525, (hB627565.2.2.1), (hB627565.2.2.2.1), (hB627565.2.2.2.2.1), (hB627565.2.2.2.2.2.1), (hB627565.2.2.2.2.2.2.1), bp627536, (hB627565.2.2.2.2.2.2.2.2)⟩, ht627539, ht627540, ht627541, ht627542, ht627543, ht627544, ht627545, ht627546, ht627547, ht627548, ht627549, ht627550, ht627551, ht627552, ht627553, ht627554, ht627555, ht627556, ht627557, ht627558, ht627559, ht627560, ht627561, ht627562, hB627566⟩
    have ac628076 : (fI (F627571 q627513) 9).toInt = p627524.toInt := by rw [he627574]; rfl
    have ac628077 : (fI (F627571 q627513) 10).toInt = p627525.toInt := by rw [he627574]; rfl
    have ac628078 : (fI (F627571 q627513) 32).toInt = p627536.toInt := by rw [he627574]; rfl
    have ac628079 : (fI (F627571 q627513) 30).toInt = 0 := by rw [he627574]; show Int32.toInt 0 = 0; decide
    refine Gw_callV (As := [.int p627514, .int p627536]) (gV_ok D I) (ct_627585_SpillForgeModel_word l hl0 D I γ el P627511 F627571 q627513 p627514 p627536 hT627579 htq627513 ⟨by omega, by omega⟩) dr_cX17_feed_30 ⟨wr_7_195, wr_1_14, wr_7_198, by decide, rfl, (Nat.le_of_ble_eq_true rfl), (Nat.le_of_ble_eq_true rfl)⟩ wr_7_197 wr_p_74 hm627520 he627574 rfl (show 0 + 0 ≤ 0 by first | omega | decide) (show 0 + 0 ≤ 0 by first | omega | decide) (Nat.le_of_ble_eq_true rfl) (fun r628083 w628084 dc628080 ds628081 hp628082 => ?_) (fun _ _ _ _ _ z => z.elim)
    obtain ⟨F628089, rfl, rfl, hT628090, hs628091, hdc, hds, x628085, x628086, x628087, x628088⟩ := hp628082
    have hs628092 : rStr γ [] F627512 F628089 := rStr_tr hs627575 hs628091
    change G _ _ _ _ _ _ _ _ _ _ _
    refine G_widen (cs' := 0) (sl' := 0) (by omega) (by omega) ?_
    refine G_aload_n 0 dr_cX17_feed_33 rfl ?_
    refine G_iload_n 2 dr_cX17_feed_34 rfl ?_
    refine G_aload_n 0 dr_cX17_feed_35 rfl ?_
    have hm628093 : q627513 ∈ P627511 := RS_m hT628090 htq627513 (by decide)
    refine rk10_e (show rk_10 γ (F628089 q627513) from RS_o hT628090 htq627513) (fun q628095 q628096 p628097 p628098 p628099 p628100 p628101 p628102 p628103 p628104 p628105 p628106 p628107 p628108 p628109 p628110 p628111 he628094 hB628138 ht628112 ht628113 ht628114 ht628115 ht628116 ht628117 ht628118 ht628119 ht628120 ht628121 ht628122 ht628123 ht628124 ht628125 ht628126 ht628127 ht628128 ht628129 ht628130 ht628131 ht628132 ht628133 ht628134 ht628135 hB628139 => ?_)
    have ac628140 : (fI (F628089 q627513) 9).toInt = p628097.toInt := by rw [he628094]; rfl
    have bp628097 : gB p628097 0 1 := (hB628138.1)
    have ac628141 : (fI (F628089 q627513) 10).toInt = p628098.toInt := by rw [he628094]; rfl
    have bp628098 : gB p628098 0 1 := (hB628138.2.1)
    have ac628142 : (fI (F628089 q627513) 32).toInt = p628109.toInt := by rw [he628094]; rfl
    have bp628109 : gB p628109 0 8192 := (hB628138.2.2.2.2.2.2.2.1)
    have ac628143 : (fI (F628089 q627513) 30).toInt = p628108.toInt := by rw [he628094]; rfl
    have bp628108 : gB p628108 (-2147483648) 2147483647 := (gB_any p628108)
    refine Gp_get 32 hm628093 he628094 dr_cX17_feed_36 (gk_X17 D I) (Nat.le_of_ble_eq_true rfl) wr_7_106 rfl ?_
    refine G_iconst 4 dr_cX17_feed_39 (by decide +kernel) ?_
    refine G_iadd dr_cX17_feed_40 (G_nam fun z628144 hz628144 => ?_)
    have ez628144 : z628144.toInt = p628109.toInt + 4 := by rw [gI_add hz628144 bp628109 (gBl (show Int32.toInt 4 = 4 by decide)) (by decide) (by decide), show Int32.toInt 4 = 4 from by decide]
    have bz628144 : gB z628144 4 8196 := gB_add (gI_add hz628144 bp628109 (gBl (show Int32.toInt 4 = 4 by decide)) (by decide) (by decide)) bp628109 (gBl (show Int32.toInt 4 = 4 by decide)) (by decide) (by decide)
    have ac628145 : (fI (F628089 q627513) 9).toInt = p628097.toInt := by rw [he628094]; rfl
    have ac628146 : (fI (F628089 q627513) 10).toInt = p628098.toInt := by rw [he628094]; rfl
    have ac628147 : (fI (F628089 q627513) 32).toInt = p628109.toInt := by rw [he628094]; rfl
    have ac628148 : (fI (F628089 q627513) 30).toInt = p628108.toInt := by rw [he628094]; rfl
    refine Gw_callV (As := [.int p627515, .int z628144]) (gV_ok D I) (ct_627585_SpillForgeModel_word l hl0 D I γ el P627511 F628089 q627513 p627515 z628144 hT628090 htq627513 ⟨by omega, by omega⟩) dr_cX17_feed_41 ⟨wr_7_195, wr_1_14, wr_7_198, by decide, rfl, (Nat.le_of_ble_eq_true rfl), (Nat.le_of_ble_eq_true rfl)⟩ wr_7_197 wr_p_74 hm628093 he628094 rfl (show 0 + 0 ≤ 0 by first | omega | decide) (show 0 + 0 ≤ 0 by first | omega | decide) (Nat.le_of_ble_eq_true rfl) (fun r628152 w628153 dc628149 ds628150 hp628151 => ?_) (fun _ _ _ _ _ z => z.elim)
    obtain ⟨F628158, rfl, rfl, hT628159, hs628160, hdc, hds, x628154, x628155, x628156, x628157⟩ := hp628151
    have hs628161 : rStr γ [] F627512 F628158 := rStr_tr hs628092 hs628160
    change G _ _ _ _ _ _ _ _ _ _ _
    refine G_widen (cs' := 0) (sl' := 0) (by omega) (by omega) ?_
    refine G_aload_n 0 dr_cX17_feed_44 rfl ?_
    refine G_iload_n 3 dr_cX17_feed_45 rfl ?_
    refine G_aload_n 0 dr_cX17_feed_46 rfl ?_
    have hm628162 : q627513 ∈ P627511 := RS_m hT628159 htq627513 (by decide)
    refine rk10_e (show rk_10 γ (F628158 q627513) from RS_o hT628159 htq627513) (fun q628164 q628165 p628166 p628167 p628168 p628169 p628170 p628171 p628172 p628173 p628174 p628175 p628176 p628177 p628178 p628179 p628180 he628163 hB628207 ht628181 ht628182 ht628183 ht628184 ht628185 ht628186 ht628187 ht628188 ht628189 ht628190 ht628191 ht628192 ht628193 ht628194 ht628195 ht628196 ht628197 ht628198 ht628199 ht628200 ht628201 ht628202 ht628203 ht628204 hB628208 => ?_)
    have ac628209 : (fI (F628158 q627513) 9).toInt = p628166.toInt := by rw [he628163]; rfl
    have bp628166 : gB p628166 0 1 := (hB628207.1)
    have ac628210 : (fI (F628158 q627513) 10).toInt = p628167.toInt := by rw [he628163]; rfl
    have bp628167 : gB p628167 0 1 := (hB628207.2.1)
    have ac628211 : (fI (F628158 q627513) 32).toInt = p628178.toInt := by rw [he628163]; rfl
    have bp628178 : gB p628178 0 8192 := (hB628207.2.2.2.2.2.2.2.1)
    have ac628212 : (fI (F628158 q627513) 30).toInt = p628177.toInt := by rw [he628163]; rfl
    have bp628177 : gB p628177 (-2147483648) 2147483647 := (gB_any p628177)
    refine Gp_get 32 hm628162 he628163 dr_cX17_feed_47 (gk_X17 D I) (Nat.le_of_ble_eq_true rfl) wr_7_106 rfl ?_
    refine G_bipush 8 dr_cX17_feed_50 (by decide +kernel) ?_
    refine G_iadd dr_cX17_feed_52 (G_nam fun z628213 hz628213 => ?_)
    have ez628213 : z628213.toInt = p628178.toInt + 8 := by rw [gI_add hz628213 bp628178 (gBl (show Int32.toInt 8 = 8 by decide)) (by decide) (by decide), show Int32.toInt 8 = 8 from by decide]
    have bz628213 : gB z628213 8 8200 := gB_add (gI_add hz628213 bp628178 (gBl (show Int32.toInt 8 = 8 by decide)) (by decide) (by decide)) bp628178 (gBl (show Int32.toInt 8 = 8 by decide)) (by decide) (by decide)
    have ac628214 : (fI (F628158 q627513) 9).toInt = p628166.toInt := by rw [he628163]; rfl
    have ac628215 : (fI (F628158 q627513) 10).toInt = p628167.toInt := by rw [he628163]; rfl
    have ac628216 : (fI (F628158 q627513) 32).toInt = p628178.toInt := by rw [he628163]; rfl
    have ac628217 : (fI (F628158 q627513) 30).toInt = p628177.toInt := by rw [he628163]; rfl
    refine Gw_callV (As := [.int p627516, .int z628213]) (gV_ok D I) (ct_627585_SpillForgeModel_word l hl0 D I γ el P627511 F628158 q627513 p627516 z628213 hT628159 htq627513 ⟨by omega, by omega⟩) dr_cX17_feed_53 ⟨wr_7_195, wr_1_14, wr_7_198, by decide, rfl, (Nat.le_of_ble_eq_true rfl), (Nat.le_of_ble_eq_true rfl)⟩ wr_7_197 wr_p_74 hm628162 he628163 rfl (show 0 + 0 ≤ 0 by first | omega | decide) (show 0 + 0 ≤ 0 by first | omega | decide) (Nat.le_of_ble_eq_true rfl) (fun r628221 w628222 dc628218 ds628219 hp628220 => ?_) (fun _ _ _ _ _ z => z.elim)
    obtain ⟨F628227, rfl, rfl, hT628228, hs628229, hdc, hds, x628223, x628224, x628225, x628226⟩ := hp628220
    have hs628230 : rStr γ [] F627512 F628227 := rStr_tr hs628161 hs628229
    change G _ _ _ _ _ _ _ _ _ _ _
    refine G_widen (cs' := 0) (sl' := 0) (by omega) (by omega) ?_
    refine G_aload_n 0 dr_cX17_feed_56 rfl ?_
    refine G_iload 4 dr_cX17_feed_57 rfl ?_
    refine G_aload_n 0 dr_cX17_feed_59 rfl ?_
    have hm628231 : q627513 ∈ P627511 := RS_m hT628228 htq627513 (by decide)
    refine rk10_e (show rk_10 γ (F628227 q627513) from RS_o hT628228 htq627513) (fun q628233 q628234 p628235 p628236 p628237 p628238 p628239 p628240 p628241 p628242 p628243 p628244 p628245 p628246 p628247 p628248 p628249 he628232 hB628276 ht628250 ht628251 ht628252 ht628253 ht628254 ht628255 ht628256 ht628257 ht628258 ht628259 ht628260 ht628261 ht628262 ht628263 ht628264 ht628265 ht628266 ht628267 ht628268 ht628269 ht628270 ht628271 ht628272 ht628273 hB628277 => ?_)
    have ac628278 : (fI (F628227 q627513) 9).toInt = p628235.toInt := by rw [he628232]; rfl
    have bp628235 : gB p628235 0 1 := (hB628276.1)
    have ac628279 : (fI (F628227 q627513) 10).toInt = p628236.toInt := by rw [he628232]; rfl
    have bp628236 : gB p628236 0 1 := (hB628276.2.1)
    have ac628280 : (fI (F628227 q627513) 32).toInt = p628247.toInt := by rw [he628232]; rfl
    have bp628247 : gB p628247 0 8192 := (hB628276.2.2.2.2.2.2.2.1)
    have ac628281 : (fI (F628227 q627513) 30).toInt = p628246.toInt := by rw [he628232]; rfl
    have bp628246 : gB p628246 (-2147483648) 2147483647 := (gB_any p628246)
    refine Gp_get 32 hm628231 he628232 dr_cX17_feed_60 (gk_X17 D I) (Nat.le_of_ble_eq_true rfl) wr_7_106 rfl ?_
    refine G_bipush 12 dr_cX17_feed_63 (by decide +kernel) ?_
    refine G_iadd dr_cX17_feed_65 (G_nam fun z628282 hz628282 => ?_)
    have ez628282 : z628282.toInt = p628247.toInt + 12 := by rw [gI_add hz628282 bp628247 (gBl (show Int32.toInt 12 = 12 by decide)) (by decide) (by decide), show Int32.toInt 12 = 12 from by decide]
    have bz628282 : gB z628282 12 8204 := gB_add (gI_add hz628282 bp628247 (gBl (show Int32.toInt 12 = 12 by decide)) (by decide) (by decide)) bp628247 (gBl (show Int32.toInt 12 = 12 by decide)) (by decide) (by decide)
    have ac628283 : (fI (F628227 q627513) 9).toInt = p628235.toInt := by rw [he628232]; rfl
    have ac628284 : (fI (F628227 q627513) 10).toInt = p628236.toInt := by rw [he628232]; rfl
    have ac628285 : (fI (F628227 q627513) 32).toInt = p628247.toInt := by rw [he628232]; rfl
    have ac628286 : (fI (F628227 q627513) 30).toInt = p628246.toInt := by rw [he628232]; rfl
    refine Gw_callV (As := [.int p627517, .int z628282]) (gV_ok D I) (ct_627585_SpillForgeModel_word l hl0 D I γ el P627511 F628227 q627513 p627517 z628282 hT628228 htq627513 ⟨by omega, by omega⟩) dr_cX17_feed_66 ⟨wr_7_195, wr_1_14, wr_7_198, by decide, rfl, (Nat.le_of_ble_eq_true rfl), (Nat.le_of_ble_eq_true rfl)⟩ wr_7_197 wr_p_74 hm628231 he628232 rfl (show 0 + 0 ≤ 0 by first | omega | decide) (show 0 + 0 ≤ 0 by first | omega | decide) (Nat.le_of_ble_eq_true rfl) (fun r628290 w628291 dc628287 ds628288 hp628289 => ?_) (fun _ _ _ _ _ z => z.elim)
    obtain ⟨F628296, rfl, rfl, hT628297, hs628298, hdc, hds, x628292, x628293, x628294, x628295⟩ := hp628289
    have hs628299 : rStr γ [] F627512 F628296 := rStr_tr hs628230 hs628298
    change G _ _ _ _ _ _ _ _ _ _ _
    refine G_widen (cs' := 0) (sl' := 0) (by omega) (by omega) ?_
    refine G_aload_n 0 dr_cX17_feed_69 rfl ?_
    refine G_iload 5 dr_cX17_feed_70 rfl ?_
    refine G_aload_n 0 dr_cX17_feed_72 rfl ?_
    have hm628300 : q627513 ∈ P627511 := RS_m hT628297 htq627513 (by decide)
    refine rk10_e (show rk_10 γ (F628296 q627513) from RS_o hT628297 htq627513) (fun q628302 q628303 p628304 p628305 p628306 p628307 p628308 p628309 p628310 p628311 p628312 p628313 p628314 p628315 p628316 p628317 p628318 he628301 hB628345 ht628319 ht628320 ht628321 ht628322 ht628323 ht628324 ht628325 ht628326 ht628327 ht628328 ht628329 ht628330 ht628331 ht628332 ht628333 ht628334 ht628335 ht628336 ht628337 ht628338 ht628339 ht628340 ht628341 ht628342 hB628346 => ?_)
    have ac628347 : (fI (F628296 q627513) 9).toInt = p628304.toInt := by rw [he628301]; rfl
    have bp628304 : gB p628304 0 1 := (hB628345.1)
    have ac628348 : (fI (F628296 q627513) 10).toInt = p628305.toInt := by rw [he628301]; rfl
    have bp628305 : gB p628305 0 1 := (hB628345.2.1)
    have ac628349 : (fI (F628296 q627513) 32).toInt = p628316.toInt := by rw [he628301]; rfl
    have bp628316 : gB p628316 0 8192 := (hB628345.2.2.2.2.2.2.2.1)
    have ac628350 : (fI (F628296 q627513) 30).toInt = p628315.toInt := by rw [he628301]; rfl
    have bp628315 : gB p628315 (-2147483648) 2147483647 := (gB_any p628315)
    refine Gp_get 32 hm628300 he628301 dr_cX17_feed_73 (gk_X17 D I) (Nat.le_of_ble_eq_true rfl) wr_7_106 rfl ?_
    refine G_bipush 16 dr_cX17_feed_76 (by decide +kernel) ?_
    refine G_iadd dr_cX17_feed_78 (G_nam fun z628351 hz628351 => ?_)
    have ez628351 : z628351.toInt = p628316.toInt + 16 := by rw [gI_add hz628351 bp628316 (gBl (show Int32.toInt 16 = 16 by decide)) (by decide) (by decide), show Int32.toInt 16 = 16 from by decide]
    have bz628351 : gB z628351 16 8208 := gB_add (gI_add hz628351 bp628316 (gBl (show Int32.toInt 16 = 16 by decide)) (by decide) (by decide)) bp628316 (gBl (show Int32.toInt 16 = 16 by decide)) (by decide) (by decide)
    have ac628352 : (fI (F628296 q627513) 9).toInt = p628304.toInt := by rw [he628301]; rfl
    have ac628353 : (fI (F628296 q627513) 10).toInt = p628305.toInt := by rw [he628301]; rfl
    have ac628354 : (fI (F628296 q627513) 32).toInt = p628316.toInt := by rw [he628301]; rfl
    have ac628355 : (fI (F628296 q627513) 30).toInt = p628315.toInt := by rw [he628301]; rfl
    refine Gw_callV (As := [.int p627518, .int z628351]) (gV_ok D I) (ct_627585_SpillForgeModel_word l hl0 D I γ el P627511 F628296 q627513 p627518 z628351 hT628297 htq627513 ⟨by omega, by omega⟩) dr_cX17_feed_79 ⟨wr_7_195, wr_1_14, wr_7_198, by decide, rfl, (Nat.le_of_ble_eq_true rfl), (Nat.le_of_ble_eq_true rfl)⟩ wr_7_197 wr_p_74 hm628300 he628301 rfl (show 0 + 0 ≤ 0 by first | omega | decide) (show 0 + 0 ≤ 0 by first | omega | decide) (Nat.le_of_ble_eq_true rfl) (fun r628359 w628360 dc628356 ds628357 hp628358 => ?_) (fun _ _ _ _ _ z => z.elim)
    obtain ⟨F628365, rfl, rfl, hT628366, hs628367, hdc, hds, x628361, x628362, x628363, x628364⟩ := hp628358
    have hs628368 : rStr γ [] F627512 F628365 := rStr_tr hs628299 hs628367
    change G _ _ _ _ _ _ _ _ _ _ _
    refine G_widen (cs' := 0) (sl' := 0) (by omega) (by omega) ?_
    refine G_aload_n 0 dr_cX17_feed_82 rfl ?_
    refine G_dup dr_cX17_feed_83 rfl ?_
    have hm628369 : q627513 ∈ P627511 := RS_m hT628366 htq627513 (by decide)
    refine rk10_e (show rk_10 γ (F628365 q627513) from RS_o hT628366 htq627513) (fun q628371 q628372 p628373 p628374 p628375 p628376 p628377 p628378 p628379 p628380 p628381 p628382 p628383 p628384 p628385 p628386 p628387 he628370 hB628414 ht628388 ht628389 ht628390 ht628391 ht628392 ht628393 ht628394 ht628395 ht628396 ht628397 ht628398 ht628399 ht628400 ht628401 ht628402 ht628403 ht628404 ht628405 ht628406 ht628407 ht628408 ht628409 ht628410 ht628411 hB628415 => ?_)
    have ac628416 : (fI (F628365 q627513) 9).toInt = p628373.toInt := by rw [he628370]; rfl
    have bp628373 : gB p628373 0 1 := (hB628414.1)
    have ac628417 : (fI (F628365 q627513) 10).toInt = p628374.toInt := by rw [he628370]; rfl
    have bp628374 : gB p628374 0 1 := (hB628414.2.1)
    have ac628418 : (fI (F628365 q627513) 32).toInt = p628385.toInt := by rw [he628370]; rfl
    have bp628385 : gB p628385 0 8192 := (hB628414.2.2.2.2.2.2.2.1)
    have ac628419 : (fI (F628365 q627513) 30).toInt = p628384.toInt := by rw [he628370]; rfl
    have bp628384 : gB p628384 (-2147483648) 2147483647 := (gB_any p628384)
    refine Gp_get 32 hm628369 he628370 dr_cX17_feed_84 (gk_X17 D I) (Nat.le_of_ble_eq_true rfl) wr_7_106 rfl ?_
    refine G_bipush 20 dr_cX17_feed_87 (by decide +kernel) ?_
    refine G_iadd dr_cX17_feed_89 (G_nam fun z628420 hz628420 => ?_)
    have ez628420 : z628420.toInt = p628385.toInt + 20 := by rw [gI_add hz628420 bp628385 (gBl (show Int32.toInt 20 = 20 by decide)) (by decide) (by decide), show Int32.toInt 20 = 20 from by decide]
    have bz628420 : gB z628420 20 8212 := gB_add (gI_add hz628420 bp628385 (gBl (show Int32.toInt 20 = 20 by decide)) (by decide) (by decide)) bp628385 (gBl (show Int32.toInt 20 = 20 by decide)) (by decide) (by decide)
    refine Gp_put 32 hm628369 he628370 dr_cX17_feed_90 (gk_X17 D I) (Nat.le_of_ble_eq_true rfl) wr_7_106 rfl rfl rfl (Nat.le_of_ble_eq_true rfl) (fun F628421 e628422 n628423 => ?_)
    have he628424 : F628421 q627513 = .inr (22, [.ref (γ 9 0), .ref (γ 9 1), .ref (γ 9 2), .ref (γ 9 3), .ref (γ 9 4), .ref (γ 9 5), .ref (γ 9 6), .ref (γ 9 7), .ref (γ 9 8), .int p628373, .int p628374, .int p628375, .int p628376, .int p628377, .int p628378, .ref (γ 9 15), .ref (γ 9 16), .ref (γ 9 17), .ref (γ 9 18), .ref (γ 9 19), .ref (γ 9 20), .ref (γ 9 21), .ref (γ 9 22), .int p628379, .int p628380, .int p628381, .int p628382, .int p628383, .ref q628371, .ref (γ 9 29), .int p628384, .ref (γ 9 31), .int z628420, .int p628386, .int p628387, .ref q628372]) := e628422
    have hs628425 : rStr γ [] F627512 F628421 := rStr_put hs628368 n628423 htq627513 (by decide)
    refine G_aload_n 0 dr_cX17_feed_93 rfl ?_
    refine Gp_get 32 hm628369 he628424 dr_cX17_feed_94 (gk_X17 D I) (Nat.le_of_ble_eq_true rfl) wr_7_106 rfl ?_
    have hT628426 : RS D I P627511 F628421 γ el := RS_set hT628366 n628423 htq627513 (by decide) ⟨q628371, q628372, p628373, p628374, p628375, p628376, p628377, p628378, p628379, p628380, p628381, p628382, p628383, p628384, z628420, p628386, p628387, he628424, ⟨bp628373, bp628374, (hB628414.2.2.1), (hB628414.2.2.2.1), (hB628414.2.2.2.2.1), (hB628414.2.2.2.2.2.1), (hB628414.2.2.2.2.2.2.1), ⟨by omega, by omega⟩, (hB628414.2.2.2.2.2.2.2.2)⟩, ht628388, ht628389, ht628390, ht628391, ht628392, ht628393, ht628394, ht628395, ht628396, ht628397, ht628398, ht628399, ht628400, ht628401, ht628402, ht628403, ht628404, ht628405, ht628406, ht628407, ht628408, ht628409, ht628410, ht628411, hB628415⟩
    have ac628427 : (fI (F628421 q627513) 9).toInt = p628373.toInt := by rw [he628424]; rfl
    have ac628428 : (fI (F628421 q627513) 10).toInt = p628374.toInt := by rw [he628424]; rfl
    have ac628429 : (fI (F628421 q627513) 32).toInt = z628420.toInt := by rw [he628424]; rfl
    have ac628430 : (fI (F628421 q627513) 30).toInt = p628384.toInt := by rw [he628424]; rfl
    exact G_iretA dr_cX17_feed_97 rfl (Nat.le_of_ble_eq_true rfl) (Nat.le_of_ble_eq_true rfl) ⟨F628421, z628420, rfl, rfl, hT628426, hs628425, (Nat.le_of_ble_eq_true rfl), (Nat.le_of_ble_eq_true rfl), (gB_w bz628420 (by decide) (by decide)), (by omega), (by omega), (by omega)⟩
  · have r628431 : 8192 < z627576.toInt := gj_nle hc627577 (show Int32.toInt 8192 = 8192 by decide)
    have bz627576' : gB z627576 8193 8212 := ⟨by omega, by omega⟩
    refine G_aload_n 0 dr_cX17_feed_18 rfl ?_
    refine G_iconst 1 dr_cX17_feed_19 (by decide +kernel) ?_
    have hT628432 : RS D I P627511 F627571 γ el := RS_set hT n627573 htq627513 (by decide) ⟨q627522, q627523, p627524, p627525, p627526, p627527, p627528, p627529, p627530, p627531, p627532, p627533, p627534, 0, p627536, p627537, p627538, he627574, ⟨bp627524, bp627525, (hB627565.2.2.1), (hB627565.2.2.2.1), (hB627565.2.2.2.2.1), (hB627565.2.2.2.2.2.1), (hB627565.2.2.2.2.2.2.1), bp627536, (hB627565.2.2.2.2.2.2.2.2)⟩, ht627539, ht627540, ht627541, ht627542, ht627543, ht627544, ht627545, ht627546, ht627547, ht627548, ht627549, ht627550, ht627551, ht627552, ht627553, ht627554, ht627555, ht627556, ht627557, ht627558, ht627559, ht627560, ht627561, ht627562, hB627566⟩
    have ac628433 : (fI (F627571 q627513) 9).toInt = p627524.toInt := by rw [he627574]; rfl
    have ac628434 : (fI (F627571 q627513) 10).toInt = p627525.toInt := by rw [he627574]; rfl
    have ac628435 : (fI (F627571 q627513) 32).toInt = p627536.toInt := by rw [he627574]; rfl
    have ac628436 : (fI (F627571 q627513) 30).toInt = 0 := by rw [he627574]; show Int32.toInt 0 = 0; decide
    refine Gw_callV (As := [.int 1]) (gV_ok D I) (ct_627106_SpillForgeModel_no l hl0 D I γ el P627511 F627571 q627513 1 hT628432 htq627513) dr_cX17_feed_20 ⟨wr_7_191, wr_1_14, wr_7_194, by decide, rfl, (Nat.le_of_ble_eq_true rfl), (Nat.le_of_ble_eq_true rfl)⟩ wr_7_193 wr_p_73 hm627520 he627574 rfl (show 0 + 0 ≤ 0 by first | omega | decide) (show 0 + 0 ≤ 0 by first | omega | decide) (Nat.le_of_ble_eq_true rfl) (fun r628440 w628441 dc628437 ds628438 hp628439 => ?_) (fun _ _ _ _ _ z => z.elim)
    obtain ⟨F628446, rfl, rfl, hT628447, hs628448, hdc, hds, x628442, x628443, x628444, x628445⟩ := hp628439
    have hs628449 : rStr γ [] F627512 F628446 := rStr_tr hs627575 hs628448
    rw [show Int32.toInt 1 = 1 from by decide] at x628445
    change G _ _ _ _ _ _ _ (.int 0 :: _) _ _ _
    refine G_widen (cs' := 0) (sl' := 0) (by omega) (by omega) ?_
    have hm628450 : q627513 ∈ P627511 := RS_m hT628447 htq627513 (by decide)
    refine rk10_e (show rk_10 γ (F628446 q627513) from RS_o hT628447 htq627513) (fun q628452 q628453 p628454 p628455 p628456 p628457 p628458 p628459 p628460 p628461 p628462 p628463 p628464 p628465 p628466 p628467 p628468 he628451 hB628495 ht628469 ht628470 ht628471 ht628472 ht628473 ht628474 ht628475 ht628476 ht628477 ht628478 ht628479 ht628480 ht628481 ht628482 ht628483 ht628484 ht628485 ht628486 ht628487 ht628488 ht628489 ht628490 ht628491 ht628492 hB628496 => ?_)
    have ac628497 : (fI (F628446 q627513) 9).toInt = p628454.toInt := by rw [he628451]; rfl
    have bp628454 : gB p628454 0 1 := (hB628495.1)
    have ac628498 : (fI (F628446 q627513) 10).toInt = p628455.toInt := by rw [he628451]; rfl
    have bp628455 : gB p628455 0 1 := (hB628495.2.1)
    have ac628499 : (fI (F628446 q627513) 32).toInt = p628466.toInt := by rw [he628451]; rfl
    have bp628466 : gB p628466 0 8192 := (hB628495.2.2.2.2.2.2.2.1)
    have ac628500 : (fI (F628446 q627513) 30).toInt = p628465.toInt := by rw [he628451]; rfl
    have bp628465 : gB p628465 (-2147483648) 2147483647 := (gB_any p628465)
    have ac628501 : (fI (F628446 q627513) 9).toInt = p628454.toInt := by rw [he628451]; rfl
    have ac628502 : (fI (F628446 q627513) 10).toInt = p628455.toInt := by rw [he628451]; rfl
    have ac628503 : (fI (F628446 q627513) 32).toInt = p628466.toInt := by rw [he628451]; rfl
    have ac628504 : (fI (F628446 q627513) 30).toInt = p628465.toInt := by rw [he628451]; rfl
    exact G_iretA dr_cX17_feed_23 rfl (Nat.le_of_ble_eq_true rfl) (Nat.le_of_ble_eq_true rfl) ⟨F628446, 0, rfl, rfl, hT628447, hs628449, (Nat.le_of_ble_eq_true rfl), (Nat.le_of_ble_eq_true rfl), (gB_w (gBl (show Int32.toInt 0 = 0 by decide)) (by decide) (by decide)), (by have qa0 : Int32.toInt 0 = 0 := (by decide); omega), (by have qa0 : Int32.toInt 0 = 0 := (by decide); omega), (by have qa0 : Int32.toInt 0 = 0 := (by decide); omega)⟩
