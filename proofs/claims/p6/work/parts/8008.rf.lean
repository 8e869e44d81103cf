abbrev ky_581401_SpillForgeModel_feed : gKey := (cX17_feed, 6, "SpillForgeModel", (some FieldType.int), [], "feed", fun _ _ => True)
def pt_581401_SpillForgeModel_feed (D : va_G) (I : FieldType → ClassId) (γ el : Nat → Nat → Nat) (P581393 : List Nat) (F581394 : Nat → va_E) (q581395 : Nat) (p581396 : Int32) (p581397 : Int32) (p581398 : Int32) (p581399 : Int32) (p581400 : Int32) : Option Value → va_W → Nat → Nat → Prop := fun r w dc ds => ∃ (F582405 : Nat → va_E) (o582404 : Int32), r = some (.int o582404) ∧ w = va_pl P581393 F582405 ∧ RS D I P581393 F582405 γ el ∧ rStr γ [99] F581394 F582405 ∧ dc ≤ 0 ∧ ds ≤ 0 ∧ gB o582404 0 8212 ∧ (((fI (F581394 q581395) 32).toInt ≤ 8172 ∧ o582404.toInt = (fI (F581394 q581395) 32).toInt + 20 ∧ (fI (F582405 q581395) 32).toInt = (fI (F581394 q581395) 32).toInt + 20 ∧ (fI (F582405 q581395) 30).toInt = 0) ∨ (8172 < (fI (F581394 q581395) 32).toInt ∧ (fI (F582405 q581395) 30).toInt = 1 ∧ (fI (F582405 q581395) 32).toInt = (fI (F581394 q581395) 32).toInt)) ∧ (fI (F582405 q581395) 9).toInt = (fI (F581394 q581395) 9).toInt ∧ (fI (F582405 q581395) 10).toInt = (fI (F581394 q581395) 10).toInt ∧ tr_RModel_feed D I γ el P581393 F581394 q581395 p581396 p581397 p581398 p581399 p581400 o582404 F582405
set_option maxRecDepth 100000 in
set_option maxHeartbeats 4000000 in
theorem ct_581401_SpillForgeModel_feed (l : Launch) (hl0 : l.stackTraces = false) (D : va_G) (I : FieldType → ClassId) (γ el : Nat → Nat → Nat) (P581393 : List Nat) (F581394 : Nat → va_E) (q581395 : Nat) (p581396 : Int32) (p581397 : Int32) (p581398 : Int32) (p581399 : Int32) (p581400 : Int32) (hT : RS D I P581393 F581394 γ el) (htq581395 : rKd γ q581395 10) : CtA (gV D I) l yX17_feed cX17_feed 6 (some FieldType.int) 1 23 0 0 [.ref q581395, .int p581396, .int p581397, .int p581398, .int p581399, .int p581400] (va_pl P581393 F581394) (pt_581401_SpillForgeModel_feed D I γ el P581393 F581394 q581395 p581396 p581397 p581398 p581399 p581400) gNA := by
  refine CtA_of hl0 (by decide) (Nat.le_of_ble_eq_true rfl) ?_
  have bp581396 := gB_any p581396
  have bp581397 := gB_any p581397
  have bp581398 := gB_any p581398
  have bp581399 := gB_any p581399
  have bp581400 := gB_any p581400
  have hm581402 : q581395 ∈ P581393 := RS_m hT htq581395 (by decide)
  refine rk10_e (show rk_10 γ (F581394 q581395) from RS_o hT htq581395) (fun q581404 q581405 p581406 p581407 p581408 p581409 p581410 p581411 p581412 p581413 p581414 p581415 p581416 p581417 p581418 p581419 p581420 he581403 hB581447 ht581421 ht581422 ht581423 ht581424 ht581425 ht581426 ht581427 ht581428 ht581429 ht581430 ht581431 ht581432 ht581433 ht581434 ht581435 ht581436 ht581437 ht581438 ht581439 ht581440 ht581441 ht581442 ht581443 ht581444 hB581448 => ?_)
  have ac581449 : (fI (F581394 q581395) 9).toInt = p581406.toInt := by rw [he581403]; rfl
  have bp581406 : gB p581406 0 1 := (hB581447.1)
  have ac581450 : (fI (F581394 q581395) 10).toInt = p581407.toInt := by rw [he581403]; rfl
  have bp581407 : gB p581407 0 1 := (hB581447.2.1)
  have ac581451 : (fI (F581394 q581395) 32).toInt = p581418.toInt := by rw [he581403]; rfl
  have bp581418 : gB p581418 0 8192 := (hB581447.2.2.2.2.2.2.2.1)
  have ac581452 : (fI (F581394 q581395) 30).toInt = p581417.toInt := by rw [he581403]; rfl
  have bp581417 : gB p581417 (-2147483648) 2147483647 := (gB_any p581417)
  refine G_aload_n 0 dr_cX17_feed_0 rfl ?_
  refine G_iconst 0 dr_cX17_feed_1 (by decide +kernel) ?_
  refine Gp_put 30 hm581402 he581403 dr_cX17_feed_2 (gk_X17 D I) (Nat.le_of_ble_eq_true rfl) wr_7_104 rfl rfl rfl (Nat.le_of_ble_eq_true rfl) (fun F581453 e581454 n581455 => ?_)
  have he581456 : F581453 q581395 = .inr (22, [.ref (γ 9 0), .ref (γ 9 1), .ref (γ 9 2), .ref (γ 9 3), .ref (γ 9 4), .ref (γ 9 5), .ref (γ 9 6), .ref (γ 9 7), .ref (γ 9 8), .int p581406, .int p581407, .int p581408, .int p581409, .int p581410, .int p581411, .ref (γ 9 15), .ref (γ 9 16), .ref (γ 9 17), .ref (γ 9 18), .ref (γ 9 19), .ref (γ 9 20), .ref (γ 9 21), .ref (γ 9 22), .int p581412, .int p581413, .int p581414, .int p581415, .int p581416, .ref q581404, .ref (γ 9 29), .int 0, .ref (γ 9 31), .int p581418, .int p581419, .int p581420, .ref q581405]) := e581454
  have hs581457 : rStr γ [99] F581394 F581453 := rStr_put (rStr_rf (γ := γ) (W := [99]) (F := F581394)) n581455 htq581395 (by decide)
  have fq581458 : F581453 q581395 = cF (F581394 q581395) 30 (.int 0) := by rw [he581456, he581403]; rfl
  refine G_aload_n 0 dr_cX17_feed_5 rfl ?_
  have fq581459 : fI (F581453 q581395) 32 = p581418 := by rw [he581456]; rfl
  refine Gp_get 32 hm581402 he581456 dr_cX17_feed_6 (gk_X17 D I) (Nat.le_of_ble_eq_true rfl) wr_7_106 rfl ?_
  refine G_bipush 20 dr_cX17_feed_9 (by decide +kernel) ?_
  refine G_iadd dr_cX17_feed_11 (G_nam fun z581460 hz581460 => ?_)
  have ez581460 : z581460.toInt = p581418.toInt + 20 := by rw [gI_add hz581460 bp581418 (gBl (show Int32.toInt 20 = 20 by decide)) (by decide) (by decide), show Int32.toInt 20 = 20 from by decide]
  have bz581460 : gB z581460 20 8212 := gB_add (gI_add hz581460 bp581418 (gBl (show Int32.toInt 20 = 20 by decide)) (by decide) (by decide)) bp581418 (gBl (show Int32.toInt 20 = 20 by decide)) (by decide) (by decide)
  refine G_sipush 8192 dr_cX17_feed_12 (by decide +kernel) ?_
  refine G_icmp_le 24 dr_cX17_feed_15 (by decide +kernel) (fun hc581461 => ?_) (fun hc581461 => ?_)
  · have r581462 : z581460.toInt ≤ 8192 := gj_le hc581461 (show Int32.toInt 8192 = 8192 by decide)
    have bz581460' : gB z581460 20 8192 := ⟨by omega, by omega⟩
    refine G_aload_n 0 dr_cX17_feed_24 rfl ?_
    refine G_iload_n 1 dr_cX17_feed_25 rfl ?_
    refine G_aload_n 0 dr_cX17_feed_26 rfl ?_
    refine Gp_get 32 hm581402 he581456 dr_cX17_feed_27 (gk_X17 D I) (Nat.le_of_ble_eq_true rfl) wr_7_106 rfl ?_
    have hT581463 : RS D I P581393 F581453 γ el := RS_set hT n581455 htq581395 (by decide) ⟨q581404, q581405, p581406, p581407, p581408, p581409, p581410, p581411, p581412, p581413, p581414, p581415, p581416, 0, p581418, p581419, p581420, he581456, ⟨bp581406, bp581407, (hB581447.2.2.1), (hB581447.2.2.2.1), (hB581447.2.2.2.2.1), (hB581447.2.2.2.2.2.1), (hB581447.2.2.2.2.2.2.1), bp581418, (hB581447.2.2.2.2.2.2.2.2)⟩, ht581421, ht581422, ht581423, ht581424, ht581425, ht581426, ht581427, ht581428, ht581429, ht581430, ht581431, ht581432, ht581433, ht581434, ht581435, ht581436, ht581437, ht581438, ht581439, ht581440, ht581441, ht581442, ht581443, ht581444, hB581448⟩
    have ac581962 : (fI (F581453 q581395) 9).toInt = p581406.toInt := by rw [he581456]; rfl
    have ac581963 : (fI (F581453 q581395) 10).toInt = p581407.toInt := by rw [he581456]; rfl
    have ac581964 : (fI (F581453 q581395) 32).toInt = p581418.toInt := by rw [he581456]; rfl
    have ac581965 : (fI (F581453 q581395) 30).toInt = 0 := by rw [he581456]; show Int32.toInt 0 = 0; decide
    refine Gw_callV (As := [.int p581396, .int p581418]) (gV_ok D I) (ct_581469_SpillForgeModel_word l hl0 D I γ el P581393 F581453 q581395 p581396 p581418 hT581463 htq581395 ⟨by omega, by omega⟩) dr_cX17_feed_30 ⟨wr_7_195, wr_1_14, wr_7_198, by decide, rfl, (Nat.le_of_ble_eq_true rfl), (Nat.le_of_ble_eq_true rfl)⟩ wr_7_197 wr_p_74 hm581402 he581456 rfl (show 0 + 0 ≤ 0 by first | omega | decide) (show 0 + 0 ≤ 0 by first | omega | decide) (Nat.le_of_ble_eq_true rfl) (fun r581969 w581970 dc581966 ds581967 hp581968 => ?_) (fun _ _ _ _ _ z => z.elim)
    obtain ⟨F581976, rfl, rfl, hT581977, hs581978, hdc, hds, x581971, x581972, x581973, x581974, ht581975⟩ := hp581968
    have hs581979 : rStr γ [99] F581394 F581976 := rStr_tr hs581457 hs581978
    change G _ _ _ _ _ _ _ _ _ _ _
    refine G_widen (cs' := 0) (sl' := 0) (by omega) (by omega) ?_
    refine G_aload_n 0 dr_cX17_feed_33 rfl ?_
    refine G_iload_n 2 dr_cX17_feed_34 rfl ?_
    refine G_aload_n 0 dr_cX17_feed_35 rfl ?_
    have hm581980 : q581395 ∈ P581393 := RS_m hT581977 htq581395 (by decide)
    refine rk10_e (show rk_10 γ (F581976 q581395) from RS_o hT581977 htq581395) (fun q581982 q581983 p581984 p581985 p581986 p581987 p581988 p581989 p581990 p581991 p581992 p581993 p581994 p581995 p581996 p581997 p581998 he581981 hB582025 ht581999 ht582000 ht582001 ht582002 ht582003 ht582004 ht582005 ht582006 ht582007 ht582008 ht582009 ht582010 ht582011 ht582012 ht582013 ht582014 ht582015 ht582016 ht582017 ht582018 ht582019 ht582020 ht582021 ht582022 hB582026 => ?_)
    have ac582027 : (fI (F581976 q581395) 9).toInt = p581984.toInt := by rw [he581981]; rfl
    have bp581984 : gB p581984 0 1 := (hB582025.1)
    have ac582028 : (fI (F581976 q581395) 10).toInt = p581985.toInt := by rw [he581981]; rfl
    have bp581985 : gB p581985 0 1 := (hB582025.2.1)
    have ac582029 : (fI (F581976 q581395) 32).toInt = p581996.toInt := by rw [he581981]; rfl
    have bp581996 : gB p581996 0 8192 := (hB582025.2.2.2.2.2.2.2.1)
    have ac582030 : (fI (F581976 q581395) 30).toInt = p581995.toInt := by rw [he581981]; rfl
    have bp581995 : gB p581995 (-2147483648) 2147483647 := (gB_any p581995)
    have fq582031 : fI (F581976 q581395) 32 = p581996 := by rw [he581981]; rfl
    refine Gp_get 32 hm581980 he581981 dr_cX17_feed_36 (gk_X17 D I) (Nat.le_of_ble_eq_true rfl) wr_7_106 rfl ?_
    refine G_iconst 4 dr_cX17_feed_39 (by decide +kernel) ?_
    refine G_iadd dr_cX17_feed_40 (G_nam fun z582032 hz582032 => ?_)
    have ez582032 : z582032.toInt = p581996.toInt + 4 := by rw [gI_add hz582032 bp581996 (gBl (show Int32.toInt 4 = 4 by decide)) (by decide) (by decide), show Int32.toInt 4 = 4 from by decide]
    have bz582032 : gB z582032 4 8196 := gB_add (gI_add hz582032 bp581996 (gBl (show Int32.toInt 4 = 4 by decide)) (by decide) (by decide)) bp581996 (gBl (show Int32.toInt 4 = 4 by decide)) (by decide) (by decide)
    have ac582033 : (fI (F581976 q581395) 9).toInt = p581984.toInt := by rw [he581981]; rfl
    have ac582034 : (fI (F581976 q581395) 10).toInt = p581985.toInt := by rw [he581981]; rfl
    have ac582035 : (fI (F581976 q581395) 32).toInt = p581996.toInt := by rw [he581981]; rfl
    have ac582036 : (fI (F581976 q581395) 30).toInt = p581995.toInt := by rw [he581981]; rfl
    refine Gw_callV (As := [.int p581397, .int z582032]) (gV_ok D I) (ct_581469_SpillForgeModel_word l hl0 D I γ el P581393 F581976 q581395 p581397 z582032 hT581977 htq581395 ⟨by omega, by omega⟩) dr_cX17_feed_41 ⟨wr_7_195, wr_1_14, wr_7_198, by decide, rfl, (Nat.le_of_ble_eq_true rfl), (Nat.le_of_ble_eq_true rfl)⟩ wr_7_197 wr_p_74 hm581980 he581981 rfl (show 0 + 0 ≤ 0 by first | omega | decide) (show 0 + 0 ≤ 0 by first | omega | decide) (Nat.le_of_ble_eq_true rfl) (fun r582040 w582041 dc582037 ds582038 hp582039 => ?_) (fun _ _ _ _ _ z => z.elim)
    obtain ⟨F582047, rfl, rfl, hT582048, hs582049, hdc, hds, x582042, x582043, x582044, x582045, ht582046⟩ := hp582039
    have hs582050 : rStr γ [99] F581394 F582047 := rStr_tr hs581979 hs582049
    change G _ _ _ _ _ _ _ _ _ _ _
    refine G_widen (cs' := 0) (sl' := 0) (by omega) (by omega) ?_
    refine G_aload_n 0 dr_cX17_feed_44 rfl ?_
    refine G_iload_n 3 dr_cX17_feed_45 rfl ?_
    refine G_aload_n 0 dr_cX17_feed_46 rfl ?_
    have hm582051 : q581395 ∈ P581393 := RS_m hT582048 htq581395 (by decide)
    refine rk10_e (show rk_10 γ (F582047 q581395) from RS_o hT582048 htq581395) (fun q582053 q582054 p582055 p582056 p582057 p582058 p582059 p582060 p582061 p582062 p582063 p582064 p582065 p582066 p582067 p582068 p582069 he582052 hB582096 ht582070 ht582071 ht582072 ht582073 ht582074 ht582075 ht582076 ht582077 ht582078 ht582079 ht582080 ht582081 ht582082 ht582083 ht582084 ht582085 ht582086 ht582087 ht582088 ht582089 ht582090 ht582091 ht582092 ht582093 hB582097 => ?_)
    have ac582098 : (fI (F582047 q581395) 9).toInt = p582055.toInt := by rw [he582052]; rfl
    have bp582055 : gB p582055 0 1 := (hB582096.1)
    have ac582099 : (fI (F582047 q581395) 10).toInt = p582056.toInt := by rw [he582052]; rfl
    have bp582056 : gB p582056 0 1 := (hB582096.2.1)
    have ac582100 : (fI (F582047 q581395) 32).toInt = p582067.toInt := by rw [he582052]; rfl
    have bp582067 : gB p582067 0 8192 := (hB582096.2.2.2.2.2.2.2.1)
    have ac582101 : (fI (F582047 q581395) 30).toInt = p582066.toInt := by rw [he582052]; rfl
    have bp582066 : gB p582066 (-2147483648) 2147483647 := (gB_any p582066)
    have fq582102 : fI (F582047 q581395) 32 = p582067 := by rw [he582052]; rfl
    refine Gp_get 32 hm582051 he582052 dr_cX17_feed_47 (gk_X17 D I) (Nat.le_of_ble_eq_true rfl) wr_7_106 rfl ?_
    refine G_bipush 8 dr_cX17_feed_50 (by decide +kernel) ?_
    refine G_iadd dr_cX17_feed_52 (G_nam fun z582103 hz582103 => ?_)
    have ez582103 : z582103.toInt = p582067.toInt + 8 := by rw [gI_add hz582103 bp582067 (gBl (show Int32.toInt 8 = 8 by decide)) (by decide) (by decide), show Int32.toInt 8 = 8 from by decide]
    have bz582103 : gB z582103 8 8200 := gB_add (gI_add hz582103 bp582067 (gBl (show Int32.toInt 8 = 8 by decide)) (by decide) (by decide)) bp582067 (gBl (show Int32.toInt 8 = 8 by decide)) (by decide) (by decide)
    have ac582104 : (fI (F582047 q581395) 9).toInt = p582055.toInt := by rw [he582052]; rfl
    have ac582105 : (fI (F582047 q581395) 10).toInt = p582056.toInt := by rw [he582052]; rfl
    have ac582106 : (fI (F582047 q581395) 32).toInt = p582067.toInt := by rw [he582052]; rfl
    have ac582107 : (fI (F582047 q581395) 30).toInt = p582066.toInt := by rw [he582052]; rfl
    refine Gw_callV (As := [.int p581398, .int z582103]) (gV_ok D I) (ct_581469_SpillForgeModel_word l hl0 D I γ el P581393 F582047 q581395 p581398 z582103 hT582048 htq581395 ⟨by omega, by omega⟩) dr_cX17_feed_53 ⟨wr_7_195, wr_1_14, wr_7_198, by decide, rfl, (Nat.le_of_ble_eq_true rfl), (Nat.le_of_ble_eq_true rfl)⟩ wr_7_197 wr_p_74 hm582051 he582052 rfl (show 0 + 0 ≤ 0 by first | omega | decide) (show 0 + 0 ≤ 0 by first | omega | decide) (Nat.le_of_ble_eq_true rfl) (fun r582111 w582112 dc582108 ds582109 hp582110 => ?_) (fun _ _ _ _ _ z => z.elim)
    obtain ⟨F582118, rfl, rfl, hT582119, hs582120, hdc, hds, x582113, x582114, x582115, x582116, ht582117⟩ := hp582110
    have hs582121 : rStr γ [99] F581394 F582118 := rStr_tr hs582050 hs582120
    change G _ _ _ _ _ _ _ _ _ _ _
    refine G_widen (cs' := 0) (sl' := 0) (by omega) (by omega) ?_
    refine G_aload_n 0 dr_cX17_feed_56 rfl ?_
    refine G_iload 4 dr_cX17_feed_57 rfl ?_
    refine G_aload_n 0 dr_cX17_feed_59 rfl ?_
    have hm582122 : q581395 ∈ P581393 := RS_m hT582119 htq581395 (by decide)
    refine rk10_e (show rk_10 γ (F582118 q581395) from RS_o hT582119 htq581395) (fun q582124 q582125 p582126 p582127 p582128 p582129 p582130 p582131 p582132 p582133 p582134 p582135 p582136 p582137 p582138 p582139 p582140 he582123 hB582167 ht582141 ht582142 ht582143 ht582144 ht582145 ht582146 ht582147 ht582148 ht582149 ht582150 ht582151 ht582152 ht582153 ht582154 ht582155 ht582156 ht582157 ht582158 ht582159 ht582160 ht582161 ht582162 ht582163 ht582164 hB582168 => ?_)
    have ac582169 : (fI (F582118 q581395) 9).toInt = p582126.toInt := by rw [he582123]; rfl
    have bp582126 : gB p582126 0 1 := (hB582167.1)
    have ac582170 : (fI (F582118 q581395) 10).toInt = p582127.toInt := by rw [he582123]; rfl
    have bp582127 : gB p582127 0 1 := (hB582167.2.1)
    have ac582171 : (fI (F582118 q581395) 32).toInt = p582138.toInt := by rw [he582123]; rfl
    have bp582138 : gB p582138 0 8192 := (hB582167.2.2.2.2.2.2.2.1)
    have ac582172 : (fI (F582118 q581395) 30).toInt = p582137.toInt := by rw [he582123]; rfl
    have bp582137 : gB p582137 (-2147483648) 2147483647 := (gB_any p582137)
    have fq582173 : fI (F582118 q581395) 32 = p582138 := by rw [he582123]; rfl
    refine Gp_get 32 hm582122 he582123 dr_cX17_feed_60 (gk_X17 D I) (Nat.le_of_ble_eq_true rfl) wr_7_106 rfl ?_
    refine G_bipush 12 dr_cX17_feed_63 (by decide +kernel) ?_
    refine G_iadd dr_cX17_feed_65 (G_nam fun z582174 hz582174 => ?_)
    have ez582174 : z582174.toInt = p582138.toInt + 12 := by rw [gI_add hz582174 bp582138 (gBl (show Int32.toInt 12 = 12 by decide)) (by decide) (by decide), show Int32.toInt 12 = 12 from by decide]
    have bz582174 : gB z582174 12 8204 := gB_add (gI_add hz582174 bp582138 (gBl (show Int32.toInt 12 = 12 by decide)) (by decide) (by decide)) bp582138 (gBl (show Int32.toInt 12 = 12 by decide)) (by decide) (by decide)
    have ac582175 : (fI (F582118 q581395) 9).toInt = p582126.toInt := by rw [he582123]; rfl
    have ac582176 : (fI (F582118 q581395) 10).toInt = p582127.toInt := by rw [he582123]; rfl
    have ac582177 : (fI (F582118 q581395) 32).toInt = p582138.toInt := by rw [he582123]; rfl
    have ac582178 : (fI (F582118 q581395) 30).toInt = p582137.toInt := by rw [he582123]; rfl
    refine Gw_callV (As := [.int p581399, .int z582174]) (gV_ok D I) (ct_581469_SpillForgeModel_word l hl0 D I γ el P581393 F582118 q581395 p581399 z582174 hT582119 htq581395 ⟨by omega, by omega⟩) dr_cX17_feed_66 ⟨wr_7_195, wr_1_14, wr_7_198, by decide, rfl, (Nat.le_of_ble_eq_true rfl), (Nat.le_of_ble_eq_true rfl)⟩ wr_7_197 wr_p_74 hm582122 he582123 rfl (show 0 + 0 ≤ 0 by first | omega | decide) (show 0 + 0 ≤ 0 by first | omega | decide) (Nat.le_of_ble_eq_true rfl) (fun r582182 w582183 dc582179 ds582180 hp582181 => ?_) (fun _ _ _ _ _ z => z.elim)
    obtain ⟨F582189, rfl, rfl, hT582190, hs582191, hdc, hds, x582184, x582185, x582186, x582187, ht582188⟩ := hp582181
    have hs582192 : rStr γ [99] F581394 F582189 := rStr_tr hs582121 hs582191
    change G _ _ _ _ _ _ _ _ _ _ _
    refine G_widen (cs' := 0) (sl' := 0) (by omega) (by omega) ?_
    refine G_aload_n 0 dr_cX17_feed_69 rfl ?_
    refine G_iload 5 dr_cX17_feed_70 rfl ?_
    refine G_aload_n 0 dr_cX17_feed_72 rfl ?_
    have hm582193 : q581395 ∈ P581393 := RS_m hT582190 htq581395 (by decide)
    refine rk10_e (show rk_10 γ (F582189 q581395) from RS_o hT582190 htq581395) (fun q582195 q582196 p582197 p582198 p582199 p582200 p582201 p582202 p582203 p582204 p582205 p582206 p582207 p582208 p582209 p582210 p582211 he582194 hB582238 ht582212 ht582213 ht582214 ht582215 ht582216 ht582217 ht582218 ht582219 ht582220 ht582221 ht582222 ht582223 ht582224 ht582225 ht582226 ht582227 ht582228 ht582229 ht582230 ht582231 ht582232 ht582233 ht582234 ht582235 hB582239 => ?_)
    have ac582240 : (fI (F582189 q581395) 9).toInt = p582197.toInt := by rw [he582194]; rfl
    have bp582197 : gB p582197 0 1 := (hB582238.1)
    have ac582241 : (fI (F582189 q581395) 10).toInt = p582198.toInt := by rw [he582194]; rfl
    have bp582198 : gB p582198 0 1 := (hB582238.2.1)
    have ac582242 : (fI (F582189 q581395) 32).toInt = p582209.toInt := by rw [he582194]; rfl
    have bp582209 : gB p582209 0 8192 := (hB582238.2.2.2.2.2.2.2.1)
    have ac582243 : (fI (F582189 q581395) 30).toInt = p582208.toInt := by rw [he582194]; rfl
    have bp582208 : gB p582208 (-2147483648) 2147483647 := (gB_any p582208)
    have fq582244 : fI (F582189 q581395) 32 = p582209 := by rw [he582194]; rfl
    refine Gp_get 32 hm582193 he582194 dr_cX17_feed_73 (gk_X17 D I) (Nat.le_of_ble_eq_true rfl) wr_7_106 rfl ?_
    refine G_bipush 16 dr_cX17_feed_76 (by decide +kernel) ?_
    refine G_iadd dr_cX17_feed_78 (G_nam fun z582245 hz582245 => ?_)
    have ez582245 : z582245.toInt = p582209.toInt + 16 := by rw [gI_add hz582245 bp582209 (gBl (show Int32.toInt 16 = 16 by decide)) (by decide) (by decide), show Int32.toInt 16 = 16 from by decide]
    have bz582245 : gB z582245 16 8208 := gB_add (gI_add hz582245 bp582209 (gBl (show Int32.toInt 16 = 16 by decide)) (by decide) (by decide)) bp582209 (gBl (show Int32.toInt 16 = 16 by decide)) (by decide) (by decide)
    have ac582246 : (fI (F582189 q581395) 9).toInt = p582197.toInt := by rw [he582194]; rfl
    have ac582247 : (fI (F582189 q581395) 10).toInt = p582198.toInt := by rw [he582194]; rfl
    have ac582248 : (fI (F582189 q581395) 32).toInt = p582209.toInt := by rw [he582194]; rfl
    have ac582249 : (fI (F582189 q581395) 30).toInt = p582208.toInt := by rw [he582194]; rfl
    refine Gw_callV (As := [.int p581400, .int z582245]) (gV_ok D I) (ct_581469_SpillForgeModel_word l hl0 D I γ el P581393 F582189 q581395 p581400 z582245 hT582190 htq581395 ⟨by omega, by omega⟩) dr_cX17_feed_79 ⟨wr_7_195, wr_1_14, wr_7_198, by decide, rfl, (Nat.le_of_ble_eq_true rfl), (Nat.le_of_ble_eq_true rfl)⟩ wr_7_197 wr_p_74 hm582193 he582194 rfl (show 0 + 0 ≤ 0 by first | omega | decide) (show 0 + 0 ≤ 0 by first | omega | decide) (Nat.le_of_ble_eq_true rfl) (fun r582253 w582254 dc582250 ds582251 hp582252 => ?_) (fun _ _ _ _ _ z => z.elim)
    obtain ⟨F582260, rfl, rfl, hT582261, hs582262, hdc, hds, x582255, x582256, x582257, x582258, ht582259⟩ := hp582252
    have hs582263 : rStr γ [99] F581394 F582260 := rStr_tr hs582192 hs582262
    change G _ _ _ _ _ _ _ _ _ _ _
    refine G_widen (cs' := 0) (sl' := 0) (by omega) (by omega) ?_
    refine G_aload_n 0 dr_cX17_feed_82 rfl ?_
    refine G_dup dr_cX17_feed_83 rfl ?_
    have hm582264 : q581395 ∈ P581393 := RS_m hT582261 htq581395 (by decide)
    refine rk10_e (show rk_10 γ (F582260 q581395) from RS_o hT582261 htq581395) (fun q582266 q582267 p582268 p582269 p582270 p582271 p582272 p582273 p582274 p582275 p582276 p582277 p582278 p582279 p582280 p582281 p582282 he582265 hB582309 ht582283 ht582284 ht582285 ht582286 ht582287 ht582288 ht582289 ht582290 ht582291 ht582292 ht582293 ht582294 ht582295 ht582296 ht582297 ht582298 ht582299 ht582300 ht582301 ht582302 ht582303 ht582304 ht582305 ht582306 hB582310 => ?_)
    have ac582311 : (fI (F582260 q581395) 9).toInt = p582268.toInt := by rw [he582265]; rfl
    have bp582268 : gB p582268 0 1 := (hB582309.1)
    have ac582312 : (fI (F582260 q581395) 10).toInt = p582269.toInt := by rw [he582265]; rfl
    have bp582269 : gB p582269 0 1 := (hB582309.2.1)
    have ac582313 : (fI (F582260 q581395) 32).toInt = p582280.toInt := by rw [he582265]; rfl
    have bp582280 : gB p582280 0 8192 := (hB582309.2.2.2.2.2.2.2.1)
    have ac582314 : (fI (F582260 q581395) 30).toInt = p582279.toInt := by rw [he582265]; rfl
    have bp582279 : gB p582279 (-2147483648) 2147483647 := (gB_any p582279)
    have fq582315 : fI (F582260 q581395) 32 = p582280 := by rw [he582265]; rfl
    refine Gp_get 32 hm582264 he582265 dr_cX17_feed_84 (gk_X17 D I) (Nat.le_of_ble_eq_true rfl) wr_7_106 rfl ?_
    refine G_bipush 20 dr_cX17_feed_87 (by decide +kernel) ?_
    refine G_iadd dr_cX17_feed_89 (G_nam fun z582316 hz582316 => ?_)
    have ez582316 : z582316.toInt = p582280.toInt + 20 := by rw [gI_add hz582316 bp582280 (gBl (show Int32.toInt 20 = 20 by decide)) (by decide) (by decide), show Int32.toInt 20 = 20 from by decide]
    have bz582316 : gB z582316 20 8212 := gB_add (gI_add hz582316 bp582280 (gBl (show Int32.toInt 20 = 20 by decide)) (by decide) (by decide)) bp582280 (gBl (show Int32.toInt 20 = 20 by decide)) (by decide) (by decide)
    refine Gp_put 32 hm582264 he582265 dr_cX17_feed_90 (gk_X17 D I) (Nat.le_of_ble_eq_true rfl) wr_7_106 rfl rfl rfl (Nat.le_of_ble_eq_true rfl) (fun F582317 e582318 n582319 => ?_)
    have he582320 : F582317 q581395 = .inr (22, [.ref (γ 9 0), .ref (γ 9 1), .ref (γ 9 2), .ref (γ 9 3), .ref (γ 9 4), .ref (γ 9 5), .ref (γ 9 6), .ref (γ 9 7), .ref (γ 9 8), .int p582268, .int p582269, .int p582270, .int p582271, .int p582272, .int p582273, .ref (γ 9 15), .ref (γ 9 16), .ref (γ 9 17), .ref (γ 9 18), .ref (γ 9 19), .ref (γ 9 20), .ref (γ 9 21), .ref (γ 9 22), .int p582274, .int p582275, .int p582276, .int p582277, .int p582278, .ref q582266, .ref (γ 9 29), .int p582279, .ref (γ 9 31), .int z582316, .int p582281, .int p582282, .ref q582267]) := e582318
    have hs582321 : rStr γ [99] F581394 F582317 := rStr_put hs582263 n582319 htq581395 (by decide)
    have fq582322 : F582317 q581395 = cF (F582260 q581395) 32 (.int z582316) := by rw [he582320, he582265]; rfl
    refine G_aload_n 0 dr_cX17_feed_93 rfl ?_
    have fq582323 : fI (F582317 q581395) 32 = z582316 := by rw [he582320]; rfl
    refine Gp_get 32 hm582264 he582320 dr_cX17_feed_94 (gk_X17 D I) (Nat.le_of_ble_eq_true rfl) wr_7_106 rfl ?_
    have hT582324 : RS D I P581393 F582317 γ el := RS_set hT582261 n582319 htq581395 (by decide) ⟨q582266, q582267, p582268, p582269, p582270, p582271, p582272, p582273, p582274, p582275, p582276, p582277, p582278, p582279, z582316, p582281, p582282, he582320, ⟨bp582268, bp582269, (hB582309.2.2.1), (hB582309.2.2.2.1), (hB582309.2.2.2.2.1), (hB582309.2.2.2.2.2.1), (hB582309.2.2.2.2.2.2.1), ⟨by omega, by omega⟩, (hB582309.2.2.2.2.2.2.2.2)⟩, ht582283, ht582284, ht582285, ht582286, ht582287, ht582288, ht582289, ht582290, ht582291, ht582292, ht582293, ht582294, ht582295, ht582296, ht582297, ht582298, ht582299, ht582300, ht582301, ht582302, ht582303, ht582304, ht582305, ht582306, hB582310⟩
    have ac582325 : (fI (F582317 q581395) 9).toInt = p582268.toInt := by rw [he582320]; rfl
    have ac582326 : (fI (F582317 q581395) 10).toInt = p582269.toInt := by rw [he582320]; rfl
    have ac582327 : (fI (F582317 q581395) 32).toInt = z582316.toInt := by rw [he582320]; rfl
    have ac582328 : (fI (F582317 q581395) 30).toInt = p582279.toInt := by rw [he582320]; rfl
    exact G_iretA dr_cX17_feed_97 rfl (Nat.le_of_ble_eq_true rfl) (Nat.le_of_ble_eq_true rfl) ⟨F582317, z582316, rfl, rfl, hT582324, hs582321, (Nat.le_of_ble_eq_true rfl), (Nat.le_of_ble_eq_true rfl), (gB_w bz582316 (by decide) (by decide)), (by omega), (by omega), (by omega), (fun R c1 c2 => c1 F581453 p581418 z581460 F581976 p581996 z582032 F582047 p582067 z582103 F582118 p582138 z582174 F582189 p582209 z582245 F582260 p582280 z582316 F582317 n581455 fq581458 fq581459 ez581460 r581462 hT581977 hs581978 x581971 x581972 x581973 x581974 ht581975 fq582031 ez582032 hT582048 hs582049 x582042 x582043 x582044 x582045 ht582046 fq582102 ez582103 hT582119 hs582120 x582113 x582114 x582115 x582116 ht582117 fq582173 ez582174 hT582190 hs582191 x582184 x582185 x582186 x582187 ht582188 fq582244 ez582245 hT582261 hs582262 x582255 x582256 x582257 x582258 ht582259 fq582315 ez582316 n582319 fq582322 fq582323)⟩
  · have r582329 : 8192 < z581460.toInt := gj_nle hc581461 (show Int32.toInt 8192 = 8192 by decide)
    have bz581460' : gB z581460 8193 8212 := ⟨by omega, by omega⟩
    refine G_aload_n 0 dr_cX17_feed_18 rfl ?_
    refine G_iconst 1 dr_cX17_feed_19 (by decide +kernel) ?_
    have hT582330 : RS D I P581393 F581453 γ el := RS_set hT n581455 htq581395 (by decide) ⟨q581404, q581405, p581406, p581407, p581408, p581409, p581410, p581411, p581412, p581413, p581414, p581415, p581416, 0, p581418, p581419, p581420, he581456, ⟨bp581406, bp581407, (hB581447.2.2.1), (hB581447.2.2.2.1), (hB581447.2.2.2.2.1), (hB581447.2.2.2.2.2.1), (hB581447.2.2.2.2.2.2.1), bp581418, (hB581447.2.2.2.2.2.2.2.2)⟩, ht581421, ht581422, ht581423, ht581424, ht581425, ht581426, ht581427, ht581428, ht581429, ht581430, ht581431, ht581432, ht581433, ht581434, ht581435, ht581436, ht581437, ht581438, ht581439, ht581440, ht581441, ht581442, ht581443, ht581444, hB581448⟩
    have ac582331 : (fI (F581453 q581395) 9).toInt = p581406.toInt := by rw [he581456]; rfl
    have ac582332 : (fI (F581453 q581395) 10).toInt = p581407.toInt := by rw [he581456]; rfl
    have ac582333 : (fI (F581453 q581395) 32).toInt = p581418.toInt := by rw [he581456]; rfl
    have ac582334 : (fI (F581453 q581395) 30).toInt = 0 := by rw [he581456]; show Int32.toInt 0 = 0; decide
    refine Gw_callV (As := [.int 1]) (gV_ok D I) (ct_580980_SpillForgeModel_no l hl0 D I γ el P581393 F581453 q581395 1 hT582330 htq581395) dr_cX17_feed_20 ⟨wr_7_191, wr_1_14, wr_7_194, by decide, rfl, (Nat.le_of_ble_eq_true rfl), (Nat.le_of_ble_eq_true rfl)⟩ wr_7_193 wr_p_73 hm581402 he581456 rfl (show 0 + 0 ≤ 0 by first | omega | decide) (show 0 + 0 ≤ 0 by first | omega | decide) (Nat.le_of_ble_eq_true rfl) (fun r582338 w582339 dc582335 ds582336 hp582337 => ?_) (fun _ _ _ _ _ z => z.elim)
    obtain ⟨F582345, rfl, rfl, hT582346, hs582347, hdc, hds, x582340, x582341, x582342, x582343, ht582344⟩ := hp582337
    have hs582348 : rStr γ [99] F581394 F582345 := rStr_tr hs581457 (rStr_w hs582347 (by decide))
    rw [show Int32.toInt 1 = 1 from by decide] at x582343
    change G _ _ _ _ _ _ _ (.int 0 :: _) _ _ _
    refine G_widen (cs' := 0) (sl' := 0) (by omega) (by omega) ?_
    have hm582349 : q581395 ∈ P581393 := RS_m hT582346 htq581395 (by decide)
    refine rk10_e (show rk_10 γ (F582345 q581395) from RS_o hT582346 htq581395) (fun q582351 q582352 p582353 p582354 p582355 p582356 p582357 p582358 p582359 p582360 p582361 p582362 p582363 p582364 p582365 p582366 p582367 he582350 hB582394 ht582368 ht582369 ht582370 ht582371 ht582372 ht582373 ht582374 ht582375 ht582376 ht582377 ht582378 ht582379 ht582380 ht582381 ht582382 ht582383 ht582384 ht582385 ht582386 ht582387 ht582388 ht582389 ht582390 ht582391 hB582395 => ?_)
    have ac582396 : (fI (F582345 q581395) 9).toInt = p582353.toInt := by rw [he582350]; rfl
    have bp582353 : gB p582353 0 1 := (hB582394.1)
    have ac582397 : (fI (F582345 q581395) 10).toInt = p582354.toInt := by rw [he582350]; rfl
    have bp582354 : gB p582354 0 1 := (hB582394.2.1)
    have ac582398 : (fI (F582345 q581395) 32).toInt = p582365.toInt := by rw [he582350]; rfl
    have bp582365 : gB p582365 0 8192 := (hB582394.2.2.2.2.2.2.2.1)
    have ac582399 : (fI (F582345 q581395) 30).toInt = p582364.toInt := by rw [he582350]; rfl
    have bp582364 : gB p582364 (-2147483648) 2147483647 := (gB_any p582364)
    have ac582400 : (fI (F582345 q581395) 9).toInt = p582353.toInt := by rw [he582350]; rfl
    have ac582401 : (fI (F582345 q581395) 10).toInt = p582354.toInt := by rw [he582350]; rfl
    have ac582402 : (fI (F582345 q581395) 32).toInt = p582365.toInt := by rw [he582350]; rfl
    have ac582403 : (fI (F582345 q581395) 30).toInt = p582364.toInt := by rw [he582350]; rfl
    exact G_iretA dr_cX17_feed_23 rfl (Nat.le_of_ble_eq_true rfl) (Nat.le_of_ble_eq_true rfl) ⟨F582345, 0, rfl, rfl, hT582346, hs582348, (Nat.le_of_ble_eq_true rfl), (Nat.le_of_ble_eq_true rfl), (gB_w (gBl (show Int32.toInt 0 = 0 by decide)) (by decide) (by decide)), (by have qa0 : Int32.toInt 0 = 0 := (by decide); omega), (by have qa0 : Int32.toInt 0 = 0 := (by decide); omega), (by have qa0 : Int32.toInt 0 = 0 := (by decide); omega), (fun R c1 c2 => c2 F581453 p581418 z581460 F582345 n581455 fq581458 fq581459 ez581460 r582329 hT582346 hs582347 x582340 x582341 x582342 x582343 ht582344)⟩
/- tr_RModel_end: result, F -/
def tr_RModel_end (D : va_G) (I : FieldType → ClassId) (γ el : Nat → Nat → Nat) (P : List Nat) (F : Nat → va_E) (q0 : Nat) (a1 : Int32) (o1 : Int32) (o2 : Nat → va_E) : Prop := ∀ R : (Int32) → (Nat → va_E) → Prop,
  (∀ (x1 : Nat → va_E) (x2 : Nat → va_E), (∀ b, b ≠ q0 → x1 b = F b) → x1 q0 = cF (F q0) 30 (.int 0) → a1.toInt < 0 → RS D I P x2 γ el → rStr γ [] x1 x2 → (fI (x2 q0) 9).toInt = (fI (x1 q0) 9).toInt → (fI (x2 q0) 10).toInt = (fI (x1 q0) 10).toInt → (fI (x2 q0) 32).toInt = (fI (x1 q0) 32).toInt → (fI (x2 q0) 30).toInt = 1 → tr_RModel_no D I γ el x1 q0 (1 : Int32) x2 → R (0 : Int32) x2) →
  (∀ (x1 : Nat → va_E) (x2 : Int32) (x3 : Nat → va_E), (∀ b, b ≠ q0 → x1 b = F b) → x1 q0 = cF (F q0) 30 (.int 0) → 0 ≤ a1.toInt → fI (x1 q0) 32 = x2 → a1.toInt ≤ x2.toInt → (∀ b, b ≠ q0 → x3 b = x1 b) → x3 q0 = cF (x1 q0) 32 (.int a1) → R a1 x3) →
  (∀ (x1 : Nat → va_E) (x2 : Int32) (x3 : Nat → va_E), (∀ b, b ≠ q0 → x1 b = F b) → x1 q0 = cF (F q0) 30 (.int 0) → 0 ≤ a1.toInt → fI (x1 q0) 32 = x2 → x2.toInt < a1.toInt → RS D I P x3 γ el → rStr γ [] x1 x3 → (fI (x3 q0) 9).toInt = (fI (x1 q0) 9).toInt → (fI (x3 q0) 10).toInt = (fI (x1 q0) 10).toInt → (fI (x3 q0) 32).toInt = (fI (x1 q0) 32).toInt → (fI (x3 q0) 30).toInt = 1 → tr_RModel_no D I γ el x1 q0 (1 : Int32) x3 → R (0 : Int32) x3) →
  R o1 o2
abbrev ky_582410_SpillForgeModel_end : gKey := (cX17_end, 2, "SpillForgeModel", (some FieldType.int), [], "end", fun _ _ => True)
def pt_582410_SpillForgeModel_end (D : va_G) (I : FieldType → ClassId) (γ el : Nat → Nat → Nat) (P582406 : List Nat) (F582407 : Nat → va_E) (q582408 : Nat) (p582409 : Int32) : Option Value → va_W → Nat → Nat → Prop := fun r w dc ds => ∃ (F582636 : Nat → va_E) (o582635 : Int32), r = some (.int o582635) ∧ w = va_pl P582406 F582636 ∧ RS D I P582406 F582636 γ el ∧ rStr γ [] F582407 F582636 ∧ dc ≤ 0 ∧ ds ≤ 0 ∧ gB o582635 0 8192 ∧ ((0 ≤ p582409.toInt ∧ p582409.toInt ≤ (fI (F582407 q582408) 32).toInt ∧ o582635.toInt = p582409.toInt ∧ (fI (F582636 q582408) 32).toInt = p582409.toInt ∧ (fI (F582636 q582408) 30).toInt = 0) ∨ ((p582409.toInt < 0 ∨ (fI (F582407 q582408) 32).toInt < p582409.toInt) ∧ (fI (F582636 q582408) 30).toInt = 1 ∧ (fI (F582636 q582408) 32).toInt = (fI (F582407 q582408) 32).toInt)) ∧ (fI (F582636 q582408) 9).toInt = (fI (F582407 q582408) 9).toInt ∧ (fI (F582636 q582408) 10).toInt = (fI (F582407 q582408) 10).toInt ∧ tr_RModel_end D I γ el P582406 F582407 q582408 p582409 o582635 F582636
set_option maxRecDepth 100000 in
set_option maxHeartbeats 4000000 in
theorem ct_582410_SpillForgeModel_end (l : Launch) (hl0 : l.stackTraces = false) (D : va_G) (I : FieldType → ClassId) (γ el : Nat → Nat → Nat) (P582406 : List Nat) (F582407 : Nat → va_E) (q582408 : Nat) (p582409 : Int32) (hT : RS D I P582406 F582407 γ el) (htq582408 : rKd γ q582408 10) : CtA (gV D I) l yX17_end cX17_end 2 (some FieldType.int) 1 21 0 0 [.ref q582408, .int p582409] (va_pl P582406 F582407) (pt_582410_SpillForgeModel_end D I γ el P582406 F582407 q582408 p582409) gNA := by
  refine CtA_of hl0 (by decide) (Nat.le_of_ble_eq_true rfl) ?_
  have bp582409 := gB_any p582409
  have hm582411 : q582408 ∈ P582406 := RS_m hT htq582408 (by decide)
  refine rk10_e (show rk_10 γ (F582407 q582408) from RS_o hT htq582408) (fun q582413 q582414 p582415 p582416 p582417 p582418 p582419 p582420 p582421 p582422 p582423 p582424 p582425 p582426 p582427 p582428 p582429 he582412 hB582456 ht582430 ht582431 ht582432 ht582433 ht582434 ht582435 ht582436 ht582437 ht582438 ht582439 ht582440 ht582441 ht582442 ht582443 ht582444 ht582445 ht582446 ht582447 ht582448 ht582449 ht582450 ht582451 ht582452 ht582453 hB582457 => ?_)
  have ac582458 : (fI (F582407 q582408) 9).toInt = p582415.toInt := by rw [he582412]; rfl
  have bp582415 : gB p582415 0 1 := (hB582456.1)
  have ac582459 : (fI (F582407 q582408) 10).toInt = p582416.toInt := by rw [he582412]; rfl
  have bp582416 : gB p582416 0 1 := (hB582456.2.1)
  have ac582460 : (fI (F582407 q582408) 32).toInt = p582427.toInt := by rw [he582412]; rfl
  have bp582427 : gB p582427 0 8192 := (hB582456.2.2.2.2.2.2.2.1)
  have ac582461 : (fI (F582407 q582408) 30).toInt = p582426.toInt := by rw [he582412]; rfl
  have bp582426 : gB p582426 (-2147483648) 2147483647 := (gB_any p582426)
  refine G_aload_n 0 dr_cX17_end_0 rfl ?_
  refine G_iconst 0 dr_cX17_end_1 (by decide +kernel) ?_
  refine Gp_put 30 hm582411 he582412 dr_cX17_end_2 (gk_X17 D I) (Nat.le_of_ble_eq_true rfl) wr_7_104 rfl rfl rfl (Nat.le_of_ble_eq_true rfl) (fun F582462 e582463 n582464 => ?_)
  have he582465 : F582462 q582408 = .inr (22, [.ref (γ 9 0), .ref (γ 9 1), .ref (γ 9 2), .ref (γ 9 3), .ref (γ 9 4), .ref (γ 9 5), .ref (γ 9 6), .ref (γ 9 7), .ref (γ 9 8), .int p582415, .int p582416, .int p582417, .int p582418, .int p582419, .int p582420, .ref (γ 9 15), .ref (γ 9 16), .ref (γ 9 17), .ref (γ 9 18), .ref (γ 9 19), .ref (γ 9 20), .ref (γ 9 21), .ref (γ 9 22), .int p582421, .int p582422, .int p582423, .int p582424, .int p582425, .ref q582413, .ref (γ 9 29), .int 0, .ref (γ 9 31), .int p582427, .int p582428, .int p582429, .ref q582414]) := e582463
  have hs582466 : rStr γ [] F582407 F582462 := rStr_put (rStr_rf (γ := γ) (W := []) (F := F582407)) n582464 htq582408 (by decide)
  have fq582467 : F582462 q582408 = cF (F582407 q582408) 30 (.int 0) := by rw [he582465, he582412]; rfl
  refine G_iload_n 1 dr_cX17_end_5 rfl ?_
  refine G_if_lt 17 dr_cX17_end_6 (by decide +kernel) (fun hc582468 => ?_) (fun hc582468 => ?_)
  · have r582469 : p582409.toInt < 0 := gj_lt hc582468 (show Int32.toInt 0 = 0 by decide)
    have bp582409' : gB p582409 (-2147483648) (-1) := ⟨by omega, by omega⟩
    refine G_aload_n 0 dr_cX17_end_17 rfl ?_
    refine G_iconst 1 dr_cX17_end_18 (by decide +kernel) ?_
    have hT582470 : RS D I P582406 F582462 γ el := RS_set hT n582464 htq582408 (by decide) ⟨q582413, q582414, p582415, p582416, p582417, p582418, p582419, p582420, p582421, p582422, p582423, p582424, p582425, 0, p582427, p582428, p582429, he582465, ⟨bp582415, bp582416, (hB582456.2.2.1), (hB582456.2.2.2.1), (hB582456.2.2.2.2.1), (hB582456.2.2.2.2.2.1), (hB582456.2.2.2.2.2.2.1), bp582427, (hB582456.2.2.2.2.2.2.2.2)⟩, ht582430, ht582431, ht582432, ht582433, ht582434, ht582435, ht582436, ht582437, ht582438, ht582439, ht582440, ht582441, ht582442, ht582443, ht582444, ht582445, ht582446, ht582447, ht582448, ht582449, ht582450, ht582451, ht582452, ht582453, hB582457⟩
    have ac582471 : (fI (F582462 q582408) 9).toInt = p582415.toInt := by rw [he582465]; rfl
    have ac582472 : (fI (F582462 q582408) 10).toInt = p582416.toInt := by rw [he582465]; rfl
    have ac582473 : (fI (F582462 q582408) 32).toInt = p582427.toInt := by rw [he582465]; rfl
    have ac582474 : (fI (F582462 q582408) 30).toInt = 0 := by rw [he582465]; show Int32.toInt 0 = 0; decide
    refine Gw_callV (As := [.int 1]) (gV_ok D I) (ct_580980_SpillForgeModel_no l hl0 D I γ el P582406 F582462 q582408 1 hT582470 htq582408) dr_cX17_end_19 ⟨wr_7_191, wr_1_14, wr_7_194, by decide, rfl, (Nat.le_of_ble_eq_true rfl), (Nat.le_of_ble_eq_true rfl)⟩ wr_7_193 wr_p_73 hm582411 he582465 rfl (show 0 + 0 ≤ 0 by first | omega | decide) (show 0 + 0 ≤ 0 by first | omega | decide) (Nat.le_of_ble_eq_true rfl) (fun r582478 w582479 dc582475 ds582476 hp582477 => ?_) (fun _ _ _ _ _ z => z.elim)
    obtain ⟨F582485, rfl, rfl, hT582486, hs582487, hdc, hds, x582480, x582481, x582482, x582483, ht582484⟩ := hp582477
    have hs582488 : rStr γ [] F582407 F582485 := rStr_tr hs582466 hs582487
    rw [show Int32.toInt 1 = 1 from by decide] at x582483
    change G _ _ _ _ _ _ _ (.int 0 :: _) _ _ _
    refine G_widen (cs' := 0) (sl' := 0) (by omega) (by omega) ?_
    have hm582489 : q582408 ∈ P582406 := RS_m hT582486 htq582408 (by decide)
    refine rk10_e (show rk_10 γ (F582485 q582408) from RS_o hT582486 htq582408) (fun q582491 q582492 p582493 p582494 p582495 p582496 p582497 p582498 p582499 p582500 p582501 p582502 p582503 p582504 p582505 p582506 p582507 he582490 hB582534 ht582508 ht582509 ht582510 ht582511 ht582512 ht582513 ht582514 ht582515 ht582516 ht582517 ht582518 ht582519 ht582520 ht582521 ht582522 ht582523 ht582524 ht582525 ht582526 ht582527 ht582528 ht582529 ht582530 ht582531 hB582535 => ?_)
    have ac582536 : (fI (F582485 q582408) 9).toInt = p582493.toInt := by rw [he582490]; rfl
    have bp582493 : gB p582493 0 1 := (hB582534.1)
    have ac582537 : (fI (F582485 q582408) 10).toInt = p582494.toInt := by rw [he582490]; rfl
    have bp582494 : gB p582494 0 1 := (hB582534.2.1)
    have ac582538 : (fI (F582485 q582408) 32).toInt = p582505.toInt := by rw [he582490]; rfl
    have bp582505 : gB p582505 0 8192 := (hB582534.2.2.2.2.2.2.2.1)
    have ac582539 : (fI (F582485 q582408) 30).toInt = p582504.toInt := by rw [he582490]; rfl
    have bp582504 : gB p582504 (-2147483648) 2147483647 := (gB_any p582504)
    have ac582540 : (fI (F582485 q582408) 9).toInt = p582493.toInt := by rw [he582490]; rfl
    have ac582541 : (fI (F582485 q582408) 10).toInt = p582494.toInt := by rw [he582490]; rfl
    have ac582542 : (fI (F582485 q582408) 32).toInt = p582505.toInt := by rw [he582490]; rfl
    have ac582543 : (fI (F582485 q582408) 30).toInt = p582504.toInt := by rw [he582490]; rfl
    exact G_iretA dr_cX17_end_22 rfl (Nat.le_of_ble_eq_true rfl) (Nat.le_of_ble_eq_true rfl) ⟨F582485, 0, rfl, rfl, hT582486, hs582488, (Nat.le_of_ble_eq_true rfl), (Nat.le_of_ble_eq_true rfl), (gB_w (gBl (show Int32.toInt 0 = 0 by decide)) (by decide) (by decide)), (by have qa0 : Int32.toInt 0 = 0 := (by decide); omega), (by have qa0 : Int32.toInt 0 = 0 := (by decide); omega), (by have qa0 : Int32.toInt 0 = 0 := (by decide); omega), (fun R c1 c2 c3 => c1 F582462 F582485 n582464 fq582467 r582469 hT582486 hs582487 x582480 x582481 x582482 x582483 ht582484)⟩
  · have r582544 : 0 ≤ p582409.toInt := gj_nlt hc582468 (show Int32.toInt 0 = 0 by decide)
    have bp582409' : gB p582409 0 2147483647 := ⟨by omega, by omega⟩
    refine G_iload_n 1 dr_cX17_end_9 rfl ?_
    refine G_aload_n 0 dr_cX17_end_10 rfl ?_
    have fq582545 : fI (F582462 q582408) 32 = p582427 := by rw [he582465]; rfl
    refine Gp_get 32 hm582411 he582465 dr_cX17_end_11 (gk_X17 D I) (Nat.le_of_ble_eq_true rfl) wr_7_106 rfl ?_
    refine G_icmp_le 23 dr_cX17_end_14 (by decide +kernel) (fun hc582546 => ?_) (fun hc582546 => ?_)
    · have r582547 : p582409.toInt ≤ p582427.toInt := gC_le hc582546
      have bp582409'' : gB p582409 0 8192 := ⟨by omega, by omega⟩
      refine G_aload_n 0 dr_cX17_end_23 rfl ?_
      refine G_iload_n 1 dr_cX17_end_24 rfl ?_
      refine Gp_put 32 hm582411 he582465 dr_cX17_end_25 (gk_X17 D I) (Nat.le_of_ble_eq_true rfl) wr_7_106 rfl rfl rfl (Nat.le_of_ble_eq_true rfl) (fun F582548 e582549 n582550 => ?_)
      have he582551 : F582548 q582408 = .inr (22, [.ref (γ 9 0), .ref (γ 9 1), .ref (γ 9 2), .ref (γ 9 3), .ref (γ 9 4), .ref (γ 9 5), .ref (γ 9 6), .ref (γ 9 7), .ref (γ 9 8), .int p582415, .int p582416, .int p582417, .int p582418, .int p582419, .int p582420, .ref (γ 9 15), .ref (γ 9 16), .ref (γ 9 17), .ref (γ 9 18), .ref (γ 9 19), .ref (γ 9 20), .ref (γ 9 21), .ref (γ 9 22), .int p582421, .int p582422, .int p582423, .int p582424, .int p582425, .ref q582413, .ref (γ 9 29), .int 0, .ref (γ 9 31), .int p582409, .int p582428, .int p582429, .ref q582414]) := e582549
      have hs582552 : rStr γ [] F582407 F582548 := rStr_put hs582466 n582550 htq582408 (by decide)
      have n582553 : ∀ b, b ≠ q582408 → F582548 b = F582407 b := fun b hb => (n582550 b hb).trans (n582464 b hb)
      have fq582554 : F582548 q582408 = cF (F582462 q582408) 32 (.int p582409) := by rw [he582551, he582465]; rfl
      refine G_iload_n 1 dr_cX17_end_28 rfl ?_
      have hT582555 : RS D I P582406 F582548 γ el := RS_set hT n582553 htq582408 (by decide) ⟨q582413, q582414, p582415, p582416, p582417, p582418, p582419, p582420, p582421, p582422, p582423, p582424, p582425, 0, p582409, p582428, p582429, he582551, ⟨bp582415, bp582416, (hB582456.2.2.1), (hB582456.2.2.2.1), (hB582456.2.2.2.2.1), (hB582456.2.2.2.2.2.1), (hB582456.2.2.2.2.2.2.1), bp582409'', (hB582456.2.2.2.2.2.2.2.2)⟩, ht582430, ht582431, ht582432, ht582433, ht582434, ht582435, ht582436, ht582437, ht582438, ht582439, ht582440, ht582441, ht582442, ht582443, ht582444, ht582445, ht582446, ht582447, ht582448, ht582449, ht582450, ht582451, ht582452, ht582453, hB582457⟩
      have ac582556 : (fI (F582548 q582408) 9).toInt = p582415.toInt := by rw [he582551]; rfl
      have ac582557 : (fI (F582548 q582408) 10).toInt = p582416.toInt := by rw [he582551]; rfl
      have ac582558 : (fI (F582548 q582408) 32).toInt = p582409.toInt := by rw [he582551]; rfl
      have ac582559 : (fI (F582548 q582408) 30).toInt = 0 := by rw [he582551]; show Int32.toInt 0 = 0; decide
      exact G_iretA dr_cX17_end_29 rfl (Nat.le_of_ble_eq_true rfl) (Nat.le_of_ble_eq_true rfl) ⟨F582548, p582409, rfl, rfl, hT582555, hs582552, (Nat.le_of_ble_eq_true rfl), (Nat.le_of_ble_eq_true rfl), bp582409'', (by omega), (by omega), (by omega), (fun R c1 c2 c3 => c2 F582462 p582427 F582548 n582464 fq582467 r582544 fq582545 r582547 n582550 fq582554)⟩
    · have r582560 : p582427.toInt < p582409.toInt := gC_nle hc582546
      have bp582409'' : gB p582409 1 2147483647 := ⟨by omega, by omega⟩
      refine G_aload_n 0 dr_cX17_end_17 rfl ?_
      refine G_iconst 1 dr_cX17_end_18 (by decide +kernel) ?_
      have hT582561 : RS D I P582406 F582462 γ el := RS_set hT n582464 htq582408 (by decide) ⟨q582413, q582414, p582415, p582416, p582417, p582418, p582419, p582420, p582421, p582422, p582423, p582424, p582425, 0, p582427, p582428, p582429, he582465, ⟨bp582415, bp582416, (hB582456.2.2.1), (hB582456.2.2.2.1), (hB582456.2.2.2.2.1), (hB582456.2.2.2.2.2.1), (hB582456.2.2.2.2.2.2.1), bp582427, (hB582456.2.2.2.2.2.2.2.2)⟩, ht582430, ht582431, ht582432, ht582433, ht582434, ht582435, ht582436, ht582437, ht582438, ht582439, ht582440, ht582441, ht582442, ht582443, ht582444, ht582445, ht582446, ht582447, ht582448, ht582449, ht582450, ht582451, ht582452, ht582453, hB582457⟩
      have ac582562 : (fI (F582462 q582408) 9).toInt = p582415.toInt := by rw [he582465]; rfl
      have ac582563 : (fI (F582462 q582408) 10).toInt = p582416.toInt := by rw [he582465]; rfl
      have ac582564 : (fI (F582462 q582408) 32).toInt = p582427.toInt := by rw [he582465]; rfl
      have ac582565 : (fI (F582462 q582408) 30).toInt = 0 := by rw [he582465]; show Int32.toInt 0 = 0; decide
      refine Gw_callV (As := [.int 1]) (gV_ok D I) (ct_580980_SpillForgeModel_no l hl0 D I γ el P582406 F582462 q582408 1 hT582561 htq582408) dr_cX17_end_19 ⟨wr_7_191, wr_1_14, wr_7_194, by decide, rfl, (Nat.le_of_ble_eq_true rfl), (Nat.le_of_ble_eq_true rfl)⟩ wr_7_193 wr_p_73 hm582411 he582465 rfl (show 0 + 0 ≤ 0 by first | omega | decide) (show 0 + 0 ≤ 0 by first | omega | decide) (Nat.le_of_ble_eq_true rfl) (fun r582569 w582570 dc582566 ds582567 hp582568 => ?_) (fun _ _ _ _ _ z => z.elim)
      obtain ⟨F582576, rfl, rfl, hT582577, hs582578, hdc, hds, x582571, x582572, x582573, x582574, ht582575⟩ := hp582568
      have hs582579 : rStr γ [] F582407 F582576 := rStr_tr hs582466 hs582578
      rw [show Int32.toInt 1 = 1 from by decide] at x582574
      change G _ _ _ _ _ _ _ (.int 0 :: _) _ _ _
      refine G_widen (cs' := 0) (sl' := 0) (by omega) (by omega) ?_
      have hm582580 : q582408 ∈ P582406 := RS_m hT582577 htq582408 (by decide)
      refine rk10_e (show rk_10 γ (F582576 q582408) from RS_o hT582577 htq582408) (fun q582582 q582583 p582584 p582585 p582586 p582587 p582588 p582589 p582590 p582591 p582592 p582593 p582594 p582595 p582596 p582597 p582598 he582581 hB582625 ht582599 ht582600 ht582601 ht582602 ht582603 ht582604 ht582605 ht582606 ht582607 ht582608 ht582609 ht582610 ht582611 ht582612 ht582613 ht582614 ht582615 ht582616 ht582617 ht582618 ht582619 ht582620 ht582621 ht582622 hB582626 => ?_)
      have ac582627 : (fI (F582576 q582408) 9).toInt = p582584.toInt := by rw [he582581]; rfl
      have bp582584 : gB p582584 0 1 := (hB582625.1)
      have ac582628 : (fI (F582576 q582408) 10).toInt = p582585.toInt := by rw [he582581]; rfl
      have bp582585 : gB p582585 0 1 := (hB582625.2.1)
      have ac582629 : (fI (F582576 q582408) 32).toInt = p582596.toInt := by rw [he582581]; rfl
      have bp582596 : gB p582596 0 8192 := (hB582625.2.2.2.2.2.2.2.1)
      have ac582630 : (fI (F582576 q582408) 30).toInt = p582595.toInt := by rw [he582581]; rfl
      have bp582595 : gB p582595 (-2147483648) 2147483647 := (gB_any p582595)
      have ac582631 : (fI (F582576 q582408) 9).toInt = p582584.toInt := by rw [he582581]; rfl
      have ac582632 : (fI (F582576 q582408) 10).toInt = p582585.toInt := by rw [he582581]; rfl
      have ac582633 : (fI (F582576 q582408) 32).toInt = p582596.toInt := by rw [he582581]; rfl
      have ac582634 : (fI (F582576 q582408) 30).toInt = p582595.toInt := by rw [he582581]; rfl
      exact G_iretA dr_cX17_end_22 rfl (Nat.le_of_ble_eq_true rfl) (Nat.le_of_ble_eq_true rfl) ⟨F582576, 0, rfl, rfl, hT582577, hs582579, (Nat.le_of_ble_eq_true rfl), (Nat.le_of_ble_eq_true rfl), (gB_w (gBl (show Int32.toInt 0 = 0 by decide)) (by decide) (by decide)), (by have qa0 : Int32.toInt 0 = 0 := (by decide); omega), (by have qa0 : Int32.toInt 0 = 0 := (by decide); omega), (by have qa0 : Int32.toInt 0 = 0 := (by decide); omega), (fun R c1 c2 c3 => c3 F582462 p582427 F582576 n582464 fq582467 r582544 fq582545 r582560 hT582577 hs582578 x582571 x582572 x582573 x582574 ht582575)⟩
abbrev ky_583423_SpillForgeModel_step : gKey := (cX17_step, 4, "SpillForgeModel", (some FieldType.int), [], "step", fun _ _ => True)
def pt_583423_SpillForgeModel_step (D : va_G) (I : FieldType → ClassId) (γ el : Nat → Nat → Nat) (P583419 : List Nat) (F583420 : Nat → va_E) (q583421 : Nat) (q583422 : Nat) : Option Value → va_W → Nat → Nat → Prop := fun r w dc ds => ∃ (F583714 : Nat → va_E) (o583713 : Int32), r = some (.int o583713) ∧ w = va_pl P583419 F583714 ∧ RS D I P583419 F583714 γ el ∧ rStr γ [] F583420 F583714 ∧ dc ≤ 0 ∧ ds ≤ 0 ∧ gB o583713 (-1) 5 ∧ (fI (F583714 q583421) 26).toInt = (fI (F583420 q583421) 26).toInt ∧ (fI (F583714 q583421) 9).toInt = (fI (F583420 q583421) 9).toInt ∧ (fI (F583714 q583421) 10).toInt = (fI (F583420 q583421) 10).toInt ∧ (fI (F583714 q583421) 32).toInt = (fI (F583420 q583421) 32).toInt
set_option maxRecDepth 100000 in
set_option maxHeartbeats 4000000 in
theorem ct_583423_SpillForgeModel_step (l : Launch) (hl0 : l.stackTraces = false) (D : va_G) (I : FieldType → ClassId) (γ el : Nat → Nat → Nat) (P583419 : List Nat) (F583420 : Nat → va_E) (q583421 : Nat) (q583422 : Nat) (hT : RS D I P583419 F583420 γ el) (htq583421 : rKd γ q583421 10) (htq583422 : rKd γ q583422 1) : CtA (gV D I) l yX17_step cX17_step 4 (some FieldType.int) 1 23 0 0 [.ref q583421, .ref q583422] (va_pl P583419 F583420) (pt_583423_SpillForgeModel_step D I γ el P583419 F583420 q583421 q583422) gNA := by
  refine CtA_of hl0 (by decide) (Nat.le_of_ble_eq_true rfl) ?_
  have hm583424 : q583421 ∈ P583419 := RS_m hT htq583421 (by decide)
  refine rk10_e (show rk_10 γ (F583420 q583421) from RS_o hT htq583421) (fun q583426 q583427 p583428 p583429 p583430 p583431 p583432 p583433 p583434 p583435 p583436 p583437 p583438 p583439 p583440 p583441 p583442 he583425 hB583469 ht583443 ht583444 ht583445 ht583446 ht583447 ht583448 ht583449 ht583450 ht583451 ht583452 ht583453 ht583454 ht583455 ht583456 ht583457 ht583458 ht583459 ht583460 ht583461 ht583462 ht583463 ht583464 ht583465 ht583466 hB583470 => ?_)
  have ac583471 : (fI (F583420 q583421) 26).toInt = p583437.toInt := by rw [he583425]; rfl
  have bp583437 : gB p583437 0 100000 := (hB583469.2.2.2.2.2.1)
  have ac583472 : (fI (F583420 q583421) 9).toInt = p583428.toInt := by rw [he583425]; rfl
  have bp583428 : gB p583428 0 1 := (hB583469.1)
  have ac583473 : (fI (F583420 q583421) 10).toInt = p583429.toInt := by rw [he583425]; rfl
  have bp583429 : gB p583429 0 1 := (hB583469.2.1)
  have ac583474 : (fI (F583420 q583421) 32).toInt = p583440.toInt := by rw [he583425]; rfl
  have bp583440 : gB p583440 0 8192 := (hB583469.2.2.2.2.2.2.2.1)
  refine G_aload_n 1 dr_cX17_step_0 rfl ?_
  have hm583475 : q583422 ∈ P583419 := RS_m hT htq583422 (by decide)
  obtain ⟨p583477, p583478, p583479, p583480, p583481, p583482, p583483, he583476, bp583477, bp583478, bp583481, bp583482, bp583483, r583484, r583485, r583486, r583487, r583488⟩ := show rk_1 γ q583422 (F583420 q583422) from RS_o hT htq583422
  have bp583479 := gB_any p583479
  have bp583480 := gB_any p583480
  refine Gp_get 0 hm583475 he583476 dr_cX17_step_1 (gk_X15 D I) (Nat.le_of_ble_eq_true rfl) wr_9_177 rfl ?_
  by_cases hs583489 : p583477 = 0
  · have ehs583489 : p583477.toInt = 0 := gj_eq hs583489 (show Int32.toInt 0 = 0 by decide)
    have bp583477' : gB p583477 0 0 := ⟨by omega, by omega⟩
    refine G_eqi (y := 0) hs583489 ?_
    refine G_lookup 198 dr_cX17_step_4 (by decide) (by first | rfl | decide) (by decide) ?_
    refine G_aload_n 0 dr_cX17_step_198 rfl ?_
    refine Gp_get 20 hm583424 he583425 dr_cX17_step_199 (gk_X17 D I) (Nat.le_of_ble_eq_true rfl) wr_7_94 rfl ?_
    refine G_aload_n 1 dr_cX17_step_202 rfl ?_
    refine Gp_get 1 hm583475 he583476 dr_cX17_step_203 (gk_X15 D I) (Nat.le_of_ble_eq_true rfl) wr_9_182 rfl ?_
    refine G_aload_n 0 dr_cX17_step_206 rfl ?_
    refine G_aload_n 1 dr_cX17_step_207 rfl ?_
    refine Gp_get 5 hm583475 he583476 dr_cX17_step_208 (gk_X15 D I) (Nat.le_of_ble_eq_true rfl) wr_9_197 rfl ?_
    refine G_aload_n 1 dr_cX17_step_211 rfl ?_
    refine Gp_get 2 hm583475 he583476 dr_cX17_step_212 (gk_X15 D I) (Nat.le_of_ble_eq_true rfl) wr_9_186 rfl ?_
    refine Gw_callV (As := [.int p583482, .int p583479]) (gV_ok D I) (ct_7532_SpillForgeModel_value l hl0 D I γ el P583419 F583420 q583421 p583482 p583479 hT htq583421 bp583482 (by omega)) dr_cX17_step_215 ⟨wr_11_100, wr_1_14, wr_11_103, by decide, rfl, (Nat.le_of_ble_eq_true rfl), (Nat.le_of_ble_eq_true rfl)⟩ wr_11_102 wr_p_115 hm583424 he583425 rfl (show 0 + 0 ≤ 0 by first | omega | decide) (show 0 + 0 ≤ 0 by first | omega | decide) (Nat.le_of_ble_eq_true rfl) (fun r583493 w583494 dc583490 ds583491 hp583492 => ?_) (fun _ _ _ _ _ z => z.elim)
    obtain ⟨o583495, rfl, rfl, hdc, hds, ht583496⟩ := hp583492
    have bo583495 := gB_any o583495
    change G _ _ _ _ _ _ _ (.int o583495 :: _) _ _ _
    refine G_widen (cs' := 0) (sl' := 0) (by omega) (by omega) ?_
    have hm583497 : (γ 9 20) ∈ P583419 := RS_m hT ht583459 (by decide)
    obtain ⟨f583499, he583498⟩ := show rk_22 I (F583420 (γ 9 20)) from RS_o hT ht583459
    refine Gp_iast 0 hm583497 he583498 dr_cX17_step_218 rfl (gB_in bp583478 (by decide) (by decide)) (fun F583500 e583501 n583502 => ?_)
    obtain ⟨f583503, hf583503⟩ : ∃ z, z = upd f583499 p583478.toNatClampNeg o583495 := ⟨_, rfl⟩
    rw [← hf583503] at e583501
    have he583504 : F583500 q583421 = .inr (22, [.ref (γ 9 0), .ref (γ 9 1), .ref (γ 9 2), .ref (γ 9 3), .ref (γ 9 4), .ref (γ 9 5), .ref (γ 9 6), .ref (γ 9 7), .ref (γ 9 8), .int p583428, .int p583429, .int p583430, .int p583431, .int p583432, .int p583433, .ref (γ 9 15), .ref (γ 9 16), .ref (γ 9 17), .ref (γ 9 18), .ref (γ 9 19), .ref (γ 9 20), .ref (γ 9 21), .ref (γ 9 22), .int p583434, .int p583435, .int p583436, .int p583437, .int p583438, .ref q583426, .ref (γ 9 29), .int p583439, .ref (γ 9 31), .int p583440, .int p583441, .int p583442, .ref q583427]) := (n583502 q583421 (rn_oa he583425 he583498)).trans he583425
    have he583505 : F583500 q583422 = .inr (20, [.int p583477, .int p583478, .int p583479, .int p583480, .int p583481, .int p583482, .int p583483]) := (n583502 q583422 (rn_oa he583476 he583498)).trans he583476
    have he583506 : F583500 (γ 9 20) = .inl (I .int, 2000, .inl f583503) := e583501
    have hs583507 : rStr γ [] F583420 F583500 := rStr_put (rStr_rf (γ := γ) (W := []) (F := F583420)) n583502 ht583459 (by decide)
    refine G_iconst (-1) dr_cX17_step_219 (by decide +kernel) ?_
    have hT583508 : RS D I P583419 F583500 γ el := RS_set hT n583502 ht583459 (by decide) ⟨f583503, he583506⟩
    have ac583509 : (fI (F583500 q583421) 26).toInt = p583437.toInt := by rw [he583504]; rfl
    have ac583510 : (fI (F583500 q583421) 9).toInt = p583428.toInt := by rw [he583504]; rfl
    have ac583511 : (fI (F583500 q583421) 10).toInt = p583429.toInt := by rw [he583504]; rfl
    have ac583512 : (fI (F583500 q583421) 32).toInt = p583440.toInt := by rw [he583504]; rfl
    exact G_iretA dr_cX17_step_220 rfl (Nat.le_of_ble_eq_true rfl) (Nat.le_of_ble_eq_true rfl) ⟨F583500, (-1), rfl, rfl, hT583508, hs583507, (Nat.le_of_ble_eq_true rfl), (Nat.le_of_ble_eq_true rfl), (gB_w (gBl (show Int32.toInt (-1) = (-1) by decide)) (by decide) (by decide)), (by have qa0 : Int32.toInt (-1) = (-1) := (by decide); omega), (by have qa0 : Int32.toInt (-1) = (-1) := (by decide); omega), (by have qa0 : Int32.toInt (-1) = (-1) := (by decide); omega), (by have qa0 : Int32.toInt (-1) = (-1) := (by decide); omega)⟩
  by_cases hs583513 : p583477 = 20
  · have ehs583513 : p583477.toInt = 20 := gj_eq hs583513 (show Int32.toInt 20 = 20 by decide)
    have bp583477' : gB p583477 20 20 := ⟨by omega, by omega⟩
    refine G_eqi (y := 20) hs583513 ?_
    refine G_lookup 56 dr_cX17_step_4 (by decide) (by first | rfl | decide) (by decide) ?_
    refine G_aload_n 0 dr_cX17_step_56 rfl ?_
    refine Gp_get 20 hm583424 he583425 dr_cX17_step_57 (gk_X17 D I) (Nat.le_of_ble_eq_true rfl) wr_7_94 rfl ?_
    refine G_aload_n 1 dr_cX17_step_60 rfl ?_
    refine Gp_get 1 hm583475 he583476 dr_cX17_step_61 (gk_X15 D I) (Nat.le_of_ble_eq_true rfl) wr_9_182 rfl ?_
    refine G_aload_n 0 dr_cX17_step_64 rfl ?_
    refine Gp_get 27 hm583424 he583425 dr_cX17_step_65 (gk_X17 D I) (Nat.le_of_ble_eq_true rfl) wr_7_101 rfl ?_
    have bp583438 : gB p583438 0 2048 := (hB583469.2.2.2.2.2.2.1)
    refine G_aload_n 0 dr_cX17_step_68 rfl ?_
    refine Gp_get 28 hm583424 he583425 dr_cX17_step_69 (gk_X17 D I) (Nat.le_of_ble_eq_true rfl) wr_7_102 rfl ?_
    have hm583514 : q583426 ∈ P583419 := RS_m hT ht583443 (by decide)
    obtain ⟨n583517, f583516, he583515, hn583517⟩ := show rk_26 I (F583420 q583426) from RS_o hT ht583443
    refine Gp_alen (Int32.ofNat n583517) 0 hm583514 he583515 dr_cX17_step_72 rfl rfl (G_nam fun z583518 hz583518 => ?_)
    have ez583518 : z583518.toInt = (n583517 : Nat) := gI_ofM hz583518 (by omega)
    have bz583518 : gB z583518 0 16777216 := ⟨by omega, by omega⟩
    refine G_icmp_ge 88 dr_cX17_step_73 (by decide +kernel) (fun hc583519 => ?_) (fun hc583519 => ?_)
    · have r583520 : z583518.toInt ≤ p583438.toInt := gC_le hc583519
      have bz583518' : gB z583518 0 2048 := ⟨by omega, by omega⟩
      refine G_iconst 0 dr_cX17_step_88 (by decide +kernel) ?_
      have hm583521 : (γ 9 20) ∈ P583419 := RS_m hT ht583459 (by decide)
      obtain ⟨f583523, he583522⟩ := show rk_22 I (F583420 (γ 9 20)) from RS_o hT ht583459
      refine Gp_iast 0 hm583521 he583522 dr_cX17_step_89 rfl (gB_in bp583478 (by decide) (by decide)) (fun F583524 e583525 n583526 => ?_)
      obtain ⟨f583527, hf583527⟩ : ∃ z, z = upd f583523 p583478.toNatClampNeg 0 := ⟨_, rfl⟩
      rw [← hf583527] at e583525
      have he583528 : F583524 q583421 = .inr (22, [.ref (γ 9 0), .ref (γ 9 1), .ref (γ 9 2), .ref (γ 9 3), .ref (γ 9 4), .ref (γ 9 5), .ref (γ 9 6), .ref (γ 9 7), .ref (γ 9 8), .int p583428, .int p583429, .int p583430, .int p583431, .int p583432, .int p583433, .ref (γ 9 15), .ref (γ 9 16), .ref (γ 9 17), .ref (γ 9 18), .ref (γ 9 19), .ref (γ 9 20), .ref (γ 9 21), .ref (γ 9 22), .int p583434, .int p583435, .int p583436, .int p583437, .int p583438, .ref q583426, .ref (γ 9 29), .int p583439, .ref (γ 9 31), .int p583440, .int p583441, .int p583442, .ref q583427]) := (n583526 q583421 (rn_oa he583425 he583522)).trans he583425
      have he583529 : F583524 q583422 = .inr (20, [.int p583477, .int p583478, .int p583479, .int p583480, .int p583481, .int p583482, .int p583483]) := (n583526 q583422 (rn_oa he583476 he583522)).trans he583476
      have he583530 : F583524 q583426 = .inl (I .int, n583517, .inl f583516) := (n583526 q583426 (rn_ty ht583443 ht583459 (by decide))).trans he583515
      have he583531 : F583524 (γ 9 20) = .inl (I .int, 2000, .inl f583527) := e583525
      have hs583532 : rStr γ [] F583420 F583524 := rStr_put (rStr_rf (γ := γ) (W := []) (F := F583420)) n583526 ht583459 (by decide)
      refine G_aload_n 0 dr_cX17_step_90 rfl ?_
      refine G_aload_n 0 dr_cX17_step_91 rfl ?_
      refine Gp_get 27 hm583424 he583528 dr_cX17_step_92 (gk_X17 D I) (Nat.le_of_ble_eq_true rfl) wr_7_101 rfl ?_
      refine G_iconst 1 dr_cX17_step_95 (by decide +kernel) ?_
      refine G_iadd dr_cX17_step_96 (G_nam fun z583533 hz583533 => ?_)
      have ez583533 : z583533.toInt = p583438.toInt + 1 := by rw [gI_add hz583533 bp583438 (gBl (show Int32.toInt 1 = 1 by decide)) (by decide) (by decide), show Int32.toInt 1 = 1 from by decide]
      have bz583533 : gB z583533 1 2049 := gB_add (gI_add hz583533 bp583438 (gBl (show Int32.toInt 1 = 1 by decide)) (by decide) (by decide)) bp583438 (gBl (show Int32.toInt 1 = 1 by decide)) (by decide) (by decide)
      refine G_aload_n 0 dr_cX17_step_97 rfl ?_
      refine Gp_get 28 hm583424 he583528 dr_cX17_step_98 (gk_X17 D I) (Nat.le_of_ble_eq_true rfl) wr_7_102 rfl ?_
      refine Gp_alen (Int32.ofNat n583517) 0 hm583514 he583530 dr_cX17_step_101 rfl rfl (G_nam fun z583534 hz583534 => ?_)
      have ez583534 : z583534.toInt = (n583517 : Nat) := gI_ofM hz583534 (by omega)
      have bz583534 : gB z583534 0 16777216 := ⟨by omega, by omega⟩
      refine G_mmin dr_cX17_step_102 wr_11_20 wr_3_227 wr_1_6 wr_3_228 (Nat.le_of_ble_eq_true rfl) (Nat.le_of_ble_eq_true rfl) (show 0 ≤ 0 by first | omega | decide) (show 0 ≤ 0 by first | omega | decide) (G_nam fun z583535 hz583535 => ?_)
      have ez583535 : z583533.toInt ≥ z583535.toInt ∧ z583534.toInt ≥ z583535.toInt ∧ (z583535.toInt = z583533.toInt ∨ z583535.toInt = z583534.toInt) := by have := gI_min hz583535; omega
      have bz583535 : gB z583535 0 2049 := ⟨by omega, by omega⟩
      have hT583536 : RS D I P583419 F583524 γ el := RS_set hT n583526 ht583459 (by decide) ⟨f583527, he583531⟩
      refine Gp_put 27 hm583424 he583528 dr_cX17_step_105 (gk_X17 D I) (Nat.le_of_ble_eq_true rfl) wr_7_101 rfl rfl rfl (Nat.le_of_ble_eq_true rfl) (fun F583537 e583538 n583539 => ?_)
      have he583540 : F583537 q583422 = .inr (20, [.int p583477, .int p583478, .int p583479, .int p583480, .int p583481, .int p583482, .int p583483]) := (n583539 q583422 (rn_oo he583529 he583528 (by decide))).trans he583529
      have he583541 : F583537 q583426 = .inl (I .int, n583517, .inl f583516) := (n583539 q583426 (rn_ao he583530 he583528)).trans he583530
      have he583542 : F583537 (γ 9 20) = .inl (I .int, 2000, .inl f583527) := (n583539 (γ 9 20) (rn_ao he583531 he583528)).trans he583531
      have he583543 : F583537 q583421 = .inr (22, [.ref (γ 9 0), .ref (γ 9 1), .ref (γ 9 2), .ref (γ 9 3), .ref (γ 9 4), .ref (γ 9 5), .ref (γ 9 6), .ref (γ 9 7), .ref (γ 9 8), .int p583428, .int p583429, .int p583430, .int p583431, .int p583432, .int p583433, .ref (γ 9 15), .ref (γ 9 16), .ref (γ 9 17), .ref (γ 9 18), .ref (γ 9 19), .ref (γ 9 20), .ref (γ 9 21), .ref (γ 9 22), .int p583434, .int p583435, .int p583436, .int p583437, .int z583535, .ref q583426, .ref (γ 9 29), .int p583439, .ref (γ 9 31), .int p583440, .int p583441, .int p583442, .ref q583427]) := e583538
      have hs583544 : rStr γ [] F583420 F583537 := rStr_put hs583532 n583539 htq583421 (by decide)
      refine G_iconst (-1) dr_cX17_step_108 (by decide +kernel) ?_
      have hT583545 : RS D I P583419 F583537 γ el := RS_set hT583536 n583539 htq583421 (by decide) ⟨q583426, q583427, p583428, p583429, p583430, p583431, p583432, p583433, p583434, p583435, p583436, p583437, z583535, p583439, p583440, p583441, p583442, he583543, ⟨bp583428, bp583429, (hB583469.2.2.1), (hB583469.2.2.2.1), (hB583469.2.2.2.2.1), bp583437, ⟨by omega, by omega⟩, bp583440, (hB583469.2.2.2.2.2.2.2.2)⟩, ht583443, ht583444, ht583445, ht583446, ht583447, ht583448, ht583449, ht583450, ht583451, ht583452, ht583453, ht583454, ht583455, ht583456, ht583457, ht583458, ht583459, ht583460, ht583461, ht583462, ht583463, ht583464, ht583465, ht583466, hB583470⟩
      have ac583546 : (fI (F583537 q583421) 26).toInt = p583437.toInt := by rw [he583543]; rfl
      have ac583547 : (fI (F583537 q583421) 9).toInt = p583428.toInt := by rw [he583543]; rfl
      have ac583548 : (fI (F583537 q583421) 10).toInt = p583429.toInt := by rw [he583543]; rfl
      have ac583549 : (fI (F583537 q583421) 32).toInt = p583440.toInt := by rw [he583543]; rfl
      exact G_iretA dr_cX17_step_109 rfl (Nat.le_of_ble_eq_true rfl) (Nat.le_of_ble_eq_true rfl) ⟨F583537, (-1), rfl, rfl, hT583545, hs583544, (Nat.le_of_ble_eq_true rfl), (Nat.le_of_ble_eq_true rfl), (gB_w (gBl (show Int32.toInt (-1) = (-1) by decide)) (by decide) (by decide)), (by have qa0 : Int32.toInt (-1) = (-1) := (by decide); omega), (by have qa0 : Int32.toInt (-1) = (-1) := (by decide); omega), (by have qa0 : Int32.toInt (-1) = (-1) := (by decide); omega), (by have qa0 : Int32.toInt (-1) = (-1) := (by decide); omega)⟩
    · have r583550 : p583438.toInt < z583518.toInt := gC_nle hc583519
      have bz583518' : gB z583518 1 16777216 := ⟨by omega, by omega⟩
      refine G_aload_n 0 dr_cX17_step_76 rfl ?_
      refine Gp_get 28 hm583424 he583425 dr_cX17_step_77 (gk_X17 D I) (Nat.le_of_ble_eq_true rfl) wr_7_102 rfl ?_
      refine G_aload_n 0 dr_cX17_step_80 rfl ?_
      refine Gp_get 27 hm583424 he583425 dr_cX17_step_81 (gk_X17 D I) (Nat.le_of_ble_eq_true rfl) wr_7_101 rfl ?_
      refine Gp_iald 0 hm583514 he583515 dr_cX17_step_84 rfl (gB_inr (by omega) (by omega)) (G_nam fun z583551 hz583551 => ?_)
      have bz583551 : gB z583551 (-2147483648) 2147483647 := gB_any z583551
      refine G_goto 89 dr_cX17_step_85 (by decide +kernel) ?_
      have hm583552 : (γ 9 20) ∈ P583419 := RS_m hT ht583459 (by decide)
      obtain ⟨f583554, he583553⟩ := show rk_22 I (F583420 (γ 9 20)) from RS_o hT ht583459
      refine Gp_iast 0 hm583552 he583553 dr_cX17_step_89 rfl (gB_in bp583478 (by decide) (by decide)) (fun F583555 e583556 n583557 => ?_)
      obtain ⟨f583558, hf583558⟩ : ∃ z, z = upd f583554 p583478.toNatClampNeg z583551 := ⟨_, rfl⟩
      rw [← hf583558] at e583556
      have he583559 : F583555 q583421 = .inr (22, [.ref (γ 9 0), .ref (γ 9 1), .ref (γ 9 2), .ref (γ 9 3), .ref (γ 9 4), .ref (γ 9 5), .ref (γ 9 6), .ref (γ 9 7), .ref (γ 9 8), .int p583428, .int p583429, .int p583430, .int p583431, .int p583432, .int p583433, .ref (γ 9 15), .ref (γ 9 16), .ref (γ 9 17), .ref (γ 9 18), .ref (γ 9 19), .ref (γ 9 20), .ref (γ 9 21), .ref (γ 9 22), .int p583434, .int p583435, .int p583436, .int p583437, .int p583438, .ref q583426, .ref (γ 9 29), .int p583439, .ref (γ 9 31), .int p583440, .int p583441, .int p583442, .ref q583427]) := (n583557 q583421 (rn_oa he583425 he583553)).trans he583425
      have he583560 : F583555 q583422 = .inr (20, [.int p583477, .int p583478, .int p583479, .int p583480, .int p583481, .int p583482, .int p583483]) := (n583557 q583422 (rn_oa he583476 he583553)).trans he583476
      have he583561 : F583555 q583426 = .inl (I .int, n583517, .inl f583516) := (n583557 q583426 (rn_ty ht583443 ht583459 (by decide))).trans he583515
      have he583562 : F583555 (γ 9 20) = .inl (I .int, 2000, .inl f583558) := e583556
      have hs583563 : rStr γ [] F583420 F583555 := rStr_put (rStr_rf (γ := γ) (W := []) (F := F583420)) n583557 ht583459 (by decide)
      refine G_aload_n 0 dr_cX17_step_90 rfl ?_
      refine G_aload_n 0 dr_cX17_step_91 rfl ?_
      refine Gp_get 27 hm583424 he583559 dr_cX17_step_92 (gk_X17 D I) (Nat.le_of_ble_eq_true rfl) wr_7_101 rfl ?_
      refine G_iconst 1 dr_cX17_step_95 (by decide +kernel) ?_
      refine G_iadd dr_cX17_step_96 (G_nam fun z583564 hz583564 => ?_)
      have ez583564 : z583564.toInt = p583438.toInt + 1 := by rw [gI_add hz583564 bp583438 (gBl (show Int32.toInt 1 = 1 by decide)) (by decide) (by decide), show Int32.toInt 1 = 1 from by decide]
      have bz583564 : gB z583564 1 2049 := gB_add (gI_add hz583564 bp583438 (gBl (show Int32.toInt 1 = 1 by decide)) (by decide) (by decide)) bp583438 (gBl (show Int32.toInt 1 = 1 by decide)) (by decide) (by decide)
      refine G_aload_n 0 dr_cX17_step_97 rfl ?_
      refine Gp_get 28 hm583424 he583559 dr_cX17_step_98 (gk_X17 D I) (Nat.le_of_ble_eq_true rfl) wr_7_102 rfl ?_
      refine Gp_alen (Int32.ofNat n583517) 0 hm583514 he583561 dr_cX17_step_101 rfl rfl (G_nam fun z583565 hz583565 => ?_)
      have ez583565 : z583565.toInt = (n583517 : Nat) := gI_ofM hz583565 (by omega)
      have bz583565 : gB z583565 0 16777216 := ⟨by omega, by omega⟩
      refine G_mmin dr_cX17_step_102 wr_11_20 wr_3_227 wr_1_6 wr_3_228 (Nat.le_of_ble_eq_true rfl) (Nat.le_of_ble_eq_true rfl) (show 0 ≤ 0 by first | omega | decide) (show 0 ≤ 0 by first | omega | decide) (G_nam fun z583566 hz583566 => ?_)
      have ez583566 : z583564.toInt ≥ z583566.toInt ∧ z583565.toInt ≥ z583566.toInt ∧ (z583566.toInt = z583564.toInt ∨ z583566.toInt = z583565.toInt) := by have := gI_min hz583566; omega
      have bz583566 : gB z583566 0 2049 := ⟨by omega, by omega⟩
      have hT583567 : RS D I P583419 F583555 γ el := RS_set hT n583557 ht583459 (by decide) ⟨f583558, he583562⟩
      refine Gp_put 27 hm583424 he583559 dr_cX17_step_105 (gk_X17 D I) (Nat.le_of_ble_eq_true rfl) wr_7_101 rfl rfl rfl (Nat.le_of_ble_eq_true rfl) (fun F583568 e583569 n583570 => ?_)
      have he583571 : F583568 q583422 = .inr (20, [.int p583477, .int p583478, .int p583479, .int p583480, .int p583481, .int p583482, .int p583483]) := (n583570 q583422 (rn_oo he583560 he583559 (by decide))).trans he583560
      have he583572 : F583568 q583426 = .inl (I .int, n583517, .inl f583516) := (n583570 q583426 (rn_ao he583561 he583559)).trans he583561
      have he583573 : F583568 (γ 9 20) = .inl (I .int, 2000, .inl f583558) := (n583570 (γ 9 20) (rn_ao he583562 he583559)).trans he583562
      have he583574 : F583568 q583421 = .inr (22, [.ref (γ 9 0), .ref (γ 9 1), .ref (γ 9 2), .ref (γ 9 3), .ref (γ 9 4), .ref (γ 9 5), .ref (γ 9 6), .ref (γ 9 7), .ref (γ 9 8), .int p583428, .int p583429, .int p583430, .int p583431, .int p583432, .int p583433, .ref (γ 9 15), .ref (γ 9 16), .ref (γ 9 17), .ref (γ 9 18), .ref (γ 9 19), .ref (γ 9 20), .ref (γ 9 21), .ref (γ 9 22), .int p583434, .int p583435, .int p583436, .int p583437, .int z583566, .ref q583426, .ref (γ 9 29), .int p583439, .ref (γ 9 31), .int p583440, .int p583441, .int p583442, .ref q583427]) := e583569
      have hs583575 : rStr γ [] F583420 F583568 := rStr_put hs583563 n583570 htq583421 (by decide)
      refine G_iconst (-1) dr_cX17_step_108 (by decide +kernel) ?_
      have hT583576 : RS D I P583419 F583568 γ el := RS_set hT583567 n583570 htq583421 (by decide) ⟨q583426, q583427, p583428, p583429, p583430, p583431, p583432, p583433, p583434, p583435, p583436, p583437, z583566, p583439, p583440, p583441, p583442, he583574, ⟨bp583428, bp583429, (hB583469.2.2.1), (hB583469.2.2.2.1), (hB583469.2.2.2.2.1), bp583437, ⟨by omega, by omega⟩, bp583440, (hB583469.2.2.2.2.2.2.2.2)⟩, ht583443, ht583444, ht583445, ht583446, ht583447, ht583448, ht583449, ht583450, ht583451, ht583452, ht583453, ht583454, ht583455, ht583456, ht583457, ht583458, ht583459, ht583460, ht583461, ht583462, ht583463, ht583464, ht583465, ht583466, hB583470⟩
      have ac583577 : (fI (F583568 q583421) 26).toInt = p583437.toInt := by rw [he583574]; rfl
      have ac583578 : (fI (F583568 q583421) 9).toInt = p583428.toInt := by rw [he583574]; rfl
      have ac583579 : (fI (F583568 q583421) 10).toInt = p583429.toInt := by rw [he583574]; rfl
      have ac583580 : (fI (F583568 q583421) 32).toInt = p583440.toInt := by rw [he583574]; rfl
      exact G_iretA dr_cX17_step_109 rfl (Nat.le_of_ble_eq_true rfl) (Nat.le_of_ble_eq_true rfl) ⟨F583568, (-1), rfl, rfl, hT583576, hs583575, (Nat.le_of_ble_eq_true rfl), (Nat.le_of_ble_eq_true rfl), (gB_w (gBl (show Int32.toInt (-1) = (-1) by decide)) (by decide) (by decide)), (by have qa0 : Int32.toInt (-1) = (-1) := (by decide); omega), (by have qa0 : Int32.toInt (-1) = (-1) := (by decide); omega), (by have qa0 : Int32.toInt (-1) = (-1) := (by decide); omega), (by have qa0 : Int32.toInt (-1) = (-1) := (by decide); omega)⟩
  by_cases hs583581 : p583477 = 21
  · have ehs583581 : p583477.toInt = 21 := gj_eq hs583581 (show Int32.toInt 21 = 21 by decide)
    have bp583477' : gB p583477 21 21 := ⟨by omega, by omega⟩
    refine G_eqi (y := 21) hs583581 ?_
    refine G_lookup 155 dr_cX17_step_4 (by decide) (by first | rfl | decide) (by decide) ?_
    refine G_aload_n 0 dr_cX17_step_155 rfl ?_
    refine Gp_get 20 hm583424 he583425 dr_cX17_step_156 (gk_X17 D I) (Nat.le_of_ble_eq_true rfl) wr_7_94 rfl ?_
    refine G_aload_n 1 dr_cX17_step_159 rfl ?_
    refine Gp_get 1 hm583475 he583476 dr_cX17_step_160 (gk_X15 D I) (Nat.le_of_ble_eq_true rfl) wr_9_182 rfl ?_
    refine G_aload_n 0 dr_cX17_step_163 rfl ?_
    refine Gp_get 21 hm583424 he583425 dr_cX17_step_164 (gk_X17 D I) (Nat.le_of_ble_eq_true rfl) wr_7_95 rfl ?_
    refine G_aload_n 1 dr_cX17_step_167 rfl ?_
    refine Gp_get 4 hm583475 he583476 dr_cX17_step_168 (gk_X15 D I) (Nat.le_of_ble_eq_true rfl) wr_9_193 rfl ?_
    have hm583582 : (γ 9 21) ∈ P583419 := RS_m hT ht583460 (by decide)
    obtain ⟨f583584, he583583⟩ := show rk_23 I (F583420 (γ 9 21)) from RS_o hT ht583460
    refine Gp_iald 0 hm583582 he583583 dr_cX17_step_171 rfl (gB_in bp583481 (by decide) (by decide)) (G_nam fun z583585 hz583585 => ?_)
    have bz583585 : gB z583585 (-2147483648) 2147483647 := gB_any z583585
    have hm583586 : (γ 9 20) ∈ P583419 := RS_m hT ht583459 (by decide)
    obtain ⟨f583588, he583587⟩ := show rk_22 I (F583420 (γ 9 20)) from RS_o hT ht583459
    refine Gp_iast 0 hm583586 he583587 dr_cX17_step_172 rfl (gB_in bp583478 (by decide) (by decide)) (fun F583589 e583590 n583591 => ?_)
    obtain ⟨f583592, hf583592⟩ : ∃ z, z = upd f583588 p583478.toNatClampNeg z583585 := ⟨_, rfl⟩
    rw [← hf583592] at e583590
    have he583593 : F583589 q583421 = .inr (22, [.ref (γ 9 0), .ref (γ 9 1), .ref (γ 9 2), .ref (γ 9 3), .ref (γ 9 4), .ref (γ 9 5), .ref (γ 9 6), .ref (γ 9 7), .ref (γ 9 8), .int p583428, .int p583429, .int p583430, .int p583431, .int p583432, .int p583433, .ref (γ 9 15), .ref (γ 9 16), .ref (γ 9 17), .ref (γ 9 18), .ref (γ 9 19), .ref (γ 9 20), .ref (γ 9 21), .ref (γ 9 22), .int p583434, .int p583435, .int p583436, .int p583437, .int p583438, .ref q583426, .ref (γ 9 29), .int p583439, .ref (γ 9 31), .int p583440, .int p583441, .int p583442, .ref q583427]) := (n583591 q583421 (rn_oa he583425 he583587)).trans he583425
    have he583594 : F583589 q583422 = .inr (20, [.int p583477, .int p583478, .int p583479, .int p583480, .int p583481, .int p583482, .int p583483]) := (n583591 q583422 (rn_oa he583476 he583587)).trans he583476
    have he583595 : F583589 (γ 9 21) = .inl (I .int, 2000, .inl f583584) := (n583591 (γ 9 21) (rn_ty ht583460 ht583459 (by decide))).trans he583583
    have he583596 : F583589 (γ 9 20) = .inl (I .int, 2000, .inl f583592) := e583590
    have hs583597 : rStr γ [] F583420 F583589 := rStr_put (rStr_rf (γ := γ) (W := []) (F := F583420)) n583591 ht583459 (by decide)
    refine G_iconst (-1) dr_cX17_step_173 (by decide +kernel) ?_
    have hT583598 : RS D I P583419 F583589 γ el := RS_set hT n583591 ht583459 (by decide) ⟨f583592, he583596⟩
    have ac583599 : (fI (F583589 q583421) 26).toInt = p583437.toInt := by rw [he583593]; rfl
    have ac583600 : (fI (F583589 q583421) 9).toInt = p583428.toInt := by rw [he583593]; rfl
    have ac583601 : (fI (F583589 q583421) 10).toInt = p583429.toInt := by rw [he583593]; rfl
    have ac583602 : (fI (F583589 q583421) 32).toInt = p583440.toInt := by rw [he583593]; rfl
    exact G_iretA dr_cX17_step_174 rfl (Nat.le_of_ble_eq_true rfl) (Nat.le_of_ble_eq_true rfl) ⟨F583589, (-1), rfl, rfl, hT583598, hs583597, (Nat.le_of_ble_eq_true rfl), (Nat.le_of_ble_eq_true rfl), (gB_w (gBl (show Int32.toInt (-1) = (-1) by decide)) (by decide) (by decide)), (by have qa0 : Int32.toInt (-1) = (-1) := (by decide); omega), (by have qa0 : Int32.toInt (-1) = (-1) := (by decide); omega), (by have qa0 : Int32.toInt (-1) = (-1) := (by decide); omega), (by have qa0 : Int32.toInt (-1) = (-1) := (by decide); omega)⟩
  by_cases hs583603 : p583477 = 22
  · have ehs583603 : p583477.toInt = 22 := gj_eq hs583603 (show Int32.toInt 22 = 22 by decide)
    have bp583477' : gB p583477 22 22 := ⟨by omega, by omega⟩
    refine G_eqi (y := 22) hs583603 ?_
    refine G_lookup 110 dr_cX17_step_4 (by decide) (by first | rfl | decide) (by decide) ?_
    refine G_aload_n 0 dr_cX17_step_110 rfl ?_
    refine Gp_get 25 hm583424 he583425 dr_cX17_step_111 (gk_X17 D I) (Nat.le_of_ble_eq_true rfl) wr_7_99 rfl ?_
    have bp583436 : gB p583436 0 512 := (hB583469.2.2.2.2.1)
    refine G_sipush 512 dr_cX17_step_114 (by decide +kernel) ?_
    refine G_icmp_ne 122 dr_cX17_step_117 (by decide +kernel) (fun hc583604 => ?_) (fun hc583604 => ?_)
    · have r583605 : p583436.toInt ≠ 512 := gj_neq hc583604 (show Int32.toInt 512 = 512 by decide)
      have bp583436' : gB p583436 0 511 := ⟨by omega, by omega⟩
      refine G_aload_n 0 dr_cX17_step_122 rfl ?_
      refine Gp_get 22 hm583424 he583425 dr_cX17_step_123 (gk_X17 D I) (Nat.le_of_ble_eq_true rfl) wr_7_96 rfl ?_
      refine G_aload_n 0 dr_cX17_step_126 rfl ?_
      refine Gp_get 25 hm583424 he583425 dr_cX17_step_127 (gk_X17 D I) (Nat.le_of_ble_eq_true rfl) wr_7_99 rfl ?_
      refine G_aload_n 0 dr_cX17_step_130 rfl ?_
      refine G_aload_n 1 dr_cX17_step_131 rfl ?_
      refine Gp_get 5 hm583475 he583476 dr_cX17_step_132 (gk_X15 D I) (Nat.le_of_ble_eq_true rfl) wr_9_197 rfl ?_
      refine G_aload_n 1 dr_cX17_step_135 rfl ?_
      refine Gp_get 2 hm583475 he583476 dr_cX17_step_136 (gk_X15 D I) (Nat.le_of_ble_eq_true rfl) wr_9_186 rfl ?_
      refine Gw_callV (As := [.int p583482, .int p583479]) (gV_ok D I) (ct_7532_SpillForgeModel_value l hl0 D I γ el P583419 F583420 q583421 p583482 p583479 hT htq583421 bp583482 (by omega)) dr_cX17_step_139 ⟨wr_11_100, wr_1_14, wr_11_103, by decide, rfl, (Nat.le_of_ble_eq_true rfl), (Nat.le_of_ble_eq_true rfl)⟩ wr_11_102 wr_p_115 hm583424 he583425 rfl (show 0 + 0 ≤ 0 by first | omega | decide) (show 0 + 0 ≤ 0 by first | omega | decide) (Nat.le_of_ble_eq_true rfl) (fun r583609 w583610 dc583606 ds583607 hp583608 => ?_) (fun _ _ _ _ _ z => z.elim)
      obtain ⟨o583611, rfl, rfl, hdc, hds, ht583612⟩ := hp583608
      have bo583611 := gB_any o583611
      change G _ _ _ _ _ _ _ (.int o583611 :: _) _ _ _
      refine G_widen (cs' := 0) (sl' := 0) (by omega) (by omega) ?_
      have hm583613 : (γ 9 22) ∈ P583419 := RS_m hT ht583461 (by decide)
      obtain ⟨f583615, he583614⟩ := show rk_24 I (F583420 (γ 9 22)) from RS_o hT ht583461
      refine Gp_iast 0 hm583613 he583614 dr_cX17_step_142 rfl (gB_in bp583436' (by decide) (by decide)) (fun F583616 e583617 n583618 => ?_)
      obtain ⟨f583619, hf583619⟩ : ∃ z, z = upd f583615 p583436.toNatClampNeg o583611 := ⟨_, rfl⟩
      rw [← hf583619] at e583617
      have he583620 : F583616 q583421 = .inr (22, [.ref (γ 9 0), .ref (γ 9 1), .ref (γ 9 2), .ref (γ 9 3), .ref (γ 9 4), .ref (γ 9 5), .ref (γ 9 6), .ref (γ 9 7), .ref (γ 9 8), .int p583428, .int p583429, .int p583430, .int p583431, .int p583432, .int p583433, .ref (γ 9 15), .ref (γ 9 16), .ref (γ 9 17), .ref (γ 9 18), .ref (γ 9 19), .ref (γ 9 20), .ref (γ 9 21), .ref (γ 9 22), .int p583434, .int p583435, .int p583436, .int p583437, .int p583438, .ref q583426, .ref (γ 9 29), .int p583439, .ref (γ 9 31), .int p583440, .int p583441, .int p583442, .ref q583427]) := (n583618 q583421 (rn_oa he583425 he583614)).trans he583425
      have he583621 : F583616 q583422 = .inr (20, [.int p583477, .int p583478, .int p583479, .int p583480, .int p583481, .int p583482, .int p583483]) := (n583618 q583422 (rn_oa he583476 he583614)).trans he583476
      have he583622 : F583616 (γ 9 22) = .inl (I .int, 512, .inl f583619) := e583617
      have hs583623 : rStr γ [] F583420 F583616 := rStr_put (rStr_rf (γ := γ) (W := []) (F := F583420)) n583618 ht583461 (by decide)
      refine G_aload_n 0 dr_cX17_step_143 rfl ?_
      refine G_dup dr_cX17_step_144 rfl ?_
      refine Gp_get 25 hm583424 he583620 dr_cX17_step_145 (gk_X17 D I) (Nat.le_of_ble_eq_true rfl) wr_7_99 rfl ?_
      refine G_iconst 1 dr_cX17_step_148 (by decide +kernel) ?_
      refine G_iadd dr_cX17_step_149 (G_nam fun z583624 hz583624 => ?_)
      have ez583624 : z583624.toInt = p583436.toInt + 1 := by rw [gI_add hz583624 bp583436' (gBl (show Int32.toInt 1 = 1 by decide)) (by decide) (by decide), show Int32.toInt 1 = 1 from by decide]
      have bz583624 : gB z583624 1 512 := gB_add (gI_add hz583624 bp583436' (gBl (show Int32.toInt 1 = 1 by decide)) (by decide) (by decide)) bp583436' (gBl (show Int32.toInt 1 = 1 by decide)) (by decide) (by decide)
      have hT583625 : RS D I P583419 F583616 γ el := RS_set hT n583618 ht583461 (by decide) ⟨f583619, he583622⟩
      refine Gp_put 25 hm583424 he583620 dr_cX17_step_150 (gk_X17 D I) (Nat.le_of_ble_eq_true rfl) wr_7_99 rfl rfl rfl (Nat.le_of_ble_eq_true rfl) (fun F583626 e583627 n583628 => ?_)
      have he583629 : F583626 q583422 = .inr (20, [.int p583477, .int p583478, .int p583479, .int p583480, .int p583481, .int p583482, .int p583483]) := (n583628 q583422 (rn_oo he583621 he583620 (by decide))).trans he583621
      have he583630 : F583626 (γ 9 22) = .inl (I .int, 512, .inl f583619) := (n583628 (γ 9 22) (rn_ao he583622 he583620)).trans he583622
      have he583631 : F583626 q583421 = .inr (22, [.ref (γ 9 0), .ref (γ 9 1), .ref (γ 9 2), .ref (γ 9 3), .ref (γ 9 4), .ref (γ 9 5), .ref (γ 9 6), .ref (γ 9 7), .ref (γ 9 8), .int p583428, .int p583429, .int p583430, .int p583431, .int p583432, .int p583433, .ref (γ 9 15), .ref (γ 9 16), .ref (γ 9 17), .ref (γ 9 18), .ref (γ 9 19), .ref (γ 9 20), .ref (γ 9 21), .ref (γ 9 22), .int p583434, .int p583435, .int z583624, .int p583437, .int p583438, .ref q583426, .ref (γ 9 29), .int p583439, .ref (γ 9 31), .int p583440, .int p583441, .int p583442, .ref q583427]) := e583627
      have hs583632 : rStr γ [] F583420 F583626 := rStr_put hs583623 n583628 htq583421 (by decide)
      refine G_iconst (-1) dr_cX17_step_153 (by decide +kernel) ?_
      have hT583633 : RS D I P583419 F583626 γ el := RS_set hT583625 n583628 htq583421 (by decide) ⟨q583426, q583427, p583428, p583429, p583430, p583431, p583432, p583433, p583434, p583435, z583624, p583437, p583438, p583439, p583440, p583441, p583442, he583631, ⟨bp583428, bp583429, (hB583469.2.2.1), (hB583469.2.2.2.1), (gB_w bz583624 (by decide) (by decide)), bp583437, (hB583469.2.2.2.2.2.2.1), bp583440, (hB583469.2.2.2.2.2.2.2.2)⟩, ht583443, ht583444, ht583445, ht583446, ht583447, ht583448, ht583449, ht583450, ht583451, ht583452, ht583453, ht583454, ht583455, ht583456, ht583457, ht583458, ht583459, ht583460, ht583461, ht583462, ht583463, ht583464, ht583465, ht583466, hB583470⟩
      have ac583634 : (fI (F583626 q583421) 26).toInt = p583437.toInt := by rw [he583631]; rfl
      have ac583635 : (fI (F583626 q583421) 9).toInt = p583428.toInt := by rw [he583631]; rfl
      have ac583636 : (fI (F583626 q583421) 10).toInt = p583429.toInt := by rw [he583631]; rfl
      have ac583637 : (fI (F583626 q583421) 32).toInt = p583440.toInt := by rw [he583631]; rfl
      exact G_iretA dr_cX17_step_154 rfl (Nat.le_of_ble_eq_true rfl) (Nat.le_of_ble_eq_true rfl) ⟨F583626, (-1), rfl, rfl, hT583633, hs583632, (Nat.le_of_ble_eq_true rfl), (Nat.le_of_ble_eq_true rfl), (gB_w (gBl (show Int32.toInt (-1) = (-1) by decide)) (by decide) (by decide)), (by have qa0 : Int32.toInt (-1) = (-1) := (by decide); omega), (by have qa0 : Int32.toInt (-1) = (-1) := (by decide); omega), (by have qa0 : Int32.toInt (-1) = (-1) := (by decide); omega), (by have qa0 : Int32.toInt (-1) = (-1) := (by decide); omega)⟩
    · have r583638 : p583436.toInt = 512 := gj_eq hc583604 (show Int32.toInt 512 = 512 by decide)
      have bp583436' : gB p583436 512 512 := ⟨by omega, by omega⟩
      refine G_iconst 5 dr_cX17_step_120 (by decide +kernel) ?_
      have ac583639 : (fI (F583420 q583421) 26).toInt = p583437.toInt := by rw [he583425]; rfl
      have ac583640 : (fI (F583420 q583421) 9).toInt = p583428.toInt := by rw [he583425]; rfl
      have ac583641 : (fI (F583420 q583421) 10).toInt = p583429.toInt := by rw [he583425]; rfl
      have ac583642 : (fI (F583420 q583421) 32).toInt = p583440.toInt := by rw [he583425]; rfl
      exact G_iretA dr_cX17_step_121 rfl (Nat.le_of_ble_eq_true rfl) (Nat.le_of_ble_eq_true rfl) ⟨F583420, 5, rfl, rfl, hT, (rStr_rf (γ := γ) (W := []) (F := F583420)), (Nat.le_of_ble_eq_true rfl), (Nat.le_of_ble_eq_true rfl), (gB_w (gBl (show Int32.toInt 5 = 5 by decide)) (by decide) (by decide)), (by have qa0 : Int32.toInt 5 = 5 := (by decide); omega), (by have qa0 : Int32.toInt 5 = 5 := (by decide); omega), (by have qa0 : Int32.toInt 5 = 5 := (by decide); omega), (by have qa0 : Int32.toInt 5 = 5 := (by decide); omega)⟩
  by_cases hs583643 : p583477 = 23
  · have ehs583643 : p583477.toInt = 23 := gj_eq hs583643 (show Int32.toInt 23 = 23 by decide)
    have bp583477' : gB p583477 23 23 := ⟨by omega, by omega⟩
    refine G_eqi (y := 23) hs583643 ?_
    refine G_lookup 175 dr_cX17_step_4 (by decide) (by first | rfl | decide) (by decide) ?_
    refine G_aload_n 0 dr_cX17_step_175 rfl ?_
    refine Gp_get 21 hm583424 he583425 dr_cX17_step_176 (gk_X17 D I) (Nat.le_of_ble_eq_true rfl) wr_7_95 rfl ?_
    refine G_aload_n 1 dr_cX17_step_179 rfl ?_
    refine Gp_get 4 hm583475 he583476 dr_cX17_step_180 (gk_X15 D I) (Nat.le_of_ble_eq_true rfl) wr_9_193 rfl ?_
    refine G_aload_n 0 dr_cX17_step_183 rfl ?_
    refine G_aload_n 1 dr_cX17_step_184 rfl ?_
    refine Gp_get 5 hm583475 he583476 dr_cX17_step_185 (gk_X15 D I) (Nat.le_of_ble_eq_true rfl) wr_9_197 rfl ?_
    refine G_aload_n 1 dr_cX17_step_188 rfl ?_
    refine Gp_get 2 hm583475 he583476 dr_cX17_step_189 (gk_X15 D I) (Nat.le_of_ble_eq_true rfl) wr_9_186 rfl ?_
    refine Gw_callV (As := [.int p583482, .int p583479]) (gV_ok D I) (ct_7532_SpillForgeModel_value l hl0 D I γ el P583419 F583420 q583421 p583482 p583479 hT htq583421 bp583482 (by omega)) dr_cX17_step_192 ⟨wr_11_100, wr_1_14, wr_11_103, by decide, rfl, (Nat.le_of_ble_eq_true rfl), (Nat.le_of_ble_eq_true rfl)⟩ wr_11_102 wr_p_115 hm583424 he583425 rfl (show 0 + 0 ≤ 0 by first | omega | decide) (show 0 + 0 ≤ 0 by first | omega | decide) (Nat.le_of_ble_eq_true rfl) (fun r583647 w583648 dc583644 ds583645 hp583646 => ?_) (fun _ _ _ _ _ z => z.elim)
    obtain ⟨o583649, rfl, rfl, hdc, hds, ht583650⟩ := hp583646
    have bo583649 := gB_any o583649
    change G _ _ _ _ _ _ _ (.int o583649 :: _) _ _ _
    refine G_widen (cs' := 0) (sl' := 0) (by omega) (by omega) ?_
    have hm583651 : (γ 9 21) ∈ P583419 := RS_m hT ht583460 (by decide)
    obtain ⟨f583653, he583652⟩ := show rk_23 I (F583420 (γ 9 21)) from RS_o hT ht583460
    refine Gp_iast 0 hm583651 he583652 dr_cX17_step_195 rfl (gB_in bp583481 (by decide) (by decide)) (fun F583654 e583655 n583656 => ?_)
    obtain ⟨f583657, hf583657⟩ : ∃ z, z = upd f583653 p583481.toNatClampNeg o583649 := ⟨_, rfl⟩
    rw [← hf583657] at e583655
    have he583658 : F583654 q583421 = .inr (22, [.ref (γ 9 0), .ref (γ 9 1), .ref (γ 9 2), .ref (γ 9 3), .ref (γ 9 4), .ref (γ 9 5), .ref (γ 9 6), .ref (γ 9 7), .ref (γ 9 8), .int p583428, .int p583429, .int p583430, .int p583431, .int p583432, .int p583433, .ref (γ 9 15), .ref (γ 9 16), .ref (γ 9 17), .ref (γ 9 18), .ref (γ 9 19), .ref (γ 9 20), .ref (γ 9 21), .ref (γ 9 22), .int p583434, .int p583435, .int p583436, .int p583437, .int p583438, .ref q583426, .ref (γ 9 29), .int p583439, .ref (γ 9 31), .int p583440, .int p583441, .int p583442, .ref q583427]) := (n583656 q583421 (rn_oa he583425 he583652)).trans he583425
    have he583659 : F583654 q583422 = .inr (20, [.int p583477, .int p583478, .int p583479, .int p583480, .int p583481, .int p583482, .int p583483]) := (n583656 q583422 (rn_oa he583476 he583652)).trans he583476
    have he583660 : F583654 (γ 9 21) = .inl (I .int, 2000, .inl f583657) := e583655
    have hs583661 : rStr γ [] F583420 F583654 := rStr_put (rStr_rf (γ := γ) (W := []) (F := F583420)) n583656 ht583460 (by decide)
    refine G_iconst (-1) dr_cX17_step_196 (by decide +kernel) ?_
    have hT583662 : RS D I P583419 F583654 γ el := RS_set hT n583656 ht583460 (by decide) ⟨f583657, he583660⟩
    have ac583663 : (fI (F583654 q583421) 26).toInt = p583437.toInt := by rw [he583658]; rfl
    have ac583664 : (fI (F583654 q583421) 9).toInt = p583428.toInt := by rw [he583658]; rfl
    have ac583665 : (fI (F583654 q583421) 10).toInt = p583429.toInt := by rw [he583658]; rfl
    have ac583666 : (fI (F583654 q583421) 32).toInt = p583440.toInt := by rw [he583658]; rfl
    exact G_iretA dr_cX17_step_197 rfl (Nat.le_of_ble_eq_true rfl) (Nat.le_of_ble_eq_true rfl) ⟨F583654, (-1), rfl, rfl, hT583662, hs583661, (Nat.le_of_ble_eq_true rfl), (Nat.le_of_ble_eq_true rfl), (gB_w (gBl (show Int32.toInt (-1) = (-1) by decide)) (by decide) (by decide)), (by have qa0 : Int32.toInt (-1) = (-1) := (by decide); omega), (by have qa0 : Int32.toInt (-1) = (-1) := (by decide); omega), (by have qa0 : Int32.toInt (-1) = (-1) := (by decide); omega), (by have qa0 : Int32.toInt (-1) = (-1) := (by decide); omega)⟩
  have ehs583489 := lv_neT hs583489 (show Int32.toInt 0 = 0 by decide)
  have ehs583513 := lv_neT hs583513 (show Int32.toInt 20 = 20 by decide)
  have ehs583581 := lv_neT hs583581 (show Int32.toInt 21 = 21 by decide)
  have ehs583603 := lv_neT hs583603 (show Int32.toInt 22 = 22 by decide)
  have ehs583643 := lv_neT hs583643 (show Int32.toInt 23 = 23 by decide)
  refine G_lookup 221 dr_cX17_step_4 (by decide) (by show Op.lookupswitch.offset [(0, 194), (20, 52), (21, 151), (22, 106), (23, 171)] _ _ = 217; rw [lv_osw hs583489 (show Int32.toInt 0 = 0 by decide), lv_osw hs583513 (show Int32.toInt 20 = 20 by decide), lv_osw hs583581 (show Int32.toInt 21 = 21 by decide), lv_osw hs583603 (show Int32.toInt 22 = 22 by decide), lv_osw hs583643 (show Int32.toInt 23 = 23 by decide)]; first | done | rfl) (by decide) ?_
  refine G_aload_n 1 dr_cX17_step_221 rfl ?_
  refine Gp_get 0 hm583475 he583476 dr_cX17_step_222 (gk_X15 D I) (Nat.le_of_ble_eq_true rfl) wr_9_177 rfl ?_
  refine G_aload_n 0 dr_cX17_step_225 rfl ?_
  refine G_aload_n 1 dr_cX17_step_226 rfl ?_
  refine Gp_get 5 hm583475 he583476 dr_cX17_step_227 (gk_X15 D I) (Nat.le_of_ble_eq_true rfl) wr_9_197 rfl ?_
  refine G_aload_n 1 dr_cX17_step_230 rfl ?_
  refine Gp_get 2 hm583475 he583476 dr_cX17_step_231 (gk_X15 D I) (Nat.le_of_ble_eq_true rfl) wr_9_186 rfl ?_
  refine Gw_callV (As := [.int p583482, .int p583479]) (gV_ok D I) (ct_7532_SpillForgeModel_value l hl0 D I γ el P583419 F583420 q583421 p583482 p583479 hT htq583421 bp583482 (by omega)) dr_cX17_step_234 ⟨wr_11_100, wr_1_14, wr_11_103, by decide, rfl, (Nat.le_of_ble_eq_true rfl), (Nat.le_of_ble_eq_true rfl)⟩ wr_11_102 wr_p_115 hm583424 he583425 rfl (show 0 + 0 ≤ 0 by first | omega | decide) (show 0 + 0 ≤ 0 by first | omega | decide) (Nat.le_of_ble_eq_true rfl) (fun r583670 w583671 dc583667 ds583668 hp583669 => ?_) (fun _ _ _ _ _ z => z.elim)
  obtain ⟨o583672, rfl, rfl, hdc, hds, ht583673⟩ := hp583669
  have bo583672 := gB_any o583672
  change G _ _ _ _ _ _ _ (.int o583672 :: _) _ _ _
  refine G_widen (cs' := 0) (sl' := 0) (by omega) (by omega) ?_
  refine G_aload_n 0 dr_cX17_step_237 rfl ?_
  refine G_aload_n 1 dr_cX17_step_238 rfl ?_
  refine Gp_get 6 hm583475 he583476 dr_cX17_step_239 (gk_X15 D I) (Nat.le_of_ble_eq_true rfl) wr_9_202 rfl ?_
  refine G_aload_n 1 dr_cX17_step_242 rfl ?_
  refine Gp_get 3 hm583475 he583476 dr_cX17_step_243 (gk_X15 D I) (Nat.le_of_ble_eq_true rfl) wr_9_190 rfl ?_
  refine Gw_callV (As := [.int p583483, .int p583480]) (gV_ok D I) (ct_7532_SpillForgeModel_value l hl0 D I γ el P583419 F583420 q583421 p583483 p583480 hT htq583421 bp583483 (by omega)) dr_cX17_step_246 ⟨wr_11_100, wr_1_14, wr_11_103, by decide, rfl, (Nat.le_of_ble_eq_true rfl), (Nat.le_of_ble_eq_true rfl)⟩ wr_11_102 wr_p_115 hm583424 he583425 rfl (show 0 + 0 ≤ 0 by first | omega | decide) (show 0 + 0 ≤ 0 by first | omega | decide) (Nat.le_of_ble_eq_true rfl) (fun r583677 w583678 dc583674 ds583675 hp583676 => ?_) (fun _ _ _ _ _ z => z.elim)
  obtain ⟨o583679, rfl, rfl, hdc, hds, ht583680⟩ := hp583676
  have bo583679 := gB_any o583679
  change G _ _ _ _ _ _ _ (.int o583679 :: _) _ _ _
  refine G_widen (cs' := 0) (sl' := 0) (by omega) (by omega) ?_
  refine Gw_callS (As := [.int p583477, .int o583672, .int o583679]) (gV_ok D I) (cp_2035_SpillForgeModel_result l hl0 D I P583419 F583420 p583477 o583672 o583679 ) dr_cX17_step_249 ⟨wr_11_104, wr_1_14, wr_11_106, by decide, rfl, (Nat.le_of_ble_eq_true rfl), (Nat.le_of_ble_eq_true rfl)⟩ wr_11_105 (show 0 + 0 ≤ 0 by first | omega | decide) (show 0 + 0 ≤ 0 by first | omega | decide) (Nat.le_of_ble_eq_true rfl) (fun r583684 w583685 dc583681 ds583682 hp583683 => ?_) (fun _ _ _ _ _ z => z.elim)
  obtain ⟨ol583686, rfl, rfl, hdc, hds, ht583687⟩ := hp583683
  change G _ _ _ _ _ _ _ (.long ol583686 :: _) _ _ _
  refine G_widen (cs' := 0) (sl' := 0) (by omega) (by omega) ?_
  refine G_lstore_n (L' := [(2, .long ol583686), (0, .ref q583421), (1, .ref q583422)]) dr_cX17_step_252 (Nat.le_of_ble_eq_true rfl) rfl ?_
  refine G_lload_n 0 dr_cX17_step_253 rfl ?_
  refine G_ldc2 4294967296 dr_cX17_step_254 wr_11_107 ?_
  refine G_lcmp dr_cX17_step_257 (G_nam fun z583688 hz583688 => ?_)
  have bz583688 : gB z583688 (-1) 1 := gB_cmp hz583688
  refine G_if_ne 263 dr_cX17_step_258 (by decide +kernel) (fun hc583689 => ?_) (fun hc583689 => ?_)
  · have r583690 : z583688.toInt ≠ 0 := gj_neq hc583689 (show Int32.toInt 0 = 0 by decide)
    have lhc583689 := gC_cmpN hz583688 hc583689
    refine G_aload_n 1 dr_cX17_step_263 rfl ?_
    refine Gp_get 20 hm583424 he583425 dr_cX17_step_264 (gk_X17 D I) (Nat.le_of_ble_eq_true rfl) wr_7_94 rfl ?_
    refine G_aload_n 2 dr_cX17_step_267 rfl ?_
    refine Gp_get 1 hm583475 he583476 dr_cX17_step_268 (gk_X15 D I) (Nat.le_of_ble_eq_true rfl) wr_9_182 rfl ?_
    refine G_lload_n 0 dr_cX17_step_271 rfl ?_
    refine G_l2i dr_cX17_step_272 (G_nam fun z583691 hz583691 => ?_)
    have bz583691 : gB z583691 (-2147483648) 2147483647 := gB_any z583691
    have hm583692 : (γ 9 20) ∈ P583419 := RS_m hT ht583459 (by decide)
    obtain ⟨f583694, he583693⟩ := show rk_22 I (F583420 (γ 9 20)) from RS_o hT ht583459
    refine Gp_iast 0 hm583692 he583693 dr_cX17_step_273 rfl (gB_in bp583478 (by decide) (by decide)) (fun F583695 e583696 n583697 => ?_)
    obtain ⟨f583698, hf583698⟩ : ∃ z, z = upd f583694 p583478.toNatClampNeg z583691 := ⟨_, rfl⟩
    rw [← hf583698] at e583696
    have he583699 : F583695 q583421 = .inr (22, [.ref (γ 9 0), .ref (γ 9 1), .ref (γ 9 2), .ref (γ 9 3), .ref (γ 9 4), .ref (γ 9 5), .ref (γ 9 6), .ref (γ 9 7), .ref (γ 9 8), .int p583428, .int p583429, .int p583430, .int p583431, .int p583432, .int p583433, .ref (γ 9 15), .ref (γ 9 16), .ref (γ 9 17), .ref (γ 9 18), .ref (γ 9 19), .ref (γ 9 20), .ref (γ 9 21), .ref (γ 9 22), .int p583434, .int p583435, .int p583436, .int p583437, .int p583438, .ref q583426, .ref (γ 9 29), .int p583439, .ref (γ 9 31), .int p583440, .int p583441, .int p583442, .ref q583427]) := (n583697 q583421 (rn_oa he583425 he583693)).trans he583425
    have he583700 : F583695 q583422 = .inr (20, [.int p583477, .int p583478, .int p583479, .int p583480, .int p583481, .int p583482, .int p583483]) := (n583697 q583422 (rn_oa he583476 he583693)).trans he583476
    have he583701 : F583695 (γ 9 20) = .inl (I .int, 2000, .inl f583698) := e583696
    have hs583702 : rStr γ [] F583420 F583695 := rStr_put (rStr_rf (γ := γ) (W := []) (F := F583420)) n583697 ht583459 (by decide)
    refine G_iconst (-1) dr_cX17_step_274 (by decide +kernel) ?_
    have hT583703 : RS D I P583419 F583695 γ el := RS_set hT n583697 ht583459 (by decide) ⟨f583698, he583701⟩
    have ac583704 : (fI (F583695 q583421) 26).toInt = p583437.toInt := by rw [he583699]; rfl
    have ac583705 : (fI (F583695 q583421) 9).toInt = p583428.toInt := by rw [he583699]; rfl
    have ac583706 : (fI (F583695 q583421) 10).toInt = p583429.toInt := by rw [he583699]; rfl
    have ac583707 : (fI (F583695 q583421) 32).toInt = p583440.toInt := by rw [he583699]; rfl
    exact G_iretA dr_cX17_step_275 rfl (Nat.le_of_ble_eq_true rfl) (Nat.le_of_ble_eq_true rfl) ⟨F583695, (-1), rfl, rfl, hT583703, hs583702, (Nat.le_of_ble_eq_true rfl), (Nat.le_of_ble_eq_true rfl), (gB_w (gBl (show Int32.toInt (-1) = (-1) by decide)) (by decide) (by decide)), (by have qa0 : Int32.toInt (-1) = (-1) := (by decide); omega), (by have qa0 : Int32.toInt (-1) = (-1) := (by decide); omega), (by have qa0 : Int32.toInt (-1) = (-1) := (by decide); omega), (by have qa0 : Int32.toInt (-1) = (-1) := (by decide); omega)⟩
  · have r583708 : z583688.toInt = 0 := gj_eq hc583689 (show Int32.toInt 0 = 0 by decide)
    have bz583688' : gB z583688 0 0 := ⟨by omega, by omega⟩
    have lhc583689 := gC_cmpE hz583688 hc583689
    refine G_iconst 1 dr_cX17_step_261 (by decide +kernel) ?_
    have ac583709 : (fI (F583420 q583421) 26).toInt = p583437.toInt := by rw [he583425]; rfl
    have ac583710 : (fI (F583420 q583421) 9).toInt = p583428.toInt := by rw [he583425]; rfl
    have ac583711 : (fI (F583420 q583421) 10).toInt = p583429.toInt := by rw [he583425]; rfl
    have ac583712 : (fI (F583420 q583421) 32).toInt = p583440.toInt := by rw [he583425]; rfl
    exact G_iretA dr_cX17_step_262 rfl (Nat.le_of_ble_eq_true rfl) (Nat.le_of_ble_eq_true rfl) ⟨F583420, 1, rfl, rfl, hT, (rStr_rf (γ := γ) (W := []) (F := F583420)), (Nat.le_of_ble_eq_true rfl), (Nat.le_of_ble_eq_true rfl), (gB_w (gBl (show Int32.toInt 1 = 1 by decide)) (by decide) (by decide)), (by have qa0 : Int32.toInt 1 = 1 := (by decide); omega), (by have qa0 : Int32.toInt 1 = 1 := (by decide); omega), (by have qa0 : Int32.toInt 1 = 1 := (by decide); omega), (by have qa0 : Int32.toInt 1 = 1 := (by decide); omega)⟩
