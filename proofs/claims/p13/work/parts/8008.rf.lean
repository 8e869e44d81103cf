section
abbrev ky_581448_SpillForgeModel_feed : gKey := (cX17_feed, 6, "SpillForgeModel", (some FieldType.int), [], "feed", fun _ _ => True)
def pt_581448_SpillForgeModel_feed (D : va_G) (I : FieldType → ClassId) (γ el : Nat → Nat → Nat) (P581440 : List Nat) (F581441 : Nat → va_E) (q581442 : Nat) (p581443 : Int32) (p581444 : Int32) (p581445 : Int32) (p581446 : Int32) (p581447 : Int32) : Option Value → va_W → Nat → Nat → Prop := fun r w dc ds => ∃ (F582452 : Nat → va_E) (o582451 : Int32), r = some (.int o582451) ∧ w = va_pl P581440 F582452 ∧ RS D I P581440 F582452 γ el ∧ rStr γ [99] F581441 F582452 ∧ dc ≤ 0 ∧ ds ≤ 0 ∧ gB o582451 0 8212 ∧ (((fI (F581441 q581442) 32).toInt ≤ 8172 ∧ o582451.toInt = (fI (F581441 q581442) 32).toInt + 20 ∧ (fI (F582452 q581442) 32).toInt = (fI (F581441 q581442) 32).toInt + 20 ∧ (fI (F582452 q581442) 30).toInt = 0) ∨ (8172 < (fI (F581441 q581442) 32).toInt ∧ (fI (F582452 q581442) 30).toInt = 1 ∧ (fI (F582452 q581442) 32).toInt = (fI (F581441 q581442) 32).toInt)) ∧ (fI (F582452 q581442) 9).toInt = (fI (F581441 q581442) 9).toInt ∧ (fI (F582452 q581442) 10).toInt = (fI (F581441 q581442) 10).toInt ∧ tr_RModel_feed D I γ el P581440 F581441 q581442 p581443 p581444 p581445 p581446 p581447 o582451 F582452
set_option maxRecDepth 100000 in
set_option maxHeartbeats 4000000 in
theorem ct_581448_SpillForgeModel_feed (l : Launch) (hl0 : l.stackTraces = false) (D : va_G) (I : FieldType → ClassId) (γ el : Nat → Nat → Nat) (P581440 : List Nat) (F581441 : Nat → va_E) (q581442 : Nat) (p581443 : Int32) (p581444 : Int32) (p581445 : Int32) (p581446 : Int32) (p581447 : Int32) (hT : RS D I P581440 F581441 γ el) (htq581442 : rKd γ q581442 10) : CtA (gV D I) l yX17_feed cX17_feed 6 (some FieldType.int) 1 23 0 0 [.ref q581442, .int p581443, .int p581444, .int p581445, .int p581446, .int p581447] (va_pl P581440 F581441) (pt_581448_SpillForgeModel_feed D I γ el P581440 F581441 q581442 p581443 p581444 p581445 p581446 p581447) gNA := by
  refine CtA_of hl0 (by decide) (Nat.le_of_ble_eq_true rfl) ?_
  have bp581443 := gB_any p581443
  have bp581444 := gB_any p581444
  have bp581445 := gB_any p581445
  have bp581446 := gB_any p581446
  have bp581447 := gB_any p581447
  have hm581449 : q581442 ∈ P581440 := RS_m hT htq581442 (by decide)
  refine rk10_e (show rk_10 γ (F581441 q581442) from RS_o hT htq581442) (fun q581451 q581452 p581453 p581454 p581455 p581456 p581457 p581458 p581459 p581460 p581461 p581462 p581463 p581464 p581465 p581466 p581467 he581450 hB581494 ht581468 ht581469 ht581470 ht581471 ht581472 ht581473 ht581474 ht581475 ht581476 ht581477 ht581478 ht581479 ht581480 ht581481 ht581482 ht581483 ht581484 ht581485 ht581486 ht581487 ht581488 ht581489 ht581490 ht581491 hB581495 => ?_)
  have ac581496 : (fI (F581441 q581442) 9).toInt = p581453.toInt := by rw [he581450]; rfl
  have bp581453 : gB p581453 0 1 := (hB581494.1)
  have ac581497 : (fI (F581441 q581442) 10).toInt = p581454.toInt := by rw [he581450]; rfl
  have bp581454 : gB p581454 0 1 := (hB581494.2.1)
  have ac581498 : (fI (F581441 q581442) 32).toInt = p581465.toInt := by rw [he581450]; rfl
  have bp581465 : gB p581465 0 8192 := (hB581494.2.2.2.2.2.2.2.1)
  have ac581499 : (fI (F581441 q581442) 30).toInt = p581464.toInt := by rw [he581450]; rfl
  have bp581464 : gB p581464 (-2147483648) 2147483647 := (gB_any p581464)
  refine G_aload_n 0 dr_cX17_feed_0 rfl ?_
  refine G_iconst 0 dr_cX17_feed_1 (by decide +kernel) ?_
  refine Gp_put 30 hm581449 he581450 dr_cX17_feed_2 (gk_X17 D I) (Nat.le_of_ble_eq_true rfl) wr_7_104 rfl rfl rfl (Nat.le_of_ble_eq_true rfl) (fun F581500 e581501 n581502 => ?_)
  have he581503 : F581500 q581442 = .inr (22, [.ref (γ 9 0), .ref (γ 9 1), .ref (γ 9 2), .ref (γ 9 3), .ref (γ 9 4), .ref (γ 9 5), .ref (γ 9 6), .ref (γ 9 7), .ref (γ 9 8), .int p581453, .int p581454, .int p581455, .int p581456, .int p581457, .int p581458, .ref (γ 9 15), .ref (γ 9 16), .ref (γ 9 17), .ref (γ 9 18), .ref (γ 9 19), .ref (γ 9 20), .ref (γ 9 21), .ref (γ 9 22), .int p581459, .int p581460, .int p581461, .int p581462, .int p581463, .ref q581451, .ref (γ 9 29), .int 0, .ref (γ 9 31), .int p581465, .int p581466, .int p581467, .ref q581452]) := e581501
  have hs581504 : rStr γ [99] F581441 F581500 := rStr_put (rStr_rf (γ := γ) (W := [99]) (F := F581441)) n581502 htq581442 (by decide)
  have fq581505 : F581500 q581442 = cF (F581441 q581442) 30 (.int 0) := by rw [he581503, he581450]; rfl
  refine G_aload_n 0 dr_cX17_feed_5 rfl ?_
  have fq581506 : fI (F581500 q581442) 32 = p581465 := by rw [he581503]; rfl
  refine Gp_get 32 hm581449 he581503 dr_cX17_feed_6 (gk_X17 D I) (Nat.le_of_ble_eq_true rfl) wr_7_106 rfl ?_
  refine G_bipush 20 dr_cX17_feed_9 (by decide +kernel) ?_
  refine G_iadd dr_cX17_feed_11 (G_nam fun z581507 hz581507 => ?_)
  have ez581507 : z581507.toInt = p581465.toInt + 20 := by rw [gI_add hz581507 bp581465 (gBl (show Int32.toInt 20 = 20 by decide)) (by decide) (by decide), show Int32.toInt 20 = 20 from by decide]
  have bz581507 : gB z581507 20 8212 := gB_add (gI_add hz581507 bp581465 (gBl (show Int32.toInt 20 = 20 by decide)) (by decide) (by decide)) bp581465 (gBl (show Int32.toInt 20 = 20 by decide)) (by decide) (by decide)
  refine G_sipush 8192 dr_cX17_feed_12 (by decide +kernel) ?_
  refine G_icmp_le 24 dr_cX17_feed_15 (by decide +kernel) (fun hc581508 => ?_) (fun hc581508 => ?_)
  · have r581509 : z581507.toInt ≤ 8192 := gj_le hc581508 (show Int32.toInt 8192 = 8192 by decide)
    have bz581507' : gB z581507 20 8192 := ⟨by omega, by omega⟩
    refine G_aload_n 0 dr_cX17_feed_24 rfl ?_
    refine G_iload_n 1 dr_cX17_feed_25 rfl ?_
    refine G_aload_n 0 dr_cX17_feed_26 rfl ?_
    refine Gp_get 32 hm581449 he581503 dr_cX17_feed_27 (gk_X17 D I) (Nat.le_of_ble_eq_true rfl) wr_7_106 rfl ?_
    have hT581510 : RS D I P581440 F581500 γ el := RS_set hT n581502 htq581442 (by decide) ⟨q581451, q581452, p581453, p581454, p581455, p581456, p581457, p581458, p581459, p581460, p581461, p581462, p581463, 0, p581465, p581466, p581467, he581503, ⟨bp581453, bp581454, (hB581494.2.2.1), (hB581494.2.2.2.1), (hB581494.2.2.2.2.1), (hB581494.2.2.2.2.2.1), (hB581494.2.2.2.2.2.2.1), bp581465, (hB581494.2.2.2.2.2.2.2.2)⟩, ht581468, ht581469, ht581470, ht581471, ht581472, ht581473, ht581474, ht581475, ht581476, ht581477, ht581478, ht581479, ht581480, ht581481, ht581482, ht581483, ht581484, ht581485, ht581486, ht581487, ht581488, ht581489, ht581490, ht581491, hB581495⟩
    have ac582009 : (fI (F581500 q581442) 9).toInt = p581453.toInt := by rw [he581503]; rfl
    have ac582010 : (fI (F581500 q581442) 10).toInt = p581454.toInt := by rw [he581503]; rfl
    have ac582011 : (fI (F581500 q581442) 32).toInt = p581465.toInt := by rw [he581503]; rfl
    have ac582012 : (fI (F581500 q581442) 30).toInt = 0 := by rw [he581503]; show Int32.toInt 0 = 0; decide
    refine Gw_callV (As := [.int p581443, .int p581465]) (gV_ok D I) (ct_581516_SpillForgeModel_word l hl0 D I γ el P581440 F581500 q581442 p581443 p581465 hT581510 htq581442 ⟨by omega, by omega⟩) dr_cX17_feed_30 ⟨wr_7_195, wr_1_14, wr_7_198, by decide, rfl, (Nat.le_of_ble_eq_true rfl), (Nat.le_of_ble_eq_true rfl)⟩ wr_7_197 wr_p_74 hm581449 he581503 rfl (show 0 + 0 ≤ 0 by first | omega | decide) (show 0 + 0 ≤ 0 by first | omega | decide) (Nat.le_of_ble_eq_true rfl) (fun r582016 w582017 dc582013 ds582014 hp582015 => ?_) (fun _ _ _ _ _ z => z.elim)
    obtain ⟨F582023, rfl, rfl, hT582024, hs582025, hdc, hds, x582018, x582019, x582020, x582021, ht582022⟩ := hp582015
    have hs582026 : rStr γ [99] F581441 F582023 := rStr_tr hs581504 hs582025
    change G _ _ _ _ _ _ _ _ _ _ _
    refine G_widen (cs' := 0) (sl' := 0) (by omega) (by omega) ?_
    refine G_aload_n 0 dr_cX17_feed_33 rfl ?_
    refine G_iload_n 2 dr_cX17_feed_34 rfl ?_
    refine G_aload_n 0 dr_cX17_feed_35 rfl ?_
    have hm582027 : q581442 ∈ P581440 := RS_m hT582024 htq581442 (by decide)
    refine rk10_e (show rk_10 γ (F582023 q581442) from RS_o hT582024 htq581442) (fun q582029 q582030 p582031 p582032 p582033 p582034 p582035 p582036 p582037 p582038 p582039 p582040 p582041 p582042 p582043 p582044 p582045 he582028 hB582072 ht582046 ht582047 ht582048 ht582049 ht582050 ht582051 ht582052 ht582053 ht582054 ht582055 ht582056 ht582057 ht582058 ht582059 ht582060 ht582061 ht582062 ht582063 ht582064 ht582065 ht582066 ht582067 ht582068 ht582069 hB582073 => ?_)
    have ac582074 : (fI (F582023 q581442) 9).toInt = p582031.toInt := by rw [he582028]; rfl
    have bp582031 : gB p582031 0 1 := (hB582072.1)
    have ac582075 : (fI (F582023 q581442) 10).toInt = p582032.toInt := by rw [he582028]; rfl
    have bp582032 : gB p582032 0 1 := (hB582072.2.1)
    have ac582076 : (fI (F582023 q581442) 32).toInt = p582043.toInt := by rw [he582028]; rfl
    have bp582043 : gB p582043 0 8192 := (hB582072.2.2.2.2.2.2.2.1)
    have ac582077 : (fI (F582023 q581442) 30).toInt = p582042.toInt := by rw [he582028]; rfl
    have bp582042 : gB p582042 (-2147483648) 2147483647 := (gB_any p582042)
    have fq582078 : fI (F582023 q581442) 32 = p582043 := by rw [he582028]; rfl
    refine Gp_get 32 hm582027 he582028 dr_cX17_feed_36 (gk_X17 D I) (Nat.le_of_ble_eq_true rfl) wr_7_106 rfl ?_
    refine G_iconst 4 dr_cX17_feed_39 (by decide +kernel) ?_
    refine G_iadd dr_cX17_feed_40 (G_nam fun z582079 hz582079 => ?_)
    have ez582079 : z582079.toInt = p582043.toInt + 4 := by rw [gI_add hz582079 bp582043 (gBl (show Int32.toInt 4 = 4 by decide)) (by decide) (by decide), show Int32.toInt 4 = 4 from by decide]
    have bz582079 : gB z582079 4 8196 := gB_add (gI_add hz582079 bp582043 (gBl (show Int32.toInt 4 = 4 by decide)) (by decide) (by decide)) bp582043 (gBl (show Int32.toInt 4 = 4 by decide)) (by decide) (by decide)
    have ac582080 : (fI (F582023 q581442) 9).toInt = p582031.toInt := by rw [he582028]; rfl
    have ac582081 : (fI (F582023 q581442) 10).toInt = p582032.toInt := by rw [he582028]; rfl
    have ac582082 : (fI (F582023 q581442) 32).toInt = p582043.toInt := by rw [he582028]; rfl
    have ac582083 : (fI (F582023 q581442) 30).toInt = p582042.toInt := by rw [he582028]; rfl
    refine Gw_callV (As := [.int p581444, .int z582079]) (gV_ok D I) (ct_581516_SpillForgeModel_word l hl0 D I γ el P581440 F582023 q581442 p581444 z582079 hT582024 htq581442 ⟨by omega, by omega⟩) dr_cX17_feed_41 ⟨wr_7_195, wr_1_14, wr_7_198, by decide, rfl, (Nat.le_of_ble_eq_true rfl), (Nat.le_of_ble_eq_true rfl)⟩ wr_7_197 wr_p_74 hm582027 he582028 rfl (show 0 + 0 ≤ 0 by first | omega | decide) (show 0 + 0 ≤ 0 by first | omega | decide) (Nat.le_of_ble_eq_true rfl) (fun r582087 w582088 dc582084 ds582085 hp582086 => ?_) (fun _ _ _ _ _ z => z.elim)
    obtain ⟨F582094, rfl, rfl, hT582095, hs582096, hdc, hds, x582089, x582090, x582091, x582092, ht582093⟩ := hp582086
    have hs582097 : rStr γ [99] F581441 F582094 := rStr_tr hs582026 hs582096
    change G _ _ _ _ _ _ _ _ _ _ _
    refine G_widen (cs' := 0) (sl' := 0) (by omega) (by omega) ?_
    refine G_aload_n 0 dr_cX17_feed_44 rfl ?_
    refine G_iload_n 3 dr_cX17_feed_45 rfl ?_
    refine G_aload_n 0 dr_cX17_feed_46 rfl ?_
    have hm582098 : q581442 ∈ P581440 := RS_m hT582095 htq581442 (by decide)
    refine rk10_e (show rk_10 γ (F582094 q581442) from RS_o hT582095 htq581442) (fun q582100 q582101 p582102 p582103 p582104 p582105 p582106 p582107 p582108 p582109 p582110 p582111 p582112 p582113 p582114 p582115 p582116 he582099 hB582143 ht582117 ht582118 ht582119 ht582120 ht582121 ht582122 ht582123 ht582124 ht582125 ht582126 ht582127 ht582128 ht582129 ht582130 ht582131 ht582132 ht582133 ht582134 ht582135 ht582136 ht582137 ht582138 ht582139 ht582140 hB582144 => ?_)
    have ac582145 : (fI (F582094 q581442) 9).toInt = p582102.toInt := by rw [he582099]; rfl
    have bp582102 : gB p582102 0 1 := (hB582143.1)
    have ac582146 : (fI (F582094 q581442) 10).toInt = p582103.toInt := by rw [he582099]; rfl
    have bp582103 : gB p582103 0 1 := (hB582143.2.1)
    have ac582147 : (fI (F582094 q581442) 32).toInt = p582114.toInt := by rw [he582099]; rfl
    have bp582114 : gB p582114 0 8192 := (hB582143.2.2.2.2.2.2.2.1)
    have ac582148 : (fI (F582094 q581442) 30).toInt = p582113.toInt := by rw [he582099]; rfl
    have bp582113 : gB p582113 (-2147483648) 2147483647 := (gB_any p582113)
    have fq582149 : fI (F582094 q581442) 32 = p582114 := by rw [he582099]; rfl
    refine Gp_get 32 hm582098 he582099 dr_cX17_feed_47 (gk_X17 D I) (Nat.le_of_ble_eq_true rfl) wr_7_106 rfl ?_
    refine G_bipush 8 dr_cX17_feed_50 (by decide +kernel) ?_
    refine G_iadd dr_cX17_feed_52 (G_nam fun z582150 hz582150 => ?_)
    have ez582150 : z582150.toInt = p582114.toInt + 8 := by rw [gI_add hz582150 bp582114 (gBl (show Int32.toInt 8 = 8 by decide)) (by decide) (by decide), show Int32.toInt 8 = 8 from by decide]
    have bz582150 : gB z582150 8 8200 := gB_add (gI_add hz582150 bp582114 (gBl (show Int32.toInt 8 = 8 by decide)) (by decide) (by decide)) bp582114 (gBl (show Int32.toInt 8 = 8 by decide)) (by decide) (by decide)
    have ac582151 : (fI (F582094 q581442) 9).toInt = p582102.toInt := by rw [he582099]; rfl
    have ac582152 : (fI (F582094 q581442) 10).toInt = p582103.toInt := by rw [he582099]; rfl
    have ac582153 : (fI (F582094 q581442) 32).toInt = p582114.toInt := by rw [he582099]; rfl
    have ac582154 : (fI (F582094 q581442) 30).toInt = p582113.toInt := by rw [he582099]; rfl
    refine Gw_callV (As := [.int p581445, .int z582150]) (gV_ok D I) (ct_581516_SpillForgeModel_word l hl0 D I γ el P581440 F582094 q581442 p581445 z582150 hT582095 htq581442 ⟨by omega, by omega⟩) dr_cX17_feed_53 ⟨wr_7_195, wr_1_14, wr_7_198, by decide, rfl, (Nat.le_of_ble_eq_true rfl), (Nat.le_of_ble_eq_true rfl)⟩ wr_7_197 wr_p_74 hm582098 he582099 rfl (show 0 + 0 ≤ 0 by first | omega | decide) (show 0 + 0 ≤ 0 by first | omega | decide) (Nat.le_of_ble_eq_true rfl) (fun r582158 w582159 dc582155 ds582156 hp582157 => ?_) (fun _ _ _ _ _ z => z.elim)
    obtain ⟨F582165, rfl, rfl, hT582166, hs582167, hdc, hds, x582160, x582161, x582162, x582163, ht582164⟩ := hp582157
    have hs582168 : rStr γ [99] F581441 F582165 := rStr_tr hs582097 hs582167
    change G _ _ _ _ _ _ _ _ _ _ _
    refine G_widen (cs' := 0) (sl' := 0) (by omega) (by omega) ?_
    refine G_aload_n 0 dr_cX17_feed_56 rfl ?_
    refine G_iload 4 dr_cX17_feed_57 rfl ?_
    refine G_aload_n 0 dr_cX17_feed_59 rfl ?_
    have hm582169 : q581442 ∈ P581440 := RS_m hT582166 htq581442 (by decide)
    refine rk10_e (show rk_10 γ (F582165 q581442) from RS_o hT582166 htq581442) (fun q582171 q582172 p582173 p582174 p582175 p582176 p582177 p582178 p582179 p582180 p582181 p582182 p582183 p582184 p582185 p582186 p582187 he582170 hB582214 ht582188 ht582189 ht582190 ht582191 ht582192 ht582193 ht582194 ht582195 ht582196 ht582197 ht582198 ht582199 ht582200 ht582201 ht582202 ht582203 ht582204 ht582205 ht582206 ht582207 ht582208 ht582209 ht582210 ht582211 hB582215 => ?_)
    have ac582216 : (fI (F582165 q581442) 9).toInt = p582173.toInt := by rw [he582170]; rfl
    have bp582173 : gB p582173 0 1 := (hB582214.1)
    have ac582217 : (fI (F582165 q581442) 10).toInt = p582174.toInt := by rw [he582170]; rfl
    have bp582174 : gB p582174 0 1 := (hB582214.2.1)
    have ac582218 : (fI (F582165 q581442) 32).toInt = p582185.toInt := by rw [he582170]; rfl
    have bp582185 : gB p582185 0 8192 := (hB582214.2.2.2.2.2.2.2.1)
    have ac582219 : (fI (F582165 q581442) 30).toInt = p582184.toInt := by rw [he582170]; rfl
    have bp582184 : gB p582184 (-2147483648) 2147483647 := (gB_any p582184)
    have fq582220 : fI (F582165 q581442) 32 = p582185 := by rw [he582170]; rfl
    refine Gp_get 32 hm582169 he582170 dr_cX17_feed_60 (gk_X17 D I) (Nat.le_of_ble_eq_true rfl) wr_7_106 rfl ?_
    refine G_bipush 12 dr_cX17_feed_63 (by decide +kernel) ?_
    refine G_iadd dr_cX17_feed_65 (G_nam fun z582221 hz582221 => ?_)
    have ez582221 : z582221.toInt = p582185.toInt + 12 := by rw [gI_add hz582221 bp582185 (gBl (show Int32.toInt 12 = 12 by decide)) (by decide) (by decide), show Int32.toInt 12 = 12 from by decide]
    have bz582221 : gB z582221 12 8204 := gB_add (gI_add hz582221 bp582185 (gBl (show Int32.toInt 12 = 12 by decide)) (by decide) (by decide)) bp582185 (gBl (show Int32.toInt 12 = 12 by decide)) (by decide) (by decide)
    have ac582222 : (fI (F582165 q581442) 9).toInt = p582173.toInt := by rw [he582170]; rfl
    have ac582223 : (fI (F582165 q581442) 10).toInt = p582174.toInt := by rw [he582170]; rfl
    have ac582224 : (fI (F582165 q581442) 32).toInt = p582185.toInt := by rw [he582170]; rfl
    have ac582225 : (fI (F582165 q581442) 30).toInt = p582184.toInt := by rw [he582170]; rfl
    refine Gw_callV (As := [.int p581446, .int z582221]) (gV_ok D I) (ct_581516_SpillForgeModel_word l hl0 D I γ el P581440 F582165 q581442 p581446 z582221 hT582166 htq581442 ⟨by omega, by omega⟩) dr_cX17_feed_66 ⟨wr_7_195, wr_1_14, wr_7_198, by decide, rfl, (Nat.le_of_ble_eq_true rfl), (Nat.le_of_ble_eq_true rfl)⟩ wr_7_197 wr_p_74 hm582169 he582170 rfl (show 0 + 0 ≤ 0 by first | omega | decide) (show 0 + 0 ≤ 0 by first | omega | decide) (Nat.le_of_ble_eq_true rfl) (fun r582229 w582230 dc582226 ds582227 hp582228 => ?_) (fun _ _ _ _ _ z => z.elim)
    obtain ⟨F582236, rfl, rfl, hT582237, hs582238, hdc, hds, x582231, x582232, x582233, x582234, ht582235⟩ := hp582228
    have hs582239 : rStr γ [99] F581441 F582236 := rStr_tr hs582168 hs582238
    change G _ _ _ _ _ _ _ _ _ _ _
    refine G_widen (cs' := 0) (sl' := 0) (by omega) (by omega) ?_
    refine G_aload_n 0 dr_cX17_feed_69 rfl ?_
    refine G_iload 5 dr_cX17_feed_70 rfl ?_
    refine G_aload_n 0 dr_cX17_feed_72 rfl ?_
    have hm582240 : q581442 ∈ P581440 := RS_m hT582237 htq581442 (by decide)
    refine rk10_e (show rk_10 γ (F582236 q581442) from RS_o hT582237 htq581442) (fun q582242 q582243 p582244 p582245 p582246 p582247 p582248 p582249 p582250 p582251 p582252 p582253 p582254 p582255 p582256 p582257 p582258 he582241 hB582285 ht582259 ht582260 ht582261 ht582262 ht582263 ht582264 ht582265 ht582266 ht582267 ht582268 ht582269 ht582270 ht582271 ht582272 ht582273 ht582274 ht582275 ht582276 ht582277 ht582278 ht582279 ht582280 ht582281 ht582282 hB582286 => ?_)
    have ac582287 : (fI (F582236 q581442) 9).toInt = p582244.toInt := by rw [he582241]; rfl
    have bp582244 : gB p582244 0 1 := (hB582285.1)
    have ac582288 : (fI (F582236 q581442) 10).toInt = p582245.toInt := by rw [he582241]; rfl
    have bp582245 : gB p582245 0 1 := (hB582285.2.1)
    have ac582289 : (fI (F582236 q581442) 32).toInt = p582256.toInt := by rw [he582241]; rfl
    have bp582256 : gB p582256 0 8192 := (hB582285.2.2.2.2.2.2.2.1)
    have ac582290 : (fI (F582236 q581442) 30).toInt = p582255.toInt := by rw [he582241]; rfl
    have bp582255 : gB p582255 (-2147483648) 2147483647 := (gB_any p582255)
    have fq582291 : fI (F582236 q581442) 32 = p582256 := by rw [he582241]; rfl
    refine Gp_get 32 hm582240 he582241 dr_cX17_feed_73 (gk_X17 D I) (Nat.le_of_ble_eq_true rfl) wr_7_106 rfl ?_
    refine G_bipush 16 dr_cX17_feed_76 (by decide +kernel) ?_
    refine G_iadd dr_cX17_feed_78 (G_nam fun z582292 hz582292 => ?_)
    have ez582292 : z582292.toInt = p582256.toInt + 16 := by rw [gI_add hz582292 bp582256 (gBl (show Int32.toInt 16 = 16 by decide)) (by decide) (by decide), show Int32.toInt 16 = 16 from by decide]
    have bz582292 : gB z582292 16 8208 := gB_add (gI_add hz582292 bp582256 (gBl (show Int32.toInt 16 = 16 by decide)) (by decide) (by decide)) bp582256 (gBl (show Int32.toInt 16 = 16 by decide)) (by decide) (by decide)
    have ac582293 : (fI (F582236 q581442) 9).toInt = p582244.toInt := by rw [he582241]; rfl
    have ac582294 : (fI (F582236 q581442) 10).toInt = p582245.toInt := by rw [he582241]; rfl
    have ac582295 : (fI (F582236 q581442) 32).toInt = p582256.toInt := by rw [he582241]; rfl
    have ac582296 : (fI (F582236 q581442) 30).toInt = p582255.toInt := by rw [he582241]; rfl
    refine Gw_callV (As := [.int p581447, .int z582292]) (gV_ok D I) (ct_581516_SpillForgeModel_word l hl0 D I γ el P581440 F582236 q581442 p581447 z582292 hT582237 htq581442 ⟨by omega, by omega⟩) dr_cX17_feed_79 ⟨wr_7_195, wr_1_14, wr_7_198, by decide, rfl, (Nat.le_of_ble_eq_true rfl), (Nat.le_of_ble_eq_true rfl)⟩ wr_7_197 wr_p_74 hm582240 he582241 rfl (show 0 + 0 ≤ 0 by first | omega | decide) (show 0 + 0 ≤ 0 by first | omega | decide) (Nat.le_of_ble_eq_true rfl) (fun r582300 w582301 dc582297 ds582298 hp582299 => ?_) (fun _ _ _ _ _ z => z.elim)
    obtain ⟨F582307, rfl, rfl, hT582308, hs582309, hdc, hds, x582302, x582303, x582304, x582305, ht582306⟩ := hp582299
    have hs582310 : rStr γ [99] F581441 F582307 := rStr_tr hs582239 hs582309
    change G _ _ _ _ _ _ _ _ _ _ _
    refine G_widen (cs' := 0) (sl' := 0) (by omega) (by omega) ?_
    refine G_aload_n 0 dr_cX17_feed_82 rfl ?_
    refine G_dup dr_cX17_feed_83 rfl ?_
    have hm582311 : q581442 ∈ P581440 := RS_m hT582308 htq581442 (by decide)
    refine rk10_e (show rk_10 γ (F582307 q581442) from RS_o hT582308 htq581442) (fun q582313 q582314 p582315 p582316 p582317 p582318 p582319 p582320 p582321 p582322 p582323 p582324 p582325 p582326 p582327 p582328 p582329 he582312 hB582356 ht582330 ht582331 ht582332 ht582333 ht582334 ht582335 ht582336 ht582337 ht582338 ht582339 ht582340 ht582341 ht582342 ht582343 ht582344 ht582345 ht582346 ht582347 ht582348 ht582349 ht582350 ht582351 ht582352 ht582353 hB582357 => ?_)
    have ac582358 : (fI (F582307 q581442) 9).toInt = p582315.toInt := by rw [he582312]; rfl
    have bp582315 : gB p582315 0 1 := (hB582356.1)
    have ac582359 : (fI (F582307 q581442) 10).toInt = p582316.toInt := by rw [he582312]; rfl
    have bp582316 : gB p582316 0 1 := (hB582356.2.1)
    have ac582360 : (fI (F582307 q581442) 32).toInt = p582327.toInt := by rw [he582312]; rfl
    have bp582327 : gB p582327 0 8192 := (hB582356.2.2.2.2.2.2.2.1)
    have ac582361 : (fI (F582307 q581442) 30).toInt = p582326.toInt := by rw [he582312]; rfl
    have bp582326 : gB p582326 (-2147483648) 2147483647 := (gB_any p582326)
    have fq582362 : fI (F582307 q581442) 32 = p582327 := by rw [he582312]; rfl
    refine Gp_get 32 hm582311 he582312 dr_cX17_feed_84 (gk_X17 D I) (Nat.le_of_ble_eq_true rfl) wr_7_106 rfl ?_
    refine G_bipush 20 dr_cX17_feed_87 (by decide +kernel) ?_
    refine G_iadd dr_cX17_feed_89 (G_nam fun z582363 hz582363 => ?_)
    have ez582363 : z582363.toInt = p582327.toInt + 20 := by rw [gI_add hz582363 bp582327 (gBl (show Int32.toInt 20 = 20 by decide)) (by decide) (by decide), show Int32.toInt 20 = 20 from by decide]
    have bz582363 : gB z582363 20 8212 := gB_add (gI_add hz582363 bp582327 (gBl (show Int32.toInt 20 = 20 by decide)) (by decide) (by decide)) bp582327 (gBl (show Int32.toInt 20 = 20 by decide)) (by decide) (by decide)
    refine Gp_put 32 hm582311 he582312 dr_cX17_feed_90 (gk_X17 D I) (Nat.le_of_ble_eq_true rfl) wr_7_106 rfl rfl rfl (Nat.le_of_ble_eq_true rfl) (fun F582364 e582365 n582366 => ?_)
    have he582367 : F582364 q581442 = .inr (22, [.ref (γ 9 0), .ref (γ 9 1), .ref (γ 9 2), .ref (γ 9 3), .ref (γ 9 4), .ref (γ 9 5), .ref (γ 9 6), .ref (γ 9 7), .ref (γ 9 8), .int p582315, .int p582316, .int p582317, .int p582318, .int p582319, .int p582320, .ref (γ 9 15), .ref (γ 9 16), .ref (γ 9 17), .ref (γ 9 18), .ref (γ 9 19), .ref (γ 9 20), .ref (γ 9 21), .ref (γ 9 22), .int p582321, .int p582322, .int p582323, .int p582324, .int p582325, .ref q582313, .ref (γ 9 29), .int p582326, .ref (γ 9 31), .int z582363, .int p582328, .int p582329, .ref q582314]) := e582365
    have hs582368 : rStr γ [99] F581441 F582364 := rStr_put hs582310 n582366 htq581442 (by decide)
    have fq582369 : F582364 q581442 = cF (F582307 q581442) 32 (.int z582363) := by rw [he582367, he582312]; rfl
    refine G_aload_n 0 dr_cX17_feed_93 rfl ?_
    have fq582370 : fI (F582364 q581442) 32 = z582363 := by rw [he582367]; rfl
    refine Gp_get 32 hm582311 he582367 dr_cX17_feed_94 (gk_X17 D I) (Nat.le_of_ble_eq_true rfl) wr_7_106 rfl ?_
    have hT582371 : RS D I P581440 F582364 γ el := RS_set hT582308 n582366 htq581442 (by decide) ⟨q582313, q582314, p582315, p582316, p582317, p582318, p582319, p582320, p582321, p582322, p582323, p582324, p582325, p582326, z582363, p582328, p582329, he582367, ⟨bp582315, bp582316, (hB582356.2.2.1), (hB582356.2.2.2.1), (hB582356.2.2.2.2.1), (hB582356.2.2.2.2.2.1), (hB582356.2.2.2.2.2.2.1), ⟨by omega, by omega⟩, (hB582356.2.2.2.2.2.2.2.2)⟩, ht582330, ht582331, ht582332, ht582333, ht582334, ht582335, ht582336, ht582337, ht582338, ht582339, ht582340, ht582341, ht582342, ht582343, ht582344, ht582345, ht582346, ht582347, ht582348, ht582349, ht582350, ht582351, ht582352, ht582353, hB582357⟩
    have ac582372 : (fI (F582364 q581442) 9).toInt = p582315.toInt := by rw [he582367]; rfl
    have ac582373 : (fI (F582364 q581442) 10).toInt = p582316.toInt := by rw [he582367]; rfl
    have ac582374 : (fI (F582364 q581442) 32).toInt = z582363.toInt := by rw [he582367]; rfl
    have ac582375 : (fI (F582364 q581442) 30).toInt = p582326.toInt := by rw [he582367]; rfl
    exact G_iretA dr_cX17_feed_97 rfl (Nat.le_of_ble_eq_true rfl) (Nat.le_of_ble_eq_true rfl) ⟨F582364, z582363, rfl, rfl, hT582371, hs582368, (Nat.le_of_ble_eq_true rfl), (Nat.le_of_ble_eq_true rfl), (gB_w bz582363 (by decide) (by decide)), (by omega), (by omega), (by omega), (fun R c1 c2 => c1 F581500 p581465 z581507 F582023 p582043 z582079 F582094 p582114 z582150 F582165 p582185 z582221 F582236 p582256 z582292 F582307 p582327 z582363 F582364 n581502 fq581505 fq581506 ez581507 r581509 hT582024 hs582025 x582018 x582019 x582020 x582021 ht582022 fq582078 ez582079 hT582095 hs582096 x582089 x582090 x582091 x582092 ht582093 fq582149 ez582150 hT582166 hs582167 x582160 x582161 x582162 x582163 ht582164 fq582220 ez582221 hT582237 hs582238 x582231 x582232 x582233 x582234 ht582235 fq582291 ez582292 hT582308 hs582309 x582302 x582303 x582304 x582305 ht582306 fq582362 ez582363 n582366 fq582369 fq582370)⟩
  · have r582376 : 8192 < z581507.toInt := gj_nle hc581508 (show Int32.toInt 8192 = 8192 by decide)
    have bz581507' : gB z581507 8193 8212 := ⟨by omega, by omega⟩
    refine G_aload_n 0 dr_cX17_feed_18 rfl ?_
    refine G_iconst 1 dr_cX17_feed_19 (by decide +kernel) ?_
    have hT582377 : RS D I P581440 F581500 γ el := RS_set hT n581502 htq581442 (by decide) ⟨q581451, q581452, p581453, p581454, p581455, p581456, p581457, p581458, p581459, p581460, p581461, p581462, p581463, 0, p581465, p581466, p581467, he581503, ⟨bp581453, bp581454, (hB581494.2.2.1), (hB581494.2.2.2.1), (hB581494.2.2.2.2.1), (hB581494.2.2.2.2.2.1), (hB581494.2.2.2.2.2.2.1), bp581465, (hB581494.2.2.2.2.2.2.2.2)⟩, ht581468, ht581469, ht581470, ht581471, ht581472, ht581473, ht581474, ht581475, ht581476, ht581477, ht581478, ht581479, ht581480, ht581481, ht581482, ht581483, ht581484, ht581485, ht581486, ht581487, ht581488, ht581489, ht581490, ht581491, hB581495⟩
    have ac582378 : (fI (F581500 q581442) 9).toInt = p581453.toInt := by rw [he581503]; rfl
    have ac582379 : (fI (F581500 q581442) 10).toInt = p581454.toInt := by rw [he581503]; rfl
    have ac582380 : (fI (F581500 q581442) 32).toInt = p581465.toInt := by rw [he581503]; rfl
    have ac582381 : (fI (F581500 q581442) 30).toInt = 0 := by rw [he581503]; show Int32.toInt 0 = 0; decide
    refine Gw_callV (As := [.int 1]) (gV_ok D I) (ct_581027_SpillForgeModel_no l hl0 D I γ el P581440 F581500 q581442 1 hT582377 htq581442) dr_cX17_feed_20 ⟨wr_7_191, wr_1_14, wr_7_194, by decide, rfl, (Nat.le_of_ble_eq_true rfl), (Nat.le_of_ble_eq_true rfl)⟩ wr_7_193 wr_p_73 hm581449 he581503 rfl (show 0 + 0 ≤ 0 by first | omega | decide) (show 0 + 0 ≤ 0 by first | omega | decide) (Nat.le_of_ble_eq_true rfl) (fun r582385 w582386 dc582382 ds582383 hp582384 => ?_) (fun _ _ _ _ _ z => z.elim)
    obtain ⟨F582392, rfl, rfl, hT582393, hs582394, hdc, hds, x582387, x582388, x582389, x582390, ht582391⟩ := hp582384
    have hs582395 : rStr γ [99] F581441 F582392 := rStr_tr hs581504 (rStr_w hs582394 (by decide))
    rw [show Int32.toInt 1 = 1 from by decide] at x582390
    change G _ _ _ _ _ _ _ (.int 0 :: _) _ _ _
    refine G_widen (cs' := 0) (sl' := 0) (by omega) (by omega) ?_
    have hm582396 : q581442 ∈ P581440 := RS_m hT582393 htq581442 (by decide)
    refine rk10_e (show rk_10 γ (F582392 q581442) from RS_o hT582393 htq581442) (fun q582398 q582399 p582400 p582401 p582402 p582403 p582404 p582405 p582406 p582407 p582408 p582409 p582410 p582411 p582412 p582413 p582414 he582397 hB582441 ht582415 ht582416 ht582417 ht582418 ht582419 ht582420 ht582421 ht582422 ht582423 ht582424 ht582425 ht582426 ht582427 ht582428 ht582429 ht582430 ht582431 ht582432 ht582433 ht582434 ht582435 ht582436 ht582437 ht582438 hB582442 => ?_)
    have ac582443 : (fI (F582392 q581442) 9).toInt = p582400.toInt := by rw [he582397]; rfl
    have bp582400 : gB p582400 0 1 := (hB582441.1)
    have ac582444 : (fI (F582392 q581442) 10).toInt = p582401.toInt := by rw [he582397]; rfl
    have bp582401 : gB p582401 0 1 := (hB582441.2.1)
    have ac582445 : (fI (F582392 q581442) 32).toInt = p582412.toInt := by rw [he582397]; rfl
    have bp582412 : gB p582412 0 8192 := (hB582441.2.2.2.2.2.2.2.1)
    have ac582446 : (fI (F582392 q581442) 30).toInt = p582411.toInt := by rw [he582397]; rfl
    have bp582411 : gB p582411 (-2147483648) 2147483647 := (gB_any p582411)
    have ac582447 : (fI (F582392 q581442) 9).toInt = p582400.toInt := by rw [he582397]; rfl
    have ac582448 : (fI (F582392 q581442) 10).toInt = p582401.toInt := by rw [he582397]; rfl
    have ac582449 : (fI (F582392 q581442) 32).toInt = p582412.toInt := by rw [he582397]; rfl
    have ac582450 : (fI (F582392 q581442) 30).toInt = p582411.toInt := by rw [he582397]; rfl
    exact G_iretA dr_cX17_feed_23 rfl (Nat.le_of_ble_eq_true rfl) (Nat.le_of_ble_eq_true rfl) ⟨F582392, 0, rfl, rfl, hT582393, hs582395, (Nat.le_of_ble_eq_true rfl), (Nat.le_of_ble_eq_true rfl), (gB_w (gBl (show Int32.toInt 0 = 0 by decide)) (by decide) (by decide)), (by have qa0 : Int32.toInt 0 = 0 := (by decide); omega), (by have qa0 : Int32.toInt 0 = 0 := (by decide); omega), (by have qa0 : Int32.toInt 0 = 0 := (by decide); omega), (fun R c1 c2 => c2 F581500 p581465 z581507 F582392 n581502 fq581505 fq581506 ez581507 r582376 hT582393 hs582394 x582387 x582388 x582389 x582390 ht582391)⟩
/- tr_RModel_end: result, F -/
def tr_RModel_end (D : va_G) (I : FieldType → ClassId) (γ el : Nat → Nat → Nat) (P : List Nat) (F : Nat → va_E) (q0 : Nat) (a1 : Int32) (o1 : Int32) (o2 : Nat → va_E) : Prop := ∀ R : (Int32) → (Nat → va_E) → Prop,
  (∀ (x1 : Nat → va_E) (x2 : Nat → va_E), (∀ b, b ≠ q0 → x1 b = F b) → x1 q0 = cF (F q0) 30 (.int 0) → a1.toInt < 0 → RS D I P x2 γ el → rStr γ [] x1 x2 → (fI (x2 q0) 9).toInt = (fI (x1 q0) 9).toInt → (fI (x2 q0) 10).toInt = (fI (x1 q0) 10).toInt → (fI (x2 q0) 32).toInt = (fI (x1 q0) 32).toInt → (fI (x2 q0) 30).toInt = 1 → tr_RModel_no D I γ el x1 q0 (1 : Int32) x2 → R (0 : Int32) x2) →
  (∀ (x1 : Nat → va_E) (x2 : Int32) (x3 : Nat → va_E), (∀ b, b ≠ q0 → x1 b = F b) → x1 q0 = cF (F q0) 30 (.int 0) → 0 ≤ a1.toInt → fI (x1 q0) 32 = x2 → a1.toInt ≤ x2.toInt → (∀ b, b ≠ q0 → x3 b = x1 b) → x3 q0 = cF (x1 q0) 32 (.int a1) → R a1 x3) →
  (∀ (x1 : Nat → va_E) (x2 : Int32) (x3 : Nat → va_E), (∀ b, b ≠ q0 → x1 b = F b) → x1 q0 = cF (F q0) 30 (.int 0) → 0 ≤ a1.toInt → fI (x1 q0) 32 = x2 → x2.toInt < a1.toInt → RS D I P x3 γ el → rStr γ [] x1 x3 → (fI (x3 q0) 9).toInt = (fI (x1 q0) 9).toInt → (fI (x3 q0) 10).toInt = (fI (x1 q0) 10).toInt → (fI (x3 q0) 32).toInt = (fI (x1 q0) 32).toInt → (fI (x3 q0) 30).toInt = 1 → tr_RModel_no D I γ el x1 q0 (1 : Int32) x3 → R (0 : Int32) x3) →
  R o1 o2
abbrev ky_582457_SpillForgeModel_end : gKey := (cX17_end, 2, "SpillForgeModel", (some FieldType.int), [], "end", fun _ _ => True)
def pt_582457_SpillForgeModel_end (D : va_G) (I : FieldType → ClassId) (γ el : Nat → Nat → Nat) (P582453 : List Nat) (F582454 : Nat → va_E) (q582455 : Nat) (p582456 : Int32) : Option Value → va_W → Nat → Nat → Prop := fun r w dc ds => ∃ (F582683 : Nat → va_E) (o582682 : Int32), r = some (.int o582682) ∧ w = va_pl P582453 F582683 ∧ RS D I P582453 F582683 γ el ∧ rStr γ [] F582454 F582683 ∧ dc ≤ 0 ∧ ds ≤ 0 ∧ gB o582682 0 8192 ∧ ((0 ≤ p582456.toInt ∧ p582456.toInt ≤ (fI (F582454 q582455) 32).toInt ∧ o582682.toInt = p582456.toInt ∧ (fI (F582683 q582455) 32).toInt = p582456.toInt ∧ (fI (F582683 q582455) 30).toInt = 0) ∨ ((p582456.toInt < 0 ∨ (fI (F582454 q582455) 32).toInt < p582456.toInt) ∧ (fI (F582683 q582455) 30).toInt = 1 ∧ (fI (F582683 q582455) 32).toInt = (fI (F582454 q582455) 32).toInt)) ∧ (fI (F582683 q582455) 9).toInt = (fI (F582454 q582455) 9).toInt ∧ (fI (F582683 q582455) 10).toInt = (fI (F582454 q582455) 10).toInt ∧ tr_RModel_end D I γ el P582453 F582454 q582455 p582456 o582682 F582683
set_option maxRecDepth 100000 in
set_option maxHeartbeats 4000000 in
theorem ct_582457_SpillForgeModel_end (l : Launch) (hl0 : l.stackTraces = false) (D : va_G) (I : FieldType → ClassId) (γ el : Nat → Nat → Nat) (P582453 : List Nat) (F582454 : Nat → va_E) (q582455 : Nat) (p582456 : Int32) (hT : RS D I P582453 F582454 γ el) (htq582455 : rKd γ q582455 10) : CtA (gV D I) l yX17_end cX17_end 2 (some FieldType.int) 1 21 0 0 [.ref q582455, .int p582456] (va_pl P582453 F582454) (pt_582457_SpillForgeModel_end D I γ el P582453 F582454 q582455 p582456) gNA := by
  refine CtA_of hl0 (by decide) (Nat.le_of_ble_eq_true rfl) ?_
  have bp582456 := gB_any p582456
  have hm582458 : q582455 ∈ P582453 := RS_m hT htq582455 (by decide)
  refine rk10_e (show rk_10 γ (F582454 q582455) from RS_o hT htq582455) (fun q582460 q582461 p582462 p582463 p582464 p582465 p582466 p582467 p582468 p582469 p582470 p582471 p582472 p582473 p582474 p582475 p582476 he582459 hB582503 ht582477 ht582478 ht582479 ht582480 ht582481 ht582482 ht582483 ht582484 ht582485 ht582486 ht582487 ht582488 ht582489 ht582490 ht582491 ht582492 ht582493 ht582494 ht582495 ht582496 ht582497 ht582498 ht582499 ht582500 hB582504 => ?_)
  have ac582505 : (fI (F582454 q582455) 9).toInt = p582462.toInt := by rw [he582459]; rfl
  have bp582462 : gB p582462 0 1 := (hB582503.1)
  have ac582506 : (fI (F582454 q582455) 10).toInt = p582463.toInt := by rw [he582459]; rfl
  have bp582463 : gB p582463 0 1 := (hB582503.2.1)
  have ac582507 : (fI (F582454 q582455) 32).toInt = p582474.toInt := by rw [he582459]; rfl
  have bp582474 : gB p582474 0 8192 := (hB582503.2.2.2.2.2.2.2.1)
  have ac582508 : (fI (F582454 q582455) 30).toInt = p582473.toInt := by rw [he582459]; rfl
  have bp582473 : gB p582473 (-2147483648) 2147483647 := (gB_any p582473)
  refine G_aload_n 0 dr_cX17_end_0 rfl ?_
  refine G_iconst 0 dr_cX17_end_1 (by decide +kernel) ?_
  refine Gp_put 30 hm582458 he582459 dr_cX17_end_2 (gk_X17 D I) (Nat.le_of_ble_eq_true rfl) wr_7_104 rfl rfl rfl (Nat.le_of_ble_eq_true rfl) (fun F582509 e582510 n582511 => ?_)
  have he582512 : F582509 q582455 = .inr (22, [.ref (γ 9 0), .ref (γ 9 1), .ref (γ 9 2), .ref (γ 9 3), .ref (γ 9 4), .ref (γ 9 5), .ref (γ 9 6), .ref (γ 9 7), .ref (γ 9 8), .int p582462, .int p582463, .int p582464, .int p582465, .int p582466, .int p582467, .ref (γ 9 15), .ref (γ 9 16), .ref (γ 9 17), .ref (γ 9 18), .ref (γ 9 19), .ref (γ 9 20), .ref (γ 9 21), .ref (γ 9 22), .int p582468, .int p582469, .int p582470, .int p582471, .int p582472, .ref q582460, .ref (γ 9 29), .int 0, .ref (γ 9 31), .int p582474, .int p582475, .int p582476, .ref q582461]) := e582510
  have hs582513 : rStr γ [] F582454 F582509 := rStr_put (rStr_rf (γ := γ) (W := []) (F := F582454)) n582511 htq582455 (by decide)
  have fq582514 : F582509 q582455 = cF (F582454 q582455) 30 (.int 0) := by rw [he582512, he582459]; rfl
  refine G_iload_n 1 dr_cX17_end_5 rfl ?_
  refine G_if_lt 17 dr_cX17_end_6 (by decide +kernel) (fun hc582515 => ?_) (fun hc582515 => ?_)
  · have r582516 : p582456.toInt < 0 := gj_lt hc582515 (show Int32.toInt 0 = 0 by decide)
    have bp582456' : gB p582456 (-2147483648) (-1) := ⟨by omega, by omega⟩
    refine G_aload_n 0 dr_cX17_end_17 rfl ?_
    refine G_iconst 1 dr_cX17_end_18 (by decide +kernel) ?_
    have hT582517 : RS D I P582453 F582509 γ el := RS_set hT n582511 htq582455 (by decide) ⟨q582460, q582461, p582462, p582463, p582464, p582465, p582466, p582467, p582468, p582469, p582470, p582471, p582472, 0, p582474, p582475, p582476, he582512, ⟨bp582462, bp582463, (hB582503.2.2.1), (hB582503.2.2.2.1), (hB582503.2.2.2.2.1), (hB582503.2.2.2.2.2.1), (hB582503.2.2.2.2.2.2.1), bp582474, (hB582503.2.2.2.2.2.2.2.2)⟩, ht582477, ht582478, ht582479, ht582480, ht582481, ht582482, ht582483, ht582484, ht582485, ht582486, ht582487, ht582488, ht582489, ht582490, ht582491, ht582492, ht582493, ht582494, ht582495, ht582496, ht582497, ht582498, ht582499, ht582500, hB582504⟩
    have ac582518 : (fI (F582509 q582455) 9).toInt = p582462.toInt := by rw [he582512]; rfl
    have ac582519 : (fI (F582509 q582455) 10).toInt = p582463.toInt := by rw [he582512]; rfl
    have ac582520 : (fI (F582509 q582455) 32).toInt = p582474.toInt := by rw [he582512]; rfl
    have ac582521 : (fI (F582509 q582455) 30).toInt = 0 := by rw [he582512]; show Int32.toInt 0 = 0; decide
    refine Gw_callV (As := [.int 1]) (gV_ok D I) (ct_581027_SpillForgeModel_no l hl0 D I γ el P582453 F582509 q582455 1 hT582517 htq582455) dr_cX17_end_19 ⟨wr_7_191, wr_1_14, wr_7_194, by decide, rfl, (Nat.le_of_ble_eq_true rfl), (Nat.le_of_ble_eq_true rfl)⟩ wr_7_193 wr_p_73 hm582458 he582512 rfl (show 0 + 0 ≤ 0 by first | omega | decide) (show 0 + 0 ≤ 0 by first | omega | decide) (Nat.le_of_ble_eq_true rfl) (fun r582525 w582526 dc582522 ds582523 hp582524 => ?_) (fun _ _ _ _ _ z => z.elim)
    obtain ⟨F582532, rfl, rfl, hT582533, hs582534, hdc, hds, x582527, x582528, x582529, x582530, ht582531⟩ := hp582524
    have hs582535 : rStr γ [] F582454 F582532 := rStr_tr hs582513 hs582534
    rw [show Int32.toInt 1 = 1 from by decide] at x582530
    change G _ _ _ _ _ _ _ (.int 0 :: _) _ _ _
    refine G_widen (cs' := 0) (sl' := 0) (by omega) (by omega) ?_
    have hm582536 : q582455 ∈ P582453 := RS_m hT582533 htq582455 (by decide)
    refine rk10_e (show rk_10 γ (F582532 q582455) from RS_o hT582533 htq582455) (fun q582538 q582539 p582540 p582541 p582542 p582543 p582544 p582545 p582546 p582547 p582548 p582549 p582550 p582551 p582552 p582553 p582554 he582537 hB582581 ht582555 ht582556 ht582557 ht582558 ht582559 ht582560 ht582561 ht582562 ht582563 ht582564 ht582565 ht582566 ht582567 ht582568 ht582569 ht582570 ht582571 ht582572 ht582573 ht582574 ht582575 ht582576 ht582577 ht582578 hB582582 => ?_)
    have ac582583 : (fI (F582532 q582455) 9).toInt = p582540.toInt := by rw [he582537]; rfl
    have bp582540 : gB p582540 0 1 := (hB582581.1)
    have ac582584 : (fI (F582532 q582455) 10).toInt = p582541.toInt := by rw [he582537]; rfl
    have bp582541 : gB p582541 0 1 := (hB582581.2.1)
    have ac582585 : (fI (F582532 q582455) 32).toInt = p582552.toInt := by rw [he582537]; rfl
    have bp582552 : gB p582552 0 8192 := (hB582581.2.2.2.2.2.2.2.1)
    have ac582586 : (fI (F582532 q582455) 30).toInt = p582551.toInt := by rw [he582537]; rfl
    have bp582551 : gB p582551 (-2147483648) 2147483647 := (gB_any p582551)
    have ac582587 : (fI (F582532 q582455) 9).toInt = p582540.toInt := by rw [he582537]; rfl
    have ac582588 : (fI (F582532 q582455) 10).toInt = p582541.toInt := by rw [he582537]; rfl
    have ac582589 : (fI (F582532 q582455) 32).toInt = p582552.toInt := by rw [he582537]; rfl
    have ac582590 : (fI (F582532 q582455) 30).toInt = p582551.toInt := by rw [he582537]; rfl
    exact G_iretA dr_cX17_end_22 rfl (Nat.le_of_ble_eq_true rfl) (Nat.le_of_ble_eq_true rfl) ⟨F582532, 0, rfl, rfl, hT582533, hs582535, (Nat.le_of_ble_eq_true rfl), (Nat.le_of_ble_eq_true rfl), (gB_w (gBl (show Int32.toInt 0 = 0 by decide)) (by decide) (by decide)), (by have qa0 : Int32.toInt 0 = 0 := (by decide); omega), (by have qa0 : Int32.toInt 0 = 0 := (by decide); omega), (by have qa0 : Int32.toInt 0 = 0 := (by decide); omega), (fun R c1 c2 c3 => c1 F582509 F582532 n582511 fq582514 r582516 hT582533 hs582534 x582527 x582528 x582529 x582530 ht582531)⟩
  · have r582591 : 0 ≤ p582456.toInt := gj_nlt hc582515 (show Int32.toInt 0 = 0 by decide)
    have bp582456' : gB p582456 0 2147483647 := ⟨by omega, by omega⟩
    refine G_iload_n 1 dr_cX17_end_9 rfl ?_
    refine G_aload_n 0 dr_cX17_end_10 rfl ?_
    have fq582592 : fI (F582509 q582455) 32 = p582474 := by rw [he582512]; rfl
    refine Gp_get 32 hm582458 he582512 dr_cX17_end_11 (gk_X17 D I) (Nat.le_of_ble_eq_true rfl) wr_7_106 rfl ?_
    refine G_icmp_le 23 dr_cX17_end_14 (by decide +kernel) (fun hc582593 => ?_) (fun hc582593 => ?_)
    · have r582594 : p582456.toInt ≤ p582474.toInt := gC_le hc582593
      have bp582456'' : gB p582456 0 8192 := ⟨by omega, by omega⟩
      refine G_aload_n 0 dr_cX17_end_23 rfl ?_
      refine G_iload_n 1 dr_cX17_end_24 rfl ?_
      refine Gp_put 32 hm582458 he582512 dr_cX17_end_25 (gk_X17 D I) (Nat.le_of_ble_eq_true rfl) wr_7_106 rfl rfl rfl (Nat.le_of_ble_eq_true rfl) (fun F582595 e582596 n582597 => ?_)
      have he582598 : F582595 q582455 = .inr (22, [.ref (γ 9 0), .ref (γ 9 1), .ref (γ 9 2), .ref (γ 9 3), .ref (γ 9 4), .ref (γ 9 5), .ref (γ 9 6), .ref (γ 9 7), .ref (γ 9 8), .int p582462, .int p582463, .int p582464, .int p582465, .int p582466, .int p582467, .ref (γ 9 15), .ref (γ 9 16), .ref (γ 9 17), .ref (γ 9 18), .ref (γ 9 19), .ref (γ 9 20), .ref (γ 9 21), .ref (γ 9 22), .int p582468, .int p582469, .int p582470, .int p582471, .int p582472, .ref q582460, .ref (γ 9 29), .int 0, .ref (γ 9 31), .int p582456, .int p582475, .int p582476, .ref q582461]) := e582596
      have hs582599 : rStr γ [] F582454 F582595 := rStr_put hs582513 n582597 htq582455 (by decide)
      have n582600 : ∀ b, b ≠ q582455 → F582595 b = F582454 b := fun b hb => (n582597 b hb).trans (n582511 b hb)
      have fq582601 : F582595 q582455 = cF (F582509 q582455) 32 (.int p582456) := by rw [he582598, he582512]; rfl
      refine G_iload_n 1 dr_cX17_end_28 rfl ?_
      have hT582602 : RS D I P582453 F582595 γ el := RS_set hT n582600 htq582455 (by decide) ⟨q582460, q582461, p582462, p582463, p582464, p582465, p582466, p582467, p582468, p582469, p582470, p582471, p582472, 0, p582456, p582475, p582476, he582598, ⟨bp582462, bp582463, (hB582503.2.2.1), (hB582503.2.2.2.1), (hB582503.2.2.2.2.1), (hB582503.2.2.2.2.2.1), (hB582503.2.2.2.2.2.2.1), bp582456'', (hB582503.2.2.2.2.2.2.2.2)⟩, ht582477, ht582478, ht582479, ht582480, ht582481, ht582482, ht582483, ht582484, ht582485, ht582486, ht582487, ht582488, ht582489, ht582490, ht582491, ht582492, ht582493, ht582494, ht582495, ht582496, ht582497, ht582498, ht582499, ht582500, hB582504⟩
      have ac582603 : (fI (F582595 q582455) 9).toInt = p582462.toInt := by rw [he582598]; rfl
      have ac582604 : (fI (F582595 q582455) 10).toInt = p582463.toInt := by rw [he582598]; rfl
      have ac582605 : (fI (F582595 q582455) 32).toInt = p582456.toInt := by rw [he582598]; rfl
      have ac582606 : (fI (F582595 q582455) 30).toInt = 0 := by rw [he582598]; show Int32.toInt 0 = 0; decide
      exact G_iretA dr_cX17_end_29 rfl (Nat.le_of_ble_eq_true rfl) (Nat.le_of_ble_eq_true rfl) ⟨F582595, p582456, rfl, rfl, hT582602, hs582599, (Nat.le_of_ble_eq_true rfl), (Nat.le_of_ble_eq_true rfl), bp582456'', (by omega), (by omega), (by omega), (fun R c1 c2 c3 => c2 F582509 p582474 F582595 n582511 fq582514 r582591 fq582592 r582594 n582597 fq582601)⟩
    · have r582607 : p582474.toInt < p582456.toInt := gC_nle hc582593
      have bp582456'' : gB p582456 1 2147483647 := ⟨by omega, by omega⟩
      refine G_aload_n 0 dr_cX17_end_17 rfl ?_
      refine G_iconst 1 dr_cX17_end_18 (by decide +kernel) ?_
      have hT582608 : RS D I P582453 F582509 γ el := RS_set hT n582511 htq582455 (by decide) ⟨q582460, q582461, p582462, p582463, p582464, p582465, p582466, p582467, p582468, p582469, p582470, p582471, p582472, 0, p582474, p582475, p582476, he582512, ⟨bp582462, bp582463, (hB582503.2.2.1), (hB582503.2.2.2.1), (hB582503.2.2.2.2.1), (hB582503.2.2.2.2.2.1), (hB582503.2.2.2.2.2.2.1), bp582474, (hB582503.2.2.2.2.2.2.2.2)⟩, ht582477, ht582478, ht582479, ht582480, ht582481, ht582482, ht582483, ht582484, ht582485, ht582486, ht582487, ht582488, ht582489, ht582490, ht582491, ht582492, ht582493, ht582494, ht582495, ht582496, ht582497, ht582498, ht582499, ht582500, hB582504⟩
      have ac582609 : (fI (F582509 q582455) 9).toInt = p582462.toInt := by rw [he582512]; rfl
      have ac582610 : (fI (F582509 q582455) 10).toInt = p582463.toInt := by rw [he582512]; rfl
      have ac582611 : (fI (F582509 q582455) 32).toInt = p582474.toInt := by rw [he582512]; rfl
      have ac582612 : (fI (F582509 q582455) 30).toInt = 0 := by rw [he582512]; show Int32.toInt 0 = 0; decide
      refine Gw_callV (As := [.int 1]) (gV_ok D I) (ct_581027_SpillForgeModel_no l hl0 D I γ el P582453 F582509 q582455 1 hT582608 htq582455) dr_cX17_end_19 ⟨wr_7_191, wr_1_14, wr_7_194, by decide, rfl, (Nat.le_of_ble_eq_true rfl), (Nat.le_of_ble_eq_true rfl)⟩ wr_7_193 wr_p_73 hm582458 he582512 rfl (show 0 + 0 ≤ 0 by first | omega | decide) (show 0 + 0 ≤ 0 by first | omega | decide) (Nat.le_of_ble_eq_true rfl) (fun r582616 w582617 dc582613 ds582614 hp582615 => ?_) (fun _ _ _ _ _ z => z.elim)
      obtain ⟨F582623, rfl, rfl, hT582624, hs582625, hdc, hds, x582618, x582619, x582620, x582621, ht582622⟩ := hp582615
      have hs582626 : rStr γ [] F582454 F582623 := rStr_tr hs582513 hs582625
      rw [show Int32.toInt 1 = 1 from by decide] at x582621
      change G _ _ _ _ _ _ _ (.int 0 :: _) _ _ _
      refine G_widen (cs' := 0) (sl' := 0) (by omega) (by omega) ?_
      have hm582627 : q582455 ∈ P582453 := RS_m hT582624 htq582455 (by decide)
      refine rk10_e (show rk_10 γ (F582623 q582455) from RS_o hT582624 htq582455) (fun q582629 q582630 p582631 p582632 p582633 p582634 p582635 p582636 p582637 p582638 p582639 p582640 p582641 p582642 p582643 p582644 p582645 he582628 hB582672 ht582646 ht582647 ht582648 ht582649 ht582650 ht582651 ht582652 ht582653 ht582654 ht582655 ht582656 ht582657 ht582658 ht582659 ht582660 ht582661 ht582662 ht582663 ht582664 ht582665 ht582666 ht582667 ht582668 ht582669 hB582673 => ?_)
      have ac582674 : (fI (F582623 q582455) 9).toInt = p582631.toInt := by rw [he582628]; rfl
      have bp582631 : gB p582631 0 1 := (hB582672.1)
      have ac582675 : (fI (F582623 q582455) 10).toInt = p582632.toInt := by rw [he582628]; rfl
      have bp582632 : gB p582632 0 1 := (hB582672.2.1)
      have ac582676 : (fI (F582623 q582455) 32).toInt = p582643.toInt := by rw [he582628]; rfl
      have bp582643 : gB p582643 0 8192 := (hB582672.2.2.2.2.2.2.2.1)
      have ac582677 : (fI (F582623 q582455) 30).toInt = p582642.toInt := by rw [he582628]; rfl
      have bp582642 : gB p582642 (-2147483648) 2147483647 := (gB_any p582642)
      have ac582678 : (fI (F582623 q582455) 9).toInt = p582631.toInt := by rw [he582628]; rfl
      have ac582679 : (fI (F582623 q582455) 10).toInt = p582632.toInt := by rw [he582628]; rfl
      have ac582680 : (fI (F582623 q582455) 32).toInt = p582643.toInt := by rw [he582628]; rfl
      have ac582681 : (fI (F582623 q582455) 30).toInt = p582642.toInt := by rw [he582628]; rfl
      exact G_iretA dr_cX17_end_22 rfl (Nat.le_of_ble_eq_true rfl) (Nat.le_of_ble_eq_true rfl) ⟨F582623, 0, rfl, rfl, hT582624, hs582626, (Nat.le_of_ble_eq_true rfl), (Nat.le_of_ble_eq_true rfl), (gB_w (gBl (show Int32.toInt 0 = 0 by decide)) (by decide) (by decide)), (by have qa0 : Int32.toInt 0 = 0 := (by decide); omega), (by have qa0 : Int32.toInt 0 = 0 := (by decide); omega), (by have qa0 : Int32.toInt 0 = 0 := (by decide); omega), (fun R c1 c2 c3 => c3 F582509 p582474 F582623 n582511 fq582514 r582591 fq582592 r582607 hT582624 hs582625 x582618 x582619 x582620 x582621 ht582622)⟩
/- tr_RModel_step2: result, F -/
def tr_RModel_step2 (D : va_G) (I : FieldType → ClassId) (γ el : Nat → Nat → Nat) (F : Nat → va_E) (q0 : Nat) (q1 : Nat) (o1 : Int32) (o2 : Nat → va_E) : Prop := ∀ R : (Int32) → (Nat → va_E) → Prop,
  (∀ (x1 : Int32) (x2 : Int32) (x3 : Int32) (x4 : Int32) (x5 : Int32) (x6 : Nat → Int32) (x7 : Nat → Int32) (x8 : Nat → va_E), fI (F q1) 0 = x1 → x1.toInt = 0 → fR (F q0) 20 = (γ 9 20) → fI (F q1) 1 = x2 → fI (F q1) 5 = x3 → fI (F q1) 2 = x4 → tr_RModel_value D I γ el F q0 x3 x4 x5 → F (γ 9 20) = .inl (I .int, 2000, .inl x6) → x7 = upd x6 x2.toNatClampNeg x5 → (∀ b, b ≠ (γ 9 20) → x8 b = F b) → x8 (γ 9 20) = .inl (I .int, 2000, .inl x7) → R (-1 : Int32) x8) →
  (∀ (x1 : Int32) (x2 : Int32) (x3 : Int32) (x4 : Nat) (x5 : Nat → Int32) (x6 : Nat) (x7 : Int32) (x8 : Nat → Int32) (x9 : Nat → Int32) (x10 : Nat → va_E) (x11 : Int32) (x12 : Int32) (x13 : Int32) (x14 : Nat → va_E), fI (F q1) 0 = x1 → x1.toInt = 20 → fR (F q0) 20 = (γ 9 20) → fI (F q1) 1 = x2 → fI (F q0) 27 = x3 → fR (F q0) 28 = x4 → F x4 = .inl (I .int, x6, .inl x5) → x7.toInt = (x6 : Nat) → x7.toInt ≤ x3.toInt → F (γ 9 20) = .inl (I .int, 2000, .inl x8) → x9 = upd x8 x2.toNatClampNeg 0 → (∀ b, b ≠ (γ 9 20) → x10 b = F b) → x10 (γ 9 20) = .inl (I .int, 2000, .inl x9) → fI (x10 q0) 27 = x3 → x11.toInt = x3.toInt + 1 → fR (x10 q0) 28 = x4 → x10 x4 = .inl (I .int, x6, .inl x5) → x12.toInt = (x6 : Nat) → (x11.toInt ≥ x13.toInt ∧ x12.toInt ≥ x13.toInt ∧ (x13.toInt = x11.toInt ∨ x13.toInt = x12.toInt)) → (∀ b, b ≠ q0 → x14 b = x10 b) → x14 q0 = cF (x10 q0) 27 (.int x13) → R (-1 : Int32) x14) →
  (∀ (x1 : Int32) (x2 : Int32) (x3 : Int32) (x4 : Nat) (x5 : Nat → Int32) (x6 : Nat) (x7 : Int32) (x8 : Int32) (x9 : Nat → Int32) (x10 : Nat → Int32) (x11 : Nat → va_E) (x12 : Int32) (x13 : Int32) (x14 : Int32) (x15 : Nat → va_E), fI (F q1) 0 = x1 → x1.toInt = 20 → fR (F q0) 20 = (γ 9 20) → fI (F q1) 1 = x2 → fI (F q0) 27 = x3 → fR (F q0) 28 = x4 → F x4 = .inl (I .int, x6, .inl x5) → x7.toInt = (x6 : Nat) → x3.toInt < x7.toInt → x8 = x5 x3.toNatClampNeg → F (γ 9 20) = .inl (I .int, 2000, .inl x9) → x10 = upd x9 x2.toNatClampNeg x8 → (∀ b, b ≠ (γ 9 20) → x11 b = F b) → x11 (γ 9 20) = .inl (I .int, 2000, .inl x10) → fI (x11 q0) 27 = x3 → x12.toInt = x3.toInt + 1 → fR (x11 q0) 28 = x4 → x11 x4 = .inl (I .int, x6, .inl x5) → x13.toInt = (x6 : Nat) → (x12.toInt ≥ x14.toInt ∧ x13.toInt ≥ x14.toInt ∧ (x14.toInt = x12.toInt ∨ x14.toInt = x13.toInt)) → (∀ b, b ≠ q0 → x15 b = x11 b) → x15 q0 = cF (x11 q0) 27 (.int x14) → R (-1 : Int32) x15) →
  (∀ (x1 : Int32) (x2 : Int32) (x3 : Int32) (x4 : Nat → Int32) (x5 : Int32) (x6 : Nat → Int32) (x7 : Nat → Int32) (x8 : Nat → va_E), fI (F q1) 0 = x1 → x1.toInt = 21 → fR (F q0) 20 = (γ 9 20) → fI (F q1) 1 = x2 → fR (F q0) 21 = (γ 9 21) → fI (F q1) 4 = x3 → F (γ 9 21) = .inl (I .int, 2000, .inl x4) → x5 = x4 x3.toNatClampNeg → F (γ 9 20) = .inl (I .int, 2000, .inl x6) → x7 = upd x6 x2.toNatClampNeg x5 → (∀ b, b ≠ (γ 9 20) → x8 b = F b) → x8 (γ 9 20) = .inl (I .int, 2000, .inl x7) → R (-1 : Int32) x8) →
  (∀ (x1 : Int32) (x2 : Int32) (x3 : Int32) (x4 : Int32) (x5 : Int32) (x6 : Nat → Int32) (x7 : Nat → Int32) (x8 : Nat → va_E) (x9 : Int32) (x10 : Nat → va_E), fI (F q1) 0 = x1 → x1.toInt = 22 → fI (F q0) 25 = x2 → x2.toInt ≠ 512 → fR (F q0) 22 = (γ 9 22) → fI (F q1) 5 = x3 → fI (F q1) 2 = x4 → tr_RModel_value D I γ el F q0 x3 x4 x5 → F (γ 9 22) = .inl (I .int, 512, .inl x6) → x7 = upd x6 x2.toNatClampNeg x5 → (∀ b, b ≠ (γ 9 22) → x8 b = F b) → x8 (γ 9 22) = .inl (I .int, 512, .inl x7) → fI (x8 q0) 25 = x2 → x9.toInt = x2.toInt + 1 → (∀ b, b ≠ q0 → x10 b = x8 b) → x10 q0 = cF (x8 q0) 25 (.int x9) → R (-1 : Int32) x10) →
  (∀ (x1 : Int32) (x2 : Int32), fI (F q1) 0 = x1 → x1.toInt = 22 → fI (F q0) 25 = x2 → x2.toInt = 512 → R (5 : Int32) F) →
  (∀ (x1 : Int32) (x2 : Int32) (x3 : Int32) (x4 : Int32) (x5 : Int32) (x6 : Nat → Int32) (x7 : Nat → Int32) (x8 : Nat → va_E), fI (F q1) 0 = x1 → x1.toInt = 23 → fR (F q0) 21 = (γ 9 21) → fI (F q1) 4 = x2 → fI (F q1) 5 = x3 → fI (F q1) 2 = x4 → tr_RModel_value D I γ el F q0 x3 x4 x5 → F (γ 9 21) = .inl (I .int, 2000, .inl x6) → x7 = upd x6 x2.toNatClampNeg x5 → (∀ b, b ≠ (γ 9 21) → x8 b = F b) → x8 (γ 9 21) = .inl (I .int, 2000, .inl x7) → R (-1 : Int32) x8) →
  (∀ (x1 : Int32) (x2 : Int32) (x3 : Int32) (x4 : Int32) (x5 : Int32) (x6 : Int32) (x7 : Int32) (x8 : Int64) (x9 : Int32) (x10 : Int32) (x11 : Nat → Int32) (x12 : Nat → Int32) (x13 : Nat → va_E), fI (F q1) 0 = x1 → x1.toInt ≠ 0 → x1.toInt ≠ 20 → x1.toInt ≠ 21 → x1.toInt ≠ 22 → x1.toInt ≠ 23 → fI (F q1) 5 = x2 → fI (F q1) 2 = x3 → tr_RModel_value D I γ el F q0 x2 x3 x4 → fI (F q1) 6 = x5 → fI (F q1) 3 = x6 → tr_RModel_value D I γ el F q0 x5 x6 x7 → tr_RModel_result x1 x4 x7 x8 → (¬ x8 = (4294967296 : Int64)) → fR (F q0) 20 = (γ 9 20) → fI (F q1) 1 = x9 → x10 = x8.toInt32 → F (γ 9 20) = .inl (I .int, 2000, .inl x11) → x12 = upd x11 x9.toNatClampNeg x10 → (∀ b, b ≠ (γ 9 20) → x13 b = F b) → x13 (γ 9 20) = .inl (I .int, 2000, .inl x12) → R (-1 : Int32) x13) →
  (∀ (x1 : Int32) (x2 : Int32) (x3 : Int32) (x4 : Int32) (x5 : Int32) (x6 : Int32) (x7 : Int32) (x8 : Int64), fI (F q1) 0 = x1 → x1.toInt ≠ 0 → x1.toInt ≠ 20 → x1.toInt ≠ 21 → x1.toInt ≠ 22 → x1.toInt ≠ 23 → fI (F q1) 5 = x2 → fI (F q1) 2 = x3 → tr_RModel_value D I γ el F q0 x2 x3 x4 → fI (F q1) 6 = x5 → fI (F q1) 3 = x6 → tr_RModel_value D I γ el F q0 x5 x6 x7 → tr_RModel_result x1 x4 x7 x8 → x8 = (4294967296 : Int64) → R (1 : Int32) F) →
  R o1 o2
abbrev ky_583470_SpillForgeModel_step : gKey := (cX17_step, 4, "SpillForgeModel", (some FieldType.int), [], "step", fun _ _ => True)
def pt_583470_SpillForgeModel_step (D : va_G) (I : FieldType → ClassId) (γ el : Nat → Nat → Nat) (P583466 : List Nat) (F583467 : Nat → va_E) (q583468 : Nat) (q583469 : Nat) : Option Value → va_W → Nat → Nat → Prop := fun r w dc ds => ∃ (F583796 : Nat → va_E) (o583795 : Int32), r = some (.int o583795) ∧ w = va_pl P583466 F583796 ∧ RS D I P583466 F583796 γ el ∧ rStr γ [97] F583467 F583796 ∧ dc ≤ 0 ∧ ds ≤ 0 ∧ gB o583795 (-1) 5 ∧ (fI (F583796 q583468) 26).toInt = (fI (F583467 q583468) 26).toInt ∧ (fI (F583796 q583468) 9).toInt = (fI (F583467 q583468) 9).toInt ∧ (fI (F583796 q583468) 10).toInt = (fI (F583467 q583468) 10).toInt ∧ (fI (F583796 q583468) 32).toInt = (fI (F583467 q583468) 32).toInt ∧ tr_RModel_step2 D I γ el F583467 q583468 q583469 o583795 F583796
set_option maxRecDepth 100000 in
set_option maxHeartbeats 4000000 in
theorem ct_583470_SpillForgeModel_step (l : Launch) (hl0 : l.stackTraces = false) (D : va_G) (I : FieldType → ClassId) (γ el : Nat → Nat → Nat) (P583466 : List Nat) (F583467 : Nat → va_E) (q583468 : Nat) (q583469 : Nat) (hT : RS D I P583466 F583467 γ el) (htq583468 : rKd γ q583468 10) (htq583469 : rKd γ q583469 1) : CtA (gV D I) l yX17_step cX17_step 4 (some FieldType.int) 1 23 0 0 [.ref q583468, .ref q583469] (va_pl P583466 F583467) (pt_583470_SpillForgeModel_step D I γ el P583466 F583467 q583468 q583469) gNA := by
  refine CtA_of hl0 (by decide) (Nat.le_of_ble_eq_true rfl) ?_
  have hm583471 : q583468 ∈ P583466 := RS_m hT htq583468 (by decide)
  refine rk10_e (show rk_10 γ (F583467 q583468) from RS_o hT htq583468) (fun q583473 q583474 p583475 p583476 p583477 p583478 p583479 p583480 p583481 p583482 p583483 p583484 p583485 p583486 p583487 p583488 p583489 he583472 hB583516 ht583490 ht583491 ht583492 ht583493 ht583494 ht583495 ht583496 ht583497 ht583498 ht583499 ht583500 ht583501 ht583502 ht583503 ht583504 ht583505 ht583506 ht583507 ht583508 ht583509 ht583510 ht583511 ht583512 ht583513 hB583517 => ?_)
  have ac583518 : (fI (F583467 q583468) 26).toInt = p583484.toInt := by rw [he583472]; rfl
  have bp583484 : gB p583484 0 100000 := (hB583516.2.2.2.2.2.1)
  have ac583519 : (fI (F583467 q583468) 9).toInt = p583475.toInt := by rw [he583472]; rfl
  have bp583475 : gB p583475 0 1 := (hB583516.1)
  have ac583520 : (fI (F583467 q583468) 10).toInt = p583476.toInt := by rw [he583472]; rfl
  have bp583476 : gB p583476 0 1 := (hB583516.2.1)
  have ac583521 : (fI (F583467 q583468) 32).toInt = p583487.toInt := by rw [he583472]; rfl
  have bp583487 : gB p583487 0 8192 := (hB583516.2.2.2.2.2.2.2.1)
  refine G_aload_n 1 dr_cX17_step_0 rfl ?_
  have hm583522 : q583469 ∈ P583466 := RS_m hT htq583469 (by decide)
  obtain ⟨p583524, p583525, p583526, p583527, p583528, p583529, p583530, he583523, bp583524, bp583525, bp583528, bp583529, bp583530, r583531, r583532, r583533, r583534, r583535⟩ := show rk_1 γ q583469 (F583467 q583469) from RS_o hT htq583469
  have bp583526 := gB_any p583526
  have bp583527 := gB_any p583527
  have fq583536 : fI (F583467 q583469) 0 = p583524 := by rw [he583523]; rfl
  refine Gp_get 0 hm583522 he583523 dr_cX17_step_1 (gk_X15 D I) (Nat.le_of_ble_eq_true rfl) wr_9_177 rfl ?_
  by_cases hs583537 : p583524 = 0
  · have ehs583537 : p583524.toInt = 0 := gj_eq hs583537 (show Int32.toInt 0 = 0 by decide)
    have bp583524' : gB p583524 0 0 := ⟨by omega, by omega⟩
    refine G_eqi (y := 0) hs583537 ?_
    refine G_lookup 198 dr_cX17_step_4 (by decide) (by first | rfl | decide) (by decide) ?_
    refine G_aload_n 0 dr_cX17_step_198 rfl ?_
    have fq583538 : fR (F583467 q583468) 20 = (γ 9 20) := by rw [he583472]; rfl
    refine Gp_get 20 hm583471 he583472 dr_cX17_step_199 (gk_X17 D I) (Nat.le_of_ble_eq_true rfl) wr_7_94 rfl ?_
    refine G_aload_n 1 dr_cX17_step_202 rfl ?_
    have fq583539 : fI (F583467 q583469) 1 = p583525 := by rw [he583523]; rfl
    refine Gp_get 1 hm583522 he583523 dr_cX17_step_203 (gk_X15 D I) (Nat.le_of_ble_eq_true rfl) wr_9_182 rfl ?_
    refine G_aload_n 0 dr_cX17_step_206 rfl ?_
    refine G_aload_n 1 dr_cX17_step_207 rfl ?_
    have fq583540 : fI (F583467 q583469) 5 = p583529 := by rw [he583523]; rfl
    refine Gp_get 5 hm583522 he583523 dr_cX17_step_208 (gk_X15 D I) (Nat.le_of_ble_eq_true rfl) wr_9_197 rfl ?_
    refine G_aload_n 1 dr_cX17_step_211 rfl ?_
    have fq583541 : fI (F583467 q583469) 2 = p583526 := by rw [he583523]; rfl
    refine Gp_get 2 hm583522 he583523 dr_cX17_step_212 (gk_X15 D I) (Nat.le_of_ble_eq_true rfl) wr_9_186 rfl ?_
    refine Gw_callV (As := [.int p583529, .int p583526]) (gV_ok D I) (ct_7532_SpillForgeModel_value l hl0 D I γ el P583466 F583467 q583468 p583529 p583526 hT htq583468 bp583529 (by omega)) dr_cX17_step_215 ⟨wr_11_100, wr_1_14, wr_11_103, by decide, rfl, (Nat.le_of_ble_eq_true rfl), (Nat.le_of_ble_eq_true rfl)⟩ wr_11_102 wr_p_115 hm583471 he583472 rfl (show 0 + 0 ≤ 0 by first | omega | decide) (show 0 + 0 ≤ 0 by first | omega | decide) (Nat.le_of_ble_eq_true rfl) (fun r583545 w583546 dc583542 ds583543 hp583544 => ?_) (fun _ _ _ _ _ z => z.elim)
    obtain ⟨o583547, rfl, rfl, hdc, hds, ht583548⟩ := hp583544
    have bo583547 := gB_any o583547
    change G _ _ _ _ _ _ _ (.int o583547 :: _) _ _ _
    refine G_widen (cs' := 0) (sl' := 0) (by omega) (by omega) ?_
    have hm583549 : (γ 9 20) ∈ P583466 := RS_m hT ht583506 (by decide)
    obtain ⟨f583551, he583550⟩ := show rk_22 I (F583467 (γ 9 20)) from RS_o hT ht583506
    refine Gp_iast 0 hm583549 he583550 dr_cX17_step_218 rfl (gB_in bp583525 (by decide) (by decide)) (fun F583552 e583553 n583554 => ?_)
    obtain ⟨f583555, hf583555⟩ : ∃ z, z = upd f583551 p583525.toNatClampNeg o583547 := ⟨_, rfl⟩
    rw [← hf583555] at e583553
    have he583556 : F583552 q583468 = .inr (22, [.ref (γ 9 0), .ref (γ 9 1), .ref (γ 9 2), .ref (γ 9 3), .ref (γ 9 4), .ref (γ 9 5), .ref (γ 9 6), .ref (γ 9 7), .ref (γ 9 8), .int p583475, .int p583476, .int p583477, .int p583478, .int p583479, .int p583480, .ref (γ 9 15), .ref (γ 9 16), .ref (γ 9 17), .ref (γ 9 18), .ref (γ 9 19), .ref (γ 9 20), .ref (γ 9 21), .ref (γ 9 22), .int p583481, .int p583482, .int p583483, .int p583484, .int p583485, .ref q583473, .ref (γ 9 29), .int p583486, .ref (γ 9 31), .int p583487, .int p583488, .int p583489, .ref q583474]) := (n583554 q583468 (rn_oa he583472 he583550)).trans he583472
    have he583557 : F583552 q583469 = .inr (20, [.int p583524, .int p583525, .int p583526, .int p583527, .int p583528, .int p583529, .int p583530]) := (n583554 q583469 (rn_oa he583523 he583550)).trans he583523
    have he583558 : F583552 (γ 9 20) = .inl (I .int, 2000, .inl f583555) := e583553
    have hs583559 : rStr γ [97] F583467 F583552 := rStr_put (rStr_rf (γ := γ) (W := [97]) (F := F583467)) n583554 ht583506 (by decide)
    refine G_iconst (-1) dr_cX17_step_219 (by decide +kernel) ?_
    have hT583560 : RS D I P583466 F583552 γ el := RS_set hT n583554 ht583506 (by decide) ⟨f583555, he583558⟩
    have ac583561 : (fI (F583552 q583468) 26).toInt = p583484.toInt := by rw [he583556]; rfl
    have ac583562 : (fI (F583552 q583468) 9).toInt = p583475.toInt := by rw [he583556]; rfl
    have ac583563 : (fI (F583552 q583468) 10).toInt = p583476.toInt := by rw [he583556]; rfl
    have ac583564 : (fI (F583552 q583468) 32).toInt = p583487.toInt := by rw [he583556]; rfl
    exact G_iretA dr_cX17_step_220 rfl (Nat.le_of_ble_eq_true rfl) (Nat.le_of_ble_eq_true rfl) ⟨F583552, (-1), rfl, rfl, hT583560, hs583559, (Nat.le_of_ble_eq_true rfl), (Nat.le_of_ble_eq_true rfl), (gB_w (gBl (show Int32.toInt (-1) = (-1) by decide)) (by decide) (by decide)), (by have qa0 : Int32.toInt (-1) = (-1) := (by decide); omega), (by have qa0 : Int32.toInt (-1) = (-1) := (by decide); omega), (by have qa0 : Int32.toInt (-1) = (-1) := (by decide); omega), (by have qa0 : Int32.toInt (-1) = (-1) := (by decide); omega), (fun R c1 c2 c3 c4 c5 c6 c7 c8 c9 => c1 p583524 p583525 p583529 p583526 o583547 f583551 f583555 F583552 fq583536 ehs583537 fq583538 fq583539 fq583540 fq583541 ht583548 he583550 hf583555 n583554 he583558)⟩
  by_cases hs583565 : p583524 = 20
  · have ehs583565 : p583524.toInt = 20 := gj_eq hs583565 (show Int32.toInt 20 = 20 by decide)
    have bp583524' : gB p583524 20 20 := ⟨by omega, by omega⟩
    refine G_eqi (y := 20) hs583565 ?_
    refine G_lookup 56 dr_cX17_step_4 (by decide) (by first | rfl | decide) (by decide) ?_
    refine G_aload_n 0 dr_cX17_step_56 rfl ?_
    have fq583566 : fR (F583467 q583468) 20 = (γ 9 20) := by rw [he583472]; rfl
    refine Gp_get 20 hm583471 he583472 dr_cX17_step_57 (gk_X17 D I) (Nat.le_of_ble_eq_true rfl) wr_7_94 rfl ?_
    refine G_aload_n 1 dr_cX17_step_60 rfl ?_
    have fq583567 : fI (F583467 q583469) 1 = p583525 := by rw [he583523]; rfl
    refine Gp_get 1 hm583522 he583523 dr_cX17_step_61 (gk_X15 D I) (Nat.le_of_ble_eq_true rfl) wr_9_182 rfl ?_
    refine G_aload_n 0 dr_cX17_step_64 rfl ?_
    have fq583568 : fI (F583467 q583468) 27 = p583485 := by rw [he583472]; rfl
    refine Gp_get 27 hm583471 he583472 dr_cX17_step_65 (gk_X17 D I) (Nat.le_of_ble_eq_true rfl) wr_7_101 rfl ?_
    have bp583485 : gB p583485 0 2048 := (hB583516.2.2.2.2.2.2.1)
    refine G_aload_n 0 dr_cX17_step_68 rfl ?_
    have fq583569 : fR (F583467 q583468) 28 = q583473 := by rw [he583472]; rfl
    refine Gp_get 28 hm583471 he583472 dr_cX17_step_69 (gk_X17 D I) (Nat.le_of_ble_eq_true rfl) wr_7_102 rfl ?_
    have hm583570 : q583473 ∈ P583466 := RS_m hT ht583490 (by decide)
    obtain ⟨n583573, f583572, he583571, hn583573⟩ := show rk_98 I (F583467 q583473) from RS_o hT ht583490
    refine Gp_alen (Int32.ofNat n583573) 0 hm583570 he583571 dr_cX17_step_72 rfl rfl (G_nam fun z583574 hz583574 => ?_)
    have ez583574 : z583574.toInt = (n583573 : Nat) := gI_ofM hz583574 (by omega)
    have bz583574 : gB z583574 0 16777216 := ⟨by omega, by omega⟩
    refine G_icmp_ge 88 dr_cX17_step_73 (by decide +kernel) (fun hc583575 => ?_) (fun hc583575 => ?_)
    · have r583576 : z583574.toInt ≤ p583485.toInt := gC_le hc583575
      have bz583574' : gB z583574 0 2048 := ⟨by omega, by omega⟩
      refine G_iconst 0 dr_cX17_step_88 (by decide +kernel) ?_
      have hm583577 : (γ 9 20) ∈ P583466 := RS_m hT ht583506 (by decide)
      obtain ⟨f583579, he583578⟩ := show rk_22 I (F583467 (γ 9 20)) from RS_o hT ht583506
      refine Gp_iast 0 hm583577 he583578 dr_cX17_step_89 rfl (gB_in bp583525 (by decide) (by decide)) (fun F583580 e583581 n583582 => ?_)
      obtain ⟨f583583, hf583583⟩ : ∃ z, z = upd f583579 p583525.toNatClampNeg 0 := ⟨_, rfl⟩
      rw [← hf583583] at e583581
      have he583584 : F583580 q583468 = .inr (22, [.ref (γ 9 0), .ref (γ 9 1), .ref (γ 9 2), .ref (γ 9 3), .ref (γ 9 4), .ref (γ 9 5), .ref (γ 9 6), .ref (γ 9 7), .ref (γ 9 8), .int p583475, .int p583476, .int p583477, .int p583478, .int p583479, .int p583480, .ref (γ 9 15), .ref (γ 9 16), .ref (γ 9 17), .ref (γ 9 18), .ref (γ 9 19), .ref (γ 9 20), .ref (γ 9 21), .ref (γ 9 22), .int p583481, .int p583482, .int p583483, .int p583484, .int p583485, .ref q583473, .ref (γ 9 29), .int p583486, .ref (γ 9 31), .int p583487, .int p583488, .int p583489, .ref q583474]) := (n583582 q583468 (rn_oa he583472 he583578)).trans he583472
      have he583585 : F583580 q583469 = .inr (20, [.int p583524, .int p583525, .int p583526, .int p583527, .int p583528, .int p583529, .int p583530]) := (n583582 q583469 (rn_oa he583523 he583578)).trans he583523
      have he583586 : F583580 q583473 = .inl (I .int, n583573, .inl f583572) := (n583582 q583473 (rn_ty ht583490 ht583506 (by decide))).trans he583571
      have he583587 : F583580 (γ 9 20) = .inl (I .int, 2000, .inl f583583) := e583581
      have hs583588 : rStr γ [97] F583467 F583580 := rStr_put (rStr_rf (γ := γ) (W := [97]) (F := F583467)) n583582 ht583506 (by decide)
      refine G_aload_n 0 dr_cX17_step_90 rfl ?_
      refine G_aload_n 0 dr_cX17_step_91 rfl ?_
      have fq583589 : fI (F583580 q583468) 27 = p583485 := by rw [he583584]; rfl
      refine Gp_get 27 hm583471 he583584 dr_cX17_step_92 (gk_X17 D I) (Nat.le_of_ble_eq_true rfl) wr_7_101 rfl ?_
      refine G_iconst 1 dr_cX17_step_95 (by decide +kernel) ?_
      refine G_iadd dr_cX17_step_96 (G_nam fun z583590 hz583590 => ?_)
      have ez583590 : z583590.toInt = p583485.toInt + 1 := by rw [gI_add hz583590 bp583485 (gBl (show Int32.toInt 1 = 1 by decide)) (by decide) (by decide), show Int32.toInt 1 = 1 from by decide]
      have bz583590 : gB z583590 1 2049 := gB_add (gI_add hz583590 bp583485 (gBl (show Int32.toInt 1 = 1 by decide)) (by decide) (by decide)) bp583485 (gBl (show Int32.toInt 1 = 1 by decide)) (by decide) (by decide)
      refine G_aload_n 0 dr_cX17_step_97 rfl ?_
      have fq583591 : fR (F583580 q583468) 28 = q583473 := by rw [he583584]; rfl
      refine Gp_get 28 hm583471 he583584 dr_cX17_step_98 (gk_X17 D I) (Nat.le_of_ble_eq_true rfl) wr_7_102 rfl ?_
      refine Gp_alen (Int32.ofNat n583573) 0 hm583570 he583586 dr_cX17_step_101 rfl rfl (G_nam fun z583592 hz583592 => ?_)
      have ez583592 : z583592.toInt = (n583573 : Nat) := gI_ofM hz583592 (by omega)
      have bz583592 : gB z583592 0 16777216 := ⟨by omega, by omega⟩
      refine G_mmin dr_cX17_step_102 wr_11_20 wr_3_227 wr_1_6 wr_3_228 (Nat.le_of_ble_eq_true rfl) (Nat.le_of_ble_eq_true rfl) (show 0 ≤ 0 by first | omega | decide) (show 0 ≤ 0 by first | omega | decide) (G_nam fun z583593 hz583593 => ?_)
      have ez583593 : z583590.toInt ≥ z583593.toInt ∧ z583592.toInt ≥ z583593.toInt ∧ (z583593.toInt = z583590.toInt ∨ z583593.toInt = z583592.toInt) := by have := gI_min hz583593; omega
      have bz583593 : gB z583593 0 2049 := ⟨by omega, by omega⟩
      have hT583594 : RS D I P583466 F583580 γ el := RS_set hT n583582 ht583506 (by decide) ⟨f583583, he583587⟩
      refine Gp_put 27 hm583471 he583584 dr_cX17_step_105 (gk_X17 D I) (Nat.le_of_ble_eq_true rfl) wr_7_101 rfl rfl rfl (Nat.le_of_ble_eq_true rfl) (fun F583595 e583596 n583597 => ?_)
      have he583598 : F583595 q583469 = .inr (20, [.int p583524, .int p583525, .int p583526, .int p583527, .int p583528, .int p583529, .int p583530]) := (n583597 q583469 (rn_oo he583585 he583584 (by decide))).trans he583585
      have he583599 : F583595 q583473 = .inl (I .int, n583573, .inl f583572) := (n583597 q583473 (rn_ao he583586 he583584)).trans he583586
      have he583600 : F583595 (γ 9 20) = .inl (I .int, 2000, .inl f583583) := (n583597 (γ 9 20) (rn_ao he583587 he583584)).trans he583587
      have he583601 : F583595 q583468 = .inr (22, [.ref (γ 9 0), .ref (γ 9 1), .ref (γ 9 2), .ref (γ 9 3), .ref (γ 9 4), .ref (γ 9 5), .ref (γ 9 6), .ref (γ 9 7), .ref (γ 9 8), .int p583475, .int p583476, .int p583477, .int p583478, .int p583479, .int p583480, .ref (γ 9 15), .ref (γ 9 16), .ref (γ 9 17), .ref (γ 9 18), .ref (γ 9 19), .ref (γ 9 20), .ref (γ 9 21), .ref (γ 9 22), .int p583481, .int p583482, .int p583483, .int p583484, .int z583593, .ref q583473, .ref (γ 9 29), .int p583486, .ref (γ 9 31), .int p583487, .int p583488, .int p583489, .ref q583474]) := e583596
      have hs583602 : rStr γ [97] F583467 F583595 := rStr_put hs583588 n583597 htq583468 (by decide)
      have fq583603 : F583595 q583468 = cF (F583580 q583468) 27 (.int z583593) := by rw [he583601, he583584]; rfl
      refine G_iconst (-1) dr_cX17_step_108 (by decide +kernel) ?_
      have hT583604 : RS D I P583466 F583595 γ el := RS_set hT583594 n583597 htq583468 (by decide) ⟨q583473, q583474, p583475, p583476, p583477, p583478, p583479, p583480, p583481, p583482, p583483, p583484, z583593, p583486, p583487, p583488, p583489, he583601, ⟨bp583475, bp583476, (hB583516.2.2.1), (hB583516.2.2.2.1), (hB583516.2.2.2.2.1), bp583484, ⟨by omega, by omega⟩, bp583487, (hB583516.2.2.2.2.2.2.2.2)⟩, ht583490, ht583491, ht583492, ht583493, ht583494, ht583495, ht583496, ht583497, ht583498, ht583499, ht583500, ht583501, ht583502, ht583503, ht583504, ht583505, ht583506, ht583507, ht583508, ht583509, ht583510, ht583511, ht583512, ht583513, hB583517⟩
      have ac583605 : (fI (F583595 q583468) 26).toInt = p583484.toInt := by rw [he583601]; rfl
      have ac583606 : (fI (F583595 q583468) 9).toInt = p583475.toInt := by rw [he583601]; rfl
      have ac583607 : (fI (F583595 q583468) 10).toInt = p583476.toInt := by rw [he583601]; rfl
      have ac583608 : (fI (F583595 q583468) 32).toInt = p583487.toInt := by rw [he583601]; rfl
      exact G_iretA dr_cX17_step_109 rfl (Nat.le_of_ble_eq_true rfl) (Nat.le_of_ble_eq_true rfl) ⟨F583595, (-1), rfl, rfl, hT583604, hs583602, (Nat.le_of_ble_eq_true rfl), (Nat.le_of_ble_eq_true rfl), (gB_w (gBl (show Int32.toInt (-1) = (-1) by decide)) (by decide) (by decide)), (by have qa0 : Int32.toInt (-1) = (-1) := (by decide); omega), (by have qa0 : Int32.toInt (-1) = (-1) := (by decide); omega), (by have qa0 : Int32.toInt (-1) = (-1) := (by decide); omega), (by have qa0 : Int32.toInt (-1) = (-1) := (by decide); omega), (fun R c1 c2 c3 c4 c5 c6 c7 c8 c9 => c2 p583524 p583525 p583485 q583473 f583572 n583573 z583574 f583579 f583583 F583580 z583590 z583592 z583593 F583595 fq583536 ehs583565 fq583566 fq583567 fq583568 fq583569 he583571 ez583574 r583576 he583578 hf583583 n583582 he583587 fq583589 ez583590 fq583591 he583586 ez583592 ez583593 n583597 fq583603)⟩
    · have r583609 : p583485.toInt < z583574.toInt := gC_nle hc583575
      have bz583574' : gB z583574 1 16777216 := ⟨by omega, by omega⟩
      refine G_aload_n 0 dr_cX17_step_76 rfl ?_
      refine Gp_get 28 hm583471 he583472 dr_cX17_step_77 (gk_X17 D I) (Nat.le_of_ble_eq_true rfl) wr_7_102 rfl ?_
      refine G_aload_n 0 dr_cX17_step_80 rfl ?_
      refine Gp_get 27 hm583471 he583472 dr_cX17_step_81 (gk_X17 D I) (Nat.le_of_ble_eq_true rfl) wr_7_101 rfl ?_
      refine Gp_iald 0 hm583570 he583571 dr_cX17_step_84 rfl (gB_inr (by omega) (by omega)) (G_nam fun z583610 hz583610 => ?_)
      have bz583610 : gB z583610 (-2147483648) 2147483647 := gB_any z583610
      refine G_goto 89 dr_cX17_step_85 (by decide +kernel) ?_
      have hm583611 : (γ 9 20) ∈ P583466 := RS_m hT ht583506 (by decide)
      obtain ⟨f583613, he583612⟩ := show rk_22 I (F583467 (γ 9 20)) from RS_o hT ht583506
      refine Gp_iast 0 hm583611 he583612 dr_cX17_step_89 rfl (gB_in bp583525 (by decide) (by decide)) (fun F583614 e583615 n583616 => ?_)
      obtain ⟨f583617, hf583617⟩ : ∃ z, z = upd f583613 p583525.toNatClampNeg z583610 := ⟨_, rfl⟩
      rw [← hf583617] at e583615
      have he583618 : F583614 q583468 = .inr (22, [.ref (γ 9 0), .ref (γ 9 1), .ref (γ 9 2), .ref (γ 9 3), .ref (γ 9 4), .ref (γ 9 5), .ref (γ 9 6), .ref (γ 9 7), .ref (γ 9 8), .int p583475, .int p583476, .int p583477, .int p583478, .int p583479, .int p583480, .ref (γ 9 15), .ref (γ 9 16), .ref (γ 9 17), .ref (γ 9 18), .ref (γ 9 19), .ref (γ 9 20), .ref (γ 9 21), .ref (γ 9 22), .int p583481, .int p583482, .int p583483, .int p583484, .int p583485, .ref q583473, .ref (γ 9 29), .int p583486, .ref (γ 9 31), .int p583487, .int p583488, .int p583489, .ref q583474]) := (n583616 q583468 (rn_oa he583472 he583612)).trans he583472
      have he583619 : F583614 q583469 = .inr (20, [.int p583524, .int p583525, .int p583526, .int p583527, .int p583528, .int p583529, .int p583530]) := (n583616 q583469 (rn_oa he583523 he583612)).trans he583523
      have he583620 : F583614 q583473 = .inl (I .int, n583573, .inl f583572) := (n583616 q583473 (rn_ty ht583490 ht583506 (by decide))).trans he583571
      have he583621 : F583614 (γ 9 20) = .inl (I .int, 2000, .inl f583617) := e583615
      have hs583622 : rStr γ [97] F583467 F583614 := rStr_put (rStr_rf (γ := γ) (W := [97]) (F := F583467)) n583616 ht583506 (by decide)
      refine G_aload_n 0 dr_cX17_step_90 rfl ?_
      refine G_aload_n 0 dr_cX17_step_91 rfl ?_
      have fq583623 : fI (F583614 q583468) 27 = p583485 := by rw [he583618]; rfl
      refine Gp_get 27 hm583471 he583618 dr_cX17_step_92 (gk_X17 D I) (Nat.le_of_ble_eq_true rfl) wr_7_101 rfl ?_
      refine G_iconst 1 dr_cX17_step_95 (by decide +kernel) ?_
      refine G_iadd dr_cX17_step_96 (G_nam fun z583624 hz583624 => ?_)
      have ez583624 : z583624.toInt = p583485.toInt + 1 := by rw [gI_add hz583624 bp583485 (gBl (show Int32.toInt 1 = 1 by decide)) (by decide) (by decide), show Int32.toInt 1 = 1 from by decide]
      have bz583624 : gB z583624 1 2049 := gB_add (gI_add hz583624 bp583485 (gBl (show Int32.toInt 1 = 1 by decide)) (by decide) (by decide)) bp583485 (gBl (show Int32.toInt 1 = 1 by decide)) (by decide) (by decide)
      refine G_aload_n 0 dr_cX17_step_97 rfl ?_
      have fq583625 : fR (F583614 q583468) 28 = q583473 := by rw [he583618]; rfl
      refine Gp_get 28 hm583471 he583618 dr_cX17_step_98 (gk_X17 D I) (Nat.le_of_ble_eq_true rfl) wr_7_102 rfl ?_
      refine Gp_alen (Int32.ofNat n583573) 0 hm583570 he583620 dr_cX17_step_101 rfl rfl (G_nam fun z583626 hz583626 => ?_)
      have ez583626 : z583626.toInt = (n583573 : Nat) := gI_ofM hz583626 (by omega)
      have bz583626 : gB z583626 0 16777216 := ⟨by omega, by omega⟩
      refine G_mmin dr_cX17_step_102 wr_11_20 wr_3_227 wr_1_6 wr_3_228 (Nat.le_of_ble_eq_true rfl) (Nat.le_of_ble_eq_true rfl) (show 0 ≤ 0 by first | omega | decide) (show 0 ≤ 0 by first | omega | decide) (G_nam fun z583627 hz583627 => ?_)
      have ez583627 : z583624.toInt ≥ z583627.toInt ∧ z583626.toInt ≥ z583627.toInt ∧ (z583627.toInt = z583624.toInt ∨ z583627.toInt = z583626.toInt) := by have := gI_min hz583627; omega
      have bz583627 : gB z583627 0 2049 := ⟨by omega, by omega⟩
      have hT583628 : RS D I P583466 F583614 γ el := RS_set hT n583616 ht583506 (by decide) ⟨f583617, he583621⟩
      refine Gp_put 27 hm583471 he583618 dr_cX17_step_105 (gk_X17 D I) (Nat.le_of_ble_eq_true rfl) wr_7_101 rfl rfl rfl (Nat.le_of_ble_eq_true rfl) (fun F583629 e583630 n583631 => ?_)
      have he583632 : F583629 q583469 = .inr (20, [.int p583524, .int p583525, .int p583526, .int p583527, .int p583528, .int p583529, .int p583530]) := (n583631 q583469 (rn_oo he583619 he583618 (by decide))).trans he583619
      have he583633 : F583629 q583473 = .inl (I .int, n583573, .inl f583572) := (n583631 q583473 (rn_ao he583620 he583618)).trans he583620
      have he583634 : F583629 (γ 9 20) = .inl (I .int, 2000, .inl f583617) := (n583631 (γ 9 20) (rn_ao he583621 he583618)).trans he583621
      have he583635 : F583629 q583468 = .inr (22, [.ref (γ 9 0), .ref (γ 9 1), .ref (γ 9 2), .ref (γ 9 3), .ref (γ 9 4), .ref (γ 9 5), .ref (γ 9 6), .ref (γ 9 7), .ref (γ 9 8), .int p583475, .int p583476, .int p583477, .int p583478, .int p583479, .int p583480, .ref (γ 9 15), .ref (γ 9 16), .ref (γ 9 17), .ref (γ 9 18), .ref (γ 9 19), .ref (γ 9 20), .ref (γ 9 21), .ref (γ 9 22), .int p583481, .int p583482, .int p583483, .int p583484, .int z583627, .ref q583473, .ref (γ 9 29), .int p583486, .ref (γ 9 31), .int p583487, .int p583488, .int p583489, .ref q583474]) := e583630
      have hs583636 : rStr γ [97] F583467 F583629 := rStr_put hs583622 n583631 htq583468 (by decide)
      have fq583637 : F583629 q583468 = cF (F583614 q583468) 27 (.int z583627) := by rw [he583635, he583618]; rfl
      refine G_iconst (-1) dr_cX17_step_108 (by decide +kernel) ?_
      have hT583638 : RS D I P583466 F583629 γ el := RS_set hT583628 n583631 htq583468 (by decide) ⟨q583473, q583474, p583475, p583476, p583477, p583478, p583479, p583480, p583481, p583482, p583483, p583484, z583627, p583486, p583487, p583488, p583489, he583635, ⟨bp583475, bp583476, (hB583516.2.2.1), (hB583516.2.2.2.1), (hB583516.2.2.2.2.1), bp583484, ⟨by omega, by omega⟩, bp583487, (hB583516.2.2.2.2.2.2.2.2)⟩, ht583490, ht583491, ht583492, ht583493, ht583494, ht583495, ht583496, ht583497, ht583498, ht583499, ht583500, ht583501, ht583502, ht583503, ht583504, ht583505, ht583506, ht583507, ht583508, ht583509, ht583510, ht583511, ht583512, ht583513, hB583517⟩
      have ac583639 : (fI (F583629 q583468) 26).toInt = p583484.toInt := by rw [he583635]; rfl
      have ac583640 : (fI (F583629 q583468) 9).toInt = p583475.toInt := by rw [he583635]; rfl
      have ac583641 : (fI (F583629 q583468) 10).toInt = p583476.toInt := by rw [he583635]; rfl
      have ac583642 : (fI (F583629 q583468) 32).toInt = p583487.toInt := by rw [he583635]; rfl
      exact G_iretA dr_cX17_step_109 rfl (Nat.le_of_ble_eq_true rfl) (Nat.le_of_ble_eq_true rfl) ⟨F583629, (-1), rfl, rfl, hT583638, hs583636, (Nat.le_of_ble_eq_true rfl), (Nat.le_of_ble_eq_true rfl), (gB_w (gBl (show Int32.toInt (-1) = (-1) by decide)) (by decide) (by decide)), (by have qa0 : Int32.toInt (-1) = (-1) := (by decide); omega), (by have qa0 : Int32.toInt (-1) = (-1) := (by decide); omega), (by have qa0 : Int32.toInt (-1) = (-1) := (by decide); omega), (by have qa0 : Int32.toInt (-1) = (-1) := (by decide); omega), (fun R c1 c2 c3 c4 c5 c6 c7 c8 c9 => c3 p583524 p583525 p583485 q583473 f583572 n583573 z583574 z583610 f583613 f583617 F583614 z583624 z583626 z583627 F583629 fq583536 ehs583565 fq583566 fq583567 fq583568 fq583569 he583571 ez583574 r583609 hz583610 he583612 hf583617 n583616 he583621 fq583623 ez583624 fq583625 he583620 ez583626 ez583627 n583631 fq583637)⟩
  by_cases hs583643 : p583524 = 21
  · have ehs583643 : p583524.toInt = 21 := gj_eq hs583643 (show Int32.toInt 21 = 21 by decide)
    have bp583524' : gB p583524 21 21 := ⟨by omega, by omega⟩
    refine G_eqi (y := 21) hs583643 ?_
    refine G_lookup 155 dr_cX17_step_4 (by decide) (by first | rfl | decide) (by decide) ?_
    refine G_aload_n 0 dr_cX17_step_155 rfl ?_
    have fq583644 : fR (F583467 q583468) 20 = (γ 9 20) := by rw [he583472]; rfl
    refine Gp_get 20 hm583471 he583472 dr_cX17_step_156 (gk_X17 D I) (Nat.le_of_ble_eq_true rfl) wr_7_94 rfl ?_
    refine G_aload_n 1 dr_cX17_step_159 rfl ?_
    have fq583645 : fI (F583467 q583469) 1 = p583525 := by rw [he583523]; rfl
    refine Gp_get 1 hm583522 he583523 dr_cX17_step_160 (gk_X15 D I) (Nat.le_of_ble_eq_true rfl) wr_9_182 rfl ?_
    refine G_aload_n 0 dr_cX17_step_163 rfl ?_
    have fq583646 : fR (F583467 q583468) 21 = (γ 9 21) := by rw [he583472]; rfl
    refine Gp_get 21 hm583471 he583472 dr_cX17_step_164 (gk_X17 D I) (Nat.le_of_ble_eq_true rfl) wr_7_95 rfl ?_
    refine G_aload_n 1 dr_cX17_step_167 rfl ?_
    have fq583647 : fI (F583467 q583469) 4 = p583528 := by rw [he583523]; rfl
    refine Gp_get 4 hm583522 he583523 dr_cX17_step_168 (gk_X15 D I) (Nat.le_of_ble_eq_true rfl) wr_9_193 rfl ?_
    have hm583648 : (γ 9 21) ∈ P583466 := RS_m hT ht583507 (by decide)
    obtain ⟨f583650, he583649⟩ := show rk_23 I (F583467 (γ 9 21)) from RS_o hT ht583507
    refine Gp_iald 0 hm583648 he583649 dr_cX17_step_171 rfl (gB_in bp583528 (by decide) (by decide)) (G_nam fun z583651 hz583651 => ?_)
    have bz583651 : gB z583651 (-2147483648) 2147483647 := gB_any z583651
    have hm583652 : (γ 9 20) ∈ P583466 := RS_m hT ht583506 (by decide)
    obtain ⟨f583654, he583653⟩ := show rk_22 I (F583467 (γ 9 20)) from RS_o hT ht583506
    refine Gp_iast 0 hm583652 he583653 dr_cX17_step_172 rfl (gB_in bp583525 (by decide) (by decide)) (fun F583655 e583656 n583657 => ?_)
    obtain ⟨f583658, hf583658⟩ : ∃ z, z = upd f583654 p583525.toNatClampNeg z583651 := ⟨_, rfl⟩
    rw [← hf583658] at e583656
    have he583659 : F583655 q583468 = .inr (22, [.ref (γ 9 0), .ref (γ 9 1), .ref (γ 9 2), .ref (γ 9 3), .ref (γ 9 4), .ref (γ 9 5), .ref (γ 9 6), .ref (γ 9 7), .ref (γ 9 8), .int p583475, .int p583476, .int p583477, .int p583478, .int p583479, .int p583480, .ref (γ 9 15), .ref (γ 9 16), .ref (γ 9 17), .ref (γ 9 18), .ref (γ 9 19), .ref (γ 9 20), .ref (γ 9 21), .ref (γ 9 22), .int p583481, .int p583482, .int p583483, .int p583484, .int p583485, .ref q583473, .ref (γ 9 29), .int p583486, .ref (γ 9 31), .int p583487, .int p583488, .int p583489, .ref q583474]) := (n583657 q583468 (rn_oa he583472 he583653)).trans he583472
    have he583660 : F583655 q583469 = .inr (20, [.int p583524, .int p583525, .int p583526, .int p583527, .int p583528, .int p583529, .int p583530]) := (n583657 q583469 (rn_oa he583523 he583653)).trans he583523
    have he583661 : F583655 (γ 9 21) = .inl (I .int, 2000, .inl f583650) := (n583657 (γ 9 21) (rn_ty ht583507 ht583506 (by decide))).trans he583649
    have he583662 : F583655 (γ 9 20) = .inl (I .int, 2000, .inl f583658) := e583656
    have hs583663 : rStr γ [97] F583467 F583655 := rStr_put (rStr_rf (γ := γ) (W := [97]) (F := F583467)) n583657 ht583506 (by decide)
    refine G_iconst (-1) dr_cX17_step_173 (by decide +kernel) ?_
    have hT583664 : RS D I P583466 F583655 γ el := RS_set hT n583657 ht583506 (by decide) ⟨f583658, he583662⟩
    have ac583665 : (fI (F583655 q583468) 26).toInt = p583484.toInt := by rw [he583659]; rfl
    have ac583666 : (fI (F583655 q583468) 9).toInt = p583475.toInt := by rw [he583659]; rfl
    have ac583667 : (fI (F583655 q583468) 10).toInt = p583476.toInt := by rw [he583659]; rfl
    have ac583668 : (fI (F583655 q583468) 32).toInt = p583487.toInt := by rw [he583659]; rfl
    exact G_iretA dr_cX17_step_174 rfl (Nat.le_of_ble_eq_true rfl) (Nat.le_of_ble_eq_true rfl) ⟨F583655, (-1), rfl, rfl, hT583664, hs583663, (Nat.le_of_ble_eq_true rfl), (Nat.le_of_ble_eq_true rfl), (gB_w (gBl (show Int32.toInt (-1) = (-1) by decide)) (by decide) (by decide)), (by have qa0 : Int32.toInt (-1) = (-1) := (by decide); omega), (by have qa0 : Int32.toInt (-1) = (-1) := (by decide); omega), (by have qa0 : Int32.toInt (-1) = (-1) := (by decide); omega), (by have qa0 : Int32.toInt (-1) = (-1) := (by decide); omega), (fun R c1 c2 c3 c4 c5 c6 c7 c8 c9 => c4 p583524 p583525 p583528 f583650 z583651 f583654 f583658 F583655 fq583536 ehs583643 fq583644 fq583645 fq583646 fq583647 he583649 hz583651 he583653 hf583658 n583657 he583662)⟩
  by_cases hs583669 : p583524 = 22
  · have ehs583669 : p583524.toInt = 22 := gj_eq hs583669 (show Int32.toInt 22 = 22 by decide)
    have bp583524' : gB p583524 22 22 := ⟨by omega, by omega⟩
    refine G_eqi (y := 22) hs583669 ?_
    refine G_lookup 110 dr_cX17_step_4 (by decide) (by first | rfl | decide) (by decide) ?_
    refine G_aload_n 0 dr_cX17_step_110 rfl ?_
    have fq583670 : fI (F583467 q583468) 25 = p583483 := by rw [he583472]; rfl
    refine Gp_get 25 hm583471 he583472 dr_cX17_step_111 (gk_X17 D I) (Nat.le_of_ble_eq_true rfl) wr_7_99 rfl ?_
    have bp583483 : gB p583483 0 512 := (hB583516.2.2.2.2.1)
    refine G_sipush 512 dr_cX17_step_114 (by decide +kernel) ?_
    refine G_icmp_ne 122 dr_cX17_step_117 (by decide +kernel) (fun hc583671 => ?_) (fun hc583671 => ?_)
    · have r583672 : p583483.toInt ≠ 512 := gj_neq hc583671 (show Int32.toInt 512 = 512 by decide)
      have bp583483' : gB p583483 0 511 := ⟨by omega, by omega⟩
      refine G_aload_n 0 dr_cX17_step_122 rfl ?_
      have fq583673 : fR (F583467 q583468) 22 = (γ 9 22) := by rw [he583472]; rfl
      refine Gp_get 22 hm583471 he583472 dr_cX17_step_123 (gk_X17 D I) (Nat.le_of_ble_eq_true rfl) wr_7_96 rfl ?_
      refine G_aload_n 0 dr_cX17_step_126 rfl ?_
      refine Gp_get 25 hm583471 he583472 dr_cX17_step_127 (gk_X17 D I) (Nat.le_of_ble_eq_true rfl) wr_7_99 rfl ?_
      refine G_aload_n 0 dr_cX17_step_130 rfl ?_
      refine G_aload_n 1 dr_cX17_step_131 rfl ?_
      have fq583674 : fI (F583467 q583469) 5 = p583529 := by rw [he583523]; rfl
      refine Gp_get 5 hm583522 he583523 dr_cX17_step_132 (gk_X15 D I) (Nat.le_of_ble_eq_true rfl) wr_9_197 rfl ?_
      refine G_aload_n 1 dr_cX17_step_135 rfl ?_
      have fq583675 : fI (F583467 q583469) 2 = p583526 := by rw [he583523]; rfl
      refine Gp_get 2 hm583522 he583523 dr_cX17_step_136 (gk_X15 D I) (Nat.le_of_ble_eq_true rfl) wr_9_186 rfl ?_
      refine Gw_callV (As := [.int p583529, .int p583526]) (gV_ok D I) (ct_7532_SpillForgeModel_value l hl0 D I γ el P583466 F583467 q583468 p583529 p583526 hT htq583468 bp583529 (by omega)) dr_cX17_step_139 ⟨wr_11_100, wr_1_14, wr_11_103, by decide, rfl, (Nat.le_of_ble_eq_true rfl), (Nat.le_of_ble_eq_true rfl)⟩ wr_11_102 wr_p_115 hm583471 he583472 rfl (show 0 + 0 ≤ 0 by first | omega | decide) (show 0 + 0 ≤ 0 by first | omega | decide) (Nat.le_of_ble_eq_true rfl) (fun r583679 w583680 dc583676 ds583677 hp583678 => ?_) (fun _ _ _ _ _ z => z.elim)
      obtain ⟨o583681, rfl, rfl, hdc, hds, ht583682⟩ := hp583678
      have bo583681 := gB_any o583681
      change G _ _ _ _ _ _ _ (.int o583681 :: _) _ _ _
      refine G_widen (cs' := 0) (sl' := 0) (by omega) (by omega) ?_
      have hm583683 : (γ 9 22) ∈ P583466 := RS_m hT ht583508 (by decide)
      obtain ⟨f583685, he583684⟩ := show rk_97 I (F583467 (γ 9 22)) from RS_o hT ht583508
      refine Gp_iast 0 hm583683 he583684 dr_cX17_step_142 rfl (gB_in bp583483' (by decide) (by decide)) (fun F583686 e583687 n583688 => ?_)
      obtain ⟨f583689, hf583689⟩ : ∃ z, z = upd f583685 p583483.toNatClampNeg o583681 := ⟨_, rfl⟩
      rw [← hf583689] at e583687
      have he583690 : F583686 q583468 = .inr (22, [.ref (γ 9 0), .ref (γ 9 1), .ref (γ 9 2), .ref (γ 9 3), .ref (γ 9 4), .ref (γ 9 5), .ref (γ 9 6), .ref (γ 9 7), .ref (γ 9 8), .int p583475, .int p583476, .int p583477, .int p583478, .int p583479, .int p583480, .ref (γ 9 15), .ref (γ 9 16), .ref (γ 9 17), .ref (γ 9 18), .ref (γ 9 19), .ref (γ 9 20), .ref (γ 9 21), .ref (γ 9 22), .int p583481, .int p583482, .int p583483, .int p583484, .int p583485, .ref q583473, .ref (γ 9 29), .int p583486, .ref (γ 9 31), .int p583487, .int p583488, .int p583489, .ref q583474]) := (n583688 q583468 (rn_oa he583472 he583684)).trans he583472
      have he583691 : F583686 q583469 = .inr (20, [.int p583524, .int p583525, .int p583526, .int p583527, .int p583528, .int p583529, .int p583530]) := (n583688 q583469 (rn_oa he583523 he583684)).trans he583523
      have he583692 : F583686 (γ 9 22) = .inl (I .int, 512, .inl f583689) := e583687
      have hs583693 : rStr γ [97] F583467 F583686 := rStr_pu2 (rStr_rf (γ := γ) (W := [97]) (F := F583467)) n583688 ht583508 (by decide)
      refine G_aload_n 0 dr_cX17_step_143 rfl ?_
      refine G_dup dr_cX17_step_144 rfl ?_
      have fq583694 : fI (F583686 q583468) 25 = p583483 := by rw [he583690]; rfl
      refine Gp_get 25 hm583471 he583690 dr_cX17_step_145 (gk_X17 D I) (Nat.le_of_ble_eq_true rfl) wr_7_99 rfl ?_
      refine G_iconst 1 dr_cX17_step_148 (by decide +kernel) ?_
      refine G_iadd dr_cX17_step_149 (G_nam fun z583695 hz583695 => ?_)
      have ez583695 : z583695.toInt = p583483.toInt + 1 := by rw [gI_add hz583695 bp583483' (gBl (show Int32.toInt 1 = 1 by decide)) (by decide) (by decide), show Int32.toInt 1 = 1 from by decide]
      have bz583695 : gB z583695 1 512 := gB_add (gI_add hz583695 bp583483' (gBl (show Int32.toInt 1 = 1 by decide)) (by decide) (by decide)) bp583483' (gBl (show Int32.toInt 1 = 1 by decide)) (by decide) (by decide)
      have hT583696 : RS D I P583466 F583686 γ el := RS_set hT n583688 ht583508 (by decide) ⟨f583689, he583692⟩
      refine Gp_put 25 hm583471 he583690 dr_cX17_step_150 (gk_X17 D I) (Nat.le_of_ble_eq_true rfl) wr_7_99 rfl rfl rfl (Nat.le_of_ble_eq_true rfl) (fun F583697 e583698 n583699 => ?_)
      have he583700 : F583697 q583469 = .inr (20, [.int p583524, .int p583525, .int p583526, .int p583527, .int p583528, .int p583529, .int p583530]) := (n583699 q583469 (rn_oo he583691 he583690 (by decide))).trans he583691
      have he583701 : F583697 (γ 9 22) = .inl (I .int, 512, .inl f583689) := (n583699 (γ 9 22) (rn_ao he583692 he583690)).trans he583692
      have he583702 : F583697 q583468 = .inr (22, [.ref (γ 9 0), .ref (γ 9 1), .ref (γ 9 2), .ref (γ 9 3), .ref (γ 9 4), .ref (γ 9 5), .ref (γ 9 6), .ref (γ 9 7), .ref (γ 9 8), .int p583475, .int p583476, .int p583477, .int p583478, .int p583479, .int p583480, .ref (γ 9 15), .ref (γ 9 16), .ref (γ 9 17), .ref (γ 9 18), .ref (γ 9 19), .ref (γ 9 20), .ref (γ 9 21), .ref (γ 9 22), .int p583481, .int p583482, .int z583695, .int p583484, .int p583485, .ref q583473, .ref (γ 9 29), .int p583486, .ref (γ 9 31), .int p583487, .int p583488, .int p583489, .ref q583474]) := e583698
      have hs583703 : rStr γ [97] F583467 F583697 := rStr_put hs583693 n583699 htq583468 (by decide)
      have fq583704 : F583697 q583468 = cF (F583686 q583468) 25 (.int z583695) := by rw [he583702, he583690]; rfl
      refine G_iconst (-1) dr_cX17_step_153 (by decide +kernel) ?_
      have hT583705 : RS D I P583466 F583697 γ el := RS_set hT583696 n583699 htq583468 (by decide) ⟨q583473, q583474, p583475, p583476, p583477, p583478, p583479, p583480, p583481, p583482, z583695, p583484, p583485, p583486, p583487, p583488, p583489, he583702, ⟨bp583475, bp583476, (hB583516.2.2.1), (hB583516.2.2.2.1), (gB_w bz583695 (by decide) (by decide)), bp583484, (hB583516.2.2.2.2.2.2.1), bp583487, (hB583516.2.2.2.2.2.2.2.2)⟩, ht583490, ht583491, ht583492, ht583493, ht583494, ht583495, ht583496, ht583497, ht583498, ht583499, ht583500, ht583501, ht583502, ht583503, ht583504, ht583505, ht583506, ht583507, ht583508, ht583509, ht583510, ht583511, ht583512, ht583513, hB583517⟩
      have ac583706 : (fI (F583697 q583468) 26).toInt = p583484.toInt := by rw [he583702]; rfl
      have ac583707 : (fI (F583697 q583468) 9).toInt = p583475.toInt := by rw [he583702]; rfl
      have ac583708 : (fI (F583697 q583468) 10).toInt = p583476.toInt := by rw [he583702]; rfl
      have ac583709 : (fI (F583697 q583468) 32).toInt = p583487.toInt := by rw [he583702]; rfl
      exact G_iretA dr_cX17_step_154 rfl (Nat.le_of_ble_eq_true rfl) (Nat.le_of_ble_eq_true rfl) ⟨F583697, (-1), rfl, rfl, hT583705, hs583703, (Nat.le_of_ble_eq_true rfl), (Nat.le_of_ble_eq_true rfl), (gB_w (gBl (show Int32.toInt (-1) = (-1) by decide)) (by decide) (by decide)), (by have qa0 : Int32.toInt (-1) = (-1) := (by decide); omega), (by have qa0 : Int32.toInt (-1) = (-1) := (by decide); omega), (by have qa0 : Int32.toInt (-1) = (-1) := (by decide); omega), (by have qa0 : Int32.toInt (-1) = (-1) := (by decide); omega), (fun R c1 c2 c3 c4 c5 c6 c7 c8 c9 => c5 p583524 p583483 p583529 p583526 o583681 f583685 f583689 F583686 z583695 F583697 fq583536 ehs583669 fq583670 r583672 fq583673 fq583674 fq583675 ht583682 he583684 hf583689 n583688 he583692 fq583694 ez583695 n583699 fq583704)⟩
    · have r583710 : p583483.toInt = 512 := gj_eq hc583671 (show Int32.toInt 512 = 512 by decide)
      have bp583483' : gB p583483 512 512 := ⟨by omega, by omega⟩
      refine G_iconst 5 dr_cX17_step_120 (by decide +kernel) ?_
      have ac583711 : (fI (F583467 q583468) 26).toInt = p583484.toInt := by rw [he583472]; rfl
      have ac583712 : (fI (F583467 q583468) 9).toInt = p583475.toInt := by rw [he583472]; rfl
      have ac583713 : (fI (F583467 q583468) 10).toInt = p583476.toInt := by rw [he583472]; rfl
      have ac583714 : (fI (F583467 q583468) 32).toInt = p583487.toInt := by rw [he583472]; rfl
      exact G_iretA dr_cX17_step_121 rfl (Nat.le_of_ble_eq_true rfl) (Nat.le_of_ble_eq_true rfl) ⟨F583467, 5, rfl, rfl, hT, (rStr_rf (γ := γ) (W := [97]) (F := F583467)), (Nat.le_of_ble_eq_true rfl), (Nat.le_of_ble_eq_true rfl), (gB_w (gBl (show Int32.toInt 5 = 5 by decide)) (by decide) (by decide)), (by have qa0 : Int32.toInt 5 = 5 := (by decide); omega), (by have qa0 : Int32.toInt 5 = 5 := (by decide); omega), (by have qa0 : Int32.toInt 5 = 5 := (by decide); omega), (by have qa0 : Int32.toInt 5 = 5 := (by decide); omega), (fun R c1 c2 c3 c4 c5 c6 c7 c8 c9 => c6 p583524 p583483 fq583536 ehs583669 fq583670 r583710)⟩
  by_cases hs583715 : p583524 = 23
  · have ehs583715 : p583524.toInt = 23 := gj_eq hs583715 (show Int32.toInt 23 = 23 by decide)
    have bp583524' : gB p583524 23 23 := ⟨by omega, by omega⟩
    refine G_eqi (y := 23) hs583715 ?_
    refine G_lookup 175 dr_cX17_step_4 (by decide) (by first | rfl | decide) (by decide) ?_
    refine G_aload_n 0 dr_cX17_step_175 rfl ?_
    have fq583716 : fR (F583467 q583468) 21 = (γ 9 21) := by rw [he583472]; rfl
    refine Gp_get 21 hm583471 he583472 dr_cX17_step_176 (gk_X17 D I) (Nat.le_of_ble_eq_true rfl) wr_7_95 rfl ?_
    refine G_aload_n 1 dr_cX17_step_179 rfl ?_
    have fq583717 : fI (F583467 q583469) 4 = p583528 := by rw [he583523]; rfl
    refine Gp_get 4 hm583522 he583523 dr_cX17_step_180 (gk_X15 D I) (Nat.le_of_ble_eq_true rfl) wr_9_193 rfl ?_
    refine G_aload_n 0 dr_cX17_step_183 rfl ?_
    refine G_aload_n 1 dr_cX17_step_184 rfl ?_
    have fq583718 : fI (F583467 q583469) 5 = p583529 := by rw [he583523]; rfl
    refine Gp_get 5 hm583522 he583523 dr_cX17_step_185 (gk_X15 D I) (Nat.le_of_ble_eq_true rfl) wr_9_197 rfl ?_
    refine G_aload_n 1 dr_cX17_step_188 rfl ?_
    have fq583719 : fI (F583467 q583469) 2 = p583526 := by rw [he583523]; rfl
    refine Gp_get 2 hm583522 he583523 dr_cX17_step_189 (gk_X15 D I) (Nat.le_of_ble_eq_true rfl) wr_9_186 rfl ?_
    refine Gw_callV (As := [.int p583529, .int p583526]) (gV_ok D I) (ct_7532_SpillForgeModel_value l hl0 D I γ el P583466 F583467 q583468 p583529 p583526 hT htq583468 bp583529 (by omega)) dr_cX17_step_192 ⟨wr_11_100, wr_1_14, wr_11_103, by decide, rfl, (Nat.le_of_ble_eq_true rfl), (Nat.le_of_ble_eq_true rfl)⟩ wr_11_102 wr_p_115 hm583471 he583472 rfl (show 0 + 0 ≤ 0 by first | omega | decide) (show 0 + 0 ≤ 0 by first | omega | decide) (Nat.le_of_ble_eq_true rfl) (fun r583723 w583724 dc583720 ds583721 hp583722 => ?_) (fun _ _ _ _ _ z => z.elim)
    obtain ⟨o583725, rfl, rfl, hdc, hds, ht583726⟩ := hp583722
    have bo583725 := gB_any o583725
    change G _ _ _ _ _ _ _ (.int o583725 :: _) _ _ _
    refine G_widen (cs' := 0) (sl' := 0) (by omega) (by omega) ?_
    have hm583727 : (γ 9 21) ∈ P583466 := RS_m hT ht583507 (by decide)
    obtain ⟨f583729, he583728⟩ := show rk_23 I (F583467 (γ 9 21)) from RS_o hT ht583507
    refine Gp_iast 0 hm583727 he583728 dr_cX17_step_195 rfl (gB_in bp583528 (by decide) (by decide)) (fun F583730 e583731 n583732 => ?_)
    obtain ⟨f583733, hf583733⟩ : ∃ z, z = upd f583729 p583528.toNatClampNeg o583725 := ⟨_, rfl⟩
    rw [← hf583733] at e583731
    have he583734 : F583730 q583468 = .inr (22, [.ref (γ 9 0), .ref (γ 9 1), .ref (γ 9 2), .ref (γ 9 3), .ref (γ 9 4), .ref (γ 9 5), .ref (γ 9 6), .ref (γ 9 7), .ref (γ 9 8), .int p583475, .int p583476, .int p583477, .int p583478, .int p583479, .int p583480, .ref (γ 9 15), .ref (γ 9 16), .ref (γ 9 17), .ref (γ 9 18), .ref (γ 9 19), .ref (γ 9 20), .ref (γ 9 21), .ref (γ 9 22), .int p583481, .int p583482, .int p583483, .int p583484, .int p583485, .ref q583473, .ref (γ 9 29), .int p583486, .ref (γ 9 31), .int p583487, .int p583488, .int p583489, .ref q583474]) := (n583732 q583468 (rn_oa he583472 he583728)).trans he583472
    have he583735 : F583730 q583469 = .inr (20, [.int p583524, .int p583525, .int p583526, .int p583527, .int p583528, .int p583529, .int p583530]) := (n583732 q583469 (rn_oa he583523 he583728)).trans he583523
    have he583736 : F583730 (γ 9 21) = .inl (I .int, 2000, .inl f583733) := e583731
    have hs583737 : rStr γ [97] F583467 F583730 := rStr_put (rStr_rf (γ := γ) (W := [97]) (F := F583467)) n583732 ht583507 (by decide)
    refine G_iconst (-1) dr_cX17_step_196 (by decide +kernel) ?_
    have hT583738 : RS D I P583466 F583730 γ el := RS_set hT n583732 ht583507 (by decide) ⟨f583733, he583736⟩
    have ac583739 : (fI (F583730 q583468) 26).toInt = p583484.toInt := by rw [he583734]; rfl
    have ac583740 : (fI (F583730 q583468) 9).toInt = p583475.toInt := by rw [he583734]; rfl
    have ac583741 : (fI (F583730 q583468) 10).toInt = p583476.toInt := by rw [he583734]; rfl
    have ac583742 : (fI (F583730 q583468) 32).toInt = p583487.toInt := by rw [he583734]; rfl
    exact G_iretA dr_cX17_step_197 rfl (Nat.le_of_ble_eq_true rfl) (Nat.le_of_ble_eq_true rfl) ⟨F583730, (-1), rfl, rfl, hT583738, hs583737, (Nat.le_of_ble_eq_true rfl), (Nat.le_of_ble_eq_true rfl), (gB_w (gBl (show Int32.toInt (-1) = (-1) by decide)) (by decide) (by decide)), (by have qa0 : Int32.toInt (-1) = (-1) := (by decide); omega), (by have qa0 : Int32.toInt (-1) = (-1) := (by decide); omega), (by have qa0 : Int32.toInt (-1) = (-1) := (by decide); omega), (by have qa0 : Int32.toInt (-1) = (-1) := (by decide); omega), (fun R c1 c2 c3 c4 c5 c6 c7 c8 c9 => c7 p583524 p583528 p583529 p583526 o583725 f583729 f583733 F583730 fq583536 ehs583715 fq583716 fq583717 fq583718 fq583719 ht583726 he583728 hf583733 n583732 he583736)⟩
  have ehs583537 := lv_neT hs583537 (show Int32.toInt 0 = 0 by decide)
  have ehs583565 := lv_neT hs583565 (show Int32.toInt 20 = 20 by decide)
  have ehs583643 := lv_neT hs583643 (show Int32.toInt 21 = 21 by decide)
  have ehs583669 := lv_neT hs583669 (show Int32.toInt 22 = 22 by decide)
  have ehs583715 := lv_neT hs583715 (show Int32.toInt 23 = 23 by decide)
  refine G_lookup 221 dr_cX17_step_4 (by decide) (by show Op.lookupswitch.offset [(0, 194), (20, 52), (21, 151), (22, 106), (23, 171)] _ _ = 217; rw [lv_osw hs583537 (show Int32.toInt 0 = 0 by decide), lv_osw hs583565 (show Int32.toInt 20 = 20 by decide), lv_osw hs583643 (show Int32.toInt 21 = 21 by decide), lv_osw hs583669 (show Int32.toInt 22 = 22 by decide), lv_osw hs583715 (show Int32.toInt 23 = 23 by decide)]; first | done | rfl) (by decide) ?_
  refine G_aload_n 1 dr_cX17_step_221 rfl ?_
  refine Gp_get 0 hm583522 he583523 dr_cX17_step_222 (gk_X15 D I) (Nat.le_of_ble_eq_true rfl) wr_9_177 rfl ?_
  refine G_aload_n 0 dr_cX17_step_225 rfl ?_
  refine G_aload_n 1 dr_cX17_step_226 rfl ?_
  have fq583743 : fI (F583467 q583469) 5 = p583529 := by rw [he583523]; rfl
  refine Gp_get 5 hm583522 he583523 dr_cX17_step_227 (gk_X15 D I) (Nat.le_of_ble_eq_true rfl) wr_9_197 rfl ?_
  refine G_aload_n 1 dr_cX17_step_230 rfl ?_
  have fq583744 : fI (F583467 q583469) 2 = p583526 := by rw [he583523]; rfl
  refine Gp_get 2 hm583522 he583523 dr_cX17_step_231 (gk_X15 D I) (Nat.le_of_ble_eq_true rfl) wr_9_186 rfl ?_
  refine Gw_callV (As := [.int p583529, .int p583526]) (gV_ok D I) (ct_7532_SpillForgeModel_value l hl0 D I γ el P583466 F583467 q583468 p583529 p583526 hT htq583468 bp583529 (by omega)) dr_cX17_step_234 ⟨wr_11_100, wr_1_14, wr_11_103, by decide, rfl, (Nat.le_of_ble_eq_true rfl), (Nat.le_of_ble_eq_true rfl)⟩ wr_11_102 wr_p_115 hm583471 he583472 rfl (show 0 + 0 ≤ 0 by first | omega | decide) (show 0 + 0 ≤ 0 by first | omega | decide) (Nat.le_of_ble_eq_true rfl) (fun r583748 w583749 dc583745 ds583746 hp583747 => ?_) (fun _ _ _ _ _ z => z.elim)
  obtain ⟨o583750, rfl, rfl, hdc, hds, ht583751⟩ := hp583747
  have bo583750 := gB_any o583750
  change G _ _ _ _ _ _ _ (.int o583750 :: _) _ _ _
  refine G_widen (cs' := 0) (sl' := 0) (by omega) (by omega) ?_
  refine G_aload_n 0 dr_cX17_step_237 rfl ?_
  refine G_aload_n 1 dr_cX17_step_238 rfl ?_
  have fq583752 : fI (F583467 q583469) 6 = p583530 := by rw [he583523]; rfl
  refine Gp_get 6 hm583522 he583523 dr_cX17_step_239 (gk_X15 D I) (Nat.le_of_ble_eq_true rfl) wr_9_202 rfl ?_
  refine G_aload_n 1 dr_cX17_step_242 rfl ?_
  have fq583753 : fI (F583467 q583469) 3 = p583527 := by rw [he583523]; rfl
  refine Gp_get 3 hm583522 he583523 dr_cX17_step_243 (gk_X15 D I) (Nat.le_of_ble_eq_true rfl) wr_9_190 rfl ?_
  refine Gw_callV (As := [.int p583530, .int p583527]) (gV_ok D I) (ct_7532_SpillForgeModel_value l hl0 D I γ el P583466 F583467 q583468 p583530 p583527 hT htq583468 bp583530 (by omega)) dr_cX17_step_246 ⟨wr_11_100, wr_1_14, wr_11_103, by decide, rfl, (Nat.le_of_ble_eq_true rfl), (Nat.le_of_ble_eq_true rfl)⟩ wr_11_102 wr_p_115 hm583471 he583472 rfl (show 0 + 0 ≤ 0 by first | omega | decide) (show 0 + 0 ≤ 0 by first | omega | decide) (Nat.le_of_ble_eq_true rfl) (fun r583757 w583758 dc583754 ds583755 hp583756 => ?_) (fun _ _ _ _ _ z => z.elim)
  obtain ⟨o583759, rfl, rfl, hdc, hds, ht583760⟩ := hp583756
  have bo583759 := gB_any o583759
  change G _ _ _ _ _ _ _ (.int o583759 :: _) _ _ _
  refine G_widen (cs' := 0) (sl' := 0) (by omega) (by omega) ?_
  refine Gw_callS (As := [.int p583524, .int o583750, .int o583759]) (gV_ok D I) (cp_2035_SpillForgeModel_result l hl0 D I P583466 F583467 p583524 o583750 o583759 ) dr_cX17_step_249 ⟨wr_11_104, wr_1_14, wr_11_106, by decide, rfl, (Nat.le_of_ble_eq_true rfl), (Nat.le_of_ble_eq_true rfl)⟩ wr_11_105 (show 0 + 0 ≤ 0 by first | omega | decide) (show 0 + 0 ≤ 0 by first | omega | decide) (Nat.le_of_ble_eq_true rfl) (fun r583764 w583765 dc583761 ds583762 hp583763 => ?_) (fun _ _ _ _ _ z => z.elim)
  obtain ⟨ol583766, rfl, rfl, hdc, hds, ht583767⟩ := hp583763
  change G _ _ _ _ _ _ _ (.long ol583766 :: _) _ _ _
  refine G_widen (cs' := 0) (sl' := 0) (by omega) (by omega) ?_
  refine G_lstore_n (L' := [(2, .long ol583766), (0, .ref q583468), (1, .ref q583469)]) dr_cX17_step_252 (Nat.le_of_ble_eq_true rfl) rfl ?_
  refine G_lload_n 0 dr_cX17_step_253 rfl ?_
  refine G_ldc2 4294967296 dr_cX17_step_254 wr_11_107 ?_
  refine G_lcmp dr_cX17_step_257 (G_nam fun z583768 hz583768 => ?_)
  have bz583768 : gB z583768 (-1) 1 := gB_cmp hz583768
  refine G_if_ne 263 dr_cX17_step_258 (by decide +kernel) (fun hc583769 => ?_) (fun hc583769 => ?_)
  · have r583770 : z583768.toInt ≠ 0 := gj_neq hc583769 (show Int32.toInt 0 = 0 by decide)
    have lhc583769 := gC_cmpN hz583768 hc583769
    refine G_aload_n 1 dr_cX17_step_263 rfl ?_
    have fq583771 : fR (F583467 q583468) 20 = (γ 9 20) := by rw [he583472]; rfl
    refine Gp_get 20 hm583471 he583472 dr_cX17_step_264 (gk_X17 D I) (Nat.le_of_ble_eq_true rfl) wr_7_94 rfl ?_
    refine G_aload_n 2 dr_cX17_step_267 rfl ?_
    have fq583772 : fI (F583467 q583469) 1 = p583525 := by rw [he583523]; rfl
    refine Gp_get 1 hm583522 he583523 dr_cX17_step_268 (gk_X15 D I) (Nat.le_of_ble_eq_true rfl) wr_9_182 rfl ?_
    refine G_lload_n 0 dr_cX17_step_271 rfl ?_
    refine G_l2i dr_cX17_step_272 (G_nam fun z583773 hz583773 => ?_)
    have bz583773 : gB z583773 (-2147483648) 2147483647 := gB_any z583773
    have hm583774 : (γ 9 20) ∈ P583466 := RS_m hT ht583506 (by decide)
    obtain ⟨f583776, he583775⟩ := show rk_22 I (F583467 (γ 9 20)) from RS_o hT ht583506
    refine Gp_iast 0 hm583774 he583775 dr_cX17_step_273 rfl (gB_in bp583525 (by decide) (by decide)) (fun F583777 e583778 n583779 => ?_)
    obtain ⟨f583780, hf583780⟩ : ∃ z, z = upd f583776 p583525.toNatClampNeg z583773 := ⟨_, rfl⟩
    rw [← hf583780] at e583778
    have he583781 : F583777 q583468 = .inr (22, [.ref (γ 9 0), .ref (γ 9 1), .ref (γ 9 2), .ref (γ 9 3), .ref (γ 9 4), .ref (γ 9 5), .ref (γ 9 6), .ref (γ 9 7), .ref (γ 9 8), .int p583475, .int p583476, .int p583477, .int p583478, .int p583479, .int p583480, .ref (γ 9 15), .ref (γ 9 16), .ref (γ 9 17), .ref (γ 9 18), .ref (γ 9 19), .ref (γ 9 20), .ref (γ 9 21), .ref (γ 9 22), .int p583481, .int p583482, .int p583483, .int p583484, .int p583485, .ref q583473, .ref (γ 9 29), .int p583486, .ref (γ 9 31), .int p583487, .int p583488, .int p583489, .ref q583474]) := (n583779 q583468 (rn_oa he583472 he583775)).trans he583472
    have he583782 : F583777 q583469 = .inr (20, [.int p583524, .int p583525, .int p583526, .int p583527, .int p583528, .int p583529, .int p583530]) := (n583779 q583469 (rn_oa he583523 he583775)).trans he583523
    have he583783 : F583777 (γ 9 20) = .inl (I .int, 2000, .inl f583780) := e583778
    have hs583784 : rStr γ [97] F583467 F583777 := rStr_put (rStr_rf (γ := γ) (W := [97]) (F := F583467)) n583779 ht583506 (by decide)
    refine G_iconst (-1) dr_cX17_step_274 (by decide +kernel) ?_
    have hT583785 : RS D I P583466 F583777 γ el := RS_set hT n583779 ht583506 (by decide) ⟨f583780, he583783⟩
    have ac583786 : (fI (F583777 q583468) 26).toInt = p583484.toInt := by rw [he583781]; rfl
    have ac583787 : (fI (F583777 q583468) 9).toInt = p583475.toInt := by rw [he583781]; rfl
    have ac583788 : (fI (F583777 q583468) 10).toInt = p583476.toInt := by rw [he583781]; rfl
    have ac583789 : (fI (F583777 q583468) 32).toInt = p583487.toInt := by rw [he583781]; rfl
    exact G_iretA dr_cX17_step_275 rfl (Nat.le_of_ble_eq_true rfl) (Nat.le_of_ble_eq_true rfl) ⟨F583777, (-1), rfl, rfl, hT583785, hs583784, (Nat.le_of_ble_eq_true rfl), (Nat.le_of_ble_eq_true rfl), (gB_w (gBl (show Int32.toInt (-1) = (-1) by decide)) (by decide) (by decide)), (by have qa0 : Int32.toInt (-1) = (-1) := (by decide); omega), (by have qa0 : Int32.toInt (-1) = (-1) := (by decide); omega), (by have qa0 : Int32.toInt (-1) = (-1) := (by decide); omega), (by have qa0 : Int32.toInt (-1) = (-1) := (by decide); omega), (fun R c1 c2 c3 c4 c5 c6 c7 c8 c9 => c8 p583524 p583529 p583526 o583750 p583530 p583527 o583759 ol583766 p583525 z583773 f583776 f583780 F583777 fq583536 ehs583537 ehs583565 ehs583643 ehs583669 ehs583715 fq583743 fq583744 ht583751 fq583752 fq583753 ht583760 ht583767 lhc583769 fq583771 fq583772 hz583773 he583775 hf583780 n583779 he583783)⟩
  · have r583790 : z583768.toInt = 0 := gj_eq hc583769 (show Int32.toInt 0 = 0 by decide)
    have bz583768' : gB z583768 0 0 := ⟨by omega, by omega⟩
    have lhc583769 := gC_cmpE hz583768 hc583769
    refine G_iconst 1 dr_cX17_step_261 (by decide +kernel) ?_
    have ac583791 : (fI (F583467 q583468) 26).toInt = p583484.toInt := by rw [he583472]; rfl
    have ac583792 : (fI (F583467 q583468) 9).toInt = p583475.toInt := by rw [he583472]; rfl
    have ac583793 : (fI (F583467 q583468) 10).toInt = p583476.toInt := by rw [he583472]; rfl
    have ac583794 : (fI (F583467 q583468) 32).toInt = p583487.toInt := by rw [he583472]; rfl
    exact G_iretA dr_cX17_step_262 rfl (Nat.le_of_ble_eq_true rfl) (Nat.le_of_ble_eq_true rfl) ⟨F583467, 1, rfl, rfl, hT, (rStr_rf (γ := γ) (W := [97]) (F := F583467)), (Nat.le_of_ble_eq_true rfl), (Nat.le_of_ble_eq_true rfl), (gB_w (gBl (show Int32.toInt 1 = 1 by decide)) (by decide) (by decide)), (by have qa0 : Int32.toInt 1 = 1 := (by decide); omega), (by have qa0 : Int32.toInt 1 = 1 := (by decide); omega), (by have qa0 : Int32.toInt 1 = 1 := (by decide); omega), (by have qa0 : Int32.toInt 1 = 1 := (by decide); omega), (fun R c1 c2 c3 c4 c5 c6 c7 c8 c9 => c9 p583524 p583529 p583526 o583750 p583530 p583527 o583759 ol583766 fq583536 ehs583537 ehs583565 ehs583643 ehs583669 ehs583715 fq583743 fq583744 ht583751 fq583752 fq583753 ht583760 ht583767 lhc583769)⟩
/- tl_RModel_run_54: F, l3, l4; out: l6, F, l6 -/
def tl_RModel_run_54 (D : va_G) (I : FieldType → ClassId) (γ el : Nat → Nat → Nat) (P : List Nat) (F : Nat → va_E) (q1 : Nat) (q0 : Nat) (a2 : Int32) (s1 : Nat → va_E) (s2 : Int32) (s3 : Int32) (k : Nat) (e1 : Nat) (e2 : Nat → va_E) (e3 : Int32) : Prop := ∀ R : (Nat → va_E) → (Int32) → (Int32) → Nat → (Nat) → (Nat → va_E) → (Int32) → Prop,
  (∀ (F_1 : Nat → va_E) (l3_1 : Int32) (l4_1 : Int32) (x1 : Nat) (x2 : Nat) (x3 : Int32) (x4 : Int32) (x5 : Int32) (x6 : Nat → va_E) (x7 : Nat) (x8 : Int32) (x9 : Nat) (x10 : Int32) (x11 : Int32) (k : Nat) (e1 : Nat) (e2 : Nat → va_E) (e3 : Int32), gB l3_1 0 39 → gB l4_1 0 1000000 → RS D I P F_1 γ el → rStr γ [97] F F_1 → l3_1.toInt < γ 6 (γ 1 q1) → (fI (F_1 q0) 26).toInt ≤ a2.toInt → (fI (F_1 q0) 9).toInt = (fI (F q0) 9).toInt → (fI (F_1 q0) 10).toInt = (fI (F q0) 10).toInt → (fI (F_1 q0) 32).toInt = (fI (F q0) 32).toInt → fR (F_1 q1) 0 = x1 → x2 = el x1 l3_1.toInt.toNat → fI (F_1 x1) 2 = x3 → tr_RCode_get l3_1 x3 → fI (F_1 q0) 26 = x4 → x4.toInt ≠ a2.toInt → x5.toInt = x4.toInt + 1 → (∀ b, b ≠ q0 → x6 b = F_1 b) → x6 q0 = cF (F_1 q0) 26 (.int x5) → fR (x6 x2) 0 = x7 → x8.toInt = (γ 2 x7 : Int) → fI (x6 x7) 2 = x8 → x8.toInt ≤ l4_1.toInt → fR (x6 x2) 1 = x9 → fI (x6 x9) 0 = x10 → x10.toInt ≠ 32 → x10.toInt = 30 → fI (x6 x2) 2 = x11 → R x6 x11 (0 : Int32) k e1 e2 e3 → R F_1 l3_1 l4_1 k e1 e2 e3) →
  (∀ (F_1 : Nat → va_E) (l3_1 : Int32) (l4_1 : Int32) (x1 : Nat) (x2 : Nat) (x3 : Int32) (x4 : Int32) (x5 : Int32) (x6 : Nat → va_E) (x7 : Nat) (x8 : Int32) (x9 : Nat) (x10 : Int32) (x11 : Int32) (x12 : Int32) (x13 : Int32) (x14 : Int32) (k : Nat) (e1 : Nat) (e2 : Nat → va_E) (e3 : Int32), gB l3_1 0 39 → gB l4_1 0 1000000 → RS D I P F_1 γ el → rStr γ [97] F F_1 → l3_1.toInt < γ 6 (γ 1 q1) → (fI (F_1 q0) 26).toInt ≤ a2.toInt → (fI (F_1 q0) 9).toInt = (fI (F q0) 9).toInt → (fI (F_1 q0) 10).toInt = (fI (F q0) 10).toInt → (fI (F_1 q0) 32).toInt = (fI (F q0) 32).toInt → fR (F_1 q1) 0 = x1 → x2 = el x1 l3_1.toInt.toNat → fI (F_1 x1) 2 = x3 → tr_RCode_get l3_1 x3 → fI (F_1 q0) 26 = x4 → x4.toInt ≠ a2.toInt → x5.toInt = x4.toInt + 1 → (∀ b, b ≠ q0 → x6 b = F_1 b) → x6 q0 = cF (F_1 q0) 26 (.int x5) → fR (x6 x2) 0 = x7 → x8.toInt = (γ 2 x7 : Int) → fI (x6 x7) 2 = x8 → x8.toInt ≤ l4_1.toInt → fR (x6 x2) 1 = x9 → fI (x6 x9) 0 = x10 → x10.toInt ≠ 32 → x10.toInt ≠ 30 → fI (x6 x9) 5 = x11 → fI (x6 x9) 2 = x12 → tr_RModel_value D I γ el x6 q0 x11 x12 x13 → x13.toInt = 0 → fI (x6 x2) 3 = x14 → R x6 x14 (0 : Int32) k e1 e2 e3 → R F_1 l3_1 l4_1 k e1 e2 e3) →
  (∀ (F_1 : Nat → va_E) (l3_1 : Int32) (l4_1 : Int32) (x1 : Nat) (x2 : Nat) (x3 : Int32) (x4 : Int32) (x5 : Int32) (x6 : Nat → va_E) (x7 : Nat) (x8 : Int32) (x9 : Nat) (x10 : Int32) (x11 : Int32) (x12 : Int32) (x13 : Int32) (x14 : Int32) (k : Nat) (e1 : Nat) (e2 : Nat → va_E) (e3 : Int32), gB l3_1 0 39 → gB l4_1 0 1000000 → RS D I P F_1 γ el → rStr γ [97] F F_1 → l3_1.toInt < γ 6 (γ 1 q1) → (fI (F_1 q0) 26).toInt ≤ a2.toInt → (fI (F_1 q0) 9).toInt = (fI (F q0) 9).toInt → (fI (F_1 q0) 10).toInt = (fI (F q0) 10).toInt → (fI (F_1 q0) 32).toInt = (fI (F q0) 32).toInt → fR (F_1 q1) 0 = x1 → x2 = el x1 l3_1.toInt.toNat → fI (F_1 x1) 2 = x3 → tr_RCode_get l3_1 x3 → fI (F_1 q0) 26 = x4 → x4.toInt ≠ a2.toInt → x5.toInt = x4.toInt + 1 → (∀ b, b ≠ q0 → x6 b = F_1 b) → x6 q0 = cF (F_1 q0) 26 (.int x5) → fR (x6 x2) 0 = x7 → x8.toInt = (γ 2 x7 : Int) → fI (x6 x7) 2 = x8 → x8.toInt ≤ l4_1.toInt → fR (x6 x2) 1 = x9 → fI (x6 x9) 0 = x10 → x10.toInt ≠ 32 → x10.toInt ≠ 30 → fI (x6 x9) 5 = x11 → fI (x6 x9) 2 = x12 → tr_RModel_value D I γ el x6 q0 x11 x12 x13 → x13.toInt ≠ 0 → fI (x6 x2) 2 = x14 → R x6 x14 (0 : Int32) k e1 e2 e3 → R F_1 l3_1 l4_1 k e1 e2 e3) →
  (∀ (F_1 : Nat → va_E) (l3_1 : Int32) (l4_1 : Int32) (x1 : Nat) (x2 : Nat) (x3 : Int32) (x4 : Int32) (x5 : Int32) (x6 : Nat → va_E) (x7 : Nat) (x8 : Int32) (x9 : Nat) (x10 : Int32), gB l3_1 0 39 → gB l4_1 0 1000000 → RS D I P F_1 γ el → rStr γ [97] F F_1 → l3_1.toInt < γ 6 (γ 1 q1) → (fI (F_1 q0) 26).toInt ≤ a2.toInt → (fI (F_1 q0) 9).toInt = (fI (F q0) 9).toInt → (fI (F_1 q0) 10).toInt = (fI (F q0) 10).toInt → (fI (F_1 q0) 32).toInt = (fI (F q0) 32).toInt → fR (F_1 q1) 0 = x1 → x2 = el x1 l3_1.toInt.toNat → fI (F_1 x1) 2 = x3 → tr_RCode_get l3_1 x3 → fI (F_1 q0) 26 = x4 → x4.toInt ≠ a2.toInt → x5.toInt = x4.toInt + 1 → (∀ b, b ≠ q0 → x6 b = F_1 b) → x6 q0 = cF (F_1 q0) 26 (.int x5) → fR (x6 x2) 0 = x7 → x8.toInt = (γ 2 x7 : Int) → fI (x6 x7) 2 = x8 → x8.toInt ≤ l4_1.toInt → fR (x6 x2) 1 = x9 → fI (x6 x9) 0 = x10 → x10.toInt = 32 → R F_1 l3_1 l4_1 144 x9 x6 (0 : Int32)) →
  (∀ (F_1 : Nat → va_E) (l3_1 : Int32) (l4_1 : Int32) (x1 : Nat) (x2 : Nat) (x3 : Int32) (x4 : Int32) (x5 : Int32) (x6 : Nat → va_E) (x7 : Nat) (x8 : Int32) (x9 : Nat) (x10 : Int32) (x11 : Nat → va_E) (x12 : Int32) (k : Nat) (e1 : Nat) (e2 : Nat → va_E) (e3 : Int32), gB l3_1 0 39 → gB l4_1 0 1000000 → RS D I P F_1 γ el → rStr γ [97] F F_1 → l3_1.toInt < γ 6 (γ 1 q1) → (fI (F_1 q0) 26).toInt ≤ a2.toInt → (fI (F_1 q0) 9).toInt = (fI (F q0) 9).toInt → (fI (F_1 q0) 10).toInt = (fI (F q0) 10).toInt → (fI (F_1 q0) 32).toInt = (fI (F q0) 32).toInt → fR (F_1 q1) 0 = x1 → x2 = el x1 l3_1.toInt.toNat → fI (F_1 x1) 2 = x3 → tr_RCode_get l3_1 x3 → fI (F_1 q0) 26 = x4 → x4.toInt ≠ a2.toInt → x5.toInt = x4.toInt + 1 → (∀ b, b ≠ q0 → x6 b = F_1 b) → x6 q0 = cF (F_1 q0) 26 (.int x5) → fR (x6 x2) 0 = x7 → x8.toInt = (γ 2 x7 : Int) → fI (x6 x7) 2 = x8 → l4_1.toInt < x8.toInt → x9 = el x7 l4_1.toInt.toNat → tr_RArrayList_get l4_1 x8 → gB x10 (-1) 5 → RS D I P x11 γ el → rStr γ [97] x6 x11 → (fI (x11 q0) 26).toInt = (fI (x6 q0) 26).toInt → (fI (x11 q0) 9).toInt = (fI (x6 q0) 9).toInt → (fI (x11 q0) 10).toInt = (fI (x6 q0) 10).toInt → (fI (x11 q0) 32).toInt = (fI (x6 q0) 32).toInt → tr_RModel_step2 D I γ el x6 q0 x9 x10 x11 → x10.toInt < 0 → x12.toInt = l4_1.toInt + 1 → R x11 l3_1 x12 k e1 e2 e3 → R F_1 l3_1 l4_1 k e1 e2 e3) →
  (∀ (F_1 : Nat → va_E) (l3_1 : Int32) (l4_1 : Int32) (x1 : Nat) (x2 : Nat) (x3 : Int32) (x4 : Int32) (x5 : Int32) (x6 : Nat → va_E) (x7 : Nat) (x8 : Int32) (x9 : Nat) (x10 : Int32) (x11 : Nat → va_E), gB l3_1 0 39 → gB l4_1 0 1000000 → RS D I P F_1 γ el → rStr γ [97] F F_1 → l3_1.toInt < γ 6 (γ 1 q1) → (fI (F_1 q0) 26).toInt ≤ a2.toInt → (fI (F_1 q0) 9).toInt = (fI (F q0) 9).toInt → (fI (F_1 q0) 10).toInt = (fI (F q0) 10).toInt → (fI (F_1 q0) 32).toInt = (fI (F q0) 32).toInt → fR (F_1 q1) 0 = x1 → x2 = el x1 l3_1.toInt.toNat → fI (F_1 x1) 2 = x3 → tr_RCode_get l3_1 x3 → fI (F_1 q0) 26 = x4 → x4.toInt ≠ a2.toInt → x5.toInt = x4.toInt + 1 → (∀ b, b ≠ q0 → x6 b = F_1 b) → x6 q0 = cF (F_1 q0) 26 (.int x5) → fR (x6 x2) 0 = x7 → x8.toInt = (γ 2 x7 : Int) → fI (x6 x7) 2 = x8 → l4_1.toInt < x8.toInt → x9 = el x7 l4_1.toInt.toNat → tr_RArrayList_get l4_1 x8 → gB x10 (-1) 5 → RS D I P x11 γ el → rStr γ [97] x6 x11 → (fI (x11 q0) 26).toInt = (fI (x6 q0) 26).toInt → (fI (x11 q0) 9).toInt = (fI (x6 q0) 9).toInt → (fI (x11 q0) 10).toInt = (fI (x6 q0) 10).toInt → (fI (x11 q0) 32).toInt = (fI (x6 q0) 32).toInt → tr_RModel_step2 D I γ el x6 q0 x9 x10 x11 → 0 ≤ x10.toInt → R F_1 l3_1 l4_1 118 (0 : Nat) x11 x10) →
  (∀ (F_1 : Nat → va_E) (l3_1 : Int32) (l4_1 : Int32) (x1 : Nat) (x2 : Nat) (x3 : Int32) (x4 : Int32), gB l3_1 0 39 → gB l4_1 0 1000000 → RS D I P F_1 γ el → rStr γ [97] F F_1 → l3_1.toInt < γ 6 (γ 1 q1) → (fI (F_1 q0) 26).toInt ≤ a2.toInt → (fI (F_1 q0) 9).toInt = (fI (F q0) 9).toInt → (fI (F_1 q0) 10).toInt = (fI (F q0) 10).toInt → (fI (F_1 q0) 32).toInt = (fI (F q0) 32).toInt → fR (F_1 q1) 0 = x1 → x2 = el x1 l3_1.toInt.toNat → fI (F_1 x1) 2 = x3 → tr_RCode_get l3_1 x3 → fI (F_1 q0) 26 = x4 → x4.toInt = a2.toInt → R F_1 l3_1 l4_1 69 (0 : Nat) F_1 (0 : Int32)) →
  R s1 s2 s3 k e1 e2 e3
/- tl_RModel_run_2: F, l3; out: F -/
def tl_RModel_run_2 (D : va_G) (I : FieldType → ClassId) (γ el : Nat → Nat → Nat) (P : List Nat) (F : Nat → va_E) (q0 : Nat) (s1 : Nat → va_E) (s2 : Int32) (k : Nat) (e1 : Nat → va_E) : Prop := ∀ R : (Nat → va_E) → (Int32) → Nat → (Nat → va_E) → Prop,
  (∀ (F_1 : Nat → va_E) (l3_1 : Int32), gB l3_1 0 2000 → RS D I P F_1 γ el → rStr γ [97] F F_1 → (fI (F_1 q0) 9).toInt = (fI (F q0) 9).toInt → (fI (F_1 q0) 10).toInt = (fI (F q0) 10).toInt → (fI (F_1 q0) 32).toInt = (fI (F q0) 32).toInt → 2000 ≤ l3_1.toInt → R F_1 l3_1 29 F_1) →
  (∀ (F_1 : Nat → va_E) (l3_1 : Int32) (x1 : Nat → Int32) (x2 : Nat → Int32) (x3 : Nat → va_E) (x4 : Nat → Int32) (x5 : Nat → Int32) (x6 : Nat → va_E) (x7 : Int32) (k : Nat) (e1 : Nat → va_E), gB l3_1 0 2000 → RS D I P F_1 γ el → rStr γ [97] F F_1 → (fI (F_1 q0) 9).toInt = (fI (F q0) 9).toInt → (fI (F_1 q0) 10).toInt = (fI (F q0) 10).toInt → (fI (F_1 q0) 32).toInt = (fI (F q0) 32).toInt → l3_1.toInt < 2000 → fR (F_1 q0) 20 = (γ 9 20) → F_1 (γ 9 20) = .inl (I .int, 2000, .inl x1) → x2 = upd x1 l3_1.toNatClampNeg 0 → (∀ b, b ≠ (γ 9 20) → x3 b = F_1 b) → x3 (γ 9 20) = .inl (I .int, 2000, .inl x2) → fR (x3 q0) 21 = (γ 9 21) → x3 (γ 9 21) = .inl (I .int, 2000, .inl x4) → x5 = upd x4 l3_1.toNatClampNeg 0 → (∀ b, b ≠ (γ 9 21) → x6 b = x3 b) → x6 (γ 9 21) = .inl (I .int, 2000, .inl x5) → x7.toInt = l3_1.toInt + 1 → R x6 x7 k e1 → R F_1 l3_1 k e1) →
  R s1 s2 k e1
/- tr_RModel_run: result, F -/
def tr_RModel_run (D : va_G) (I : FieldType → ClassId) (γ el : Nat → Nat → Nat) (P : List Nat) (F : Nat → va_E) (q0 : Nat) (q1 : Nat) (a2 : Int32) (o1 : Int32) (o2 : Nat → va_E) : Prop := ∀ R : (Int32) → (Nat → va_E) → Prop,
  (∀ (x1 : Nat → va_E) (x2 : Nat → va_E) (x3 : Nat → va_E) (x4 : Nat → va_E) (x5 : Nat → va_E) (x6 : Nat) (x7 : Nat → va_E) (x8 : Int32) (x9 : Int32) (x10 : Int32) (x11 : Nat → va_E), tl_RModel_run_2 D I γ el P F q0 F (0 : Int32) 29 x1 → (∀ b, b ≠ q0 → x2 b = x1 b) → x2 q0 = cF (x1 q0) 24 (.int 0) → (∀ b, b ≠ q0 → x3 b = x2 b) → x3 q0 = cF (x2 q0) 25 (.int 0) → (∀ b, b ≠ q0 → x4 b = x3 b) → x4 q0 = cF (x3 q0) 26 (.int 0) → (∀ b, b ≠ q0 → x5 b = x4 b) → x5 q0 = cF (x4 q0) 27 (.int 0) → tl_RModel_run_54 D I γ el P F q1 q0 a2 x5 (0 : Int32) (0 : Int32) 144 x6 x7 (0 : Int32) → fI (x7 x6) 5 = x8 → fI (x7 x6) 2 = x9 → tr_RModel_value D I γ el x7 q0 x8 x9 x10 → (∀ b, b ≠ q0 → x11 b = x7 b) → x11 q0 = cF (x7 q0) 24 (.int x10) → R (0 : Int32) x11) →
  (∀ (x1 : Nat → va_E) (x2 : Nat → va_E) (x3 : Nat → va_E) (x4 : Nat → va_E) (x5 : Nat → va_E) (x6 : Nat → va_E) (x7 : Int32), tl_RModel_run_2 D I γ el P F q0 F (0 : Int32) 29 x1 → (∀ b, b ≠ q0 → x2 b = x1 b) → x2 q0 = cF (x1 q0) 24 (.int 0) → (∀ b, b ≠ q0 → x3 b = x2 b) → x3 q0 = cF (x2 q0) 25 (.int 0) → (∀ b, b ≠ q0 → x4 b = x3 b) → x4 q0 = cF (x3 q0) 26 (.int 0) → (∀ b, b ≠ q0 → x5 b = x4 b) → x5 q0 = cF (x4 q0) 27 (.int 0) → tl_RModel_run_54 D I γ el P F q1 q0 a2 x5 (0 : Int32) (0 : Int32) 118 (0 : Nat) x6 x7 → R x7 x6) →
  (∀ (x1 : Nat → va_E) (x2 : Nat → va_E) (x3 : Nat → va_E) (x4 : Nat → va_E) (x5 : Nat → va_E) (x6 : Nat → va_E), tl_RModel_run_2 D I γ el P F q0 F (0 : Int32) 29 x1 → (∀ b, b ≠ q0 → x2 b = x1 b) → x2 q0 = cF (x1 q0) 24 (.int 0) → (∀ b, b ≠ q0 → x3 b = x2 b) → x3 q0 = cF (x2 q0) 25 (.int 0) → (∀ b, b ≠ q0 → x4 b = x3 b) → x4 q0 = cF (x3 q0) 26 (.int 0) → (∀ b, b ≠ q0 → x5 b = x4 b) → x5 q0 = cF (x4 q0) 27 (.int 0) → tl_RModel_run_54 D I γ el P F q1 q0 a2 x5 (0 : Int32) (0 : Int32) 69 (0 : Nat) x6 (0 : Int32) → R (4 : Int32) x6) →
  R o1 o2
end
section
abbrev ky_582690_SpillForgeModel_run : gKey := (cX17_run, 7, "SpillForgeModel", (some FieldType.int), [], "run", fun _ _ => True)
def pt_582690_SpillForgeModel_run (D : va_G) (I : FieldType → ClassId) (γ el : Nat → Nat → Nat) (P582684 : List Nat) (F582685 : Nat → va_E) (q582686 : Nat) (q582687 : Nat) (p582688 : Int32) : Option Value → va_W → Nat → Nat → Prop := fun r w dc ds => ∃ (F587996 : Nat → va_E) (o587995 : Int32), r = some (.int o587995) ∧ w = va_pl P582684 F587996 ∧ RS D I P582684 F587996 γ el ∧ rStr γ [97] F582685 F587996 ∧ dc ≤ 0 ∧ ds ≤ 0 ∧ gB o587995 0 5 ∧ (fI (F587996 q582686) 9).toInt = (fI (F582685 q582686) 9).toInt ∧ (fI (F587996 q582686) 10).toInt = (fI (F582685 q582686) 10).toInt ∧ (fI (F587996 q582686) 32).toInt = (fI (F582685 q582686) 32).toInt ∧ tr_RModel_run D I γ el P582684 F582685 q582686 q582687 p582688 o587995 F587996
set_option maxRecDepth 100000 in
set_option maxHeartbeats 4000000 in
theorem ct_582690_SpillForgeModel_run (l : Launch) (hl0 : l.stackTraces = false) (D : va_G) (I : FieldType → ClassId) (γ el : Nat → Nat → Nat) (P582684 : List Nat) (F582685 : Nat → va_E) (q582686 : Nat) (q582687 : Nat) (p582688 : Int32) (hT : RS D I P582684 F582685 γ el) (htq582686 : rKd γ q582686 10) (htq582687 : rKd γ q582687 9) (bp582688 : gB p582688 1 100000) (x582689 : 0 < γ 6 (γ 1 q582687)) : CtA (gV D I) l yX17_run cX17_run 7 (some FieldType.int) 4 85 0 0 [.ref q582686, .ref q582687, .int p582688] (va_pl P582684 F582685) (pt_582690_SpillForgeModel_run D I γ el P582684 F582685 q582686 q582687 p582688) gNA := by
  refine CtA_of hl0 (by decide) (Nat.le_of_ble_eq_true rfl) ?_
  have hm582691 : q582686 ∈ P582684 := RS_m hT htq582686 (by decide)
  refine rk10_e (show rk_10 γ (F582685 q582686) from RS_o hT htq582686) (fun q582693 q582694 p582695 p582696 p582697 p582698 p582699 p582700 p582701 p582702 p582703 p582704 p582705 p582706 p582707 p582708 p582709 he582692 hB582736 ht582710 ht582711 ht582712 ht582713 ht582714 ht582715 ht582716 ht582717 ht582718 ht582719 ht582720 ht582721 ht582722 ht582723 ht582724 ht582725 ht582726 ht582727 ht582728 ht582729 ht582730 ht582731 ht582732 ht582733 hB582737 => ?_)
  have ac582738 : (fI (F582685 q582686) 26).toInt = p582704.toInt := by rw [he582692]; rfl
  have bp582704 : gB p582704 0 100000 := (hB582736.2.2.2.2.2.1)
  have ac582739 : (fI (F582685 q582686) 9).toInt = p582695.toInt := by rw [he582692]; rfl
  have bp582695 : gB p582695 0 1 := (hB582736.1)
  have ac582740 : (fI (F582685 q582686) 10).toInt = p582696.toInt := by rw [he582692]; rfl
  have bp582696 : gB p582696 0 1 := (hB582736.2.1)
  have ac582741 : (fI (F582685 q582686) 32).toInt = p582707.toInt := by rw [he582692]; rfl
  have bp582707 : gB p582707 0 8192 := (hB582736.2.2.2.2.2.2.2.1)
  refine G_iconst 0 dr_cX17_run_0 (by decide +kernel) ?_
  refine G_istore_n (L' := [(3, .int 0), (0, .ref q582686), (1, .ref q582687), (2, .int p582688)]) dr_cX17_run_1 (Nat.le_of_ble_eq_true rfl) rfl ?_
  have hlp2_587085 : ∀ (n2_587085 : Nat) (F587080 : Nat → va_E) (g587079 : Int32), gB g587079 0 2000 → RS D I P582684 F587080 γ el → rStr γ [97] F582685 F587080 → (fI (F587080 q582686) 9).toInt = (fI (F582685 q582686) 9).toInt → (fI (F587080 q582686) 10).toInt = (fI (F582685 q582686) 10).toInt → (fI (F587080 q582686) 32).toInt = (fI (F582685 q582686) 32).toInt → (∀ (k : Nat) (e1 : Nat → va_E), tl_RModel_run_2 D I γ el P582684 F582685 q582686 F587080 g587079 k e1 → tl_RModel_run_2 D I γ el P582684 F582685 q582686 F582685 (0 : Int32) k e1) → ((2001 : Int) - g587079.toInt).toNat < n2_587085 → G (gV D I) l (gRm 4 85 0 0) (gMA (gV D I) (pt_582690_SpillForgeModel_run D I γ el P582684 F582685 q582686 q582687 p582688) gNA 0 0) ky_582690_SpillForgeModel_run 2 [(3, .int g587079), (0, .ref q582686), (1, .ref q582687), (2, .int p582688)] [] (va_pl P582684 F587080) 0 0 := by
    intro n2_587085
    induction n2_587085 with
    | zero => intro F587080 g587079 bg587079 hT587081 hs587082 x587083 x587084 x587085 kt2_587086 hm2_587085; exact absurd hm2_587085 (Nat.not_lt_zero _)
    | succ n2_587085 ih2_587085 =>
      intro F587080 g587079 bg587079 hT587081 hs587082 x587083 x587084 x587085 kt2_587086 hm2_587085
      have hs587087 : rStr γ [97] F582685 F587080 := fun b h0 hb hw => (hs587082 b h0 hb hw).trans ((rStr_rf (γ := γ) (W := [97]) (F := F582685)) b h0 hb hw).symm
      have hs587088 : rStr γ [97] F582685 F587080 := rStr_tr (rStr_rf (γ := γ) (W := [97]) (F := F582685)) hs587087
      have hm587089 : q582686 ∈ P582684 := RS_m hT587081 htq582686 (by decide)
      refine rk10_e (show rk_10 γ (F587080 q582686) from RS_o hT587081 htq582686) (fun q587091 q587092 p587093 p587094 p587095 p587096 p587097 p587098 p587099 p587100 p587101 p587102 p587103 p587104 p587105 p587106 p587107 he587090 hB587134 ht587108 ht587109 ht587110 ht587111 ht587112 ht587113 ht587114 ht587115 ht587116 ht587117 ht587118 ht587119 ht587120 ht587121 ht587122 ht587123 ht587124 ht587125 ht587126 ht587127 ht587128 ht587129 ht587130 ht587131 hB587135 => ?_)
      have ac587136 : (fI (F587080 q582686) 26).toInt = p587102.toInt := by rw [he587090]; rfl
      have bp587102 : gB p587102 0 100000 := (hB587134.2.2.2.2.2.1)
      have ac587137 : (fI (F587080 q582686) 9).toInt = p587093.toInt := by rw [he587090]; rfl
      have bp587093 : gB p587093 0 1 := (hB587134.1)
      have ac587138 : (fI (F587080 q582686) 10).toInt = p587094.toInt := by rw [he587090]; rfl
      have bp587094 : gB p587094 0 1 := (hB587134.2.1)
      have ac587139 : (fI (F587080 q582686) 32).toInt = p587105.toInt := by rw [he587090]; rfl
      have bp587105 : gB p587105 0 8192 := (hB587134.2.2.2.2.2.2.2.1)
      have ac587140 : (fI (F587080 q582686) 26).toInt = p587102.toInt := by rw [he587090]; rfl
      have ac587141 : (fI (F587080 q582686) 9).toInt = p587093.toInt := by rw [he587090]; rfl
      have ac587142 : (fI (F587080 q582686) 10).toInt = p587094.toInt := by rw [he587090]; rfl
      have ac587143 : (fI (F587080 q582686) 32).toInt = p587105.toInt := by rw [he587090]; rfl
      refine G_iload_n 0 dr_cX17_run_2 rfl ?_
      refine G_sipush 2000 dr_cX17_run_3 (by decide +kernel) ?_
      refine G_icmp_ge 29 dr_cX17_run_6 (by decide +kernel) (fun hc587144 => ?_) (fun hc587144 => ?_)
      · have r587145 : 2000 ≤ g587079.toInt := gj_leL hc587144 (show Int32.toInt 2000 = 2000 by decide)
        have bg587079' : gB g587079 2000 2000 := ⟨by omega, by omega⟩
        have hx587146 : tl_RModel_run_2 D I γ el P582684 F582685 q582686 F582685 (0 : Int32) 29 F587080 := kt2_587086 29 F587080 (fun R c1 c2 => c1 F587080 g587079 bg587079 hT587081 hs587082 x587083 x587084 x587085 r587145)
        refine G_aload_n 1 dr_cX17_run_29 rfl ?_
        refine G_iconst 0 dr_cX17_run_30 (by decide +kernel) ?_
        refine Gp_put 24 hm587089 he587090 dr_cX17_run_31 (gk_X17 D I) (Nat.le_of_ble_eq_true rfl) wr_7_98 rfl rfl rfl (Nat.le_of_ble_eq_true rfl) (fun F587147 e587148 n587149 => ?_)
        have he587150 : F587147 q582686 = .inr (22, [.ref (γ 9 0), .ref (γ 9 1), .ref (γ 9 2), .ref (γ 9 3), .ref (γ 9 4), .ref (γ 9 5), .ref (γ 9 6), .ref (γ 9 7), .ref (γ 9 8), .int p587093, .int p587094, .int p587095, .int p587096, .int p587097, .int p587098, .ref (γ 9 15), .ref (γ 9 16), .ref (γ 9 17), .ref (γ 9 18), .ref (γ 9 19), .ref (γ 9 20), .ref (γ 9 21), .ref (γ 9 22), .int p587099, .int 0, .int p587101, .int p587102, .int p587103, .ref q587091, .ref (γ 9 29), .int p587104, .ref (γ 9 31), .int p587105, .int p587106, .int p587107, .ref q587092]) := e587148
        have hs587151 : rStr γ [97] F582685 F587147 := rStr_put hs587082 n587149 htq582686 (by decide)
        have fq587152 : F587147 q582686 = cF (F587080 q582686) 24 (.int 0) := by rw [he587150, he587090]; rfl
        refine G_aload_n 1 dr_cX17_run_34 rfl ?_
        refine G_iconst 0 dr_cX17_run_35 (by decide +kernel) ?_
        refine Gp_put 25 hm587089 he587150 dr_cX17_run_36 (gk_X17 D I) (Nat.le_of_ble_eq_true rfl) wr_7_99 rfl rfl rfl (Nat.le_of_ble_eq_true rfl) (fun F587153 e587154 n587155 => ?_)
        have he587156 : F587153 q582686 = .inr (22, [.ref (γ 9 0), .ref (γ 9 1), .ref (γ 9 2), .ref (γ 9 3), .ref (γ 9 4), .ref (γ 9 5), .ref (γ 9 6), .ref (γ 9 7), .ref (γ 9 8), .int p587093, .int p587094, .int p587095, .int p587096, .int p587097, .int p587098, .ref (γ 9 15), .ref (γ 9 16), .ref (γ 9 17), .ref (γ 9 18), .ref (γ 9 19), .ref (γ 9 20), .ref (γ 9 21), .ref (γ 9 22), .int p587099, .int 0, .int 0, .int p587102, .int p587103, .ref q587091, .ref (γ 9 29), .int p587104, .ref (γ 9 31), .int p587105, .int p587106, .int p587107, .ref q587092]) := e587154
        have hs587157 : rStr γ [97] F582685 F587153 := rStr_put hs587151 n587155 htq582686 (by decide)
        have n587158 : ∀ b, b ≠ q582686 → F587153 b = F587080 b := fun b hb => (n587155 b hb).trans (n587149 b hb)
        have fq587159 : F587153 q582686 = cF (F587147 q582686) 25 (.int 0) := by rw [he587156, he587150]; rfl
        refine G_aload_n 1 dr_cX17_run_39 rfl ?_
        refine G_iconst 0 dr_cX17_run_40 (by decide +kernel) ?_
        refine Gp_put 26 hm587089 he587156 dr_cX17_run_41 (gk_X17 D I) (Nat.le_of_ble_eq_true rfl) wr_7_100 rfl rfl rfl (Nat.le_of_ble_eq_true rfl) (fun F587160 e587161 n587162 => ?_)
        have he587163 : F587160 q582686 = .inr (22, [.ref (γ 9 0), .ref (γ 9 1), .ref (γ 9 2), .ref (γ 9 3), .ref (γ 9 4), .ref (γ 9 5), .ref (γ 9 6), .ref (γ 9 7), .ref (γ 9 8), .int p587093, .int p587094, .int p587095, .int p587096, .int p587097, .int p587098, .ref (γ 9 15), .ref (γ 9 16), .ref (γ 9 17), .ref (γ 9 18), .ref (γ 9 19), .ref (γ 9 20), .ref (γ 9 21), .ref (γ 9 22), .int p587099, .int 0, .int 0, .int 0, .int p587103, .ref q587091, .ref (γ 9 29), .int p587104, .ref (γ 9 31), .int p587105, .int p587106, .int p587107, .ref q587092]) := e587161
        have hs587164 : rStr γ [97] F582685 F587160 := rStr_put hs587157 n587162 htq582686 (by decide)
        have n587165 : ∀ b, b ≠ q582686 → F587160 b = F587080 b := fun b hb => (n587162 b hb).trans (n587158 b hb)
        have fq587166 : F587160 q582686 = cF (F587153 q582686) 26 (.int 0) := by rw [he587163, he587156]; rfl
        refine G_aload_n 1 dr_cX17_run_44 rfl ?_
        refine G_iconst 0 dr_cX17_run_45 (by decide +kernel) ?_
        refine Gp_put 27 hm587089 he587163 dr_cX17_run_46 (gk_X17 D I) (Nat.le_of_ble_eq_true rfl) wr_7_101 rfl rfl rfl (Nat.le_of_ble_eq_true rfl) (fun F587167 e587168 n587169 => ?_)
        have he587170 : F587167 q582686 = .inr (22, [.ref (γ 9 0), .ref (γ 9 1), .ref (γ 9 2), .ref (γ 9 3), .ref (γ 9 4), .ref (γ 9 5), .ref (γ 9 6), .ref (γ 9 7), .ref (γ 9 8), .int p587093, .int p587094, .int p587095, .int p587096, .int p587097, .int p587098, .ref (γ 9 15), .ref (γ 9 16), .ref (γ 9 17), .ref (γ 9 18), .ref (γ 9 19), .ref (γ 9 20), .ref (γ 9 21), .ref (γ 9 22), .int p587099, .int 0, .int 0, .int 0, .int 0, .ref q587091, .ref (γ 9 29), .int p587104, .ref (γ 9 31), .int p587105, .int p587106, .int p587107, .ref q587092]) := e587168
        have hs587171 : rStr γ [97] F582685 F587167 := rStr_put hs587164 n587169 htq582686 (by decide)
        have n587172 : ∀ b, b ≠ q582686 → F587167 b = F587080 b := fun b hb => (n587169 b hb).trans (n587165 b hb)
        have fq587173 : F587167 q582686 = cF (F587160 q582686) 27 (.int 0) := by rw [he587170, he587163]; rfl
        refine G_iconst 0 dr_cX17_run_49 (by decide +kernel) ?_
        refine G_istore_n (L' := [(3, .int 0), (0, .ref q582686), (1, .ref q582687), (2, .int p582688)]) dr_cX17_run_50 (Nat.le_of_ble_eq_true rfl) rfl ?_
        refine G_iconst 0 dr_cX17_run_51 (by decide +kernel) ?_
        refine G_istore (L' := [(4, .int 0), (3, .int 0), (0, .ref q582686), (1, .ref q582687), (2, .int p582688)]) dr_cX17_run_52 (Nat.le_of_ble_eq_true rfl) rfl ?_
        have hT587174 : RS D I P582684 F587167 γ el := RS_set hT587081 n587172 htq582686 (by decide) ⟨q587091, q587092, p587093, p587094, p587095, p587096, p587097, p587098, p587099, 0, 0, 0, 0, p587104, p587105, p587106, p587107, he587170, ⟨bp587093, bp587094, (hB587134.2.2.1), (hB587134.2.2.2.1), (gB_w (gBl (show Int32.toInt 0 = 0 by decide)) (by decide) (by decide)), (gB_w (gBl (show Int32.toInt 0 = 0 by decide)) (by decide) (by decide)), (gB_w (gBl (show Int32.toInt 0 = 0 by decide)) (by decide) (by decide)), bp587105, (hB587134.2.2.2.2.2.2.2.2)⟩, ht587108, ht587109, ht587110, ht587111, ht587112, ht587113, ht587114, ht587115, ht587116, ht587117, ht587118, ht587119, ht587120, ht587121, ht587122, ht587123, ht587124, ht587125, ht587126, ht587127, ht587128, ht587129, ht587130, ht587131, hB587135⟩
        have hlp54_587528 : ∀ (n54_587528 : Nat) (F587521 : Nat → va_E) (g587519 : Int32) (g587520 : Int32), gB g587519 0 39 → gB g587520 0 1000000 → RS D I P582684 F587521 γ el → rStr γ [97] F582685 F587521 → g587519.toInt < γ 6 (γ 1 q582687) → (fI (F587521 q582686) 26).toInt ≤ p582688.toInt → (fI (F587521 q582686) 9).toInt = (fI (F582685 q582686) 9).toInt → (fI (F587521 q582686) 10).toInt = (fI (F582685 q582686) 10).toInt → (fI (F587521 q582686) 32).toInt = (fI (F582685 q582686) 32).toInt → (∀ (k : Nat) (e1 : Nat) (e2 : Nat → va_E) (e3 : Int32), tl_RModel_run_54 D I γ el P582684 F582685 q582687 q582686 p582688 F587521 g587519 g587520 k e1 e2 e3 → tl_RModel_run_54 D I γ el P582684 F582685 q582687 q582686 p582688 F587167 (0 : Int32) (0 : Int32) k e1 e2 e3) → (p582688.toInt - (fI (F587521 q582686) 26).toInt).toNat < n54_587528 → G (gV D I) l (gRm 4 85 0 0) (gMA (gV D I) (pt_582690_SpillForgeModel_run D I γ el P582684 F582685 q582686 q582687 p582688) gNA 0 0) ky_582690_SpillForgeModel_run 54 [(4, .int g587520), (3, .int g587519), (0, .ref q582686), (1, .ref q582687), (2, .int p582688)] [] (va_pl P582684 F587521) 0 0 := by
          intro n54_587528
          induction n54_587528 with
          | zero => intro F587521 g587519 g587520 bg587519 bg587520 hT587522 hs587523 x587524 x587525 x587526 x587527 x587528 kt54_587529 hm54_587528; exact absurd hm54_587528 (Nat.not_lt_zero _)
          | succ n54_587528 ih54_587528 =>
            intro F587521 g587519 g587520 bg587519 bg587520 hT587522 hs587523 x587524 x587525 x587526 x587527 x587528 kt54_587529 hm54_587528
            have hs587530 : rStr γ [97] F587167 F587521 := fun b h0 hb hw => (hs587523 b h0 hb hw).trans (hs587171 b h0 hb hw).symm
            have hs587531 : rStr γ [97] F582685 F587521 := rStr_tr hs587171 hs587530
            have hm587532 : q582686 ∈ P582684 := RS_m hT587522 htq582686 (by decide)
            refine rk10_e (show rk_10 γ (F587521 q582686) from RS_o hT587522 htq582686) (fun q587534 q587535 p587536 p587537 p587538 p587539 p587540 p587541 p587542 p587543 p587544 p587545 p587546 p587547 p587548 p587549 p587550 he587533 hB587577 ht587551 ht587552 ht587553 ht587554 ht587555 ht587556 ht587557 ht587558 ht587559 ht587560 ht587561 ht587562 ht587563 ht587564 ht587565 ht587566 ht587567 ht587568 ht587569 ht587570 ht587571 ht587572 ht587573 ht587574 hB587578 => ?_)
            have ac587579 : (fI (F587521 q582686) 26).toInt = p587545.toInt := by rw [he587533]; rfl
            have bp587545 : gB p587545 0 100000 := (hB587577.2.2.2.2.2.1)
            have ac587580 : (fI (F587521 q582686) 9).toInt = p587536.toInt := by rw [he587533]; rfl
            have bp587536 : gB p587536 0 1 := (hB587577.1)
            have ac587581 : (fI (F587521 q582686) 10).toInt = p587537.toInt := by rw [he587533]; rfl
            have bp587537 : gB p587537 0 1 := (hB587577.2.1)
            have ac587582 : (fI (F587521 q582686) 32).toInt = p587548.toInt := by rw [he587533]; rfl
            have bp587548 : gB p587548 0 8192 := (hB587577.2.2.2.2.2.2.2.1)
            have ac587583 : (fI (F587521 q582686) 26).toInt = p587545.toInt := by rw [he587533]; rfl
            have ac587584 : (fI (F587521 q582686) 9).toInt = p587536.toInt := by rw [he587533]; rfl
            have ac587585 : (fI (F587521 q582686) 10).toInt = p587537.toInt := by rw [he587533]; rfl
            have ac587586 : (fI (F587521 q582686) 32).toInt = p587548.toInt := by rw [he587533]; rfl
            refine G_aload_n 3 dr_cX17_run_54 rfl ?_
            refine G_iload_n 1 dr_cX17_run_55 rfl ?_
            have hm587587 : q582687 ∈ P582684 := RS_m hT587522 htq582687 (by decide)
            obtain ⟨q587589, q587590, p587591, p587592, he587588, ht587608, ht587593, ht587594, ht587595, ht587596, r587597, r587598, r587599, r587600, r587601, r587602, r587603, r587604, r587605, r587606, r587607⟩ := show rk_9 γ el q582687 (F587521 q582687) from RS_o hT587522 htq582687
            have bp587591 : gB p587591 0 1000000 := ⟨by omega, by omega⟩
            have bp587592 : gB p587592 0 1000000 := ⟨by omega, by omega⟩
            have hm587609 : q587589 ∈ P582684 := RS_m hT587522 ht587593 (by decide)
            obtain ⟨⟨p587611, p587612, q587613, he587610, r587614, r587615, r587616, r587618⟩, r587617⟩ := show rk_4 D I γ el F587521 q587589 from RS_o hT587522 ht587593
            have bp587611 := gB_any p587611
            have bp587612 : gB p587612 0 1000000 := ⟨by omega, by omega⟩
            obtain ⟨r587619, r587620, n587627, f587628, r587621, r587622, r587623, r587624, r587625, r587626⟩ := rLC_n r587616 (by omega)
            have hm587629 : q587613 ∈ P582684 := RS_m hT587522 r587619 (by decide)
            obtain ⟨q587630, hx587631⟩ : ∃ x, x = el q587589 g587519.toInt.toNat := ⟨_, rfl⟩
            have fq587635 : fR (F587521 q582687) 0 = q587589 := by rw [he587588]; rfl
            have hx587632 : f587628 g587519.toNatClampNeg = some q587630 := (r587625 _ (show g587519.toInt.toNat < γ 2 q587589 by omega)).trans (by rw [hx587631])
            have ht587636 : rKd γ q587630 2 := by rw [hx587631]; exact (r587604 _ (by omega)).resolve_right (fun z => absurd z.1 (by omega))
            have ht587637 : rFm γ q587630 q587589 := by rw [hx587631]; exact (r587617 _ (show g587519.toInt.toNat < γ 2 q587589 by omega)).2.1
            have hm587638 : q587630 ∈ P582684 := RS_m hT587522 ht587636 (by decide)
            obtain ⟨q587640, q587641, p587642, p587643, he587639, ht587650, ht587644, ht587645, ht587646, ht587647, ht587648, bp587642, bp587643, r587649, r587651, r587652⟩ := show rk_2 γ q587630 (F587521 q587630) from RS_o hT587522 ht587636
            have fm587653 : γ 6 (γ 1 q587630) = γ 6 (γ 1 q582687) := by rw [show γ 1 q587630 = γ 1 q587589 from ht587637, show γ 1 q587589 = γ 1 q582687 from ht587594]
            have fq587654 : fI (F587521 q587589) 2 = p587612 := by rw [he587610]; rfl
            refine Gw_callV (As := [.int g587519]) (gV_ok D I) (cp_7901_Code_get l hl0 D I P582684 F587521 q582687 q587589 q587613 g587519 q587590 p587591 p587592 p587611 p587612 f587628 n587627 q587630 q587640 q587641 p587642 p587643 hm587587 hm587609 hm587629 hm587638 he587588 he587610 r587621 he587639 (gB_w bg587519 (by decide) (by decide)) (gB_w bp587612 (by decide) (by decide)) (by omega) (by omega) (by assumption) (by omega)) dr_cX17_run_56 ⟨wr_10_161, wr_1_15, wr_10_141, by decide, rfl, (Nat.le_of_ble_eq_true rfl), (Nat.le_of_ble_eq_true rfl)⟩ wr_10_139 wr_10_140 hm587587 he587588 rfl (show 0 + 0 ≤ 0 by first | omega | decide) (show 0 + 0 ≤ 0 by first | omega | decide) (Nat.le_of_ble_eq_true rfl) (fun r587658 w587659 dc587655 ds587656 hp587657 => ?_) (fun _ _ _ _ _ z => z.elim)
            obtain ⟨rfl, rfl, hdc, hds, ht587660⟩ := hp587657
            change G _ _ _ _ _ _ _ (.ref q587630 :: _) _ _ _
            refine G_widen (cs' := 0) (sl' := 0) (by omega) (by omega) ?_
            refine G_astore (L' := [(5, .ref q587630), (4, .int g587520), (3, .int g587519), (0, .ref q582686), (1, .ref q582687), (2, .int p582688)]) dr_cX17_run_59 (Nat.le_of_ble_eq_true rfl) rfl ?_
            refine G_aload_n 3 dr_cX17_run_61 rfl ?_
            have fq587661 : fI (F587521 q582686) 26 = p587545 := by rw [he587533]; rfl
            refine Gp_get 26 hm587532 he587533 dr_cX17_run_62 (gk_X17 D I) (Nat.le_of_ble_eq_true rfl) wr_7_100 rfl ?_
            refine G_iload_n 5 dr_cX17_run_65 rfl ?_
            refine G_icmp_ne 71 dr_cX17_run_66 (by decide +kernel) (fun hc587662 => ?_) (fun hc587662 => ?_)
            · have r587663 : p587545.toInt ≠ p582688.toInt := gC_ne hc587662
              refine G_aload_n 3 dr_cX17_run_71 rfl ?_
              refine G_dup dr_cX17_run_72 rfl ?_
              refine Gp_get 26 hm587532 he587533 dr_cX17_run_73 (gk_X17 D I) (Nat.le_of_ble_eq_true rfl) wr_7_100 rfl ?_
              refine G_iconst 1 dr_cX17_run_76 (by decide +kernel) ?_
              refine G_iadd dr_cX17_run_77 (G_nam fun z587664 hz587664 => ?_)
              have ez587664 : z587664.toInt = p587545.toInt + 1 := by rw [gI_add hz587664 bp587545 (gBl (show Int32.toInt 1 = 1 by decide)) (by decide) (by decide), show Int32.toInt 1 = 1 from by decide]
              have bz587664 : gB z587664 1 100001 := gB_add (gI_add hz587664 bp587545 (gBl (show Int32.toInt 1 = 1 by decide)) (by decide) (by decide)) bp587545 (gBl (show Int32.toInt 1 = 1 by decide)) (by decide) (by decide)
              refine Gp_put 26 hm587532 he587533 dr_cX17_run_78 (gk_X17 D I) (Nat.le_of_ble_eq_true rfl) wr_7_100 rfl rfl rfl (Nat.le_of_ble_eq_true rfl) (fun F587665 e587666 n587667 => ?_)
              have he587668 : F587665 q582687 = .inr (18, [.ref q587589, .ref q587590, .int p587591, .int p587592]) := (n587667 q582687 (rn_oo he587588 he587533 (by decide))).trans he587588
              have he587669 : F587665 q587589 = .inr (4, [.int p587611, .ref q587613, .int p587612]) := (n587667 q587589 (rn_oo he587610 he587533 (by decide))).trans he587610
              have he587670 : F587665 q587613 = .inl (I (.object "java/lang/Object"), n587627, .inr (.inr (.inr (.inr f587628)))) := (n587667 q587613 (rn_ao r587621 he587533)).trans r587621
              have he587671 : F587665 q587630 = .inr (17, [.ref q587640, .ref q587641, .int p587642, .int p587643]) := (n587667 q587630 (rn_oo he587639 he587533 (by decide))).trans he587639
              have he587672 : F587665 q582686 = .inr (22, [.ref (γ 9 0), .ref (γ 9 1), .ref (γ 9 2), .ref (γ 9 3), .ref (γ 9 4), .ref (γ 9 5), .ref (γ 9 6), .ref (γ 9 7), .ref (γ 9 8), .int p587536, .int p587537, .int p587538, .int p587539, .int p587540, .int p587541, .ref (γ 9 15), .ref (γ 9 16), .ref (γ 9 17), .ref (γ 9 18), .ref (γ 9 19), .ref (γ 9 20), .ref (γ 9 21), .ref (γ 9 22), .int p587542, .int p587543, .int p587544, .int z587664, .int p587546, .ref q587534, .ref (γ 9 29), .int p587547, .ref (γ 9 31), .int p587548, .int p587549, .int p587550, .ref q587535]) := e587666
              have hs587673 : rStr γ [97] F582685 F587665 := rStr_put hs587523 n587667 htq582686 (by decide)
              have fq587674 : F587665 q582686 = cF (F587521 q582686) 26 (.int z587664) := by rw [he587672, he587533]; rfl
              refine G_iload 1 dr_cX17_run_81 rfl ?_
              refine G_aload 0 dr_cX17_run_83 rfl ?_
              have fq587675 : fR (F587665 q587630) 0 = q587640 := by rw [he587671]; rfl
              refine Gp_get 0 hm587638 he587671 dr_cX17_run_85 (gk_X12 D I) (Nat.le_of_ble_eq_true rfl) wr_9_220 rfl ?_
              have hT587676 : RS D I P582684 F587665 γ el := RS_set hT587522 n587667 htq582686 (by decide) ⟨q587534, q587535, p587536, p587537, p587538, p587539, p587540, p587541, p587542, p587543, p587544, z587664, p587546, p587547, p587548, p587549, p587550, he587672, ⟨bp587536, bp587537, (hB587577.2.2.1), (hB587577.2.2.2.1), (hB587577.2.2.2.2.1), ⟨by omega, by omega⟩, (hB587577.2.2.2.2.2.2.1), bp587548, (hB587577.2.2.2.2.2.2.2.2)⟩, ht587551, ht587552, ht587553, ht587554, ht587555, ht587556, ht587557, ht587558, ht587559, ht587560, ht587561, ht587562, ht587563, ht587564, ht587565, ht587566, ht587567, ht587568, ht587569, ht587570, ht587571, ht587572, ht587573, ht587574, hB587578⟩
              have hm587677 : q587640 ∈ P582684 := RS_m hT587676 ht587644 (by decide)
              obtain ⟨⟨p587679, p587680, q587681, he587678, r587682, r587683, r587684, r587686⟩, r587685⟩ := show rk_3 D I γ el F587665 q587640 from RS_o hT587676 ht587644
              have bp587679 := gB_any p587679
              have bp587680 : gB p587680 0 1000000 := ⟨by omega, by omega⟩
              have fq587687 : p587680.toInt = (γ 2 q587640 : Int) := by omega
              have fq587688 : fI (F587665 q587640) 2 = p587680 := by rw [he587678]; rfl
              refine Gw_callV (As := []) (gV_ok D I) (cp_7_ArrayList_size l hl0 D I P582684 F587665 q587640 p587679 q587681 p587680 hm587677 he587678 (gB_w bp587680 (by decide) (by decide))) dr_cX17_run_88 ⟨wr_10_200, wr_1_18, wr_9_160, by decide, rfl, (Nat.le_of_ble_eq_true rfl), (Nat.le_of_ble_eq_true rfl)⟩ wr_9_158 wr_9_159 hm587677 he587678 rfl (show 0 + 0 ≤ 0 by first | omega | decide) (show 0 + 0 ≤ 0 by first | omega | decide) (Nat.le_of_ble_eq_true rfl) (fun r587692 w587693 dc587689 ds587690 hp587691 => ?_) (fun _ _ _ _ _ z => z.elim)
              obtain ⟨rfl, rfl, hdc, hds⟩ := hp587691
              change G _ _ _ _ _ _ _ (.int p587680 :: _) _ _ _
              refine G_widen (cs' := 0) (sl' := 0) (by omega) (by omega) ?_
              refine G_icmp_ge 127 dr_cX17_run_91 (by decide +kernel) (fun hc587694 => ?_) (fun hc587694 => ?_)
              · have r587695 : p587680.toInt ≤ g587520.toInt := gC_le hc587694
                refine G_aload 0 dr_cX17_run_127 rfl ?_
                have fq587696 : fR (F587665 q587630) 1 = q587641 := by rw [he587671]; rfl
                refine Gp_get 1 hm587638 he587671 dr_cX17_run_129 (gk_X12 D I) (Nat.le_of_ble_eq_true rfl) wr_9_223 rfl ?_
                refine G_astore (L' := [(6, .ref q587641), (5, .ref q587630), (4, .int g587520), (3, .int g587519), (0, .ref q582686), (1, .ref q582687), (2, .int p582688)]) dr_cX17_run_132 (Nat.le_of_ble_eq_true rfl) rfl ?_
                refine G_aload 0 dr_cX17_run_134 rfl ?_
                have hm587697 : q587641 ∈ P582684 := RS_m hT587676 ht587646 (by decide)
                obtain ⟨p587699, p587700, p587701, p587702, p587703, p587704, p587705, he587698, bp587699, bp587700, bp587703, bp587704, bp587705, r587706, r587707, r587708, r587709, r587710⟩ := show rk_1 γ q587641 (F587665 q587641) from RS_o hT587676 ht587646
                have bp587701 := gB_any p587701
                have bp587702 := gB_any p587702
                have fq587711 : fI (F587665 q587641) 0 = p587699 := by rw [he587698]; rfl
                refine Gp_get 0 hm587697 he587698 dr_cX17_run_136 (gk_X15 D I) (Nat.le_of_ble_eq_true rfl) wr_9_177 rfl ?_
                refine G_bipush 32 dr_cX17_run_139 (by decide +kernel) ?_
                refine G_icmp_ne 164 dr_cX17_run_141 (by decide +kernel) (fun hc587712 => ?_) (fun hc587712 => ?_)
                · have r587713 : p587699.toInt ≠ 32 := gj_neq hc587712 (show Int32.toInt 32 = 32 by decide)
                  have bp587699' : gB p587699 0 31 := ⟨by omega, by omega⟩
                  refine G_aload 0 dr_cX17_run_164 rfl ?_
                  refine Gp_get 0 hm587697 he587698 dr_cX17_run_166 (gk_X15 D I) (Nat.le_of_ble_eq_true rfl) wr_9_177 rfl ?_
                  refine G_bipush 30 dr_cX17_run_169 (by decide +kernel) ?_
                  refine G_icmp_eq 191 dr_cX17_run_171 (by decide +kernel) (fun hc587714 => ?_) (fun hc587714 => ?_)
                  · have r587715 : p587699.toInt = 30 := gj_eq hc587714 (show Int32.toInt 30 = 30 by decide)
                    have bp587699'' : gB p587699 30 30 := ⟨by omega, by omega⟩
                    refine G_aload 1 dr_cX17_run_191 rfl ?_
                    have fq587716 : fI (F587665 q587630) 2 = p587642 := by rw [he587671]; rfl
                    refine Gp_get 2 hm587638 he587671 dr_cX17_run_193 (gk_X12 D I) (Nat.le_of_ble_eq_true rfl) wr_9_229 rfl ?_
                    refine G_goto 204 dr_cX17_run_196 (by decide +kernel) ?_
                    refine G_istore_n (L' := [(3, .int p587642), (6, .ref q587641), (5, .ref q587630), (4, .int g587520), (0, .ref q582686), (1, .ref q582687), (2, .int p582688)]) dr_cX17_run_204 (Nat.le_of_ble_eq_true rfl) rfl ?_
                    refine G_iconst 0 dr_cX17_run_205 (by decide +kernel) ?_
                    refine G_istore (L' := [(4, .int 0), (3, .int p587642), (6, .ref q587641), (5, .ref q587630), (0, .ref q582686), (1, .ref q582687), (2, .int p582688)]) dr_cX17_run_206 (Nat.le_of_ble_eq_true rfl) rfl ?_
                    refine G_goto 54 dr_cX17_run_208 (by decide +kernel) ?_
                    refine G_lv (L' := [(4, .int 0), (3, .int p587642), (0, .ref q582686), (1, .ref q582687), (2, .int p582688)]) [0, 1, 4, 5, 6] rfl ?_
                    have ac587717 : (fI (F587665 q582686) 26).toInt = z587664.toInt := by rw [he587672]; rfl
                    have ac587718 : (fI (F587665 q582686) 9).toInt = p587536.toInt := by rw [he587672]; rfl
                    have ac587719 : (fI (F587665 q582686) 10).toInt = p587537.toInt := by rw [he587672]; rfl
                    have ac587720 : (fI (F587665 q582686) 32).toInt = p587548.toInt := by rw [he587672]; rfl
                    exact ih54_587528 F587665 p587642 0 bp587642 (gB_w (gBl (show Int32.toInt 0 = 0 by decide)) (by decide) (by decide)) hT587676 hs587673 (by have qa0 : Int32.toInt 0 = 0 := (by decide); omega) (by omega) (by omega) (by omega) (by omega) (fun k e1 e2 e3 ht => kt54_587529 k e1 e2 e3 (fun R c1 c2 c3 c4 c5 c6 c7 => c1 F587521 g587519 g587520 q587589 q587630 p587612 p587545 z587664 F587665 q587640 p587680 q587641 p587699 p587642 k e1 e2 e3 bg587519 bg587520 hT587522 hs587523 x587524 x587525 x587526 x587527 x587528 fq587635 hx587631 fq587654 ht587660 fq587661 r587663 ez587664 n587667 fq587674 fq587675 fq587687 fq587688 r587695 fq587696 fq587711 r587713 r587715 fq587716 (ht R c1 c2 c3 c4 c5 c6 c7))) (by have qa0 : Int32.toInt 0 = 0 := (by decide); omega)
                  · have r587721 : p587699.toInt ≠ 30 := gj_neq hc587714 (show Int32.toInt 30 = 30 by decide)
                    refine G_aload_n 4 dr_cX17_run_174 rfl ?_
                    refine G_aload 0 dr_cX17_run_175 rfl ?_
                    have fq587722 : fI (F587665 q587641) 5 = p587704 := by rw [he587698]; rfl
                    refine Gp_get 5 hm587697 he587698 dr_cX17_run_177 (gk_X15 D I) (Nat.le_of_ble_eq_true rfl) wr_9_197 rfl ?_
                    refine G_aload 0 dr_cX17_run_180 rfl ?_
                    have fq587723 : fI (F587665 q587641) 2 = p587701 := by rw [he587698]; rfl
                    refine Gp_get 2 hm587697 he587698 dr_cX17_run_182 (gk_X15 D I) (Nat.le_of_ble_eq_true rfl) wr_9_186 rfl ?_
                    refine Gw_callV (As := [.int p587704, .int p587701]) (gV_ok D I) (ct_7532_SpillForgeModel_value l hl0 D I γ el P582684 F587665 q582686 p587704 p587701 hT587676 htq582686 bp587704 (by omega)) dr_cX17_run_185 ⟨wr_11_100, wr_1_14, wr_11_103, by decide, rfl, (Nat.le_of_ble_eq_true rfl), (Nat.le_of_ble_eq_true rfl)⟩ wr_11_102 wr_p_115 hm587532 he587672 rfl (show 0 + 0 ≤ 0 by first | omega | decide) (show 0 + 0 ≤ 0 by first | omega | decide) (Nat.le_of_ble_eq_true rfl) (fun r587727 w587728 dc587724 ds587725 hp587726 => ?_) (fun _ _ _ _ _ z => z.elim)
                    obtain ⟨o587729, rfl, rfl, hdc, hds, ht587730⟩ := hp587726
                    have bo587729 := gB_any o587729
                    change G _ _ _ _ _ _ _ (.int o587729 :: _) _ _ _
                    refine G_widen (cs' := 0) (sl' := 0) (by omega) (by omega) ?_
                    refine G_if_eq 199 dr_cX17_run_188 (by decide +kernel) (fun hc587731 => ?_) (fun hc587731 => ?_)
                    · have r587732 : o587729.toInt = 0 := gj_eq hc587731 (show Int32.toInt 0 = 0 by decide)
                      have bo587729' : gB o587729 0 0 := ⟨by omega, by omega⟩
                      refine G_aload 1 dr_cX17_run_199 rfl ?_
                      have fq587733 : fI (F587665 q587630) 3 = p587643 := by rw [he587671]; rfl
                      refine Gp_get 3 hm587638 he587671 dr_cX17_run_201 (gk_X12 D I) (Nat.le_of_ble_eq_true rfl) wr_9_233 rfl ?_
                      refine G_istore_n (L' := [(3, .int p587643), (6, .ref q587641), (5, .ref q587630), (4, .int g587520), (0, .ref q582686), (1, .ref q582687), (2, .int p582688)]) dr_cX17_run_204 (Nat.le_of_ble_eq_true rfl) rfl ?_
                      refine G_iconst 0 dr_cX17_run_205 (by decide +kernel) ?_
                      refine G_istore (L' := [(4, .int 0), (3, .int p587643), (6, .ref q587641), (5, .ref q587630), (0, .ref q582686), (1, .ref q582687), (2, .int p582688)]) dr_cX17_run_206 (Nat.le_of_ble_eq_true rfl) rfl ?_
                      refine G_goto 54 dr_cX17_run_208 (by decide +kernel) ?_
                      refine G_lv (L' := [(4, .int 0), (3, .int p587643), (0, .ref q582686), (1, .ref q582687), (2, .int p582688)]) [0, 1, 4, 5, 6] rfl ?_
                      have ac587734 : (fI (F587665 q582686) 26).toInt = z587664.toInt := by rw [he587672]; rfl
                      have ac587735 : (fI (F587665 q582686) 9).toInt = p587536.toInt := by rw [he587672]; rfl
                      have ac587736 : (fI (F587665 q582686) 10).toInt = p587537.toInt := by rw [he587672]; rfl
                      have ac587737 : (fI (F587665 q582686) 32).toInt = p587548.toInt := by rw [he587672]; rfl
                      exact ih54_587528 F587665 p587643 0 bp587643 (gB_w (gBl (show Int32.toInt 0 = 0 by decide)) (by decide) (by decide)) hT587676 hs587673 (by have qa0 : Int32.toInt 0 = 0 := (by decide); omega) (by omega) (by omega) (by omega) (by omega) (fun k e1 e2 e3 ht => kt54_587529 k e1 e2 e3 (fun R c1 c2 c3 c4 c5 c6 c7 => c2 F587521 g587519 g587520 q587589 q587630 p587612 p587545 z587664 F587665 q587640 p587680 q587641 p587699 p587704 p587701 o587729 p587643 k e1 e2 e3 bg587519 bg587520 hT587522 hs587523 x587524 x587525 x587526 x587527 x587528 fq587635 hx587631 fq587654 ht587660 fq587661 r587663 ez587664 n587667 fq587674 fq587675 fq587687 fq587688 r587695 fq587696 fq587711 r587713 r587721 fq587722 fq587723 ht587730 r587732 fq587733 (ht R c1 c2 c3 c4 c5 c6 c7))) (by have qa0 : Int32.toInt 0 = 0 := (by decide); omega)
                    · have r587738 : o587729.toInt ≠ 0 := gj_neq hc587731 (show Int32.toInt 0 = 0 by decide)
                      refine G_aload 1 dr_cX17_run_191 rfl ?_
                      have fq587739 : fI (F587665 q587630) 2 = p587642 := by rw [he587671]; rfl
                      refine Gp_get 2 hm587638 he587671 dr_cX17_run_193 (gk_X12 D I) (Nat.le_of_ble_eq_true rfl) wr_9_229 rfl ?_
                      refine G_goto 204 dr_cX17_run_196 (by decide +kernel) ?_
                      refine G_istore_n (L' := [(3, .int p587642), (6, .ref q587641), (5, .ref q587630), (4, .int g587520), (0, .ref q582686), (1, .ref q582687), (2, .int p582688)]) dr_cX17_run_204 (Nat.le_of_ble_eq_true rfl) rfl ?_
                      refine G_iconst 0 dr_cX17_run_205 (by decide +kernel) ?_
                      refine G_istore (L' := [(4, .int 0), (3, .int p587642), (6, .ref q587641), (5, .ref q587630), (0, .ref q582686), (1, .ref q582687), (2, .int p582688)]) dr_cX17_run_206 (Nat.le_of_ble_eq_true rfl) rfl ?_
                      refine G_goto 54 dr_cX17_run_208 (by decide +kernel) ?_
                      refine G_lv (L' := [(4, .int 0), (3, .int p587642), (0, .ref q582686), (1, .ref q582687), (2, .int p582688)]) [0, 1, 4, 5, 6] rfl ?_
                      have ac587740 : (fI (F587665 q582686) 26).toInt = z587664.toInt := by rw [he587672]; rfl
                      have ac587741 : (fI (F587665 q582686) 9).toInt = p587536.toInt := by rw [he587672]; rfl
                      have ac587742 : (fI (F587665 q582686) 10).toInt = p587537.toInt := by rw [he587672]; rfl
                      have ac587743 : (fI (F587665 q582686) 32).toInt = p587548.toInt := by rw [he587672]; rfl
                      exact ih54_587528 F587665 p587642 0 bp587642 (gB_w (gBl (show Int32.toInt 0 = 0 by decide)) (by decide) (by decide)) hT587676 hs587673 (by have qa0 : Int32.toInt 0 = 0 := (by decide); omega) (by omega) (by omega) (by omega) (by omega) (fun k e1 e2 e3 ht => kt54_587529 k e1 e2 e3 (fun R c1 c2 c3 c4 c5 c6 c7 => c3 F587521 g587519 g587520 q587589 q587630 p587612 p587545 z587664 F587665 q587640 p587680 q587641 p587699 p587704 p587701 o587729 p587642 k e1 e2 e3 bg587519 bg587520 hT587522 hs587523 x587524 x587525 x587526 x587527 x587528 fq587635 hx587631 fq587654 ht587660 fq587661 r587663 ez587664 n587667 fq587674 fq587675 fq587687 fq587688 r587695 fq587696 fq587711 r587713 r587721 fq587722 fq587723 ht587730 r587738 fq587739 (ht R c1 c2 c3 c4 c5 c6 c7))) (by have qa0 : Int32.toInt 0 = 0 := (by decide); omega)
                · have r587744 : p587699.toInt = 32 := gj_eq hc587712 (show Int32.toInt 32 = 32 by decide)
                  have bp587699' : gB p587699 32 32 := ⟨by omega, by omega⟩
                  have hx587745 : tl_RModel_run_54 D I γ el P582684 F582685 q582687 q582686 p582688 F587167 (0 : Int32) (0 : Int32) 144 q587641 F587665 (0 : Int32) := kt54_587529 144 q587641 F587665 (0 : Int32) (fun R c1 c2 c3 c4 c5 c6 c7 => c4 F587521 g587519 g587520 q587589 q587630 p587612 p587545 z587664 F587665 q587640 p587680 q587641 p587699 bg587519 bg587520 hT587522 hs587523 x587524 x587525 x587526 x587527 x587528 fq587635 hx587631 fq587654 ht587660 fq587661 r587663 ez587664 n587667 fq587674 fq587675 fq587687 fq587688 r587695 fq587696 fq587711 r587744)
                  refine G_aload_n 4 dr_cX17_run_144 rfl ?_
                  refine G_aload_n 4 dr_cX17_run_145 rfl ?_
                  refine G_aload 0 dr_cX17_run_146 rfl ?_
                  have fq587746 : fI (F587665 q587641) 5 = p587704 := by rw [he587698]; rfl
                  refine Gp_get 5 hm587697 he587698 dr_cX17_run_148 (gk_X15 D I) (Nat.le_of_ble_eq_true rfl) wr_9_197 rfl ?_
                  refine G_aload 0 dr_cX17_run_151 rfl ?_
                  have fq587747 : fI (F587665 q587641) 2 = p587701 := by rw [he587698]; rfl
                  refine Gp_get 2 hm587697 he587698 dr_cX17_run_153 (gk_X15 D I) (Nat.le_of_ble_eq_true rfl) wr_9_186 rfl ?_
                  refine Gw_callV (As := [.int p587704, .int p587701]) (gV_ok D I) (ct_7532_SpillForgeModel_value l hl0 D I γ el P582684 F587665 q582686 p587704 p587701 hT587676 htq582686 bp587704 (by omega)) dr_cX17_run_156 ⟨wr_11_100, wr_1_14, wr_11_103, by decide, rfl, (Nat.le_of_ble_eq_true rfl), (Nat.le_of_ble_eq_true rfl)⟩ wr_11_102 wr_p_115 hm587532 he587672 rfl (show 0 + 0 ≤ 0 by first | omega | decide) (show 0 + 0 ≤ 0 by first | omega | decide) (Nat.le_of_ble_eq_true rfl) (fun r587751 w587752 dc587748 ds587749 hp587750 => ?_) (fun _ _ _ _ _ z => z.elim)
                  obtain ⟨o587753, rfl, rfl, hdc, hds, ht587754⟩ := hp587750
                  have bo587753 := gB_any o587753
                  change G _ _ _ _ _ _ _ (.int o587753 :: _) _ _ _
                  refine G_widen (cs' := 0) (sl' := 0) (by omega) (by omega) ?_
                  refine Gp_put 24 hm587532 he587672 dr_cX17_run_159 (gk_X17 D I) (Nat.le_of_ble_eq_true rfl) wr_7_98 rfl rfl rfl (Nat.le_of_ble_eq_true rfl) (fun F587755 e587756 n587757 => ?_)
                  have he587758 : F587755 q582687 = .inr (18, [.ref q587589, .ref q587590, .int p587591, .int p587592]) := (n587757 q582687 (rn_oo he587668 he587672 (by decide))).trans he587668
                  have he587759 : F587755 q587589 = .inr (4, [.int p587611, .ref q587613, .int p587612]) := (n587757 q587589 (rn_oo he587669 he587672 (by decide))).trans he587669
                  have he587760 : F587755 q587613 = .inl (I (.object "java/lang/Object"), n587627, .inr (.inr (.inr (.inr f587628)))) := (n587757 q587613 (rn_ao he587670 he587672)).trans he587670
                  have he587761 : F587755 q587630 = .inr (17, [.ref q587640, .ref q587641, .int p587642, .int p587643]) := (n587757 q587630 (rn_oo he587671 he587672 (by decide))).trans he587671
                  have he587762 : F587755 q587640 = .inr (4, [.int p587679, .ref q587681, .int p587680]) := (n587757 q587640 (rn_oo he587678 he587672 (by decide))).trans he587678
                  have he587763 : F587755 q587641 = .inr (20, [.int p587699, .int p587700, .int p587701, .int p587702, .int p587703, .int p587704, .int p587705]) := (n587757 q587641 (rn_oo he587698 he587672 (by decide))).trans he587698
                  have he587764 : F587755 q582686 = .inr (22, [.ref (γ 9 0), .ref (γ 9 1), .ref (γ 9 2), .ref (γ 9 3), .ref (γ 9 4), .ref (γ 9 5), .ref (γ 9 6), .ref (γ 9 7), .ref (γ 9 8), .int p587536, .int p587537, .int p587538, .int p587539, .int p587540, .int p587541, .ref (γ 9 15), .ref (γ 9 16), .ref (γ 9 17), .ref (γ 9 18), .ref (γ 9 19), .ref (γ 9 20), .ref (γ 9 21), .ref (γ 9 22), .int p587542, .int o587753, .int p587544, .int z587664, .int p587546, .ref q587534, .ref (γ 9 29), .int p587547, .ref (γ 9 31), .int p587548, .int p587549, .int p587550, .ref q587535]) := e587756
                  have hs587765 : rStr γ [97] F582685 F587755 := rStr_put hs587673 n587757 htq582686 (by decide)
                  have fq587766 : F587755 q582686 = cF (F587665 q582686) 24 (.int o587753) := by rw [he587764, he587672]; rfl
                  refine G_iconst 0 dr_cX17_run_162 (by decide +kernel) ?_
                  have hT587767 : RS D I P582684 F587755 γ el := RS_set hT587676 n587757 htq582686 (by decide) ⟨q587534, q587535, p587536, p587537, p587538, p587539, p587540, p587541, p587542, o587753, p587544, z587664, p587546, p587547, p587548, p587549, p587550, he587764, ⟨bp587536, bp587537, (hB587577.2.2.1), (hB587577.2.2.2.1), (hB587577.2.2.2.2.1), ⟨by omega, by omega⟩, (hB587577.2.2.2.2.2.2.1), bp587548, (hB587577.2.2.2.2.2.2.2.2)⟩, ht587551, ht587552, ht587553, ht587554, ht587555, ht587556, ht587557, ht587558, ht587559, ht587560, ht587561, ht587562, ht587563, ht587564, ht587565, ht587566, ht587567, ht587568, ht587569, ht587570, ht587571, ht587572, ht587573, ht587574, hB587578⟩
                  have ac587768 : (fI (F587755 q582686) 26).toInt = z587664.toInt := by rw [he587764]; rfl
                  have ac587769 : (fI (F587755 q582686) 9).toInt = p587536.toInt := by rw [he587764]; rfl
                  have ac587770 : (fI (F587755 q582686) 10).toInt = p587537.toInt := by rw [he587764]; rfl
                  have ac587771 : (fI (F587755 q582686) 32).toInt = p587548.toInt := by rw [he587764]; rfl
                  exact G_iretA dr_cX17_run_163 rfl (Nat.le_of_ble_eq_true rfl) (Nat.le_of_ble_eq_true rfl) ⟨F587755, 0, rfl, rfl, hT587767, hs587765, (Nat.le_of_ble_eq_true rfl), (Nat.le_of_ble_eq_true rfl), (gB_w (gBl (show Int32.toInt 0 = 0 by decide)) (by decide) (by decide)), (by have qa0 : Int32.toInt 0 = 0 := (by decide); omega), (by have qa0 : Int32.toInt 0 = 0 := (by decide); omega), (by have qa0 : Int32.toInt 0 = 0 := (by decide); omega), (fun R c1 c2 c3 => c1 F587080 F587147 F587153 F587160 F587167 q587641 F587665 p587704 p587701 o587753 F587755 hx587146 n587149 fq587152 n587155 fq587159 n587162 fq587166 n587169 fq587173 hx587745 fq587746 fq587747 ht587754 n587757 fq587766)⟩
              · have r587772 : g587520.toInt < p587680.toInt := gC_nle hc587694
                have bg587520' : gB g587520 0 999999 := ⟨by omega, by omega⟩
                have bp587680' : gB p587680 1 1000000 := ⟨by omega, by omega⟩
                refine G_aload_n 3 dr_cX17_run_94 rfl ?_
                refine G_aload 0 dr_cX17_run_95 rfl ?_
                refine Gp_get 0 hm587638 he587671 dr_cX17_run_97 (gk_X12 D I) (Nat.le_of_ble_eq_true rfl) wr_9_220 rfl ?_
                refine G_iload 1 dr_cX17_run_100 rfl ?_
                obtain ⟨r587773, r587774, n587781, f587782, r587775, r587776, r587777, r587778, r587779, r587780⟩ := rLC_n r587684 (by omega)
                have hm587783 : q587681 ∈ P582684 := RS_m hT587676 r587773 (by decide)
                obtain ⟨q587784, hx587785⟩ : ∃ x, x = el q587640 g587520.toInt.toNat := ⟨_, rfl⟩
                have hx587786 : f587782 g587520.toNatClampNeg = some q587784 := (r587779 _ (show g587520.toInt.toNat < γ 2 q587640 by omega)).trans (by rw [hx587785])
                have ht587787 : rKd γ q587784 1 := by rw [hx587785]; exact (r587685 _ (show g587520.toInt.toNat < γ 2 q587640 by omega)).1
                have ht587788 : rFm γ q587784 q587640 := by rw [hx587785]; exact (r587685 _ (show g587520.toInt.toNat < γ 2 q587640 by omega)).2.1
                refine Gw_callV (As := [.int g587520]) (gV_ok D I) (cp_22_ArrayList_get l hl0 D I P582684 F587665 q587640 q587681 g587520 p587679 p587680 f587782 n587781 q587784 hm587677 hm587783 he587678 r587775 (gB_w bg587520' (by decide) (by decide)) (gB_w bp587680' (by decide) (by decide)) (by omega) (by omega) (by assumption) (by omega)) dr_cX17_run_102 ⟨wr_10_201, wr_1_18, wr_10_65, by decide, rfl, (Nat.le_of_ble_eq_true rfl), (Nat.le_of_ble_eq_true rfl)⟩ wr_10_63 wr_10_64 hm587677 he587678 rfl (show 0 + 0 ≤ 0 by first | omega | decide) (show 0 + 0 ≤ 0 by first | omega | decide) (Nat.le_of_ble_eq_true rfl) (fun r587792 w587793 dc587789 ds587790 hp587791 => ?_) (fun _ _ _ _ _ z => z.elim)
                obtain ⟨rfl, rfl, hdc, hds, ht587794⟩ := hp587791
                change G _ _ _ _ _ _ _ (.ref q587784 :: _) _ _ _
                refine G_widen (cs' := 0) (sl' := 0) (by omega) (by omega) ?_
                have hm587795 : q587784 ∈ P582684 := RS_m hT587676 ht587787 (by decide)
                obtain ⟨p587797, p587798, p587799, p587800, p587801, p587802, p587803, he587796, bp587797, bp587798, bp587801, bp587802, bp587803, r587804, r587805, r587806, r587807, r587808⟩ := show rk_1 γ q587784 (F587665 q587784) from RS_o hT587676 ht587787
                have bp587799 := gB_any p587799
                have bp587800 := gB_any p587800
                refine Gp_cast hm587795 he587796 rfl dr_cX17_run_105 wr_10_202 (gr_cast 1 rfl) ?_
                have ac587809 : (fI (F587665 q582686) 26).toInt = z587664.toInt := by rw [he587672]; rfl
                have ac587810 : (fI (F587665 q582686) 9).toInt = p587536.toInt := by rw [he587672]; rfl
                have ac587811 : (fI (F587665 q582686) 10).toInt = p587537.toInt := by rw [he587672]; rfl
                have ac587812 : (fI (F587665 q582686) 32).toInt = p587548.toInt := by rw [he587672]; rfl
                refine Gw_callV (As := [.ref q587784]) (gV_ok D I) (ct_583470_SpillForgeModel_step l hl0 D I γ el P582684 F587665 q582686 q587784 hT587676 htq582686 ht587787) dr_cX17_run_108 ⟨wr_11_96, wr_1_14, wr_11_99, by decide, rfl, (Nat.le_of_ble_eq_true rfl), (Nat.le_of_ble_eq_true rfl)⟩ wr_11_98 wr_p_114 hm587532 he587672 rfl (show 0 + 0 ≤ 0 by first | omega | decide) (show 0 + 0 ≤ 0 by first | omega | decide) (Nat.le_of_ble_eq_true rfl) (fun r587816 w587817 dc587813 ds587814 hp587815 => ?_) (fun _ _ _ _ _ z => z.elim)
                obtain ⟨F587824, o587818, rfl, rfl, hT587825, hs587826, hdc, hds, bo587818, x587819, x587820, x587821, x587822, ht587823⟩ := hp587815
                have he587827 : F587824 q582687 = .inr (18, [.ref q587589, .ref q587590, .int p587591, .int p587592]) := (hs587826 q582687 (rT0 htq582687 (by decide)) (rT1 htq582687 (by decide)) (rT2 htq582687 (by decide))).trans he587668
                have he587828 : F587824 q587589 = .inr (4, [.int p587611, .ref q587613, .int p587612]) := (hs587826 q587589 (rT0 ht587593 (by decide)) (rT1 ht587593 (by decide)) (rT2 ht587593 (by decide))).trans he587669
                have he587829 : F587824 q587613 = .inl (I (.object "java/lang/Object"), n587627, .inr (.inr (.inr (.inr f587628)))) := (hs587826 q587613 (rT0 r587619 (by decide)) (rT1 r587619 (by decide)) (rT2 r587619 (by decide))).trans he587670
                have he587830 : F587824 q587630 = .inr (17, [.ref q587640, .ref q587641, .int p587642, .int p587643]) := (hs587826 q587630 (rT0 ht587636 (by decide)) (rT1 ht587636 (by decide)) (rT2 ht587636 (by decide))).trans he587671
                have he587831 : F587824 q587640 = .inr (4, [.int p587679, .ref q587681, .int p587680]) := (hs587826 q587640 (rT0 ht587644 (by decide)) (rT1 ht587644 (by decide)) (rT2 ht587644 (by decide))).trans he587678
                have he587832 : F587824 q587681 = .inl (I (.object "java/lang/Object"), n587781, .inr (.inr (.inr (.inr f587782)))) := (hs587826 q587681 (rT0 r587773 (by decide)) (rT1 r587773 (by decide)) (rT2 r587773 (by decide))).trans r587775
                have he587833 : F587824 q587784 = .inr (20, [.int p587797, .int p587798, .int p587799, .int p587800, .int p587801, .int p587802, .int p587803]) := (hs587826 q587784 (rT0 ht587787 (by decide)) (rT1 ht587787 (by decide)) (rT2 ht587787 (by decide))).trans he587796
                have hs587834 : rStr γ [97] F582685 F587824 := rStr_tr hs587673 hs587826
                change G _ _ _ _ _ _ _ (.int o587818 :: _) _ _ _
                refine G_widen (cs' := 0) (sl' := 0) (by omega) (by omega) ?_
                refine G_istore (L' := [(6, .int o587818), (5, .ref q587630), (4, .int g587520), (3, .int g587519), (0, .ref q582686), (1, .ref q582687), (2, .int p582688)]) dr_cX17_run_111 (Nat.le_of_ble_eq_true rfl) rfl ?_
                refine G_iload 0 dr_cX17_run_113 rfl ?_
                refine G_if_lt 121 dr_cX17_run_115 (by decide +kernel) (fun hc587835 => ?_) (fun hc587835 => ?_)
                · have r587836 : o587818.toInt < 0 := gj_lt hc587835 (show Int32.toInt 0 = 0 by decide)
                  have bo587818' : gB o587818 (-1) (-1) := ⟨by omega, by omega⟩
                  obtain ⟨z587837, hz587837⟩ : ∃ z : Int32, z = g587520 + Int32.ofInt 1 := ⟨_, rfl⟩
                  have ez587837 : z587837.toInt = g587520.toInt + 1 := gI_inc hz587837 (by decide) bg587520' (by decide) (by decide)
                  have bz587837 : gB z587837 1 1000000 := ⟨by omega, by omega⟩
                  refine G_iinc (L' := [(4, .int z587837), (6, .int o587818), (5, .ref q587630), (3, .int g587519), (0, .ref q582686), (1, .ref q582687), (2, .int p582688)]) z587837 2 dr_cX17_run_121 rfl hz587837.symm (Nat.le_of_ble_eq_true rfl) rfl ?_
                  refine G_goto 54 dr_cX17_run_124 (by decide +kernel) ?_
                  refine G_lv (L' := [(4, .int z587837), (3, .int g587519), (0, .ref q582686), (1, .ref q582687), (2, .int p582688)]) [0, 3, 4, 5, 6] rfl ?_
                  have hm587838 : q582686 ∈ P582684 := RS_m hT587825 htq582686 (by decide)
                  refine rk10_e (show rk_10 γ (F587824 q582686) from RS_o hT587825 htq582686) (fun q587840 q587841 p587842 p587843 p587844 p587845 p587846 p587847 p587848 p587849 p587850 p587851 p587852 p587853 p587854 p587855 p587856 he587839 hB587883 ht587857 ht587858 ht587859 ht587860 ht587861 ht587862 ht587863 ht587864 ht587865 ht587866 ht587867 ht587868 ht587869 ht587870 ht587871 ht587872 ht587873 ht587874 ht587875 ht587876 ht587877 ht587878 ht587879 ht587880 hB587884 => ?_)
                  have ac587885 : (fI (F587824 q582686) 26).toInt = p587851.toInt := by rw [he587839]; rfl
                  have bp587851 : gB p587851 0 100000 := (hB587883.2.2.2.2.2.1)
                  have ac587886 : (fI (F587824 q582686) 9).toInt = p587842.toInt := by rw [he587839]; rfl
                  have bp587842 : gB p587842 0 1 := (hB587883.1)
                  have ac587887 : (fI (F587824 q582686) 10).toInt = p587843.toInt := by rw [he587839]; rfl
                  have bp587843 : gB p587843 0 1 := (hB587883.2.1)
                  have ac587888 : (fI (F587824 q582686) 32).toInt = p587854.toInt := by rw [he587839]; rfl
                  have bp587854 : gB p587854 0 8192 := (hB587883.2.2.2.2.2.2.2.1)
                  have ac587889 : (fI (F587824 q582686) 26).toInt = p587851.toInt := by rw [he587839]; rfl
                  have ac587890 : (fI (F587824 q582686) 9).toInt = p587842.toInt := by rw [he587839]; rfl
                  have ac587891 : (fI (F587824 q582686) 10).toInt = p587843.toInt := by rw [he587839]; rfl
                  have ac587892 : (fI (F587824 q582686) 32).toInt = p587854.toInt := by rw [he587839]; rfl
                  exact ih54_587528 F587824 g587519 z587837 bg587519 (gB_w bz587837 (by decide) (by decide)) hT587825 hs587834 (by omega) (by omega) (by omega) (by omega) (by omega) (fun k e1 e2 e3 ht => kt54_587529 k e1 e2 e3 (fun R c1 c2 c3 c4 c5 c6 c7 => c5 F587521 g587519 g587520 q587589 q587630 p587612 p587545 z587664 F587665 q587640 p587680 q587784 o587818 F587824 z587837 k e1 e2 e3 bg587519 bg587520 hT587522 hs587523 x587524 x587525 x587526 x587527 x587528 fq587635 hx587631 fq587654 ht587660 fq587661 r587663 ez587664 n587667 fq587674 fq587675 fq587687 fq587688 r587772 hx587785 ht587794 bo587818 hT587825 hs587826 x587819 x587820 x587821 x587822 ht587823 r587836 ez587837 (ht R c1 c2 c3 c4 c5 c6 c7))) (by omega)
                · have r587893 : 0 ≤ o587818.toInt := gj_nlt hc587835 (show Int32.toInt 0 = 0 by decide)
                  have bo587818' : gB o587818 0 5 := ⟨by omega, by omega⟩
                  have hx587894 : tl_RModel_run_54 D I γ el P582684 F582685 q582687 q582686 p582688 F587167 (0 : Int32) (0 : Int32) 118 (0 : Nat) F587824 o587818 := kt54_587529 118 (0 : Nat) F587824 o587818 (fun R c1 c2 c3 c4 c5 c6 c7 => c6 F587521 g587519 g587520 q587589 q587630 p587612 p587545 z587664 F587665 q587640 p587680 q587784 o587818 F587824 bg587519 bg587520 hT587522 hs587523 x587524 x587525 x587526 x587527 x587528 fq587635 hx587631 fq587654 ht587660 fq587661 r587663 ez587664 n587667 fq587674 fq587675 fq587687 fq587688 r587772 hx587785 ht587794 bo587818 hT587825 hs587826 x587819 x587820 x587821 x587822 ht587823 r587893)
                  refine G_iload 0 dr_cX17_run_118 rfl ?_
                  have hm587895 : q582686 ∈ P582684 := RS_m hT587825 htq582686 (by decide)
                  refine rk10_e (show rk_10 γ (F587824 q582686) from RS_o hT587825 htq582686) (fun q587897 q587898 p587899 p587900 p587901 p587902 p587903 p587904 p587905 p587906 p587907 p587908 p587909 p587910 p587911 p587912 p587913 he587896 hB587940 ht587914 ht587915 ht587916 ht587917 ht587918 ht587919 ht587920 ht587921 ht587922 ht587923 ht587924 ht587925 ht587926 ht587927 ht587928 ht587929 ht587930 ht587931 ht587932 ht587933 ht587934 ht587935 ht587936 ht587937 hB587941 => ?_)
                  have ac587942 : (fI (F587824 q582686) 26).toInt = p587908.toInt := by rw [he587896]; rfl
                  have bp587908 : gB p587908 0 100000 := (hB587940.2.2.2.2.2.1)
                  have ac587943 : (fI (F587824 q582686) 9).toInt = p587899.toInt := by rw [he587896]; rfl
                  have bp587899 : gB p587899 0 1 := (hB587940.1)
                  have ac587944 : (fI (F587824 q582686) 10).toInt = p587900.toInt := by rw [he587896]; rfl
                  have bp587900 : gB p587900 0 1 := (hB587940.2.1)
                  have ac587945 : (fI (F587824 q582686) 32).toInt = p587911.toInt := by rw [he587896]; rfl
                  have bp587911 : gB p587911 0 8192 := (hB587940.2.2.2.2.2.2.2.1)
                  have ac587946 : (fI (F587824 q582686) 26).toInt = p587908.toInt := by rw [he587896]; rfl
                  have ac587947 : (fI (F587824 q582686) 9).toInt = p587899.toInt := by rw [he587896]; rfl
                  have ac587948 : (fI (F587824 q582686) 10).toInt = p587900.toInt := by rw [he587896]; rfl
                  have ac587949 : (fI (F587824 q582686) 32).toInt = p587911.toInt := by rw [he587896]; rfl
                  exact G_iretA dr_cX17_run_120 rfl (Nat.le_of_ble_eq_true rfl) (Nat.le_of_ble_eq_true rfl) ⟨F587824, o587818, rfl, rfl, hT587825, hs587834, (Nat.le_of_ble_eq_true rfl), (Nat.le_of_ble_eq_true rfl), bo587818', (by omega), (by omega), (by omega), (fun R c1 c2 c3 => c2 F587080 F587147 F587153 F587160 F587167 F587824 o587818 hx587146 n587149 fq587152 n587155 fq587159 n587162 fq587166 n587169 fq587173 hx587894)⟩
            · have r587950 : p587545.toInt = p582688.toInt := gC_eq hc587662
              have bp587545' : gB p587545 1 100000 := ⟨by omega, by omega⟩
              have hx587951 : tl_RModel_run_54 D I γ el P582684 F582685 q582687 q582686 p582688 F587167 (0 : Int32) (0 : Int32) 69 (0 : Nat) F587521 (0 : Int32) := kt54_587529 69 (0 : Nat) F587521 (0 : Int32) (fun R c1 c2 c3 c4 c5 c6 c7 => c7 F587521 g587519 g587520 q587589 q587630 p587612 p587545 bg587519 bg587520 hT587522 hs587523 x587524 x587525 x587526 x587527 x587528 fq587635 hx587631 fq587654 ht587660 fq587661 r587950)
              refine G_iconst 4 dr_cX17_run_69 (by decide +kernel) ?_
              have ac587952 : (fI (F587521 q582686) 26).toInt = p587545.toInt := by rw [he587533]; rfl
              have ac587953 : (fI (F587521 q582686) 9).toInt = p587536.toInt := by rw [he587533]; rfl
              have ac587954 : (fI (F587521 q582686) 10).toInt = p587537.toInt := by rw [he587533]; rfl
              have ac587955 : (fI (F587521 q582686) 32).toInt = p587548.toInt := by rw [he587533]; rfl
              exact G_iretA dr_cX17_run_70 rfl (Nat.le_of_ble_eq_true rfl) (Nat.le_of_ble_eq_true rfl) ⟨F587521, 4, rfl, rfl, hT587522, hs587523, (Nat.le_of_ble_eq_true rfl), (Nat.le_of_ble_eq_true rfl), (gB_w (gBl (show Int32.toInt 4 = 4 by decide)) (by decide) (by decide)), (by have qa0 : Int32.toInt 4 = 4 := (by decide); omega), (by have qa0 : Int32.toInt 4 = 4 := (by decide); omega), (by have qa0 : Int32.toInt 4 = 4 := (by decide); omega), (fun R c1 c2 c3 => c3 F587080 F587147 F587153 F587160 F587167 F587521 hx587146 n587149 fq587152 n587155 fq587159 n587162 fq587166 n587169 fq587173 hx587951)⟩
        have ac587956 : (fI (F587167 q582686) 26).toInt = 0 := by rw [he587170]; show Int32.toInt 0 = 0; decide
        have ac587957 : (fI (F587167 q582686) 9).toInt = p587093.toInt := by rw [he587170]; rfl
        have ac587958 : (fI (F587167 q582686) 10).toInt = p587094.toInt := by rw [he587170]; rfl
        have ac587959 : (fI (F587167 q582686) 32).toInt = p587105.toInt := by rw [he587170]; rfl
        exact hlp54_587528 ((p582688.toInt - (fI (F587167 q582686) 26).toInt).toNat + 1) F587167 0 0 (gB_w (gBl (show Int32.toInt 0 = 0 by decide)) (by decide) (by decide)) (gB_w (gBl (show Int32.toInt 0 = 0 by decide)) (by decide) (by decide)) hT587174 hs587171 (by have qa0 : Int32.toInt 0 = 0 := (by decide); omega) (by omega) (by omega) (by omega) (by omega) (fun k e1 e2 e3 ht => ht) (Nat.lt_succ_self _)
      · have r587960 : g587079.toInt < 2000 := gj_nleL hc587144 (show Int32.toInt 2000 = 2000 by decide)
        have bg587079' : gB g587079 0 1999 := ⟨by omega, by omega⟩
        refine G_aload_n 1 dr_cX17_run_9 rfl ?_
        have fq587961 : fR (F587080 q582686) 20 = (γ 9 20) := by rw [he587090]; rfl
        refine Gp_get 20 hm587089 he587090 dr_cX17_run_10 (gk_X17 D I) (Nat.le_of_ble_eq_true rfl) wr_7_94 rfl ?_
        refine G_iload_n 0 dr_cX17_run_13 rfl ?_
        refine G_iconst 0 dr_cX17_run_14 (by decide +kernel) ?_
        have hm587962 : (γ 9 20) ∈ P582684 := RS_m hT587081 ht587124 (by decide)
        obtain ⟨f587964, he587963⟩ := show rk_22 I (F587080 (γ 9 20)) from RS_o hT587081 ht587124
        refine Gp_iast 0 hm587962 he587963 dr_cX17_run_15 rfl (gB_in bg587079' (by decide) (by decide)) (fun F587965 e587966 n587967 => ?_)
        obtain ⟨f587968, hf587968⟩ : ∃ z, z = upd f587964 g587079.toNatClampNeg 0 := ⟨_, rfl⟩
        rw [← hf587968] at e587966
        have he587969 : F587965 q582686 = .inr (22, [.ref (γ 9 0), .ref (γ 9 1), .ref (γ 9 2), .ref (γ 9 3), .ref (γ 9 4), .ref (γ 9 5), .ref (γ 9 6), .ref (γ 9 7), .ref (γ 9 8), .int p587093, .int p587094, .int p587095, .int p587096, .int p587097, .int p587098, .ref (γ 9 15), .ref (γ 9 16), .ref (γ 9 17), .ref (γ 9 18), .ref (γ 9 19), .ref (γ 9 20), .ref (γ 9 21), .ref (γ 9 22), .int p587099, .int p587100, .int p587101, .int p587102, .int p587103, .ref q587091, .ref (γ 9 29), .int p587104, .ref (γ 9 31), .int p587105, .int p587106, .int p587107, .ref q587092]) := (n587967 q582686 (rn_oa he587090 he587963)).trans he587090
        have he587970 : F587965 (γ 9 20) = .inl (I .int, 2000, .inl f587968) := e587966
        have hs587971 : rStr γ [97] F582685 F587965 := rStr_put hs587082 n587967 ht587124 (by decide)
        refine G_aload_n 1 dr_cX17_run_16 rfl ?_
        have fq587972 : fR (F587965 q582686) 21 = (γ 9 21) := by rw [he587969]; rfl
        refine Gp_get 21 hm587089 he587969 dr_cX17_run_17 (gk_X17 D I) (Nat.le_of_ble_eq_true rfl) wr_7_95 rfl ?_
        refine G_iload_n 0 dr_cX17_run_20 rfl ?_
        refine G_iconst 0 dr_cX17_run_21 (by decide +kernel) ?_
        have hT587973 : RS D I P582684 F587965 γ el := RS_set hT587081 n587967 ht587124 (by decide) ⟨f587968, he587970⟩
        have hm587974 : (γ 9 21) ∈ P582684 := RS_m hT587973 ht587125 (by decide)
        obtain ⟨f587976, he587975⟩ := show rk_23 I (F587965 (γ 9 21)) from RS_o hT587973 ht587125
        refine Gp_iast 0 hm587974 he587975 dr_cX17_run_22 rfl (gB_in bg587079' (by decide) (by decide)) (fun F587977 e587978 n587979 => ?_)
        obtain ⟨f587980, hf587980⟩ : ∃ z, z = upd f587976 g587079.toNatClampNeg 0 := ⟨_, rfl⟩
        rw [← hf587980] at e587978
        have he587981 : F587977 q582686 = .inr (22, [.ref (γ 9 0), .ref (γ 9 1), .ref (γ 9 2), .ref (γ 9 3), .ref (γ 9 4), .ref (γ 9 5), .ref (γ 9 6), .ref (γ 9 7), .ref (γ 9 8), .int p587093, .int p587094, .int p587095, .int p587096, .int p587097, .int p587098, .ref (γ 9 15), .ref (γ 9 16), .ref (γ 9 17), .ref (γ 9 18), .ref (γ 9 19), .ref (γ 9 20), .ref (γ 9 21), .ref (γ 9 22), .int p587099, .int p587100, .int p587101, .int p587102, .int p587103, .ref q587091, .ref (γ 9 29), .int p587104, .ref (γ 9 31), .int p587105, .int p587106, .int p587107, .ref q587092]) := (n587979 q582686 (rn_oa he587969 he587975)).trans he587969
        have he587982 : F587977 (γ 9 20) = .inl (I .int, 2000, .inl f587968) := (n587979 (γ 9 20) (rn_ty ht587124 ht587125 (by decide))).trans he587970
        have he587983 : F587977 (γ 9 21) = .inl (I .int, 2000, .inl f587980) := e587978
        have hs587984 : rStr γ [97] F582685 F587977 := rStr_put hs587971 n587979 ht587125 (by decide)
        obtain ⟨z587985, hz587985⟩ : ∃ z : Int32, z = g587079 + Int32.ofInt 1 := ⟨_, rfl⟩
        have ez587985 : z587985.toInt = g587079.toInt + 1 := gI_inc hz587985 (by decide) bg587079' (by decide) (by decide)
        have bz587985 : gB z587985 1 2000 := ⟨by omega, by omega⟩
        refine G_iinc (L' := [(3, .int z587985), (0, .ref q582686), (1, .ref q582687), (2, .int p582688)]) z587985 0 dr_cX17_run_23 rfl hz587985.symm (Nat.le_of_ble_eq_true rfl) rfl ?_
        refine G_goto 2 dr_cX17_run_26 (by decide +kernel) ?_
        have hT587986 : RS D I P582684 F587977 γ el := RS_set hT587973 n587979 ht587125 (by decide) ⟨f587980, he587983⟩
        have ac587987 : (fI (F587977 q582686) 26).toInt = p587102.toInt := by rw [he587981]; rfl
        have ac587988 : (fI (F587977 q582686) 9).toInt = p587093.toInt := by rw [he587981]; rfl
        have ac587989 : (fI (F587977 q582686) 10).toInt = p587094.toInt := by rw [he587981]; rfl
        have ac587990 : (fI (F587977 q582686) 32).toInt = p587105.toInt := by rw [he587981]; rfl
        exact ih2_587085 F587977 z587985 (gB_w bz587985 (by decide) (by decide)) hT587986 hs587984 (by omega) (by omega) (by omega) (fun k e1 ht => kt2_587086 k e1 (fun R c1 c2 => c2 F587080 g587079 f587964 f587968 F587965 f587976 f587980 F587977 z587985 k e1 bg587079 hT587081 hs587082 x587083 x587084 x587085 r587960 fq587961 he587963 hf587968 n587967 he587970 fq587972 he587975 hf587980 n587979 he587983 ez587985 (ht R c1 c2))) (mz_up ez587985 (Int.le_trans bg587079'.2 (by decide)) hm2_587085)
  have ac587991 : (fI (F582685 q582686) 26).toInt = p582704.toInt := by rw [he582692]; rfl
  have ac587992 : (fI (F582685 q582686) 9).toInt = p582695.toInt := by rw [he582692]; rfl
  have ac587993 : (fI (F582685 q582686) 10).toInt = p582696.toInt := by rw [he582692]; rfl
  have ac587994 : (fI (F582685 q582686) 32).toInt = p582707.toInt := by rw [he582692]; rfl
  exact hlp2_587085 (((2001 : Int) - 0).toNat + 1) F582685 0 (gB_w (gBl (show Int32.toInt 0 = 0 by decide)) (by decide) (by decide)) hT (rStr_rf (γ := γ) (W := [97]) (F := F582685)) (by omega) (by omega) (by omega) (fun k e1 ht => ht) (Nat.lt_succ_self _)
/- tr_RModel_run2: result, F -/
def tr_RModel_run2 (D : va_G) (I : FieldType → ClassId) (γ el : Nat → Nat → Nat) (P : List Nat) (F : Nat → va_E) (q0 : Nat) (a1 : Int32) (a2 : Int32) (o1 : Int32) (o2 : Nat → va_E) : Prop := ∀ R : (Int32) → (Nat → va_E) → Prop,
  (∀ (x1 : Nat → va_E) (x2 : Nat → va_E), (∀ b, b ≠ q0 → x1 b = F b) → x1 q0 = cF (F q0) 30 (.int 0) → a2.toInt < 1 → RS D I P x2 γ el → rStr γ [] x1 x2 → (fI (x2 q0) 9).toInt = (fI (x1 q0) 9).toInt → (fI (x2 q0) 10).toInt = (fI (x1 q0) 10).toInt → (fI (x2 q0) 32).toInt = (fI (x1 q0) 32).toInt → (fI (x2 q0) 30).toInt = 1 → tr_RModel_no D I γ el x1 q0 (1 : Int32) x2 → R (0 : Int32) x2) →
  (∀ (x1 : Nat → va_E) (x2 : Int32) (x3 : Int32) (x4 : Nat → va_E) (x5 : Nat → va_E), (∀ b, b ≠ q0 → x1 b = F b) → x1 q0 = cF (F q0) 30 (.int 0) → 1 ≤ a2.toInt → a2.toInt ≤ 100000 → a1.toInt = 0 → fI (x1 q0) 9 = x2 → x2.toInt ≠ 0 → fR (x1 q0) 6 = (γ 9 6) → gB x3 0 5 → RS D I P x4 γ el → rStr γ [97] x1 x4 → (fI (x4 q0) 9).toInt = (fI (x1 q0) 9).toInt → (fI (x4 q0) 10).toInt = (fI (x1 q0) 10).toInt → (fI (x4 q0) 32).toInt = (fI (x1 q0) 32).toInt → tr_RModel_run D I γ el P x1 q0 (γ 9 6) a2 x3 x4 → (∀ b, b ≠ q0 → x5 b = x4 b) → x5 q0 = cF (x4 q0) 23 (.int x3) → fI (x5 q0) 23 = x3 → R x3 x5) →
  (∀ (x1 : Nat → va_E) (x2 : Int32) (x3 : Nat → va_E), (∀ b, b ≠ q0 → x1 b = F b) → x1 q0 = cF (F q0) 30 (.int 0) → 1 ≤ a2.toInt → a2.toInt ≤ 100000 → a1.toInt = 0 → fI (x1 q0) 9 = x2 → x2.toInt = 0 → RS D I P x3 γ el → rStr γ [] x1 x3 → (fI (x3 q0) 9).toInt = (fI (x1 q0) 9).toInt → (fI (x3 q0) 10).toInt = (fI (x1 q0) 10).toInt → (fI (x3 q0) 32).toInt = (fI (x1 q0) 32).toInt → (fI (x3 q0) 30).toInt = 2 → tr_RModel_no D I γ el x1 q0 (2 : Int32) x3 → R (0 : Int32) x3) →
  (∀ (x1 : Nat → va_E) (x2 : Int32) (x3 : Int32) (x4 : Nat → va_E) (x5 : Nat → va_E), (∀ b, b ≠ q0 → x1 b = F b) → x1 q0 = cF (F q0) 30 (.int 0) → 1 ≤ a2.toInt → a2.toInt ≤ 100000 → a1.toInt ≠ 0 → fI (x1 q0) 10 = x2 → x2.toInt ≠ 0 → fR (x1 q0) 7 = (γ 9 7) → gB x3 0 5 → RS D I P x4 γ el → rStr γ [97] x1 x4 → (fI (x4 q0) 9).toInt = (fI (x1 q0) 9).toInt → (fI (x4 q0) 10).toInt = (fI (x1 q0) 10).toInt → (fI (x4 q0) 32).toInt = (fI (x1 q0) 32).toInt → tr_RModel_run D I γ el P x1 q0 (γ 9 7) a2 x3 x4 → (∀ b, b ≠ q0 → x5 b = x4 b) → x5 q0 = cF (x4 q0) 23 (.int x3) → fI (x5 q0) 23 = x3 → R x3 x5) →
  (∀ (x1 : Nat → va_E) (x2 : Int32) (x3 : Nat → va_E), (∀ b, b ≠ q0 → x1 b = F b) → x1 q0 = cF (F q0) 30 (.int 0) → 1 ≤ a2.toInt → a2.toInt ≤ 100000 → a1.toInt ≠ 0 → fI (x1 q0) 10 = x2 → x2.toInt = 0 → RS D I P x3 γ el → rStr γ [] x1 x3 → (fI (x3 q0) 9).toInt = (fI (x1 q0) 9).toInt → (fI (x3 q0) 10).toInt = (fI (x1 q0) 10).toInt → (fI (x3 q0) 32).toInt = (fI (x1 q0) 32).toInt → (fI (x3 q0) 30).toInt = 2 → tr_RModel_no D I γ el x1 q0 (2 : Int32) x3 → R (0 : Int32) x3) →
  (∀ (x1 : Nat → va_E) (x2 : Nat → va_E), (∀ b, b ≠ q0 → x1 b = F b) → x1 q0 = cF (F q0) 30 (.int 0) → 1 ≤ a2.toInt → 100000 < a2.toInt → RS D I P x2 γ el → rStr γ [] x1 x2 → (fI (x2 q0) 9).toInt = (fI (x1 q0) 9).toInt → (fI (x2 q0) 10).toInt = (fI (x1 q0) 10).toInt → (fI (x2 q0) 32).toInt = (fI (x1 q0) 32).toInt → (fI (x2 q0) 30).toInt = 1 → tr_RModel_no D I γ el x1 q0 (1 : Int32) x2 → R (0 : Int32) x2) →
  R o1 o2
end
