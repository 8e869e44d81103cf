abbrev ky_564964_SpillForgeModel_end : gKey := (cX17_end, 2, "SpillForgeModel", (some FieldType.int), [], "end", fun _ _ => True)
def pt_564964_SpillForgeModel_end (D : va_G) (I : FieldType → ClassId) (γ el : Nat → Nat → Nat) (P564960 : List Nat) (F564961 : Nat → va_E) (q564962 : Nat) (p564963 : Int32) : Option Value → va_W → Nat → Nat → Prop := fun r w dc ds => ∃ (F565185 : Nat → va_E) (o565184 : Int32), r = some (.int o565184) ∧ w = va_pl P564960 F565185 ∧ RS D I P564960 F565185 γ el ∧ rStr γ [] F564961 F565185 ∧ dc ≤ 0 ∧ ds ≤ 0 ∧ gB o565184 0 8192 ∧ ((0 ≤ p564963.toInt ∧ p564963.toInt ≤ (fI (F564961 q564962) 32).toInt ∧ o565184.toInt = p564963.toInt ∧ (fI (F565185 q564962) 32).toInt = p564963.toInt ∧ (fI (F565185 q564962) 30).toInt = 0) ∨ ((p564963.toInt < 0 ∨ (fI (F564961 q564962) 32).toInt < p564963.toInt) ∧ (fI (F565185 q564962) 30).toInt = 1 ∧ (fI (F565185 q564962) 32).toInt = (fI (F564961 q564962) 32).toInt)) ∧ (fI (F565185 q564962) 9).toInt = (fI (F564961 q564962) 9).toInt ∧ (fI (F565185 q564962) 10).toInt = (fI (F564961 q564962) 10).toInt
set_option maxRecDepth 100000 in
set_option maxHeartbeats 4000000 in
theorem ct_564964_SpillForgeModel_end (l : Launch) (hl0 : l.stackTraces = false) (D : va_G) (I : FieldType → ClassId) (γ el : Nat → Nat → Nat) (P564960 : List Nat) (F564961 : Nat → va_E) (q564962 : Nat) (p564963 : Int32) (hT : RS D I P564960 F564961 γ el) (htq564962 : rKd γ q564962 10) : CtA (gV D I) l yX17_end cX17_end 2 (some FieldType.int) 1 21 0 0 [.ref q564962, .int p564963] (va_pl P564960 F564961) (pt_564964_SpillForgeModel_end D I γ el P564960 F564961 q564962 p564963) gNA := by
  refine CtA_of hl0 (by decide) (Nat.le_of_ble_eq_true rfl) ?_
  have bp564963 := gB_any p564963
  have hm564965 : q564962 ∈ P564960 := RS_m hT htq564962 (by decide)
  refine rk10_e (show rk_10 γ (F564961 q564962) from RS_o hT htq564962) (fun q564967 q564968 p564969 p564970 p564971 p564972 p564973 p564974 p564975 p564976 p564977 p564978 p564979 p564980 p564981 p564982 p564983 he564966 hB565010 ht564984 ht564985 ht564986 ht564987 ht564988 ht564989 ht564990 ht564991 ht564992 ht564993 ht564994 ht564995 ht564996 ht564997 ht564998 ht564999 ht565000 ht565001 ht565002 ht565003 ht565004 ht565005 ht565006 ht565007 hB565011 => ?_)
  have ac565012 : (fI (F564961 q564962) 9).toInt = p564969.toInt := by rw [he564966]; rfl
  have bp564969 : gB p564969 0 1 := (hB565010.1)
  have ac565013 : (fI (F564961 q564962) 10).toInt = p564970.toInt := by rw [he564966]; rfl
  have bp564970 : gB p564970 0 1 := (hB565010.2.1)
  have ac565014 : (fI (F564961 q564962) 32).toInt = p564981.toInt := by rw [he564966]; rfl
  have bp564981 : gB p564981 0 8192 := (hB565010.2.2.2.2.2.2.2.1)
  have ac565015 : (fI (F564961 q564962) 30).toInt = p564980.toInt := by rw [he564966]; rfl
  have bp564980 : gB p564980 (-2147483648) 2147483647 := (gB_any p564980)
  refine G_aload_n 0 dr_cX17_end_0 rfl ?_
  refine G_iconst 0 dr_cX17_end_1 (by decide +kernel) ?_
  refine Gp_put 30 hm564965 he564966 dr_cX17_end_2 (gk_X17 D I) (Nat.le_of_ble_eq_true rfl) wr_7_104 rfl rfl rfl (Nat.le_of_ble_eq_true rfl) (fun F565016 e565017 n565018 => ?_)
  have he565019 : F565016 q564962 = .inr (22, [.ref (γ 9 0), .ref (γ 9 1), .ref (γ 9 2), .ref (γ 9 3), .ref (γ 9 4), .ref (γ 9 5), .ref (γ 9 6), .ref (γ 9 7), .ref (γ 9 8), .int p564969, .int p564970, .int p564971, .int p564972, .int p564973, .int p564974, .ref (γ 9 15), .ref (γ 9 16), .ref (γ 9 17), .ref (γ 9 18), .ref (γ 9 19), .ref (γ 9 20), .ref (γ 9 21), .ref (γ 9 22), .int p564975, .int p564976, .int p564977, .int p564978, .int p564979, .ref q564967, .ref (γ 9 29), .int 0, .ref (γ 9 31), .int p564981, .int p564982, .int p564983, .ref q564968]) := e565017
  have hs565020 : rStr γ [] F564961 F565016 := rStr_put (rStr_rf (γ := γ) (W := []) (F := F564961)) n565018 htq564962 (by decide)
  refine G_iload_n 1 dr_cX17_end_5 rfl ?_
  refine G_if_lt 17 dr_cX17_end_6 (by decide +kernel) (fun hc565021 => ?_) (fun hc565021 => ?_)
  · have r565022 : p564963.toInt < 0 := gj_lt hc565021 (show Int32.toInt 0 = 0 by decide)
    have bp564963' : gB p564963 (-2147483648) (-1) := ⟨by omega, by omega⟩
    refine G_aload_n 0 dr_cX17_end_17 rfl ?_
    refine G_iconst 1 dr_cX17_end_18 (by decide +kernel) ?_
    have hT565023 : RS D I P564960 F565016 γ el := RS_set hT n565018 htq564962 (by decide) ⟨q564967, q564968, p564969, p564970, p564971, p564972, p564973, p564974, p564975, p564976, p564977, p564978, p564979, 0, p564981, p564982, p564983, he565019, ⟨bp564969, bp564970, (hB565010.2.2.1), (hB565010.2.2.2.1), (hB565010.2.2.2.2.1), (hB565010.2.2.2.2.2.1), (hB565010.2.2.2.2.2.2.1), bp564981, (hB565010.2.2.2.2.2.2.2.2)⟩, ht564984, ht564985, ht564986, ht564987, ht564988, ht564989, ht564990, ht564991, ht564992, ht564993, ht564994, ht564995, ht564996, ht564997, ht564998, ht564999, ht565000, ht565001, ht565002, ht565003, ht565004, ht565005, ht565006, ht565007, hB565011⟩
    have ac565024 : (fI (F565016 q564962) 9).toInt = p564969.toInt := by rw [he565019]; rfl
    have ac565025 : (fI (F565016 q564962) 10).toInt = p564970.toInt := by rw [he565019]; rfl
    have ac565026 : (fI (F565016 q564962) 32).toInt = p564981.toInt := by rw [he565019]; rfl
    have ac565027 : (fI (F565016 q564962) 30).toInt = 0 := by rw [he565019]; show Int32.toInt 0 = 0; decide
    refine Gw_callV (As := [.int 1]) (gV_ok D I) (ct_563559_SpillForgeModel_no l hl0 D I γ el P564960 F565016 q564962 1 hT565023 htq564962) dr_cX17_end_19 ⟨wr_7_191, wr_1_14, wr_7_194, by decide, rfl, (Nat.le_of_ble_eq_true rfl), (Nat.le_of_ble_eq_true rfl)⟩ wr_7_193 wr_p_73 hm564965 he565019 rfl (show 0 + 0 ≤ 0 by first | omega | decide) (show 0 + 0 ≤ 0 by first | omega | decide) (Nat.le_of_ble_eq_true rfl) (fun r565031 w565032 dc565028 ds565029 hp565030 => ?_) (fun _ _ _ _ _ z => z.elim)
    obtain ⟨F565037, rfl, rfl, hT565038, hs565039, hdc, hds, x565033, x565034, x565035, x565036⟩ := hp565030
    have hs565040 : rStr γ [] F564961 F565037 := rStr_tr hs565020 hs565039
    rw [show Int32.toInt 1 = 1 from by decide] at x565036
    change G _ _ _ _ _ _ _ (.int 0 :: _) _ _ _
    refine G_widen (cs' := 0) (sl' := 0) (by omega) (by omega) ?_
    have hm565041 : q564962 ∈ P564960 := RS_m hT565038 htq564962 (by decide)
    refine rk10_e (show rk_10 γ (F565037 q564962) from RS_o hT565038 htq564962) (fun q565043 q565044 p565045 p565046 p565047 p565048 p565049 p565050 p565051 p565052 p565053 p565054 p565055 p565056 p565057 p565058 p565059 he565042 hB565086 ht565060 ht565061 ht565062 ht565063 ht565064 ht565065 ht565066 ht565067 ht565068 ht565069 ht565070 ht565071 ht565072 ht565073 ht565074 ht565075 ht565076 ht565077 ht565078 ht565079 ht565080 ht565081 ht565082 ht565083 hB565087 => ?_)
    have ac565088 : (fI (F565037 q564962) 9).toInt = p565045.toInt := by rw [he565042]; rfl
    have bp565045 : gB p565045 0 1 := (hB565086.1)
    have ac565089 : (fI (F565037 q564962) 10).toInt = p565046.toInt := by rw [he565042]; rfl
    have bp565046 : gB p565046 0 1 := (hB565086.2.1)
    have ac565090 : (fI (F565037 q564962) 32).toInt = p565057.toInt := by rw [he565042]; rfl
    have bp565057 : gB p565057 0 8192 := (hB565086.2.2.2.2.2.2.2.1)
    have ac565091 : (fI (F565037 q564962) 30).toInt = p565056.toInt := by rw [he565042]; rfl
    have bp565056 : gB p565056 (-2147483648) 2147483647 := (gB_any p565056)
    have ac565092 : (fI (F565037 q564962) 9).toInt = p565045.toInt := by rw [he565042]; rfl
    have ac565093 : (fI (F565037 q564962) 10).toInt = p565046.toInt := by rw [he565042]; rfl
    have ac565094 : (fI (F565037 q564962) 32).toInt = p565057.toInt := by rw [he565042]; rfl
    have ac565095 : (fI (F565037 q564962) 30).toInt = p565056.toInt := by rw [he565042]; rfl
    exact G_iretA dr_cX17_end_22 rfl (Nat.le_of_ble_eq_true rfl) (Nat.le_of_ble_eq_true rfl) ⟨F565037, 0, rfl, rfl, hT565038, hs565040, (Nat.le_of_ble_eq_true rfl), (Nat.le_of_ble_eq_true rfl), (gB_w (gBl (show Int32.toInt 0 = 0 by decide)) (by decide) (by decide)), (by have qa0 : Int32.toInt 0 = 0 := (by decide); omega), (by have qa0 : Int32.toInt 0 = 0 := (by decide); omega), (by have qa0 : Int32.toInt 0 = 0 := (by decide); omega)⟩
  · have r565096 : 0 ≤ p564963.toInt := gj_nlt hc565021 (show Int32.toInt 0 = 0 by decide)
    have bp564963' : gB p564963 0 2147483647 := ⟨by omega, by omega⟩
    refine G_iload_n 1 dr_cX17_end_9 rfl ?_
    refine G_aload_n 0 dr_cX17_end_10 rfl ?_
    refine Gp_get 32 hm564965 he565019 dr_cX17_end_11 (gk_X17 D I) (Nat.le_of_ble_eq_true rfl) wr_7_106 rfl ?_
    refine G_icmp_le 23 dr_cX17_end_14 (by decide +kernel) (fun hc565097 => ?_) (fun hc565097 => ?_)
    · have r565098 : p564963.toInt ≤ p564981.toInt := gC_le hc565097
      have bp564963'' : gB p564963 0 8192 := ⟨by omega, by omega⟩
      refine G_aload_n 0 dr_cX17_end_23 rfl ?_
      refine G_iload_n 1 dr_cX17_end_24 rfl ?_
      refine Gp_put 32 hm564965 he565019 dr_cX17_end_25 (gk_X17 D I) (Nat.le_of_ble_eq_true rfl) wr_7_106 rfl rfl rfl (Nat.le_of_ble_eq_true rfl) (fun F565099 e565100 n565101 => ?_)
      have he565102 : F565099 q564962 = .inr (22, [.ref (γ 9 0), .ref (γ 9 1), .ref (γ 9 2), .ref (γ 9 3), .ref (γ 9 4), .ref (γ 9 5), .ref (γ 9 6), .ref (γ 9 7), .ref (γ 9 8), .int p564969, .int p564970, .int p564971, .int p564972, .int p564973, .int p564974, .ref (γ 9 15), .ref (γ 9 16), .ref (γ 9 17), .ref (γ 9 18), .ref (γ 9 19), .ref (γ 9 20), .ref (γ 9 21), .ref (γ 9 22), .int p564975, .int p564976, .int p564977, .int p564978, .int p564979, .ref q564967, .ref (γ 9 29), .int 0, .ref (γ 9 31), .int p564963, .int p564982, .int p564983, .ref q564968]) := e565100
      have hs565103 : rStr γ [] F564961 F565099 := rStr_put hs565020 n565101 htq564962 (by decide)
      have n565104 : ∀ b, b ≠ q564962 → F565099 b = F564961 b := fun b hb => (n565101 b hb).trans (n565018 b hb)
      refine G_iload_n 1 dr_cX17_end_28 rfl ?_
      have hT565105 : RS D I P564960 F565099 γ el := RS_set hT n565104 htq564962 (by decide) ⟨q564967, q564968, p564969, p564970, p564971, p564972, p564973, p564974, p564975, p564976, p564977, p564978, p564979, 0, p564963, p564982, p564983, he565102, ⟨bp564969, bp564970, (hB565010.2.2.1), (hB565010.2.2.2.1), (hB565010.2.2.2.2.1), (hB565010.2.2.2.2.2.1), (hB565010.2.2.2.2.2.2.1), bp564963'', (hB565010.2.2.2.2.2.2.2.2)⟩, ht564984, ht564985, ht564986, ht564987, ht564988, ht564989, ht564990, ht564991, ht564992, ht564993, ht564994, ht564995, ht564996, ht564997, ht564998, ht564999, ht565000, ht565001, ht565002, ht565003, ht565004, ht565005, ht565006, ht565007, hB565011⟩
      have ac565106 : (fI (F565099 q564962) 9).toInt = p564969.toInt := by rw [he565102]; rfl
      have ac565107 : (fI (F565099 q564962) 10).toInt = p564970.toInt := by rw [he565102]; rfl
      have ac565108 : (fI (F565099 q564962) 32).toInt = p564963.toInt := by rw [he565102]; rfl
      have ac565109 : (fI (F565099 q564962) 30).toInt = 0 := by rw [he565102]; show Int32.toInt 0 = 0; decide
      exact G_iretA dr_cX17_end_29 rfl (Nat.le_of_ble_eq_true rfl) (Nat.le_of_ble_eq_true rfl) ⟨F565099, p564963, rfl, rfl, hT565105, hs565103, (Nat.le_of_ble_eq_true rfl), (Nat.le_of_ble_eq_true rfl), bp564963'', (by omega), (by omega), (by omega)⟩
    · have r565110 : p564981.toInt < p564963.toInt := gC_nle hc565097
      have bp564963'' : gB p564963 1 2147483647 := ⟨by omega, by omega⟩
      refine G_aload_n 0 dr_cX17_end_17 rfl ?_
      refine G_iconst 1 dr_cX17_end_18 (by decide +kernel) ?_
      have hT565111 : RS D I P564960 F565016 γ el := RS_set hT n565018 htq564962 (by decide) ⟨q564967, q564968, p564969, p564970, p564971, p564972, p564973, p564974, p564975, p564976, p564977, p564978, p564979, 0, p564981, p564982, p564983, he565019, ⟨bp564969, bp564970, (hB565010.2.2.1), (hB565010.2.2.2.1), (hB565010.2.2.2.2.1), (hB565010.2.2.2.2.2.1), (hB565010.2.2.2.2.2.2.1), bp564981, (hB565010.2.2.2.2.2.2.2.2)⟩, ht564984, ht564985, ht564986, ht564987, ht564988, ht564989, ht564990, ht564991, ht564992, ht564993, ht564994, ht564995, ht564996, ht564997, ht564998, ht564999, ht565000, ht565001, ht565002, ht565003, ht565004, ht565005, ht565006, ht565007, hB565011⟩
      have ac565112 : (fI (F565016 q564962) 9).toInt = p564969.toInt := by rw [he565019]; rfl
      have ac565113 : (fI (F565016 q564962) 10).toInt = p564970.toInt := by rw [he565019]; rfl
      have ac565114 : (fI (F565016 q564962) 32).toInt = p564981.toInt := by rw [he565019]; rfl
      have ac565115 : (fI (F565016 q564962) 30).toInt = 0 := by rw [he565019]; show Int32.toInt 0 = 0; decide
      refine Gw_callV (As := [.int 1]) (gV_ok D I) (ct_563559_SpillForgeModel_no l hl0 D I γ el P564960 F565016 q564962 1 hT565111 htq564962) dr_cX17_end_19 ⟨wr_7_191, wr_1_14, wr_7_194, by decide, rfl, (Nat.le_of_ble_eq_true rfl), (Nat.le_of_ble_eq_true rfl)⟩ wr_7_193 wr_p_73 hm564965 he565019 rfl (show 0 + 0 ≤ 0 by first | omega | decide) (show 0 + 0 ≤ 0 by first | omega | decide) (Nat.le_of_ble_eq_true rfl) (fun r565119 w565120 dc565116 ds565117 hp565118 => ?_) (fun _ _ _ _ _ z => z.elim)
      obtain ⟨F565125, rfl, rfl, hT565126, hs565127, hdc, hds, x565121, x565122, x565123, x565124⟩ := hp565118
      have hs565128 : rStr γ [] F564961 F565125 := rStr_tr hs565020 hs565127
      rw [show Int32.toInt 1 = 1 from by decide] at x565124
      change G _ _ _ _ _ _ _ (.int 0 :: _) _ _ _
      refine G_widen (cs' := 0) (sl' := 0) (by omega) (by omega) ?_
      have hm565129 : q564962 ∈ P564960 := RS_m hT565126 htq564962 (by decide)
      refine rk10_e (show rk_10 γ (F565125 q564962) from RS_o hT565126 htq564962) (fun q565131 q565132 p565133 p565134 p565135 p565136 p565137 p565138 p565139 p565140 p565141 p565142 p565143 p565144 p565145 p565146 p565147 he565130 hB565174 ht565148 ht565149 ht565150 ht565151 ht565152 ht565153 ht565154 ht565155 ht565156 ht565157 ht565158 ht565159 ht565160 ht565161 ht565162 ht565163 ht565164 ht565165 ht565166 ht565167 ht565168 ht565169 ht565170 ht565171 hB565175 => ?_)
      have ac565176 : (fI (F565125 q564962) 9).toInt = p565133.toInt := by rw [he565130]; rfl
      have bp565133 : gB p565133 0 1 := (hB565174.1)
      have ac565177 : (fI (F565125 q564962) 10).toInt = p565134.toInt := by rw [he565130]; rfl
      have bp565134 : gB p565134 0 1 := (hB565174.2.1)
      have ac565178 : (fI (F565125 q564962) 32).toInt = p565145.toInt := by rw [he565130]; rfl
      have bp565145 : gB p565145 0 8192 := (hB565174.2.2.2.2.2.2.2.1)
      have ac565179 : (fI (F565125 q564962) 30).toInt = p565144.toInt := by rw [he565130]; rfl
      have bp565144 : gB p565144 (-2147483648) 2147483647 := (gB_any p565144)
      have ac565180 : (fI (F565125 q564962) 9).toInt = p565133.toInt := by rw [he565130]; rfl
      have ac565181 : (fI (F565125 q564962) 10).toInt = p565134.toInt := by rw [he565130]; rfl
      have ac565182 : (fI (F565125 q564962) 32).toInt = p565145.toInt := by rw [he565130]; rfl
      have ac565183 : (fI (F565125 q564962) 30).toInt = p565144.toInt := by rw [he565130]; rfl
      exact G_iretA dr_cX17_end_22 rfl (Nat.le_of_ble_eq_true rfl) (Nat.le_of_ble_eq_true rfl) ⟨F565125, 0, rfl, rfl, hT565126, hs565128, (Nat.le_of_ble_eq_true rfl), (Nat.le_of_ble_eq_true rfl), (gB_w (gBl (show Int32.toInt 0 = 0 by decide)) (by decide) (by decide)), (by have qa0 : Int32.toInt 0 = 0 := (by decide); omega), (by have qa0 : Int32.toInt 0 = 0 := (by decide); omega), (by have qa0 : Int32.toInt 0 = 0 := (by decide); omega)⟩
abbrev ky_565968_SpillForgeModel_step : gKey := (cX17_step, 4, "SpillForgeModel", (some FieldType.int), [], "step", fun _ _ => True)
def pt_565968_SpillForgeModel_step (D : va_G) (I : FieldType → ClassId) (γ el : Nat → Nat → Nat) (P565964 : List Nat) (F565965 : Nat → va_E) (q565966 : Nat) (q565967 : Nat) : Option Value → va_W → Nat → Nat → Prop := fun r w dc ds => ∃ (F566253 : Nat → va_E) (o566252 : Int32), r = some (.int o566252) ∧ w = va_pl P565964 F566253 ∧ RS D I P565964 F566253 γ el ∧ rStr γ [] F565965 F566253 ∧ dc ≤ 0 ∧ ds ≤ 0 ∧ gB o566252 (-1) 5 ∧ (fI (F566253 q565966) 26).toInt = (fI (F565965 q565966) 26).toInt ∧ (fI (F566253 q565966) 9).toInt = (fI (F565965 q565966) 9).toInt ∧ (fI (F566253 q565966) 10).toInt = (fI (F565965 q565966) 10).toInt ∧ (fI (F566253 q565966) 32).toInt = (fI (F565965 q565966) 32).toInt
set_option maxRecDepth 100000 in
set_option maxHeartbeats 4000000 in
theorem ct_565968_SpillForgeModel_step (l : Launch) (hl0 : l.stackTraces = false) (D : va_G) (I : FieldType → ClassId) (γ el : Nat → Nat → Nat) (P565964 : List Nat) (F565965 : Nat → va_E) (q565966 : Nat) (q565967 : Nat) (hT : RS D I P565964 F565965 γ el) (htq565966 : rKd γ q565966 10) (htq565967 : rKd γ q565967 1) : CtA (gV D I) l yX17_step cX17_step 4 (some FieldType.int) 1 23 0 0 [.ref q565966, .ref q565967] (va_pl P565964 F565965) (pt_565968_SpillForgeModel_step D I γ el P565964 F565965 q565966 q565967) gNA := by
  refine CtA_of hl0 (by decide) (Nat.le_of_ble_eq_true rfl) ?_
  have hm565969 : q565966 ∈ P565964 := RS_m hT htq565966 (by decide)
  refine rk10_e (show rk_10 γ (F565965 q565966) from RS_o hT htq565966) (fun q565971 q565972 p565973 p565974 p565975 p565976 p565977 p565978 p565979 p565980 p565981 p565982 p565983 p565984 p565985 p565986 p565987 he565970 hB566014 ht565988 ht565989 ht565990 ht565991 ht565992 ht565993 ht565994 ht565995 ht565996 ht565997 ht565998 ht565999 ht566000 ht566001 ht566002 ht566003 ht566004 ht566005 ht566006 ht566007 ht566008 ht566009 ht566010 ht566011 hB566015 => ?_)
  have ac566016 : (fI (F565965 q565966) 26).toInt = p565982.toInt := by rw [he565970]; rfl
  have bp565982 : gB p565982 0 100000 := (hB566014.2.2.2.2.2.1)
  have ac566017 : (fI (F565965 q565966) 9).toInt = p565973.toInt := by rw [he565970]; rfl
  have bp565973 : gB p565973 0 1 := (hB566014.1)
  have ac566018 : (fI (F565965 q565966) 10).toInt = p565974.toInt := by rw [he565970]; rfl
  have bp565974 : gB p565974 0 1 := (hB566014.2.1)
  have ac566019 : (fI (F565965 q565966) 32).toInt = p565985.toInt := by rw [he565970]; rfl
  have bp565985 : gB p565985 0 8192 := (hB566014.2.2.2.2.2.2.2.1)
  refine G_aload_n 1 dr_cX17_step_0 rfl ?_
  have hm566020 : q565967 ∈ P565964 := RS_m hT htq565967 (by decide)
  obtain ⟨p566022, p566023, p566024, p566025, p566026, p566027, p566028, he566021, bp566022, bp566023, bp566026, bp566027, bp566028, r566029, r566030, r566031, r566032, r566033⟩ := show rk_1 γ q565967 (F565965 q565967) from RS_o hT htq565967
  have bp566024 := gB_any p566024
  have bp566025 := gB_any p566025
  refine Gp_get 0 hm566020 he566021 dr_cX17_step_1 (gk_X15 D I) (Nat.le_of_ble_eq_true rfl) wr_9_177 rfl ?_
  by_cases hs566034 : p566022 = 0
  · have ehs566034 : p566022.toInt = 0 := gj_eq hs566034 (show Int32.toInt 0 = 0 by decide)
    have bp566022' : gB p566022 0 0 := ⟨by omega, by omega⟩
    refine G_eqi (y := 0) hs566034 ?_
    refine G_lookup 198 dr_cX17_step_4 (by decide) (by first | rfl | decide) (by decide) ?_
    refine G_aload_n 0 dr_cX17_step_198 rfl ?_
    refine Gp_get 20 hm565969 he565970 dr_cX17_step_199 (gk_X17 D I) (Nat.le_of_ble_eq_true rfl) wr_7_94 rfl ?_
    refine G_aload_n 1 dr_cX17_step_202 rfl ?_
    refine Gp_get 1 hm566020 he566021 dr_cX17_step_203 (gk_X15 D I) (Nat.le_of_ble_eq_true rfl) wr_9_182 rfl ?_
    refine G_aload_n 0 dr_cX17_step_206 rfl ?_
    refine G_aload_n 1 dr_cX17_step_207 rfl ?_
    refine Gp_get 5 hm566020 he566021 dr_cX17_step_208 (gk_X15 D I) (Nat.le_of_ble_eq_true rfl) wr_9_197 rfl ?_
    refine G_aload_n 1 dr_cX17_step_211 rfl ?_
    refine Gp_get 2 hm566020 he566021 dr_cX17_step_212 (gk_X15 D I) (Nat.le_of_ble_eq_true rfl) wr_9_186 rfl ?_
    refine Gw_callV (As := [.int p566027, .int p566024]) (gV_ok D I) (ct_7383_SpillForgeModel_value l hl0 D I γ el P565964 F565965 q565966 p566027 p566024 hT htq565966 bp566027 (by omega)) dr_cX17_step_215 ⟨wr_11_100, wr_1_14, wr_11_103, by decide, rfl, (Nat.le_of_ble_eq_true rfl), (Nat.le_of_ble_eq_true rfl)⟩ wr_11_102 wr_p_115 hm565969 he565970 rfl (show 0 + 0 ≤ 0 by first | omega | decide) (show 0 + 0 ≤ 0 by first | omega | decide) (Nat.le_of_ble_eq_true rfl) (fun r566038 w566039 dc566035 ds566036 hp566037 => ?_) (fun _ _ _ _ _ z => z.elim)
    obtain ⟨o566040, rfl, rfl, hdc, hds⟩ := hp566037
    have bo566040 := gB_any o566040
    change G _ _ _ _ _ _ _ (.int o566040 :: _) _ _ _
    refine G_widen (cs' := 0) (sl' := 0) (by omega) (by omega) ?_
    have hm566041 : (γ 9 20) ∈ P565964 := RS_m hT ht566004 (by decide)
    obtain ⟨f566043, he566042⟩ := show rk_22 I (F565965 (γ 9 20)) from RS_o hT ht566004
    refine Gp_iast 0 hm566041 he566042 dr_cX17_step_218 rfl (gB_in bp566023 (by decide) (by decide)) (fun F566044 e566045 n566046 => ?_)
    obtain ⟨f566047, hf566047⟩ : ∃ z, z = upd f566043 p566023.toNatClampNeg o566040 := ⟨_, rfl⟩
    rw [← hf566047] at e566045
    have he566048 : F566044 q565966 = .inr (22, [.ref (γ 9 0), .ref (γ 9 1), .ref (γ 9 2), .ref (γ 9 3), .ref (γ 9 4), .ref (γ 9 5), .ref (γ 9 6), .ref (γ 9 7), .ref (γ 9 8), .int p565973, .int p565974, .int p565975, .int p565976, .int p565977, .int p565978, .ref (γ 9 15), .ref (γ 9 16), .ref (γ 9 17), .ref (γ 9 18), .ref (γ 9 19), .ref (γ 9 20), .ref (γ 9 21), .ref (γ 9 22), .int p565979, .int p565980, .int p565981, .int p565982, .int p565983, .ref q565971, .ref (γ 9 29), .int p565984, .ref (γ 9 31), .int p565985, .int p565986, .int p565987, .ref q565972]) := (n566046 q565966 (rn_oa he565970 he566042)).trans he565970
    have he566049 : F566044 q565967 = .inr (20, [.int p566022, .int p566023, .int p566024, .int p566025, .int p566026, .int p566027, .int p566028]) := (n566046 q565967 (rn_oa he566021 he566042)).trans he566021
    have he566050 : F566044 (γ 9 20) = .inl (I .int, 2000, .inl f566047) := e566045
    have hs566051 : rStr γ [] F565965 F566044 := rStr_put (rStr_rf (γ := γ) (W := []) (F := F565965)) n566046 ht566004 (by decide)
    refine G_iconst (-1) dr_cX17_step_219 (by decide +kernel) ?_
    have hT566052 : RS D I P565964 F566044 γ el := RS_set hT n566046 ht566004 (by decide) ⟨f566047, he566050⟩
    have ac566053 : (fI (F566044 q565966) 26).toInt = p565982.toInt := by rw [he566048]; rfl
    have ac566054 : (fI (F566044 q565966) 9).toInt = p565973.toInt := by rw [he566048]; rfl
    have ac566055 : (fI (F566044 q565966) 10).toInt = p565974.toInt := by rw [he566048]; rfl
    have ac566056 : (fI (F566044 q565966) 32).toInt = p565985.toInt := by rw [he566048]; rfl
    exact G_iretA dr_cX17_step_220 rfl (Nat.le_of_ble_eq_true rfl) (Nat.le_of_ble_eq_true rfl) ⟨F566044, (-1), rfl, rfl, hT566052, hs566051, (Nat.le_of_ble_eq_true rfl), (Nat.le_of_ble_eq_true rfl), (gB_w (gBl (show Int32.toInt (-1) = (-1) by decide)) (by decide) (by decide)), (by have qa0 : Int32.toInt (-1) = (-1) := (by decide); omega), (by have qa0 : Int32.toInt (-1) = (-1) := (by decide); omega), (by have qa0 : Int32.toInt (-1) = (-1) := (by decide); omega), (by have qa0 : Int32.toInt (-1) = (-1) := (by decide); omega)⟩
  by_cases hs566057 : p566022 = 20
  · have ehs566057 : p566022.toInt = 20 := gj_eq hs566057 (show Int32.toInt 20 = 20 by decide)
    have bp566022' : gB p566022 20 20 := ⟨by omega, by omega⟩
    refine G_eqi (y := 20) hs566057 ?_
    refine G_lookup 56 dr_cX17_step_4 (by decide) (by first | rfl | decide) (by decide) ?_
    refine G_aload_n 0 dr_cX17_step_56 rfl ?_
    refine Gp_get 20 hm565969 he565970 dr_cX17_step_57 (gk_X17 D I) (Nat.le_of_ble_eq_true rfl) wr_7_94 rfl ?_
    refine G_aload_n 1 dr_cX17_step_60 rfl ?_
    refine Gp_get 1 hm566020 he566021 dr_cX17_step_61 (gk_X15 D I) (Nat.le_of_ble_eq_true rfl) wr_9_182 rfl ?_
    refine G_aload_n 0 dr_cX17_step_64 rfl ?_
    refine Gp_get 27 hm565969 he565970 dr_cX17_step_65 (gk_X17 D I) (Nat.le_of_ble_eq_true rfl) wr_7_101 rfl ?_
    have bp565983 : gB p565983 0 2048 := (hB566014.2.2.2.2.2.2.1)
    refine G_aload_n 0 dr_cX17_step_68 rfl ?_
    refine Gp_get 28 hm565969 he565970 dr_cX17_step_69 (gk_X17 D I) (Nat.le_of_ble_eq_true rfl) wr_7_102 rfl ?_
    have hm566058 : q565971 ∈ P565964 := RS_m hT ht565988 (by decide)
    obtain ⟨n566061, f566060, he566059, hn566061⟩ := show rk_26 I (F565965 q565971) from RS_o hT ht565988
    refine Gp_alen (Int32.ofNat n566061) 0 hm566058 he566059 dr_cX17_step_72 rfl rfl (G_nam fun z566062 hz566062 => ?_)
    have ez566062 : z566062.toInt = (n566061 : Nat) := gI_ofM hz566062 (by omega)
    have bz566062 : gB z566062 0 16777216 := ⟨by omega, by omega⟩
    refine G_icmp_ge 88 dr_cX17_step_73 (by decide +kernel) (fun hc566063 => ?_) (fun hc566063 => ?_)
    · have r566064 : z566062.toInt ≤ p565983.toInt := gC_le hc566063
      have bz566062' : gB z566062 0 2048 := ⟨by omega, by omega⟩
      refine G_iconst 0 dr_cX17_step_88 (by decide +kernel) ?_
      have hm566065 : (γ 9 20) ∈ P565964 := RS_m hT ht566004 (by decide)
      obtain ⟨f566067, he566066⟩ := show rk_22 I (F565965 (γ 9 20)) from RS_o hT ht566004
      refine Gp_iast 0 hm566065 he566066 dr_cX17_step_89 rfl (gB_in bp566023 (by decide) (by decide)) (fun F566068 e566069 n566070 => ?_)
      obtain ⟨f566071, hf566071⟩ : ∃ z, z = upd f566067 p566023.toNatClampNeg 0 := ⟨_, rfl⟩
      rw [← hf566071] at e566069
      have he566072 : F566068 q565966 = .inr (22, [.ref (γ 9 0), .ref (γ 9 1), .ref (γ 9 2), .ref (γ 9 3), .ref (γ 9 4), .ref (γ 9 5), .ref (γ 9 6), .ref (γ 9 7), .ref (γ 9 8), .int p565973, .int p565974, .int p565975, .int p565976, .int p565977, .int p565978, .ref (γ 9 15), .ref (γ 9 16), .ref (γ 9 17), .ref (γ 9 18), .ref (γ 9 19), .ref (γ 9 20), .ref (γ 9 21), .ref (γ 9 22), .int p565979, .int p565980, .int p565981, .int p565982, .int p565983, .ref q565971, .ref (γ 9 29), .int p565984, .ref (γ 9 31), .int p565985, .int p565986, .int p565987, .ref q565972]) := (n566070 q565966 (rn_oa he565970 he566066)).trans he565970
      have he566073 : F566068 q565967 = .inr (20, [.int p566022, .int p566023, .int p566024, .int p566025, .int p566026, .int p566027, .int p566028]) := (n566070 q565967 (rn_oa he566021 he566066)).trans he566021
      have he566074 : F566068 q565971 = .inl (I .int, n566061, .inl f566060) := (n566070 q565971 (rn_ty ht565988 ht566004 (by decide))).trans he566059
      have he566075 : F566068 (γ 9 20) = .inl (I .int, 2000, .inl f566071) := e566069
      have hs566076 : rStr γ [] F565965 F566068 := rStr_put (rStr_rf (γ := γ) (W := []) (F := F565965)) n566070 ht566004 (by decide)
      refine G_aload_n 0 dr_cX17_step_90 rfl ?_
      refine G_aload_n 0 dr_cX17_step_91 rfl ?_
      refine Gp_get 27 hm565969 he566072 dr_cX17_step_92 (gk_X17 D I) (Nat.le_of_ble_eq_true rfl) wr_7_101 rfl ?_
      refine G_iconst 1 dr_cX17_step_95 (by decide +kernel) ?_
      refine G_iadd dr_cX17_step_96 (G_nam fun z566077 hz566077 => ?_)
      have ez566077 : z566077.toInt = p565983.toInt + 1 := by rw [gI_add hz566077 bp565983 (gBl (show Int32.toInt 1 = 1 by decide)) (by decide) (by decide), show Int32.toInt 1 = 1 from by decide]
      have bz566077 : gB z566077 1 2049 := gB_add (gI_add hz566077 bp565983 (gBl (show Int32.toInt 1 = 1 by decide)) (by decide) (by decide)) bp565983 (gBl (show Int32.toInt 1 = 1 by decide)) (by decide) (by decide)
      refine G_aload_n 0 dr_cX17_step_97 rfl ?_
      refine Gp_get 28 hm565969 he566072 dr_cX17_step_98 (gk_X17 D I) (Nat.le_of_ble_eq_true rfl) wr_7_102 rfl ?_
      refine Gp_alen (Int32.ofNat n566061) 0 hm566058 he566074 dr_cX17_step_101 rfl rfl (G_nam fun z566078 hz566078 => ?_)
      have ez566078 : z566078.toInt = (n566061 : Nat) := gI_ofM hz566078 (by omega)
      have bz566078 : gB z566078 0 16777216 := ⟨by omega, by omega⟩
      refine G_mmin dr_cX17_step_102 wr_11_20 wr_3_227 wr_1_6 wr_3_228 (Nat.le_of_ble_eq_true rfl) (Nat.le_of_ble_eq_true rfl) (show 0 ≤ 0 by first | omega | decide) (show 0 ≤ 0 by first | omega | decide) (G_nam fun z566079 hz566079 => ?_)
      have ez566079 : z566077.toInt ≥ z566079.toInt ∧ z566078.toInt ≥ z566079.toInt ∧ (z566079.toInt = z566077.toInt ∨ z566079.toInt = z566078.toInt) := by have := gI_min hz566079; omega
      have bz566079 : gB z566079 0 2049 := ⟨by omega, by omega⟩
      have hT566080 : RS D I P565964 F566068 γ el := RS_set hT n566070 ht566004 (by decide) ⟨f566071, he566075⟩
      refine Gp_put 27 hm565969 he566072 dr_cX17_step_105 (gk_X17 D I) (Nat.le_of_ble_eq_true rfl) wr_7_101 rfl rfl rfl (Nat.le_of_ble_eq_true rfl) (fun F566081 e566082 n566083 => ?_)
      have he566084 : F566081 q565967 = .inr (20, [.int p566022, .int p566023, .int p566024, .int p566025, .int p566026, .int p566027, .int p566028]) := (n566083 q565967 (rn_oo he566073 he566072 (by decide))).trans he566073
      have he566085 : F566081 q565971 = .inl (I .int, n566061, .inl f566060) := (n566083 q565971 (rn_ao he566074 he566072)).trans he566074
      have he566086 : F566081 (γ 9 20) = .inl (I .int, 2000, .inl f566071) := (n566083 (γ 9 20) (rn_ao he566075 he566072)).trans he566075
      have he566087 : F566081 q565966 = .inr (22, [.ref (γ 9 0), .ref (γ 9 1), .ref (γ 9 2), .ref (γ 9 3), .ref (γ 9 4), .ref (γ 9 5), .ref (γ 9 6), .ref (γ 9 7), .ref (γ 9 8), .int p565973, .int p565974, .int p565975, .int p565976, .int p565977, .int p565978, .ref (γ 9 15), .ref (γ 9 16), .ref (γ 9 17), .ref (γ 9 18), .ref (γ 9 19), .ref (γ 9 20), .ref (γ 9 21), .ref (γ 9 22), .int p565979, .int p565980, .int p565981, .int p565982, .int z566079, .ref q565971, .ref (γ 9 29), .int p565984, .ref (γ 9 31), .int p565985, .int p565986, .int p565987, .ref q565972]) := e566082
      have hs566088 : rStr γ [] F565965 F566081 := rStr_put hs566076 n566083 htq565966 (by decide)
      refine G_iconst (-1) dr_cX17_step_108 (by decide +kernel) ?_
      have hT566089 : RS D I P565964 F566081 γ el := RS_set hT566080 n566083 htq565966 (by decide) ⟨q565971, q565972, p565973, p565974, p565975, p565976, p565977, p565978, p565979, p565980, p565981, p565982, z566079, p565984, p565985, p565986, p565987, he566087, ⟨bp565973, bp565974, (hB566014.2.2.1), (hB566014.2.2.2.1), (hB566014.2.2.2.2.1), bp565982, ⟨by omega, by omega⟩, bp565985, (hB566014.2.2.2.2.2.2.2.2)⟩, ht565988, ht565989, ht565990, ht565991, ht565992, ht565993, ht565994, ht565995, ht565996, ht565997, ht565998, ht565999, ht566000, ht566001, ht566002, ht566003, ht566004, ht566005, ht566006, ht566007, ht566008, ht566009, ht566010, ht566011, hB566015⟩
      have ac566090 : (fI (F566081 q565966) 26).toInt = p565982.toInt := by rw [he566087]; rfl
      have ac566091 : (fI (F566081 q565966) 9).toInt = p565973.toInt := by rw [he566087]; rfl
      have ac566092 : (fI (F566081 q565966) 10).toInt = p565974.toInt := by rw [he566087]; rfl
      have ac566093 : (fI (F566081 q565966) 32).toInt = p565985.toInt := by rw [he566087]; rfl
      exact G_iretA dr_cX17_step_109 rfl (Nat.le_of_ble_eq_true rfl) (Nat.le_of_ble_eq_true rfl) ⟨F566081, (-1), rfl, rfl, hT566089, hs566088, (Nat.le_of_ble_eq_true rfl), (Nat.le_of_ble_eq_true rfl), (gB_w (gBl (show Int32.toInt (-1) = (-1) by decide)) (by decide) (by decide)), (by have qa0 : Int32.toInt (-1) = (-1) := (by decide); omega), (by have qa0 : Int32.toInt (-1) = (-1) := (by decide); omega), (by have qa0 : Int32.toInt (-1) = (-1) := (by decide); omega), (by have qa0 : Int32.toInt (-1) = (-1) := (by decide); omega)⟩
    · have r566094 : p565983.toInt < z566062.toInt := gC_nle hc566063
      have bz566062' : gB z566062 1 16777216 := ⟨by omega, by omega⟩
      refine G_aload_n 0 dr_cX17_step_76 rfl ?_
      refine Gp_get 28 hm565969 he565970 dr_cX17_step_77 (gk_X17 D I) (Nat.le_of_ble_eq_true rfl) wr_7_102 rfl ?_
      refine G_aload_n 0 dr_cX17_step_80 rfl ?_
      refine Gp_get 27 hm565969 he565970 dr_cX17_step_81 (gk_X17 D I) (Nat.le_of_ble_eq_true rfl) wr_7_101 rfl ?_
      refine Gp_iald 0 hm566058 he566059 dr_cX17_step_84 rfl (gB_inr (by omega) (by omega)) (G_nam fun z566095 hz566095 => ?_)
      have bz566095 : gB z566095 (-2147483648) 2147483647 := gB_any z566095
      refine G_goto 89 dr_cX17_step_85 (by decide +kernel) ?_
      have hm566096 : (γ 9 20) ∈ P565964 := RS_m hT ht566004 (by decide)
      obtain ⟨f566098, he566097⟩ := show rk_22 I (F565965 (γ 9 20)) from RS_o hT ht566004
      refine Gp_iast 0 hm566096 he566097 dr_cX17_step_89 rfl (gB_in bp566023 (by decide) (by decide)) (fun F566099 e566100 n566101 => ?_)
      obtain ⟨f566102, hf566102⟩ : ∃ z, z = upd f566098 p566023.toNatClampNeg z566095 := ⟨_, rfl⟩
      rw [← hf566102] at e566100
      have he566103 : F566099 q565966 = .inr (22, [.ref (γ 9 0), .ref (γ 9 1), .ref (γ 9 2), .ref (γ 9 3), .ref (γ 9 4), .ref (γ 9 5), .ref (γ 9 6), .ref (γ 9 7), .ref (γ 9 8), .int p565973, .int p565974, .int p565975, .int p565976, .int p565977, .int p565978, .ref (γ 9 15), .ref (γ 9 16), .ref (γ 9 17), .ref (γ 9 18), .ref (γ 9 19), .ref (γ 9 20), .ref (γ 9 21), .ref (γ 9 22), .int p565979, .int p565980, .int p565981, .int p565982, .int p565983, .ref q565971, .ref (γ 9 29), .int p565984, .ref (γ 9 31), .int p565985, .int p565986, .int p565987, .ref q565972]) := (n566101 q565966 (rn_oa he565970 he566097)).trans he565970
      have he566104 : F566099 q565967 = .inr (20, [.int p566022, .int p566023, .int p566024, .int p566025, .int p566026, .int p566027, .int p566028]) := (n566101 q565967 (rn_oa he566021 he566097)).trans he566021
      have he566105 : F566099 q565971 = .inl (I .int, n566061, .inl f566060) := (n566101 q565971 (rn_ty ht565988 ht566004 (by decide))).trans he566059
      have he566106 : F566099 (γ 9 20) = .inl (I .int, 2000, .inl f566102) := e566100
      have hs566107 : rStr γ [] F565965 F566099 := rStr_put (rStr_rf (γ := γ) (W := []) (F := F565965)) n566101 ht566004 (by decide)
      refine G_aload_n 0 dr_cX17_step_90 rfl ?_
      refine G_aload_n 0 dr_cX17_step_91 rfl ?_
      refine Gp_get 27 hm565969 he566103 dr_cX17_step_92 (gk_X17 D I) (Nat.le_of_ble_eq_true rfl) wr_7_101 rfl ?_
      refine G_iconst 1 dr_cX17_step_95 (by decide +kernel) ?_
      refine G_iadd dr_cX17_step_96 (G_nam fun z566108 hz566108 => ?_)
      have ez566108 : z566108.toInt = p565983.toInt + 1 := by rw [gI_add hz566108 bp565983 (gBl (show Int32.toInt 1 = 1 by decide)) (by decide) (by decide), show Int32.toInt 1 = 1 from by decide]
      have bz566108 : gB z566108 1 2049 := gB_add (gI_add hz566108 bp565983 (gBl (show Int32.toInt 1 = 1 by decide)) (by decide) (by decide)) bp565983 (gBl (show Int32.toInt 1 = 1 by decide)) (by decide) (by decide)
      refine G_aload_n 0 dr_cX17_step_97 rfl ?_
      refine Gp_get 28 hm565969 he566103 dr_cX17_step_98 (gk_X17 D I) (Nat.le_of_ble_eq_true rfl) wr_7_102 rfl ?_
      refine Gp_alen (Int32.ofNat n566061) 0 hm566058 he566105 dr_cX17_step_101 rfl rfl (G_nam fun z566109 hz566109 => ?_)
      have ez566109 : z566109.toInt = (n566061 : Nat) := gI_ofM hz566109 (by omega)
      have bz566109 : gB z566109 0 16777216 := ⟨by omega, by omega⟩
      refine G_mmin dr_cX17_step_102 wr_11_20 wr_3_227 wr_1_6 wr_3_228 (Nat.le_of_ble_eq_true rfl) (Nat.le_of_ble_eq_true rfl) (show 0 ≤ 0 by first | omega | decide) (show 0 ≤ 0 by first | omega | decide) (G_nam fun z566110 hz566110 => ?_)
      have ez566110 : z566108.toInt ≥ z566110.toInt ∧ z566109.toInt ≥ z566110.toInt ∧ (z566110.toInt = z566108.toInt ∨ z566110.toInt = z566109.toInt) := by have := gI_min hz566110; omega
      have bz566110 : gB z566110 0 2049 := ⟨by omega, by omega⟩
      have hT566111 : RS D I P565964 F566099 γ el := RS_set hT n566101 ht566004 (by decide) ⟨f566102, he566106⟩
      refine Gp_put 27 hm565969 he566103 dr_cX17_step_105 (gk_X17 D I) (Nat.le_of_ble_eq_true rfl) wr_7_101 rfl rfl rfl (Nat.le_of_ble_eq_true rfl) (fun F566112 e566113 n566114 => ?_)
      have he566115 : F566112 q565967 = .inr (20, [.int p566022, .int p566023, .int p566024, .int p566025, .int p566026, .int p566027, .int p566028]) := (n566114 q565967 (rn_oo he566104 he566103 (by decide))).trans he566104
      have he566116 : F566112 q565971 = .inl (I .int, n566061, .inl f566060) := (n566114 q565971 (rn_ao he566105 he566103)).trans he566105
      have he566117 : F566112 (γ 9 20) = .inl (I .int, 2000, .inl f566102) := (n566114 (γ 9 20) (rn_ao he566106 he566103)).trans he566106
      have he566118 : F566112 q565966 = .inr (22, [.ref (γ 9 0), .ref (γ 9 1), .ref (γ 9 2), .ref (γ 9 3), .ref (γ 9 4), .ref (γ 9 5), .ref (γ 9 6), .ref (γ 9 7), .ref (γ 9 8), .int p565973, .int p565974, .int p565975, .int p565976, .int p565977, .int p565978, .ref (γ 9 15), .ref (γ 9 16), .ref (γ 9 17), .ref (γ 9 18), .ref (γ 9 19), .ref (γ 9 20), .ref (γ 9 21), .ref (γ 9 22), .int p565979, .int p565980, .int p565981, .int p565982, .int z566110, .ref q565971, .ref (γ 9 29), .int p565984, .ref (γ 9 31), .int p565985, .int p565986, .int p565987, .ref q565972]) := e566113
      have hs566119 : rStr γ [] F565965 F566112 := rStr_put hs566107 n566114 htq565966 (by decide)
      refine G_iconst (-1) dr_cX17_step_108 (by decide +kernel) ?_
      have hT566120 : RS D I P565964 F566112 γ el := RS_set hT566111 n566114 htq565966 (by decide) ⟨q565971, q565972, p565973, p565974, p565975, p565976, p565977, p565978, p565979, p565980, p565981, p565982, z566110, p565984, p565985, p565986, p565987, he566118, ⟨bp565973, bp565974, (hB566014.2.2.1), (hB566014.2.2.2.1), (hB566014.2.2.2.2.1), bp565982, ⟨by omega, by omega⟩, bp565985, (hB566014.2.2.2.2.2.2.2.2)⟩, ht565988, ht565989, ht565990, ht565991, ht565992, ht565993, ht565994, ht565995, ht565996, ht565997, ht565998, ht565999, ht566000, ht566001, ht566002, ht566003, ht566004, ht566005, ht566006, ht566007, ht566008, ht566009, ht566010, ht566011, hB566015⟩
      have ac566121 : (fI (F566112 q565966) 26).toInt = p565982.toInt := by rw [he566118]; rfl
      have ac566122 : (fI (F566112 q565966) 9).toInt = p565973.toInt := by rw [he566118]; rfl
      have ac566123 : (fI (F566112 q565966) 10).toInt = p565974.toInt := by rw [he566118]; rfl
      have ac566124 : (fI (F566112 q565966) 32).toInt = p565985.toInt := by rw [he566118]; rfl
      exact G_iretA dr_cX17_step_109 rfl (Nat.le_of_ble_eq_true rfl) (Nat.le_of_ble_eq_true rfl) ⟨F566112, (-1), rfl, rfl, hT566120, hs566119, (Nat.le_of_ble_eq_true rfl), (Nat.le_of_ble_eq_true rfl), (gB_w (gBl (show Int32.toInt (-1) = (-1) by decide)) (by decide) (by decide)), (by have qa0 : Int32.toInt (-1) = (-1) := (by decide); omega), (by have qa0 : Int32.toInt (-1) = (-1) := (by decide); omega), (by have qa0 : Int32.toInt (-1) = (-1) := (by decide); omega), (by have qa0 : Int32.toInt (-1) = (-1) := (by decide); omega)⟩
  by_cases hs566125 : p566022 = 21
  · have ehs566125 : p566022.toInt = 21 := gj_eq hs566125 (show Int32.toInt 21 = 21 by decide)
    have bp566022' : gB p566022 21 21 := ⟨by omega, by omega⟩
    refine G_eqi (y := 21) hs566125 ?_
    refine G_lookup 155 dr_cX17_step_4 (by decide) (by first | rfl | decide) (by decide) ?_
    refine G_aload_n 0 dr_cX17_step_155 rfl ?_
    refine Gp_get 20 hm565969 he565970 dr_cX17_step_156 (gk_X17 D I) (Nat.le_of_ble_eq_true rfl) wr_7_94 rfl ?_
    refine G_aload_n 1 dr_cX17_step_159 rfl ?_
    refine Gp_get 1 hm566020 he566021 dr_cX17_step_160 (gk_X15 D I) (Nat.le_of_ble_eq_true rfl) wr_9_182 rfl ?_
    refine G_aload_n 0 dr_cX17_step_163 rfl ?_
    refine Gp_get 21 hm565969 he565970 dr_cX17_step_164 (gk_X17 D I) (Nat.le_of_ble_eq_true rfl) wr_7_95 rfl ?_
    refine G_aload_n 1 dr_cX17_step_167 rfl ?_
    refine Gp_get 4 hm566020 he566021 dr_cX17_step_168 (gk_X15 D I) (Nat.le_of_ble_eq_true rfl) wr_9_193 rfl ?_
    have hm566126 : (γ 9 21) ∈ P565964 := RS_m hT ht566005 (by decide)
    obtain ⟨f566128, he566127⟩ := show rk_23 I (F565965 (γ 9 21)) from RS_o hT ht566005
    refine Gp_iald 0 hm566126 he566127 dr_cX17_step_171 rfl (gB_in bp566026 (by decide) (by decide)) (G_nam fun z566129 hz566129 => ?_)
    have bz566129 : gB z566129 (-2147483648) 2147483647 := gB_any z566129
    have hm566130 : (γ 9 20) ∈ P565964 := RS_m hT ht566004 (by decide)
    obtain ⟨f566132, he566131⟩ := show rk_22 I (F565965 (γ 9 20)) from RS_o hT ht566004
    refine Gp_iast 0 hm566130 he566131 dr_cX17_step_172 rfl (gB_in bp566023 (by decide) (by decide)) (fun F566133 e566134 n566135 => ?_)
    obtain ⟨f566136, hf566136⟩ : ∃ z, z = upd f566132 p566023.toNatClampNeg z566129 := ⟨_, rfl⟩
    rw [← hf566136] at e566134
    have he566137 : F566133 q565966 = .inr (22, [.ref (γ 9 0), .ref (γ 9 1), .ref (γ 9 2), .ref (γ 9 3), .ref (γ 9 4), .ref (γ 9 5), .ref (γ 9 6), .ref (γ 9 7), .ref (γ 9 8), .int p565973, .int p565974, .int p565975, .int p565976, .int p565977, .int p565978, .ref (γ 9 15), .ref (γ 9 16), .ref (γ 9 17), .ref (γ 9 18), .ref (γ 9 19), .ref (γ 9 20), .ref (γ 9 21), .ref (γ 9 22), .int p565979, .int p565980, .int p565981, .int p565982, .int p565983, .ref q565971, .ref (γ 9 29), .int p565984, .ref (γ 9 31), .int p565985, .int p565986, .int p565987, .ref q565972]) := (n566135 q565966 (rn_oa he565970 he566131)).trans he565970
    have he566138 : F566133 q565967 = .inr (20, [.int p566022, .int p566023, .int p566024, .int p566025, .int p566026, .int p566027, .int p566028]) := (n566135 q565967 (rn_oa he566021 he566131)).trans he566021
    have he566139 : F566133 (γ 9 21) = .inl (I .int, 2000, .inl f566128) := (n566135 (γ 9 21) (rn_ty ht566005 ht566004 (by decide))).trans he566127
    have he566140 : F566133 (γ 9 20) = .inl (I .int, 2000, .inl f566136) := e566134
    have hs566141 : rStr γ [] F565965 F566133 := rStr_put (rStr_rf (γ := γ) (W := []) (F := F565965)) n566135 ht566004 (by decide)
    refine G_iconst (-1) dr_cX17_step_173 (by decide +kernel) ?_
    have hT566142 : RS D I P565964 F566133 γ el := RS_set hT n566135 ht566004 (by decide) ⟨f566136, he566140⟩
    have ac566143 : (fI (F566133 q565966) 26).toInt = p565982.toInt := by rw [he566137]; rfl
    have ac566144 : (fI (F566133 q565966) 9).toInt = p565973.toInt := by rw [he566137]; rfl
    have ac566145 : (fI (F566133 q565966) 10).toInt = p565974.toInt := by rw [he566137]; rfl
    have ac566146 : (fI (F566133 q565966) 32).toInt = p565985.toInt := by rw [he566137]; rfl
    exact G_iretA dr_cX17_step_174 rfl (Nat.le_of_ble_eq_true rfl) (Nat.le_of_ble_eq_true rfl) ⟨F566133, (-1), rfl, rfl, hT566142, hs566141, (Nat.le_of_ble_eq_true rfl), (Nat.le_of_ble_eq_true rfl), (gB_w (gBl (show Int32.toInt (-1) = (-1) by decide)) (by decide) (by decide)), (by have qa0 : Int32.toInt (-1) = (-1) := (by decide); omega), (by have qa0 : Int32.toInt (-1) = (-1) := (by decide); omega), (by have qa0 : Int32.toInt (-1) = (-1) := (by decide); omega), (by have qa0 : Int32.toInt (-1) = (-1) := (by decide); omega)⟩
  by_cases hs566147 : p566022 = 22
  · have ehs566147 : p566022.toInt = 22 := gj_eq hs566147 (show Int32.toInt 22 = 22 by decide)
    have bp566022' : gB p566022 22 22 := ⟨by omega, by omega⟩
    refine G_eqi (y := 22) hs566147 ?_
    refine G_lookup 110 dr_cX17_step_4 (by decide) (by first | rfl | decide) (by decide) ?_
    refine G_aload_n 0 dr_cX17_step_110 rfl ?_
    refine Gp_get 25 hm565969 he565970 dr_cX17_step_111 (gk_X17 D I) (Nat.le_of_ble_eq_true rfl) wr_7_99 rfl ?_
    have bp565981 : gB p565981 0 512 := (hB566014.2.2.2.2.1)
    refine G_sipush 512 dr_cX17_step_114 (by decide +kernel) ?_
    refine G_icmp_ne 122 dr_cX17_step_117 (by decide +kernel) (fun hc566148 => ?_) (fun hc566148 => ?_)
    · have r566149 : p565981.toInt ≠ 512 := gj_neq hc566148 (show Int32.toInt 512 = 512 by decide)
      have bp565981' : gB p565981 0 511 := ⟨by omega, by omega⟩
      refine G_aload_n 0 dr_cX17_step_122 rfl ?_
      refine Gp_get 22 hm565969 he565970 dr_cX17_step_123 (gk_X17 D I) (Nat.le_of_ble_eq_true rfl) wr_7_96 rfl ?_
      refine G_aload_n 0 dr_cX17_step_126 rfl ?_
      refine Gp_get 25 hm565969 he565970 dr_cX17_step_127 (gk_X17 D I) (Nat.le_of_ble_eq_true rfl) wr_7_99 rfl ?_
      refine G_aload_n 0 dr_cX17_step_130 rfl ?_
      refine G_aload_n 1 dr_cX17_step_131 rfl ?_
      refine Gp_get 5 hm566020 he566021 dr_cX17_step_132 (gk_X15 D I) (Nat.le_of_ble_eq_true rfl) wr_9_197 rfl ?_
      refine G_aload_n 1 dr_cX17_step_135 rfl ?_
      refine Gp_get 2 hm566020 he566021 dr_cX17_step_136 (gk_X15 D I) (Nat.le_of_ble_eq_true rfl) wr_9_186 rfl ?_
      refine Gw_callV (As := [.int p566027, .int p566024]) (gV_ok D I) (ct_7383_SpillForgeModel_value l hl0 D I γ el P565964 F565965 q565966 p566027 p566024 hT htq565966 bp566027 (by omega)) dr_cX17_step_139 ⟨wr_11_100, wr_1_14, wr_11_103, by decide, rfl, (Nat.le_of_ble_eq_true rfl), (Nat.le_of_ble_eq_true rfl)⟩ wr_11_102 wr_p_115 hm565969 he565970 rfl (show 0 + 0 ≤ 0 by first | omega | decide) (show 0 + 0 ≤ 0 by first | omega | decide) (Nat.le_of_ble_eq_true rfl) (fun r566153 w566154 dc566150 ds566151 hp566152 => ?_) (fun _ _ _ _ _ z => z.elim)
      obtain ⟨o566155, rfl, rfl, hdc, hds⟩ := hp566152
      have bo566155 := gB_any o566155
      change G _ _ _ _ _ _ _ (.int o566155 :: _) _ _ _
      refine G_widen (cs' := 0) (sl' := 0) (by omega) (by omega) ?_
      have hm566156 : (γ 9 22) ∈ P565964 := RS_m hT ht566006 (by decide)
      obtain ⟨f566158, he566157⟩ := show rk_24 I (F565965 (γ 9 22)) from RS_o hT ht566006
      refine Gp_iast 0 hm566156 he566157 dr_cX17_step_142 rfl (gB_in bp565981' (by decide) (by decide)) (fun F566159 e566160 n566161 => ?_)
      obtain ⟨f566162, hf566162⟩ : ∃ z, z = upd f566158 p565981.toNatClampNeg o566155 := ⟨_, rfl⟩
      rw [← hf566162] at e566160
      have he566163 : F566159 q565966 = .inr (22, [.ref (γ 9 0), .ref (γ 9 1), .ref (γ 9 2), .ref (γ 9 3), .ref (γ 9 4), .ref (γ 9 5), .ref (γ 9 6), .ref (γ 9 7), .ref (γ 9 8), .int p565973, .int p565974, .int p565975, .int p565976, .int p565977, .int p565978, .ref (γ 9 15), .ref (γ 9 16), .ref (γ 9 17), .ref (γ 9 18), .ref (γ 9 19), .ref (γ 9 20), .ref (γ 9 21), .ref (γ 9 22), .int p565979, .int p565980, .int p565981, .int p565982, .int p565983, .ref q565971, .ref (γ 9 29), .int p565984, .ref (γ 9 31), .int p565985, .int p565986, .int p565987, .ref q565972]) := (n566161 q565966 (rn_oa he565970 he566157)).trans he565970
      have he566164 : F566159 q565967 = .inr (20, [.int p566022, .int p566023, .int p566024, .int p566025, .int p566026, .int p566027, .int p566028]) := (n566161 q565967 (rn_oa he566021 he566157)).trans he566021
      have he566165 : F566159 (γ 9 22) = .inl (I .int, 512, .inl f566162) := e566160
      have hs566166 : rStr γ [] F565965 F566159 := rStr_put (rStr_rf (γ := γ) (W := []) (F := F565965)) n566161 ht566006 (by decide)
      refine G_aload_n 0 dr_cX17_step_143 rfl ?_
      refine G_dup dr_cX17_step_144 rfl ?_
      refine Gp_get 25 hm565969 he566163 dr_cX17_step_145 (gk_X17 D I) (Nat.le_of_ble_eq_true rfl) wr_7_99 rfl ?_
      refine G_iconst 1 dr_cX17_step_148 (by decide +kernel) ?_
      refine G_iadd dr_cX17_step_149 (G_nam fun z566167 hz566167 => ?_)
      have ez566167 : z566167.toInt = p565981.toInt + 1 := by rw [gI_add hz566167 bp565981' (gBl (show Int32.toInt 1 = 1 by decide)) (by decide) (by decide), show Int32.toInt 1 = 1 from by decide]
      have bz566167 : gB z566167 1 512 := gB_add (gI_add hz566167 bp565981' (gBl (show Int32.toInt 1 = 1 by decide)) (by decide) (by decide)) bp565981' (gBl (show Int32.toInt 1 = 1 by decide)) (by decide) (by decide)
      have hT566168 : RS D I P565964 F566159 γ el := RS_set hT n566161 ht566006 (by decide) ⟨f566162, he566165⟩
      refine Gp_put 25 hm565969 he566163 dr_cX17_step_150 (gk_X17 D I) (Nat.le_of_ble_eq_true rfl) wr_7_99 rfl rfl rfl (Nat.le_of_ble_eq_true rfl) (fun F566169 e566170 n566171 => ?_)
      have he566172 : F566169 q565967 = .inr (20, [.int p566022, .int p566023, .int p566024, .int p566025, .int p566026, .int p566027, .int p566028]) := (n566171 q565967 (rn_oo he566164 he566163 (by decide))).trans he566164
      have he566173 : F566169 (γ 9 22) = .inl (I .int, 512, .inl f566162) := (n566171 (γ 9 22) (rn_ao he566165 he566163)).trans he566165
      have he566174 : F566169 q565966 = .inr (22, [.ref (γ 9 0), .ref (γ 9 1), .ref (γ 9 2), .ref (γ 9 3), .ref (γ 9 4), .ref (γ 9 5), .ref (γ 9 6), .ref (γ 9 7), .ref (γ 9 8), .int p565973, .int p565974, .int p565975, .int p565976, .int p565977, .int p565978, .ref (γ 9 15), .ref (γ 9 16), .ref (γ 9 17), .ref (γ 9 18), .ref (γ 9 19), .ref (γ 9 20), .ref (γ 9 21), .ref (γ 9 22), .int p565979, .int p565980, .int z566167, .int p565982, .int p565983, .ref q565971, .ref (γ 9 29), .int p565984, .ref (γ 9 31), .int p565985, .int p565986, .int p565987, .ref q565972]) := e566170
      have hs566175 : rStr γ [] F565965 F566169 := rStr_put hs566166 n566171 htq565966 (by decide)
      refine G_iconst (-1) dr_cX17_step_153 (by decide +kernel) ?_
      have hT566176 : RS D I P565964 F566169 γ el := RS_set hT566168 n566171 htq565966 (by decide) ⟨q565971, q565972, p565973, p565974, p565975, p565976, p565977, p565978, p565979, p565980, z566167, p565982, p565983, p565984, p565985, p565986, p565987, he566174, ⟨bp565973, bp565974, (hB566014.2.2.1), (hB566014.2.2.2.1), (gB_w bz566167 (by decide) (by decide)), bp565982, (hB566014.2.2.2.2.2.2.1), bp565985, (hB566014.2.2.2.2.2.2.2.2)⟩, ht565988, ht565989, ht565990, ht565991, ht565992, ht565993, ht565994, ht565995, ht565996, ht565997, ht565998, ht565999, ht566000, ht566001, ht566002, ht566003, ht566004, ht566005, ht566006, ht566007, ht566008, ht566009, ht566010, ht566011, hB566015⟩
      have ac566177 : (fI (F566169 q565966) 26).toInt = p565982.toInt := by rw [he566174]; rfl
      have ac566178 : (fI (F566169 q565966) 9).toInt = p565973.toInt := by rw [he566174]; rfl
      have ac566179 : (fI (F566169 q565966) 10).toInt = p565974.toInt := by rw [he566174]; rfl
      have ac566180 : (fI (F566169 q565966) 32).toInt = p565985.toInt := by rw [he566174]; rfl
      exact G_iretA dr_cX17_step_154 rfl (Nat.le_of_ble_eq_true rfl) (Nat.le_of_ble_eq_true rfl) ⟨F566169, (-1), rfl, rfl, hT566176, hs566175, (Nat.le_of_ble_eq_true rfl), (Nat.le_of_ble_eq_true rfl), (gB_w (gBl (show Int32.toInt (-1) = (-1) by decide)) (by decide) (by decide)), (by have qa0 : Int32.toInt (-1) = (-1) := (by decide); omega), (by have qa0 : Int32.toInt (-1) = (-1) := (by decide); omega), (by have qa0 : Int32.toInt (-1) = (-1) := (by decide); omega), (by have qa0 : Int32.toInt (-1) = (-1) := (by decide); omega)⟩
    · have r566181 : p565981.toInt = 512 := gj_eq hc566148 (show Int32.toInt 512 = 512 by decide)
      have bp565981' : gB p565981 512 512 := ⟨by omega, by omega⟩
      refine G_iconst 5 dr_cX17_step_120 (by decide +kernel) ?_
      have ac566182 : (fI (F565965 q565966) 26).toInt = p565982.toInt := by rw [he565970]; rfl
      have ac566183 : (fI (F565965 q565966) 9).toInt = p565973.toInt := by rw [he565970]; rfl
      have ac566184 : (fI (F565965 q565966) 10).toInt = p565974.toInt := by rw [he565970]; rfl
      have ac566185 : (fI (F565965 q565966) 32).toInt = p565985.toInt := by rw [he565970]; rfl
      exact G_iretA dr_cX17_step_121 rfl (Nat.le_of_ble_eq_true rfl) (Nat.le_of_ble_eq_true rfl) ⟨F565965, 5, rfl, rfl, hT, (rStr_rf (γ := γ) (W := []) (F := F565965)), (Nat.le_of_ble_eq_true rfl), (Nat.le_of_ble_eq_true rfl), (gB_w (gBl (show Int32.toInt 5 = 5 by decide)) (by decide) (by decide)), (by have qa0 : Int32.toInt 5 = 5 := (by decide); omega), (by have qa0 : Int32.toInt 5 = 5 := (by decide); omega), (by have qa0 : Int32.toInt 5 = 5 := (by decide); omega), (by have qa0 : Int32.toInt 5 = 5 := (by decide); omega)⟩
  by_cases hs566186 : p566022 = 23
  · have ehs566186 : p566022.toInt = 23 := gj_eq hs566186 (show Int32.toInt 23 = 23 by decide)
    have bp566022' : gB p566022 23 23 := ⟨by omega, by omega⟩
    refine G_eqi (y := 23) hs566186 ?_
    refine G_lookup 175 dr_cX17_step_4 (by decide) (by first | rfl | decide) (by decide) ?_
    refine G_aload_n 0 dr_cX17_step_175 rfl ?_
    refine Gp_get 21 hm565969 he565970 dr_cX17_step_176 (gk_X17 D I) (Nat.le_of_ble_eq_true rfl) wr_7_95 rfl ?_
    refine G_aload_n 1 dr_cX17_step_179 rfl ?_
    refine Gp_get 4 hm566020 he566021 dr_cX17_step_180 (gk_X15 D I) (Nat.le_of_ble_eq_true rfl) wr_9_193 rfl ?_
    refine G_aload_n 0 dr_cX17_step_183 rfl ?_
    refine G_aload_n 1 dr_cX17_step_184 rfl ?_
    refine Gp_get 5 hm566020 he566021 dr_cX17_step_185 (gk_X15 D I) (Nat.le_of_ble_eq_true rfl) wr_9_197 rfl ?_
    refine G_aload_n 1 dr_cX17_step_188 rfl ?_
    refine Gp_get 2 hm566020 he566021 dr_cX17_step_189 (gk_X15 D I) (Nat.le_of_ble_eq_true rfl) wr_9_186 rfl ?_
    refine Gw_callV (As := [.int p566027, .int p566024]) (gV_ok D I) (ct_7383_SpillForgeModel_value l hl0 D I γ el P565964 F565965 q565966 p566027 p566024 hT htq565966 bp566027 (by omega)) dr_cX17_step_192 ⟨wr_11_100, wr_1_14, wr_11_103, by decide, rfl, (Nat.le_of_ble_eq_true rfl), (Nat.le_of_ble_eq_true rfl)⟩ wr_11_102 wr_p_115 hm565969 he565970 rfl (show 0 + 0 ≤ 0 by first | omega | decide) (show 0 + 0 ≤ 0 by first | omega | decide) (Nat.le_of_ble_eq_true rfl) (fun r566190 w566191 dc566187 ds566188 hp566189 => ?_) (fun _ _ _ _ _ z => z.elim)
    obtain ⟨o566192, rfl, rfl, hdc, hds⟩ := hp566189
    have bo566192 := gB_any o566192
    change G _ _ _ _ _ _ _ (.int o566192 :: _) _ _ _
    refine G_widen (cs' := 0) (sl' := 0) (by omega) (by omega) ?_
    have hm566193 : (γ 9 21) ∈ P565964 := RS_m hT ht566005 (by decide)
    obtain ⟨f566195, he566194⟩ := show rk_23 I (F565965 (γ 9 21)) from RS_o hT ht566005
    refine Gp_iast 0 hm566193 he566194 dr_cX17_step_195 rfl (gB_in bp566026 (by decide) (by decide)) (fun F566196 e566197 n566198 => ?_)
    obtain ⟨f566199, hf566199⟩ : ∃ z, z = upd f566195 p566026.toNatClampNeg o566192 := ⟨_, rfl⟩
    rw [← hf566199] at e566197
    have he566200 : F566196 q565966 = .inr (22, [.ref (γ 9 0), .ref (γ 9 1), .ref (γ 9 2), .ref (γ 9 3), .ref (γ 9 4), .ref (γ 9 5), .ref (γ 9 6), .ref (γ 9 7), .ref (γ 9 8), .int p565973, .int p565974, .int p565975, .int p565976, .int p565977, .int p565978, .ref (γ 9 15), .ref (γ 9 16), .ref (γ 9 17), .ref (γ 9 18), .ref (γ 9 19), .ref (γ 9 20), .ref (γ 9 21), .ref (γ 9 22), .int p565979, .int p565980, .int p565981, .int p565982, .int p565983, .ref q565971, .ref (γ 9 29), .int p565984, .ref (γ 9 31), .int p565985, .int p565986, .int p565987, .ref q565972]) := (n566198 q565966 (rn_oa he565970 he566194)).trans he565970
    have he566201 : F566196 q565967 = .inr (20, [.int p566022, .int p566023, .int p566024, .int p566025, .int p566026, .int p566027, .int p566028]) := (n566198 q565967 (rn_oa he566021 he566194)).trans he566021
    have he566202 : F566196 (γ 9 21) = .inl (I .int, 2000, .inl f566199) := e566197
    have hs566203 : rStr γ [] F565965 F566196 := rStr_put (rStr_rf (γ := γ) (W := []) (F := F565965)) n566198 ht566005 (by decide)
    refine G_iconst (-1) dr_cX17_step_196 (by decide +kernel) ?_
    have hT566204 : RS D I P565964 F566196 γ el := RS_set hT n566198 ht566005 (by decide) ⟨f566199, he566202⟩
    have ac566205 : (fI (F566196 q565966) 26).toInt = p565982.toInt := by rw [he566200]; rfl
    have ac566206 : (fI (F566196 q565966) 9).toInt = p565973.toInt := by rw [he566200]; rfl
    have ac566207 : (fI (F566196 q565966) 10).toInt = p565974.toInt := by rw [he566200]; rfl
    have ac566208 : (fI (F566196 q565966) 32).toInt = p565985.toInt := by rw [he566200]; rfl
    exact G_iretA dr_cX17_step_197 rfl (Nat.le_of_ble_eq_true rfl) (Nat.le_of_ble_eq_true rfl) ⟨F566196, (-1), rfl, rfl, hT566204, hs566203, (Nat.le_of_ble_eq_true rfl), (Nat.le_of_ble_eq_true rfl), (gB_w (gBl (show Int32.toInt (-1) = (-1) by decide)) (by decide) (by decide)), (by have qa0 : Int32.toInt (-1) = (-1) := (by decide); omega), (by have qa0 : Int32.toInt (-1) = (-1) := (by decide); omega), (by have qa0 : Int32.toInt (-1) = (-1) := (by decide); omega), (by have qa0 : Int32.toInt (-1) = (-1) := (by decide); omega)⟩
  have ehs566034 := lv_neT hs566034 (show Int32.toInt 0 = 0 by decide)
  have ehs566057 := lv_neT hs566057 (show Int32.toInt 20 = 20 by decide)
  have ehs566125 := lv_neT hs566125 (show Int32.toInt 21 = 21 by decide)
  have ehs566147 := lv_neT hs566147 (show Int32.toInt 22 = 22 by decide)
  have ehs566186 := lv_neT hs566186 (show Int32.toInt 23 = 23 by decide)
  refine G_lookup 221 dr_cX17_step_4 (by decide) (by show Op.lookupswitch.offset [(0, 194), (20, 52), (21, 151), (22, 106), (23, 171)] _ _ = 217; rw [lv_osw hs566034 (show Int32.toInt 0 = 0 by decide), lv_osw hs566057 (show Int32.toInt 20 = 20 by decide), lv_osw hs566125 (show Int32.toInt 21 = 21 by decide), lv_osw hs566147 (show Int32.toInt 22 = 22 by decide), lv_osw hs566186 (show Int32.toInt 23 = 23 by decide)]; first | done | rfl) (by decide) ?_
  refine G_aload_n 1 dr_cX17_step_221 rfl ?_
  refine Gp_get 0 hm566020 he566021 dr_cX17_step_222 (gk_X15 D I) (Nat.le_of_ble_eq_true rfl) wr_9_177 rfl ?_
  refine G_aload_n 0 dr_cX17_step_225 rfl ?_
  refine G_aload_n 1 dr_cX17_step_226 rfl ?_
  refine Gp_get 5 hm566020 he566021 dr_cX17_step_227 (gk_X15 D I) (Nat.le_of_ble_eq_true rfl) wr_9_197 rfl ?_
  refine G_aload_n 1 dr_cX17_step_230 rfl ?_
  refine Gp_get 2 hm566020 he566021 dr_cX17_step_231 (gk_X15 D I) (Nat.le_of_ble_eq_true rfl) wr_9_186 rfl ?_
  refine Gw_callV (As := [.int p566027, .int p566024]) (gV_ok D I) (ct_7383_SpillForgeModel_value l hl0 D I γ el P565964 F565965 q565966 p566027 p566024 hT htq565966 bp566027 (by omega)) dr_cX17_step_234 ⟨wr_11_100, wr_1_14, wr_11_103, by decide, rfl, (Nat.le_of_ble_eq_true rfl), (Nat.le_of_ble_eq_true rfl)⟩ wr_11_102 wr_p_115 hm565969 he565970 rfl (show 0 + 0 ≤ 0 by first | omega | decide) (show 0 + 0 ≤ 0 by first | omega | decide) (Nat.le_of_ble_eq_true rfl) (fun r566212 w566213 dc566209 ds566210 hp566211 => ?_) (fun _ _ _ _ _ z => z.elim)
  obtain ⟨o566214, rfl, rfl, hdc, hds⟩ := hp566211
  have bo566214 := gB_any o566214
  change G _ _ _ _ _ _ _ (.int o566214 :: _) _ _ _
  refine G_widen (cs' := 0) (sl' := 0) (by omega) (by omega) ?_
  refine G_aload_n 0 dr_cX17_step_237 rfl ?_
  refine G_aload_n 1 dr_cX17_step_238 rfl ?_
  refine Gp_get 6 hm566020 he566021 dr_cX17_step_239 (gk_X15 D I) (Nat.le_of_ble_eq_true rfl) wr_9_202 rfl ?_
  refine G_aload_n 1 dr_cX17_step_242 rfl ?_
  refine Gp_get 3 hm566020 he566021 dr_cX17_step_243 (gk_X15 D I) (Nat.le_of_ble_eq_true rfl) wr_9_190 rfl ?_
  refine Gw_callV (As := [.int p566028, .int p566025]) (gV_ok D I) (ct_7383_SpillForgeModel_value l hl0 D I γ el P565964 F565965 q565966 p566028 p566025 hT htq565966 bp566028 (by omega)) dr_cX17_step_246 ⟨wr_11_100, wr_1_14, wr_11_103, by decide, rfl, (Nat.le_of_ble_eq_true rfl), (Nat.le_of_ble_eq_true rfl)⟩ wr_11_102 wr_p_115 hm565969 he565970 rfl (show 0 + 0 ≤ 0 by first | omega | decide) (show 0 + 0 ≤ 0 by first | omega | decide) (Nat.le_of_ble_eq_true rfl) (fun r566218 w566219 dc566215 ds566216 hp566217 => ?_) (fun _ _ _ _ _ z => z.elim)
  obtain ⟨o566220, rfl, rfl, hdc, hds⟩ := hp566217
  have bo566220 := gB_any o566220
  change G _ _ _ _ _ _ _ (.int o566220 :: _) _ _ _
  refine G_widen (cs' := 0) (sl' := 0) (by omega) (by omega) ?_
  refine Gw_callS (As := [.int p566022, .int o566214, .int o566220]) (gV_ok D I) (cp_2019_SpillForgeModel_result l hl0 D I P565964 F565965 p566022 o566214 o566220 ) dr_cX17_step_249 ⟨wr_11_104, wr_1_14, wr_11_106, by decide, rfl, (Nat.le_of_ble_eq_true rfl), (Nat.le_of_ble_eq_true rfl)⟩ wr_11_105 (show 0 + 0 ≤ 0 by first | omega | decide) (show 0 + 0 ≤ 0 by first | omega | decide) (Nat.le_of_ble_eq_true rfl) (fun r566224 w566225 dc566221 ds566222 hp566223 => ?_) (fun _ _ _ _ _ z => z.elim)
  obtain ⟨ol566226, rfl, rfl, hdc, hds⟩ := hp566223
  change G _ _ _ _ _ _ _ (.long ol566226 :: _) _ _ _
  refine G_widen (cs' := 0) (sl' := 0) (by omega) (by omega) ?_
  refine G_lstore_n (L' := [(2, .long ol566226), (0, .ref q565966), (1, .ref q565967)]) dr_cX17_step_252 (Nat.le_of_ble_eq_true rfl) rfl ?_
  refine G_lload_n 0 dr_cX17_step_253 rfl ?_
  refine G_ldc2 4294967296 dr_cX17_step_254 wr_11_107 ?_
  refine G_lcmp dr_cX17_step_257 (G_nam fun z566227 hz566227 => ?_)
  have bz566227 : gB z566227 (-1) 1 := gB_cmp hz566227
  refine G_if_ne 263 dr_cX17_step_258 (by decide +kernel) (fun hc566228 => ?_) (fun hc566228 => ?_)
  · have r566229 : z566227.toInt ≠ 0 := gj_neq hc566228 (show Int32.toInt 0 = 0 by decide)
    have lhc566228 := gC_cmpN hz566227 hc566228
    refine G_aload_n 1 dr_cX17_step_263 rfl ?_
    refine Gp_get 20 hm565969 he565970 dr_cX17_step_264 (gk_X17 D I) (Nat.le_of_ble_eq_true rfl) wr_7_94 rfl ?_
    refine G_aload_n 2 dr_cX17_step_267 rfl ?_
    refine Gp_get 1 hm566020 he566021 dr_cX17_step_268 (gk_X15 D I) (Nat.le_of_ble_eq_true rfl) wr_9_182 rfl ?_
    refine G_lload_n 0 dr_cX17_step_271 rfl ?_
    refine G_l2i dr_cX17_step_272 (G_nam fun z566230 hz566230 => ?_)
    have bz566230 : gB z566230 (-2147483648) 2147483647 := gB_any z566230
    have hm566231 : (γ 9 20) ∈ P565964 := RS_m hT ht566004 (by decide)
    obtain ⟨f566233, he566232⟩ := show rk_22 I (F565965 (γ 9 20)) from RS_o hT ht566004
    refine Gp_iast 0 hm566231 he566232 dr_cX17_step_273 rfl (gB_in bp566023 (by decide) (by decide)) (fun F566234 e566235 n566236 => ?_)
    obtain ⟨f566237, hf566237⟩ : ∃ z, z = upd f566233 p566023.toNatClampNeg z566230 := ⟨_, rfl⟩
    rw [← hf566237] at e566235
    have he566238 : F566234 q565966 = .inr (22, [.ref (γ 9 0), .ref (γ 9 1), .ref (γ 9 2), .ref (γ 9 3), .ref (γ 9 4), .ref (γ 9 5), .ref (γ 9 6), .ref (γ 9 7), .ref (γ 9 8), .int p565973, .int p565974, .int p565975, .int p565976, .int p565977, .int p565978, .ref (γ 9 15), .ref (γ 9 16), .ref (γ 9 17), .ref (γ 9 18), .ref (γ 9 19), .ref (γ 9 20), .ref (γ 9 21), .ref (γ 9 22), .int p565979, .int p565980, .int p565981, .int p565982, .int p565983, .ref q565971, .ref (γ 9 29), .int p565984, .ref (γ 9 31), .int p565985, .int p565986, .int p565987, .ref q565972]) := (n566236 q565966 (rn_oa he565970 he566232)).trans he565970
    have he566239 : F566234 q565967 = .inr (20, [.int p566022, .int p566023, .int p566024, .int p566025, .int p566026, .int p566027, .int p566028]) := (n566236 q565967 (rn_oa he566021 he566232)).trans he566021
    have he566240 : F566234 (γ 9 20) = .inl (I .int, 2000, .inl f566237) := e566235
    have hs566241 : rStr γ [] F565965 F566234 := rStr_put (rStr_rf (γ := γ) (W := []) (F := F565965)) n566236 ht566004 (by decide)
    refine G_iconst (-1) dr_cX17_step_274 (by decide +kernel) ?_
    have hT566242 : RS D I P565964 F566234 γ el := RS_set hT n566236 ht566004 (by decide) ⟨f566237, he566240⟩
    have ac566243 : (fI (F566234 q565966) 26).toInt = p565982.toInt := by rw [he566238]; rfl
    have ac566244 : (fI (F566234 q565966) 9).toInt = p565973.toInt := by rw [he566238]; rfl
    have ac566245 : (fI (F566234 q565966) 10).toInt = p565974.toInt := by rw [he566238]; rfl
    have ac566246 : (fI (F566234 q565966) 32).toInt = p565985.toInt := by rw [he566238]; rfl
    exact G_iretA dr_cX17_step_275 rfl (Nat.le_of_ble_eq_true rfl) (Nat.le_of_ble_eq_true rfl) ⟨F566234, (-1), rfl, rfl, hT566242, hs566241, (Nat.le_of_ble_eq_true rfl), (Nat.le_of_ble_eq_true rfl), (gB_w (gBl (show Int32.toInt (-1) = (-1) by decide)) (by decide) (by decide)), (by have qa0 : Int32.toInt (-1) = (-1) := (by decide); omega), (by have qa0 : Int32.toInt (-1) = (-1) := (by decide); omega), (by have qa0 : Int32.toInt (-1) = (-1) := (by decide); omega), (by have qa0 : Int32.toInt (-1) = (-1) := (by decide); omega)⟩
  · have r566247 : z566227.toInt = 0 := gj_eq hc566228 (show Int32.toInt 0 = 0 by decide)
    have bz566227' : gB z566227 0 0 := ⟨by omega, by omega⟩
    have lhc566228 := gC_cmpE hz566227 hc566228
    refine G_iconst 1 dr_cX17_step_261 (by decide +kernel) ?_
    have ac566248 : (fI (F565965 q565966) 26).toInt = p565982.toInt := by rw [he565970]; rfl
    have ac566249 : (fI (F565965 q565966) 9).toInt = p565973.toInt := by rw [he565970]; rfl
    have ac566250 : (fI (F565965 q565966) 10).toInt = p565974.toInt := by rw [he565970]; rfl
    have ac566251 : (fI (F565965 q565966) 32).toInt = p565985.toInt := by rw [he565970]; rfl
    exact G_iretA dr_cX17_step_262 rfl (Nat.le_of_ble_eq_true rfl) (Nat.le_of_ble_eq_true rfl) ⟨F565965, 1, rfl, rfl, hT, (rStr_rf (γ := γ) (W := []) (F := F565965)), (Nat.le_of_ble_eq_true rfl), (Nat.le_of_ble_eq_true rfl), (gB_w (gBl (show Int32.toInt 1 = 1 by decide)) (by decide) (by decide)), (by have qa0 : Int32.toInt 1 = 1 := (by decide); omega), (by have qa0 : Int32.toInt 1 = 1 := (by decide); omega), (by have qa0 : Int32.toInt 1 = 1 := (by decide); omega), (by have qa0 : Int32.toInt 1 = 1 := (by decide); omega)⟩
