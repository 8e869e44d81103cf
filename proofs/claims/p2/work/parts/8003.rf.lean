abbrev ky_396985_SpillForgeModel_load : gKey := (cX17_load, 6, "SpillForgeModel", (some FieldType.int), [], "load", fun _ _ => True)
def pg_396985_SpillForgeModel_load (D : va_G) (I : FieldType → ClassId) (γ0 el0 : Nat → Nat → Nat) (f : Nat) (B : Nat) (P396972 : List Nat) (F396973 : Nat → va_E) (q396974 : Nat) (q396975 : Nat) (q396976 : Nat) (p396977 : Int32) (p396978 : Int32) (jx396979 : Nat) : Option Value → va_W → Nat → Nat → Prop := fun r w dc ds => ∃ (P397335 : List Nat) (F397336 : Nat → va_E) (γ el : Nat → Nat → Nat) (o397334 : Int32), r = some (.int o397334) ∧ w = va_pl P397335 F397336 ∧ rSk f [101] ([3, 5, 6, 8, 9, 10, 101]) D I P396972 F396973 γ0 el0 P397335 F397336 γ el ∧ (18 * dc + rPh γ0 el0 f ≤ rPh γ el f ∧ ds + rPh γ0 el0 f ≤ rPh γ el f) ∧ rBd γ el f B ∧ gB o397334 (-1) 1999 ∧ γ 6 f = γ0 6 f ∧ γ 7 f = γ0 7 f ∧ γ 18 f = γ0 18 f ∧ (γ 14 q396976 = γ0 14 q396976 ∧ jx396979 < γ 2 (γ 14 q396975) ∧ el (γ 14 q396975) jx396979 = q396976) ∧ (o397334.toInt < 0 ∨ (o397334.toInt = (fI (F396973 q396974) 14).toInt ∧ o397334.toInt < 2000 ∧ (fI (F397336 q396974) 14).toInt = o397334.toInt + 1 ∧ γ 16 f = γ0 16 f + 1 ∧ γ 2 (γ 14 q396976) = γ0 2 (γ0 14 q396976) + 1)) ∧ (fI (F397336 q396974) 11).toInt = (fI (F396973 q396974) 11).toInt ∧ (o397334.toInt < 0 ∨ rInsP γ0 el0 F396973 γ el F397336 q396975 f jx396979 (p396977.toInt : Int).toNat (o397334.toInt : Int).toNat) ∧ (o397334.toInt < 0 ∨ ∀ j : Nat, (p396977.toInt : Int).toNat ≤ j → rAt γ el q396975 jx396979 (j + 1) = rAt γ0 el0 q396975 jx396979 j) ∧ mKp (F396973 q396974) (F397336 q396974)
set_option maxRecDepth 100000 in
set_option maxHeartbeats 1500000 in
theorem cg_396985_SpillForgeModel_load (l : Launch) (hl0 : l.stackTraces = false) (D : va_G) (I : FieldType → ClassId) (γ0 el0 : Nat → Nat → Nat) (f : Nat) (B : Nat) (P396972 : List Nat) (F396973 : Nat → va_E) (q396974 : Nat) (q396975 : Nat) (q396976 : Nat) (p396977 : Int32) (p396978 : Int32) (jx396979 : Nat) (hT0 : RS D I P396972 F396973 γ0 el0) (hzq396974 : rKd γ0 q396974 10) (hzq396975 : rKd γ0 q396975 9) (hzq396976 : rKd γ0 q396976 2) (hf0 : γ0 1 q396975 = f) (hB0 : rBd γ0 el0 f B) (hBk : B ≤ 100000) (hqjjx396979 : jx396979 < γ0 2 (γ0 14 q396975)) (hqejx396979 : el0 (γ0 14 q396975) jx396979 = q396976) (hqfjx396979 : γ0 1 q396976 = f) (bp396977 : gB p396977 0 1000000) (bp396978 : gB p396978 0 1999) (x396980 : p396977.toInt ≤ γ0 2 (γ0 14 q396976)) (x396981 : p396978.toInt < γ0 7 f) (x396982 : γ0 16 f + 1 ≤ B) (x396983 : 0 < γ0 6 f) (x396984 : jx396979 < γ0 6 f) : CtA (gV D I) l yX17_load cX17_load 6 (some FieldType.int) 8 170 (((387 * B + 6000) - rPh γ0 el0 f) / 18) ((387 * B + 6000) - rPh γ0 el0 f) [.ref q396974, .ref q396975, .ref q396976, .int p396977, .int p396978] (va_pl P396972 F396973) (pg_396985_SpillForgeModel_load D I γ0 el0 f B P396972 F396973 q396974 q396975 q396976 p396977 p396978 jx396979) gNA := by
  refine CtA_of hl0 (by decide) (Nat.le_of_ble_eq_true rfl) ?_
  obtain ⟨γ, hγ0⟩ : ∃ z, z = γ0 := ⟨_, rfl⟩
  obtain ⟨el, hel0⟩ : ∃ z, z = el0 := ⟨_, rfl⟩
  have hT : RS D I P396972 F396973 γ el := by rw [hγ0, hel0]; exact hT0
  have hst : rSk f [101] ([3, 5, 6, 8, 9, 10, 101]) D I P396972 F396973 γ0 el0 P396972 F396973 γ el := by rw [hγ0, hel0]; exact rSk_rf hT0
  have hph : rPh γ0 el0 f ≤ rPh γ el f := by rw [hγ0, hel0]; exact Nat.le_refl _
  have hB : rBd γ el f B := by rw [hγ0, hel0]; exact hB0
  have htq396974 : rKd γ q396974 10 := by rw [hγ0]; exact hzq396974
  have htq396975 : rKd γ q396975 9 := by rw [hγ0]; exact hzq396975
  have htq396976 : rKd γ q396976 2 := by rw [hγ0]; exact hzq396976
  have hf1 : γ 1 q396975 = f := by rw [hγ0]; exact hf0
  have hpjjx396979 : jx396979 < γ 2 (γ 14 q396975) := by rw [hγ0]; exact hqjjx396979
  have hpejx396979 : el (γ 14 q396975) jx396979 = q396976 := by rw [hγ0, hel0]; exact hqejx396979
  have hpfjx396979 : γ 1 q396976 = f := by rw [hγ0]; exact hqfjx396979
  have x396980n : p396977.toInt ≤ γ 2 (γ 14 q396976) := by rw [hγ0]; exact x396980
  have x396981n : p396978.toInt < γ 7 f := by rw [hγ0]; exact x396981
  have x396982n : γ 16 f + 1 ≤ B := by rw [hγ0]; exact x396982
  have x396983n : 0 < γ 6 f := by rw [hγ0]; exact x396983
  have x396984n : jx396979 < γ 6 f := by rw [hγ0]; exact x396984
  have pk396986 : rPh γ el f ≤ 387 * B + 6000 := rm_pk (rM_ge hT htq396975 hf1).1 (rM_bd hB)
  refine G_widen (cs' := ((rPh γ el f - rPh γ0 el0 f) / 18)) (sl' := (rPh γ el f - rPh γ0 el0 f)) (Nat.zero_le _) (Nat.zero_le _) ?_
  have r396987 : 0 < γ 6 (γ 1 q396975) := by rw [hf1]; omega
  have lz0 : Int32.toInt 0 = 0 := by decide
  have r396988 : γ 6 f = γ0 6 f := by rw [hγ0]
  have r396989 : γ 7 f = γ0 7 f := by rw [hγ0]
  have r396990 : γ 16 f = γ0 16 f := by rw [hγ0]
  have r396991 : γ 18 f = γ0 18 f := by rw [hγ0]
  have r396992 : γ 19 f = γ0 19 f := by rw [hγ0]
  have sz396993 : γ 2 (γ 14 q396976) = γ0 2 (γ0 14 q396976) := by rw [hγ0]
  have hm396994 : q396974 ∈ P396972 := RS_m hT htq396974 (by decide)
  obtain ⟨q396996, q396997, p396998, p396999, p397000, p397001, p397002, p397003, p397004, p397005, p397006, p397007, p397008, p397009, p397010, p397011, p397012, he396995, hB397039, ht397013, ht397014, ht397015, ht397016, ht397017, ht397018, ht397019, ht397020, ht397021, ht397022, ht397023, ht397024, ht397025, ht397026, ht397027, ht397028, ht397029, ht397030, ht397031, ht397032, ht397033, ht397034, ht397035, ht397036, hB397040⟩ := show rk_10 γ (F396973 q396974) from RS_o hT htq396974
  have ac0_11 : (fI (F396973 q396974) 11).toInt = p397000.toInt := by rw [he396995]; rfl
  have ac0_14 : (fI (F396973 q396974) 14).toInt = p397003.toInt := by rw [he396995]; rfl
  have bp397000 : gB p397000 0 100 := (hB397039.2.2.1)
  have bp397003 : gB p397003 0 2000 := (hB397039.2.2.2.1)
  refine G_aload_n 0 dr_cX17_load_0 rfl ?_
  refine Gp_get 14 hm396994 he396995 dr_cX17_load_1 (gk_X17 D I) (Nat.le_of_ble_eq_true rfl) wr_7_88 rfl ?_
  refine G_sipush 2000 dr_cX17_load_4 (by decide +kernel) ?_
  refine G_icmp_ne 12 dr_cX17_load_7 (by decide +kernel) (fun hc397041 => ?_) (fun hc397041 => ?_)
  · have r397042 : p397003.toInt ≠ 2000 := gj_neq hc397041 (show Int32.toInt 2000 = 2000 by decide)
    have bp397003' : gB p397003 0 1999 := ⟨by omega, by omega⟩
    refine G_aload_n 1 dr_cX17_load_12 rfl ?_
    have rg397043 := rM_ge hT htq396975 hf1
    have rm397044 := rM_bd hB
    have bd397045 := rBd_c hT htq396975 hf1 hB
    have rc397046 := rc_at hT htq396975 hf1
    obtain ⟨q397053, hl397054⟩ : ∃ z, z = γ 14 q396976 := ⟨_, rfl⟩
    have hl397055 : γ 0 q397053 = 3 ∨ γ 0 q397053 = 103 := by rw [hl397054, ← hpejx396979]; exact (RS_lst hT rc397046.2.1 hpjjx396979).1
    refine Gt_row (c := q396975) (f := f) hl0 dr_cX17_load_13 ⟨wr_10_206, wr_1_15, wr_10_82, by decide, rfl, (Nat.le_of_ble_eq_true rfl), (Nat.le_of_ble_eq_true rfl)⟩ wr_10_80 wr_10_81 hT htq396975 hf1 (Nat.le_trans bd397045.2.2.1 (Nat.le_trans hBk (by decide))) (rm_cs hph rg397043.2.1 rm397044 (by decide)) (rm_sl hph rg397043.2.1 rm397044 rm_s18) (Nat.le_of_ble_eq_true rfl) (fun P397047 F397048 γ el q397049 dc397050 ds397051 hq397052 => ?_)
    have ar397057 := fun j => rAt_row hT htq396975 hf1 hq397052 (show jx396979 < _ by omega) j
    rw [hγ0, hel0] at ar397057
    have pr397056 := fun (R : Nat → Nat → va_E → Prop) hN => rPl_row (R := R) hT htq396975 hf1 hq397052 hN
    rw [hγ0, hel0] at pr397056
    obtain ⟨hk397058, x0397059, x1397060, x22397061, x8397062, h16397063, h18397064, hnu397065, hot397066, h45397067, hf0397068, ⟨hr1397069, hr2397070⟩, hM397071, hBB397072⟩ := hq397052
    have hk397073 := rSk_of hk397058
    obtain ⟨nu397074, nu397075, nu397076, nu397077⟩ := hnu397065
    have hT397078 := hk397073.1
    have hs397079 := rSk_tr hst hk397073 (by decide) (by decide) (by decide)
    have r397080 := rSk_F hk397073 htq396974 (by decide) (by decide)
    have ht397081 : rKd γ q396974 10 := rSk_k hk397073 htq396974 (by decide) (by decide)
    have ht397082 : rKd γ q396975 9 := rSk_k hk397073 htq396975 (by decide) (by decide)
    have hf397083 : γ 1 q396975 = f := rSk_1 hk397073 htq396975 (by decide) hf1
    have ht397084 : rKd γ q396976 2 := rSk_k hk397073 htq396976 (by decide) (by decide)
    have hf397085 : γ 1 q396976 = f := rSk_1 hk397073 htq396976 (by decide) hpfjx396979
    have mk397086 : mKp (F396973 q396974) (F397048 q396974) := mKp_tr mKp_rf (mKp_eq (rSk_F hk397073 htq396974 (by decide) (by decide)))
    have r397087 := (rSk_s hk397073 htq396975 (by decide)).2.1
    have r397088 := hot397066 _ (by rw [rc397046.2.1]; decide) (by rw [rc397046.2.1]; decide)
    have r397089 : jx396979 < γ 2 (γ 14 q396975) := by rw [r397087, r397088.1]; exact hpjjx396979
    have r397090 : el (γ 14 q396975) jx396979 = q396976 := by rw [r397087, r397088.2]; exact hpejx396979
    clear rg397043 rm397044 bd397045 rc397046
    have r397091 : 0 < γ 6 (γ 1 q396975) := by rw [hf397083]; omega
    have hm397092 : q396974 ∈ P397047 := RS_m hT397078 ht397081 (by decide)
    obtain ⟨q397094, q397095, p397096, p397097, p397098, p397099, p397100, p397101, p397102, p397103, p397104, p397105, p397106, p397107, p397108, p397109, p397110, he397093, hB397137, ht397111, ht397112, ht397113, ht397114, ht397115, ht397116, ht397117, ht397118, ht397119, ht397120, ht397121, ht397122, ht397123, ht397124, ht397125, ht397126, ht397127, ht397128, ht397129, ht397130, ht397131, ht397132, ht397133, ht397134, hB397138⟩ := show rk_10 γ (F397048 q396974) from RS_o hT397078 ht397081
    have r397139 : p397098.toInt = p397000.toInt := by have z : p397098 = p397000 := congrArg (fun e => fI e 11) (he397093.symm.trans (r397080.trans he396995)); rw [z]
    have bp397098 : gB p397098 0 100 := (hB397137.2.2.1)
    have r397140 : p397101.toInt = p397003.toInt := by have z : p397101 = p397003 := congrArg (fun e => fI e 14) (he397093.symm.trans (r397080.trans he396995)); rw [z]
    have bp397101 : gB p397101 0 2000 := (hB397137.2.2.2.1)
    have bp397101' : gB p397101 0 1999 := ⟨by omega, by omega⟩
    have sz397141 := (rSk_s hk397073 htq396976 (by decide)).2.1
    have sz397142 := congrArg (γ 2) sz397141
    have sz397143 := (hot397066 q397053 (by omega) (by omega)).1
    rw [hl397054] at sz397143
    clear hl397055
    have r397144 := hf0397068.2.2
    have hB397145 : rBd γ el f B := hBB397072 B (by omega) hB
    have ht397146 : rKd γ q397049 101 := x0397059
    have r397147 : γ 8 q397049 < γ 16 f := rm_x8 x8397062 h16397063 rfl
    have hph397148 : rPh γ0 el0 f ≤ rPh γ el f := rm_ph hph hr2397070
    have pk397149 : rPh γ el f ≤ 387 * B + 6000 := rm_pk (rM_ge hT397078 ht397082 hf397083).1 (rM_bd hB397145)
    have hm397150 : q397049 ∈ P397047 := RS_m hT397078 ht397146 (by decide)
    obtain ⟨p397152, p397153, p397154, p397155, p397156, p397157, p397158, he397151, bp397152, bp397153, bp397156, bp397157, bp397158, r397159, r397160, r397161⟩ := show rkR (F397048 q397049) from RS_o hT397078 ht397146
    have bp397154 := gB_any p397154
    have bp397155 := gB_any p397155
    have r397162 : γ 7 (γ 1 q397049) = γ 7 f := by rw [x1397060]
    have r397163 : p397157.toInt = 0 := by have z := hf0397068.1; rw [he397151] at z; exact z
    have bp397157' : gB p397157 0 0 := ⟨by omega, by omega⟩
    have r397164 : p397158.toInt = 0 := by have z := hf0397068.2.1; rw [he397151] at z; exact z
    have bp397158' : gB p397158 0 0 := ⟨by omega, by omega⟩
    refine G_widen (cs' := ((rPh γ el f - rPh γ0 el0 f) / 18)) (sl' := (rPh γ el f - rPh γ0 el0 f)) (rm_wc hph hr1397069) (rm_ws hph hr2397070) ?_
    refine G_astore (L' := [(5, .ref q397049), (0, .ref q396974), (1, .ref q396975), (2, .ref q396976), (3, .int p396977), (4, .int p396978)]) dr_cX17_load_16 (Nat.le_of_ble_eq_true rfl) rfl ?_
    refine G_aload 0 dr_cX17_load_18 rfl ?_
    refine G_bipush 21 dr_cX17_load_20 (by decide +kernel) ?_
    refine Gp_put 0 hm397150 he397151 dr_cX17_load_22 (gk_X15 D I) (Nat.le_of_ble_eq_true rfl) wr_9_177 rfl rfl rfl (Nat.le_of_ble_eq_true rfl) (fun F397165 e397166 n397167 => ?_)
    have he397168 : F397165 q396974 = .inr (22, [.ref (γ 9 0), .ref (γ 9 1), .ref (γ 9 2), .ref (γ 9 3), .ref (γ 9 4), .ref (γ 9 5), .ref (γ 9 6), .ref (γ 9 7), .ref (γ 9 8), .int p397096, .int p397097, .int p397098, .int p397099, .int p397100, .int p397101, .ref (γ 9 15), .ref (γ 9 16), .ref (γ 9 17), .ref (γ 9 18), .ref (γ 9 19), .ref (γ 9 20), .ref (γ 9 21), .ref (γ 9 22), .int p397102, .int p397103, .int p397104, .int p397105, .int p397106, .ref q397094, .ref (γ 9 29), .int p397107, .ref (γ 9 31), .int p397108, .int p397109, .int p397110, .ref q397095]) := (n397167 q396974 (rn_oo he397093 he397151 (by decide))).trans he397093
    have he397169 : F397165 q397049 = .inr (20, [.int 21, .int p397153, .int p397154, .int p397155, .int p397156, .int p397157, .int p397158]) := e397166
    have mk397170 : mKp (F396973 q396974) (F397165 q396974) := mKp_tr mk397086 (mKp_eq (n397167 q396974 (rn_ty ht397081 ht397146 (by decide))))
    refine G_aload 0 dr_cX17_load_25 rfl ?_
    refine G_aload_n 1 dr_cX17_load_27 rfl ?_
    refine Gp_get 14 hm397092 he397168 dr_cX17_load_28 (gk_X17 D I) (Nat.le_of_ble_eq_true rfl) wr_7_88 rfl ?_
    refine Gp_put 1 hm397150 he397169 dr_cX17_load_31 (gk_X15 D I) (Nat.le_of_ble_eq_true rfl) wr_9_182 rfl rfl rfl (Nat.le_of_ble_eq_true rfl) (fun F397171 e397172 n397173 => ?_)
    have he397174 : F397171 q396974 = .inr (22, [.ref (γ 9 0), .ref (γ 9 1), .ref (γ 9 2), .ref (γ 9 3), .ref (γ 9 4), .ref (γ 9 5), .ref (γ 9 6), .ref (γ 9 7), .ref (γ 9 8), .int p397096, .int p397097, .int p397098, .int p397099, .int p397100, .int p397101, .ref (γ 9 15), .ref (γ 9 16), .ref (γ 9 17), .ref (γ 9 18), .ref (γ 9 19), .ref (γ 9 20), .ref (γ 9 21), .ref (γ 9 22), .int p397102, .int p397103, .int p397104, .int p397105, .int p397106, .ref q397094, .ref (γ 9 29), .int p397107, .ref (γ 9 31), .int p397108, .int p397109, .int p397110, .ref q397095]) := (n397173 q396974 (rn_oo he397168 he397169 (by decide))).trans he397168
    have he397175 : F397171 q397049 = .inr (20, [.int 21, .int p397101, .int p397154, .int p397155, .int p397156, .int p397157, .int p397158]) := e397172
    have mk397176 : mKp (F396973 q396974) (F397171 q396974) := mKp_tr mk397170 (mKp_eq (n397173 q396974 (rn_ty ht397081 ht397146 (by decide))))
    have n397177 : ∀ b, b ≠ q397049 → F397171 b = F397048 b := fun b hb => (n397173 b hb).trans (n397167 b hb)
    refine G_aload 0 dr_cX17_load_34 rfl ?_
    refine G_iload 5 dr_cX17_load_36 rfl ?_
    refine Gp_put 4 hm397150 he397175 dr_cX17_load_38 (gk_X15 D I) (Nat.le_of_ble_eq_true rfl) wr_9_193 rfl rfl rfl (Nat.le_of_ble_eq_true rfl) (fun F397178 e397179 n397180 => ?_)
    have he397181 : F397178 q396974 = .inr (22, [.ref (γ 9 0), .ref (γ 9 1), .ref (γ 9 2), .ref (γ 9 3), .ref (γ 9 4), .ref (γ 9 5), .ref (γ 9 6), .ref (γ 9 7), .ref (γ 9 8), .int p397096, .int p397097, .int p397098, .int p397099, .int p397100, .int p397101, .ref (γ 9 15), .ref (γ 9 16), .ref (γ 9 17), .ref (γ 9 18), .ref (γ 9 19), .ref (γ 9 20), .ref (γ 9 21), .ref (γ 9 22), .int p397102, .int p397103, .int p397104, .int p397105, .int p397106, .ref q397094, .ref (γ 9 29), .int p397107, .ref (γ 9 31), .int p397108, .int p397109, .int p397110, .ref q397095]) := (n397180 q396974 (rn_oo he397174 he397175 (by decide))).trans he397174
    have he397182 : F397178 q397049 = .inr (20, [.int 21, .int p397101, .int p397154, .int p397155, .int p396978, .int p397157, .int p397158]) := e397179
    have mk397183 : mKp (F396973 q396974) (F397178 q396974) := mKp_tr mk397176 (mKp_eq (n397180 q396974 (rn_ty ht397081 ht397146 (by decide))))
    have n397184 : ∀ b, b ≠ q397049 → F397178 b = F397048 b := fun b hb => (n397180 b hb).trans (n397177 b hb)
    refine G_aload_n 3 dr_cX17_load_41 rfl ?_
    have hT397185 : RS D I P397047 F397178 γ el := RS_set hT397078 n397184 ht397146 (by decide) ⟨21, p397101, p397154, p397155, p396978, p397157, p397158, he397182, (gB_w (gBl (show Int32.toInt 21 = 21 by decide)) (by decide) (by decide)), bp397101', bp396978, (gB_w bp397157' (by decide) (by decide)), (gB_w bp397158' (by decide) (by decide)), (Or.inr (by decide)), r397160, r397161⟩
    have hs397187 := rSk_put hs397079 hT397185 n397184 ht397146 (by decide) (by decide)
    have hm397188 : q396976 ∈ P397047 := RS_m hT397185 ht397084 (by decide)
    obtain ⟨q397190, q397191, p397192, p397193, he397189, ht397200, ht397194, ht397195, ht397196, ht397197, ht397198, bp397192, bp397193, r397199, r397201, r397202⟩ := show rk_2 γ q396976 (F397178 q396976) from RS_o hT397185 ht397084
    have hf397203 : γ 1 q397190 = f := (show γ 1 q397190 = γ 1 q396976 from ht397195).trans hf397085
    have hf397204 : γ 1 q397191 = f := (show γ 1 q397191 = γ 1 q396976 from ht397197).trans hf397085
    have r397205 : γ 6 (γ 1 q396976) = γ 6 f := by rw [hf397085]
    have r397206 : γ 7 (γ 1 q396976) = γ 7 f := by rw [hf397085]
    have r397207 : γ 19 (γ 1 q396976) = γ 19 f := by rw [hf397085]
    have r397208 := r397199.resolve_left (by omega)
    clear r397199
    have r397209 : γ 2 (γ 14 q396976) = γ 2 q397190 := by rw [ht397200.1]
    refine Gp_get 0 hm397188 he397189 dr_cX17_load_42 (gk_X12 D I) (Nat.le_of_ble_eq_true rfl) wr_9_220 rfl ?_
    refine G_iload_n 4 dr_cX17_load_45 rfl ?_
    refine G_aload 0 dr_cX17_load_46 rfl ?_
    have pr397210 := fun (R : Nat → Nat → va_E → Prop) hN => rPl_fr (R := R) hT397078 ht397082 hf397083 (pr397056 R hN) (fun b hb _ => n397184 b (rn_ty (show rKd γ b 1 from hb) ht397146 (by decide)))
    have rg397211 := rM_ge hT397185 ht397082 hf397083
    have rm397212 := rM_bd hB397145
    have bd397213 := rBd_c hT397185 ht397082 hf397083 hB397145
    have rc397214 := rc_at hT397185 ht397082 hf397083
    have r397216 : γ 14 (el (γ 14 q396975) jx396979) = q397190 := by rw [r397090]; exact ht397200.1
    have r397217 := rg397211.2.2 _ r397089
    rw [r397216] at r397217
    have r397218 := bd397213.2.2.2 _ r397089
    rw [r397216] at r397218
    have r397219 : γ 7 (γ 1 q397049) = γ 7 f := by rw [x1397060]
    have hx397220 : rk_1 γ q397049 (F397178 q397049) := ⟨21, p397101, p397154, p397155, p396978, p397157, p397158, he397182, (gB_w (gBl (show Int32.toInt 21 = 21 by decide)) (by decide) (by decide)), bp397101', bp396978, (gB_w bp397157' (by decide) (by decide)), (gB_w bp397158' (by decide) (by decide)), (Or.inr (by decide)), r397160, r397161, (Or.inr (by omega))⟩
    refine Gt_ins (c := q396975) (f := f) hl0 dr_cX17_load_48 ⟨wr_10_207, wr_1_18, wr_10_210, by decide, rfl, (Nat.le_of_ble_eq_true rfl), (Nat.le_of_ble_eq_true rfl)⟩ wr_10_208 wr_10_209 hT397185 ht397194 hf397203 ht397146 x1397060 x22397061 r397147 (by omega) ht397082 hf397083 r397089 r397216 hx397220 (by omega) (by omega) (Nat.le_trans r397218 (Nat.le_trans hBk (by decide))) (rm_cs hph397148 r397217 rm397212 (by decide)) (rm_sl hph397148 r397217 rm397212 rm_s11) (Nat.le_of_ble_eq_true rfl) (fun P397221 F397215 γ el dc397222 ds397223 hq397224 => ?_)
    have ai397226 := fun (j : Nat) (hj : p396977.toInt.toNat ≤ j) => (rAt_ins hT397185 ht397082 hf397083 hq397224 r397216 (show jx396979 < _ by omega) (show p396977.toInt.toNat ≤ _ by omega) j hj).trans (ar397057 j)
    have pr397225 := fun (R R' : Nat → Nat → va_E → Prop) hN h1 h2 (h3 : ∀ e, (∀ n, nmS e n → n = p397101.toInt.toNat) → ((fI e 0).toInt = 21 → (fI e 1).toInt.toNat = p397101.toInt.toNat) → R' jx396979 p396977.toInt.toNat e) h4 => rPl_ins (R := R) (R' := R') hT397185 ht397082 hf397083 hq397224 r397216 (show jx396979 < _ by omega) (show p396977.toInt.toNat ≤ _ by omega) (pr397210 R hN) h1 h2 (h3 _ (nm_ld he397182 (by decide)).1 (nm_ld he397182 (by decide)).2) h4
    obtain ⟨hk397227, x0397228, h2397229, hel397230, hot397231, h16397232, h18397233, hnu397234, hFx397235, hr397236, hM397237, hBB397238⟩ := hq397224
    have hk397239 := rSk_of hk397227
    have r397240 : (fI (F397215 q396975) 3).toInt = (fI (F397178 q396975) 3).toInt := by rw [rSk_F hk397239 ht397082 (by decide) (by decide)]
    obtain ⟨nu397241, nu397242, nu397243, nu397244⟩ := hnu397234
    have hT397245 := hk397239.1
    have hs397246 := rSk_tr hs397187 hk397239 (by decide) (by decide) (by decide)
    have r397247 := rSk_F hk397239 ht397081 (by decide) (by decide)
    have ht397248 : rKd γ q396974 10 := rSk_k hk397239 ht397081 (by decide) (by decide)
    have ht397249 : rKd γ q396975 9 := rSk_k hk397239 ht397082 (by decide) (by decide)
    have hf397250 : γ 1 q396975 = f := rSk_1 hk397239 ht397082 (by decide) hf397083
    have ht397251 : rKd γ q396976 2 := rSk_k hk397239 ht397084 (by decide) (by decide)
    have hf397252 : γ 1 q396976 = f := rSk_1 hk397239 ht397084 (by decide) hf397085
    have ht397253 : rKd γ q397190 3 := rSk_k hk397239 ht397194 (by decide) (by decide)
    have hf397254 : γ 1 q397190 = f := rSk_1 hk397239 ht397194 (by decide) hf397203
    have mk397255 : mKp (F396973 q396974) (F397215 q396974) := mKp_tr mk397183 (mKp_eq (rSk_F hk397239 ht397081 (by decide) (by decide)))
    have r397256 := (rSk_s hk397239 ht397082 (by decide)).2.1
    have r397257 := hot397231 _ (by rw [rc397214.2.1]; decide) (fun q => by rw [q, show _ = 3 from ht397194] at rc397214; exact absurd rc397214.2.1 (by decide))
    have r397258 : jx396979 < γ 2 (γ 14 q396975) := by rw [r397256, r397257.1]; exact r397089
    have r397259 : el (γ 14 q396975) jx396979 = q396976 := by rw [r397256, r397257.2]; exact r397090
    clear bp397152 bp397153 bp397156 bp397157 bp397158 bp397154 bp397155 bp397192 bp397193 r397201 r397202 rg397211 rm397212 bd397213 rc397214 r397217 r397218
    clear r397159 r397160 r397161
    have r397260 : 0 < γ 6 (γ 1 q396975) := by rw [hf397250]; omega
    have hm397261 : q396974 ∈ P397221 := RS_m hT397245 ht397248 (by decide)
    obtain ⟨q397263, q397264, p397265, p397266, p397267, p397268, p397269, p397270, p397271, p397272, p397273, p397274, p397275, p397276, p397277, p397278, p397279, he397262, hB397306, ht397280, ht397281, ht397282, ht397283, ht397284, ht397285, ht397286, ht397287, ht397288, ht397289, ht397290, ht397291, ht397292, ht397293, ht397294, ht397295, ht397296, ht397297, ht397298, ht397299, ht397300, ht397301, ht397302, ht397303, hB397307⟩ := show rk_10 γ (F397215 q396974) from RS_o hT397245 ht397248
    have r397308 : p397267.toInt = p397098.toInt := by have z : p397267 = p397098 := congrArg (fun e => fI e 11) (he397262.symm.trans (r397247.trans he397181)); rw [z]
    have bp397267 : gB p397267 0 100 := (hB397306.2.2.1)
    have r397309 : p397270.toInt = p397101.toInt := by have z : p397270 = p397101 := congrArg (fun e => fI e 14) (he397262.symm.trans (r397247.trans he397181)); rw [z]
    have bp397270 : gB p397270 0 2000 := (hB397306.2.2.2.1)
    have bp397270' : gB p397270 0 1999 := ⟨by omega, by omega⟩
    have ht397310 : rKd γ q397049 1 := x0397228
    have hB397311 : rBd γ el f B := hBB397238 B hB397145
    have hph397312 : rPh γ0 el0 f ≤ rPh γ el f := rm_ph hph397148 hr397236.2
    have pk397313 : rPh γ el f ≤ 387 * B + 6000 := rm_pk (rM_ge hT397245 ht397249 hf397250).1 (rM_bd hB397311)
    refine G_widen (cs' := ((rPh γ el f - rPh γ0 el0 f) / 18)) (sl' := (rPh γ el f - rPh γ0 el0 f)) (rm_wc hph397148 hr397236.1) (rm_ws hph397148 hr397236.2) ?_
    have he397314 : F397215 q397049 = .inr (20, [.int 21, .int p397101, .int p397154, .int p397155, .int p396978, .int p397157, .int p397158]) := hFx397235.trans he397182
    have hm397315 : q397049 ∈ P397221 := RS_m hT397245 ht397310 (by decide)
    have r397316 : γ 14 q396976 = q397190 := ((rSk_s (rSk_of hk397227) ht397084 (by decide)).2.1).trans ht397200.1
    have sz397317 : γ 2 (γ 14 q396976) = γ 2 q397190 := by rw [r397316]
    refine G_aload_n 1 dr_cX17_load_51 rfl ?_
    refine G_dup dr_cX17_load_52 rfl ?_
    refine Gp_get 14 hm397261 he397262 dr_cX17_load_53 (gk_X17 D I) (Nat.le_of_ble_eq_true rfl) wr_7_88 rfl ?_
    refine G_iconst 1 dr_cX17_load_56 (by decide +kernel) ?_
    refine G_iadd dr_cX17_load_57 (G_nam fun z397318 hz397318 => ?_)
    have ez397318 : z397318.toInt = p397270.toInt + 1 := by rw [gI_add hz397318 bp397270' (gBl (show Int32.toInt 1 = 1 by decide)) (by decide) (by decide), show Int32.toInt 1 = 1 from by decide]
    have bz397318 : gB z397318 1 2000 := gB_add (gI_add hz397318 bp397270' (gBl (show Int32.toInt 1 = 1 by decide)) (by decide) (by decide)) bp397270' (gBl (show Int32.toInt 1 = 1 by decide)) (by decide) (by decide)
    refine Gp_put 14 hm397261 he397262 dr_cX17_load_58 (gk_X17 D I) (Nat.le_of_ble_eq_true rfl) wr_7_88 rfl rfl rfl (Nat.le_of_ble_eq_true rfl) (fun F397319 e397320 n397321 => ?_)
    have he397322 : F397319 q397049 = .inr (20, [.int 21, .int p397101, .int p397154, .int p397155, .int p396978, .int p397157, .int p397158]) := (n397321 q397049 (rn_oo he397314 he397262 (by decide))).trans he397314
    have he397323 : F397319 q396974 = .inr (22, [.ref (γ 9 0), .ref (γ 9 1), .ref (γ 9 2), .ref (γ 9 3), .ref (γ 9 4), .ref (γ 9 5), .ref (γ 9 6), .ref (γ 9 7), .ref (γ 9 8), .int p397265, .int p397266, .int p397267, .int p397268, .int p397269, .int z397318, .ref (γ 9 15), .ref (γ 9 16), .ref (γ 9 17), .ref (γ 9 18), .ref (γ 9 19), .ref (γ 9 20), .ref (γ 9 21), .ref (γ 9 22), .int p397271, .int p397272, .int p397273, .int p397274, .int p397275, .ref q397263, .ref (γ 9 29), .int p397276, .ref (γ 9 31), .int p397277, .int p397278, .int p397279, .ref q397264]) := e397320
    have mk397324 : mKp (F396973 q396974) (F397319 q396974) := mKp_tr mk397255 (by rw [he397262, he397323]; exact ⟨rfl, rfl⟩)
    have hT397325 : RS D I P397221 F397319 γ el := RS_set hT397245 n397321 ht397248 (by decide) ⟨q397263, q397264, p397265, p397266, p397267, p397268, p397269, z397318, p397271, p397272, p397273, p397274, p397275, p397276, p397277, p397278, p397279, he397323, ⟨(hB397306.1), (hB397306.2.1), bp397267, (gB_w bz397318 (by decide) (by decide)), (hB397306.2.2.2.2.1), (hB397306.2.2.2.2.2.1), (hB397306.2.2.2.2.2.2.1), (hB397306.2.2.2.2.2.2.2.1), (hB397306.2.2.2.2.2.2.2.2)⟩, ht397280, ht397281, ht397282, ht397283, ht397284, ht397285, ht397286, ht397287, ht397288, ht397289, ht397290, ht397291, ht397292, ht397293, ht397294, ht397295, ht397296, ht397297, ht397298, ht397299, ht397300, ht397301, ht397302, ht397303, hB397307⟩
    have hs397327 := rSk_put hs397246 hT397325 n397321 ht397248 (by decide) (by decide)
    have pr397328 := fun (R R' : Nat → Nat → va_E → Prop) hN h1 h2 h3 h4 => rPl_fr (R := R') hT397245 ht397249 hf397250 (pr397225 R R' hN h1 h2 h3 h4) (fun b hb _ => n397321 b (rn_ty (show rKd γ b 1 from hb) ht397248 (by decide)))
    refine G_aload 0 dr_cX17_load_61 rfl ?_
    refine Gp_get 1 hm397315 he397322 dr_cX17_load_63 (gk_X15 D I) (Nat.le_of_ble_eq_true rfl) wr_9_182 rfl ?_
    have ac397329 : (fI (F397319 q396974) 11).toInt = p397267.toInt := by rw [he397323]; rfl
    have ac397330 : (fI (F397319 q396974) 14).toInt = z397318.toInt := by rw [he397323]; rfl
    exact G_iretA dr_cX17_load_66 rfl (show ((rPh γ el f - rPh γ0 el0 f) / 18) ≤ (((387 * B + 6000) - rPh γ0 el0 f) / 18) by omega) (show (rPh γ el f - rPh γ0 el0 f) ≤ ((387 * B + 6000) - rPh γ0 el0 f) by omega) ⟨P397221, F397319, γ, el, p397101, rfl, rfl, hs397327, ⟨by omega, by omega⟩, hB397311, (gB_w bp397101' (by decide) (by decide)), (by omega), (by omega), (by omega), ⟨(rSk_s hs397327 hzq396976 (by decide)).2.1, r397258, r397259⟩, (Or.inr ⟨by omega, by omega, by omega, by omega, by omega⟩), (by omega), (Or.inr pr397328), (Or.inr ai397226), mk397324⟩
  · have r397331 : p397003.toInt = 2000 := gj_eq hc397041 (show Int32.toInt 2000 = 2000 by decide)
    have bp397003' : gB p397003 2000 2000 := ⟨by omega, by omega⟩
    have ac397332 : (fI (F396973 q396974) 11).toInt = p397000.toInt := by rw [he396995]; rfl
    have ac397333 : (fI (F396973 q396974) 14).toInt = p397003.toInt := by rw [he396995]; rfl
    refine G_iconst (-1) dr_cX17_load_10 (by decide +kernel) ?_
    exact G_iretA dr_cX17_load_11 rfl (show ((rPh γ el f - rPh γ0 el0 f) / 18) ≤ (((387 * B + 6000) - rPh γ0 el0 f) / 18) by omega) (show (rPh γ el f - rPh γ0 el0 f) ≤ ((387 * B + 6000) - rPh γ0 el0 f) by omega) ⟨P396972, F396973, γ, el, (-1), rfl, rfl, hst, ⟨by omega, by omega⟩, hB, (gB_w (gBl (show Int32.toInt (-1) = (-1) by decide)) (by decide) (by decide)), (by have qa0 : Int32.toInt (-1) = (-1) := (by decide); omega), (by have qa0 : Int32.toInt (-1) = (-1) := (by decide); omega), (by have qa0 : Int32.toInt (-1) = (-1) := (by decide); omega), ⟨(rSk_s hst hzq396976 (by decide)).2.1, hpjjx396979, hpejx396979⟩, (Or.inl (by decide)), (by have qa0 : Int32.toInt (-1) = (-1) := (by decide); omega), (Or.inl (by decide)), (Or.inl (by decide)), mKp_rf⟩
abbrev ky_397347_Row_usesA : gKey := (cX15_usesA, 1, "SpillForgeModel$Row", (some FieldType.boolean), [], "usesA", fun _ _ => True)
def pp_397347_Row_usesA (D : va_G) (I : FieldType → ClassId) (P397337 : List Nat) (F397338 : Nat → va_E) (q397339 : Nat) (p397340 : Int32) (p397341 : Int32) (p397342 : Int32) (p397343 : Int32) (p397344 : Int32) (p397345 : Int32) (p397346 : Int32) : Option Value → va_W → Nat → Nat → Prop := fun r w dc ds => ∃ (o397360 : Int32), r = some (.int o397360) ∧ w = va_pl P397337 F397338 ∧ dc ≤ 0 ∧ ds ≤ 0 ∧ gB o397360 0 1 ∧ (uA o397360.toInt p397340.toInt p397345.toInt)
set_option maxRecDepth 100000 in
set_option maxHeartbeats 4000000 in
theorem cp_397347_Row_usesA (l : Launch) (hl0 : l.stackTraces = false) (D : va_G) (I : FieldType → ClassId) (P397337 : List Nat) (F397338 : Nat → va_E) (q397339 : Nat) (p397340 : Int32) (p397341 : Int32) (p397342 : Int32) (p397343 : Int32) (p397344 : Int32) (p397345 : Int32) (p397346 : Int32) (hmq397339 : q397339 ∈ P397337) (heq397339 : F397338 q397339 = .inr (20, [.int p397340, .int p397341, .int p397342, .int p397343, .int p397344, .int p397345, .int p397346])) (bp397340 : gB p397340 0 32) (bp397341 : gB p397341 0 1999) (bp397344 : gB p397344 0 1999) (bp397345 : gB p397345 0 1) (bp397346 : gB p397346 0 1) : CtA (gV D I) l yX15_usesA cX15_usesA 1 (some FieldType.boolean) 0 0 0 0 [.ref q397339] (va_pl P397337 F397338) (pp_397347_Row_usesA D I P397337 F397338 q397339 p397340 p397341 p397342 p397343 p397344 p397345 p397346) gNA := by
  refine CtA_of hl0 (by decide) (Nat.le_of_ble_eq_true rfl) ?_
  have bp397342 := gB_any p397342
  have bp397343 := gB_any p397343
  refine G_aload_n 0 dr_cX15_usesA_0 rfl ?_
  refine Gp_get 0 hmq397339 heq397339 dr_cX15_usesA_1 (gk_X15 D I) (Nat.le_of_ble_eq_true rfl) wr_9_175 rfl ?_
  refine G_bipush 20 dr_cX15_usesA_4 (by decide +kernel) ?_
  refine G_icmp_eq 38 dr_cX15_usesA_6 (by decide +kernel) (fun hc397348 => ?_) (fun hc397348 => ?_)
  · have r397349 : p397340.toInt = 20 := gj_eq hc397348 (show Int32.toInt 20 = 20 by decide)
    have bp397340' : gB p397340 20 20 := ⟨by omega, by omega⟩
    refine G_iconst 0 dr_cX15_usesA_38 (by decide +kernel) ?_
    exact G_zretA FieldType.boolean dr_cX15_usesA_39 rfl rfl (Nat.le_of_ble_eq_true rfl) (Nat.le_of_ble_eq_true rfl) ⟨0, rfl, rfl, (Nat.le_of_ble_eq_true rfl), (Nat.le_of_ble_eq_true rfl), (gB_w (gBl (show Int32.toInt 0 = 0 by decide)) (by decide) (by decide)), (by unfold uA; first | omega | (have qa0 : Int32.toInt 0 = 0 := (by decide); have qa1 : Int32.toInt 1 = 1 := (by decide); omega))⟩
  · have r397350 : p397340.toInt ≠ 20 := gj_neq hc397348 (show Int32.toInt 20 = 20 by decide)
    refine G_aload_n 0 dr_cX15_usesA_9 rfl ?_
    refine Gp_get 0 hmq397339 heq397339 dr_cX15_usesA_10 (gk_X15 D I) (Nat.le_of_ble_eq_true rfl) wr_9_175 rfl ?_
    refine G_bipush 21 dr_cX15_usesA_13 (by decide +kernel) ?_
    refine G_icmp_eq 38 dr_cX15_usesA_15 (by decide +kernel) (fun hc397351 => ?_) (fun hc397351 => ?_)
    · have r397352 : p397340.toInt = 21 := gj_eq hc397351 (show Int32.toInt 21 = 21 by decide)
      have bp397340' : gB p397340 21 21 := ⟨by omega, by omega⟩
      refine G_iconst 0 dr_cX15_usesA_38 (by decide +kernel) ?_
      exact G_zretA FieldType.boolean dr_cX15_usesA_39 rfl rfl (Nat.le_of_ble_eq_true rfl) (Nat.le_of_ble_eq_true rfl) ⟨0, rfl, rfl, (Nat.le_of_ble_eq_true rfl), (Nat.le_of_ble_eq_true rfl), (gB_w (gBl (show Int32.toInt 0 = 0 by decide)) (by decide) (by decide)), (by unfold uA; first | omega | (have qa0 : Int32.toInt 0 = 0 := (by decide); have qa1 : Int32.toInt 1 = 1 := (by decide); omega))⟩
    · have r397353 : p397340.toInt ≠ 21 := gj_neq hc397351 (show Int32.toInt 21 = 21 by decide)
      refine G_aload_n 0 dr_cX15_usesA_18 rfl ?_
      refine Gp_get 0 hmq397339 heq397339 dr_cX15_usesA_19 (gk_X15 D I) (Nat.le_of_ble_eq_true rfl) wr_9_175 rfl ?_
      refine G_bipush 30 dr_cX15_usesA_22 (by decide +kernel) ?_
      refine G_icmp_eq 38 dr_cX15_usesA_24 (by decide +kernel) (fun hc397354 => ?_) (fun hc397354 => ?_)
      · have r397355 : p397340.toInt = 30 := gj_eq hc397354 (show Int32.toInt 30 = 30 by decide)
        have bp397340' : gB p397340 30 30 := ⟨by omega, by omega⟩
        refine G_iconst 0 dr_cX15_usesA_38 (by decide +kernel) ?_
        exact G_zretA FieldType.boolean dr_cX15_usesA_39 rfl rfl (Nat.le_of_ble_eq_true rfl) (Nat.le_of_ble_eq_true rfl) ⟨0, rfl, rfl, (Nat.le_of_ble_eq_true rfl), (Nat.le_of_ble_eq_true rfl), (gB_w (gBl (show Int32.toInt 0 = 0 by decide)) (by decide) (by decide)), (by unfold uA; first | omega | (have qa0 : Int32.toInt 0 = 0 := (by decide); have qa1 : Int32.toInt 1 = 1 := (by decide); omega))⟩
      · have r397356 : p397340.toInt ≠ 30 := gj_neq hc397354 (show Int32.toInt 30 = 30 by decide)
        refine G_aload_n 0 dr_cX15_usesA_27 rfl ?_
        refine Gp_get 5 hmq397339 heq397339 dr_cX15_usesA_28 (gk_X15 D I) (Nat.le_of_ble_eq_true rfl) wr_9_195 rfl ?_
        refine G_if_eq 38 dr_cX15_usesA_31 (by decide +kernel) (fun hc397357 => ?_) (fun hc397357 => ?_)
        · have r397358 : p397345.toInt = 0 := gj_eq hc397357 (show Int32.toInt 0 = 0 by decide)
          have bp397345' : gB p397345 0 0 := ⟨by omega, by omega⟩
          refine G_iconst 0 dr_cX15_usesA_38 (by decide +kernel) ?_
          exact G_zretA FieldType.boolean dr_cX15_usesA_39 rfl rfl (Nat.le_of_ble_eq_true rfl) (Nat.le_of_ble_eq_true rfl) ⟨0, rfl, rfl, (Nat.le_of_ble_eq_true rfl), (Nat.le_of_ble_eq_true rfl), (gB_w (gBl (show Int32.toInt 0 = 0 by decide)) (by decide) (by decide)), (by unfold uA; first | omega | (have qa0 : Int32.toInt 0 = 0 := (by decide); have qa1 : Int32.toInt 1 = 1 := (by decide); omega))⟩
        · have r397359 : p397345.toInt ≠ 0 := gj_neq hc397357 (show Int32.toInt 0 = 0 by decide)
          have bp397345' : gB p397345 1 1 := ⟨by omega, by omega⟩
          refine G_iconst 1 dr_cX15_usesA_34 (by decide +kernel) ?_
          refine G_goto 39 dr_cX15_usesA_35 (by decide +kernel) ?_
          exact G_zretA FieldType.boolean dr_cX15_usesA_39 rfl rfl (Nat.le_of_ble_eq_true rfl) (Nat.le_of_ble_eq_true rfl) ⟨1, rfl, rfl, (Nat.le_of_ble_eq_true rfl), (Nat.le_of_ble_eq_true rfl), (gB_w (gBl (show Int32.toInt 1 = 1 by decide)) (by decide) (by decide)), (by unfold uA; first | omega | (have qa0 : Int32.toInt 0 = 0 := (by decide); have qa1 : Int32.toInt 1 = 1 := (by decide); omega))⟩
abbrev ky_397371_Row_usesB : gKey := (cX15_usesB, 1, "SpillForgeModel$Row", (some FieldType.boolean), [], "usesB", fun _ _ => True)
def pp_397371_Row_usesB (D : va_G) (I : FieldType → ClassId) (P397361 : List Nat) (F397362 : Nat → va_E) (q397363 : Nat) (p397364 : Int32) (p397365 : Int32) (p397366 : Int32) (p397367 : Int32) (p397368 : Int32) (p397369 : Int32) (p397370 : Int32) : Option Value → va_W → Nat → Nat → Prop := fun r w dc ds => ∃ (o397381 : Int32), r = some (.int o397381) ∧ w = va_pl P397361 F397362 ∧ dc ≤ 0 ∧ ds ≤ 0 ∧ gB o397381 0 1 ∧ (uB o397381.toInt p397364.toInt p397370.toInt)
set_option maxRecDepth 100000 in
set_option maxHeartbeats 4000000 in
theorem cp_397371_Row_usesB (l : Launch) (hl0 : l.stackTraces = false) (D : va_G) (I : FieldType → ClassId) (P397361 : List Nat) (F397362 : Nat → va_E) (q397363 : Nat) (p397364 : Int32) (p397365 : Int32) (p397366 : Int32) (p397367 : Int32) (p397368 : Int32) (p397369 : Int32) (p397370 : Int32) (hmq397363 : q397363 ∈ P397361) (heq397363 : F397362 q397363 = .inr (20, [.int p397364, .int p397365, .int p397366, .int p397367, .int p397368, .int p397369, .int p397370])) (bp397364 : gB p397364 0 32) (bp397365 : gB p397365 0 1999) (bp397368 : gB p397368 0 1999) (bp397369 : gB p397369 0 1) (bp397370 : gB p397370 0 1) : CtA (gV D I) l yX15_usesB cX15_usesB 1 (some FieldType.boolean) 0 0 0 0 [.ref q397363] (va_pl P397361 F397362) (pp_397371_Row_usesB D I P397361 F397362 q397363 p397364 p397365 p397366 p397367 p397368 p397369 p397370) gNA := by
  refine CtA_of hl0 (by decide) (Nat.le_of_ble_eq_true rfl) ?_
  have bp397366 := gB_any p397366
  have bp397367 := gB_any p397367
  refine G_aload_n 0 dr_cX15_usesB_0 rfl ?_
  refine Gp_get 0 hmq397363 heq397363 dr_cX15_usesB_1 (gk_X15 D I) (Nat.le_of_ble_eq_true rfl) wr_9_175 rfl ?_
  refine G_if_le 27 dr_cX15_usesB_4 (by decide +kernel) (fun hc397372 => ?_) (fun hc397372 => ?_)
  · have r397373 : p397364.toInt ≤ 0 := gj_le hc397372 (show Int32.toInt 0 = 0 by decide)
    have bp397364' : gB p397364 0 0 := ⟨by omega, by omega⟩
    refine G_iconst 0 dr_cX15_usesB_27 (by decide +kernel) ?_
    exact G_zretA FieldType.boolean dr_cX15_usesB_28 rfl rfl (Nat.le_of_ble_eq_true rfl) (Nat.le_of_ble_eq_true rfl) ⟨0, rfl, rfl, (Nat.le_of_ble_eq_true rfl), (Nat.le_of_ble_eq_true rfl), (gB_w (gBl (show Int32.toInt 0 = 0 by decide)) (by decide) (by decide)), (by unfold uB; first | omega | (have qa0 : Int32.toInt 0 = 0 := (by decide); have qa1 : Int32.toInt 1 = 1 := (by decide); omega))⟩
  · have r397374 : 0 < p397364.toInt := gj_nle hc397372 (show Int32.toInt 0 = 0 by decide)
    have bp397364' : gB p397364 1 32 := ⟨by omega, by omega⟩
    refine G_aload_n 0 dr_cX15_usesB_7 rfl ?_
    refine Gp_get 0 hmq397363 heq397363 dr_cX15_usesB_8 (gk_X15 D I) (Nat.le_of_ble_eq_true rfl) wr_9_175 rfl ?_
    refine G_bipush 20 dr_cX15_usesB_11 (by decide +kernel) ?_
    refine G_icmp_ge 27 dr_cX15_usesB_13 (by decide +kernel) (fun hc397375 => ?_) (fun hc397375 => ?_)
    · have r397376 : 20 ≤ p397364.toInt := gj_leL hc397375 (show Int32.toInt 20 = 20 by decide)
      have bp397364'' : gB p397364 20 32 := ⟨by omega, by omega⟩
      refine G_iconst 0 dr_cX15_usesB_27 (by decide +kernel) ?_
      exact G_zretA FieldType.boolean dr_cX15_usesB_28 rfl rfl (Nat.le_of_ble_eq_true rfl) (Nat.le_of_ble_eq_true rfl) ⟨0, rfl, rfl, (Nat.le_of_ble_eq_true rfl), (Nat.le_of_ble_eq_true rfl), (gB_w (gBl (show Int32.toInt 0 = 0 by decide)) (by decide) (by decide)), (by unfold uB; first | omega | (have qa0 : Int32.toInt 0 = 0 := (by decide); have qa1 : Int32.toInt 1 = 1 := (by decide); omega))⟩
    · have r397377 : p397364.toInt < 20 := gj_nleL hc397375 (show Int32.toInt 20 = 20 by decide)
      have bp397364'' : gB p397364 1 19 := ⟨by omega, by omega⟩
      refine G_aload_n 0 dr_cX15_usesB_16 rfl ?_
      refine Gp_get 6 hmq397363 heq397363 dr_cX15_usesB_17 (gk_X15 D I) (Nat.le_of_ble_eq_true rfl) wr_9_199 rfl ?_
      refine G_if_eq 27 dr_cX15_usesB_20 (by decide +kernel) (fun hc397378 => ?_) (fun hc397378 => ?_)
      · have r397379 : p397370.toInt = 0 := gj_eq hc397378 (show Int32.toInt 0 = 0 by decide)
        have bp397370' : gB p397370 0 0 := ⟨by omega, by omega⟩
        refine G_iconst 0 dr_cX15_usesB_27 (by decide +kernel) ?_
        exact G_zretA FieldType.boolean dr_cX15_usesB_28 rfl rfl (Nat.le_of_ble_eq_true rfl) (Nat.le_of_ble_eq_true rfl) ⟨0, rfl, rfl, (Nat.le_of_ble_eq_true rfl), (Nat.le_of_ble_eq_true rfl), (gB_w (gBl (show Int32.toInt 0 = 0 by decide)) (by decide) (by decide)), (by unfold uB; first | omega | (have qa0 : Int32.toInt 0 = 0 := (by decide); have qa1 : Int32.toInt 1 = 1 := (by decide); omega))⟩
      · have r397380 : p397370.toInt ≠ 0 := gj_neq hc397378 (show Int32.toInt 0 = 0 by decide)
        have bp397370' : gB p397370 1 1 := ⟨by omega, by omega⟩
        refine G_iconst 1 dr_cX15_usesB_23 (by decide +kernel) ?_
        refine G_goto 28 dr_cX15_usesB_24 (by decide +kernel) ?_
        exact G_zretA FieldType.boolean dr_cX15_usesB_28 rfl rfl (Nat.le_of_ble_eq_true rfl) (Nat.le_of_ble_eq_true rfl) ⟨1, rfl, rfl, (Nat.le_of_ble_eq_true rfl), (Nat.le_of_ble_eq_true rfl), (gB_w (gBl (show Int32.toInt 1 = 1 by decide)) (by decide) (by decide)), (by unfold uB; first | omega | (have qa0 : Int32.toInt 0 = 0 := (by decide); have qa1 : Int32.toInt 1 = 1 := (by decide); omega))⟩
abbrev ky_397392_Row_sets : gKey := (cX15_sets, 1, "SpillForgeModel$Row", (some FieldType.boolean), [], "sets", fun _ _ => True)
def pp_397392_Row_sets (D : va_G) (I : FieldType → ClassId) (P397382 : List Nat) (F397383 : Nat → va_E) (q397384 : Nat) (p397385 : Int32) (p397386 : Int32) (p397387 : Int32) (p397388 : Int32) (p397389 : Int32) (p397390 : Int32) (p397391 : Int32) : Option Value → va_W → Nat → Nat → Prop := fun r w dc ds => ∃ (o397396 : Int32), r = some (.int o397396) ∧ w = va_pl P397382 F397383 ∧ dc ≤ 0 ∧ ds ≤ 0 ∧ gB o397396 0 1 ∧ (uS o397396.toInt p397385.toInt)
set_option maxRecDepth 100000 in
set_option maxHeartbeats 4000000 in
theorem cp_397392_Row_sets (l : Launch) (hl0 : l.stackTraces = false) (D : va_G) (I : FieldType → ClassId) (P397382 : List Nat) (F397383 : Nat → va_E) (q397384 : Nat) (p397385 : Int32) (p397386 : Int32) (p397387 : Int32) (p397388 : Int32) (p397389 : Int32) (p397390 : Int32) (p397391 : Int32) (hmq397384 : q397384 ∈ P397382) (heq397384 : F397383 q397384 = .inr (20, [.int p397385, .int p397386, .int p397387, .int p397388, .int p397389, .int p397390, .int p397391])) (bp397385 : gB p397385 0 32) (bp397386 : gB p397386 0 1999) (bp397389 : gB p397389 0 1999) (bp397390 : gB p397390 0 1) (bp397391 : gB p397391 0 1) : CtA (gV D I) l yX15_sets cX15_sets 1 (some FieldType.boolean) 0 0 0 0 [.ref q397384] (va_pl P397382 F397383) (pp_397392_Row_sets D I P397382 F397383 q397384 p397385 p397386 p397387 p397388 p397389 p397390 p397391) gNA := by
  refine CtA_of hl0 (by decide) (Nat.le_of_ble_eq_true rfl) ?_
  have bp397387 := gB_any p397387
  have bp397388 := gB_any p397388
  refine G_aload_n 0 dr_cX15_sets_0 rfl ?_
  refine Gp_get 0 hmq397384 heq397384 dr_cX15_sets_1 (gk_X15 D I) (Nat.le_of_ble_eq_true rfl) wr_9_175 rfl ?_
  refine G_bipush 21 dr_cX15_sets_4 (by decide +kernel) ?_
  refine G_icmp_gt 13 dr_cX15_sets_6 (by decide +kernel) (fun hc397393 => ?_) (fun hc397393 => ?_)
  · have r397394 : 21 < p397385.toInt := gj_ltL hc397393 (show Int32.toInt 21 = 21 by decide)
    have bp397385' : gB p397385 22 32 := ⟨by omega, by omega⟩
    refine G_iconst 0 dr_cX15_sets_13 (by decide +kernel) ?_
    exact G_zretA FieldType.boolean dr_cX15_sets_14 rfl rfl (Nat.le_of_ble_eq_true rfl) (Nat.le_of_ble_eq_true rfl) ⟨0, rfl, rfl, (Nat.le_of_ble_eq_true rfl), (Nat.le_of_ble_eq_true rfl), (gB_w (gBl (show Int32.toInt 0 = 0 by decide)) (by decide) (by decide)), (by unfold uS; first | omega | (have qa0 : Int32.toInt 0 = 0 := (by decide); have qa1 : Int32.toInt 1 = 1 := (by decide); omega))⟩
  · have r397395 : p397385.toInt ≤ 21 := gj_nltL hc397393 (show Int32.toInt 21 = 21 by decide)
    have bp397385' : gB p397385 0 21 := ⟨by omega, by omega⟩
    refine G_iconst 1 dr_cX15_sets_9 (by decide +kernel) ?_
    refine G_goto 14 dr_cX15_sets_10 (by decide +kernel) ?_
    exact G_zretA FieldType.boolean dr_cX15_sets_14 rfl rfl (Nat.le_of_ble_eq_true rfl) (Nat.le_of_ble_eq_true rfl) ⟨1, rfl, rfl, (Nat.le_of_ble_eq_true rfl), (Nat.le_of_ble_eq_true rfl), (gB_w (gBl (show Int32.toInt 1 = 1 by decide)) (by decide) (by decide)), (by unfold uS; first | omega | (have qa0 : Int32.toInt 0 = 0 := (by decide); have qa1 : Int32.toInt 1 = 1 := (by decide); omega))⟩
abbrev ky_397455_SpillForgeModel_findDepth : gKey := (cX17_findDepth, 13, "SpillForgeModel", none, [], "findDepth", fun _ _ => True)
def pt_397455_SpillForgeModel_findDepth (D : va_G) (I : FieldType → ClassId) (γ el : Nat → Nat → Nat) (P397450 : List Nat) (F397451 : Nat → va_E) (q397452 : Nat) (q397453 : Nat) : Option Value → va_W → Nat → Nat → Prop := fun r w dc ds => ∃ (F518327 : Nat → va_E), r = none ∧ w = va_pl P397450 F518327 ∧ RS D I P397450 F518327 γ el ∧ rStr γ [] F397451 F518327 ∧ dc ≤ 0 ∧ ds ≤ 0 ∧ (F518327 q397452 = F397451 q397452) ∧ (F518327 (γ 9 3) = F397451 (γ 9 3))
set_option maxRecDepth 100000 in
set_option maxHeartbeats 4000000 in
theorem ct_397455_SpillForgeModel_findDepth (l : Launch) (hl0 : l.stackTraces = false) (D : va_G) (I : FieldType → ClassId) (γ el : Nat → Nat → Nat) (P397450 : List Nat) (F397451 : Nat → va_E) (q397452 : Nat) (q397453 : Nat) (hT : RS D I P397450 F397451 γ el) (htq397452 : rKd γ q397452 10) (htq397453 : rKd γ q397453 9) (x397454 : 0 < γ 6 (γ 1 q397453)) : CtA (gV D I) l yX17_findDepth cX17_findDepth 13 none 5 112 0 0 [.ref q397452, .ref q397453] (va_pl P397450 F397451) (pt_397455_SpillForgeModel_findDepth D I γ el P397450 F397451 q397452 q397453) gNA := by
  refine CtA_of hl0 (by decide) (Nat.le_of_ble_eq_true rfl) ?_
  have hm397456 : q397452 ∈ P397450 := RS_m hT htq397452 (by decide)
  refine rk10_e (show rk_10 γ (F397451 q397452) from RS_o hT htq397452) (fun q397458 q397459 p397460 p397461 p397462 p397463 p397464 p397465 p397466 p397467 p397468 p397469 p397470 p397471 p397472 p397473 p397474 he397457 hB397501 ht397475 ht397476 ht397477 ht397478 ht397479 ht397480 ht397481 ht397482 ht397483 ht397484 ht397485 ht397486 ht397487 ht397488 ht397489 ht397490 ht397491 ht397492 ht397493 ht397494 ht397495 ht397496 ht397497 ht397498 hB397502 => ?_)
  refine G_iconst 0 dr_cX17_findDepth_0 (by decide +kernel) ?_
  refine G_istore_n (L' := [(2, .int 0), (0, .ref q397452), (1, .ref q397453)]) dr_cX17_findDepth_1 (Nat.le_of_ble_eq_true rfl) rfl ?_
  have hlp2_512855 : ∀ (n2_512855 : Nat) (F512851 : Nat → va_E) (g512850 : Int32), gB g512850 0 1000000 → RS D I P397450 F512851 γ el → rStr γ [] F397451 F512851 → (F512851 q397452 = F397451 q397452) → (F512851 (γ 9 3) = F397451 (γ 9 3)) → ((1000001 : Int) - g512850.toInt).toNat < n2_512855 → G (gV D I) l (gRm 5 112 0 0) (gMA (gV D I) (pt_397455_SpillForgeModel_findDepth D I γ el P397450 F397451 q397452 q397453) gNA 0 0) ky_397455_SpillForgeModel_findDepth 2 [(2, .int g512850), (0, .ref q397452), (1, .ref q397453)] [] (va_pl P397450 F512851) 0 0 := by
    intro n2_512855
    induction n2_512855 with
    | zero => intro F512851 g512850 bg512850 hT512852 hs512853 x512854 x512855 hm2_512855; exact absurd hm2_512855 (Nat.not_lt_zero _)
    | succ n2_512855 ih2_512855 =>
      intro F512851 g512850 bg512850 hT512852 hs512853 x512854 x512855 hm2_512855
      have hs512857 : rStr γ [] F397451 F512851 := fun b h0 hb hw => (hs512853 b h0 hb hw).trans ((rStr_rf (γ := γ) (W := []) (F := F397451)) b h0 hb hw).symm
      have hs512858 : rStr γ [] F397451 F512851 := rStr_tr (rStr_rf (γ := γ) (W := []) (F := F397451)) hs512857
      have he512859 : F512851 q397452 = .inr (22, [.ref (γ 9 0), .ref (γ 9 1), .ref (γ 9 2), .ref (γ 9 3), .ref (γ 9 4), .ref (γ 9 5), .ref (γ 9 6), .ref (γ 9 7), .ref (γ 9 8), .int p397460, .int p397461, .int p397462, .int p397463, .int p397464, .int p397465, .ref (γ 9 15), .ref (γ 9 16), .ref (γ 9 17), .ref (γ 9 18), .ref (γ 9 19), .ref (γ 9 20), .ref (γ 9 21), .ref (γ 9 22), .int p397466, .int p397467, .int p397468, .int p397469, .int p397470, .ref q397458, .ref (γ 9 29), .int p397471, .ref (γ 9 31), .int p397472, .int p397473, .int p397474, .ref q397459]) := x512854.trans he397457
      have hm512860 : q397452 ∈ P397450 := RS_m hT512852 htq397452 (by decide)
      refine G_iload_n 0 dr_cX17_findDepth_2 rfl ?_
      refine G_aload_n 2 dr_cX17_findDepth_3 rfl ?_
      have hm512861 : q397453 ∈ P397450 := RS_m hT512852 htq397453 (by decide)
      obtain ⟨q512863, q512864, p512865, p512866, he512862, ht512882, ht512867, ht512868, ht512869, ht512870, r512871, r512872, r512873, r512874, r512875, r512876, r512877, r512878, r512879, r512880, r512881⟩ := show rk_9 γ el q397453 (F512851 q397453) from RS_o hT512852 htq397453
      have bp512865 : gB p512865 0 1000000 := ⟨by omega, by omega⟩
      have bp512866 : gB p512866 0 1000000 := ⟨by omega, by omega⟩
      refine Gw_callV (As := []) (gV_ok D I) (cp_12451_Code_size l hl0 D I P397450 F512851 q397453 q512863 q512864 p512865 p512866 hm512861 he512862) dr_cX17_findDepth_4 ⟨wr_10_160, wr_1_15, wr_9_131, by decide, rfl, (Nat.le_of_ble_eq_true rfl), (Nat.le_of_ble_eq_true rfl)⟩ wr_9_129 wr_9_130 hm512861 he512862 rfl (show 0 + 0 ≤ 0 by first | omega | decide) (show 0 + 0 ≤ 0 by first | omega | decide) (Nat.le_of_ble_eq_true rfl) (fun r512886 w512887 dc512883 ds512884 hp512885 => ?_) (fun _ _ _ _ _ z => z.elim)
      obtain ⟨rfl, rfl, hdc, hds⟩ := hp512885
      change G _ _ _ _ _ _ _ (.int p512866 :: _) _ _ _
      refine G_widen (cs' := 0) (sl' := 0) (by omega) (by omega) ?_
      refine G_icmp_ge 23 dr_cX17_findDepth_7 (by decide +kernel) (fun hc512888 => ?_) (fun hc512888 => ?_)
      · have r512889 : p512866.toInt ≤ g512850.toInt := gC_le hc512888
        refine G_aload_n 2 dr_cX17_findDepth_23 rfl ?_
        refine G_iconst (-1) dr_cX17_findDepth_24 (by decide +kernel) ?_
        refine Gw_callS (As := [.ref q397453, .int (-1)]) (gV_ok D I) (ct_12419_SpillForgeModel_reached l hl0 D I γ el P397450 F512851 q397453 (-1) hT512852 htq397453 (by omega)) dr_cX17_findDepth_25 ⟨wr_11_41, wr_1_14, wr_11_43, by decide, rfl, (Nat.le_of_ble_eq_true rfl), (Nat.le_of_ble_eq_true rfl)⟩ wr_11_42 (show 0 + 0 ≤ 0 by first | omega | decide) (show 0 + 0 ≤ 0 by first | omega | decide) (Nat.le_of_ble_eq_true rfl) (fun r512893 w512894 dc512890 ds512891 hp512892 => ?_) (fun _ _ _ _ _ z => z.elim)
        obtain ⟨ol512895, rfl, rfl, hdc, hds⟩ := hp512892
        change G _ _ _ _ _ _ _ (.long ol512895 :: _) _ _ _
        refine G_widen (cs' := 0) (sl' := 0) (by omega) (by omega) ?_
        refine G_lstore_n (L' := [(2, .long ol512895), (0, .ref q397452), (1, .ref q397453)]) dr_cX17_findDepth_28 (Nat.le_of_ble_eq_true rfl) rfl ?_
        refine G_iconst 0 dr_cX17_findDepth_29 (by decide +kernel) ?_
        refine G_istore (L' := [(4, .int 0), (2, .long ol512895), (0, .ref q397452), (1, .ref q397453)]) dr_cX17_findDepth_30 (Nat.le_of_ble_eq_true rfl) rfl ?_
        have hlp32_515607 : ∀ (n32_515607 : Nat) (F515603 : Nat → va_E) (g515602 : Int32), gB g515602 0 1000000 → RS D I P397450 F515603 γ el → rStr γ [] F397451 F515603 → (F515603 q397452 = F397451 q397452) → (F515603 (γ 9 3) = F397451 (γ 9 3)) → ((1000001 : Int) - g515602.toInt).toNat < n32_515607 → G (gV D I) l (gRm 5 112 0 0) (gMA (gV D I) (pt_397455_SpillForgeModel_findDepth D I γ el P397450 F397451 q397452 q397453) gNA 0 0) ky_397455_SpillForgeModel_findDepth 32 [(4, .int g515602), (2, .long ol512895), (0, .ref q397452), (1, .ref q397453)] [] (va_pl P397450 F515603) 0 0 := by
          intro n32_515607
          induction n32_515607 with
          | zero => intro F515603 g515602 bg515602 hT515604 hs515605 x515606 x515607 hm32_515607; exact absurd hm32_515607 (Nat.not_lt_zero _)
          | succ n32_515607 ih32_515607 =>
            intro F515603 g515602 bg515602 hT515604 hs515605 x515606 x515607 hm32_515607
            have hs515609 : rStr γ [] F512851 F515603 := fun b h0 hb hw => (hs515605 b h0 hb hw).trans (hs512853 b h0 hb hw).symm
            have he515610 : F515603 q397453 = .inr (18, [.ref q512863, .ref q512864, .int p512865, .int p512866]) := (hs515609 q397453 (rT0 htq397453 (by decide)) (rT1 htq397453 (by decide)) (rT2 htq397453 (by decide))).trans he512862
            have hs515611 : rStr γ [] F397451 F515603 := rStr_tr hs512853 hs515609
            have he515612 : F515603 q397452 = .inr (22, [.ref (γ 9 0), .ref (γ 9 1), .ref (γ 9 2), .ref (γ 9 3), .ref (γ 9 4), .ref (γ 9 5), .ref (γ 9 6), .ref (γ 9 7), .ref (γ 9 8), .int p397460, .int p397461, .int p397462, .int p397463, .int p397464, .int p397465, .ref (γ 9 15), .ref (γ 9 16), .ref (γ 9 17), .ref (γ 9 18), .ref (γ 9 19), .ref (γ 9 20), .ref (γ 9 21), .ref (γ 9 22), .int p397466, .int p397467, .int p397468, .int p397469, .int p397470, .ref q397458, .ref (γ 9 29), .int p397471, .ref (γ 9 31), .int p397472, .int p397473, .int p397474, .ref q397459]) := x515606.trans he397457
            have hm515613 : q397452 ∈ P397450 := RS_m hT515604 htq397452 (by decide)
            refine G_iload 0 dr_cX17_findDepth_32 rfl ?_
            refine G_aload_n 3 dr_cX17_findDepth_34 rfl ?_
            refine Gw_callV (As := []) (gV_ok D I) (cp_12451_Code_size l hl0 D I P397450 F515603 q397453 q512863 q512864 p512865 p512866 hm512861 he515610) dr_cX17_findDepth_35 ⟨wr_10_160, wr_1_15, wr_9_131, by decide, rfl, (Nat.le_of_ble_eq_true rfl), (Nat.le_of_ble_eq_true rfl)⟩ wr_9_129 wr_9_130 hm512861 he515610 rfl (show 0 + 0 ≤ 0 by first | omega | decide) (show 0 + 0 ≤ 0 by first | omega | decide) (Nat.le_of_ble_eq_true rfl) (fun r515617 w515618 dc515614 ds515615 hp515616 => ?_) (fun _ _ _ _ _ z => z.elim)
            obtain ⟨rfl, rfl, hdc, hds⟩ := hp515616
            change G _ _ _ _ _ _ _ (.int p512866 :: _) _ _ _
            refine G_widen (cs' := 0) (sl' := 0) (by omega) (by omega) ?_
            refine G_icmp_ge 339 dr_cX17_findDepth_38 (by decide +kernel) (fun hc515619 => ?_) (fun hc515619 => ?_)
            · have r515620 : p512866.toInt ≤ g515602.toInt := gC_le hc515619
              refine G_iconst 0 dr_cX17_findDepth_339 (by decide +kernel) ?_
              refine G_istore (L' := [(4, .int 0), (2, .long ol512895), (0, .ref q397452), (1, .ref q397453)]) dr_cX17_findDepth_340 (Nat.le_of_ble_eq_true rfl) rfl ?_
              have hlp342_515660 : ∀ (n342_515660 : Nat) (F515656 : Nat → va_E) (g515655 : Int32), gB g515655 0 1000000 → RS D I P397450 F515656 γ el → rStr γ [] F397451 F515656 → (F515656 q397452 = F397451 q397452) → (F515656 (γ 9 3) = F397451 (γ 9 3)) → ((1000001 : Int) - g515655.toInt).toNat < n342_515660 → G (gV D I) l (gRm 5 112 0 0) (gMA (gV D I) (pt_397455_SpillForgeModel_findDepth D I γ el P397450 F397451 q397452 q397453) gNA 0 0) ky_397455_SpillForgeModel_findDepth 342 [(4, .int g515655), (2, .long ol512895), (0, .ref q397452), (1, .ref q397453)] [] (va_pl P397450 F515656) 0 0 := by
                intro n342_515660
                induction n342_515660 with
                | zero => intro F515656 g515655 bg515655 hT515657 hs515658 x515659 x515660 hm342_515660; exact absurd hm342_515660 (Nat.not_lt_zero _)
                | succ n342_515660 ih342_515660 =>
                  intro F515656 g515655 bg515655 hT515657 hs515658 x515659 x515660 hm342_515660
                  have hs515662 : rStr γ [] F515603 F515656 := fun b h0 hb hw => (hs515658 b h0 hb hw).trans (hs515605 b h0 hb hw).symm
                  have he515663 : F515656 q397453 = .inr (18, [.ref q512863, .ref q512864, .int p512865, .int p512866]) := (hs515662 q397453 (rT0 htq397453 (by decide)) (rT1 htq397453 (by decide)) (rT2 htq397453 (by decide))).trans he515610
                  have hs515664 : rStr γ [] F397451 F515656 := rStr_tr hs515605 hs515662
                  have he515665 : F515656 q397452 = .inr (22, [.ref (γ 9 0), .ref (γ 9 1), .ref (γ 9 2), .ref (γ 9 3), .ref (γ 9 4), .ref (γ 9 5), .ref (γ 9 6), .ref (γ 9 7), .ref (γ 9 8), .int p397460, .int p397461, .int p397462, .int p397463, .int p397464, .int p397465, .ref (γ 9 15), .ref (γ 9 16), .ref (γ 9 17), .ref (γ 9 18), .ref (γ 9 19), .ref (γ 9 20), .ref (γ 9 21), .ref (γ 9 22), .int p397466, .int p397467, .int p397468, .int p397469, .int p397470, .ref q397458, .ref (γ 9 29), .int p397471, .ref (γ 9 31), .int p397472, .int p397473, .int p397474, .ref q397459]) := x515659.trans he397457
                  have hm515666 : q397452 ∈ P397450 := RS_m hT515657 htq397452 (by decide)
                  refine G_iload 0 dr_cX17_findDepth_342 rfl ?_
                  refine G_aload_n 3 dr_cX17_findDepth_344 rfl ?_
                  refine Gw_callV (As := []) (gV_ok D I) (cp_12451_Code_size l hl0 D I P397450 F515656 q397453 q512863 q512864 p512865 p512866 hm512861 he515663) dr_cX17_findDepth_345 ⟨wr_10_160, wr_1_15, wr_9_131, by decide, rfl, (Nat.le_of_ble_eq_true rfl), (Nat.le_of_ble_eq_true rfl)⟩ wr_9_129 wr_9_130 hm512861 he515663 rfl (show 0 + 0 ≤ 0 by first | omega | decide) (show 0 + 0 ≤ 0 by first | omega | decide) (Nat.le_of_ble_eq_true rfl) (fun r515670 w515671 dc515667 ds515668 hp515669 => ?_) (fun _ _ _ _ _ z => z.elim)
                  obtain ⟨rfl, rfl, hdc, hds⟩ := hp515669
                  change G _ _ _ _ _ _ _ (.int p512866 :: _) _ _ _
                  refine G_widen (cs' := 0) (sl' := 0) (by omega) (by omega) ?_
                  refine G_icmp_ge 375 dr_cX17_findDepth_348 (by decide +kernel) (fun hc515672 => ?_) (fun hc515672 => ?_)
                  · have r515673 : p512866.toInt ≤ g515655.toInt := gC_le hc515672
                    exact G_vretA dr_cX17_findDepth_375 rfl (Nat.le_of_ble_eq_true rfl) (Nat.le_of_ble_eq_true rfl) ⟨F515656, rfl, rfl, hT515657, hs515658, (Nat.le_of_ble_eq_true rfl), (Nat.le_of_ble_eq_true rfl), x515659, x515660⟩
                  · have r515674 : g515655.toInt < p512866.toInt := gC_nle hc515672
                    have bg515655' : gB g515655 0 999999 := ⟨by omega, by omega⟩
                    have bp512866' : gB p512866 1 1000000 := ⟨by omega, by omega⟩
                    refine G_aload_n 2 dr_cX17_findDepth_351 rfl ?_
                    refine Gp_get 4 hm515666 he515665 dr_cX17_findDepth_352 (gk_X17 D I) (Nat.le_of_ble_eq_true rfl) wr_7_78 rfl ?_
                    refine G_iload 0 dr_cX17_findDepth_355 rfl ?_
                    refine G_aload_n 2 dr_cX17_findDepth_357 rfl ?_
                    refine Gp_get 4 hm515666 he515665 dr_cX17_findDepth_358 (gk_X17 D I) (Nat.le_of_ble_eq_true rfl) wr_7_78 rfl ?_
                    refine G_iload 0 dr_cX17_findDepth_361 rfl ?_
                    have hm515675 : (γ 9 4) ∈ P397450 := RS_m hT515657 ht397481 (by decide)
                    obtain ⟨f515677, he515676⟩ := show rk_16 I (F515656 (γ 9 4)) from RS_o hT515657 ht397481
                    refine Gp_iald 0 hm515675 he515676 dr_cX17_findDepth_363 rfl (gB_inr (by omega) (by omega)) (G_nam fun z515678 hz515678 => ?_)
                    have bz515678 : gB z515678 (-2147483648) 2147483647 := gB_any z515678
                    refine G_iconst 4 dr_cX17_findDepth_364 (by decide +kernel) ?_
                    refine G_mmin dr_cX17_findDepth_365 wr_11_20 wr_3_227 wr_1_6 wr_3_228 (Nat.le_of_ble_eq_true rfl) (Nat.le_of_ble_eq_true rfl) (show 0 ≤ 0 by first | omega | decide) (show 0 ≤ 0 by first | omega | decide) (G_nam fun z515679 hz515679 => ?_)
                    have ez515679 : z515678.toInt ≥ z515679.toInt ∧ 4 ≥ z515679.toInt ∧ (z515679.toInt = z515678.toInt ∨ z515679.toInt = 4) := by have := gI_min hz515679; rw [show Int32.toInt 4 = 4 from by decide] at this; omega
                    have bz515679 : gB z515679 (-2147483648) 4 := ⟨by omega, by omega⟩
                    refine Gp_iast 0 hm515675 he515676 dr_cX17_findDepth_368 rfl (gB_inr (by omega) (by omega)) (fun F515680 e515681 n515682 => ?_)
                    obtain ⟨f515683, hf515683⟩ : ∃ z, z = upd f515677 g515655.toNatClampNeg z515679 := ⟨_, rfl⟩
                    rw [← hf515683] at e515681
                    have he515684 : F515680 q397453 = .inr (18, [.ref q512863, .ref q512864, .int p512865, .int p512866]) := (n515682 q397453 (rn_oa he515663 he515676)).trans he515663
                    have he515685 : F515680 q397452 = .inr (22, [.ref (γ 9 0), .ref (γ 9 1), .ref (γ 9 2), .ref (γ 9 3), .ref (γ 9 4), .ref (γ 9 5), .ref (γ 9 6), .ref (γ 9 7), .ref (γ 9 8), .int p397460, .int p397461, .int p397462, .int p397463, .int p397464, .int p397465, .ref (γ 9 15), .ref (γ 9 16), .ref (γ 9 17), .ref (γ 9 18), .ref (γ 9 19), .ref (γ 9 20), .ref (γ 9 21), .ref (γ 9 22), .int p397466, .int p397467, .int p397468, .int p397469, .int p397470, .ref q397458, .ref (γ 9 29), .int p397471, .ref (γ 9 31), .int p397472, .int p397473, .int p397474, .ref q397459]) := (n515682 q397452 (rn_oa he515665 he515676)).trans he515665
                    have he515686 : F515680 (γ 9 4) = .inl (I .int, 40, .inl f515683) := e515681
                    have hs515687 : rStr γ [] F397451 F515680 := rStr_put hs515658 n515682 ht397481 (by decide)
                    have kp515688 : F515680 q397452 = F397451 q397452 := (n515682 q397452 (rn_ty htq397452 ht397481 (by decide))).trans x515659
                    have kp515689 : F515680 (γ 9 3) = F397451 (γ 9 3) := (n515682 (γ 9 3) (rn_ty ht397480 ht397481 (by decide))).trans x515660
                    obtain ⟨z515690, hz515690⟩ : ∃ z : Int32, z = g515655 + Int32.ofInt 1 := ⟨_, rfl⟩
                    have ez515690 : z515690.toInt = g515655.toInt + 1 := gI_inc hz515690 (by decide) bg515655' (by decide) (by decide)
                    have bz515690 : gB z515690 1 1000000 := ⟨by omega, by omega⟩
                    refine G_iinc (L' := [(4, .int z515690), (2, .long ol512895), (0, .ref q397452), (1, .ref q397453)]) z515690 0 dr_cX17_findDepth_369 rfl hz515690.symm (Nat.le_of_ble_eq_true rfl) rfl ?_
                    refine G_goto 342 dr_cX17_findDepth_372 (by decide +kernel) ?_
                    have hT515691 : RS D I P397450 F515680 γ el := RS_set hT515657 n515682 ht397481 (by decide) ⟨f515683, he515686⟩
                    exact ih342_515660 F515680 z515690 (gB_w bz515690 (by decide) (by decide)) hT515691 hs515687 kp515688 kp515689 (mz_up ez515690 (Int.le_trans bg515655'.2 (by decide)) hm342_515660)
              exact hlp342_515660 (((1000001 : Int) - 0).toNat + 1) F515603 0 (gB_w (gBl (show Int32.toInt 0 = 0 by decide)) (by decide) (by decide)) hT515604 hs515605 x515606 x515607 (Nat.lt_succ_self _)
            · have r515692 : g515602.toInt < p512866.toInt := gC_nle hc515619
              have bg515602' : gB g515602 0 999999 := ⟨by omega, by omega⟩
              have bp512866' : gB p512866 1 1000000 := ⟨by omega, by omega⟩
              refine G_lload_n 1 dr_cX17_findDepth_41 rfl ?_
              refine G_iload 0 dr_cX17_findDepth_42 rfl ?_
              refine G_lushr dr_cX17_findDepth_44 (G_namL fun u515693 hu515693 => ?_)
              refine G_lconst 1 dr_cX17_findDepth_45 rfl ?_
              refine G_land dr_cX17_findDepth_46 (G_namL fun u515694 hu515694 => ?_)
              refine G_lconst 0 dr_cX17_findDepth_47 rfl ?_
              refine G_lcmp dr_cX17_findDepth_48 (G_nam fun z515695 hz515695 => ?_)
              have bz515695 : gB z515695 (-1) 1 := gB_cmp hz515695
              refine G_if_ne 55 dr_cX17_findDepth_49 (by decide +kernel) (fun hc515696 => ?_) (fun hc515696 => ?_)
              · have r515697 : z515695.toInt ≠ 0 := gj_neq hc515696 (show Int32.toInt 0 = 0 by decide)
                have lhc515696 := gC_cmpN hz515695 hc515696
                refine G_lload_n 1 dr_cX17_findDepth_55 rfl ?_
                refine G_aload_n 3 dr_cX17_findDepth_56 rfl ?_
                refine G_iload 0 dr_cX17_findDepth_57 rfl ?_
                refine Gw_callS (As := [.ref q397453, .int g515602]) (gV_ok D I) (ct_12419_SpillForgeModel_reached l hl0 D I γ el P397450 F515603 q397453 g515602 hT515604 htq397453 (by omega)) dr_cX17_findDepth_59 ⟨wr_11_41, wr_1_14, wr_11_43, by decide, rfl, (Nat.le_of_ble_eq_true rfl), (Nat.le_of_ble_eq_true rfl)⟩ wr_11_42 (show 0 + 0 ≤ 0 by first | omega | decide) (show 0 + 0 ≤ 0 by first | omega | decide) (Nat.le_of_ble_eq_true rfl) (fun r515701 w515702 dc515698 ds515699 hp515700 => ?_) (fun _ _ _ _ _ z => z.elim)
                obtain ⟨ol515703, rfl, rfl, hdc, hds⟩ := hp515700
                change G _ _ _ _ _ _ _ (.long ol515703 :: _) _ _ _
                refine G_widen (cs' := 0) (sl' := 0) (by omega) (by omega) ?_
                refine G_ldc2 (-1) dr_cX17_findDepth_62 wr_10_188 ?_
                refine G_lxor dr_cX17_findDepth_65 (G_namL fun u515704 hu515704 => ?_)
                refine G_land dr_cX17_findDepth_66 (G_namL fun u515705 hu515705 => ?_)
                refine G_lstore (L' := [(5, .long u515705), (4, .int g515602), (2, .long ol512895), (0, .ref q397452), (1, .ref q397453)]) dr_cX17_findDepth_67 (Nat.le_of_ble_eq_true rfl) rfl ?_
                refine G_lconst 0 dr_cX17_findDepth_69 rfl ?_
                refine G_lstore (L' := [(7, .long 0), (5, .long u515705), (4, .int g515602), (2, .long ol512895), (0, .ref q397452), (1, .ref q397453)]) dr_cX17_findDepth_70 (Nat.le_of_ble_eq_true rfl) rfl ?_
                refine G_iconst 0 dr_cX17_findDepth_72 (by decide +kernel) ?_
                refine G_istore (L' := [(9, .int 0), (7, .long 0), (5, .long u515705), (4, .int g515602), (2, .long ol512895), (0, .ref q397452), (1, .ref q397453)]) dr_cX17_findDepth_73 (Nat.le_of_ble_eq_true rfl) rfl ?_
                have hlp75_517008 : ∀ (n75_517008 : Nat) (g517007 : Int32) (gl517008 : Int64), gB g517007 0 1000000 → ((1000001 : Int) - g517007.toInt).toNat < n75_517008 → G (gV D I) l (gRm 5 112 0 0) (gMA (gV D I) (pt_397455_SpillForgeModel_findDepth D I γ el P397450 F397451 q397452 q397453) gNA 0 0) ky_397455_SpillForgeModel_findDepth 75 [(9, .int g517007), (7, .long gl517008), (5, .long u515705), (4, .int g515602), (2, .long ol512895), (0, .ref q397452), (1, .ref q397453)] [] (va_pl P397450 F515603) 0 0 := by
                  intro n75_517008
                  induction n75_517008 with
                  | zero => intro g517007 gl517008 bg517007 hm75_517008; exact absurd hm75_517008 (Nat.not_lt_zero _)
                  | succ n75_517008 ih75_517008 =>
                    intro g517007 gl517008 bg517007 hm75_517008
                    refine G_iload 0 dr_cX17_findDepth_75 rfl ?_
                    refine G_aload_n 6 dr_cX17_findDepth_77 rfl ?_
                    refine Gw_callV (As := []) (gV_ok D I) (cp_12451_Code_size l hl0 D I P397450 F515603 q397453 q512863 q512864 p512865 p512866 hm512861 he515610) dr_cX17_findDepth_78 ⟨wr_10_160, wr_1_15, wr_9_131, by decide, rfl, (Nat.le_of_ble_eq_true rfl), (Nat.le_of_ble_eq_true rfl)⟩ wr_9_129 wr_9_130 hm512861 he515610 rfl (show 0 + 0 ≤ 0 by first | omega | decide) (show 0 + 0 ≤ 0 by first | omega | decide) (Nat.le_of_ble_eq_true rfl) (fun r517013 w517014 dc517010 ds517011 hp517012 => ?_) (fun _ _ _ _ _ z => z.elim)
                    obtain ⟨rfl, rfl, hdc, hds⟩ := hp517012
                    change G _ _ _ _ _ _ _ (.int p512866 :: _) _ _ _
                    refine G_widen (cs' := 0) (sl' := 0) (by omega) (by omega) ?_
                    refine G_icmp_ge 125 dr_cX17_findDepth_81 (by decide +kernel) (fun hc517015 => ?_) (fun hc517015 => ?_)
                    · have r517016 : p512866.toInt ≤ g517007.toInt := gC_le hc517015
                      have bg517007' : gB g517007 1 1000000 := ⟨by omega, by omega⟩
                      refine G_lload 1 dr_cX17_findDepth_125 rfl ?_
                      refine G_lconst 0 dr_cX17_findDepth_127 rfl ?_
                      refine G_lcmp dr_cX17_findDepth_128 (G_nam fun z517017 hz517017 => ?_)
                      have bz517017 : gB z517017 (-1) 1 := gB_cmp hz517017
                      refine G_if_ne 135 dr_cX17_findDepth_129 (by decide +kernel) (fun hc517018 => ?_) (fun hc517018 => ?_)
                      · have r517019 : z517017.toInt ≠ 0 := gj_neq hc517018 (show Int32.toInt 0 = 0 by decide)
                        have lhc517018 := gC_cmpN hz517017 hc517018
                        refine G_lload 1 dr_cX17_findDepth_135 rfl ?_
                        refine G_lconst 1 dr_cX17_findDepth_137 rfl ?_
                        refine G_iload 3 dr_cX17_findDepth_138 rfl ?_
                        refine G_lshl dr_cX17_findDepth_140 (G_namL fun u517020 hu517020 => ?_)
                        have qu517020 : lb_Q u517020 (g515602.toInt % 64 + 1) := lb_Qshl hu517020 (by omega)
                        refine G_lor dr_cX17_findDepth_141 (G_namL fun u517021 hu517021 => ?_)
                        have pmu517021 : rpop gl517008 ≤ rpop u517021 := rpop_or hu517021
                        refine G_lstore (L' := [(7, .long u517021), (9, .int g517007), (5, .long u515705), (4, .int g515602), (2, .long ol512895), (0, .ref q397452), (1, .ref q397453)]) dr_cX17_findDepth_142 (Nat.le_of_ble_eq_true rfl) rfl ?_
                        refine G_iconst 1 dr_cX17_findDepth_144 (by decide +kernel) ?_
                        refine G_istore (L' := [(9, .int 1), (7, .long u517021), (5, .long u515705), (4, .int g515602), (2, .long ol512895), (0, .ref q397452), (1, .ref q397453)]) dr_cX17_findDepth_145 (Nat.le_of_ble_eq_true rfl) rfl ?_
                        have hlp147_517631 : ∀ (n147_517631 : Nat) (g517629 : Int32) (gl517630 : Int64), gB g517629 0 1 → rpop gl517630 ≤ 64 → (64 - rpop gl517630) + ((g517629.toInt : Int)).toNat < n147_517631 → G (gV D I) l (gRm 5 112 0 0) (gMA (gV D I) (pt_397455_SpillForgeModel_findDepth D I γ el P397450 F397451 q397452 q397453) gNA 0 0) ky_397455_SpillForgeModel_findDepth 147 [(9, .int g517629), (7, .long gl517630), (5, .long u515705), (4, .int g515602), (2, .long ol512895), (0, .ref q397452), (1, .ref q397453)] [] (va_pl P397450 F515603) 0 0 := by
                          intro n147_517631
                          induction n147_517631 with
                          | zero => intro g517629 gl517630 bg517629 x517631 hm147_517631; exact absurd hm147_517631 (Nat.not_lt_zero _)
                          | succ n147_517631 ih147_517631 =>
                            intro g517629 gl517630 bg517629 x517631 hm147_517631
                            refine G_iload 0 dr_cX17_findDepth_147 rfl ?_
                            refine G_if_eq 297 dr_cX17_findDepth_149 (by decide +kernel) (fun hc517633 => ?_) (fun hc517633 => ?_)
                            · have r517634 : g517629.toInt = 0 := gj_eq hc517633 (show Int32.toInt 0 = 0 by decide)
                              have bg517629' : gB g517629 0 0 := gB_t0 r517634
                              refine G_iconst 0 dr_cX17_findDepth_297 (by decide +kernel) ?_
                              refine G_istore (L' := [(10, .int 0), (9, .int g517629), (7, .long gl517630), (5, .long u515705), (4, .int g515602), (2, .long ol512895), (0, .ref q397452), (1, .ref q397453)]) dr_cX17_findDepth_298 (Nat.le_of_ble_eq_true rfl) rfl ?_
                              have hlp300_517678 : ∀ (n300_517678 : Nat) (F517674 : Nat → va_E) (g517673 : Int32), gB g517673 0 1000000 → RS D I P397450 F517674 γ el → rStr γ [] F397451 F517674 → (F517674 q397452 = F397451 q397452) → (F517674 (γ 9 3) = F397451 (γ 9 3)) → ((1000001 : Int) - g517673.toInt).toNat < n300_517678 → G (gV D I) l (gRm 5 112 0 0) (gMA (gV D I) (pt_397455_SpillForgeModel_findDepth D I γ el P397450 F397451 q397452 q397453) gNA 0 0) ky_397455_SpillForgeModel_findDepth 300 [(10, .int g517673), (9, .int g517629), (7, .long gl517630), (5, .long u515705), (4, .int g515602), (2, .long ol512895), (0, .ref q397452), (1, .ref q397453)] [] (va_pl P397450 F517674) 0 0 := by
                                intro n300_517678
                                induction n300_517678 with
                                | zero => intro F517674 g517673 bg517673 hT517675 hs517676 x517677 x517678 hm300_517678; exact absurd hm300_517678 (Nat.not_lt_zero _)
                                | succ n300_517678 ih300_517678 =>
                                  intro F517674 g517673 bg517673 hT517675 hs517676 x517677 x517678 hm300_517678
                                  have hs517680 : rStr γ [] F515603 F517674 := fun b h0 hb hw => (hs517676 b h0 hb hw).trans (hs515605 b h0 hb hw).symm
                                  have he517681 : F517674 q397453 = .inr (18, [.ref q512863, .ref q512864, .int p512865, .int p512866]) := (hs517680 q397453 (rT0 htq397453 (by decide)) (rT1 htq397453 (by decide)) (rT2 htq397453 (by decide))).trans he515610
                                  have hs517682 : rStr γ [] F397451 F517674 := rStr_tr hs515605 hs517680
                                  have he517683 : F517674 q397452 = .inr (22, [.ref (γ 9 0), .ref (γ 9 1), .ref (γ 9 2), .ref (γ 9 3), .ref (γ 9 4), .ref (γ 9 5), .ref (γ 9 6), .ref (γ 9 7), .ref (γ 9 8), .int p397460, .int p397461, .int p397462, .int p397463, .int p397464, .int p397465, .ref (γ 9 15), .ref (γ 9 16), .ref (γ 9 17), .ref (γ 9 18), .ref (γ 9 19), .ref (γ 9 20), .ref (γ 9 21), .ref (γ 9 22), .int p397466, .int p397467, .int p397468, .int p397469, .int p397470, .ref q397458, .ref (γ 9 29), .int p397471, .ref (γ 9 31), .int p397472, .int p397473, .int p397474, .ref q397459]) := x517677.trans he397457
                                  have hm517684 : q397452 ∈ P397450 := RS_m hT517675 htq397452 (by decide)
                                  refine G_iload 0 dr_cX17_findDepth_300 rfl ?_
                                  refine G_aload_n 7 dr_cX17_findDepth_302 rfl ?_
                                  refine Gw_callV (As := []) (gV_ok D I) (cp_12451_Code_size l hl0 D I P397450 F517674 q397453 q512863 q512864 p512865 p512866 hm512861 he517681) dr_cX17_findDepth_303 ⟨wr_10_160, wr_1_15, wr_9_131, by decide, rfl, (Nat.le_of_ble_eq_true rfl), (Nat.le_of_ble_eq_true rfl)⟩ wr_9_129 wr_9_130 hm512861 he517681 rfl (show 0 + 0 ≤ 0 by first | omega | decide) (show 0 + 0 ≤ 0 by first | omega | decide) (Nat.le_of_ble_eq_true rfl) (fun r517688 w517689 dc517685 ds517686 hp517687 => ?_) (fun _ _ _ _ _ z => z.elim)
                                  obtain ⟨rfl, rfl, hdc, hds⟩ := hp517687
                                  change G _ _ _ _ _ _ _ (.int p512866 :: _) _ _ _
                                  refine G_widen (cs' := 0) (sl' := 0) (by omega) (by omega) ?_
                                  refine G_icmp_ge 333 dr_cX17_findDepth_306 (by decide +kernel) (fun hc517690 => ?_) (fun hc517690 => ?_)
                                  · have r517691 : p512866.toInt ≤ g517673.toInt := gC_le hc517690
                                    have bg517673' : gB g517673 1 1000000 := ⟨by omega, by omega⟩
                                    obtain ⟨z517692, hz517692⟩ : ∃ z : Int32, z = g515602 + Int32.ofInt 1 := ⟨_, rfl⟩
                                    have ez517692 : z517692.toInt = g515602.toInt + 1 := gI_inc hz517692 (by decide) bg515602' (by decide) (by decide)
                                    have bz517692 : gB z517692 1 1000000 := ⟨by omega, by omega⟩
                                    refine G_iinc (L' := [(4, .int z517692), (10, .int g517673), (9, .int g517629), (7, .long gl517630), (5, .long u515705), (2, .long ol512895), (0, .ref q397452), (1, .ref q397453)]) z517692 4 dr_cX17_findDepth_333 rfl hz517692.symm (Nat.le_of_ble_eq_true rfl) rfl ?_
                                    refine G_goto 32 dr_cX17_findDepth_336 (by decide +kernel) ?_
                                    refine G_lv (L' := [(4, .int z517692), (2, .long ol512895), (0, .ref q397452), (1, .ref q397453)]) [0, 5, 6, 7] rfl ?_
                                    exact ih32_515607 F517674 z517692 (gB_w bz517692 (by decide) (by decide)) hT517675 hs517676 x517677 x517678 (mz_up ez517692 (Int.le_trans bg515602'.2 (by decide)) hm32_515607)
                                  · have r517693 : g517673.toInt < p512866.toInt := gC_nle hc517690
                                    have bg517673' : gB g517673 0 999999 := ⟨by omega, by omega⟩
                                    refine G_aload_n 6 dr_cX17_findDepth_309 rfl ?_
                                    refine Gp_get 4 hm517684 he517683 dr_cX17_findDepth_310 (gk_X17 D I) (Nat.le_of_ble_eq_true rfl) wr_7_78 rfl ?_
                                    refine G_iload 0 dr_cX17_findDepth_313 rfl ?_
                                    refine G_dup2_11 dr_cX17_findDepth_315 rfl rfl ?_
                                    have hm517694 : (γ 9 4) ∈ P397450 := RS_m hT517675 ht397481 (by decide)
                                    obtain ⟨f517696, he517695⟩ := show rk_16 I (F517674 (γ 9 4)) from RS_o hT517675 ht397481
                                    refine Gp_iald 0 hm517694 he517695 dr_cX17_findDepth_316 rfl (gB_inr (by omega) (by omega)) (G_nam fun z517697 hz517697 => ?_)
                                    have bz517697 : gB z517697 (-2147483648) 2147483647 := gB_any z517697
                                    refine G_lload 2 dr_cX17_findDepth_317 rfl ?_
                                    refine G_iload 0 dr_cX17_findDepth_319 rfl ?_
                                    refine G_lushr dr_cX17_findDepth_321 (G_namL fun u517698 hu517698 => ?_)
                                    refine G_lconst 1 dr_cX17_findDepth_322 rfl ?_
                                    refine G_land dr_cX17_findDepth_323 (G_namL fun u517699 hu517699 => ?_)
                                    refine G_l2i dr_cX17_findDepth_324 (G_nam fun z517700 hz517700 => ?_)
                                    have bz517700 : gB z517700 (-2147483648) 2147483647 := gB_any z517700
                                    refine G_iadd dr_cX17_findDepth_325 (G_nam fun z517701 hz517701 => ?_)
                                    have bz517701 : gB z517701 (-2147483648) 2147483647 := gB_any z517701
                                    refine Gp_iast 0 hm517694 he517695 dr_cX17_findDepth_326 rfl (gB_inr (by omega) (by omega)) (fun F517702 e517703 n517704 => ?_)
                                    obtain ⟨f517705, hf517705⟩ : ∃ z, z = upd f517696 g517673.toNatClampNeg z517701 := ⟨_, rfl⟩
                                    rw [← hf517705] at e517703
                                    have he517706 : F517702 q397453 = .inr (18, [.ref q512863, .ref q512864, .int p512865, .int p512866]) := (n517704 q397453 (rn_oa he517681 he517695)).trans he517681
                                    have he517707 : F517702 q397452 = .inr (22, [.ref (γ 9 0), .ref (γ 9 1), .ref (γ 9 2), .ref (γ 9 3), .ref (γ 9 4), .ref (γ 9 5), .ref (γ 9 6), .ref (γ 9 7), .ref (γ 9 8), .int p397460, .int p397461, .int p397462, .int p397463, .int p397464, .int p397465, .ref (γ 9 15), .ref (γ 9 16), .ref (γ 9 17), .ref (γ 9 18), .ref (γ 9 19), .ref (γ 9 20), .ref (γ 9 21), .ref (γ 9 22), .int p397466, .int p397467, .int p397468, .int p397469, .int p397470, .ref q397458, .ref (γ 9 29), .int p397471, .ref (γ 9 31), .int p397472, .int p397473, .int p397474, .ref q397459]) := (n517704 q397452 (rn_oa he517683 he517695)).trans he517683
                                    have he517708 : F517702 (γ 9 4) = .inl (I .int, 40, .inl f517705) := e517703
                                    have hs517709 : rStr γ [] F397451 F517702 := rStr_put hs517676 n517704 ht397481 (by decide)
                                    have kp517710 : F517702 q397452 = F397451 q397452 := (n517704 q397452 (rn_ty htq397452 ht397481 (by decide))).trans x517677
                                    have kp517711 : F517702 (γ 9 3) = F397451 (γ 9 3) := (n517704 (γ 9 3) (rn_ty ht397480 ht397481 (by decide))).trans x517678
                                    obtain ⟨z517712, hz517712⟩ : ∃ z : Int32, z = g517673 + Int32.ofInt 1 := ⟨_, rfl⟩
                                    have ez517712 : z517712.toInt = g517673.toInt + 1 := gI_inc hz517712 (by decide) bg517673' (by decide) (by decide)
                                    have bz517712 : gB z517712 1 1000000 := ⟨by omega, by omega⟩
                                    refine G_iinc (L' := [(10, .int z517712), (9, .int g517629), (7, .long gl517630), (5, .long u515705), (4, .int g515602), (2, .long ol512895), (0, .ref q397452), (1, .ref q397453)]) z517712 0 dr_cX17_findDepth_327 rfl hz517712.symm (Nat.le_of_ble_eq_true rfl) rfl ?_
                                    refine G_goto 300 dr_cX17_findDepth_330 (by decide +kernel) ?_
                                    have hT517713 : RS D I P397450 F517702 γ el := RS_set hT517675 n517704 ht397481 (by decide) ⟨f517705, he517708⟩
                                    exact ih300_517678 F517702 z517712 (gB_w bz517712 (by decide) (by decide)) hT517713 hs517709 kp517710 kp517711 (mz_up ez517712 (Int.le_trans bg517673'.2 (by decide)) hm300_517678)
                              exact hlp300_517678 (((1000001 : Int) - 0).toNat + 1) F515603 0 (gB_w (gBl (show Int32.toInt 0 = 0 by decide)) (by decide) (by decide)) hT515604 hs515605 x515606 x515607 (Nat.lt_succ_self _)
                            · have r517714 : g517629.toInt ≠ 0 := gj_neq hc517633 (show Int32.toInt 0 = 0 by decide)
                              have bg517629' : gB g517629 1 1 := gB_t1 bg517629 r517714
                              refine G_iconst 0 dr_cX17_findDepth_152 (by decide +kernel) ?_
                              refine G_istore (L' := [(9, .int 0), (7, .long gl517630), (5, .long u515705), (4, .int g515602), (2, .long ol512895), (0, .ref q397452), (1, .ref q397453)]) dr_cX17_findDepth_153 (Nat.le_of_ble_eq_true rfl) rfl ?_
                              refine G_iconst 0 dr_cX17_findDepth_155 (by decide +kernel) ?_
                              refine G_istore (L' := [(10, .int 0), (9, .int 0), (7, .long gl517630), (5, .long u515705), (4, .int g515602), (2, .long ol512895), (0, .ref q397452), (1, .ref q397453)]) dr_cX17_findDepth_156 (Nat.le_of_ble_eq_true rfl) rfl ?_
                              have hlp158_517979 : ∀ (n158_517979 : Nat) (g517975 : Int32) (g517976 : Int32) (gl517977 : Int64), gB g517975 0 1000000 → gB g517976 0 1 → rpop gl517977 ≤ 64 → rpop gl517630 + ((g517976.toInt : Int)).toNat ≤ rpop gl517977 → ((1000001 : Int) - g517975.toInt).toNat < n158_517979 → G (gV D I) l (gRm 5 112 0 0) (gMA (gV D I) (pt_397455_SpillForgeModel_findDepth D I γ el P397450 F397451 q397452 q397453) gNA 0 0) ky_397455_SpillForgeModel_findDepth 158 [(10, .int g517975), (9, .int g517976), (7, .long gl517977), (5, .long u515705), (4, .int g515602), (2, .long ol512895), (0, .ref q397452), (1, .ref q397453)] [] (va_pl P397450 F515603) 0 0 := by
                                intro n158_517979
                                induction n158_517979 with
                                | zero => intro g517975 g517976 gl517977 bg517975 bg517976 x517978 x517979 hm158_517979; exact absurd hm158_517979 (Nat.not_lt_zero _)
                                | succ n158_517979 ih158_517979 =>
                                  intro g517975 g517976 gl517977 bg517975 bg517976 x517978 x517979 hm158_517979
                                  refine G_iload 0 dr_cX17_findDepth_158 rfl ?_
                                  refine G_aload_n 7 dr_cX17_findDepth_160 rfl ?_
                                  refine Gw_callV (As := []) (gV_ok D I) (cp_12451_Code_size l hl0 D I P397450 F515603 q397453 q512863 q512864 p512865 p512866 hm512861 he515610) dr_cX17_findDepth_161 ⟨wr_10_160, wr_1_15, wr_9_131, by decide, rfl, (Nat.le_of_ble_eq_true rfl), (Nat.le_of_ble_eq_true rfl)⟩ wr_9_129 wr_9_130 hm512861 he515610 rfl (show 0 + 0 ≤ 0 by first | omega | decide) (show 0 + 0 ≤ 0 by first | omega | decide) (Nat.le_of_ble_eq_true rfl) (fun r517984 w517985 dc517981 ds517982 hp517983 => ?_) (fun _ _ _ _ _ z => z.elim)
                                  obtain ⟨rfl, rfl, hdc, hds⟩ := hp517983
                                  change G _ _ _ _ _ _ _ (.int p512866 :: _) _ _ _
                                  refine G_widen (cs' := 0) (sl' := 0) (by omega) (by omega) ?_
                                  refine G_icmp_ge 294 dr_cX17_findDepth_164 (by decide +kernel) (fun hc517986 => ?_) (fun hc517986 => ?_)
                                  · have r517987 : p512866.toInt ≤ g517975.toInt := gC_le hc517986
                                    have bg517975' : gB g517975 1 1000000 := ⟨by omega, by omega⟩
                                    refine G_goto 147 dr_cX17_findDepth_294 (by decide +kernel) ?_
                                    refine G_lv (L' := [(9, .int g517976), (7, .long gl517977), (5, .long u515705), (4, .int g515602), (2, .long ol512895), (0, .ref q397452), (1, .ref q397453)]) [1, 2, 3, 4, 5, 6, 7] rfl ?_
                                    exact ih147_517631 g517976 gl517977 bg517976 (rpop_le gl517977) (by omega)
                                  · have r517988 : g517975.toInt < p512866.toInt := gC_nle hc517986
                                    have bg517975' : gB g517975 0 999999 := ⟨by omega, by omega⟩
                                    refine G_lload 2 dr_cX17_findDepth_167 rfl ?_
                                    refine G_iload 0 dr_cX17_findDepth_169 rfl ?_
                                    refine G_lushr dr_cX17_findDepth_171 (G_namL fun u517989 hu517989 => ?_)
                                    refine G_lconst 1 dr_cX17_findDepth_172 rfl ?_
                                    refine G_land dr_cX17_findDepth_173 (G_namL fun u517990 hu517990 => ?_)
                                    refine G_lconst 0 dr_cX17_findDepth_174 rfl ?_
                                    refine G_lcmp dr_cX17_findDepth_175 (G_nam fun z517991 hz517991 => ?_)
                                    have bz517991 : gB z517991 (-1) 1 := gB_cmp hz517991
                                    refine G_if_ne 288 dr_cX17_findDepth_176 (by decide +kernel) (fun hc517992 => ?_) (fun hc517992 => ?_)
                                    · have r517993 : z517991.toInt ≠ 0 := gj_neq hc517992 (show Int32.toInt 0 = 0 by decide)
                                      have lhc517992 := gC_cmpN hz517991 hc517992
                                      obtain ⟨z517994, hz517994⟩ : ∃ z : Int32, z = g517975 + Int32.ofInt 1 := ⟨_, rfl⟩
                                      have ez517994 : z517994.toInt = g517975.toInt + 1 := gI_inc hz517994 (by decide) bg517975' (by decide) (by decide)
                                      have bz517994 : gB z517994 1 1000000 := ⟨by omega, by omega⟩
                                      refine G_iinc (L' := [(10, .int z517994), (9, .int g517976), (7, .long gl517977), (5, .long u515705), (4, .int g515602), (2, .long ol512895), (0, .ref q397452), (1, .ref q397453)]) z517994 0 dr_cX17_findDepth_288 rfl hz517994.symm (Nat.le_of_ble_eq_true rfl) rfl ?_
                                      refine G_goto 158 dr_cX17_findDepth_291 (by decide +kernel) ?_
                                      exact ih158_517979 z517994 g517976 gl517977 (gB_w bz517994 (by decide) (by decide)) bg517976 (rpop_le gl517977) (by omega) (mz_up ez517994 (Int.le_trans bg517975'.2 (by decide)) hm158_517979)
                                    · have r517995 : z517991.toInt = 0 := gj_eq hc517992 (show Int32.toInt 0 = 0 by decide)
                                      have bz517991' : gB z517991 0 0 := ⟨by omega, by omega⟩
                                      have lhc517992 := gC_cmpE hz517991 hc517992
                                      have zhc517992 := rbit_0 hu517989 hu517990 lhc517992 (by omega) (by omega)
                                      refine G_lload_n 5 dr_cX17_findDepth_179 rfl ?_
                                      refine G_iload 0 dr_cX17_findDepth_180 rfl ?_
                                      refine G_lushr dr_cX17_findDepth_182 (G_namL fun u517996 hu517996 => ?_)
                                      refine G_lconst 1 dr_cX17_findDepth_183 rfl ?_
                                      refine G_land dr_cX17_findDepth_184 (G_namL fun u517997 hu517997 => ?_)
                                      refine G_lconst 0 dr_cX17_findDepth_185 rfl ?_
                                      refine G_lcmp dr_cX17_findDepth_186 (G_nam fun z517998 hz517998 => ?_)
                                      have bz517998 : gB z517998 (-1) 1 := gB_cmp hz517998
                                      refine G_if_ne 193 dr_cX17_findDepth_187 (by decide +kernel) (fun hc517999 => ?_) (fun hc517999 => ?_)
                                      · have r518000 : z517998.toInt ≠ 0 := gj_neq hc517999 (show Int32.toInt 0 = 0 by decide)
                                        have lhc517999 := gC_cmpN hz517998 hc517999
                                        refine G_iconst 0 dr_cX17_findDepth_193 (by decide +kernel) ?_
                                        refine G_istore (L' := [(11, .int 0), (10, .int g517975), (9, .int g517976), (7, .long gl517977), (5, .long u515705), (4, .int g515602), (2, .long ol512895), (0, .ref q397452), (1, .ref q397453)]) dr_cX17_findDepth_194 (Nat.le_of_ble_eq_true rfl) rfl ?_
                                        refine G_iconst 0 dr_cX17_findDepth_196 (by decide +kernel) ?_
                                        refine G_istore (L' := [(12, .int 0), (11, .int 0), (10, .int g517975), (9, .int g517976), (7, .long gl517977), (5, .long u515705), (4, .int g515602), (2, .long ol512895), (0, .ref q397452), (1, .ref q397453)]) dr_cX17_findDepth_197 (Nat.le_of_ble_eq_true rfl) rfl ?_
                                        have hlp199_518119 : ∀ (n199_518119 : Nat) (g518118 : Int32) (g518119 : Int32), gB g518118 0 2 → gB g518119 0 1 → ((3 : Int) - g518118.toInt).toNat < n199_518119 → G (gV D I) l (gRm 5 112 0 0) (gMA (gV D I) (pt_397455_SpillForgeModel_findDepth D I γ el P397450 F397451 q397452 q397453) gNA 0 0) ky_397455_SpillForgeModel_findDepth 199 [(12, .int g518118), (11, .int g518119), (10, .int g517975), (9, .int g517976), (7, .long gl517977), (5, .long u515705), (4, .int g515602), (2, .long ol512895), (0, .ref q397452), (1, .ref q397453)] [] (va_pl P397450 F515603) 0 0 := by
                                          intro n199_518119
                                          induction n199_518119 with
                                          | zero => intro g518118 g518119 bg518118 bg518119 hm199_518119; exact absurd hm199_518119 (Nat.not_lt_zero _)
                                          | succ n199_518119 ih199_518119 =>
                                            intro g518118 g518119 bg518118 bg518119 hm199_518119
                                            refine G_iload 0 dr_cX17_findDepth_199 rfl ?_
                                            refine G_aload_n 9 dr_cX17_findDepth_201 rfl ?_
                                            refine G_iload 2 dr_cX17_findDepth_202 rfl ?_
                                            have hm518121 : q512863 ∈ P397450 := RS_m hT515604 ht512867 (by decide)
                                            obtain ⟨⟨p518123, p518124, q518125, he518122, r518126, r518127, r518128, r518130⟩, r518129⟩ := show rk_4 D I γ el F515603 q512863 from RS_o hT515604 ht512867
                                            have bp518123 := gB_any p518123
                                            have bp518124 : gB p518124 0 1000000 := ⟨by omega, by omega⟩
                                            obtain ⟨r518131, r518132, n518139, f518140, r518133, r518134, r518135, r518136, r518137, r518138⟩ := rLC_n r518128 (by omega)
                                            have hm518141 : q518125 ∈ P397450 := RS_m hT515604 r518131 (by decide)
                                            obtain ⟨q518142, hx518143⟩ : ∃ x, x = el q512863 g517975.toInt.toNat := ⟨_, rfl⟩
                                            have hx518144 : f518140 g517975.toNatClampNeg = some q518142 := (r518137 _ (show g517975.toInt.toNat < γ 2 q512863 by omega)).trans (by rw [hx518143])
                                            have ht518147 : rKd γ q518142 2 := by rw [hx518143]; exact (r512878 _ (by omega)).resolve_right (fun z => absurd z.1 (by omega))
                                            have ht518148 : rFm γ q518142 q512863 := by rw [hx518143]; exact (r518129 _ (show g517975.toInt.toNat < γ 2 q512863 by omega)).2.1
                                            have hm518149 : q518142 ∈ P397450 := RS_m hT515604 ht518147 (by decide)
                                            obtain ⟨q518151, q518152, p518153, p518154, he518150, ht518161, ht518155, ht518156, ht518157, ht518158, ht518159, bp518153, bp518154, r518160, r518162, r518163⟩ := show rk_2 γ q518142 (F515603 q518142) from RS_o hT515604 ht518147
                                            refine Gw_callV (As := [.int g517975]) (gV_ok D I) (cp_7723_Code_get l hl0 D I P397450 F515603 q397453 q512863 q518125 g517975 q512864 p512865 p512866 p518123 p518124 f518140 n518139 q518142 q518151 q518152 p518153 p518154 hm512861 hm518121 hm518141 hm518149 he515610 he518122 r518133 he518150 (gB_w bg517975' (by decide) (by decide)) (gB_w bp518124 (by decide) (by decide)) (by omega) (by omega) (by assumption) (by omega)) dr_cX17_findDepth_204 ⟨wr_10_161, wr_1_15, wr_10_141, by decide, rfl, (Nat.le_of_ble_eq_true rfl), (Nat.le_of_ble_eq_true rfl)⟩ wr_10_139 wr_10_140 hm512861 he515610 rfl (show 0 + 0 ≤ 0 by first | omega | decide) (show 0 + 0 ≤ 0 by first | omega | decide) (Nat.le_of_ble_eq_true rfl) (fun r518167 w518168 dc518164 ds518165 hp518166 => ?_) (fun _ _ _ _ _ z => z.elim)
                                            obtain ⟨rfl, rfl, hdc, hds⟩ := hp518166
                                            change G _ _ _ _ _ _ _ (.ref q518142 :: _) _ _ _
                                            refine G_widen (cs' := 0) (sl' := 0) (by omega) (by omega) ?_
                                            have hm518169 : q518152 ∈ P397450 := RS_m hT515604 ht518157 (by decide)
                                            obtain ⟨p518171, p518172, p518173, p518174, p518175, p518176, p518177, he518170, bp518171, bp518172, bp518175, bp518176, bp518177, r518178, r518179, r518180, r518181⟩ := show rk_1 γ q518152 (F515603 q518152) from RS_o hT515604 ht518157
                                            have bp518173 := gB_any p518173
                                            have bp518174 := gB_any p518174
                                            refine Gw_callV (As := []) (gV_ok D I) (cp_1809_Block_ways l hl0 D I P397450 F515603 q518142 q518152 q518151 p518153 p518154 p518171 p518172 p518173 p518174 p518175 p518176 p518177 hm518149 hm518169 he518150 he518170 bp518153 bp518154 bp518171 bp518172 bp518175 bp518176 bp518177) dr_cX17_findDepth_207 ⟨wr_10_166, wr_1_38, wr_10_169, by decide, rfl, (Nat.le_of_ble_eq_true rfl), (Nat.le_of_ble_eq_true rfl)⟩ wr_10_167 wr_10_168 hm518149 he518150 rfl (show 0 + 0 ≤ 0 by first | omega | decide) (show 0 + 0 ≤ 0 by first | omega | decide) (Nat.le_of_ble_eq_true rfl) (fun r518185 w518186 dc518182 ds518183 hp518184 => ?_) (fun _ _ _ _ _ z => z.elim)
                                            obtain ⟨o518187, rfl, rfl, hdc, hds, bo518187⟩ := hp518184
                                            change G _ _ _ _ _ _ _ (.int o518187 :: _) _ _ _
                                            refine G_widen (cs' := 0) (sl' := 0) (by omega) (by omega) ?_
                                            refine G_icmp_ge 268 dr_cX17_findDepth_210 (by decide +kernel) (fun hc518188 => ?_) (fun hc518188 => ?_)
                                            · have r518189 : o518187.toInt ≤ g518118.toInt := gC_le hc518188
                                              refine G_iload 1 dr_cX17_findDepth_268 rfl ?_
                                              refine G_if_ne 276 dr_cX17_findDepth_270 (by decide +kernel) (fun hc518190 => ?_) (fun hc518190 => ?_)
                                              · have r518191 : g518119.toInt ≠ 0 := gj_neq hc518190 (show Int32.toInt 0 = 0 by decide)
                                                have bg518119' : gB g518119 1 1 := gB_t1 bg518119 r518191
                                                refine G_lload 4 dr_cX17_findDepth_276 rfl ?_
                                                refine G_lconst 1 dr_cX17_findDepth_278 rfl ?_
                                                refine G_iload 2 dr_cX17_findDepth_279 rfl ?_
                                                refine G_lshl dr_cX17_findDepth_281 (G_namL fun u518192 hu518192 => ?_)
                                                have qu518192 : lb_Q u518192 (g517975.toInt % 64 + 1) := lb_Qshl hu518192 (by omega)
                                                refine G_lor dr_cX17_findDepth_282 (G_namL fun u518193 hu518193 => ?_)
                                                have pmu518193 : rpop gl517977 ≤ rpop u518193 := rpop_or hu518193
                                                have pnu518193 : rpop gl517977 + 1 ≤ rpop u518193 := rpop_new hu518193 hu518192 (by omega) (by omega) zhc517992
                                                refine G_lstore (L' := [(7, .long u518193), (12, .int g518118), (11, .int g518119), (10, .int g517975), (9, .int g517976), (5, .long u515705), (4, .int g515602), (2, .long ol512895), (0, .ref q397452), (1, .ref q397453)]) dr_cX17_findDepth_283 (Nat.le_of_ble_eq_true rfl) rfl ?_
                                                refine G_iconst 1 dr_cX17_findDepth_285 (by decide +kernel) ?_
                                                refine G_istore (L' := [(9, .int 1), (7, .long u518193), (12, .int g518118), (11, .int g518119), (10, .int g517975), (5, .long u515705), (4, .int g515602), (2, .long ol512895), (0, .ref q397452), (1, .ref q397453)]) dr_cX17_findDepth_286 (Nat.le_of_ble_eq_true rfl) rfl ?_
                                                obtain ⟨z518194, hz518194⟩ : ∃ z : Int32, z = g517975 + Int32.ofInt 1 := ⟨_, rfl⟩
                                                have ez518194 : z518194.toInt = g517975.toInt + 1 := gI_inc hz518194 (by decide) bg517975' (by decide) (by decide)
                                                have bz518194 : gB z518194 1 1000000 := ⟨by omega, by omega⟩
                                                refine G_iinc (L' := [(10, .int z518194), (9, .int 1), (7, .long u518193), (12, .int g518118), (11, .int g518119), (5, .long u515705), (4, .int g515602), (2, .long ol512895), (0, .ref q397452), (1, .ref q397453)]) z518194 4 dr_cX17_findDepth_288 rfl hz518194.symm (Nat.le_of_ble_eq_true rfl) rfl ?_
                                                refine G_goto 158 dr_cX17_findDepth_291 (by decide +kernel) ?_
                                                refine G_lv (L' := [(10, .int z518194), (9, .int 1), (7, .long u518193), (5, .long u515705), (4, .int g515602), (2, .long ol512895), (0, .ref q397452), (1, .ref q397453)]) [0, 1, 2, 5, 6, 7, 8, 9] rfl ?_
                                                exact ih158_517979 z518194 1 u518193 (gB_w bz518194 (by decide) (by decide)) (gB_w (gBl (show Int32.toInt 1 = 1 by decide)) (by decide) (by decide)) (rpop_le u518193) (by have qa0 : Int32.toInt 1 = 1 := (by decide); omega) (mz_up ez518194 (Int.le_trans bg517975'.2 (by decide)) hm158_517979)
                                              · have r518195 : g518119.toInt = 0 := gj_eq hc518190 (show Int32.toInt 0 = 0 by decide)
                                                have bg518119' : gB g518119 0 0 := gB_t0 r518195
                                                refine G_goto 288 dr_cX17_findDepth_273 (by decide +kernel) ?_
                                                obtain ⟨z518196, hz518196⟩ : ∃ z : Int32, z = g517975 + Int32.ofInt 1 := ⟨_, rfl⟩
                                                have ez518196 : z518196.toInt = g517975.toInt + 1 := gI_inc hz518196 (by decide) bg517975' (by decide) (by decide)
                                                have bz518196 : gB z518196 1 1000000 := ⟨by omega, by omega⟩
                                                refine G_iinc (L' := [(10, .int z518196), (12, .int g518118), (11, .int g518119), (9, .int g517976), (7, .long gl517977), (5, .long u515705), (4, .int g515602), (2, .long ol512895), (0, .ref q397452), (1, .ref q397453)]) z518196 2 dr_cX17_findDepth_288 rfl hz518196.symm (Nat.le_of_ble_eq_true rfl) rfl ?_
                                                refine G_goto 158 dr_cX17_findDepth_291 (by decide +kernel) ?_
                                                refine G_lv (L' := [(10, .int z518196), (9, .int g517976), (7, .long gl517977), (5, .long u515705), (4, .int g515602), (2, .long ol512895), (0, .ref q397452), (1, .ref q397453)]) [0, 3, 4, 5, 6, 7, 8, 9] rfl ?_
                                                exact ih158_517979 z518196 g517976 gl517977 (gB_w bz518196 (by decide) (by decide)) bg517976 (rpop_le gl517977) (by omega) (mz_up ez518196 (Int.le_trans bg517975'.2 (by decide)) hm158_517979)
                                            · have r518197 : g518118.toInt < o518187.toInt := gC_nle hc518188
                                              have bg518118' : gB g518118 0 1 := ⟨by omega, by omega⟩
                                              have bo518187' : gB o518187 1 2 := ⟨by omega, by omega⟩
                                              refine G_iload 1 dr_cX17_findDepth_213 rfl ?_
                                              refine G_if_ne 255 dr_cX17_findDepth_215 (by decide +kernel) (fun hc518198 => ?_) (fun hc518198 => ?_)
                                              · have r518199 : g518119.toInt ≠ 0 := gj_neq hc518198 (show Int32.toInt 0 = 0 by decide)
                                                have bg518119' : gB g518119 1 1 := gB_t1 bg518119 r518199
                                                refine G_iconst 1 dr_cX17_findDepth_255 (by decide +kernel) ?_
                                                refine G_goto 260 dr_cX17_findDepth_256 (by decide +kernel) ?_
                                                refine G_istore (L' := [(11, .int 1), (12, .int g518118), (10, .int g517975), (9, .int g517976), (7, .long gl517977), (5, .long u515705), (4, .int g515602), (2, .long ol512895), (0, .ref q397452), (1, .ref q397453)]) dr_cX17_findDepth_260 (Nat.le_of_ble_eq_true rfl) rfl ?_
                                                obtain ⟨z518200, hz518200⟩ : ∃ z : Int32, z = g518118 + Int32.ofInt 1 := ⟨_, rfl⟩
                                                have ez518200 : z518200.toInt = g518118.toInt + 1 := gI_inc hz518200 (by decide) bg518118' (by decide) (by decide)
                                                have bz518200 : gB z518200 1 2 := ⟨by omega, by omega⟩
                                                refine G_iinc (L' := [(12, .int z518200), (11, .int 1), (10, .int g517975), (9, .int g517976), (7, .long gl517977), (5, .long u515705), (4, .int g515602), (2, .long ol512895), (0, .ref q397452), (1, .ref q397453)]) z518200 1 dr_cX17_findDepth_262 rfl hz518200.symm (Nat.le_of_ble_eq_true rfl) rfl ?_
                                                refine G_goto 199 dr_cX17_findDepth_265 (by decide +kernel) ?_
                                                exact ih199_518119 z518200 1 (gB_w bz518200 (by decide) (by decide)) (gB_w (gBl (show Int32.toInt 1 = 1 by decide)) (by decide) (by decide)) (mz_up ez518200 (Int.le_trans bg518118'.2 (by decide)) hm199_518119)
                                              · have r518201 : g518119.toInt = 0 := gj_eq hc518198 (show Int32.toInt 0 = 0 by decide)
                                                have bg518119' : gB g518119 0 0 := gB_t0 r518201
                                                refine G_aload_n 9 dr_cX17_findDepth_218 rfl ?_
                                                refine G_iload 2 dr_cX17_findDepth_219 rfl ?_
                                                refine Gw_callV (As := [.int g517975]) (gV_ok D I) (cp_7723_Code_get l hl0 D I P397450 F515603 q397453 q512863 q518125 g517975 q512864 p512865 p512866 p518123 p518124 f518140 n518139 q518142 q518151 q518152 p518153 p518154 hm512861 hm518121 hm518141 hm518149 he515610 he518122 r518133 he518150 (gB_w bg517975' (by decide) (by decide)) (gB_w bp518124 (by decide) (by decide)) (by omega) (by omega) (by assumption) (by omega)) dr_cX17_findDepth_221 ⟨wr_10_161, wr_1_15, wr_10_141, by decide, rfl, (Nat.le_of_ble_eq_true rfl), (Nat.le_of_ble_eq_true rfl)⟩ wr_10_139 wr_10_140 hm512861 he515610 rfl (show 0 + 0 ≤ 0 by first | omega | decide) (show 0 + 0 ≤ 0 by first | omega | decide) (Nat.le_of_ble_eq_true rfl) (fun r518205 w518206 dc518202 ds518203 hp518204 => ?_) (fun _ _ _ _ _ z => z.elim)
                                                obtain ⟨rfl, rfl, hdc, hds⟩ := hp518204
                                                change G _ _ _ _ _ _ _ (.ref q518142 :: _) _ _ _
                                                refine G_widen (cs' := 0) (sl' := 0) (by omega) (by omega) ?_
                                                refine G_iload 0 dr_cX17_findDepth_224 rfl ?_
                                                refine Gw_callV (As := [.int g518118]) (gV_ok D I) (cp_5047_Block_way l hl0 D I P397450 F515603 q518142 q518152 g518118 q518151 p518153 p518154 p518171 p518172 p518173 p518174 p518175 p518176 p518177 hm518149 hm518169 he518150 he518170 bp518153 bp518154 bp518171 bp518172 bp518175 bp518176 bp518177) dr_cX17_findDepth_226 ⟨wr_10_170, wr_1_38, wr_10_173, by decide, rfl, (Nat.le_of_ble_eq_true rfl), (Nat.le_of_ble_eq_true rfl)⟩ wr_10_171 wr_10_172 hm518149 he518150 rfl (show 0 + 0 ≤ 0 by first | omega | decide) (show 0 + 0 ≤ 0 by first | omega | decide) (Nat.le_of_ble_eq_true rfl) (fun r518210 w518211 dc518207 ds518208 hp518209 => ?_) (fun _ _ _ _ _ z => z.elim)
                                                obtain ⟨o518212, rfl, rfl, hdc, hds, bo518212⟩ := hp518209
                                                change G _ _ _ _ _ _ _ (.int o518212 :: _) _ _ _
                                                refine G_widen (cs' := 0) (sl' := 0) (by omega) (by omega) ?_
                                                refine G_iload 6 dr_cX17_findDepth_229 rfl ?_
                                                refine G_icmp_eq 259 dr_cX17_findDepth_231 (by decide +kernel) (fun hc518213 => ?_) (fun hc518213 => ?_)
                                                · have r518214 : o518212.toInt = g515602.toInt := gC_eq hc518213
                                                  have bg515602'' : gB g515602 0 39 := ⟨by omega, by omega⟩
                                                  refine G_iconst 0 dr_cX17_findDepth_259 (by decide +kernel) ?_
                                                  refine G_istore (L' := [(11, .int 0), (12, .int g518118), (10, .int g517975), (9, .int g517976), (7, .long gl517977), (5, .long u515705), (4, .int g515602), (2, .long ol512895), (0, .ref q397452), (1, .ref q397453)]) dr_cX17_findDepth_260 (Nat.le_of_ble_eq_true rfl) rfl ?_
                                                  obtain ⟨z518215, hz518215⟩ : ∃ z : Int32, z = g518118 + Int32.ofInt 1 := ⟨_, rfl⟩
                                                  have ez518215 : z518215.toInt = g518118.toInt + 1 := gI_inc hz518215 (by decide) bg518118' (by decide) (by decide)
                                                  have bz518215 : gB z518215 1 2 := ⟨by omega, by omega⟩
                                                  refine G_iinc (L' := [(12, .int z518215), (11, .int 0), (10, .int g517975), (9, .int g517976), (7, .long gl517977), (5, .long u515705), (4, .int g515602), (2, .long ol512895), (0, .ref q397452), (1, .ref q397453)]) z518215 1 dr_cX17_findDepth_262 rfl hz518215.symm (Nat.le_of_ble_eq_true rfl) rfl ?_
                                                  refine G_goto 199 dr_cX17_findDepth_265 (by decide +kernel) ?_
                                                  exact ih199_518119 z518215 0 (gB_w bz518215 (by decide) (by decide)) (gB_w (gBl (show Int32.toInt 0 = 0 by decide)) (by decide) (by decide)) (mz_up ez518215 (Int.le_trans bg518118'.2 (by decide)) hm199_518119)
                                                · have r518216 : o518212.toInt ≠ g515602.toInt := gC_ne hc518213
                                                  refine G_lload 4 dr_cX17_findDepth_234 rfl ?_
                                                  refine G_aload_n 9 dr_cX17_findDepth_236 rfl ?_
                                                  refine G_iload 2 dr_cX17_findDepth_237 rfl ?_
                                                  refine Gw_callV (As := [.int g517975]) (gV_ok D I) (cp_7723_Code_get l hl0 D I P397450 F515603 q397453 q512863 q518125 g517975 q512864 p512865 p512866 p518123 p518124 f518140 n518139 q518142 q518151 q518152 p518153 p518154 hm512861 hm518121 hm518141 hm518149 he515610 he518122 r518133 he518150 (gB_w bg517975' (by decide) (by decide)) (gB_w bp518124 (by decide) (by decide)) (by omega) (by omega) (by assumption) (by omega)) dr_cX17_findDepth_239 ⟨wr_10_161, wr_1_15, wr_10_141, by decide, rfl, (Nat.le_of_ble_eq_true rfl), (Nat.le_of_ble_eq_true rfl)⟩ wr_10_139 wr_10_140 hm512861 he515610 rfl (show 0 + 0 ≤ 0 by first | omega | decide) (show 0 + 0 ≤ 0 by first | omega | decide) (Nat.le_of_ble_eq_true rfl) (fun r518220 w518221 dc518217 ds518218 hp518219 => ?_) (fun _ _ _ _ _ z => z.elim)
                                                  obtain ⟨rfl, rfl, hdc, hds⟩ := hp518219
                                                  change G _ _ _ _ _ _ _ (.ref q518142 :: _) _ _ _
                                                  refine G_widen (cs' := 0) (sl' := 0) (by omega) (by omega) ?_
                                                  refine G_iload 0 dr_cX17_findDepth_242 rfl ?_
                                                  refine Gw_callV (As := [.int g518118]) (gV_ok D I) (cp_5047_Block_way l hl0 D I P397450 F515603 q518142 q518152 g518118 q518151 p518153 p518154 p518171 p518172 p518173 p518174 p518175 p518176 p518177 hm518149 hm518169 he518150 he518170 bp518153 bp518154 bp518171 bp518172 bp518175 bp518176 bp518177) dr_cX17_findDepth_244 ⟨wr_10_170, wr_1_38, wr_10_173, by decide, rfl, (Nat.le_of_ble_eq_true rfl), (Nat.le_of_ble_eq_true rfl)⟩ wr_10_171 wr_10_172 hm518149 he518150 rfl (show 0 + 0 ≤ 0 by first | omega | decide) (show 0 + 0 ≤ 0 by first | omega | decide) (Nat.le_of_ble_eq_true rfl) (fun r518225 w518226 dc518222 ds518223 hp518224 => ?_) (fun _ _ _ _ _ z => z.elim)
                                                  obtain ⟨o518227, rfl, rfl, hdc, hds, bo518227⟩ := hp518224
                                                  change G _ _ _ _ _ _ _ (.int o518227 :: _) _ _ _
                                                  refine G_widen (cs' := 0) (sl' := 0) (by omega) (by omega) ?_
                                                  refine G_lushr dr_cX17_findDepth_247 (G_namL fun u518228 hu518228 => ?_)
                                                  refine G_lconst 1 dr_cX17_findDepth_248 rfl ?_
                                                  refine G_land dr_cX17_findDepth_249 (G_namL fun u518229 hu518229 => ?_)
                                                  refine G_lconst 0 dr_cX17_findDepth_250 rfl ?_
                                                  refine G_lcmp dr_cX17_findDepth_251 (G_nam fun z518230 hz518230 => ?_)
                                                  have bz518230 : gB z518230 (-1) 1 := gB_cmp hz518230
                                                  refine G_if_eq 259 dr_cX17_findDepth_252 (by decide +kernel) (fun hc518231 => ?_) (fun hc518231 => ?_)
                                                  · have r518232 : z518230.toInt = 0 := gj_eq hc518231 (show Int32.toInt 0 = 0 by decide)
                                                    have bz518230' : gB z518230 0 0 := ⟨by omega, by omega⟩
                                                    have lhc518231 := gC_cmpE hz518230 hc518231
                                                    have zhc518231 := rbit_0 hu518228 hu518229 lhc518231 (by omega) (by omega)
                                                    refine G_iconst 0 dr_cX17_findDepth_259 (by decide +kernel) ?_
                                                    refine G_istore (L' := [(11, .int 0), (12, .int g518118), (10, .int g517975), (9, .int g517976), (7, .long gl517977), (5, .long u515705), (4, .int g515602), (2, .long ol512895), (0, .ref q397452), (1, .ref q397453)]) dr_cX17_findDepth_260 (Nat.le_of_ble_eq_true rfl) rfl ?_
                                                    obtain ⟨z518233, hz518233⟩ : ∃ z : Int32, z = g518118 + Int32.ofInt 1 := ⟨_, rfl⟩
                                                    have ez518233 : z518233.toInt = g518118.toInt + 1 := gI_inc hz518233 (by decide) bg518118' (by decide) (by decide)
                                                    have bz518233 : gB z518233 1 2 := ⟨by omega, by omega⟩
                                                    refine G_iinc (L' := [(12, .int z518233), (11, .int 0), (10, .int g517975), (9, .int g517976), (7, .long gl517977), (5, .long u515705), (4, .int g515602), (2, .long ol512895), (0, .ref q397452), (1, .ref q397453)]) z518233 1 dr_cX17_findDepth_262 rfl hz518233.symm (Nat.le_of_ble_eq_true rfl) rfl ?_
                                                    refine G_goto 199 dr_cX17_findDepth_265 (by decide +kernel) ?_
                                                    exact ih199_518119 z518233 0 (gB_w bz518233 (by decide) (by decide)) (gB_w (gBl (show Int32.toInt 0 = 0 by decide)) (by decide) (by decide)) (mz_up ez518233 (Int.le_trans bg518118'.2 (by decide)) hm199_518119)
                                                  · have r518234 : z518230.toInt ≠ 0 := gj_neq hc518231 (show Int32.toInt 0 = 0 by decide)
                                                    have lhc518231 := gC_cmpN hz518230 hc518231
                                                    refine G_iconst 1 dr_cX17_findDepth_255 (by decide +kernel) ?_
                                                    refine G_goto 260 dr_cX17_findDepth_256 (by decide +kernel) ?_
                                                    refine G_istore (L' := [(11, .int 1), (12, .int g518118), (10, .int g517975), (9, .int g517976), (7, .long gl517977), (5, .long u515705), (4, .int g515602), (2, .long ol512895), (0, .ref q397452), (1, .ref q397453)]) dr_cX17_findDepth_260 (Nat.le_of_ble_eq_true rfl) rfl ?_
                                                    obtain ⟨z518235, hz518235⟩ : ∃ z : Int32, z = g518118 + Int32.ofInt 1 := ⟨_, rfl⟩
                                                    have ez518235 : z518235.toInt = g518118.toInt + 1 := gI_inc hz518235 (by decide) bg518118' (by decide) (by decide)
                                                    have bz518235 : gB z518235 1 2 := ⟨by omega, by omega⟩
                                                    refine G_iinc (L' := [(12, .int z518235), (11, .int 1), (10, .int g517975), (9, .int g517976), (7, .long gl517977), (5, .long u515705), (4, .int g515602), (2, .long ol512895), (0, .ref q397452), (1, .ref q397453)]) z518235 1 dr_cX17_findDepth_262 rfl hz518235.symm (Nat.le_of_ble_eq_true rfl) rfl ?_
                                                    refine G_goto 199 dr_cX17_findDepth_265 (by decide +kernel) ?_
                                                    exact ih199_518119 z518235 1 (gB_w bz518235 (by decide) (by decide)) (gB_w (gBl (show Int32.toInt 1 = 1 by decide)) (by decide) (by decide)) (mz_up ez518235 (Int.le_trans bg518118'.2 (by decide)) hm199_518119)
                                        exact hlp199_518119 (((3 : Int) - 0).toNat + 1) 0 0 (gB_w (gBl (show Int32.toInt 0 = 0 by decide)) (by decide) (by decide)) (gB_w (gBl (show Int32.toInt 0 = 0 by decide)) (by decide) (by decide)) (Nat.lt_succ_self _)
                                      · have r518236 : z517998.toInt = 0 := gj_eq hc517999 (show Int32.toInt 0 = 0 by decide)
                                        have bz517998' : gB z517998 0 0 := ⟨by omega, by omega⟩
                                        have lhc517999 := gC_cmpE hz517998 hc517999
                                        refine G_goto 288 dr_cX17_findDepth_190 (by decide +kernel) ?_
                                        obtain ⟨z518237, hz518237⟩ : ∃ z : Int32, z = g517975 + Int32.ofInt 1 := ⟨_, rfl⟩
                                        have ez518237 : z518237.toInt = g517975.toInt + 1 := gI_inc hz518237 (by decide) bg517975' (by decide) (by decide)
                                        have bz518237 : gB z518237 1 1000000 := ⟨by omega, by omega⟩
                                        refine G_iinc (L' := [(10, .int z518237), (9, .int g517976), (7, .long gl517977), (5, .long u515705), (4, .int g515602), (2, .long ol512895), (0, .ref q397452), (1, .ref q397453)]) z518237 0 dr_cX17_findDepth_288 rfl hz518237.symm (Nat.le_of_ble_eq_true rfl) rfl ?_
                                        refine G_goto 158 dr_cX17_findDepth_291 (by decide +kernel) ?_
                                        exact ih158_517979 z518237 g517976 gl517977 (gB_w bz518237 (by decide) (by decide)) bg517976 (rpop_le gl517977) (by omega) (mz_up ez518237 (Int.le_trans bg517975'.2 (by decide)) hm158_517979)
                              exact hlp158_517979 (((1000001 : Int) - 0).toNat + 1) 0 0 gl517630 (gB_w (gBl (show Int32.toInt 0 = 0 by decide)) (by decide) (by decide)) (gB_w (gBl (show Int32.toInt 0 = 0 by decide)) (by decide) (by decide)) (rpop_le gl517630) (by have qa0 : Int32.toInt 0 = 0 := (by decide); omega) (Nat.lt_succ_self _)
                        exact hlp147_517631 ((64 - rpop u517021) + ((1 : Int)).toNat + 1) 1 u517021 (gB_w (gBl (show Int32.toInt 1 = 1 by decide)) (by decide) (by decide)) (rpop_le u517021) (Nat.lt_succ_self _)
                      · have r518238 : z517017.toInt = 0 := gj_eq hc517018 (show Int32.toInt 0 = 0 by decide)
                        have bz517017' : gB z517017 0 0 := ⟨by omega, by omega⟩
                        have lhc517018 := gC_cmpE hz517017 hc517018
                        refine G_goto 333 dr_cX17_findDepth_132 (by decide +kernel) ?_
                        obtain ⟨z518239, hz518239⟩ : ∃ z : Int32, z = g515602 + Int32.ofInt 1 := ⟨_, rfl⟩
                        have ez518239 : z518239.toInt = g515602.toInt + 1 := gI_inc hz518239 (by decide) bg515602' (by decide) (by decide)
                        have bz518239 : gB z518239 1 1000000 := ⟨by omega, by omega⟩
                        refine G_iinc (L' := [(4, .int z518239), (9, .int g517007), (7, .long gl517008), (5, .long u515705), (2, .long ol512895), (0, .ref q397452), (1, .ref q397453)]) z518239 3 dr_cX17_findDepth_333 rfl hz518239.symm (Nat.le_of_ble_eq_true rfl) rfl ?_
                        refine G_goto 32 dr_cX17_findDepth_336 (by decide +kernel) ?_
                        refine G_lv (L' := [(4, .int z518239), (2, .long ol512895), (0, .ref q397452), (1, .ref q397453)]) [0, 4, 5, 6] rfl ?_
                        exact ih32_515607 F515603 z518239 (gB_w bz518239 (by decide) (by decide)) hT515604 hs515605 x515606 x515607 (mz_up ez518239 (Int.le_trans bg515602'.2 (by decide)) hm32_515607)
                    · have r518240 : g517007.toInt < p512866.toInt := gC_nle hc517015
                      have bg517007' : gB g517007 0 999999 := ⟨by omega, by omega⟩
                      refine G_lload 2 dr_cX17_findDepth_84 rfl ?_
                      refine G_iload 0 dr_cX17_findDepth_86 rfl ?_
                      refine G_lushr dr_cX17_findDepth_88 (G_namL fun u518241 hu518241 => ?_)
                      refine G_lconst 1 dr_cX17_findDepth_89 rfl ?_
                      refine G_land dr_cX17_findDepth_90 (G_namL fun u518242 hu518242 => ?_)
                      refine G_lconst 0 dr_cX17_findDepth_91 rfl ?_
                      refine G_lcmp dr_cX17_findDepth_92 (G_nam fun z518243 hz518243 => ?_)
                      have bz518243 : gB z518243 (-1) 1 := gB_cmp hz518243
                      refine G_if_eq 119 dr_cX17_findDepth_93 (by decide +kernel) (fun hc518244 => ?_) (fun hc518244 => ?_)
                      · have r518245 : z518243.toInt = 0 := gj_eq hc518244 (show Int32.toInt 0 = 0 by decide)
                        have bz518243' : gB z518243 0 0 := ⟨by omega, by omega⟩
                        have lhc518244 := gC_cmpE hz518243 hc518244
                        obtain ⟨z518246, hz518246⟩ : ∃ z : Int32, z = g517007 + Int32.ofInt 1 := ⟨_, rfl⟩
                        have ez518246 : z518246.toInt = g517007.toInt + 1 := gI_inc hz518246 (by decide) bg517007' (by decide) (by decide)
                        have bz518246 : gB z518246 1 1000000 := ⟨by omega, by omega⟩
                        refine G_iinc (L' := [(9, .int z518246), (7, .long gl517008), (5, .long u515705), (4, .int g515602), (2, .long ol512895), (0, .ref q397452), (1, .ref q397453)]) z518246 0 dr_cX17_findDepth_119 rfl hz518246.symm (Nat.le_of_ble_eq_true rfl) rfl ?_
                        refine G_goto 75 dr_cX17_findDepth_122 (by decide +kernel) ?_
                        exact ih75_517008 z518246 gl517008 (gB_w bz518246 (by decide) (by decide)) (mz_up ez518246 (Int.le_trans bg517007'.2 (by decide)) hm75_517008)
                      · have r518247 : z518243.toInt ≠ 0 := gj_neq hc518244 (show Int32.toInt 0 = 0 by decide)
                        have lhc518244 := gC_cmpN hz518243 hc518244
                        refine G_aload_n 6 dr_cX17_findDepth_96 rfl ?_
                        refine G_iload 0 dr_cX17_findDepth_97 rfl ?_
                        have hm518248 : q512863 ∈ P397450 := RS_m hT515604 ht512867 (by decide)
                        obtain ⟨⟨p518250, p518251, q518252, he518249, r518253, r518254, r518255, r518257⟩, r518256⟩ := show rk_4 D I γ el F515603 q512863 from RS_o hT515604 ht512867
                        have bp518250 := gB_any p518250
                        have bp518251 : gB p518251 0 1000000 := ⟨by omega, by omega⟩
                        obtain ⟨r518258, r518259, n518266, f518267, r518260, r518261, r518262, r518263, r518264, r518265⟩ := rLC_n r518255 (by omega)
                        have hm518268 : q518252 ∈ P397450 := RS_m hT515604 r518258 (by decide)
                        obtain ⟨q518269, hx518270⟩ : ∃ x, x = el q512863 g517007.toInt.toNat := ⟨_, rfl⟩
                        have hx518271 : f518267 g517007.toNatClampNeg = some q518269 := (r518264 _ (show g517007.toInt.toNat < γ 2 q512863 by omega)).trans (by rw [hx518270])
                        have ht518274 : rKd γ q518269 2 := by rw [hx518270]; exact (r512878 _ (by omega)).resolve_right (fun z => absurd z.1 (by omega))
                        have ht518275 : rFm γ q518269 q512863 := by rw [hx518270]; exact (r518256 _ (show g517007.toInt.toNat < γ 2 q512863 by omega)).2.1
                        have hm518276 : q518269 ∈ P397450 := RS_m hT515604 ht518274 (by decide)
                        obtain ⟨q518278, q518279, p518280, p518281, he518277, ht518288, ht518282, ht518283, ht518284, ht518285, ht518286, bp518280, bp518281, r518287, r518289, r518290⟩ := show rk_2 γ q518269 (F515603 q518269) from RS_o hT515604 ht518274
                        refine Gw_callV (As := [.int g517007]) (gV_ok D I) (cp_7723_Code_get l hl0 D I P397450 F515603 q397453 q512863 q518252 g517007 q512864 p512865 p512866 p518250 p518251 f518267 n518266 q518269 q518278 q518279 p518280 p518281 hm512861 hm518248 hm518268 hm518276 he515610 he518249 r518260 he518277 (gB_w bg517007' (by decide) (by decide)) (gB_w bp518251 (by decide) (by decide)) (by omega) (by omega) (by assumption) (by omega)) dr_cX17_findDepth_99 ⟨wr_10_161, wr_1_15, wr_10_141, by decide, rfl, (Nat.le_of_ble_eq_true rfl), (Nat.le_of_ble_eq_true rfl)⟩ wr_10_139 wr_10_140 hm512861 he515610 rfl (show 0 + 0 ≤ 0 by first | omega | decide) (show 0 + 0 ≤ 0 by first | omega | decide) (Nat.le_of_ble_eq_true rfl) (fun r518294 w518295 dc518291 ds518292 hp518293 => ?_) (fun _ _ _ _ _ z => z.elim)
                        obtain ⟨rfl, rfl, hdc, hds⟩ := hp518293
                        change G _ _ _ _ _ _ _ (.ref q518269 :: _) _ _ _
                        refine G_widen (cs' := 0) (sl' := 0) (by omega) (by omega) ?_
                        refine G_iload 3 dr_cX17_findDepth_102 rfl ?_
                        refine Gw_callS (As := [.ref q518269, .int g515602]) (gV_ok D I) (ct_7434_SpillForgeModel_leads l hl0 D I γ el P397450 F515603 q518269 g515602 hT515604 ht518274) dr_cX17_findDepth_104 ⟨wr_11_44, wr_1_14, wr_11_46, by decide, rfl, (Nat.le_of_ble_eq_true rfl), (Nat.le_of_ble_eq_true rfl)⟩ wr_11_45 (show 0 + 0 ≤ 0 by first | omega | decide) (show 0 + 0 ≤ 0 by first | omega | decide) (Nat.le_of_ble_eq_true rfl) (fun r518299 w518300 dc518296 ds518297 hp518298 => ?_) (fun _ _ _ _ _ z => z.elim)
                        obtain ⟨o518301, rfl, rfl, hdc, hds, bo518301⟩ := hp518298
                        change G _ _ _ _ _ _ _ (.int o518301 :: _) _ _ _
                        refine G_widen (cs' := 0) (sl' := 0) (by omega) (by omega) ?_
                        refine G_if_eq 119 dr_cX17_findDepth_107 (by decide +kernel) (fun hc518302 => ?_) (fun hc518302 => ?_)
                        · have r518303 : o518301.toInt = 0 := gj_eq hc518302 (show Int32.toInt 0 = 0 by decide)
                          have bo518301' : gB o518301 0 0 := gB_t0 r518303
                          obtain ⟨z518304, hz518304⟩ : ∃ z : Int32, z = g517007 + Int32.ofInt 1 := ⟨_, rfl⟩
                          have ez518304 : z518304.toInt = g517007.toInt + 1 := gI_inc hz518304 (by decide) bg517007' (by decide) (by decide)
                          have bz518304 : gB z518304 1 1000000 := ⟨by omega, by omega⟩
                          refine G_iinc (L' := [(9, .int z518304), (7, .long gl517008), (5, .long u515705), (4, .int g515602), (2, .long ol512895), (0, .ref q397452), (1, .ref q397453)]) z518304 0 dr_cX17_findDepth_119 rfl hz518304.symm (Nat.le_of_ble_eq_true rfl) rfl ?_
                          refine G_goto 75 dr_cX17_findDepth_122 (by decide +kernel) ?_
                          exact ih75_517008 z518304 gl517008 (gB_w bz518304 (by decide) (by decide)) (mz_up ez518304 (Int.le_trans bg517007'.2 (by decide)) hm75_517008)
                        · have r518305 : o518301.toInt ≠ 0 := gj_neq hc518302 (show Int32.toInt 0 = 0 by decide)
                          have bo518301' : gB o518301 1 1 := gB_t1 bo518301 r518305
                          refine G_lload 1 dr_cX17_findDepth_110 rfl ?_
                          refine G_lconst 1 dr_cX17_findDepth_112 rfl ?_
                          refine G_iload 0 dr_cX17_findDepth_113 rfl ?_
                          refine G_lshl dr_cX17_findDepth_115 (G_namL fun u518306 hu518306 => ?_)
                          have qu518306 : lb_Q u518306 (g517007.toInt % 64 + 1) := lb_Qshl hu518306 (by omega)
                          refine G_lor dr_cX17_findDepth_116 (G_namL fun u518307 hu518307 => ?_)
                          have pmu518307 : rpop gl517008 ≤ rpop u518307 := rpop_or hu518307
                          refine G_lstore (L' := [(7, .long u518307), (9, .int g517007), (5, .long u515705), (4, .int g515602), (2, .long ol512895), (0, .ref q397452), (1, .ref q397453)]) dr_cX17_findDepth_117 (Nat.le_of_ble_eq_true rfl) rfl ?_
                          obtain ⟨z518308, hz518308⟩ : ∃ z : Int32, z = g517007 + Int32.ofInt 1 := ⟨_, rfl⟩
                          have ez518308 : z518308.toInt = g517007.toInt + 1 := gI_inc hz518308 (by decide) bg517007' (by decide) (by decide)
                          have bz518308 : gB z518308 1 1000000 := ⟨by omega, by omega⟩
                          refine G_iinc (L' := [(9, .int z518308), (7, .long u518307), (5, .long u515705), (4, .int g515602), (2, .long ol512895), (0, .ref q397452), (1, .ref q397453)]) z518308 1 dr_cX17_findDepth_119 rfl hz518308.symm (Nat.le_of_ble_eq_true rfl) rfl ?_
                          refine G_goto 75 dr_cX17_findDepth_122 (by decide +kernel) ?_
                          exact ih75_517008 z518308 u518307 (gB_w bz518308 (by decide) (by decide)) (mz_up ez518308 (Int.le_trans bg517007'.2 (by decide)) hm75_517008)
                exact hlp75_517008 (((1000001 : Int) - 0).toNat + 1) 0 0 (gB_w (gBl (show Int32.toInt 0 = 0 by decide)) (by decide) (by decide)) (Nat.lt_succ_self _)
              · have r518309 : z515695.toInt = 0 := gj_eq hc515696 (show Int32.toInt 0 = 0 by decide)
                have bz515695' : gB z515695 0 0 := ⟨by omega, by omega⟩
                have lhc515696 := gC_cmpE hz515695 hc515696
                refine G_goto 333 dr_cX17_findDepth_52 (by decide +kernel) ?_
                obtain ⟨z518310, hz518310⟩ : ∃ z : Int32, z = g515602 + Int32.ofInt 1 := ⟨_, rfl⟩
                have ez518310 : z518310.toInt = g515602.toInt + 1 := gI_inc hz518310 (by decide) bg515602' (by decide) (by decide)
                have bz518310 : gB z518310 1 1000000 := ⟨by omega, by omega⟩
                refine G_iinc (L' := [(4, .int z518310), (2, .long ol512895), (0, .ref q397452), (1, .ref q397453)]) z518310 0 dr_cX17_findDepth_333 rfl hz518310.symm (Nat.le_of_ble_eq_true rfl) rfl ?_
                refine G_goto 32 dr_cX17_findDepth_336 (by decide +kernel) ?_
                exact ih32_515607 F515603 z518310 (gB_w bz518310 (by decide) (by decide)) hT515604 hs515605 x515606 x515607 (mz_up ez518310 (Int.le_trans bg515602'.2 (by decide)) hm32_515607)
        exact hlp32_515607 (((1000001 : Int) - 0).toNat + 1) F512851 0 (gB_w (gBl (show Int32.toInt 0 = 0 by decide)) (by decide) (by decide)) hT512852 hs512853 x512854 x512855 (Nat.lt_succ_self _)
      · have r518311 : g512850.toInt < p512866.toInt := gC_nle hc512888
        have bg512850' : gB g512850 0 999999 := ⟨by omega, by omega⟩
        have bp512866' : gB p512866 1 1000000 := ⟨by omega, by omega⟩
        refine G_aload_n 1 dr_cX17_findDepth_10 rfl ?_
        refine Gp_get 4 hm512860 he512859 dr_cX17_findDepth_11 (gk_X17 D I) (Nat.le_of_ble_eq_true rfl) wr_7_78 rfl ?_
        refine G_iload_n 0 dr_cX17_findDepth_14 rfl ?_
        refine G_iconst 0 dr_cX17_findDepth_15 (by decide +kernel) ?_
        have hm518312 : (γ 9 4) ∈ P397450 := RS_m hT512852 ht397481 (by decide)
        obtain ⟨f518314, he518313⟩ := show rk_16 I (F512851 (γ 9 4)) from RS_o hT512852 ht397481
        refine Gp_iast 0 hm518312 he518313 dr_cX17_findDepth_16 rfl (gB_inr (by omega) (by omega)) (fun F518315 e518316 n518317 => ?_)
        obtain ⟨f518318, hf518318⟩ : ∃ z, z = upd f518314 g512850.toNatClampNeg 0 := ⟨_, rfl⟩
        rw [← hf518318] at e518316
        have he518319 : F518315 q397452 = .inr (22, [.ref (γ 9 0), .ref (γ 9 1), .ref (γ 9 2), .ref (γ 9 3), .ref (γ 9 4), .ref (γ 9 5), .ref (γ 9 6), .ref (γ 9 7), .ref (γ 9 8), .int p397460, .int p397461, .int p397462, .int p397463, .int p397464, .int p397465, .ref (γ 9 15), .ref (γ 9 16), .ref (γ 9 17), .ref (γ 9 18), .ref (γ 9 19), .ref (γ 9 20), .ref (γ 9 21), .ref (γ 9 22), .int p397466, .int p397467, .int p397468, .int p397469, .int p397470, .ref q397458, .ref (γ 9 29), .int p397471, .ref (γ 9 31), .int p397472, .int p397473, .int p397474, .ref q397459]) := (n518317 q397452 (rn_oa he512859 he518313)).trans he512859
        have he518320 : F518315 q397453 = .inr (18, [.ref q512863, .ref q512864, .int p512865, .int p512866]) := (n518317 q397453 (rn_oa he512862 he518313)).trans he512862
        have he518321 : F518315 (γ 9 4) = .inl (I .int, 40, .inl f518318) := e518316
        have hs518322 : rStr γ [] F397451 F518315 := rStr_put hs512853 n518317 ht397481 (by decide)
        have kp518323 : F518315 q397452 = F397451 q397452 := (n518317 q397452 (rn_ty htq397452 ht397481 (by decide))).trans x512854
        have kp518324 : F518315 (γ 9 3) = F397451 (γ 9 3) := (n518317 (γ 9 3) (rn_ty ht397480 ht397481 (by decide))).trans x512855
        obtain ⟨z518325, hz518325⟩ : ∃ z : Int32, z = g512850 + Int32.ofInt 1 := ⟨_, rfl⟩
        have ez518325 : z518325.toInt = g512850.toInt + 1 := gI_inc hz518325 (by decide) bg512850' (by decide) (by decide)
        have bz518325 : gB z518325 1 1000000 := ⟨by omega, by omega⟩
        refine G_iinc (L' := [(2, .int z518325), (0, .ref q397452), (1, .ref q397453)]) z518325 0 dr_cX17_findDepth_17 rfl hz518325.symm (Nat.le_of_ble_eq_true rfl) rfl ?_
        refine G_goto 2 dr_cX17_findDepth_20 (by decide +kernel) ?_
        have hT518326 : RS D I P397450 F518315 γ el := RS_set hT512852 n518317 ht397481 (by decide) ⟨f518318, he518321⟩
        exact ih2_512855 F518315 z518325 (gB_w bz518325 (by decide) (by decide)) hT518326 hs518322 kp518323 kp518324 (mz_up ez518325 (Int.le_trans bg512850'.2 (by decide)) hm2_512855)
  exact hlp2_512855 (((1000001 : Int) - 0).toNat + 1) F397451 0 (gB_w (gBl (show Int32.toInt 0 = 0 by decide)) (by decide) (by decide)) hT (rStr_rf (γ := γ) (W := []) (F := F397451)) rfl rfl (Nat.lt_succ_self _)
