abbrev ky_398156_SpillForgeModel_load : gKey := (cX17_load, 6, "SpillForgeModel", (some FieldType.int), [], "load", fun _ _ => True)
def pg_398156_SpillForgeModel_load (D : va_G) (I : FieldType → ClassId) (γ0 el0 : Nat → Nat → Nat) (f : Nat) (B : Nat) (P398143 : List Nat) (F398144 : Nat → va_E) (q398145 : Nat) (q398146 : Nat) (q398147 : Nat) (p398148 : Int32) (p398149 : Int32) (jx398150 : Nat) : Option Value → va_W → Nat → Nat → Prop := fun r w dc ds => ∃ (P398506 : List Nat) (F398507 : Nat → va_E) (γ el : Nat → Nat → Nat) (o398505 : Int32), r = some (.int o398505) ∧ w = va_pl P398506 F398507 ∧ rSk f [101] ([3, 5, 6, 8, 9, 10, 101]) D I P398143 F398144 γ0 el0 P398506 F398507 γ el ∧ (18 * dc + rPh γ0 el0 f ≤ rPh γ el f ∧ ds + rPh γ0 el0 f ≤ rPh γ el f) ∧ rBd γ el f B ∧ gB o398505 (-1) 1999 ∧ γ 6 f = γ0 6 f ∧ γ 7 f = γ0 7 f ∧ γ 18 f = γ0 18 f ∧ (γ 14 q398147 = γ0 14 q398147 ∧ jx398150 < γ 2 (γ 14 q398146) ∧ el (γ 14 q398146) jx398150 = q398147) ∧ (o398505.toInt < 0 ∨ (o398505.toInt = (fI (F398144 q398145) 14).toInt ∧ o398505.toInt < 2000 ∧ (fI (F398507 q398145) 14).toInt = o398505.toInt + 1 ∧ γ 16 f = γ0 16 f + 1 ∧ γ 2 (γ 14 q398147) = γ0 2 (γ0 14 q398147) + 1)) ∧ (fI (F398507 q398145) 11).toInt = (fI (F398144 q398145) 11).toInt ∧ (o398505.toInt < 0 ∨ rInsP γ0 el0 F398144 γ el F398507 q398146 f jx398150 (p398148.toInt : Int).toNat (o398505.toInt : Int).toNat) ∧ (o398505.toInt < 0 ∨ ∀ j : Nat, (p398148.toInt : Int).toNat ≤ j → rAt γ el q398146 jx398150 (j + 1) = rAt γ0 el0 q398146 jx398150 j) ∧ mKp (F398144 q398145) (F398507 q398145)
set_option maxRecDepth 100000 in
set_option maxHeartbeats 1500000 in
theorem cg_398156_SpillForgeModel_load (l : Launch) (hl0 : l.stackTraces = false) (D : va_G) (I : FieldType → ClassId) (γ0 el0 : Nat → Nat → Nat) (f : Nat) (B : Nat) (P398143 : List Nat) (F398144 : Nat → va_E) (q398145 : Nat) (q398146 : Nat) (q398147 : Nat) (p398148 : Int32) (p398149 : Int32) (jx398150 : Nat) (hT0 : RS D I P398143 F398144 γ0 el0) (hzq398145 : rKd γ0 q398145 10) (hzq398146 : rKd γ0 q398146 9) (hzq398147 : rKd γ0 q398147 2) (hf0 : γ0 1 q398146 = f) (hB0 : rBd γ0 el0 f B) (hBk : B ≤ 100000) (hqjjx398150 : jx398150 < γ0 2 (γ0 14 q398146)) (hqejx398150 : el0 (γ0 14 q398146) jx398150 = q398147) (hqfjx398150 : γ0 1 q398147 = f) (bp398148 : gB p398148 0 1000000) (bp398149 : gB p398149 0 1999) (x398151 : p398148.toInt ≤ γ0 2 (γ0 14 q398147)) (x398152 : p398149.toInt < γ0 7 f) (x398153 : γ0 16 f + 1 ≤ B) (x398154 : 0 < γ0 6 f) (x398155 : jx398150 < γ0 6 f) : CtA (gV D I) l yX17_load cX17_load 6 (some FieldType.int) 8 170 (((387 * B + 6000) - rPh γ0 el0 f) / 18) ((387 * B + 6000) - rPh γ0 el0 f) [.ref q398145, .ref q398146, .ref q398147, .int p398148, .int p398149] (va_pl P398143 F398144) (pg_398156_SpillForgeModel_load D I γ0 el0 f B P398143 F398144 q398145 q398146 q398147 p398148 p398149 jx398150) gNA := by
  refine CtA_of hl0 (by decide) (Nat.le_of_ble_eq_true rfl) ?_
  obtain ⟨γ, hγ0⟩ : ∃ z, z = γ0 := ⟨_, rfl⟩
  obtain ⟨el, hel0⟩ : ∃ z, z = el0 := ⟨_, rfl⟩
  have hT : RS D I P398143 F398144 γ el := by rw [hγ0, hel0]; exact hT0
  have hst : rSk f [101] ([3, 5, 6, 8, 9, 10, 101]) D I P398143 F398144 γ0 el0 P398143 F398144 γ el := by rw [hγ0, hel0]; exact rSk_rf hT0
  have hph : rPh γ0 el0 f ≤ rPh γ el f := by rw [hγ0, hel0]; exact Nat.le_refl _
  have hB : rBd γ el f B := by rw [hγ0, hel0]; exact hB0
  have htq398145 : rKd γ q398145 10 := by rw [hγ0]; exact hzq398145
  have htq398146 : rKd γ q398146 9 := by rw [hγ0]; exact hzq398146
  have htq398147 : rKd γ q398147 2 := by rw [hγ0]; exact hzq398147
  have hf1 : γ 1 q398146 = f := by rw [hγ0]; exact hf0
  have hpjjx398150 : jx398150 < γ 2 (γ 14 q398146) := by rw [hγ0]; exact hqjjx398150
  have hpejx398150 : el (γ 14 q398146) jx398150 = q398147 := by rw [hγ0, hel0]; exact hqejx398150
  have hpfjx398150 : γ 1 q398147 = f := by rw [hγ0]; exact hqfjx398150
  have x398151n : p398148.toInt ≤ γ 2 (γ 14 q398147) := by rw [hγ0]; exact x398151
  have x398152n : p398149.toInt < γ 7 f := by rw [hγ0]; exact x398152
  have x398153n : γ 16 f + 1 ≤ B := by rw [hγ0]; exact x398153
  have x398154n : 0 < γ 6 f := by rw [hγ0]; exact x398154
  have x398155n : jx398150 < γ 6 f := by rw [hγ0]; exact x398155
  have pk398157 : rPh γ el f ≤ 387 * B + 6000 := rm_pk (rM_ge hT htq398146 hf1).1 (rM_bd hB)
  refine G_widen (cs' := ((rPh γ el f - rPh γ0 el0 f) / 18)) (sl' := (rPh γ el f - rPh γ0 el0 f)) (Nat.zero_le _) (Nat.zero_le _) ?_
  have r398158 : 0 < γ 6 (γ 1 q398146) := by rw [hf1]; omega
  have lz0 : Int32.toInt 0 = 0 := by decide
  have r398159 : γ 6 f = γ0 6 f := by rw [hγ0]
  have r398160 : γ 7 f = γ0 7 f := by rw [hγ0]
  have r398161 : γ 16 f = γ0 16 f := by rw [hγ0]
  have r398162 : γ 18 f = γ0 18 f := by rw [hγ0]
  have r398163 : γ 19 f = γ0 19 f := by rw [hγ0]
  have sz398164 : γ 2 (γ 14 q398147) = γ0 2 (γ0 14 q398147) := by rw [hγ0]
  have hm398165 : q398145 ∈ P398143 := RS_m hT htq398145 (by decide)
  obtain ⟨q398167, q398168, p398169, p398170, p398171, p398172, p398173, p398174, p398175, p398176, p398177, p398178, p398179, p398180, p398181, p398182, p398183, he398166, hB398210, ht398184, ht398185, ht398186, ht398187, ht398188, ht398189, ht398190, ht398191, ht398192, ht398193, ht398194, ht398195, ht398196, ht398197, ht398198, ht398199, ht398200, ht398201, ht398202, ht398203, ht398204, ht398205, ht398206, ht398207, hB398211⟩ := show rk_10 γ (F398144 q398145) from RS_o hT htq398145
  have ac0_11 : (fI (F398144 q398145) 11).toInt = p398171.toInt := by rw [he398166]; rfl
  have ac0_14 : (fI (F398144 q398145) 14).toInt = p398174.toInt := by rw [he398166]; rfl
  have bp398171 : gB p398171 0 100 := (hB398210.2.2.1)
  have bp398174 : gB p398174 0 2000 := (hB398210.2.2.2.1)
  refine G_aload_n 0 dr_cX17_load_0 rfl ?_
  refine Gp_get 14 hm398165 he398166 dr_cX17_load_1 (gk_X17 D I) (Nat.le_of_ble_eq_true rfl) wr_7_88 rfl ?_
  refine G_sipush 2000 dr_cX17_load_4 (by decide +kernel) ?_
  refine G_icmp_ne 12 dr_cX17_load_7 (by decide +kernel) (fun hc398212 => ?_) (fun hc398212 => ?_)
  · have r398213 : p398174.toInt ≠ 2000 := gj_neq hc398212 (show Int32.toInt 2000 = 2000 by decide)
    have bp398174' : gB p398174 0 1999 := ⟨by omega, by omega⟩
    refine G_aload_n 1 dr_cX17_load_12 rfl ?_
    have rg398214 := rM_ge hT htq398146 hf1
    have rm398215 := rM_bd hB
    have bd398216 := rBd_c hT htq398146 hf1 hB
    have rc398217 := rc_at hT htq398146 hf1
    obtain ⟨q398224, hl398225⟩ : ∃ z, z = γ 14 q398147 := ⟨_, rfl⟩
    have hl398226 : γ 0 q398224 = 3 ∨ γ 0 q398224 = 103 := by rw [hl398225, ← hpejx398150]; exact (RS_lst hT rc398217.2.1 hpjjx398150).1
    refine Gt_row (c := q398146) (f := f) hl0 dr_cX17_load_13 ⟨wr_10_202, wr_1_15, wr_10_78, by decide, rfl, (Nat.le_of_ble_eq_true rfl), (Nat.le_of_ble_eq_true rfl)⟩ wr_10_76 wr_10_77 hT htq398146 hf1 (Nat.le_trans bd398216.2.2.1 (Nat.le_trans hBk (by decide))) (rm_cs hph rg398214.2.1 rm398215 (by decide)) (rm_sl hph rg398214.2.1 rm398215 rm_s18) (Nat.le_of_ble_eq_true rfl) (fun P398218 F398219 γ el q398220 dc398221 ds398222 hq398223 => ?_)
    have ar398228 := fun j => rAt_row hT htq398146 hf1 hq398223 (show jx398150 < _ by omega) j
    rw [hγ0, hel0] at ar398228
    have pr398227 := fun (R : Nat → Nat → va_E → Prop) hN => rPl_row (R := R) hT htq398146 hf1 hq398223 hN
    rw [hγ0, hel0] at pr398227
    obtain ⟨hk398229, x0398230, x1398231, x22398232, x8398233, h16398234, h18398235, hnu398236, hot398237, h45398238, hf0398239, ⟨hr1398240, hr2398241⟩, hM398242, hBB398243⟩ := hq398223
    have hk398244 := rSk_of hk398229
    obtain ⟨nu398245, nu398246, nu398247, nu398248⟩ := hnu398236
    have hT398249 := hk398244.1
    have hs398250 := rSk_tr hst hk398244 (by decide) (by decide) (by decide)
    have r398251 := rSk_F hk398244 htq398145 (by decide) (by decide)
    have ht398252 : rKd γ q398145 10 := rSk_k hk398244 htq398145 (by decide) (by decide)
    have ht398253 : rKd γ q398146 9 := rSk_k hk398244 htq398146 (by decide) (by decide)
    have hf398254 : γ 1 q398146 = f := rSk_1 hk398244 htq398146 (by decide) hf1
    have ht398255 : rKd γ q398147 2 := rSk_k hk398244 htq398147 (by decide) (by decide)
    have hf398256 : γ 1 q398147 = f := rSk_1 hk398244 htq398147 (by decide) hpfjx398150
    have mk398257 : mKp (F398144 q398145) (F398219 q398145) := mKp_tr mKp_rf (mKp_eq (rSk_F hk398244 htq398145 (by decide) (by decide)))
    have r398258 := (rSk_s hk398244 htq398146 (by decide)).2.1
    have r398259 := hot398237 _ (by rw [rc398217.2.1]; decide) (by rw [rc398217.2.1]; decide)
    have r398260 : jx398150 < γ 2 (γ 14 q398146) := by rw [r398258, r398259.1]; exact hpjjx398150
    have r398261 : el (γ 14 q398146) jx398150 = q398147 := by rw [r398258, r398259.2]; exact hpejx398150
    clear rg398214 rm398215 bd398216 rc398217
    have r398262 : 0 < γ 6 (γ 1 q398146) := by rw [hf398254]; omega
    have hm398263 : q398145 ∈ P398218 := RS_m hT398249 ht398252 (by decide)
    obtain ⟨q398265, q398266, p398267, p398268, p398269, p398270, p398271, p398272, p398273, p398274, p398275, p398276, p398277, p398278, p398279, p398280, p398281, he398264, hB398308, ht398282, ht398283, ht398284, ht398285, ht398286, ht398287, ht398288, ht398289, ht398290, ht398291, ht398292, ht398293, ht398294, ht398295, ht398296, ht398297, ht398298, ht398299, ht398300, ht398301, ht398302, ht398303, ht398304, ht398305, hB398309⟩ := show rk_10 γ (F398219 q398145) from RS_o hT398249 ht398252
    have r398310 : p398269.toInt = p398171.toInt := by have z : p398269 = p398171 := congrArg (fun e => fI e 11) (he398264.symm.trans (r398251.trans he398166)); rw [z]
    have bp398269 : gB p398269 0 100 := (hB398308.2.2.1)
    have r398311 : p398272.toInt = p398174.toInt := by have z : p398272 = p398174 := congrArg (fun e => fI e 14) (he398264.symm.trans (r398251.trans he398166)); rw [z]
    have bp398272 : gB p398272 0 2000 := (hB398308.2.2.2.1)
    have bp398272' : gB p398272 0 1999 := ⟨by omega, by omega⟩
    have sz398312 := (rSk_s hk398244 htq398147 (by decide)).2.1
    have sz398313 := congrArg (γ 2) sz398312
    have sz398314 := (hot398237 q398224 (by omega) (by omega)).1
    rw [hl398225] at sz398314
    clear hl398226
    have r398315 := hf0398239.2.2
    have hB398316 : rBd γ el f B := hBB398243 B (by omega) hB
    have ht398317 : rKd γ q398220 101 := x0398230
    have r398318 : γ 8 q398220 < γ 16 f := rm_x8 x8398233 h16398234 rfl
    have hph398319 : rPh γ0 el0 f ≤ rPh γ el f := rm_ph hph hr2398241
    have pk398320 : rPh γ el f ≤ 387 * B + 6000 := rm_pk (rM_ge hT398249 ht398253 hf398254).1 (rM_bd hB398316)
    have hm398321 : q398220 ∈ P398218 := RS_m hT398249 ht398317 (by decide)
    obtain ⟨p398323, p398324, p398325, p398326, p398327, p398328, p398329, he398322, bp398323, bp398324, bp398327, bp398328, bp398329, r398330, r398331, r398332⟩ := show rkR (F398219 q398220) from RS_o hT398249 ht398317
    have bp398325 := gB_any p398325
    have bp398326 := gB_any p398326
    have r398333 : γ 7 (γ 1 q398220) = γ 7 f := by rw [x1398231]
    have r398334 : p398328.toInt = 0 := by have z := hf0398239.1; rw [he398322] at z; exact z
    have bp398328' : gB p398328 0 0 := ⟨by omega, by omega⟩
    have r398335 : p398329.toInt = 0 := by have z := hf0398239.2.1; rw [he398322] at z; exact z
    have bp398329' : gB p398329 0 0 := ⟨by omega, by omega⟩
    refine G_widen (cs' := ((rPh γ el f - rPh γ0 el0 f) / 18)) (sl' := (rPh γ el f - rPh γ0 el0 f)) (rm_wc hph hr1398240) (rm_ws hph hr2398241) ?_
    refine G_astore (L' := [(5, .ref q398220), (0, .ref q398145), (1, .ref q398146), (2, .ref q398147), (3, .int p398148), (4, .int p398149)]) dr_cX17_load_16 (Nat.le_of_ble_eq_true rfl) rfl ?_
    refine G_aload 0 dr_cX17_load_18 rfl ?_
    refine G_bipush 21 dr_cX17_load_20 (by decide +kernel) ?_
    refine Gp_put 0 hm398321 he398322 dr_cX17_load_22 (gk_X15 D I) (Nat.le_of_ble_eq_true rfl) wr_9_173 rfl rfl rfl (Nat.le_of_ble_eq_true rfl) (fun F398336 e398337 n398338 => ?_)
    have he398339 : F398336 q398145 = .inr (22, [.ref (γ 9 0), .ref (γ 9 1), .ref (γ 9 2), .ref (γ 9 3), .ref (γ 9 4), .ref (γ 9 5), .ref (γ 9 6), .ref (γ 9 7), .ref (γ 9 8), .int p398267, .int p398268, .int p398269, .int p398270, .int p398271, .int p398272, .ref (γ 9 15), .ref (γ 9 16), .ref (γ 9 17), .ref (γ 9 18), .ref (γ 9 19), .ref (γ 9 20), .ref (γ 9 21), .ref (γ 9 22), .int p398273, .int p398274, .int p398275, .int p398276, .int p398277, .ref q398265, .ref (γ 9 29), .int p398278, .ref (γ 9 31), .int p398279, .int p398280, .int p398281, .ref q398266]) := (n398338 q398145 (rn_oo he398264 he398322 (by decide))).trans he398264
    have he398340 : F398336 q398220 = .inr (20, [.int 21, .int p398324, .int p398325, .int p398326, .int p398327, .int p398328, .int p398329]) := e398337
    have mk398341 : mKp (F398144 q398145) (F398336 q398145) := mKp_tr mk398257 (mKp_eq (n398338 q398145 (rn_ty ht398252 ht398317 (by decide))))
    refine G_aload 0 dr_cX17_load_25 rfl ?_
    refine G_aload_n 1 dr_cX17_load_27 rfl ?_
    refine Gp_get 14 hm398263 he398339 dr_cX17_load_28 (gk_X17 D I) (Nat.le_of_ble_eq_true rfl) wr_7_88 rfl ?_
    refine Gp_put 1 hm398321 he398340 dr_cX17_load_31 (gk_X15 D I) (Nat.le_of_ble_eq_true rfl) wr_9_178 rfl rfl rfl (Nat.le_of_ble_eq_true rfl) (fun F398342 e398343 n398344 => ?_)
    have he398345 : F398342 q398145 = .inr (22, [.ref (γ 9 0), .ref (γ 9 1), .ref (γ 9 2), .ref (γ 9 3), .ref (γ 9 4), .ref (γ 9 5), .ref (γ 9 6), .ref (γ 9 7), .ref (γ 9 8), .int p398267, .int p398268, .int p398269, .int p398270, .int p398271, .int p398272, .ref (γ 9 15), .ref (γ 9 16), .ref (γ 9 17), .ref (γ 9 18), .ref (γ 9 19), .ref (γ 9 20), .ref (γ 9 21), .ref (γ 9 22), .int p398273, .int p398274, .int p398275, .int p398276, .int p398277, .ref q398265, .ref (γ 9 29), .int p398278, .ref (γ 9 31), .int p398279, .int p398280, .int p398281, .ref q398266]) := (n398344 q398145 (rn_oo he398339 he398340 (by decide))).trans he398339
    have he398346 : F398342 q398220 = .inr (20, [.int 21, .int p398272, .int p398325, .int p398326, .int p398327, .int p398328, .int p398329]) := e398343
    have mk398347 : mKp (F398144 q398145) (F398342 q398145) := mKp_tr mk398341 (mKp_eq (n398344 q398145 (rn_ty ht398252 ht398317 (by decide))))
    have n398348 : ∀ b, b ≠ q398220 → F398342 b = F398219 b := fun b hb => (n398344 b hb).trans (n398338 b hb)
    refine G_aload 0 dr_cX17_load_34 rfl ?_
    refine G_iload 5 dr_cX17_load_36 rfl ?_
    refine Gp_put 4 hm398321 he398346 dr_cX17_load_38 (gk_X15 D I) (Nat.le_of_ble_eq_true rfl) wr_9_189 rfl rfl rfl (Nat.le_of_ble_eq_true rfl) (fun F398349 e398350 n398351 => ?_)
    have he398352 : F398349 q398145 = .inr (22, [.ref (γ 9 0), .ref (γ 9 1), .ref (γ 9 2), .ref (γ 9 3), .ref (γ 9 4), .ref (γ 9 5), .ref (γ 9 6), .ref (γ 9 7), .ref (γ 9 8), .int p398267, .int p398268, .int p398269, .int p398270, .int p398271, .int p398272, .ref (γ 9 15), .ref (γ 9 16), .ref (γ 9 17), .ref (γ 9 18), .ref (γ 9 19), .ref (γ 9 20), .ref (γ 9 21), .ref (γ 9 22), .int p398273, .int p398274, .int p398275, .int p398276, .int p398277, .ref q398265, .ref (γ 9 29), .int p398278, .ref (γ 9 31), .int p398279, .int p398280, .int p398281, .ref q398266]) := (n398351 q398145 (rn_oo he398345 he398346 (by decide))).trans he398345
    have he398353 : F398349 q398220 = .inr (20, [.int 21, .int p398272, .int p398325, .int p398326, .int p398149, .int p398328, .int p398329]) := e398350
    have mk398354 : mKp (F398144 q398145) (F398349 q398145) := mKp_tr mk398347 (mKp_eq (n398351 q398145 (rn_ty ht398252 ht398317 (by decide))))
    have n398355 : ∀ b, b ≠ q398220 → F398349 b = F398219 b := fun b hb => (n398351 b hb).trans (n398348 b hb)
    refine G_aload_n 3 dr_cX17_load_41 rfl ?_
    have hT398356 : RS D I P398218 F398349 γ el := RS_set hT398249 n398355 ht398317 (by decide) ⟨21, p398272, p398325, p398326, p398149, p398328, p398329, he398353, (gB_w (gBl (show Int32.toInt 21 = 21 by decide)) (by decide) (by decide)), bp398272', bp398149, (gB_w bp398328' (by decide) (by decide)), (gB_w bp398329' (by decide) (by decide)), (Or.inr (by decide)), r398331, r398332⟩
    have hs398358 := rSk_put hs398250 hT398356 n398355 ht398317 (by decide) (by decide)
    have hm398359 : q398147 ∈ P398218 := RS_m hT398356 ht398255 (by decide)
    obtain ⟨q398361, q398362, p398363, p398364, he398360, ht398371, ht398365, ht398366, ht398367, ht398368, ht398369, bp398363, bp398364, r398370, r398372, r398373⟩ := show rk_2 γ q398147 (F398349 q398147) from RS_o hT398356 ht398255
    have hf398374 : γ 1 q398361 = f := (show γ 1 q398361 = γ 1 q398147 from ht398366).trans hf398256
    have hf398375 : γ 1 q398362 = f := (show γ 1 q398362 = γ 1 q398147 from ht398368).trans hf398256
    have r398376 : γ 6 (γ 1 q398147) = γ 6 f := by rw [hf398256]
    have r398377 : γ 7 (γ 1 q398147) = γ 7 f := by rw [hf398256]
    have r398378 : γ 19 (γ 1 q398147) = γ 19 f := by rw [hf398256]
    have r398379 := r398370.resolve_left (by omega)
    clear r398370
    have r398380 : γ 2 (γ 14 q398147) = γ 2 q398361 := by rw [ht398371.1]
    refine Gp_get 0 hm398359 he398360 dr_cX17_load_42 (gk_X12 D I) (Nat.le_of_ble_eq_true rfl) wr_9_216 rfl ?_
    refine G_iload_n 4 dr_cX17_load_45 rfl ?_
    refine G_aload 0 dr_cX17_load_46 rfl ?_
    have pr398381 := fun (R : Nat → Nat → va_E → Prop) hN => rPl_fr (R := R) hT398249 ht398253 hf398254 (pr398227 R hN) (fun b hb _ => n398355 b (rn_ty (show rKd γ b 1 from hb) ht398317 (by decide)))
    have rg398382 := rM_ge hT398356 ht398253 hf398254
    have rm398383 := rM_bd hB398316
    have bd398384 := rBd_c hT398356 ht398253 hf398254 hB398316
    have rc398385 := rc_at hT398356 ht398253 hf398254
    have r398387 : γ 14 (el (γ 14 q398146) jx398150) = q398361 := by rw [r398261]; exact ht398371.1
    have r398388 := rg398382.2.2 _ r398260
    rw [r398387] at r398388
    have r398389 := bd398384.2.2.2 _ r398260
    rw [r398387] at r398389
    have r398390 : γ 7 (γ 1 q398220) = γ 7 f := by rw [x1398231]
    have hx398391 : rk_1 γ q398220 (F398349 q398220) := ⟨21, p398272, p398325, p398326, p398149, p398328, p398329, he398353, (gB_w (gBl (show Int32.toInt 21 = 21 by decide)) (by decide) (by decide)), bp398272', bp398149, (gB_w bp398328' (by decide) (by decide)), (gB_w bp398329' (by decide) (by decide)), (Or.inr (by decide)), r398331, r398332, (Or.inr (by omega)), (Or.inl x22398232)⟩
    refine Gt_ins (c := q398146) (f := f) hl0 dr_cX17_load_48 ⟨wr_10_203, wr_1_18, wr_10_206, by decide, rfl, (Nat.le_of_ble_eq_true rfl), (Nat.le_of_ble_eq_true rfl)⟩ wr_10_204 wr_10_205 hT398356 ht398365 hf398374 ht398317 x1398231 x22398232 r398318 (by omega) ht398253 hf398254 r398260 r398387 hx398391 (by omega) (by omega) (Nat.le_trans r398389 (Nat.le_trans hBk (by decide))) (rm_cs hph398319 r398388 rm398383 (by decide)) (rm_sl hph398319 r398388 rm398383 rm_s11) (Nat.le_of_ble_eq_true rfl) (fun P398392 F398386 γ el dc398393 ds398394 hq398395 => ?_)
    have ai398397 := fun (j : Nat) (hj : p398148.toInt.toNat ≤ j) => (rAt_ins hT398356 ht398253 hf398254 hq398395 r398387 (show jx398150 < _ by omega) (show p398148.toInt.toNat ≤ _ by omega) j hj).trans (ar398228 j)
    have pr398396 := fun (R R' : Nat → Nat → va_E → Prop) hN h1 h2 (h3 : ∀ e, (∀ n, nmS e n → n = p398272.toInt.toNat) → ((fI e 0).toInt = 21 → (fI e 1).toInt.toNat = p398272.toInt.toNat) → R' jx398150 p398148.toInt.toNat e) h4 => rPl_ins (R := R) (R' := R') hT398356 ht398253 hf398254 hq398395 r398387 (show jx398150 < _ by omega) (show p398148.toInt.toNat ≤ _ by omega) (pr398381 R hN) h1 h2 (h3 _ (nm_ld he398353 (by decide)).1 (nm_ld he398353 (by decide)).2) h4
    obtain ⟨hk398398, x0398399, h2398400, hel398401, hot398402, h16398403, h18398404, hnu398405, hFx398406, hr398407, hM398408, hBB398409⟩ := hq398395
    have hk398410 := rSk_of hk398398
    have r398411 : (fI (F398386 q398146) 3).toInt = (fI (F398349 q398146) 3).toInt := by rw [rSk_F hk398410 ht398253 (by decide) (by decide)]
    obtain ⟨nu398412, nu398413, nu398414, nu398415⟩ := hnu398405
    have hT398416 := hk398410.1
    have hs398417 := rSk_tr hs398358 hk398410 (by decide) (by decide) (by decide)
    have r398418 := rSk_F hk398410 ht398252 (by decide) (by decide)
    have ht398419 : rKd γ q398145 10 := rSk_k hk398410 ht398252 (by decide) (by decide)
    have ht398420 : rKd γ q398146 9 := rSk_k hk398410 ht398253 (by decide) (by decide)
    have hf398421 : γ 1 q398146 = f := rSk_1 hk398410 ht398253 (by decide) hf398254
    have ht398422 : rKd γ q398147 2 := rSk_k hk398410 ht398255 (by decide) (by decide)
    have hf398423 : γ 1 q398147 = f := rSk_1 hk398410 ht398255 (by decide) hf398256
    have ht398424 : rKd γ q398361 3 := rSk_k hk398410 ht398365 (by decide) (by decide)
    have hf398425 : γ 1 q398361 = f := rSk_1 hk398410 ht398365 (by decide) hf398374
    have mk398426 : mKp (F398144 q398145) (F398386 q398145) := mKp_tr mk398354 (mKp_eq (rSk_F hk398410 ht398252 (by decide) (by decide)))
    have r398427 := (rSk_s hk398410 ht398253 (by decide)).2.1
    have r398428 := hot398402 _ (by rw [rc398385.2.1]; decide) (fun q => by rw [q, show _ = 3 from ht398365] at rc398385; exact absurd rc398385.2.1 (by decide))
    have r398429 : jx398150 < γ 2 (γ 14 q398146) := by rw [r398427, r398428.1]; exact r398260
    have r398430 : el (γ 14 q398146) jx398150 = q398147 := by rw [r398427, r398428.2]; exact r398261
    clear bp398323 bp398324 bp398327 bp398328 bp398329 bp398325 bp398326 bp398363 bp398364 r398372 r398373 rg398382 rm398383 bd398384 rc398385 r398388 r398389
    clear r398330 r398331 r398332
    have r398431 : 0 < γ 6 (γ 1 q398146) := by rw [hf398421]; omega
    have hm398432 : q398145 ∈ P398392 := RS_m hT398416 ht398419 (by decide)
    obtain ⟨q398434, q398435, p398436, p398437, p398438, p398439, p398440, p398441, p398442, p398443, p398444, p398445, p398446, p398447, p398448, p398449, p398450, he398433, hB398477, ht398451, ht398452, ht398453, ht398454, ht398455, ht398456, ht398457, ht398458, ht398459, ht398460, ht398461, ht398462, ht398463, ht398464, ht398465, ht398466, ht398467, ht398468, ht398469, ht398470, ht398471, ht398472, ht398473, ht398474, hB398478⟩ := show rk_10 γ (F398386 q398145) from RS_o hT398416 ht398419
    have r398479 : p398438.toInt = p398269.toInt := by have z : p398438 = p398269 := congrArg (fun e => fI e 11) (he398433.symm.trans (r398418.trans he398352)); rw [z]
    have bp398438 : gB p398438 0 100 := (hB398477.2.2.1)
    have r398480 : p398441.toInt = p398272.toInt := by have z : p398441 = p398272 := congrArg (fun e => fI e 14) (he398433.symm.trans (r398418.trans he398352)); rw [z]
    have bp398441 : gB p398441 0 2000 := (hB398477.2.2.2.1)
    have bp398441' : gB p398441 0 1999 := ⟨by omega, by omega⟩
    have ht398481 : rKd γ q398220 1 := x0398399
    have hB398482 : rBd γ el f B := hBB398409 B hB398316
    have hph398483 : rPh γ0 el0 f ≤ rPh γ el f := rm_ph hph398319 hr398407.2
    have pk398484 : rPh γ el f ≤ 387 * B + 6000 := rm_pk (rM_ge hT398416 ht398420 hf398421).1 (rM_bd hB398482)
    refine G_widen (cs' := ((rPh γ el f - rPh γ0 el0 f) / 18)) (sl' := (rPh γ el f - rPh γ0 el0 f)) (rm_wc hph398319 hr398407.1) (rm_ws hph398319 hr398407.2) ?_
    have he398485 : F398386 q398220 = .inr (20, [.int 21, .int p398272, .int p398325, .int p398326, .int p398149, .int p398328, .int p398329]) := hFx398406.trans he398353
    have hm398486 : q398220 ∈ P398392 := RS_m hT398416 ht398481 (by decide)
    have r398487 : γ 14 q398147 = q398361 := ((rSk_s (rSk_of hk398398) ht398255 (by decide)).2.1).trans ht398371.1
    have sz398488 : γ 2 (γ 14 q398147) = γ 2 q398361 := by rw [r398487]
    refine G_aload_n 1 dr_cX17_load_51 rfl ?_
    refine G_dup dr_cX17_load_52 rfl ?_
    refine Gp_get 14 hm398432 he398433 dr_cX17_load_53 (gk_X17 D I) (Nat.le_of_ble_eq_true rfl) wr_7_88 rfl ?_
    refine G_iconst 1 dr_cX17_load_56 (by decide +kernel) ?_
    refine G_iadd dr_cX17_load_57 (G_nam fun z398489 hz398489 => ?_)
    have ez398489 : z398489.toInt = p398441.toInt + 1 := by rw [gI_add hz398489 bp398441' (gBl (show Int32.toInt 1 = 1 by decide)) (by decide) (by decide), show Int32.toInt 1 = 1 from by decide]
    have bz398489 : gB z398489 1 2000 := gB_add (gI_add hz398489 bp398441' (gBl (show Int32.toInt 1 = 1 by decide)) (by decide) (by decide)) bp398441' (gBl (show Int32.toInt 1 = 1 by decide)) (by decide) (by decide)
    refine Gp_put 14 hm398432 he398433 dr_cX17_load_58 (gk_X17 D I) (Nat.le_of_ble_eq_true rfl) wr_7_88 rfl rfl rfl (Nat.le_of_ble_eq_true rfl) (fun F398490 e398491 n398492 => ?_)
    have he398493 : F398490 q398220 = .inr (20, [.int 21, .int p398272, .int p398325, .int p398326, .int p398149, .int p398328, .int p398329]) := (n398492 q398220 (rn_oo he398485 he398433 (by decide))).trans he398485
    have he398494 : F398490 q398145 = .inr (22, [.ref (γ 9 0), .ref (γ 9 1), .ref (γ 9 2), .ref (γ 9 3), .ref (γ 9 4), .ref (γ 9 5), .ref (γ 9 6), .ref (γ 9 7), .ref (γ 9 8), .int p398436, .int p398437, .int p398438, .int p398439, .int p398440, .int z398489, .ref (γ 9 15), .ref (γ 9 16), .ref (γ 9 17), .ref (γ 9 18), .ref (γ 9 19), .ref (γ 9 20), .ref (γ 9 21), .ref (γ 9 22), .int p398442, .int p398443, .int p398444, .int p398445, .int p398446, .ref q398434, .ref (γ 9 29), .int p398447, .ref (γ 9 31), .int p398448, .int p398449, .int p398450, .ref q398435]) := e398491
    have mk398495 : mKp (F398144 q398145) (F398490 q398145) := mKp_tr mk398426 (by rw [he398433, he398494]; exact ⟨rfl, rfl⟩)
    have hT398496 : RS D I P398392 F398490 γ el := RS_set hT398416 n398492 ht398419 (by decide) ⟨q398434, q398435, p398436, p398437, p398438, p398439, p398440, z398489, p398442, p398443, p398444, p398445, p398446, p398447, p398448, p398449, p398450, he398494, ⟨(hB398477.1), (hB398477.2.1), bp398438, (gB_w bz398489 (by decide) (by decide)), (hB398477.2.2.2.2.1), (hB398477.2.2.2.2.2.1), (hB398477.2.2.2.2.2.2.1), (hB398477.2.2.2.2.2.2.2.1), (hB398477.2.2.2.2.2.2.2.2)⟩, ht398451, ht398452, ht398453, ht398454, ht398455, ht398456, ht398457, ht398458, ht398459, ht398460, ht398461, ht398462, ht398463, ht398464, ht398465, ht398466, ht398467, ht398468, ht398469, ht398470, ht398471, ht398472, ht398473, ht398474, hB398478⟩
    have hs398498 := rSk_put hs398417 hT398496 n398492 ht398419 (by decide) (by decide)
    have pr398499 := fun (R R' : Nat → Nat → va_E → Prop) hN h1 h2 h3 h4 => rPl_fr (R := R') hT398416 ht398420 hf398421 (pr398396 R R' hN h1 h2 h3 h4) (fun b hb _ => n398492 b (rn_ty (show rKd γ b 1 from hb) ht398419 (by decide)))
    refine G_aload 0 dr_cX17_load_61 rfl ?_
    refine Gp_get 1 hm398486 he398493 dr_cX17_load_63 (gk_X15 D I) (Nat.le_of_ble_eq_true rfl) wr_9_178 rfl ?_
    have ac398500 : (fI (F398490 q398145) 11).toInt = p398438.toInt := by rw [he398494]; rfl
    have ac398501 : (fI (F398490 q398145) 14).toInt = z398489.toInt := by rw [he398494]; rfl
    exact G_iretA dr_cX17_load_66 rfl (show ((rPh γ el f - rPh γ0 el0 f) / 18) ≤ (((387 * B + 6000) - rPh γ0 el0 f) / 18) by omega) (show (rPh γ el f - rPh γ0 el0 f) ≤ ((387 * B + 6000) - rPh γ0 el0 f) by omega) ⟨P398392, F398490, γ, el, p398272, rfl, rfl, hs398498, ⟨by omega, by omega⟩, hB398482, (gB_w bp398272' (by decide) (by decide)), (by omega), (by omega), (by omega), ⟨(rSk_s hs398498 hzq398147 (by decide)).2.1, r398429, r398430⟩, (Or.inr ⟨by omega, by omega, by omega, by omega, by omega⟩), (by omega), (Or.inr pr398499), (Or.inr ai398397), mk398495⟩
  · have r398502 : p398174.toInt = 2000 := gj_eq hc398212 (show Int32.toInt 2000 = 2000 by decide)
    have bp398174' : gB p398174 2000 2000 := ⟨by omega, by omega⟩
    have ac398503 : (fI (F398144 q398145) 11).toInt = p398171.toInt := by rw [he398166]; rfl
    have ac398504 : (fI (F398144 q398145) 14).toInt = p398174.toInt := by rw [he398166]; rfl
    refine G_iconst (-1) dr_cX17_load_10 (by decide +kernel) ?_
    exact G_iretA dr_cX17_load_11 rfl (show ((rPh γ el f - rPh γ0 el0 f) / 18) ≤ (((387 * B + 6000) - rPh γ0 el0 f) / 18) by omega) (show (rPh γ el f - rPh γ0 el0 f) ≤ ((387 * B + 6000) - rPh γ0 el0 f) by omega) ⟨P398143, F398144, γ, el, (-1), rfl, rfl, hst, ⟨by omega, by omega⟩, hB, (gB_w (gBl (show Int32.toInt (-1) = (-1) by decide)) (by decide) (by decide)), (by have qa0 : Int32.toInt (-1) = (-1) := (by decide); omega), (by have qa0 : Int32.toInt (-1) = (-1) := (by decide); omega), (by have qa0 : Int32.toInt (-1) = (-1) := (by decide); omega), ⟨(rSk_s hst hzq398147 (by decide)).2.1, hpjjx398150, hpejx398150⟩, (Or.inl (by decide)), (by have qa0 : Int32.toInt (-1) = (-1) := (by decide); omega), (Or.inl (by decide)), (Or.inl (by decide)), mKp_rf⟩
abbrev ky_398518_Row_usesA : gKey := (cX15_usesA, 1, "SpillForgeModel$Row", (some FieldType.boolean), [], "usesA", fun _ _ => True)
def pp_398518_Row_usesA (D : va_G) (I : FieldType → ClassId) (P398508 : List Nat) (F398509 : Nat → va_E) (q398510 : Nat) (p398511 : Int32) (p398512 : Int32) (p398513 : Int32) (p398514 : Int32) (p398515 : Int32) (p398516 : Int32) (p398517 : Int32) : Option Value → va_W → Nat → Nat → Prop := fun r w dc ds => ∃ (o398531 : Int32), r = some (.int o398531) ∧ w = va_pl P398508 F398509 ∧ dc ≤ 0 ∧ ds ≤ 0 ∧ gB o398531 0 1 ∧ (uA o398531.toInt p398511.toInt p398516.toInt)
set_option maxRecDepth 100000 in
set_option maxHeartbeats 4000000 in
theorem cp_398518_Row_usesA (l : Launch) (hl0 : l.stackTraces = false) (D : va_G) (I : FieldType → ClassId) (P398508 : List Nat) (F398509 : Nat → va_E) (q398510 : Nat) (p398511 : Int32) (p398512 : Int32) (p398513 : Int32) (p398514 : Int32) (p398515 : Int32) (p398516 : Int32) (p398517 : Int32) (hmq398510 : q398510 ∈ P398508) (heq398510 : F398509 q398510 = .inr (20, [.int p398511, .int p398512, .int p398513, .int p398514, .int p398515, .int p398516, .int p398517])) (bp398511 : gB p398511 0 32) (bp398512 : gB p398512 0 1999) (bp398515 : gB p398515 0 1999) (bp398516 : gB p398516 0 1) (bp398517 : gB p398517 0 1) : CtA (gV D I) l yX15_usesA cX15_usesA 1 (some FieldType.boolean) 0 0 0 0 [.ref q398510] (va_pl P398508 F398509) (pp_398518_Row_usesA D I P398508 F398509 q398510 p398511 p398512 p398513 p398514 p398515 p398516 p398517) gNA := by
  refine CtA_of hl0 (by decide) (Nat.le_of_ble_eq_true rfl) ?_
  have bp398513 := gB_any p398513
  have bp398514 := gB_any p398514
  refine G_aload_n 0 dr_cX15_usesA_0 rfl ?_
  refine Gp_get 0 hmq398510 heq398510 dr_cX15_usesA_1 (gk_X15 D I) (Nat.le_of_ble_eq_true rfl) wr_9_171 rfl ?_
  refine G_bipush 20 dr_cX15_usesA_4 (by decide +kernel) ?_
  refine G_icmp_eq 38 dr_cX15_usesA_6 (by decide +kernel) (fun hc398519 => ?_) (fun hc398519 => ?_)
  · have r398520 : p398511.toInt = 20 := gj_eq hc398519 (show Int32.toInt 20 = 20 by decide)
    have bp398511' : gB p398511 20 20 := ⟨by omega, by omega⟩
    refine G_iconst 0 dr_cX15_usesA_38 (by decide +kernel) ?_
    exact G_zretA FieldType.boolean dr_cX15_usesA_39 rfl rfl (Nat.le_of_ble_eq_true rfl) (Nat.le_of_ble_eq_true rfl) ⟨0, rfl, rfl, (Nat.le_of_ble_eq_true rfl), (Nat.le_of_ble_eq_true rfl), (gB_w (gBl (show Int32.toInt 0 = 0 by decide)) (by decide) (by decide)), (by unfold uA; first | omega | (have qa0 : Int32.toInt 0 = 0 := (by decide); have qa1 : Int32.toInt 1 = 1 := (by decide); omega))⟩
  · have r398521 : p398511.toInt ≠ 20 := gj_neq hc398519 (show Int32.toInt 20 = 20 by decide)
    refine G_aload_n 0 dr_cX15_usesA_9 rfl ?_
    refine Gp_get 0 hmq398510 heq398510 dr_cX15_usesA_10 (gk_X15 D I) (Nat.le_of_ble_eq_true rfl) wr_9_171 rfl ?_
    refine G_bipush 21 dr_cX15_usesA_13 (by decide +kernel) ?_
    refine G_icmp_eq 38 dr_cX15_usesA_15 (by decide +kernel) (fun hc398522 => ?_) (fun hc398522 => ?_)
    · have r398523 : p398511.toInt = 21 := gj_eq hc398522 (show Int32.toInt 21 = 21 by decide)
      have bp398511' : gB p398511 21 21 := ⟨by omega, by omega⟩
      refine G_iconst 0 dr_cX15_usesA_38 (by decide +kernel) ?_
      exact G_zretA FieldType.boolean dr_cX15_usesA_39 rfl rfl (Nat.le_of_ble_eq_true rfl) (Nat.le_of_ble_eq_true rfl) ⟨0, rfl, rfl, (Nat.le_of_ble_eq_true rfl), (Nat.le_of_ble_eq_true rfl), (gB_w (gBl (show Int32.toInt 0 = 0 by decide)) (by decide) (by decide)), (by unfold uA; first | omega | (have qa0 : Int32.toInt 0 = 0 := (by decide); have qa1 : Int32.toInt 1 = 1 := (by decide); omega))⟩
    · have r398524 : p398511.toInt ≠ 21 := gj_neq hc398522 (show Int32.toInt 21 = 21 by decide)
      refine G_aload_n 0 dr_cX15_usesA_18 rfl ?_
      refine Gp_get 0 hmq398510 heq398510 dr_cX15_usesA_19 (gk_X15 D I) (Nat.le_of_ble_eq_true rfl) wr_9_171 rfl ?_
      refine G_bipush 30 dr_cX15_usesA_22 (by decide +kernel) ?_
      refine G_icmp_eq 38 dr_cX15_usesA_24 (by decide +kernel) (fun hc398525 => ?_) (fun hc398525 => ?_)
      · have r398526 : p398511.toInt = 30 := gj_eq hc398525 (show Int32.toInt 30 = 30 by decide)
        have bp398511' : gB p398511 30 30 := ⟨by omega, by omega⟩
        refine G_iconst 0 dr_cX15_usesA_38 (by decide +kernel) ?_
        exact G_zretA FieldType.boolean dr_cX15_usesA_39 rfl rfl (Nat.le_of_ble_eq_true rfl) (Nat.le_of_ble_eq_true rfl) ⟨0, rfl, rfl, (Nat.le_of_ble_eq_true rfl), (Nat.le_of_ble_eq_true rfl), (gB_w (gBl (show Int32.toInt 0 = 0 by decide)) (by decide) (by decide)), (by unfold uA; first | omega | (have qa0 : Int32.toInt 0 = 0 := (by decide); have qa1 : Int32.toInt 1 = 1 := (by decide); omega))⟩
      · have r398527 : p398511.toInt ≠ 30 := gj_neq hc398525 (show Int32.toInt 30 = 30 by decide)
        refine G_aload_n 0 dr_cX15_usesA_27 rfl ?_
        refine Gp_get 5 hmq398510 heq398510 dr_cX15_usesA_28 (gk_X15 D I) (Nat.le_of_ble_eq_true rfl) wr_9_191 rfl ?_
        refine G_if_eq 38 dr_cX15_usesA_31 (by decide +kernel) (fun hc398528 => ?_) (fun hc398528 => ?_)
        · have r398529 : p398516.toInt = 0 := gj_eq hc398528 (show Int32.toInt 0 = 0 by decide)
          have bp398516' : gB p398516 0 0 := ⟨by omega, by omega⟩
          refine G_iconst 0 dr_cX15_usesA_38 (by decide +kernel) ?_
          exact G_zretA FieldType.boolean dr_cX15_usesA_39 rfl rfl (Nat.le_of_ble_eq_true rfl) (Nat.le_of_ble_eq_true rfl) ⟨0, rfl, rfl, (Nat.le_of_ble_eq_true rfl), (Nat.le_of_ble_eq_true rfl), (gB_w (gBl (show Int32.toInt 0 = 0 by decide)) (by decide) (by decide)), (by unfold uA; first | omega | (have qa0 : Int32.toInt 0 = 0 := (by decide); have qa1 : Int32.toInt 1 = 1 := (by decide); omega))⟩
        · have r398530 : p398516.toInt ≠ 0 := gj_neq hc398528 (show Int32.toInt 0 = 0 by decide)
          have bp398516' : gB p398516 1 1 := ⟨by omega, by omega⟩
          refine G_iconst 1 dr_cX15_usesA_34 (by decide +kernel) ?_
          refine G_goto 39 dr_cX15_usesA_35 (by decide +kernel) ?_
          exact G_zretA FieldType.boolean dr_cX15_usesA_39 rfl rfl (Nat.le_of_ble_eq_true rfl) (Nat.le_of_ble_eq_true rfl) ⟨1, rfl, rfl, (Nat.le_of_ble_eq_true rfl), (Nat.le_of_ble_eq_true rfl), (gB_w (gBl (show Int32.toInt 1 = 1 by decide)) (by decide) (by decide)), (by unfold uA; first | omega | (have qa0 : Int32.toInt 0 = 0 := (by decide); have qa1 : Int32.toInt 1 = 1 := (by decide); omega))⟩
abbrev ky_398542_Row_usesB : gKey := (cX15_usesB, 1, "SpillForgeModel$Row", (some FieldType.boolean), [], "usesB", fun _ _ => True)
def pp_398542_Row_usesB (D : va_G) (I : FieldType → ClassId) (P398532 : List Nat) (F398533 : Nat → va_E) (q398534 : Nat) (p398535 : Int32) (p398536 : Int32) (p398537 : Int32) (p398538 : Int32) (p398539 : Int32) (p398540 : Int32) (p398541 : Int32) : Option Value → va_W → Nat → Nat → Prop := fun r w dc ds => ∃ (o398552 : Int32), r = some (.int o398552) ∧ w = va_pl P398532 F398533 ∧ dc ≤ 0 ∧ ds ≤ 0 ∧ gB o398552 0 1 ∧ (uB o398552.toInt p398535.toInt p398541.toInt)
set_option maxRecDepth 100000 in
set_option maxHeartbeats 4000000 in
theorem cp_398542_Row_usesB (l : Launch) (hl0 : l.stackTraces = false) (D : va_G) (I : FieldType → ClassId) (P398532 : List Nat) (F398533 : Nat → va_E) (q398534 : Nat) (p398535 : Int32) (p398536 : Int32) (p398537 : Int32) (p398538 : Int32) (p398539 : Int32) (p398540 : Int32) (p398541 : Int32) (hmq398534 : q398534 ∈ P398532) (heq398534 : F398533 q398534 = .inr (20, [.int p398535, .int p398536, .int p398537, .int p398538, .int p398539, .int p398540, .int p398541])) (bp398535 : gB p398535 0 32) (bp398536 : gB p398536 0 1999) (bp398539 : gB p398539 0 1999) (bp398540 : gB p398540 0 1) (bp398541 : gB p398541 0 1) : CtA (gV D I) l yX15_usesB cX15_usesB 1 (some FieldType.boolean) 0 0 0 0 [.ref q398534] (va_pl P398532 F398533) (pp_398542_Row_usesB D I P398532 F398533 q398534 p398535 p398536 p398537 p398538 p398539 p398540 p398541) gNA := by
  refine CtA_of hl0 (by decide) (Nat.le_of_ble_eq_true rfl) ?_
  have bp398537 := gB_any p398537
  have bp398538 := gB_any p398538
  refine G_aload_n 0 dr_cX15_usesB_0 rfl ?_
  refine Gp_get 0 hmq398534 heq398534 dr_cX15_usesB_1 (gk_X15 D I) (Nat.le_of_ble_eq_true rfl) wr_9_171 rfl ?_
  refine G_if_le 27 dr_cX15_usesB_4 (by decide +kernel) (fun hc398543 => ?_) (fun hc398543 => ?_)
  · have r398544 : p398535.toInt ≤ 0 := gj_le hc398543 (show Int32.toInt 0 = 0 by decide)
    have bp398535' : gB p398535 0 0 := ⟨by omega, by omega⟩
    refine G_iconst 0 dr_cX15_usesB_27 (by decide +kernel) ?_
    exact G_zretA FieldType.boolean dr_cX15_usesB_28 rfl rfl (Nat.le_of_ble_eq_true rfl) (Nat.le_of_ble_eq_true rfl) ⟨0, rfl, rfl, (Nat.le_of_ble_eq_true rfl), (Nat.le_of_ble_eq_true rfl), (gB_w (gBl (show Int32.toInt 0 = 0 by decide)) (by decide) (by decide)), (by unfold uB; first | omega | (have qa0 : Int32.toInt 0 = 0 := (by decide); have qa1 : Int32.toInt 1 = 1 := (by decide); omega))⟩
  · have r398545 : 0 < p398535.toInt := gj_nle hc398543 (show Int32.toInt 0 = 0 by decide)
    have bp398535' : gB p398535 1 32 := ⟨by omega, by omega⟩
    refine G_aload_n 0 dr_cX15_usesB_7 rfl ?_
    refine Gp_get 0 hmq398534 heq398534 dr_cX15_usesB_8 (gk_X15 D I) (Nat.le_of_ble_eq_true rfl) wr_9_171 rfl ?_
    refine G_bipush 20 dr_cX15_usesB_11 (by decide +kernel) ?_
    refine G_icmp_ge 27 dr_cX15_usesB_13 (by decide +kernel) (fun hc398546 => ?_) (fun hc398546 => ?_)
    · have r398547 : 20 ≤ p398535.toInt := gj_leL hc398546 (show Int32.toInt 20 = 20 by decide)
      have bp398535'' : gB p398535 20 32 := ⟨by omega, by omega⟩
      refine G_iconst 0 dr_cX15_usesB_27 (by decide +kernel) ?_
      exact G_zretA FieldType.boolean dr_cX15_usesB_28 rfl rfl (Nat.le_of_ble_eq_true rfl) (Nat.le_of_ble_eq_true rfl) ⟨0, rfl, rfl, (Nat.le_of_ble_eq_true rfl), (Nat.le_of_ble_eq_true rfl), (gB_w (gBl (show Int32.toInt 0 = 0 by decide)) (by decide) (by decide)), (by unfold uB; first | omega | (have qa0 : Int32.toInt 0 = 0 := (by decide); have qa1 : Int32.toInt 1 = 1 := (by decide); omega))⟩
    · have r398548 : p398535.toInt < 20 := gj_nleL hc398546 (show Int32.toInt 20 = 20 by decide)
      have bp398535'' : gB p398535 1 19 := ⟨by omega, by omega⟩
      refine G_aload_n 0 dr_cX15_usesB_16 rfl ?_
      refine Gp_get 6 hmq398534 heq398534 dr_cX15_usesB_17 (gk_X15 D I) (Nat.le_of_ble_eq_true rfl) wr_9_195 rfl ?_
      refine G_if_eq 27 dr_cX15_usesB_20 (by decide +kernel) (fun hc398549 => ?_) (fun hc398549 => ?_)
      · have r398550 : p398541.toInt = 0 := gj_eq hc398549 (show Int32.toInt 0 = 0 by decide)
        have bp398541' : gB p398541 0 0 := ⟨by omega, by omega⟩
        refine G_iconst 0 dr_cX15_usesB_27 (by decide +kernel) ?_
        exact G_zretA FieldType.boolean dr_cX15_usesB_28 rfl rfl (Nat.le_of_ble_eq_true rfl) (Nat.le_of_ble_eq_true rfl) ⟨0, rfl, rfl, (Nat.le_of_ble_eq_true rfl), (Nat.le_of_ble_eq_true rfl), (gB_w (gBl (show Int32.toInt 0 = 0 by decide)) (by decide) (by decide)), (by unfold uB; first | omega | (have qa0 : Int32.toInt 0 = 0 := (by decide); have qa1 : Int32.toInt 1 = 1 := (by decide); omega))⟩
      · have r398551 : p398541.toInt ≠ 0 := gj_neq hc398549 (show Int32.toInt 0 = 0 by decide)
        have bp398541' : gB p398541 1 1 := ⟨by omega, by omega⟩
        refine G_iconst 1 dr_cX15_usesB_23 (by decide +kernel) ?_
        refine G_goto 28 dr_cX15_usesB_24 (by decide +kernel) ?_
        exact G_zretA FieldType.boolean dr_cX15_usesB_28 rfl rfl (Nat.le_of_ble_eq_true rfl) (Nat.le_of_ble_eq_true rfl) ⟨1, rfl, rfl, (Nat.le_of_ble_eq_true rfl), (Nat.le_of_ble_eq_true rfl), (gB_w (gBl (show Int32.toInt 1 = 1 by decide)) (by decide) (by decide)), (by unfold uB; first | omega | (have qa0 : Int32.toInt 0 = 0 := (by decide); have qa1 : Int32.toInt 1 = 1 := (by decide); omega))⟩
abbrev ky_398563_Row_sets : gKey := (cX15_sets, 1, "SpillForgeModel$Row", (some FieldType.boolean), [], "sets", fun _ _ => True)
def pp_398563_Row_sets (D : va_G) (I : FieldType → ClassId) (P398553 : List Nat) (F398554 : Nat → va_E) (q398555 : Nat) (p398556 : Int32) (p398557 : Int32) (p398558 : Int32) (p398559 : Int32) (p398560 : Int32) (p398561 : Int32) (p398562 : Int32) : Option Value → va_W → Nat → Nat → Prop := fun r w dc ds => ∃ (o398567 : Int32), r = some (.int o398567) ∧ w = va_pl P398553 F398554 ∧ dc ≤ 0 ∧ ds ≤ 0 ∧ gB o398567 0 1 ∧ (uS o398567.toInt p398556.toInt)
set_option maxRecDepth 100000 in
set_option maxHeartbeats 4000000 in
theorem cp_398563_Row_sets (l : Launch) (hl0 : l.stackTraces = false) (D : va_G) (I : FieldType → ClassId) (P398553 : List Nat) (F398554 : Nat → va_E) (q398555 : Nat) (p398556 : Int32) (p398557 : Int32) (p398558 : Int32) (p398559 : Int32) (p398560 : Int32) (p398561 : Int32) (p398562 : Int32) (hmq398555 : q398555 ∈ P398553) (heq398555 : F398554 q398555 = .inr (20, [.int p398556, .int p398557, .int p398558, .int p398559, .int p398560, .int p398561, .int p398562])) (bp398556 : gB p398556 0 32) (bp398557 : gB p398557 0 1999) (bp398560 : gB p398560 0 1999) (bp398561 : gB p398561 0 1) (bp398562 : gB p398562 0 1) : CtA (gV D I) l yX15_sets cX15_sets 1 (some FieldType.boolean) 0 0 0 0 [.ref q398555] (va_pl P398553 F398554) (pp_398563_Row_sets D I P398553 F398554 q398555 p398556 p398557 p398558 p398559 p398560 p398561 p398562) gNA := by
  refine CtA_of hl0 (by decide) (Nat.le_of_ble_eq_true rfl) ?_
  have bp398558 := gB_any p398558
  have bp398559 := gB_any p398559
  refine G_aload_n 0 dr_cX15_sets_0 rfl ?_
  refine Gp_get 0 hmq398555 heq398555 dr_cX15_sets_1 (gk_X15 D I) (Nat.le_of_ble_eq_true rfl) wr_9_171 rfl ?_
  refine G_bipush 21 dr_cX15_sets_4 (by decide +kernel) ?_
  refine G_icmp_gt 13 dr_cX15_sets_6 (by decide +kernel) (fun hc398564 => ?_) (fun hc398564 => ?_)
  · have r398565 : 21 < p398556.toInt := gj_ltL hc398564 (show Int32.toInt 21 = 21 by decide)
    have bp398556' : gB p398556 22 32 := ⟨by omega, by omega⟩
    refine G_iconst 0 dr_cX15_sets_13 (by decide +kernel) ?_
    exact G_zretA FieldType.boolean dr_cX15_sets_14 rfl rfl (Nat.le_of_ble_eq_true rfl) (Nat.le_of_ble_eq_true rfl) ⟨0, rfl, rfl, (Nat.le_of_ble_eq_true rfl), (Nat.le_of_ble_eq_true rfl), (gB_w (gBl (show Int32.toInt 0 = 0 by decide)) (by decide) (by decide)), (by unfold uS; first | omega | (have qa0 : Int32.toInt 0 = 0 := (by decide); have qa1 : Int32.toInt 1 = 1 := (by decide); omega))⟩
  · have r398566 : p398556.toInt ≤ 21 := gj_nltL hc398564 (show Int32.toInt 21 = 21 by decide)
    have bp398556' : gB p398556 0 21 := ⟨by omega, by omega⟩
    refine G_iconst 1 dr_cX15_sets_9 (by decide +kernel) ?_
    refine G_goto 14 dr_cX15_sets_10 (by decide +kernel) ?_
    exact G_zretA FieldType.boolean dr_cX15_sets_14 rfl rfl (Nat.le_of_ble_eq_true rfl) (Nat.le_of_ble_eq_true rfl) ⟨1, rfl, rfl, (Nat.le_of_ble_eq_true rfl), (Nat.le_of_ble_eq_true rfl), (gB_w (gBl (show Int32.toInt 1 = 1 by decide)) (by decide) (by decide)), (by unfold uS; first | omega | (have qa0 : Int32.toInt 0 = 0 := (by decide); have qa1 : Int32.toInt 1 = 1 := (by decide); omega))⟩
abbrev ky_398626_SpillForgeModel_findDepth : gKey := (cX17_findDepth, 13, "SpillForgeModel", none, [], "findDepth", fun _ _ => True)
def pt_398626_SpillForgeModel_findDepth (D : va_G) (I : FieldType → ClassId) (γ el : Nat → Nat → Nat) (P398621 : List Nat) (F398622 : Nat → va_E) (q398623 : Nat) (q398624 : Nat) : Option Value → va_W → Nat → Nat → Prop := fun r w dc ds => ∃ (F520216 : Nat → va_E), r = none ∧ w = va_pl P398621 F520216 ∧ RS D I P398621 F520216 γ el ∧ rStr γ [] F398622 F520216 ∧ dc ≤ 0 ∧ ds ≤ 0 ∧ (F520216 q398623 = F398622 q398623) ∧ (F520216 (γ 9 3) = F398622 (γ 9 3))
set_option maxRecDepth 100000 in
set_option maxHeartbeats 4000000 in
theorem ct_398626_SpillForgeModel_findDepth (l : Launch) (hl0 : l.stackTraces = false) (D : va_G) (I : FieldType → ClassId) (γ el : Nat → Nat → Nat) (P398621 : List Nat) (F398622 : Nat → va_E) (q398623 : Nat) (q398624 : Nat) (hT : RS D I P398621 F398622 γ el) (htq398623 : rKd γ q398623 10) (htq398624 : rKd γ q398624 9) (x398625 : 0 < γ 6 (γ 1 q398624)) : CtA (gV D I) l yX17_findDepth cX17_findDepth 13 none 5 112 0 0 [.ref q398623, .ref q398624] (va_pl P398621 F398622) (pt_398626_SpillForgeModel_findDepth D I γ el P398621 F398622 q398623 q398624) gNA := by
  refine CtA_of hl0 (by decide) (Nat.le_of_ble_eq_true rfl) ?_
  have hm398627 : q398623 ∈ P398621 := RS_m hT htq398623 (by decide)
  refine rk10_e (show rk_10 γ (F398622 q398623) from RS_o hT htq398623) (fun q398629 q398630 p398631 p398632 p398633 p398634 p398635 p398636 p398637 p398638 p398639 p398640 p398641 p398642 p398643 p398644 p398645 he398628 hB398672 ht398646 ht398647 ht398648 ht398649 ht398650 ht398651 ht398652 ht398653 ht398654 ht398655 ht398656 ht398657 ht398658 ht398659 ht398660 ht398661 ht398662 ht398663 ht398664 ht398665 ht398666 ht398667 ht398668 ht398669 hB398673 => ?_)
  refine G_iconst 0 dr_cX17_findDepth_0 (by decide +kernel) ?_
  refine G_istore_n (L' := [(2, .int 0), (0, .ref q398623), (1, .ref q398624)]) dr_cX17_findDepth_1 (Nat.le_of_ble_eq_true rfl) rfl ?_
  have hlp2_514712 : ∀ (n2_514712 : Nat) (F514708 : Nat → va_E) (g514707 : Int32), gB g514707 0 1000000 → RS D I P398621 F514708 γ el → rStr γ [] F398622 F514708 → (F514708 q398623 = F398622 q398623) → (F514708 (γ 9 3) = F398622 (γ 9 3)) → ((1000001 : Int) - g514707.toInt).toNat < n2_514712 → G (gV D I) l (gRm 5 112 0 0) (gMA (gV D I) (pt_398626_SpillForgeModel_findDepth D I γ el P398621 F398622 q398623 q398624) gNA 0 0) ky_398626_SpillForgeModel_findDepth 2 [(2, .int g514707), (0, .ref q398623), (1, .ref q398624)] [] (va_pl P398621 F514708) 0 0 := by
    intro n2_514712
    induction n2_514712 with
    | zero => intro F514708 g514707 bg514707 hT514709 hs514710 x514711 x514712 hm2_514712; exact absurd hm2_514712 (Nat.not_lt_zero _)
    | succ n2_514712 ih2_514712 =>
      intro F514708 g514707 bg514707 hT514709 hs514710 x514711 x514712 hm2_514712
      have hs514714 : rStr γ [] F398622 F514708 := fun b h0 hb hw => (hs514710 b h0 hb hw).trans ((rStr_rf (γ := γ) (W := []) (F := F398622)) b h0 hb hw).symm
      have hs514715 : rStr γ [] F398622 F514708 := rStr_tr (rStr_rf (γ := γ) (W := []) (F := F398622)) hs514714
      have he514716 : F514708 q398623 = .inr (22, [.ref (γ 9 0), .ref (γ 9 1), .ref (γ 9 2), .ref (γ 9 3), .ref (γ 9 4), .ref (γ 9 5), .ref (γ 9 6), .ref (γ 9 7), .ref (γ 9 8), .int p398631, .int p398632, .int p398633, .int p398634, .int p398635, .int p398636, .ref (γ 9 15), .ref (γ 9 16), .ref (γ 9 17), .ref (γ 9 18), .ref (γ 9 19), .ref (γ 9 20), .ref (γ 9 21), .ref (γ 9 22), .int p398637, .int p398638, .int p398639, .int p398640, .int p398641, .ref q398629, .ref (γ 9 29), .int p398642, .ref (γ 9 31), .int p398643, .int p398644, .int p398645, .ref q398630]) := x514711.trans he398628
      have hm514717 : q398623 ∈ P398621 := RS_m hT514709 htq398623 (by decide)
      refine G_iload_n 0 dr_cX17_findDepth_2 rfl ?_
      refine G_aload_n 2 dr_cX17_findDepth_3 rfl ?_
      have hm514718 : q398624 ∈ P398621 := RS_m hT514709 htq398624 (by decide)
      obtain ⟨q514720, q514721, p514722, p514723, he514719, ht514739, ht514724, ht514725, ht514726, ht514727, r514728, r514729, r514730, r514731, r514732, r514733, r514734, r514735, r514736, r514737, r514738⟩ := show rk_9 γ el q398624 (F514708 q398624) from RS_o hT514709 htq398624
      have bp514722 : gB p514722 0 1000000 := ⟨by omega, by omega⟩
      have bp514723 : gB p514723 0 1000000 := ⟨by omega, by omega⟩
      refine Gw_callV (As := []) (gV_ok D I) (cp_12496_Code_size l hl0 D I P398621 F514708 q398624 q514720 q514721 p514722 p514723 hm514718 he514719) dr_cX17_findDepth_4 ⟨wr_10_156, wr_1_15, wr_9_127, by decide, rfl, (Nat.le_of_ble_eq_true rfl), (Nat.le_of_ble_eq_true rfl)⟩ wr_9_125 wr_9_126 hm514718 he514719 rfl (show 0 + 0 ≤ 0 by first | omega | decide) (show 0 + 0 ≤ 0 by first | omega | decide) (Nat.le_of_ble_eq_true rfl) (fun r514743 w514744 dc514740 ds514741 hp514742 => ?_) (fun _ _ _ _ _ z => z.elim)
      obtain ⟨rfl, rfl, hdc, hds⟩ := hp514742
      change G _ _ _ _ _ _ _ (.int p514723 :: _) _ _ _
      refine G_widen (cs' := 0) (sl' := 0) (by omega) (by omega) ?_
      refine G_icmp_ge 23 dr_cX17_findDepth_7 (by decide +kernel) (fun hc514745 => ?_) (fun hc514745 => ?_)
      · have r514746 : p514723.toInt ≤ g514707.toInt := gC_le hc514745
        refine G_aload_n 2 dr_cX17_findDepth_23 rfl ?_
        refine G_iconst (-1) dr_cX17_findDepth_24 (by decide +kernel) ?_
        refine Gw_callS (As := [.ref q398624, .int (-1)]) (gV_ok D I) (ct_12464_SpillForgeModel_reached l hl0 D I γ el P398621 F514708 q398624 (-1) hT514709 htq398624 (by omega)) dr_cX17_findDepth_25 ⟨wr_11_37, wr_1_14, wr_11_39, by decide, rfl, (Nat.le_of_ble_eq_true rfl), (Nat.le_of_ble_eq_true rfl)⟩ wr_11_38 (show 0 + 0 ≤ 0 by first | omega | decide) (show 0 + 0 ≤ 0 by first | omega | decide) (Nat.le_of_ble_eq_true rfl) (fun r514750 w514751 dc514747 ds514748 hp514749 => ?_) (fun _ _ _ _ _ z => z.elim)
        obtain ⟨ol514752, rfl, rfl, hdc, hds⟩ := hp514749
        change G _ _ _ _ _ _ _ (.long ol514752 :: _) _ _ _
        refine G_widen (cs' := 0) (sl' := 0) (by omega) (by omega) ?_
        refine G_lstore_n (L' := [(2, .long ol514752), (0, .ref q398623), (1, .ref q398624)]) dr_cX17_findDepth_28 (Nat.le_of_ble_eq_true rfl) rfl ?_
        refine G_iconst 0 dr_cX17_findDepth_29 (by decide +kernel) ?_
        refine G_istore (L' := [(4, .int 0), (2, .long ol514752), (0, .ref q398623), (1, .ref q398624)]) dr_cX17_findDepth_30 (Nat.le_of_ble_eq_true rfl) rfl ?_
        have hlp32_517480 : ∀ (n32_517480 : Nat) (F517476 : Nat → va_E) (g517475 : Int32), gB g517475 0 1000000 → RS D I P398621 F517476 γ el → rStr γ [] F398622 F517476 → (F517476 q398623 = F398622 q398623) → (F517476 (γ 9 3) = F398622 (γ 9 3)) → ((1000001 : Int) - g517475.toInt).toNat < n32_517480 → G (gV D I) l (gRm 5 112 0 0) (gMA (gV D I) (pt_398626_SpillForgeModel_findDepth D I γ el P398621 F398622 q398623 q398624) gNA 0 0) ky_398626_SpillForgeModel_findDepth 32 [(4, .int g517475), (2, .long ol514752), (0, .ref q398623), (1, .ref q398624)] [] (va_pl P398621 F517476) 0 0 := by
          intro n32_517480
          induction n32_517480 with
          | zero => intro F517476 g517475 bg517475 hT517477 hs517478 x517479 x517480 hm32_517480; exact absurd hm32_517480 (Nat.not_lt_zero _)
          | succ n32_517480 ih32_517480 =>
            intro F517476 g517475 bg517475 hT517477 hs517478 x517479 x517480 hm32_517480
            have hs517482 : rStr γ [] F514708 F517476 := fun b h0 hb hw => (hs517478 b h0 hb hw).trans (hs514710 b h0 hb hw).symm
            have he517483 : F517476 q398624 = .inr (18, [.ref q514720, .ref q514721, .int p514722, .int p514723]) := (hs517482 q398624 (rT0 htq398624 (by decide)) (rT1 htq398624 (by decide)) (rT2 htq398624 (by decide))).trans he514719
            have hs517484 : rStr γ [] F398622 F517476 := rStr_tr hs514710 hs517482
            have he517485 : F517476 q398623 = .inr (22, [.ref (γ 9 0), .ref (γ 9 1), .ref (γ 9 2), .ref (γ 9 3), .ref (γ 9 4), .ref (γ 9 5), .ref (γ 9 6), .ref (γ 9 7), .ref (γ 9 8), .int p398631, .int p398632, .int p398633, .int p398634, .int p398635, .int p398636, .ref (γ 9 15), .ref (γ 9 16), .ref (γ 9 17), .ref (γ 9 18), .ref (γ 9 19), .ref (γ 9 20), .ref (γ 9 21), .ref (γ 9 22), .int p398637, .int p398638, .int p398639, .int p398640, .int p398641, .ref q398629, .ref (γ 9 29), .int p398642, .ref (γ 9 31), .int p398643, .int p398644, .int p398645, .ref q398630]) := x517479.trans he398628
            have hm517486 : q398623 ∈ P398621 := RS_m hT517477 htq398623 (by decide)
            refine G_iload 0 dr_cX17_findDepth_32 rfl ?_
            refine G_aload_n 3 dr_cX17_findDepth_34 rfl ?_
            refine Gw_callV (As := []) (gV_ok D I) (cp_12496_Code_size l hl0 D I P398621 F517476 q398624 q514720 q514721 p514722 p514723 hm514718 he517483) dr_cX17_findDepth_35 ⟨wr_10_156, wr_1_15, wr_9_127, by decide, rfl, (Nat.le_of_ble_eq_true rfl), (Nat.le_of_ble_eq_true rfl)⟩ wr_9_125 wr_9_126 hm514718 he517483 rfl (show 0 + 0 ≤ 0 by first | omega | decide) (show 0 + 0 ≤ 0 by first | omega | decide) (Nat.le_of_ble_eq_true rfl) (fun r517490 w517491 dc517487 ds517488 hp517489 => ?_) (fun _ _ _ _ _ z => z.elim)
            obtain ⟨rfl, rfl, hdc, hds⟩ := hp517489
            change G _ _ _ _ _ _ _ (.int p514723 :: _) _ _ _
            refine G_widen (cs' := 0) (sl' := 0) (by omega) (by omega) ?_
            refine G_icmp_ge 339 dr_cX17_findDepth_38 (by decide +kernel) (fun hc517492 => ?_) (fun hc517492 => ?_)
            · have r517493 : p514723.toInt ≤ g517475.toInt := gC_le hc517492
              refine G_iconst 0 dr_cX17_findDepth_339 (by decide +kernel) ?_
              refine G_istore (L' := [(4, .int 0), (2, .long ol514752), (0, .ref q398623), (1, .ref q398624)]) dr_cX17_findDepth_340 (Nat.le_of_ble_eq_true rfl) rfl ?_
              have hlp342_517533 : ∀ (n342_517533 : Nat) (F517529 : Nat → va_E) (g517528 : Int32), gB g517528 0 1000000 → RS D I P398621 F517529 γ el → rStr γ [] F398622 F517529 → (F517529 q398623 = F398622 q398623) → (F517529 (γ 9 3) = F398622 (γ 9 3)) → ((1000001 : Int) - g517528.toInt).toNat < n342_517533 → G (gV D I) l (gRm 5 112 0 0) (gMA (gV D I) (pt_398626_SpillForgeModel_findDepth D I γ el P398621 F398622 q398623 q398624) gNA 0 0) ky_398626_SpillForgeModel_findDepth 342 [(4, .int g517528), (2, .long ol514752), (0, .ref q398623), (1, .ref q398624)] [] (va_pl P398621 F517529) 0 0 := by
                intro n342_517533
                induction n342_517533 with
                | zero => intro F517529 g517528 bg517528 hT517530 hs517531 x517532 x517533 hm342_517533; exact absurd hm342_517533 (Nat.not_lt_zero _)
                | succ n342_517533 ih342_517533 =>
                  intro F517529 g517528 bg517528 hT517530 hs517531 x517532 x517533 hm342_517533
                  have hs517535 : rStr γ [] F517476 F517529 := fun b h0 hb hw => (hs517531 b h0 hb hw).trans (hs517478 b h0 hb hw).symm
                  have he517536 : F517529 q398624 = .inr (18, [.ref q514720, .ref q514721, .int p514722, .int p514723]) := (hs517535 q398624 (rT0 htq398624 (by decide)) (rT1 htq398624 (by decide)) (rT2 htq398624 (by decide))).trans he517483
                  have hs517537 : rStr γ [] F398622 F517529 := rStr_tr hs517478 hs517535
                  have he517538 : F517529 q398623 = .inr (22, [.ref (γ 9 0), .ref (γ 9 1), .ref (γ 9 2), .ref (γ 9 3), .ref (γ 9 4), .ref (γ 9 5), .ref (γ 9 6), .ref (γ 9 7), .ref (γ 9 8), .int p398631, .int p398632, .int p398633, .int p398634, .int p398635, .int p398636, .ref (γ 9 15), .ref (γ 9 16), .ref (γ 9 17), .ref (γ 9 18), .ref (γ 9 19), .ref (γ 9 20), .ref (γ 9 21), .ref (γ 9 22), .int p398637, .int p398638, .int p398639, .int p398640, .int p398641, .ref q398629, .ref (γ 9 29), .int p398642, .ref (γ 9 31), .int p398643, .int p398644, .int p398645, .ref q398630]) := x517532.trans he398628
                  have hm517539 : q398623 ∈ P398621 := RS_m hT517530 htq398623 (by decide)
                  refine G_iload 0 dr_cX17_findDepth_342 rfl ?_
                  refine G_aload_n 3 dr_cX17_findDepth_344 rfl ?_
                  refine Gw_callV (As := []) (gV_ok D I) (cp_12496_Code_size l hl0 D I P398621 F517529 q398624 q514720 q514721 p514722 p514723 hm514718 he517536) dr_cX17_findDepth_345 ⟨wr_10_156, wr_1_15, wr_9_127, by decide, rfl, (Nat.le_of_ble_eq_true rfl), (Nat.le_of_ble_eq_true rfl)⟩ wr_9_125 wr_9_126 hm514718 he517536 rfl (show 0 + 0 ≤ 0 by first | omega | decide) (show 0 + 0 ≤ 0 by first | omega | decide) (Nat.le_of_ble_eq_true rfl) (fun r517543 w517544 dc517540 ds517541 hp517542 => ?_) (fun _ _ _ _ _ z => z.elim)
                  obtain ⟨rfl, rfl, hdc, hds⟩ := hp517542
                  change G _ _ _ _ _ _ _ (.int p514723 :: _) _ _ _
                  refine G_widen (cs' := 0) (sl' := 0) (by omega) (by omega) ?_
                  refine G_icmp_ge 375 dr_cX17_findDepth_348 (by decide +kernel) (fun hc517545 => ?_) (fun hc517545 => ?_)
                  · have r517546 : p514723.toInt ≤ g517528.toInt := gC_le hc517545
                    exact G_vretA dr_cX17_findDepth_375 rfl (Nat.le_of_ble_eq_true rfl) (Nat.le_of_ble_eq_true rfl) ⟨F517529, rfl, rfl, hT517530, hs517531, (Nat.le_of_ble_eq_true rfl), (Nat.le_of_ble_eq_true rfl), x517532, x517533⟩
                  · have r517547 : g517528.toInt < p514723.toInt := gC_nle hc517545
                    have bg517528' : gB g517528 0 999999 := ⟨by omega, by omega⟩
                    have bp514723' : gB p514723 1 1000000 := ⟨by omega, by omega⟩
                    refine G_aload_n 2 dr_cX17_findDepth_351 rfl ?_
                    refine Gp_get 4 hm517539 he517538 dr_cX17_findDepth_352 (gk_X17 D I) (Nat.le_of_ble_eq_true rfl) wr_7_78 rfl ?_
                    refine G_iload 0 dr_cX17_findDepth_355 rfl ?_
                    refine G_aload_n 2 dr_cX17_findDepth_357 rfl ?_
                    refine Gp_get 4 hm517539 he517538 dr_cX17_findDepth_358 (gk_X17 D I) (Nat.le_of_ble_eq_true rfl) wr_7_78 rfl ?_
                    refine G_iload 0 dr_cX17_findDepth_361 rfl ?_
                    have hm517548 : (γ 9 4) ∈ P398621 := RS_m hT517530 ht398652 (by decide)
                    obtain ⟨f517550, he517549⟩ := show rk_16 I (F517529 (γ 9 4)) from RS_o hT517530 ht398652
                    refine Gp_iald 0 hm517548 he517549 dr_cX17_findDepth_363 rfl (gB_inr (by omega) (by omega)) (G_nam fun z517551 hz517551 => ?_)
                    have bz517551 : gB z517551 (-2147483648) 2147483647 := gB_any z517551
                    refine G_iconst 4 dr_cX17_findDepth_364 (by decide +kernel) ?_
                    refine G_mmin dr_cX17_findDepth_365 wr_11_16 wr_3_227 wr_1_6 wr_3_228 (Nat.le_of_ble_eq_true rfl) (Nat.le_of_ble_eq_true rfl) (show 0 ≤ 0 by first | omega | decide) (show 0 ≤ 0 by first | omega | decide) (G_nam fun z517552 hz517552 => ?_)
                    have ez517552 : z517551.toInt ≥ z517552.toInt ∧ 4 ≥ z517552.toInt ∧ (z517552.toInt = z517551.toInt ∨ z517552.toInt = 4) := by have := gI_min hz517552; rw [show Int32.toInt 4 = 4 from by decide] at this; omega
                    have bz517552 : gB z517552 (-2147483648) 4 := ⟨by omega, by omega⟩
                    refine Gp_iast 0 hm517548 he517549 dr_cX17_findDepth_368 rfl (gB_inr (by omega) (by omega)) (fun F517553 e517554 n517555 => ?_)
                    obtain ⟨f517556, hf517556⟩ : ∃ z, z = upd f517550 g517528.toNatClampNeg z517552 := ⟨_, rfl⟩
                    rw [← hf517556] at e517554
                    have he517557 : F517553 q398624 = .inr (18, [.ref q514720, .ref q514721, .int p514722, .int p514723]) := (n517555 q398624 (rn_oa he517536 he517549)).trans he517536
                    have he517558 : F517553 q398623 = .inr (22, [.ref (γ 9 0), .ref (γ 9 1), .ref (γ 9 2), .ref (γ 9 3), .ref (γ 9 4), .ref (γ 9 5), .ref (γ 9 6), .ref (γ 9 7), .ref (γ 9 8), .int p398631, .int p398632, .int p398633, .int p398634, .int p398635, .int p398636, .ref (γ 9 15), .ref (γ 9 16), .ref (γ 9 17), .ref (γ 9 18), .ref (γ 9 19), .ref (γ 9 20), .ref (γ 9 21), .ref (γ 9 22), .int p398637, .int p398638, .int p398639, .int p398640, .int p398641, .ref q398629, .ref (γ 9 29), .int p398642, .ref (γ 9 31), .int p398643, .int p398644, .int p398645, .ref q398630]) := (n517555 q398623 (rn_oa he517538 he517549)).trans he517538
                    have he517559 : F517553 (γ 9 4) = .inl (I .int, 40, .inl f517556) := e517554
                    have hs517560 : rStr γ [] F398622 F517553 := rStr_put hs517531 n517555 ht398652 (by decide)
                    have kp517561 : F517553 q398623 = F398622 q398623 := (n517555 q398623 (rn_ty htq398623 ht398652 (by decide))).trans x517532
                    have kp517562 : F517553 (γ 9 3) = F398622 (γ 9 3) := (n517555 (γ 9 3) (rn_ty ht398651 ht398652 (by decide))).trans x517533
                    obtain ⟨z517563, hz517563⟩ : ∃ z : Int32, z = g517528 + Int32.ofInt 1 := ⟨_, rfl⟩
                    have ez517563 : z517563.toInt = g517528.toInt + 1 := gI_inc hz517563 (by decide) bg517528' (by decide) (by decide)
                    have bz517563 : gB z517563 1 1000000 := ⟨by omega, by omega⟩
                    refine G_iinc (L' := [(4, .int z517563), (2, .long ol514752), (0, .ref q398623), (1, .ref q398624)]) z517563 0 dr_cX17_findDepth_369 rfl hz517563.symm (Nat.le_of_ble_eq_true rfl) rfl ?_
                    refine G_goto 342 dr_cX17_findDepth_372 (by decide +kernel) ?_
                    have hT517564 : RS D I P398621 F517553 γ el := RS_set hT517530 n517555 ht398652 (by decide) ⟨f517556, he517559⟩
                    exact ih342_517533 F517553 z517563 (gB_w bz517563 (by decide) (by decide)) hT517564 hs517560 kp517561 kp517562 (mz_up ez517563 (Int.le_trans bg517528'.2 (by decide)) hm342_517533)
              exact hlp342_517533 (((1000001 : Int) - 0).toNat + 1) F517476 0 (gB_w (gBl (show Int32.toInt 0 = 0 by decide)) (by decide) (by decide)) hT517477 hs517478 x517479 x517480 (Nat.lt_succ_self _)
            · have r517565 : g517475.toInt < p514723.toInt := gC_nle hc517492
              have bg517475' : gB g517475 0 999999 := ⟨by omega, by omega⟩
              have bp514723' : gB p514723 1 1000000 := ⟨by omega, by omega⟩
              refine G_lload_n 1 dr_cX17_findDepth_41 rfl ?_
              refine G_iload 0 dr_cX17_findDepth_42 rfl ?_
              refine G_lushr dr_cX17_findDepth_44 (G_namL fun u517566 hu517566 => ?_)
              refine G_lconst 1 dr_cX17_findDepth_45 rfl ?_
              refine G_land dr_cX17_findDepth_46 (G_namL fun u517567 hu517567 => ?_)
              refine G_lconst 0 dr_cX17_findDepth_47 rfl ?_
              refine G_lcmp dr_cX17_findDepth_48 (G_nam fun z517568 hz517568 => ?_)
              have bz517568 : gB z517568 (-1) 1 := gB_cmp hz517568
              refine G_if_ne 55 dr_cX17_findDepth_49 (by decide +kernel) (fun hc517569 => ?_) (fun hc517569 => ?_)
              · have r517570 : z517568.toInt ≠ 0 := gj_neq hc517569 (show Int32.toInt 0 = 0 by decide)
                have lhc517569 := gC_cmpN hz517568 hc517569
                refine G_lload_n 1 dr_cX17_findDepth_55 rfl ?_
                refine G_aload_n 3 dr_cX17_findDepth_56 rfl ?_
                refine G_iload 0 dr_cX17_findDepth_57 rfl ?_
                refine Gw_callS (As := [.ref q398624, .int g517475]) (gV_ok D I) (ct_12464_SpillForgeModel_reached l hl0 D I γ el P398621 F517476 q398624 g517475 hT517477 htq398624 (by omega)) dr_cX17_findDepth_59 ⟨wr_11_37, wr_1_14, wr_11_39, by decide, rfl, (Nat.le_of_ble_eq_true rfl), (Nat.le_of_ble_eq_true rfl)⟩ wr_11_38 (show 0 + 0 ≤ 0 by first | omega | decide) (show 0 + 0 ≤ 0 by first | omega | decide) (Nat.le_of_ble_eq_true rfl) (fun r517574 w517575 dc517571 ds517572 hp517573 => ?_) (fun _ _ _ _ _ z => z.elim)
                obtain ⟨ol517576, rfl, rfl, hdc, hds⟩ := hp517573
                change G _ _ _ _ _ _ _ (.long ol517576 :: _) _ _ _
                refine G_widen (cs' := 0) (sl' := 0) (by omega) (by omega) ?_
                refine G_ldc2 (-1) dr_cX17_findDepth_62 wr_10_184 ?_
                refine G_lxor dr_cX17_findDepth_65 (G_namL fun u517577 hu517577 => ?_)
                refine G_land dr_cX17_findDepth_66 (G_namL fun u517578 hu517578 => ?_)
                refine G_lstore (L' := [(5, .long u517578), (4, .int g517475), (2, .long ol514752), (0, .ref q398623), (1, .ref q398624)]) dr_cX17_findDepth_67 (Nat.le_of_ble_eq_true rfl) rfl ?_
                refine G_lconst 0 dr_cX17_findDepth_69 rfl ?_
                refine G_lstore (L' := [(7, .long 0), (5, .long u517578), (4, .int g517475), (2, .long ol514752), (0, .ref q398623), (1, .ref q398624)]) dr_cX17_findDepth_70 (Nat.le_of_ble_eq_true rfl) rfl ?_
                refine G_iconst 0 dr_cX17_findDepth_72 (by decide +kernel) ?_
                refine G_istore (L' := [(9, .int 0), (7, .long 0), (5, .long u517578), (4, .int g517475), (2, .long ol514752), (0, .ref q398623), (1, .ref q398624)]) dr_cX17_findDepth_73 (Nat.le_of_ble_eq_true rfl) rfl ?_
                have hlp75_518889 : ∀ (n75_518889 : Nat) (g518888 : Int32) (gl518889 : Int64), gB g518888 0 1000000 → ((1000001 : Int) - g518888.toInt).toNat < n75_518889 → G (gV D I) l (gRm 5 112 0 0) (gMA (gV D I) (pt_398626_SpillForgeModel_findDepth D I γ el P398621 F398622 q398623 q398624) gNA 0 0) ky_398626_SpillForgeModel_findDepth 75 [(9, .int g518888), (7, .long gl518889), (5, .long u517578), (4, .int g517475), (2, .long ol514752), (0, .ref q398623), (1, .ref q398624)] [] (va_pl P398621 F517476) 0 0 := by
                  intro n75_518889
                  induction n75_518889 with
                  | zero => intro g518888 gl518889 bg518888 hm75_518889; exact absurd hm75_518889 (Nat.not_lt_zero _)
                  | succ n75_518889 ih75_518889 =>
                    intro g518888 gl518889 bg518888 hm75_518889
                    refine G_iload 0 dr_cX17_findDepth_75 rfl ?_
                    refine G_aload_n 6 dr_cX17_findDepth_77 rfl ?_
                    refine Gw_callV (As := []) (gV_ok D I) (cp_12496_Code_size l hl0 D I P398621 F517476 q398624 q514720 q514721 p514722 p514723 hm514718 he517483) dr_cX17_findDepth_78 ⟨wr_10_156, wr_1_15, wr_9_127, by decide, rfl, (Nat.le_of_ble_eq_true rfl), (Nat.le_of_ble_eq_true rfl)⟩ wr_9_125 wr_9_126 hm514718 he517483 rfl (show 0 + 0 ≤ 0 by first | omega | decide) (show 0 + 0 ≤ 0 by first | omega | decide) (Nat.le_of_ble_eq_true rfl) (fun r518894 w518895 dc518891 ds518892 hp518893 => ?_) (fun _ _ _ _ _ z => z.elim)
                    obtain ⟨rfl, rfl, hdc, hds⟩ := hp518893
                    change G _ _ _ _ _ _ _ (.int p514723 :: _) _ _ _
                    refine G_widen (cs' := 0) (sl' := 0) (by omega) (by omega) ?_
                    refine G_icmp_ge 125 dr_cX17_findDepth_81 (by decide +kernel) (fun hc518896 => ?_) (fun hc518896 => ?_)
                    · have r518897 : p514723.toInt ≤ g518888.toInt := gC_le hc518896
                      have bg518888' : gB g518888 1 1000000 := ⟨by omega, by omega⟩
                      refine G_lload 1 dr_cX17_findDepth_125 rfl ?_
                      refine G_lconst 0 dr_cX17_findDepth_127 rfl ?_
                      refine G_lcmp dr_cX17_findDepth_128 (G_nam fun z518898 hz518898 => ?_)
                      have bz518898 : gB z518898 (-1) 1 := gB_cmp hz518898
                      refine G_if_ne 135 dr_cX17_findDepth_129 (by decide +kernel) (fun hc518899 => ?_) (fun hc518899 => ?_)
                      · have r518900 : z518898.toInt ≠ 0 := gj_neq hc518899 (show Int32.toInt 0 = 0 by decide)
                        have lhc518899 := gC_cmpN hz518898 hc518899
                        refine G_lload 1 dr_cX17_findDepth_135 rfl ?_
                        refine G_lconst 1 dr_cX17_findDepth_137 rfl ?_
                        refine G_iload 3 dr_cX17_findDepth_138 rfl ?_
                        refine G_lshl dr_cX17_findDepth_140 (G_namL fun u518901 hu518901 => ?_)
                        have qu518901 : lb_Q u518901 (g517475.toInt % 64 + 1) := lb_Qshl hu518901 (by omega)
                        refine G_lor dr_cX17_findDepth_141 (G_namL fun u518902 hu518902 => ?_)
                        have pmu518902 : rpop gl518889 ≤ rpop u518902 := rpop_or hu518902
                        refine G_lstore (L' := [(7, .long u518902), (9, .int g518888), (5, .long u517578), (4, .int g517475), (2, .long ol514752), (0, .ref q398623), (1, .ref q398624)]) dr_cX17_findDepth_142 (Nat.le_of_ble_eq_true rfl) rfl ?_
                        refine G_iconst 1 dr_cX17_findDepth_144 (by decide +kernel) ?_
                        refine G_istore (L' := [(9, .int 1), (7, .long u518902), (5, .long u517578), (4, .int g517475), (2, .long ol514752), (0, .ref q398623), (1, .ref q398624)]) dr_cX17_findDepth_145 (Nat.le_of_ble_eq_true rfl) rfl ?_
                        have hlp147_519516 : ∀ (n147_519516 : Nat) (g519514 : Int32) (gl519515 : Int64), gB g519514 0 1 → rpop gl519515 ≤ 64 → (64 - rpop gl519515) + ((g519514.toInt : Int)).toNat < n147_519516 → G (gV D I) l (gRm 5 112 0 0) (gMA (gV D I) (pt_398626_SpillForgeModel_findDepth D I γ el P398621 F398622 q398623 q398624) gNA 0 0) ky_398626_SpillForgeModel_findDepth 147 [(9, .int g519514), (7, .long gl519515), (5, .long u517578), (4, .int g517475), (2, .long ol514752), (0, .ref q398623), (1, .ref q398624)] [] (va_pl P398621 F517476) 0 0 := by
                          intro n147_519516
                          induction n147_519516 with
                          | zero => intro g519514 gl519515 bg519514 x519516 hm147_519516; exact absurd hm147_519516 (Nat.not_lt_zero _)
                          | succ n147_519516 ih147_519516 =>
                            intro g519514 gl519515 bg519514 x519516 hm147_519516
                            refine G_iload 0 dr_cX17_findDepth_147 rfl ?_
                            refine G_if_eq 297 dr_cX17_findDepth_149 (by decide +kernel) (fun hc519518 => ?_) (fun hc519518 => ?_)
                            · have r519519 : g519514.toInt = 0 := gj_eq hc519518 (show Int32.toInt 0 = 0 by decide)
                              have bg519514' : gB g519514 0 0 := gB_t0 r519519
                              refine G_iconst 0 dr_cX17_findDepth_297 (by decide +kernel) ?_
                              refine G_istore (L' := [(10, .int 0), (9, .int g519514), (7, .long gl519515), (5, .long u517578), (4, .int g517475), (2, .long ol514752), (0, .ref q398623), (1, .ref q398624)]) dr_cX17_findDepth_298 (Nat.le_of_ble_eq_true rfl) rfl ?_
                              have hlp300_519563 : ∀ (n300_519563 : Nat) (F519559 : Nat → va_E) (g519558 : Int32), gB g519558 0 1000000 → RS D I P398621 F519559 γ el → rStr γ [] F398622 F519559 → (F519559 q398623 = F398622 q398623) → (F519559 (γ 9 3) = F398622 (γ 9 3)) → ((1000001 : Int) - g519558.toInt).toNat < n300_519563 → G (gV D I) l (gRm 5 112 0 0) (gMA (gV D I) (pt_398626_SpillForgeModel_findDepth D I γ el P398621 F398622 q398623 q398624) gNA 0 0) ky_398626_SpillForgeModel_findDepth 300 [(10, .int g519558), (9, .int g519514), (7, .long gl519515), (5, .long u517578), (4, .int g517475), (2, .long ol514752), (0, .ref q398623), (1, .ref q398624)] [] (va_pl P398621 F519559) 0 0 := by
                                intro n300_519563
                                induction n300_519563 with
                                | zero => intro F519559 g519558 bg519558 hT519560 hs519561 x519562 x519563 hm300_519563; exact absurd hm300_519563 (Nat.not_lt_zero _)
                                | succ n300_519563 ih300_519563 =>
                                  intro F519559 g519558 bg519558 hT519560 hs519561 x519562 x519563 hm300_519563
                                  have hs519565 : rStr γ [] F517476 F519559 := fun b h0 hb hw => (hs519561 b h0 hb hw).trans (hs517478 b h0 hb hw).symm
                                  have he519566 : F519559 q398624 = .inr (18, [.ref q514720, .ref q514721, .int p514722, .int p514723]) := (hs519565 q398624 (rT0 htq398624 (by decide)) (rT1 htq398624 (by decide)) (rT2 htq398624 (by decide))).trans he517483
                                  have hs519567 : rStr γ [] F398622 F519559 := rStr_tr hs517478 hs519565
                                  have he519568 : F519559 q398623 = .inr (22, [.ref (γ 9 0), .ref (γ 9 1), .ref (γ 9 2), .ref (γ 9 3), .ref (γ 9 4), .ref (γ 9 5), .ref (γ 9 6), .ref (γ 9 7), .ref (γ 9 8), .int p398631, .int p398632, .int p398633, .int p398634, .int p398635, .int p398636, .ref (γ 9 15), .ref (γ 9 16), .ref (γ 9 17), .ref (γ 9 18), .ref (γ 9 19), .ref (γ 9 20), .ref (γ 9 21), .ref (γ 9 22), .int p398637, .int p398638, .int p398639, .int p398640, .int p398641, .ref q398629, .ref (γ 9 29), .int p398642, .ref (γ 9 31), .int p398643, .int p398644, .int p398645, .ref q398630]) := x519562.trans he398628
                                  have hm519569 : q398623 ∈ P398621 := RS_m hT519560 htq398623 (by decide)
                                  refine G_iload 0 dr_cX17_findDepth_300 rfl ?_
                                  refine G_aload_n 7 dr_cX17_findDepth_302 rfl ?_
                                  refine Gw_callV (As := []) (gV_ok D I) (cp_12496_Code_size l hl0 D I P398621 F519559 q398624 q514720 q514721 p514722 p514723 hm514718 he519566) dr_cX17_findDepth_303 ⟨wr_10_156, wr_1_15, wr_9_127, by decide, rfl, (Nat.le_of_ble_eq_true rfl), (Nat.le_of_ble_eq_true rfl)⟩ wr_9_125 wr_9_126 hm514718 he519566 rfl (show 0 + 0 ≤ 0 by first | omega | decide) (show 0 + 0 ≤ 0 by first | omega | decide) (Nat.le_of_ble_eq_true rfl) (fun r519573 w519574 dc519570 ds519571 hp519572 => ?_) (fun _ _ _ _ _ z => z.elim)
                                  obtain ⟨rfl, rfl, hdc, hds⟩ := hp519572
                                  change G _ _ _ _ _ _ _ (.int p514723 :: _) _ _ _
                                  refine G_widen (cs' := 0) (sl' := 0) (by omega) (by omega) ?_
                                  refine G_icmp_ge 333 dr_cX17_findDepth_306 (by decide +kernel) (fun hc519575 => ?_) (fun hc519575 => ?_)
                                  · have r519576 : p514723.toInt ≤ g519558.toInt := gC_le hc519575
                                    have bg519558' : gB g519558 1 1000000 := ⟨by omega, by omega⟩
                                    obtain ⟨z519577, hz519577⟩ : ∃ z : Int32, z = g517475 + Int32.ofInt 1 := ⟨_, rfl⟩
                                    have ez519577 : z519577.toInt = g517475.toInt + 1 := gI_inc hz519577 (by decide) bg517475' (by decide) (by decide)
                                    have bz519577 : gB z519577 1 1000000 := ⟨by omega, by omega⟩
                                    refine G_iinc (L' := [(4, .int z519577), (10, .int g519558), (9, .int g519514), (7, .long gl519515), (5, .long u517578), (2, .long ol514752), (0, .ref q398623), (1, .ref q398624)]) z519577 4 dr_cX17_findDepth_333 rfl hz519577.symm (Nat.le_of_ble_eq_true rfl) rfl ?_
                                    refine G_goto 32 dr_cX17_findDepth_336 (by decide +kernel) ?_
                                    refine G_lv (L' := [(4, .int z519577), (2, .long ol514752), (0, .ref q398623), (1, .ref q398624)]) [0, 5, 6, 7] rfl ?_
                                    exact ih32_517480 F519559 z519577 (gB_w bz519577 (by decide) (by decide)) hT519560 hs519561 x519562 x519563 (mz_up ez519577 (Int.le_trans bg517475'.2 (by decide)) hm32_517480)
                                  · have r519578 : g519558.toInt < p514723.toInt := gC_nle hc519575
                                    have bg519558' : gB g519558 0 999999 := ⟨by omega, by omega⟩
                                    refine G_aload_n 6 dr_cX17_findDepth_309 rfl ?_
                                    refine Gp_get 4 hm519569 he519568 dr_cX17_findDepth_310 (gk_X17 D I) (Nat.le_of_ble_eq_true rfl) wr_7_78 rfl ?_
                                    refine G_iload 0 dr_cX17_findDepth_313 rfl ?_
                                    refine G_dup2_11 dr_cX17_findDepth_315 rfl rfl ?_
                                    have hm519579 : (γ 9 4) ∈ P398621 := RS_m hT519560 ht398652 (by decide)
                                    obtain ⟨f519581, he519580⟩ := show rk_16 I (F519559 (γ 9 4)) from RS_o hT519560 ht398652
                                    refine Gp_iald 0 hm519579 he519580 dr_cX17_findDepth_316 rfl (gB_inr (by omega) (by omega)) (G_nam fun z519582 hz519582 => ?_)
                                    have bz519582 : gB z519582 (-2147483648) 2147483647 := gB_any z519582
                                    refine G_lload 2 dr_cX17_findDepth_317 rfl ?_
                                    refine G_iload 0 dr_cX17_findDepth_319 rfl ?_
                                    refine G_lushr dr_cX17_findDepth_321 (G_namL fun u519583 hu519583 => ?_)
                                    refine G_lconst 1 dr_cX17_findDepth_322 rfl ?_
                                    refine G_land dr_cX17_findDepth_323 (G_namL fun u519584 hu519584 => ?_)
                                    refine G_l2i dr_cX17_findDepth_324 (G_nam fun z519585 hz519585 => ?_)
                                    have bz519585 : gB z519585 (-2147483648) 2147483647 := gB_any z519585
                                    refine G_iadd dr_cX17_findDepth_325 (G_nam fun z519586 hz519586 => ?_)
                                    have bz519586 : gB z519586 (-2147483648) 2147483647 := gB_any z519586
                                    refine Gp_iast 0 hm519579 he519580 dr_cX17_findDepth_326 rfl (gB_inr (by omega) (by omega)) (fun F519587 e519588 n519589 => ?_)
                                    obtain ⟨f519590, hf519590⟩ : ∃ z, z = upd f519581 g519558.toNatClampNeg z519586 := ⟨_, rfl⟩
                                    rw [← hf519590] at e519588
                                    have he519591 : F519587 q398624 = .inr (18, [.ref q514720, .ref q514721, .int p514722, .int p514723]) := (n519589 q398624 (rn_oa he519566 he519580)).trans he519566
                                    have he519592 : F519587 q398623 = .inr (22, [.ref (γ 9 0), .ref (γ 9 1), .ref (γ 9 2), .ref (γ 9 3), .ref (γ 9 4), .ref (γ 9 5), .ref (γ 9 6), .ref (γ 9 7), .ref (γ 9 8), .int p398631, .int p398632, .int p398633, .int p398634, .int p398635, .int p398636, .ref (γ 9 15), .ref (γ 9 16), .ref (γ 9 17), .ref (γ 9 18), .ref (γ 9 19), .ref (γ 9 20), .ref (γ 9 21), .ref (γ 9 22), .int p398637, .int p398638, .int p398639, .int p398640, .int p398641, .ref q398629, .ref (γ 9 29), .int p398642, .ref (γ 9 31), .int p398643, .int p398644, .int p398645, .ref q398630]) := (n519589 q398623 (rn_oa he519568 he519580)).trans he519568
                                    have he519593 : F519587 (γ 9 4) = .inl (I .int, 40, .inl f519590) := e519588
                                    have hs519594 : rStr γ [] F398622 F519587 := rStr_put hs519561 n519589 ht398652 (by decide)
                                    have kp519595 : F519587 q398623 = F398622 q398623 := (n519589 q398623 (rn_ty htq398623 ht398652 (by decide))).trans x519562
                                    have kp519596 : F519587 (γ 9 3) = F398622 (γ 9 3) := (n519589 (γ 9 3) (rn_ty ht398651 ht398652 (by decide))).trans x519563
                                    obtain ⟨z519597, hz519597⟩ : ∃ z : Int32, z = g519558 + Int32.ofInt 1 := ⟨_, rfl⟩
                                    have ez519597 : z519597.toInt = g519558.toInt + 1 := gI_inc hz519597 (by decide) bg519558' (by decide) (by decide)
                                    have bz519597 : gB z519597 1 1000000 := ⟨by omega, by omega⟩
                                    refine G_iinc (L' := [(10, .int z519597), (9, .int g519514), (7, .long gl519515), (5, .long u517578), (4, .int g517475), (2, .long ol514752), (0, .ref q398623), (1, .ref q398624)]) z519597 0 dr_cX17_findDepth_327 rfl hz519597.symm (Nat.le_of_ble_eq_true rfl) rfl ?_
                                    refine G_goto 300 dr_cX17_findDepth_330 (by decide +kernel) ?_
                                    have hT519598 : RS D I P398621 F519587 γ el := RS_set hT519560 n519589 ht398652 (by decide) ⟨f519590, he519593⟩
                                    exact ih300_519563 F519587 z519597 (gB_w bz519597 (by decide) (by decide)) hT519598 hs519594 kp519595 kp519596 (mz_up ez519597 (Int.le_trans bg519558'.2 (by decide)) hm300_519563)
                              exact hlp300_519563 (((1000001 : Int) - 0).toNat + 1) F517476 0 (gB_w (gBl (show Int32.toInt 0 = 0 by decide)) (by decide) (by decide)) hT517477 hs517478 x517479 x517480 (Nat.lt_succ_self _)
                            · have r519599 : g519514.toInt ≠ 0 := gj_neq hc519518 (show Int32.toInt 0 = 0 by decide)
                              have bg519514' : gB g519514 1 1 := gB_t1 bg519514 r519599
                              refine G_iconst 0 dr_cX17_findDepth_152 (by decide +kernel) ?_
                              refine G_istore (L' := [(9, .int 0), (7, .long gl519515), (5, .long u517578), (4, .int g517475), (2, .long ol514752), (0, .ref q398623), (1, .ref q398624)]) dr_cX17_findDepth_153 (Nat.le_of_ble_eq_true rfl) rfl ?_
                              refine G_iconst 0 dr_cX17_findDepth_155 (by decide +kernel) ?_
                              refine G_istore (L' := [(10, .int 0), (9, .int 0), (7, .long gl519515), (5, .long u517578), (4, .int g517475), (2, .long ol514752), (0, .ref q398623), (1, .ref q398624)]) dr_cX17_findDepth_156 (Nat.le_of_ble_eq_true rfl) rfl ?_
                              have hlp158_519866 : ∀ (n158_519866 : Nat) (g519862 : Int32) (g519863 : Int32) (gl519864 : Int64), gB g519862 0 1000000 → gB g519863 0 1 → rpop gl519864 ≤ 64 → rpop gl519515 + ((g519863.toInt : Int)).toNat ≤ rpop gl519864 → ((1000001 : Int) - g519862.toInt).toNat < n158_519866 → G (gV D I) l (gRm 5 112 0 0) (gMA (gV D I) (pt_398626_SpillForgeModel_findDepth D I γ el P398621 F398622 q398623 q398624) gNA 0 0) ky_398626_SpillForgeModel_findDepth 158 [(10, .int g519862), (9, .int g519863), (7, .long gl519864), (5, .long u517578), (4, .int g517475), (2, .long ol514752), (0, .ref q398623), (1, .ref q398624)] [] (va_pl P398621 F517476) 0 0 := by
                                intro n158_519866
                                induction n158_519866 with
                                | zero => intro g519862 g519863 gl519864 bg519862 bg519863 x519865 x519866 hm158_519866; exact absurd hm158_519866 (Nat.not_lt_zero _)
                                | succ n158_519866 ih158_519866 =>
                                  intro g519862 g519863 gl519864 bg519862 bg519863 x519865 x519866 hm158_519866
                                  refine G_iload 0 dr_cX17_findDepth_158 rfl ?_
                                  refine G_aload_n 7 dr_cX17_findDepth_160 rfl ?_
                                  refine Gw_callV (As := []) (gV_ok D I) (cp_12496_Code_size l hl0 D I P398621 F517476 q398624 q514720 q514721 p514722 p514723 hm514718 he517483) dr_cX17_findDepth_161 ⟨wr_10_156, wr_1_15, wr_9_127, by decide, rfl, (Nat.le_of_ble_eq_true rfl), (Nat.le_of_ble_eq_true rfl)⟩ wr_9_125 wr_9_126 hm514718 he517483 rfl (show 0 + 0 ≤ 0 by first | omega | decide) (show 0 + 0 ≤ 0 by first | omega | decide) (Nat.le_of_ble_eq_true rfl) (fun r519871 w519872 dc519868 ds519869 hp519870 => ?_) (fun _ _ _ _ _ z => z.elim)
                                  obtain ⟨rfl, rfl, hdc, hds⟩ := hp519870
                                  change G _ _ _ _ _ _ _ (.int p514723 :: _) _ _ _
                                  refine G_widen (cs' := 0) (sl' := 0) (by omega) (by omega) ?_
                                  refine G_icmp_ge 294 dr_cX17_findDepth_164 (by decide +kernel) (fun hc519873 => ?_) (fun hc519873 => ?_)
                                  · have r519874 : p514723.toInt ≤ g519862.toInt := gC_le hc519873
                                    have bg519862' : gB g519862 1 1000000 := ⟨by omega, by omega⟩
                                    refine G_goto 147 dr_cX17_findDepth_294 (by decide +kernel) ?_
                                    refine G_lv (L' := [(9, .int g519863), (7, .long gl519864), (5, .long u517578), (4, .int g517475), (2, .long ol514752), (0, .ref q398623), (1, .ref q398624)]) [1, 2, 3, 4, 5, 6, 7] rfl ?_
                                    exact ih147_519516 g519863 gl519864 bg519863 (rpop_le gl519864) (by omega)
                                  · have r519875 : g519862.toInt < p514723.toInt := gC_nle hc519873
                                    have bg519862' : gB g519862 0 999999 := ⟨by omega, by omega⟩
                                    refine G_lload 2 dr_cX17_findDepth_167 rfl ?_
                                    refine G_iload 0 dr_cX17_findDepth_169 rfl ?_
                                    refine G_lushr dr_cX17_findDepth_171 (G_namL fun u519876 hu519876 => ?_)
                                    refine G_lconst 1 dr_cX17_findDepth_172 rfl ?_
                                    refine G_land dr_cX17_findDepth_173 (G_namL fun u519877 hu519877 => ?_)
                                    refine G_lconst 0 dr_cX17_findDepth_174 rfl ?_
                                    refine G_lcmp dr_cX17_findDepth_175 (G_nam fun z519878 hz519878 => ?_)
                                    have bz519878 : gB z519878 (-1) 1 := gB_cmp hz519878
                                    refine G_if_ne 288 dr_cX17_findDepth_176 (by decide +kernel) (fun hc519879 => ?_) (fun hc519879 => ?_)
                                    · have r519880 : z519878.toInt ≠ 0 := gj_neq hc519879 (show Int32.toInt 0 = 0 by decide)
                                      have lhc519879 := gC_cmpN hz519878 hc519879
                                      obtain ⟨z519881, hz519881⟩ : ∃ z : Int32, z = g519862 + Int32.ofInt 1 := ⟨_, rfl⟩
                                      have ez519881 : z519881.toInt = g519862.toInt + 1 := gI_inc hz519881 (by decide) bg519862' (by decide) (by decide)
                                      have bz519881 : gB z519881 1 1000000 := ⟨by omega, by omega⟩
                                      refine G_iinc (L' := [(10, .int z519881), (9, .int g519863), (7, .long gl519864), (5, .long u517578), (4, .int g517475), (2, .long ol514752), (0, .ref q398623), (1, .ref q398624)]) z519881 0 dr_cX17_findDepth_288 rfl hz519881.symm (Nat.le_of_ble_eq_true rfl) rfl ?_
                                      refine G_goto 158 dr_cX17_findDepth_291 (by decide +kernel) ?_
                                      exact ih158_519866 z519881 g519863 gl519864 (gB_w bz519881 (by decide) (by decide)) bg519863 (rpop_le gl519864) (by omega) (mz_up ez519881 (Int.le_trans bg519862'.2 (by decide)) hm158_519866)
                                    · have r519882 : z519878.toInt = 0 := gj_eq hc519879 (show Int32.toInt 0 = 0 by decide)
                                      have bz519878' : gB z519878 0 0 := ⟨by omega, by omega⟩
                                      have lhc519879 := gC_cmpE hz519878 hc519879
                                      have zhc519879 := rbit_0 hu519876 hu519877 lhc519879 (by omega) (by omega)
                                      refine G_lload_n 5 dr_cX17_findDepth_179 rfl ?_
                                      refine G_iload 0 dr_cX17_findDepth_180 rfl ?_
                                      refine G_lushr dr_cX17_findDepth_182 (G_namL fun u519883 hu519883 => ?_)
                                      refine G_lconst 1 dr_cX17_findDepth_183 rfl ?_
                                      refine G_land dr_cX17_findDepth_184 (G_namL fun u519884 hu519884 => ?_)
                                      refine G_lconst 0 dr_cX17_findDepth_185 rfl ?_
                                      refine G_lcmp dr_cX17_findDepth_186 (G_nam fun z519885 hz519885 => ?_)
                                      have bz519885 : gB z519885 (-1) 1 := gB_cmp hz519885
                                      refine G_if_ne 193 dr_cX17_findDepth_187 (by decide +kernel) (fun hc519886 => ?_) (fun hc519886 => ?_)
                                      · have r519887 : z519885.toInt ≠ 0 := gj_neq hc519886 (show Int32.toInt 0 = 0 by decide)
                                        have lhc519886 := gC_cmpN hz519885 hc519886
                                        refine G_iconst 0 dr_cX17_findDepth_193 (by decide +kernel) ?_
                                        refine G_istore (L' := [(11, .int 0), (10, .int g519862), (9, .int g519863), (7, .long gl519864), (5, .long u517578), (4, .int g517475), (2, .long ol514752), (0, .ref q398623), (1, .ref q398624)]) dr_cX17_findDepth_194 (Nat.le_of_ble_eq_true rfl) rfl ?_
                                        refine G_iconst 0 dr_cX17_findDepth_196 (by decide +kernel) ?_
                                        refine G_istore (L' := [(12, .int 0), (11, .int 0), (10, .int g519862), (9, .int g519863), (7, .long gl519864), (5, .long u517578), (4, .int g517475), (2, .long ol514752), (0, .ref q398623), (1, .ref q398624)]) dr_cX17_findDepth_197 (Nat.le_of_ble_eq_true rfl) rfl ?_
                                        have hlp199_520007 : ∀ (n199_520007 : Nat) (g520006 : Int32) (g520007 : Int32), gB g520006 0 2 → gB g520007 0 1 → ((3 : Int) - g520006.toInt).toNat < n199_520007 → G (gV D I) l (gRm 5 112 0 0) (gMA (gV D I) (pt_398626_SpillForgeModel_findDepth D I γ el P398621 F398622 q398623 q398624) gNA 0 0) ky_398626_SpillForgeModel_findDepth 199 [(12, .int g520006), (11, .int g520007), (10, .int g519862), (9, .int g519863), (7, .long gl519864), (5, .long u517578), (4, .int g517475), (2, .long ol514752), (0, .ref q398623), (1, .ref q398624)] [] (va_pl P398621 F517476) 0 0 := by
                                          intro n199_520007
                                          induction n199_520007 with
                                          | zero => intro g520006 g520007 bg520006 bg520007 hm199_520007; exact absurd hm199_520007 (Nat.not_lt_zero _)
                                          | succ n199_520007 ih199_520007 =>
                                            intro g520006 g520007 bg520006 bg520007 hm199_520007
                                            refine G_iload 0 dr_cX17_findDepth_199 rfl ?_
                                            refine G_aload_n 9 dr_cX17_findDepth_201 rfl ?_
                                            refine G_iload 2 dr_cX17_findDepth_202 rfl ?_
                                            have hm520009 : q514720 ∈ P398621 := RS_m hT517477 ht514724 (by decide)
                                            obtain ⟨⟨p520011, p520012, q520013, he520010, r520014, r520015, r520016, r520018⟩, r520017⟩ := show rk_4 D I γ el F517476 q514720 from RS_o hT517477 ht514724
                                            have bp520011 := gB_any p520011
                                            have bp520012 : gB p520012 0 1000000 := ⟨by omega, by omega⟩
                                            obtain ⟨r520019, r520020, n520027, f520028, r520021, r520022, r520023, r520024, r520025, r520026⟩ := rLC_n r520016 (by omega)
                                            have hm520029 : q520013 ∈ P398621 := RS_m hT517477 r520019 (by decide)
                                            obtain ⟨q520030, hx520031⟩ : ∃ x, x = el q514720 g519862.toInt.toNat := ⟨_, rfl⟩
                                            have hx520032 : f520028 g519862.toNatClampNeg = some q520030 := (r520025 _ (show g519862.toInt.toNat < γ 2 q514720 by omega)).trans (by rw [hx520031])
                                            have ht520035 : rKd γ q520030 2 := by rw [hx520031]; exact (r514735 _ (by omega)).resolve_right (fun z => absurd z.1 (by omega))
                                            have ht520036 : rFm γ q520030 q514720 := by rw [hx520031]; exact (r520017 _ (show g519862.toInt.toNat < γ 2 q514720 by omega)).2.1
                                            have hm520037 : q520030 ∈ P398621 := RS_m hT517477 ht520035 (by decide)
                                            obtain ⟨q520039, q520040, p520041, p520042, he520038, ht520049, ht520043, ht520044, ht520045, ht520046, ht520047, bp520041, bp520042, r520048, r520050, r520051⟩ := show rk_2 γ q520030 (F517476 q520030) from RS_o hT517477 ht520035
                                            refine Gw_callV (As := [.int g519862]) (gV_ok D I) (cp_7737_Code_get l hl0 D I P398621 F517476 q398624 q514720 q520013 g519862 q514721 p514722 p514723 p520011 p520012 f520028 n520027 q520030 q520039 q520040 p520041 p520042 hm514718 hm520009 hm520029 hm520037 he517483 he520010 r520021 he520038 (gB_w bg519862' (by decide) (by decide)) (gB_w bp520012 (by decide) (by decide)) (by omega) (by omega) (by assumption) (by omega)) dr_cX17_findDepth_204 ⟨wr_10_157, wr_1_15, wr_10_137, by decide, rfl, (Nat.le_of_ble_eq_true rfl), (Nat.le_of_ble_eq_true rfl)⟩ wr_10_135 wr_10_136 hm514718 he517483 rfl (show 0 + 0 ≤ 0 by first | omega | decide) (show 0 + 0 ≤ 0 by first | omega | decide) (Nat.le_of_ble_eq_true rfl) (fun r520055 w520056 dc520052 ds520053 hp520054 => ?_) (fun _ _ _ _ _ z => z.elim)
                                            obtain ⟨rfl, rfl, hdc, hds⟩ := hp520054
                                            change G _ _ _ _ _ _ _ (.ref q520030 :: _) _ _ _
                                            refine G_widen (cs' := 0) (sl' := 0) (by omega) (by omega) ?_
                                            have hm520057 : q520040 ∈ P398621 := RS_m hT517477 ht520045 (by decide)
                                            obtain ⟨p520059, p520060, p520061, p520062, p520063, p520064, p520065, he520058, bp520059, bp520060, bp520063, bp520064, bp520065, r520066, r520067, r520068, r520069, r520070⟩ := show rk_1 γ q520040 (F517476 q520040) from RS_o hT517477 ht520045
                                            have bp520061 := gB_any p520061
                                            have bp520062 := gB_any p520062
                                            refine Gw_callV (As := []) (gV_ok D I) (cp_1809_Block_ways l hl0 D I P398621 F517476 q520030 q520040 q520039 p520041 p520042 p520059 p520060 p520061 p520062 p520063 p520064 p520065 hm520037 hm520057 he520038 he520058 bp520041 bp520042 bp520059 bp520060 bp520063 bp520064 bp520065) dr_cX17_findDepth_207 ⟨wr_10_162, wr_1_38, wr_10_165, by decide, rfl, (Nat.le_of_ble_eq_true rfl), (Nat.le_of_ble_eq_true rfl)⟩ wr_10_163 wr_10_164 hm520037 he520038 rfl (show 0 + 0 ≤ 0 by first | omega | decide) (show 0 + 0 ≤ 0 by first | omega | decide) (Nat.le_of_ble_eq_true rfl) (fun r520074 w520075 dc520071 ds520072 hp520073 => ?_) (fun _ _ _ _ _ z => z.elim)
                                            obtain ⟨o520076, rfl, rfl, hdc, hds, bo520076⟩ := hp520073
                                            change G _ _ _ _ _ _ _ (.int o520076 :: _) _ _ _
                                            refine G_widen (cs' := 0) (sl' := 0) (by omega) (by omega) ?_
                                            refine G_icmp_ge 268 dr_cX17_findDepth_210 (by decide +kernel) (fun hc520077 => ?_) (fun hc520077 => ?_)
                                            · have r520078 : o520076.toInt ≤ g520006.toInt := gC_le hc520077
                                              refine G_iload 1 dr_cX17_findDepth_268 rfl ?_
                                              refine G_if_ne 276 dr_cX17_findDepth_270 (by decide +kernel) (fun hc520079 => ?_) (fun hc520079 => ?_)
                                              · have r520080 : g520007.toInt ≠ 0 := gj_neq hc520079 (show Int32.toInt 0 = 0 by decide)
                                                have bg520007' : gB g520007 1 1 := gB_t1 bg520007 r520080
                                                refine G_lload 4 dr_cX17_findDepth_276 rfl ?_
                                                refine G_lconst 1 dr_cX17_findDepth_278 rfl ?_
                                                refine G_iload 2 dr_cX17_findDepth_279 rfl ?_
                                                refine G_lshl dr_cX17_findDepth_281 (G_namL fun u520081 hu520081 => ?_)
                                                have qu520081 : lb_Q u520081 (g519862.toInt % 64 + 1) := lb_Qshl hu520081 (by omega)
                                                refine G_lor dr_cX17_findDepth_282 (G_namL fun u520082 hu520082 => ?_)
                                                have pmu520082 : rpop gl519864 ≤ rpop u520082 := rpop_or hu520082
                                                have pnu520082 : rpop gl519864 + 1 ≤ rpop u520082 := rpop_new hu520082 hu520081 (by omega) (by omega) zhc519879
                                                refine G_lstore (L' := [(7, .long u520082), (12, .int g520006), (11, .int g520007), (10, .int g519862), (9, .int g519863), (5, .long u517578), (4, .int g517475), (2, .long ol514752), (0, .ref q398623), (1, .ref q398624)]) dr_cX17_findDepth_283 (Nat.le_of_ble_eq_true rfl) rfl ?_
                                                refine G_iconst 1 dr_cX17_findDepth_285 (by decide +kernel) ?_
                                                refine G_istore (L' := [(9, .int 1), (7, .long u520082), (12, .int g520006), (11, .int g520007), (10, .int g519862), (5, .long u517578), (4, .int g517475), (2, .long ol514752), (0, .ref q398623), (1, .ref q398624)]) dr_cX17_findDepth_286 (Nat.le_of_ble_eq_true rfl) rfl ?_
                                                obtain ⟨z520083, hz520083⟩ : ∃ z : Int32, z = g519862 + Int32.ofInt 1 := ⟨_, rfl⟩
                                                have ez520083 : z520083.toInt = g519862.toInt + 1 := gI_inc hz520083 (by decide) bg519862' (by decide) (by decide)
                                                have bz520083 : gB z520083 1 1000000 := ⟨by omega, by omega⟩
                                                refine G_iinc (L' := [(10, .int z520083), (9, .int 1), (7, .long u520082), (12, .int g520006), (11, .int g520007), (5, .long u517578), (4, .int g517475), (2, .long ol514752), (0, .ref q398623), (1, .ref q398624)]) z520083 4 dr_cX17_findDepth_288 rfl hz520083.symm (Nat.le_of_ble_eq_true rfl) rfl ?_
                                                refine G_goto 158 dr_cX17_findDepth_291 (by decide +kernel) ?_
                                                refine G_lv (L' := [(10, .int z520083), (9, .int 1), (7, .long u520082), (5, .long u517578), (4, .int g517475), (2, .long ol514752), (0, .ref q398623), (1, .ref q398624)]) [0, 1, 2, 5, 6, 7, 8, 9] rfl ?_
                                                exact ih158_519866 z520083 1 u520082 (gB_w bz520083 (by decide) (by decide)) (gB_w (gBl (show Int32.toInt 1 = 1 by decide)) (by decide) (by decide)) (rpop_le u520082) (by have qa0 : Int32.toInt 1 = 1 := (by decide); omega) (mz_up ez520083 (Int.le_trans bg519862'.2 (by decide)) hm158_519866)
                                              · have r520084 : g520007.toInt = 0 := gj_eq hc520079 (show Int32.toInt 0 = 0 by decide)
                                                have bg520007' : gB g520007 0 0 := gB_t0 r520084
                                                refine G_goto 288 dr_cX17_findDepth_273 (by decide +kernel) ?_
                                                obtain ⟨z520085, hz520085⟩ : ∃ z : Int32, z = g519862 + Int32.ofInt 1 := ⟨_, rfl⟩
                                                have ez520085 : z520085.toInt = g519862.toInt + 1 := gI_inc hz520085 (by decide) bg519862' (by decide) (by decide)
                                                have bz520085 : gB z520085 1 1000000 := ⟨by omega, by omega⟩
                                                refine G_iinc (L' := [(10, .int z520085), (12, .int g520006), (11, .int g520007), (9, .int g519863), (7, .long gl519864), (5, .long u517578), (4, .int g517475), (2, .long ol514752), (0, .ref q398623), (1, .ref q398624)]) z520085 2 dr_cX17_findDepth_288 rfl hz520085.symm (Nat.le_of_ble_eq_true rfl) rfl ?_
                                                refine G_goto 158 dr_cX17_findDepth_291 (by decide +kernel) ?_
                                                refine G_lv (L' := [(10, .int z520085), (9, .int g519863), (7, .long gl519864), (5, .long u517578), (4, .int g517475), (2, .long ol514752), (0, .ref q398623), (1, .ref q398624)]) [0, 3, 4, 5, 6, 7, 8, 9] rfl ?_
                                                exact ih158_519866 z520085 g519863 gl519864 (gB_w bz520085 (by decide) (by decide)) bg519863 (rpop_le gl519864) (by omega) (mz_up ez520085 (Int.le_trans bg519862'.2 (by decide)) hm158_519866)
                                            · have r520086 : g520006.toInt < o520076.toInt := gC_nle hc520077
                                              have bg520006' : gB g520006 0 1 := ⟨by omega, by omega⟩
                                              have bo520076' : gB o520076 1 2 := ⟨by omega, by omega⟩
                                              refine G_iload 1 dr_cX17_findDepth_213 rfl ?_
                                              refine G_if_ne 255 dr_cX17_findDepth_215 (by decide +kernel) (fun hc520087 => ?_) (fun hc520087 => ?_)
                                              · have r520088 : g520007.toInt ≠ 0 := gj_neq hc520087 (show Int32.toInt 0 = 0 by decide)
                                                have bg520007' : gB g520007 1 1 := gB_t1 bg520007 r520088
                                                refine G_iconst 1 dr_cX17_findDepth_255 (by decide +kernel) ?_
                                                refine G_goto 260 dr_cX17_findDepth_256 (by decide +kernel) ?_
                                                refine G_istore (L' := [(11, .int 1), (12, .int g520006), (10, .int g519862), (9, .int g519863), (7, .long gl519864), (5, .long u517578), (4, .int g517475), (2, .long ol514752), (0, .ref q398623), (1, .ref q398624)]) dr_cX17_findDepth_260 (Nat.le_of_ble_eq_true rfl) rfl ?_
                                                obtain ⟨z520089, hz520089⟩ : ∃ z : Int32, z = g520006 + Int32.ofInt 1 := ⟨_, rfl⟩
                                                have ez520089 : z520089.toInt = g520006.toInt + 1 := gI_inc hz520089 (by decide) bg520006' (by decide) (by decide)
                                                have bz520089 : gB z520089 1 2 := ⟨by omega, by omega⟩
                                                refine G_iinc (L' := [(12, .int z520089), (11, .int 1), (10, .int g519862), (9, .int g519863), (7, .long gl519864), (5, .long u517578), (4, .int g517475), (2, .long ol514752), (0, .ref q398623), (1, .ref q398624)]) z520089 1 dr_cX17_findDepth_262 rfl hz520089.symm (Nat.le_of_ble_eq_true rfl) rfl ?_
                                                refine G_goto 199 dr_cX17_findDepth_265 (by decide +kernel) ?_
                                                exact ih199_520007 z520089 1 (gB_w bz520089 (by decide) (by decide)) (gB_w (gBl (show Int32.toInt 1 = 1 by decide)) (by decide) (by decide)) (mz_up ez520089 (Int.le_trans bg520006'.2 (by decide)) hm199_520007)
                                              · have r520090 : g520007.toInt = 0 := gj_eq hc520087 (show Int32.toInt 0 = 0 by decide)
                                                have bg520007' : gB g520007 0 0 := gB_t0 r520090
                                                refine G_aload_n 9 dr_cX17_findDepth_218 rfl ?_
                                                refine G_iload 2 dr_cX17_findDepth_219 rfl ?_
                                                refine Gw_callV (As := [.int g519862]) (gV_ok D I) (cp_7737_Code_get l hl0 D I P398621 F517476 q398624 q514720 q520013 g519862 q514721 p514722 p514723 p520011 p520012 f520028 n520027 q520030 q520039 q520040 p520041 p520042 hm514718 hm520009 hm520029 hm520037 he517483 he520010 r520021 he520038 (gB_w bg519862' (by decide) (by decide)) (gB_w bp520012 (by decide) (by decide)) (by omega) (by omega) (by assumption) (by omega)) dr_cX17_findDepth_221 ⟨wr_10_157, wr_1_15, wr_10_137, by decide, rfl, (Nat.le_of_ble_eq_true rfl), (Nat.le_of_ble_eq_true rfl)⟩ wr_10_135 wr_10_136 hm514718 he517483 rfl (show 0 + 0 ≤ 0 by first | omega | decide) (show 0 + 0 ≤ 0 by first | omega | decide) (Nat.le_of_ble_eq_true rfl) (fun r520094 w520095 dc520091 ds520092 hp520093 => ?_) (fun _ _ _ _ _ z => z.elim)
                                                obtain ⟨rfl, rfl, hdc, hds⟩ := hp520093
                                                change G _ _ _ _ _ _ _ (.ref q520030 :: _) _ _ _
                                                refine G_widen (cs' := 0) (sl' := 0) (by omega) (by omega) ?_
                                                refine G_iload 0 dr_cX17_findDepth_224 rfl ?_
                                                refine Gw_callV (As := [.int g520006]) (gV_ok D I) (cp_5050_Block_way l hl0 D I P398621 F517476 q520030 q520040 g520006 q520039 p520041 p520042 p520059 p520060 p520061 p520062 p520063 p520064 p520065 hm520037 hm520057 he520038 he520058 bp520041 bp520042 bp520059 bp520060 bp520063 bp520064 bp520065) dr_cX17_findDepth_226 ⟨wr_10_166, wr_1_38, wr_10_169, by decide, rfl, (Nat.le_of_ble_eq_true rfl), (Nat.le_of_ble_eq_true rfl)⟩ wr_10_167 wr_10_168 hm520037 he520038 rfl (show 0 + 0 ≤ 0 by first | omega | decide) (show 0 + 0 ≤ 0 by first | omega | decide) (Nat.le_of_ble_eq_true rfl) (fun r520099 w520100 dc520096 ds520097 hp520098 => ?_) (fun _ _ _ _ _ z => z.elim)
                                                obtain ⟨o520101, rfl, rfl, hdc, hds, bo520101⟩ := hp520098
                                                change G _ _ _ _ _ _ _ (.int o520101 :: _) _ _ _
                                                refine G_widen (cs' := 0) (sl' := 0) (by omega) (by omega) ?_
                                                refine G_iload 6 dr_cX17_findDepth_229 rfl ?_
                                                refine G_icmp_eq 259 dr_cX17_findDepth_231 (by decide +kernel) (fun hc520102 => ?_) (fun hc520102 => ?_)
                                                · have r520103 : o520101.toInt = g517475.toInt := gC_eq hc520102
                                                  have bg517475'' : gB g517475 0 39 := ⟨by omega, by omega⟩
                                                  refine G_iconst 0 dr_cX17_findDepth_259 (by decide +kernel) ?_
                                                  refine G_istore (L' := [(11, .int 0), (12, .int g520006), (10, .int g519862), (9, .int g519863), (7, .long gl519864), (5, .long u517578), (4, .int g517475), (2, .long ol514752), (0, .ref q398623), (1, .ref q398624)]) dr_cX17_findDepth_260 (Nat.le_of_ble_eq_true rfl) rfl ?_
                                                  obtain ⟨z520104, hz520104⟩ : ∃ z : Int32, z = g520006 + Int32.ofInt 1 := ⟨_, rfl⟩
                                                  have ez520104 : z520104.toInt = g520006.toInt + 1 := gI_inc hz520104 (by decide) bg520006' (by decide) (by decide)
                                                  have bz520104 : gB z520104 1 2 := ⟨by omega, by omega⟩
                                                  refine G_iinc (L' := [(12, .int z520104), (11, .int 0), (10, .int g519862), (9, .int g519863), (7, .long gl519864), (5, .long u517578), (4, .int g517475), (2, .long ol514752), (0, .ref q398623), (1, .ref q398624)]) z520104 1 dr_cX17_findDepth_262 rfl hz520104.symm (Nat.le_of_ble_eq_true rfl) rfl ?_
                                                  refine G_goto 199 dr_cX17_findDepth_265 (by decide +kernel) ?_
                                                  exact ih199_520007 z520104 0 (gB_w bz520104 (by decide) (by decide)) (gB_w (gBl (show Int32.toInt 0 = 0 by decide)) (by decide) (by decide)) (mz_up ez520104 (Int.le_trans bg520006'.2 (by decide)) hm199_520007)
                                                · have r520105 : o520101.toInt ≠ g517475.toInt := gC_ne hc520102
                                                  refine G_lload 4 dr_cX17_findDepth_234 rfl ?_
                                                  refine G_aload_n 9 dr_cX17_findDepth_236 rfl ?_
                                                  refine G_iload 2 dr_cX17_findDepth_237 rfl ?_
                                                  refine Gw_callV (As := [.int g519862]) (gV_ok D I) (cp_7737_Code_get l hl0 D I P398621 F517476 q398624 q514720 q520013 g519862 q514721 p514722 p514723 p520011 p520012 f520028 n520027 q520030 q520039 q520040 p520041 p520042 hm514718 hm520009 hm520029 hm520037 he517483 he520010 r520021 he520038 (gB_w bg519862' (by decide) (by decide)) (gB_w bp520012 (by decide) (by decide)) (by omega) (by omega) (by assumption) (by omega)) dr_cX17_findDepth_239 ⟨wr_10_157, wr_1_15, wr_10_137, by decide, rfl, (Nat.le_of_ble_eq_true rfl), (Nat.le_of_ble_eq_true rfl)⟩ wr_10_135 wr_10_136 hm514718 he517483 rfl (show 0 + 0 ≤ 0 by first | omega | decide) (show 0 + 0 ≤ 0 by first | omega | decide) (Nat.le_of_ble_eq_true rfl) (fun r520109 w520110 dc520106 ds520107 hp520108 => ?_) (fun _ _ _ _ _ z => z.elim)
                                                  obtain ⟨rfl, rfl, hdc, hds⟩ := hp520108
                                                  change G _ _ _ _ _ _ _ (.ref q520030 :: _) _ _ _
                                                  refine G_widen (cs' := 0) (sl' := 0) (by omega) (by omega) ?_
                                                  refine G_iload 0 dr_cX17_findDepth_242 rfl ?_
                                                  refine Gw_callV (As := [.int g520006]) (gV_ok D I) (cp_5050_Block_way l hl0 D I P398621 F517476 q520030 q520040 g520006 q520039 p520041 p520042 p520059 p520060 p520061 p520062 p520063 p520064 p520065 hm520037 hm520057 he520038 he520058 bp520041 bp520042 bp520059 bp520060 bp520063 bp520064 bp520065) dr_cX17_findDepth_244 ⟨wr_10_166, wr_1_38, wr_10_169, by decide, rfl, (Nat.le_of_ble_eq_true rfl), (Nat.le_of_ble_eq_true rfl)⟩ wr_10_167 wr_10_168 hm520037 he520038 rfl (show 0 + 0 ≤ 0 by first | omega | decide) (show 0 + 0 ≤ 0 by first | omega | decide) (Nat.le_of_ble_eq_true rfl) (fun r520114 w520115 dc520111 ds520112 hp520113 => ?_) (fun _ _ _ _ _ z => z.elim)
                                                  obtain ⟨o520116, rfl, rfl, hdc, hds, bo520116⟩ := hp520113
                                                  change G _ _ _ _ _ _ _ (.int o520116 :: _) _ _ _
                                                  refine G_widen (cs' := 0) (sl' := 0) (by omega) (by omega) ?_
                                                  refine G_lushr dr_cX17_findDepth_247 (G_namL fun u520117 hu520117 => ?_)
                                                  refine G_lconst 1 dr_cX17_findDepth_248 rfl ?_
                                                  refine G_land dr_cX17_findDepth_249 (G_namL fun u520118 hu520118 => ?_)
                                                  refine G_lconst 0 dr_cX17_findDepth_250 rfl ?_
                                                  refine G_lcmp dr_cX17_findDepth_251 (G_nam fun z520119 hz520119 => ?_)
                                                  have bz520119 : gB z520119 (-1) 1 := gB_cmp hz520119
                                                  refine G_if_eq 259 dr_cX17_findDepth_252 (by decide +kernel) (fun hc520120 => ?_) (fun hc520120 => ?_)
                                                  · have r520121 : z520119.toInt = 0 := gj_eq hc520120 (show Int32.toInt 0 = 0 by decide)
                                                    have bz520119' : gB z520119 0 0 := ⟨by omega, by omega⟩
                                                    have lhc520120 := gC_cmpE hz520119 hc520120
                                                    have zhc520120 := rbit_0 hu520117 hu520118 lhc520120 (by omega) (by omega)
                                                    refine G_iconst 0 dr_cX17_findDepth_259 (by decide +kernel) ?_
                                                    refine G_istore (L' := [(11, .int 0), (12, .int g520006), (10, .int g519862), (9, .int g519863), (7, .long gl519864), (5, .long u517578), (4, .int g517475), (2, .long ol514752), (0, .ref q398623), (1, .ref q398624)]) dr_cX17_findDepth_260 (Nat.le_of_ble_eq_true rfl) rfl ?_
                                                    obtain ⟨z520122, hz520122⟩ : ∃ z : Int32, z = g520006 + Int32.ofInt 1 := ⟨_, rfl⟩
                                                    have ez520122 : z520122.toInt = g520006.toInt + 1 := gI_inc hz520122 (by decide) bg520006' (by decide) (by decide)
                                                    have bz520122 : gB z520122 1 2 := ⟨by omega, by omega⟩
                                                    refine G_iinc (L' := [(12, .int z520122), (11, .int 0), (10, .int g519862), (9, .int g519863), (7, .long gl519864), (5, .long u517578), (4, .int g517475), (2, .long ol514752), (0, .ref q398623), (1, .ref q398624)]) z520122 1 dr_cX17_findDepth_262 rfl hz520122.symm (Nat.le_of_ble_eq_true rfl) rfl ?_
                                                    refine G_goto 199 dr_cX17_findDepth_265 (by decide +kernel) ?_
                                                    exact ih199_520007 z520122 0 (gB_w bz520122 (by decide) (by decide)) (gB_w (gBl (show Int32.toInt 0 = 0 by decide)) (by decide) (by decide)) (mz_up ez520122 (Int.le_trans bg520006'.2 (by decide)) hm199_520007)
                                                  · have r520123 : z520119.toInt ≠ 0 := gj_neq hc520120 (show Int32.toInt 0 = 0 by decide)
                                                    have lhc520120 := gC_cmpN hz520119 hc520120
                                                    refine G_iconst 1 dr_cX17_findDepth_255 (by decide +kernel) ?_
                                                    refine G_goto 260 dr_cX17_findDepth_256 (by decide +kernel) ?_
                                                    refine G_istore (L' := [(11, .int 1), (12, .int g520006), (10, .int g519862), (9, .int g519863), (7, .long gl519864), (5, .long u517578), (4, .int g517475), (2, .long ol514752), (0, .ref q398623), (1, .ref q398624)]) dr_cX17_findDepth_260 (Nat.le_of_ble_eq_true rfl) rfl ?_
                                                    obtain ⟨z520124, hz520124⟩ : ∃ z : Int32, z = g520006 + Int32.ofInt 1 := ⟨_, rfl⟩
                                                    have ez520124 : z520124.toInt = g520006.toInt + 1 := gI_inc hz520124 (by decide) bg520006' (by decide) (by decide)
                                                    have bz520124 : gB z520124 1 2 := ⟨by omega, by omega⟩
                                                    refine G_iinc (L' := [(12, .int z520124), (11, .int 1), (10, .int g519862), (9, .int g519863), (7, .long gl519864), (5, .long u517578), (4, .int g517475), (2, .long ol514752), (0, .ref q398623), (1, .ref q398624)]) z520124 1 dr_cX17_findDepth_262 rfl hz520124.symm (Nat.le_of_ble_eq_true rfl) rfl ?_
                                                    refine G_goto 199 dr_cX17_findDepth_265 (by decide +kernel) ?_
                                                    exact ih199_520007 z520124 1 (gB_w bz520124 (by decide) (by decide)) (gB_w (gBl (show Int32.toInt 1 = 1 by decide)) (by decide) (by decide)) (mz_up ez520124 (Int.le_trans bg520006'.2 (by decide)) hm199_520007)
                                        exact hlp199_520007 (((3 : Int) - 0).toNat + 1) 0 0 (gB_w (gBl (show Int32.toInt 0 = 0 by decide)) (by decide) (by decide)) (gB_w (gBl (show Int32.toInt 0 = 0 by decide)) (by decide) (by decide)) (Nat.lt_succ_self _)
                                      · have r520125 : z519885.toInt = 0 := gj_eq hc519886 (show Int32.toInt 0 = 0 by decide)
                                        have bz519885' : gB z519885 0 0 := ⟨by omega, by omega⟩
                                        have lhc519886 := gC_cmpE hz519885 hc519886
                                        refine G_goto 288 dr_cX17_findDepth_190 (by decide +kernel) ?_
                                        obtain ⟨z520126, hz520126⟩ : ∃ z : Int32, z = g519862 + Int32.ofInt 1 := ⟨_, rfl⟩
                                        have ez520126 : z520126.toInt = g519862.toInt + 1 := gI_inc hz520126 (by decide) bg519862' (by decide) (by decide)
                                        have bz520126 : gB z520126 1 1000000 := ⟨by omega, by omega⟩
                                        refine G_iinc (L' := [(10, .int z520126), (9, .int g519863), (7, .long gl519864), (5, .long u517578), (4, .int g517475), (2, .long ol514752), (0, .ref q398623), (1, .ref q398624)]) z520126 0 dr_cX17_findDepth_288 rfl hz520126.symm (Nat.le_of_ble_eq_true rfl) rfl ?_
                                        refine G_goto 158 dr_cX17_findDepth_291 (by decide +kernel) ?_
                                        exact ih158_519866 z520126 g519863 gl519864 (gB_w bz520126 (by decide) (by decide)) bg519863 (rpop_le gl519864) (by omega) (mz_up ez520126 (Int.le_trans bg519862'.2 (by decide)) hm158_519866)
                              exact hlp158_519866 (((1000001 : Int) - 0).toNat + 1) 0 0 gl519515 (gB_w (gBl (show Int32.toInt 0 = 0 by decide)) (by decide) (by decide)) (gB_w (gBl (show Int32.toInt 0 = 0 by decide)) (by decide) (by decide)) (rpop_le gl519515) (by have qa0 : Int32.toInt 0 = 0 := (by decide); omega) (Nat.lt_succ_self _)
                        exact hlp147_519516 ((64 - rpop u518902) + ((1 : Int)).toNat + 1) 1 u518902 (gB_w (gBl (show Int32.toInt 1 = 1 by decide)) (by decide) (by decide)) (rpop_le u518902) (Nat.lt_succ_self _)
                      · have r520127 : z518898.toInt = 0 := gj_eq hc518899 (show Int32.toInt 0 = 0 by decide)
                        have bz518898' : gB z518898 0 0 := ⟨by omega, by omega⟩
                        have lhc518899 := gC_cmpE hz518898 hc518899
                        refine G_goto 333 dr_cX17_findDepth_132 (by decide +kernel) ?_
                        obtain ⟨z520128, hz520128⟩ : ∃ z : Int32, z = g517475 + Int32.ofInt 1 := ⟨_, rfl⟩
                        have ez520128 : z520128.toInt = g517475.toInt + 1 := gI_inc hz520128 (by decide) bg517475' (by decide) (by decide)
                        have bz520128 : gB z520128 1 1000000 := ⟨by omega, by omega⟩
                        refine G_iinc (L' := [(4, .int z520128), (9, .int g518888), (7, .long gl518889), (5, .long u517578), (2, .long ol514752), (0, .ref q398623), (1, .ref q398624)]) z520128 3 dr_cX17_findDepth_333 rfl hz520128.symm (Nat.le_of_ble_eq_true rfl) rfl ?_
                        refine G_goto 32 dr_cX17_findDepth_336 (by decide +kernel) ?_
                        refine G_lv (L' := [(4, .int z520128), (2, .long ol514752), (0, .ref q398623), (1, .ref q398624)]) [0, 4, 5, 6] rfl ?_
                        exact ih32_517480 F517476 z520128 (gB_w bz520128 (by decide) (by decide)) hT517477 hs517478 x517479 x517480 (mz_up ez520128 (Int.le_trans bg517475'.2 (by decide)) hm32_517480)
                    · have r520129 : g518888.toInt < p514723.toInt := gC_nle hc518896
                      have bg518888' : gB g518888 0 999999 := ⟨by omega, by omega⟩
                      refine G_lload 2 dr_cX17_findDepth_84 rfl ?_
                      refine G_iload 0 dr_cX17_findDepth_86 rfl ?_
                      refine G_lushr dr_cX17_findDepth_88 (G_namL fun u520130 hu520130 => ?_)
                      refine G_lconst 1 dr_cX17_findDepth_89 rfl ?_
                      refine G_land dr_cX17_findDepth_90 (G_namL fun u520131 hu520131 => ?_)
                      refine G_lconst 0 dr_cX17_findDepth_91 rfl ?_
                      refine G_lcmp dr_cX17_findDepth_92 (G_nam fun z520132 hz520132 => ?_)
                      have bz520132 : gB z520132 (-1) 1 := gB_cmp hz520132
                      refine G_if_eq 119 dr_cX17_findDepth_93 (by decide +kernel) (fun hc520133 => ?_) (fun hc520133 => ?_)
                      · have r520134 : z520132.toInt = 0 := gj_eq hc520133 (show Int32.toInt 0 = 0 by decide)
                        have bz520132' : gB z520132 0 0 := ⟨by omega, by omega⟩
                        have lhc520133 := gC_cmpE hz520132 hc520133
                        obtain ⟨z520135, hz520135⟩ : ∃ z : Int32, z = g518888 + Int32.ofInt 1 := ⟨_, rfl⟩
                        have ez520135 : z520135.toInt = g518888.toInt + 1 := gI_inc hz520135 (by decide) bg518888' (by decide) (by decide)
                        have bz520135 : gB z520135 1 1000000 := ⟨by omega, by omega⟩
                        refine G_iinc (L' := [(9, .int z520135), (7, .long gl518889), (5, .long u517578), (4, .int g517475), (2, .long ol514752), (0, .ref q398623), (1, .ref q398624)]) z520135 0 dr_cX17_findDepth_119 rfl hz520135.symm (Nat.le_of_ble_eq_true rfl) rfl ?_
                        refine G_goto 75 dr_cX17_findDepth_122 (by decide +kernel) ?_
                        exact ih75_518889 z520135 gl518889 (gB_w bz520135 (by decide) (by decide)) (mz_up ez520135 (Int.le_trans bg518888'.2 (by decide)) hm75_518889)
                      · have r520136 : z520132.toInt ≠ 0 := gj_neq hc520133 (show Int32.toInt 0 = 0 by decide)
                        have lhc520133 := gC_cmpN hz520132 hc520133
                        refine G_aload_n 6 dr_cX17_findDepth_96 rfl ?_
                        refine G_iload 0 dr_cX17_findDepth_97 rfl ?_
                        have hm520137 : q514720 ∈ P398621 := RS_m hT517477 ht514724 (by decide)
                        obtain ⟨⟨p520139, p520140, q520141, he520138, r520142, r520143, r520144, r520146⟩, r520145⟩ := show rk_4 D I γ el F517476 q514720 from RS_o hT517477 ht514724
                        have bp520139 := gB_any p520139
                        have bp520140 : gB p520140 0 1000000 := ⟨by omega, by omega⟩
                        obtain ⟨r520147, r520148, n520155, f520156, r520149, r520150, r520151, r520152, r520153, r520154⟩ := rLC_n r520144 (by omega)
                        have hm520157 : q520141 ∈ P398621 := RS_m hT517477 r520147 (by decide)
                        obtain ⟨q520158, hx520159⟩ : ∃ x, x = el q514720 g518888.toInt.toNat := ⟨_, rfl⟩
                        have hx520160 : f520156 g518888.toNatClampNeg = some q520158 := (r520153 _ (show g518888.toInt.toNat < γ 2 q514720 by omega)).trans (by rw [hx520159])
                        have ht520163 : rKd γ q520158 2 := by rw [hx520159]; exact (r514735 _ (by omega)).resolve_right (fun z => absurd z.1 (by omega))
                        have ht520164 : rFm γ q520158 q514720 := by rw [hx520159]; exact (r520145 _ (show g518888.toInt.toNat < γ 2 q514720 by omega)).2.1
                        have hm520165 : q520158 ∈ P398621 := RS_m hT517477 ht520163 (by decide)
                        obtain ⟨q520167, q520168, p520169, p520170, he520166, ht520177, ht520171, ht520172, ht520173, ht520174, ht520175, bp520169, bp520170, r520176, r520178, r520179⟩ := show rk_2 γ q520158 (F517476 q520158) from RS_o hT517477 ht520163
                        refine Gw_callV (As := [.int g518888]) (gV_ok D I) (cp_7737_Code_get l hl0 D I P398621 F517476 q398624 q514720 q520141 g518888 q514721 p514722 p514723 p520139 p520140 f520156 n520155 q520158 q520167 q520168 p520169 p520170 hm514718 hm520137 hm520157 hm520165 he517483 he520138 r520149 he520166 (gB_w bg518888' (by decide) (by decide)) (gB_w bp520140 (by decide) (by decide)) (by omega) (by omega) (by assumption) (by omega)) dr_cX17_findDepth_99 ⟨wr_10_157, wr_1_15, wr_10_137, by decide, rfl, (Nat.le_of_ble_eq_true rfl), (Nat.le_of_ble_eq_true rfl)⟩ wr_10_135 wr_10_136 hm514718 he517483 rfl (show 0 + 0 ≤ 0 by first | omega | decide) (show 0 + 0 ≤ 0 by first | omega | decide) (Nat.le_of_ble_eq_true rfl) (fun r520183 w520184 dc520180 ds520181 hp520182 => ?_) (fun _ _ _ _ _ z => z.elim)
                        obtain ⟨rfl, rfl, hdc, hds⟩ := hp520182
                        change G _ _ _ _ _ _ _ (.ref q520158 :: _) _ _ _
                        refine G_widen (cs' := 0) (sl' := 0) (by omega) (by omega) ?_
                        refine G_iload 3 dr_cX17_findDepth_102 rfl ?_
                        refine Gw_callS (As := [.ref q520158, .int g517475]) (gV_ok D I) (ct_7444_SpillForgeModel_leads l hl0 D I γ el P398621 F517476 q520158 g517475 hT517477 ht520163) dr_cX17_findDepth_104 ⟨wr_11_40, wr_1_14, wr_11_42, by decide, rfl, (Nat.le_of_ble_eq_true rfl), (Nat.le_of_ble_eq_true rfl)⟩ wr_11_41 (show 0 + 0 ≤ 0 by first | omega | decide) (show 0 + 0 ≤ 0 by first | omega | decide) (Nat.le_of_ble_eq_true rfl) (fun r520188 w520189 dc520185 ds520186 hp520187 => ?_) (fun _ _ _ _ _ z => z.elim)
                        obtain ⟨o520190, rfl, rfl, hdc, hds, bo520190⟩ := hp520187
                        change G _ _ _ _ _ _ _ (.int o520190 :: _) _ _ _
                        refine G_widen (cs' := 0) (sl' := 0) (by omega) (by omega) ?_
                        refine G_if_eq 119 dr_cX17_findDepth_107 (by decide +kernel) (fun hc520191 => ?_) (fun hc520191 => ?_)
                        · have r520192 : o520190.toInt = 0 := gj_eq hc520191 (show Int32.toInt 0 = 0 by decide)
                          have bo520190' : gB o520190 0 0 := gB_t0 r520192
                          obtain ⟨z520193, hz520193⟩ : ∃ z : Int32, z = g518888 + Int32.ofInt 1 := ⟨_, rfl⟩
                          have ez520193 : z520193.toInt = g518888.toInt + 1 := gI_inc hz520193 (by decide) bg518888' (by decide) (by decide)
                          have bz520193 : gB z520193 1 1000000 := ⟨by omega, by omega⟩
                          refine G_iinc (L' := [(9, .int z520193), (7, .long gl518889), (5, .long u517578), (4, .int g517475), (2, .long ol514752), (0, .ref q398623), (1, .ref q398624)]) z520193 0 dr_cX17_findDepth_119 rfl hz520193.symm (Nat.le_of_ble_eq_true rfl) rfl ?_
                          refine G_goto 75 dr_cX17_findDepth_122 (by decide +kernel) ?_
                          exact ih75_518889 z520193 gl518889 (gB_w bz520193 (by decide) (by decide)) (mz_up ez520193 (Int.le_trans bg518888'.2 (by decide)) hm75_518889)
                        · have r520194 : o520190.toInt ≠ 0 := gj_neq hc520191 (show Int32.toInt 0 = 0 by decide)
                          have bo520190' : gB o520190 1 1 := gB_t1 bo520190 r520194
                          refine G_lload 1 dr_cX17_findDepth_110 rfl ?_
                          refine G_lconst 1 dr_cX17_findDepth_112 rfl ?_
                          refine G_iload 0 dr_cX17_findDepth_113 rfl ?_
                          refine G_lshl dr_cX17_findDepth_115 (G_namL fun u520195 hu520195 => ?_)
                          have qu520195 : lb_Q u520195 (g518888.toInt % 64 + 1) := lb_Qshl hu520195 (by omega)
                          refine G_lor dr_cX17_findDepth_116 (G_namL fun u520196 hu520196 => ?_)
                          have pmu520196 : rpop gl518889 ≤ rpop u520196 := rpop_or hu520196
                          refine G_lstore (L' := [(7, .long u520196), (9, .int g518888), (5, .long u517578), (4, .int g517475), (2, .long ol514752), (0, .ref q398623), (1, .ref q398624)]) dr_cX17_findDepth_117 (Nat.le_of_ble_eq_true rfl) rfl ?_
                          obtain ⟨z520197, hz520197⟩ : ∃ z : Int32, z = g518888 + Int32.ofInt 1 := ⟨_, rfl⟩
                          have ez520197 : z520197.toInt = g518888.toInt + 1 := gI_inc hz520197 (by decide) bg518888' (by decide) (by decide)
                          have bz520197 : gB z520197 1 1000000 := ⟨by omega, by omega⟩
                          refine G_iinc (L' := [(9, .int z520197), (7, .long u520196), (5, .long u517578), (4, .int g517475), (2, .long ol514752), (0, .ref q398623), (1, .ref q398624)]) z520197 1 dr_cX17_findDepth_119 rfl hz520197.symm (Nat.le_of_ble_eq_true rfl) rfl ?_
                          refine G_goto 75 dr_cX17_findDepth_122 (by decide +kernel) ?_
                          exact ih75_518889 z520197 u520196 (gB_w bz520197 (by decide) (by decide)) (mz_up ez520197 (Int.le_trans bg518888'.2 (by decide)) hm75_518889)
                exact hlp75_518889 (((1000001 : Int) - 0).toNat + 1) 0 0 (gB_w (gBl (show Int32.toInt 0 = 0 by decide)) (by decide) (by decide)) (Nat.lt_succ_self _)
              · have r520198 : z517568.toInt = 0 := gj_eq hc517569 (show Int32.toInt 0 = 0 by decide)
                have bz517568' : gB z517568 0 0 := ⟨by omega, by omega⟩
                have lhc517569 := gC_cmpE hz517568 hc517569
                refine G_goto 333 dr_cX17_findDepth_52 (by decide +kernel) ?_
                obtain ⟨z520199, hz520199⟩ : ∃ z : Int32, z = g517475 + Int32.ofInt 1 := ⟨_, rfl⟩
                have ez520199 : z520199.toInt = g517475.toInt + 1 := gI_inc hz520199 (by decide) bg517475' (by decide) (by decide)
                have bz520199 : gB z520199 1 1000000 := ⟨by omega, by omega⟩
                refine G_iinc (L' := [(4, .int z520199), (2, .long ol514752), (0, .ref q398623), (1, .ref q398624)]) z520199 0 dr_cX17_findDepth_333 rfl hz520199.symm (Nat.le_of_ble_eq_true rfl) rfl ?_
                refine G_goto 32 dr_cX17_findDepth_336 (by decide +kernel) ?_
                exact ih32_517480 F517476 z520199 (gB_w bz520199 (by decide) (by decide)) hT517477 hs517478 x517479 x517480 (mz_up ez520199 (Int.le_trans bg517475'.2 (by decide)) hm32_517480)
        exact hlp32_517480 (((1000001 : Int) - 0).toNat + 1) F514708 0 (gB_w (gBl (show Int32.toInt 0 = 0 by decide)) (by decide) (by decide)) hT514709 hs514710 x514711 x514712 (Nat.lt_succ_self _)
      · have r520200 : g514707.toInt < p514723.toInt := gC_nle hc514745
        have bg514707' : gB g514707 0 999999 := ⟨by omega, by omega⟩
        have bp514723' : gB p514723 1 1000000 := ⟨by omega, by omega⟩
        refine G_aload_n 1 dr_cX17_findDepth_10 rfl ?_
        refine Gp_get 4 hm514717 he514716 dr_cX17_findDepth_11 (gk_X17 D I) (Nat.le_of_ble_eq_true rfl) wr_7_78 rfl ?_
        refine G_iload_n 0 dr_cX17_findDepth_14 rfl ?_
        refine G_iconst 0 dr_cX17_findDepth_15 (by decide +kernel) ?_
        have hm520201 : (γ 9 4) ∈ P398621 := RS_m hT514709 ht398652 (by decide)
        obtain ⟨f520203, he520202⟩ := show rk_16 I (F514708 (γ 9 4)) from RS_o hT514709 ht398652
        refine Gp_iast 0 hm520201 he520202 dr_cX17_findDepth_16 rfl (gB_inr (by omega) (by omega)) (fun F520204 e520205 n520206 => ?_)
        obtain ⟨f520207, hf520207⟩ : ∃ z, z = upd f520203 g514707.toNatClampNeg 0 := ⟨_, rfl⟩
        rw [← hf520207] at e520205
        have he520208 : F520204 q398623 = .inr (22, [.ref (γ 9 0), .ref (γ 9 1), .ref (γ 9 2), .ref (γ 9 3), .ref (γ 9 4), .ref (γ 9 5), .ref (γ 9 6), .ref (γ 9 7), .ref (γ 9 8), .int p398631, .int p398632, .int p398633, .int p398634, .int p398635, .int p398636, .ref (γ 9 15), .ref (γ 9 16), .ref (γ 9 17), .ref (γ 9 18), .ref (γ 9 19), .ref (γ 9 20), .ref (γ 9 21), .ref (γ 9 22), .int p398637, .int p398638, .int p398639, .int p398640, .int p398641, .ref q398629, .ref (γ 9 29), .int p398642, .ref (γ 9 31), .int p398643, .int p398644, .int p398645, .ref q398630]) := (n520206 q398623 (rn_oa he514716 he520202)).trans he514716
        have he520209 : F520204 q398624 = .inr (18, [.ref q514720, .ref q514721, .int p514722, .int p514723]) := (n520206 q398624 (rn_oa he514719 he520202)).trans he514719
        have he520210 : F520204 (γ 9 4) = .inl (I .int, 40, .inl f520207) := e520205
        have hs520211 : rStr γ [] F398622 F520204 := rStr_put hs514710 n520206 ht398652 (by decide)
        have kp520212 : F520204 q398623 = F398622 q398623 := (n520206 q398623 (rn_ty htq398623 ht398652 (by decide))).trans x514711
        have kp520213 : F520204 (γ 9 3) = F398622 (γ 9 3) := (n520206 (γ 9 3) (rn_ty ht398651 ht398652 (by decide))).trans x514712
        obtain ⟨z520214, hz520214⟩ : ∃ z : Int32, z = g514707 + Int32.ofInt 1 := ⟨_, rfl⟩
        have ez520214 : z520214.toInt = g514707.toInt + 1 := gI_inc hz520214 (by decide) bg514707' (by decide) (by decide)
        have bz520214 : gB z520214 1 1000000 := ⟨by omega, by omega⟩
        refine G_iinc (L' := [(2, .int z520214), (0, .ref q398623), (1, .ref q398624)]) z520214 0 dr_cX17_findDepth_17 rfl hz520214.symm (Nat.le_of_ble_eq_true rfl) rfl ?_
        refine G_goto 2 dr_cX17_findDepth_20 (by decide +kernel) ?_
        have hT520215 : RS D I P398621 F520204 γ el := RS_set hT514709 n520206 ht398652 (by decide) ⟨f520207, he520210⟩
        exact ih2_514712 F520204 z520214 (gB_w bz520214 (by decide) (by decide)) hT520215 hs520211 kp520212 kp520213 (mz_up ez520214 (Int.le_trans bg514707'.2 (by decide)) hm2_514712)
  exact hlp2_514712 (((1000001 : Int) - 0).toNat + 1) F398622 0 (gB_w (gBl (show Int32.toInt 0 = 0 by decide)) (by decide) (by decide)) hT (rStr_rf (γ := γ) (W := []) (F := F398622)) rfl rfl (Nat.lt_succ_self _)
