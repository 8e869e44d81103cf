abbrev ky_398209_SpillForgeModel_load : gKey := (cX17_load, 6, "SpillForgeModel", (some FieldType.int), [], "load", fun _ _ => True)
def pg_398209_SpillForgeModel_load (D : va_G) (I : FieldType → ClassId) (γ0 el0 : Nat → Nat → Nat) (f : Nat) (B : Nat) (P398196 : List Nat) (F398197 : Nat → va_E) (q398198 : Nat) (q398199 : Nat) (q398200 : Nat) (p398201 : Int32) (p398202 : Int32) (jx398203 : Nat) : Option Value → va_W → Nat → Nat → Prop := fun r w dc ds => ∃ (P398559 : List Nat) (F398560 : Nat → va_E) (γ el : Nat → Nat → Nat) (o398558 : Int32), r = some (.int o398558) ∧ w = va_pl P398559 F398560 ∧ rSk f [101] ([3, 5, 6, 8, 9, 10, 101]) D I P398196 F398197 γ0 el0 P398559 F398560 γ el ∧ (18 * dc + rPh γ0 el0 f ≤ rPh γ el f ∧ ds + rPh γ0 el0 f ≤ rPh γ el f) ∧ rBd γ el f B ∧ gB o398558 (-1) 1999 ∧ γ 6 f = γ0 6 f ∧ γ 7 f = γ0 7 f ∧ γ 18 f = γ0 18 f ∧ (γ 14 q398200 = γ0 14 q398200 ∧ jx398203 < γ 2 (γ 14 q398199) ∧ el (γ 14 q398199) jx398203 = q398200) ∧ (o398558.toInt < 0 ∨ (o398558.toInt = (fI (F398197 q398198) 14).toInt ∧ o398558.toInt < 2000 ∧ (fI (F398560 q398198) 14).toInt = o398558.toInt + 1 ∧ γ 16 f = γ0 16 f + 1 ∧ γ 2 (γ 14 q398200) = γ0 2 (γ0 14 q398200) + 1)) ∧ (fI (F398560 q398198) 11).toInt = (fI (F398197 q398198) 11).toInt ∧ (o398558.toInt < 0 ∨ rInsP γ0 el0 F398197 γ el F398560 q398199 f jx398203 (p398201.toInt : Int).toNat (o398558.toInt : Int).toNat) ∧ (o398558.toInt < 0 ∨ ∀ j : Nat, (p398201.toInt : Int).toNat ≤ j → rAt γ el q398199 jx398203 (j + 1) = rAt γ0 el0 q398199 jx398203 j) ∧ mKp (F398197 q398198) (F398560 q398198)
set_option maxRecDepth 100000 in
set_option maxHeartbeats 1500000 in
theorem cg_398209_SpillForgeModel_load (l : Launch) (hl0 : l.stackTraces = false) (D : va_G) (I : FieldType → ClassId) (γ0 el0 : Nat → Nat → Nat) (f : Nat) (B : Nat) (P398196 : List Nat) (F398197 : Nat → va_E) (q398198 : Nat) (q398199 : Nat) (q398200 : Nat) (p398201 : Int32) (p398202 : Int32) (jx398203 : Nat) (hT0 : RS D I P398196 F398197 γ0 el0) (hzq398198 : rKd γ0 q398198 10) (hzq398199 : rKd γ0 q398199 9) (hzq398200 : rKd γ0 q398200 2) (hf0 : γ0 1 q398199 = f) (hB0 : rBd γ0 el0 f B) (hBk : B ≤ 100000) (hqjjx398203 : jx398203 < γ0 2 (γ0 14 q398199)) (hqejx398203 : el0 (γ0 14 q398199) jx398203 = q398200) (hqfjx398203 : γ0 1 q398200 = f) (bp398201 : gB p398201 0 1000000) (bp398202 : gB p398202 0 1999) (x398204 : p398201.toInt ≤ γ0 2 (γ0 14 q398200)) (x398205 : p398202.toInt < γ0 7 f) (x398206 : γ0 16 f + 1 ≤ B) (x398207 : 0 < γ0 6 f) (x398208 : jx398203 < γ0 6 f) : CtA (gV D I) l yX17_load cX17_load 6 (some FieldType.int) 8 170 (((387 * B + 6000) - rPh γ0 el0 f) / 18) ((387 * B + 6000) - rPh γ0 el0 f) [.ref q398198, .ref q398199, .ref q398200, .int p398201, .int p398202] (va_pl P398196 F398197) (pg_398209_SpillForgeModel_load D I γ0 el0 f B P398196 F398197 q398198 q398199 q398200 p398201 p398202 jx398203) gNA := by
  refine CtA_of hl0 (by decide) (Nat.le_of_ble_eq_true rfl) ?_
  obtain ⟨γ, hγ0⟩ : ∃ z, z = γ0 := ⟨_, rfl⟩
  obtain ⟨el, hel0⟩ : ∃ z, z = el0 := ⟨_, rfl⟩
  have hT : RS D I P398196 F398197 γ el := by rw [hγ0, hel0]; exact hT0
  have hst : rSk f [101] ([3, 5, 6, 8, 9, 10, 101]) D I P398196 F398197 γ0 el0 P398196 F398197 γ el := by rw [hγ0, hel0]; exact rSk_rf hT0
  have hph : rPh γ0 el0 f ≤ rPh γ el f := by rw [hγ0, hel0]; exact Nat.le_refl _
  have hB : rBd γ el f B := by rw [hγ0, hel0]; exact hB0
  have htq398198 : rKd γ q398198 10 := by rw [hγ0]; exact hzq398198
  have htq398199 : rKd γ q398199 9 := by rw [hγ0]; exact hzq398199
  have htq398200 : rKd γ q398200 2 := by rw [hγ0]; exact hzq398200
  have hf1 : γ 1 q398199 = f := by rw [hγ0]; exact hf0
  have hpjjx398203 : jx398203 < γ 2 (γ 14 q398199) := by rw [hγ0]; exact hqjjx398203
  have hpejx398203 : el (γ 14 q398199) jx398203 = q398200 := by rw [hγ0, hel0]; exact hqejx398203
  have hpfjx398203 : γ 1 q398200 = f := by rw [hγ0]; exact hqfjx398203
  have x398204n : p398201.toInt ≤ γ 2 (γ 14 q398200) := by rw [hγ0]; exact x398204
  have x398205n : p398202.toInt < γ 7 f := by rw [hγ0]; exact x398205
  have x398206n : γ 16 f + 1 ≤ B := by rw [hγ0]; exact x398206
  have x398207n : 0 < γ 6 f := by rw [hγ0]; exact x398207
  have x398208n : jx398203 < γ 6 f := by rw [hγ0]; exact x398208
  have pk398210 : rPh γ el f ≤ 387 * B + 6000 := rm_pk (rM_ge hT htq398199 hf1).1 (rM_bd hB)
  refine G_widen (cs' := ((rPh γ el f - rPh γ0 el0 f) / 18)) (sl' := (rPh γ el f - rPh γ0 el0 f)) (Nat.zero_le _) (Nat.zero_le _) ?_
  have r398211 : 0 < γ 6 (γ 1 q398199) := by rw [hf1]; omega
  have lz0 : Int32.toInt 0 = 0 := by decide
  have r398212 : γ 6 f = γ0 6 f := by rw [hγ0]
  have r398213 : γ 7 f = γ0 7 f := by rw [hγ0]
  have r398214 : γ 16 f = γ0 16 f := by rw [hγ0]
  have r398215 : γ 18 f = γ0 18 f := by rw [hγ0]
  have r398216 : γ 19 f = γ0 19 f := by rw [hγ0]
  have sz398217 : γ 2 (γ 14 q398200) = γ0 2 (γ0 14 q398200) := by rw [hγ0]
  have hm398218 : q398198 ∈ P398196 := RS_m hT htq398198 (by decide)
  obtain ⟨q398220, q398221, p398222, p398223, p398224, p398225, p398226, p398227, p398228, p398229, p398230, p398231, p398232, p398233, p398234, p398235, p398236, he398219, hB398263, ht398237, ht398238, ht398239, ht398240, ht398241, ht398242, ht398243, ht398244, ht398245, ht398246, ht398247, ht398248, ht398249, ht398250, ht398251, ht398252, ht398253, ht398254, ht398255, ht398256, ht398257, ht398258, ht398259, ht398260, hB398264⟩ := show rk_10 γ (F398197 q398198) from RS_o hT htq398198
  have ac0_11 : (fI (F398197 q398198) 11).toInt = p398224.toInt := by rw [he398219]; rfl
  have ac0_14 : (fI (F398197 q398198) 14).toInt = p398227.toInt := by rw [he398219]; rfl
  have bp398224 : gB p398224 0 100 := (hB398263.2.2.1)
  have bp398227 : gB p398227 0 2000 := (hB398263.2.2.2.1)
  refine G_aload_n 0 dr_cX17_load_0 rfl ?_
  refine Gp_get 14 hm398218 he398219 dr_cX17_load_1 (gk_X17 D I) (Nat.le_of_ble_eq_true rfl) wr_7_88 rfl ?_
  refine G_sipush 2000 dr_cX17_load_4 (by decide +kernel) ?_
  refine G_icmp_ne 12 dr_cX17_load_7 (by decide +kernel) (fun hc398265 => ?_) (fun hc398265 => ?_)
  · have r398266 : p398227.toInt ≠ 2000 := gj_neq hc398265 (show Int32.toInt 2000 = 2000 by decide)
    have bp398227' : gB p398227 0 1999 := ⟨by omega, by omega⟩
    refine G_aload_n 1 dr_cX17_load_12 rfl ?_
    have rg398267 := rM_ge hT htq398199 hf1
    have rm398268 := rM_bd hB
    have bd398269 := rBd_c hT htq398199 hf1 hB
    have rc398270 := rc_at hT htq398199 hf1
    obtain ⟨q398277, hl398278⟩ : ∃ z, z = γ 14 q398200 := ⟨_, rfl⟩
    have hl398279 : γ 0 q398277 = 3 ∨ γ 0 q398277 = 103 := by rw [hl398278, ← hpejx398203]; exact (RS_lst hT rc398270.2.1 hpjjx398203).1
    refine Gt_row (c := q398199) (f := f) hl0 dr_cX17_load_13 ⟨wr_10_206, wr_1_15, wr_10_82, by decide, rfl, (Nat.le_of_ble_eq_true rfl), (Nat.le_of_ble_eq_true rfl)⟩ wr_10_80 wr_10_81 hT htq398199 hf1 (Nat.le_trans bd398269.2.2.1 (Nat.le_trans hBk (by decide))) (rm_cs hph rg398267.2.1 rm398268 (by decide)) (rm_sl hph rg398267.2.1 rm398268 rm_s18) (Nat.le_of_ble_eq_true rfl) (fun P398271 F398272 γ el q398273 dc398274 ds398275 hq398276 => ?_)
    have ar398281 := fun j => rAt_row hT htq398199 hf1 hq398276 (show jx398203 < _ by omega) j
    rw [hγ0, hel0] at ar398281
    have pr398280 := fun (R : Nat → Nat → va_E → Prop) hN => rPl_row (R := R) hT htq398199 hf1 hq398276 hN
    rw [hγ0, hel0] at pr398280
    obtain ⟨hk398282, x0398283, x1398284, x22398285, x8398286, h16398287, h18398288, hnu398289, hot398290, h45398291, hf0398292, ⟨hr1398293, hr2398294⟩, hM398295, hBB398296⟩ := hq398276
    have hk398297 := rSk_of hk398282
    obtain ⟨nu398298, nu398299, nu398300, nu398301⟩ := hnu398289
    have hT398302 := hk398297.1
    have hs398303 := rSk_tr hst hk398297 (by decide) (by decide) (by decide)
    have r398304 := rSk_F hk398297 htq398198 (by decide) (by decide)
    have ht398305 : rKd γ q398198 10 := rSk_k hk398297 htq398198 (by decide) (by decide)
    have ht398306 : rKd γ q398199 9 := rSk_k hk398297 htq398199 (by decide) (by decide)
    have hf398307 : γ 1 q398199 = f := rSk_1 hk398297 htq398199 (by decide) hf1
    have ht398308 : rKd γ q398200 2 := rSk_k hk398297 htq398200 (by decide) (by decide)
    have hf398309 : γ 1 q398200 = f := rSk_1 hk398297 htq398200 (by decide) hpfjx398203
    have mk398310 : mKp (F398197 q398198) (F398272 q398198) := mKp_tr mKp_rf (mKp_eq (rSk_F hk398297 htq398198 (by decide) (by decide)))
    have r398311 := (rSk_s hk398297 htq398199 (by decide)).2.1
    have r398312 := hot398290 _ (by rw [rc398270.2.1]; decide) (by rw [rc398270.2.1]; decide)
    have r398313 : jx398203 < γ 2 (γ 14 q398199) := by rw [r398311, r398312.1]; exact hpjjx398203
    have r398314 : el (γ 14 q398199) jx398203 = q398200 := by rw [r398311, r398312.2]; exact hpejx398203
    clear rg398267 rm398268 bd398269 rc398270
    have r398315 : 0 < γ 6 (γ 1 q398199) := by rw [hf398307]; omega
    have hm398316 : q398198 ∈ P398271 := RS_m hT398302 ht398305 (by decide)
    obtain ⟨q398318, q398319, p398320, p398321, p398322, p398323, p398324, p398325, p398326, p398327, p398328, p398329, p398330, p398331, p398332, p398333, p398334, he398317, hB398361, ht398335, ht398336, ht398337, ht398338, ht398339, ht398340, ht398341, ht398342, ht398343, ht398344, ht398345, ht398346, ht398347, ht398348, ht398349, ht398350, ht398351, ht398352, ht398353, ht398354, ht398355, ht398356, ht398357, ht398358, hB398362⟩ := show rk_10 γ (F398272 q398198) from RS_o hT398302 ht398305
    have r398363 : p398322.toInt = p398224.toInt := by have z : p398322 = p398224 := congrArg (fun e => fI e 11) (he398317.symm.trans (r398304.trans he398219)); rw [z]
    have bp398322 : gB p398322 0 100 := (hB398361.2.2.1)
    have r398364 : p398325.toInt = p398227.toInt := by have z : p398325 = p398227 := congrArg (fun e => fI e 14) (he398317.symm.trans (r398304.trans he398219)); rw [z]
    have bp398325 : gB p398325 0 2000 := (hB398361.2.2.2.1)
    have bp398325' : gB p398325 0 1999 := ⟨by omega, by omega⟩
    have sz398365 := (rSk_s hk398297 htq398200 (by decide)).2.1
    have sz398366 := congrArg (γ 2) sz398365
    have sz398367 := (hot398290 q398277 (by omega) (by omega)).1
    rw [hl398278] at sz398367
    clear hl398279
    have r398368 := hf0398292.2.2
    have hB398369 : rBd γ el f B := hBB398296 B (by omega) hB
    have ht398370 : rKd γ q398273 101 := x0398283
    have r398371 : γ 8 q398273 < γ 16 f := rm_x8 x8398286 h16398287 rfl
    have hph398372 : rPh γ0 el0 f ≤ rPh γ el f := rm_ph hph hr2398294
    have pk398373 : rPh γ el f ≤ 387 * B + 6000 := rm_pk (rM_ge hT398302 ht398306 hf398307).1 (rM_bd hB398369)
    have hm398374 : q398273 ∈ P398271 := RS_m hT398302 ht398370 (by decide)
    obtain ⟨p398376, p398377, p398378, p398379, p398380, p398381, p398382, he398375, bp398376, bp398377, bp398380, bp398381, bp398382, r398383, r398384, r398385⟩ := show rkR (F398272 q398273) from RS_o hT398302 ht398370
    have bp398378 := gB_any p398378
    have bp398379 := gB_any p398379
    have r398386 : γ 7 (γ 1 q398273) = γ 7 f := by rw [x1398284]
    have r398387 : p398381.toInt = 0 := by have z := hf0398292.1; rw [he398375] at z; exact z
    have bp398381' : gB p398381 0 0 := ⟨by omega, by omega⟩
    have r398388 : p398382.toInt = 0 := by have z := hf0398292.2.1; rw [he398375] at z; exact z
    have bp398382' : gB p398382 0 0 := ⟨by omega, by omega⟩
    refine G_widen (cs' := ((rPh γ el f - rPh γ0 el0 f) / 18)) (sl' := (rPh γ el f - rPh γ0 el0 f)) (rm_wc hph hr1398293) (rm_ws hph hr2398294) ?_
    refine G_astore (L' := [(5, .ref q398273), (0, .ref q398198), (1, .ref q398199), (2, .ref q398200), (3, .int p398201), (4, .int p398202)]) dr_cX17_load_16 (Nat.le_of_ble_eq_true rfl) rfl ?_
    refine G_aload 0 dr_cX17_load_18 rfl ?_
    refine G_bipush 21 dr_cX17_load_20 (by decide +kernel) ?_
    refine Gp_put 0 hm398374 he398375 dr_cX17_load_22 (gk_X15 D I) (Nat.le_of_ble_eq_true rfl) wr_9_177 rfl rfl rfl (Nat.le_of_ble_eq_true rfl) (fun F398389 e398390 n398391 => ?_)
    have he398392 : F398389 q398198 = .inr (22, [.ref (γ 9 0), .ref (γ 9 1), .ref (γ 9 2), .ref (γ 9 3), .ref (γ 9 4), .ref (γ 9 5), .ref (γ 9 6), .ref (γ 9 7), .ref (γ 9 8), .int p398320, .int p398321, .int p398322, .int p398323, .int p398324, .int p398325, .ref (γ 9 15), .ref (γ 9 16), .ref (γ 9 17), .ref (γ 9 18), .ref (γ 9 19), .ref (γ 9 20), .ref (γ 9 21), .ref (γ 9 22), .int p398326, .int p398327, .int p398328, .int p398329, .int p398330, .ref q398318, .ref (γ 9 29), .int p398331, .ref (γ 9 31), .int p398332, .int p398333, .int p398334, .ref q398319]) := (n398391 q398198 (rn_oo he398317 he398375 (by decide))).trans he398317
    have he398393 : F398389 q398273 = .inr (20, [.int 21, .int p398377, .int p398378, .int p398379, .int p398380, .int p398381, .int p398382]) := e398390
    have mk398394 : mKp (F398197 q398198) (F398389 q398198) := mKp_tr mk398310 (mKp_eq (n398391 q398198 (rn_ty ht398305 ht398370 (by decide))))
    refine G_aload 0 dr_cX17_load_25 rfl ?_
    refine G_aload_n 1 dr_cX17_load_27 rfl ?_
    refine Gp_get 14 hm398316 he398392 dr_cX17_load_28 (gk_X17 D I) (Nat.le_of_ble_eq_true rfl) wr_7_88 rfl ?_
    refine Gp_put 1 hm398374 he398393 dr_cX17_load_31 (gk_X15 D I) (Nat.le_of_ble_eq_true rfl) wr_9_182 rfl rfl rfl (Nat.le_of_ble_eq_true rfl) (fun F398395 e398396 n398397 => ?_)
    have he398398 : F398395 q398198 = .inr (22, [.ref (γ 9 0), .ref (γ 9 1), .ref (γ 9 2), .ref (γ 9 3), .ref (γ 9 4), .ref (γ 9 5), .ref (γ 9 6), .ref (γ 9 7), .ref (γ 9 8), .int p398320, .int p398321, .int p398322, .int p398323, .int p398324, .int p398325, .ref (γ 9 15), .ref (γ 9 16), .ref (γ 9 17), .ref (γ 9 18), .ref (γ 9 19), .ref (γ 9 20), .ref (γ 9 21), .ref (γ 9 22), .int p398326, .int p398327, .int p398328, .int p398329, .int p398330, .ref q398318, .ref (γ 9 29), .int p398331, .ref (γ 9 31), .int p398332, .int p398333, .int p398334, .ref q398319]) := (n398397 q398198 (rn_oo he398392 he398393 (by decide))).trans he398392
    have he398399 : F398395 q398273 = .inr (20, [.int 21, .int p398325, .int p398378, .int p398379, .int p398380, .int p398381, .int p398382]) := e398396
    have mk398400 : mKp (F398197 q398198) (F398395 q398198) := mKp_tr mk398394 (mKp_eq (n398397 q398198 (rn_ty ht398305 ht398370 (by decide))))
    have n398401 : ∀ b, b ≠ q398273 → F398395 b = F398272 b := fun b hb => (n398397 b hb).trans (n398391 b hb)
    refine G_aload 0 dr_cX17_load_34 rfl ?_
    refine G_iload 5 dr_cX17_load_36 rfl ?_
    refine Gp_put 4 hm398374 he398399 dr_cX17_load_38 (gk_X15 D I) (Nat.le_of_ble_eq_true rfl) wr_9_193 rfl rfl rfl (Nat.le_of_ble_eq_true rfl) (fun F398402 e398403 n398404 => ?_)
    have he398405 : F398402 q398198 = .inr (22, [.ref (γ 9 0), .ref (γ 9 1), .ref (γ 9 2), .ref (γ 9 3), .ref (γ 9 4), .ref (γ 9 5), .ref (γ 9 6), .ref (γ 9 7), .ref (γ 9 8), .int p398320, .int p398321, .int p398322, .int p398323, .int p398324, .int p398325, .ref (γ 9 15), .ref (γ 9 16), .ref (γ 9 17), .ref (γ 9 18), .ref (γ 9 19), .ref (γ 9 20), .ref (γ 9 21), .ref (γ 9 22), .int p398326, .int p398327, .int p398328, .int p398329, .int p398330, .ref q398318, .ref (γ 9 29), .int p398331, .ref (γ 9 31), .int p398332, .int p398333, .int p398334, .ref q398319]) := (n398404 q398198 (rn_oo he398398 he398399 (by decide))).trans he398398
    have he398406 : F398402 q398273 = .inr (20, [.int 21, .int p398325, .int p398378, .int p398379, .int p398202, .int p398381, .int p398382]) := e398403
    have mk398407 : mKp (F398197 q398198) (F398402 q398198) := mKp_tr mk398400 (mKp_eq (n398404 q398198 (rn_ty ht398305 ht398370 (by decide))))
    have n398408 : ∀ b, b ≠ q398273 → F398402 b = F398272 b := fun b hb => (n398404 b hb).trans (n398401 b hb)
    refine G_aload_n 3 dr_cX17_load_41 rfl ?_
    have hT398409 : RS D I P398271 F398402 γ el := RS_set hT398302 n398408 ht398370 (by decide) ⟨21, p398325, p398378, p398379, p398202, p398381, p398382, he398406, (gB_w (gBl (show Int32.toInt 21 = 21 by decide)) (by decide) (by decide)), bp398325', bp398202, (gB_w bp398381' (by decide) (by decide)), (gB_w bp398382' (by decide) (by decide)), (Or.inr (by decide)), r398384, r398385⟩
    have hs398411 := rSk_put hs398303 hT398409 n398408 ht398370 (by decide) (by decide)
    have hm398412 : q398200 ∈ P398271 := RS_m hT398409 ht398308 (by decide)
    obtain ⟨q398414, q398415, p398416, p398417, he398413, ht398424, ht398418, ht398419, ht398420, ht398421, ht398422, bp398416, bp398417, r398423, r398425, r398426⟩ := show rk_2 γ q398200 (F398402 q398200) from RS_o hT398409 ht398308
    have hf398427 : γ 1 q398414 = f := (show γ 1 q398414 = γ 1 q398200 from ht398419).trans hf398309
    have hf398428 : γ 1 q398415 = f := (show γ 1 q398415 = γ 1 q398200 from ht398421).trans hf398309
    have r398429 : γ 6 (γ 1 q398200) = γ 6 f := by rw [hf398309]
    have r398430 : γ 7 (γ 1 q398200) = γ 7 f := by rw [hf398309]
    have r398431 : γ 19 (γ 1 q398200) = γ 19 f := by rw [hf398309]
    have r398432 := r398423.resolve_left (by omega)
    clear r398423
    have r398433 : γ 2 (γ 14 q398200) = γ 2 q398414 := by rw [ht398424.1]
    refine Gp_get 0 hm398412 he398413 dr_cX17_load_42 (gk_X12 D I) (Nat.le_of_ble_eq_true rfl) wr_9_220 rfl ?_
    refine G_iload_n 4 dr_cX17_load_45 rfl ?_
    refine G_aload 0 dr_cX17_load_46 rfl ?_
    have pr398434 := fun (R : Nat → Nat → va_E → Prop) hN => rPl_fr (R := R) hT398302 ht398306 hf398307 (pr398280 R hN) (fun b hb _ => n398408 b (rn_ty (show rKd γ b 1 from hb) ht398370 (by decide)))
    have rg398435 := rM_ge hT398409 ht398306 hf398307
    have rm398436 := rM_bd hB398369
    have bd398437 := rBd_c hT398409 ht398306 hf398307 hB398369
    have rc398438 := rc_at hT398409 ht398306 hf398307
    have r398440 : γ 14 (el (γ 14 q398199) jx398203) = q398414 := by rw [r398314]; exact ht398424.1
    have r398441 := rg398435.2.2 _ r398313
    rw [r398440] at r398441
    have r398442 := bd398437.2.2.2 _ r398313
    rw [r398440] at r398442
    have r398443 : γ 7 (γ 1 q398273) = γ 7 f := by rw [x1398284]
    have hx398444 : rk_1 γ q398273 (F398402 q398273) := ⟨21, p398325, p398378, p398379, p398202, p398381, p398382, he398406, (gB_w (gBl (show Int32.toInt 21 = 21 by decide)) (by decide) (by decide)), bp398325', bp398202, (gB_w bp398381' (by decide) (by decide)), (gB_w bp398382' (by decide) (by decide)), (Or.inr (by decide)), r398384, r398385, (Or.inr (by omega)), (Or.inl x22398285)⟩
    refine Gt_ins (c := q398199) (f := f) hl0 dr_cX17_load_48 ⟨wr_10_207, wr_1_18, wr_10_210, by decide, rfl, (Nat.le_of_ble_eq_true rfl), (Nat.le_of_ble_eq_true rfl)⟩ wr_10_208 wr_10_209 hT398409 ht398418 hf398427 ht398370 x1398284 x22398285 r398371 (by omega) ht398306 hf398307 r398313 r398440 hx398444 (by omega) (by omega) (Nat.le_trans r398442 (Nat.le_trans hBk (by decide))) (rm_cs hph398372 r398441 rm398436 (by decide)) (rm_sl hph398372 r398441 rm398436 rm_s11) (Nat.le_of_ble_eq_true rfl) (fun P398445 F398439 γ el dc398446 ds398447 hq398448 => ?_)
    have ai398450 := fun (j : Nat) (hj : p398201.toInt.toNat ≤ j) => (rAt_ins hT398409 ht398306 hf398307 hq398448 r398440 (show jx398203 < _ by omega) (show p398201.toInt.toNat ≤ _ by omega) j hj).trans (ar398281 j)
    have pr398449 := fun (R R' : Nat → Nat → va_E → Prop) hN h1 h2 (h3 : ∀ e, (∀ n, nmS e n → n = p398325.toInt.toNat) → ((fI e 0).toInt = 21 → (fI e 1).toInt.toNat = p398325.toInt.toNat) → R' jx398203 p398201.toInt.toNat e) h4 => rPl_ins (R := R) (R' := R') hT398409 ht398306 hf398307 hq398448 r398440 (show jx398203 < _ by omega) (show p398201.toInt.toNat ≤ _ by omega) (pr398434 R hN) h1 h2 (h3 _ (nm_ld he398406 (by decide)).1 (nm_ld he398406 (by decide)).2) h4
    obtain ⟨hk398451, x0398452, h2398453, hel398454, hot398455, h16398456, h18398457, hnu398458, hFx398459, hr398460, hM398461, hBB398462⟩ := hq398448
    have hk398463 := rSk_of hk398451
    have r398464 : (fI (F398439 q398199) 3).toInt = (fI (F398402 q398199) 3).toInt := by rw [rSk_F hk398463 ht398306 (by decide) (by decide)]
    obtain ⟨nu398465, nu398466, nu398467, nu398468⟩ := hnu398458
    have hT398469 := hk398463.1
    have hs398470 := rSk_tr hs398411 hk398463 (by decide) (by decide) (by decide)
    have r398471 := rSk_F hk398463 ht398305 (by decide) (by decide)
    have ht398472 : rKd γ q398198 10 := rSk_k hk398463 ht398305 (by decide) (by decide)
    have ht398473 : rKd γ q398199 9 := rSk_k hk398463 ht398306 (by decide) (by decide)
    have hf398474 : γ 1 q398199 = f := rSk_1 hk398463 ht398306 (by decide) hf398307
    have ht398475 : rKd γ q398200 2 := rSk_k hk398463 ht398308 (by decide) (by decide)
    have hf398476 : γ 1 q398200 = f := rSk_1 hk398463 ht398308 (by decide) hf398309
    have ht398477 : rKd γ q398414 3 := rSk_k hk398463 ht398418 (by decide) (by decide)
    have hf398478 : γ 1 q398414 = f := rSk_1 hk398463 ht398418 (by decide) hf398427
    have mk398479 : mKp (F398197 q398198) (F398439 q398198) := mKp_tr mk398407 (mKp_eq (rSk_F hk398463 ht398305 (by decide) (by decide)))
    have r398480 := (rSk_s hk398463 ht398306 (by decide)).2.1
    have r398481 := hot398455 _ (by rw [rc398438.2.1]; decide) (fun q => by rw [q, show _ = 3 from ht398418] at rc398438; exact absurd rc398438.2.1 (by decide))
    have r398482 : jx398203 < γ 2 (γ 14 q398199) := by rw [r398480, r398481.1]; exact r398313
    have r398483 : el (γ 14 q398199) jx398203 = q398200 := by rw [r398480, r398481.2]; exact r398314
    clear bp398376 bp398377 bp398380 bp398381 bp398382 bp398378 bp398379 bp398416 bp398417 r398425 r398426 rg398435 rm398436 bd398437 rc398438 r398441 r398442
    clear r398383 r398384 r398385
    have r398484 : 0 < γ 6 (γ 1 q398199) := by rw [hf398474]; omega
    have hm398485 : q398198 ∈ P398445 := RS_m hT398469 ht398472 (by decide)
    obtain ⟨q398487, q398488, p398489, p398490, p398491, p398492, p398493, p398494, p398495, p398496, p398497, p398498, p398499, p398500, p398501, p398502, p398503, he398486, hB398530, ht398504, ht398505, ht398506, ht398507, ht398508, ht398509, ht398510, ht398511, ht398512, ht398513, ht398514, ht398515, ht398516, ht398517, ht398518, ht398519, ht398520, ht398521, ht398522, ht398523, ht398524, ht398525, ht398526, ht398527, hB398531⟩ := show rk_10 γ (F398439 q398198) from RS_o hT398469 ht398472
    have r398532 : p398491.toInt = p398322.toInt := by have z : p398491 = p398322 := congrArg (fun e => fI e 11) (he398486.symm.trans (r398471.trans he398405)); rw [z]
    have bp398491 : gB p398491 0 100 := (hB398530.2.2.1)
    have r398533 : p398494.toInt = p398325.toInt := by have z : p398494 = p398325 := congrArg (fun e => fI e 14) (he398486.symm.trans (r398471.trans he398405)); rw [z]
    have bp398494 : gB p398494 0 2000 := (hB398530.2.2.2.1)
    have bp398494' : gB p398494 0 1999 := ⟨by omega, by omega⟩
    have ht398534 : rKd γ q398273 1 := x0398452
    have hB398535 : rBd γ el f B := hBB398462 B hB398369
    have hph398536 : rPh γ0 el0 f ≤ rPh γ el f := rm_ph hph398372 hr398460.2
    have pk398537 : rPh γ el f ≤ 387 * B + 6000 := rm_pk (rM_ge hT398469 ht398473 hf398474).1 (rM_bd hB398535)
    refine G_widen (cs' := ((rPh γ el f - rPh γ0 el0 f) / 18)) (sl' := (rPh γ el f - rPh γ0 el0 f)) (rm_wc hph398372 hr398460.1) (rm_ws hph398372 hr398460.2) ?_
    have he398538 : F398439 q398273 = .inr (20, [.int 21, .int p398325, .int p398378, .int p398379, .int p398202, .int p398381, .int p398382]) := hFx398459.trans he398406
    have hm398539 : q398273 ∈ P398445 := RS_m hT398469 ht398534 (by decide)
    have r398540 : γ 14 q398200 = q398414 := ((rSk_s (rSk_of hk398451) ht398308 (by decide)).2.1).trans ht398424.1
    have sz398541 : γ 2 (γ 14 q398200) = γ 2 q398414 := by rw [r398540]
    refine G_aload_n 1 dr_cX17_load_51 rfl ?_
    refine G_dup dr_cX17_load_52 rfl ?_
    refine Gp_get 14 hm398485 he398486 dr_cX17_load_53 (gk_X17 D I) (Nat.le_of_ble_eq_true rfl) wr_7_88 rfl ?_
    refine G_iconst 1 dr_cX17_load_56 (by decide +kernel) ?_
    refine G_iadd dr_cX17_load_57 (G_nam fun z398542 hz398542 => ?_)
    have ez398542 : z398542.toInt = p398494.toInt + 1 := by rw [gI_add hz398542 bp398494' (gBl (show Int32.toInt 1 = 1 by decide)) (by decide) (by decide), show Int32.toInt 1 = 1 from by decide]
    have bz398542 : gB z398542 1 2000 := gB_add (gI_add hz398542 bp398494' (gBl (show Int32.toInt 1 = 1 by decide)) (by decide) (by decide)) bp398494' (gBl (show Int32.toInt 1 = 1 by decide)) (by decide) (by decide)
    refine Gp_put 14 hm398485 he398486 dr_cX17_load_58 (gk_X17 D I) (Nat.le_of_ble_eq_true rfl) wr_7_88 rfl rfl rfl (Nat.le_of_ble_eq_true rfl) (fun F398543 e398544 n398545 => ?_)
    have he398546 : F398543 q398273 = .inr (20, [.int 21, .int p398325, .int p398378, .int p398379, .int p398202, .int p398381, .int p398382]) := (n398545 q398273 (rn_oo he398538 he398486 (by decide))).trans he398538
    have he398547 : F398543 q398198 = .inr (22, [.ref (γ 9 0), .ref (γ 9 1), .ref (γ 9 2), .ref (γ 9 3), .ref (γ 9 4), .ref (γ 9 5), .ref (γ 9 6), .ref (γ 9 7), .ref (γ 9 8), .int p398489, .int p398490, .int p398491, .int p398492, .int p398493, .int z398542, .ref (γ 9 15), .ref (γ 9 16), .ref (γ 9 17), .ref (γ 9 18), .ref (γ 9 19), .ref (γ 9 20), .ref (γ 9 21), .ref (γ 9 22), .int p398495, .int p398496, .int p398497, .int p398498, .int p398499, .ref q398487, .ref (γ 9 29), .int p398500, .ref (γ 9 31), .int p398501, .int p398502, .int p398503, .ref q398488]) := e398544
    have mk398548 : mKp (F398197 q398198) (F398543 q398198) := mKp_tr mk398479 (by rw [he398486, he398547]; exact ⟨rfl, rfl⟩)
    have hT398549 : RS D I P398445 F398543 γ el := RS_set hT398469 n398545 ht398472 (by decide) ⟨q398487, q398488, p398489, p398490, p398491, p398492, p398493, z398542, p398495, p398496, p398497, p398498, p398499, p398500, p398501, p398502, p398503, he398547, ⟨(hB398530.1), (hB398530.2.1), bp398491, (gB_w bz398542 (by decide) (by decide)), (hB398530.2.2.2.2.1), (hB398530.2.2.2.2.2.1), (hB398530.2.2.2.2.2.2.1), (hB398530.2.2.2.2.2.2.2.1), (hB398530.2.2.2.2.2.2.2.2)⟩, ht398504, ht398505, ht398506, ht398507, ht398508, ht398509, ht398510, ht398511, ht398512, ht398513, ht398514, ht398515, ht398516, ht398517, ht398518, ht398519, ht398520, ht398521, ht398522, ht398523, ht398524, ht398525, ht398526, ht398527, hB398531⟩
    have hs398551 := rSk_put hs398470 hT398549 n398545 ht398472 (by decide) (by decide)
    have pr398552 := fun (R R' : Nat → Nat → va_E → Prop) hN h1 h2 h3 h4 => rPl_fr (R := R') hT398469 ht398473 hf398474 (pr398449 R R' hN h1 h2 h3 h4) (fun b hb _ => n398545 b (rn_ty (show rKd γ b 1 from hb) ht398472 (by decide)))
    refine G_aload 0 dr_cX17_load_61 rfl ?_
    refine Gp_get 1 hm398539 he398546 dr_cX17_load_63 (gk_X15 D I) (Nat.le_of_ble_eq_true rfl) wr_9_182 rfl ?_
    have ac398553 : (fI (F398543 q398198) 11).toInt = p398491.toInt := by rw [he398547]; rfl
    have ac398554 : (fI (F398543 q398198) 14).toInt = z398542.toInt := by rw [he398547]; rfl
    exact G_iretA dr_cX17_load_66 rfl (show ((rPh γ el f - rPh γ0 el0 f) / 18) ≤ (((387 * B + 6000) - rPh γ0 el0 f) / 18) by omega) (show (rPh γ el f - rPh γ0 el0 f) ≤ ((387 * B + 6000) - rPh γ0 el0 f) by omega) ⟨P398445, F398543, γ, el, p398325, rfl, rfl, hs398551, ⟨by omega, by omega⟩, hB398535, (gB_w bp398325' (by decide) (by decide)), (by omega), (by omega), (by omega), ⟨(rSk_s hs398551 hzq398200 (by decide)).2.1, r398482, r398483⟩, (Or.inr ⟨by omega, by omega, by omega, by omega, by omega⟩), (by omega), (Or.inr pr398552), (Or.inr ai398450), mk398548⟩
  · have r398555 : p398227.toInt = 2000 := gj_eq hc398265 (show Int32.toInt 2000 = 2000 by decide)
    have bp398227' : gB p398227 2000 2000 := ⟨by omega, by omega⟩
    have ac398556 : (fI (F398197 q398198) 11).toInt = p398224.toInt := by rw [he398219]; rfl
    have ac398557 : (fI (F398197 q398198) 14).toInt = p398227.toInt := by rw [he398219]; rfl
    refine G_iconst (-1) dr_cX17_load_10 (by decide +kernel) ?_
    exact G_iretA dr_cX17_load_11 rfl (show ((rPh γ el f - rPh γ0 el0 f) / 18) ≤ (((387 * B + 6000) - rPh γ0 el0 f) / 18) by omega) (show (rPh γ el f - rPh γ0 el0 f) ≤ ((387 * B + 6000) - rPh γ0 el0 f) by omega) ⟨P398196, F398197, γ, el, (-1), rfl, rfl, hst, ⟨by omega, by omega⟩, hB, (gB_w (gBl (show Int32.toInt (-1) = (-1) by decide)) (by decide) (by decide)), (by have qa0 : Int32.toInt (-1) = (-1) := (by decide); omega), (by have qa0 : Int32.toInt (-1) = (-1) := (by decide); omega), (by have qa0 : Int32.toInt (-1) = (-1) := (by decide); omega), ⟨(rSk_s hst hzq398200 (by decide)).2.1, hpjjx398203, hpejx398203⟩, (Or.inl (by decide)), (by have qa0 : Int32.toInt (-1) = (-1) := (by decide); omega), (Or.inl (by decide)), (Or.inl (by decide)), mKp_rf⟩
abbrev ky_398571_Row_usesA : gKey := (cX15_usesA, 1, "SpillForgeModel$Row", (some FieldType.boolean), [], "usesA", fun _ _ => True)
def pp_398571_Row_usesA (D : va_G) (I : FieldType → ClassId) (P398561 : List Nat) (F398562 : Nat → va_E) (q398563 : Nat) (p398564 : Int32) (p398565 : Int32) (p398566 : Int32) (p398567 : Int32) (p398568 : Int32) (p398569 : Int32) (p398570 : Int32) : Option Value → va_W → Nat → Nat → Prop := fun r w dc ds => ∃ (o398584 : Int32), r = some (.int o398584) ∧ w = va_pl P398561 F398562 ∧ dc ≤ 0 ∧ ds ≤ 0 ∧ gB o398584 0 1 ∧ (uA o398584.toInt p398564.toInt p398569.toInt)
set_option maxRecDepth 100000 in
set_option maxHeartbeats 4000000 in
theorem cp_398571_Row_usesA (l : Launch) (hl0 : l.stackTraces = false) (D : va_G) (I : FieldType → ClassId) (P398561 : List Nat) (F398562 : Nat → va_E) (q398563 : Nat) (p398564 : Int32) (p398565 : Int32) (p398566 : Int32) (p398567 : Int32) (p398568 : Int32) (p398569 : Int32) (p398570 : Int32) (hmq398563 : q398563 ∈ P398561) (heq398563 : F398562 q398563 = .inr (20, [.int p398564, .int p398565, .int p398566, .int p398567, .int p398568, .int p398569, .int p398570])) (bp398564 : gB p398564 0 32) (bp398565 : gB p398565 0 1999) (bp398568 : gB p398568 0 1999) (bp398569 : gB p398569 0 1) (bp398570 : gB p398570 0 1) : CtA (gV D I) l yX15_usesA cX15_usesA 1 (some FieldType.boolean) 0 0 0 0 [.ref q398563] (va_pl P398561 F398562) (pp_398571_Row_usesA D I P398561 F398562 q398563 p398564 p398565 p398566 p398567 p398568 p398569 p398570) gNA := by
  refine CtA_of hl0 (by decide) (Nat.le_of_ble_eq_true rfl) ?_
  have bp398566 := gB_any p398566
  have bp398567 := gB_any p398567
  refine G_aload_n 0 dr_cX15_usesA_0 rfl ?_
  refine Gp_get 0 hmq398563 heq398563 dr_cX15_usesA_1 (gk_X15 D I) (Nat.le_of_ble_eq_true rfl) wr_9_175 rfl ?_
  refine G_bipush 20 dr_cX15_usesA_4 (by decide +kernel) ?_
  refine G_icmp_eq 38 dr_cX15_usesA_6 (by decide +kernel) (fun hc398572 => ?_) (fun hc398572 => ?_)
  · have r398573 : p398564.toInt = 20 := gj_eq hc398572 (show Int32.toInt 20 = 20 by decide)
    have bp398564' : gB p398564 20 20 := ⟨by omega, by omega⟩
    refine G_iconst 0 dr_cX15_usesA_38 (by decide +kernel) ?_
    exact G_zretA FieldType.boolean dr_cX15_usesA_39 rfl rfl (Nat.le_of_ble_eq_true rfl) (Nat.le_of_ble_eq_true rfl) ⟨0, rfl, rfl, (Nat.le_of_ble_eq_true rfl), (Nat.le_of_ble_eq_true rfl), (gB_w (gBl (show Int32.toInt 0 = 0 by decide)) (by decide) (by decide)), (by unfold uA; first | omega | (have qa0 : Int32.toInt 0 = 0 := (by decide); have qa1 : Int32.toInt 1 = 1 := (by decide); omega))⟩
  · have r398574 : p398564.toInt ≠ 20 := gj_neq hc398572 (show Int32.toInt 20 = 20 by decide)
    refine G_aload_n 0 dr_cX15_usesA_9 rfl ?_
    refine Gp_get 0 hmq398563 heq398563 dr_cX15_usesA_10 (gk_X15 D I) (Nat.le_of_ble_eq_true rfl) wr_9_175 rfl ?_
    refine G_bipush 21 dr_cX15_usesA_13 (by decide +kernel) ?_
    refine G_icmp_eq 38 dr_cX15_usesA_15 (by decide +kernel) (fun hc398575 => ?_) (fun hc398575 => ?_)
    · have r398576 : p398564.toInt = 21 := gj_eq hc398575 (show Int32.toInt 21 = 21 by decide)
      have bp398564' : gB p398564 21 21 := ⟨by omega, by omega⟩
      refine G_iconst 0 dr_cX15_usesA_38 (by decide +kernel) ?_
      exact G_zretA FieldType.boolean dr_cX15_usesA_39 rfl rfl (Nat.le_of_ble_eq_true rfl) (Nat.le_of_ble_eq_true rfl) ⟨0, rfl, rfl, (Nat.le_of_ble_eq_true rfl), (Nat.le_of_ble_eq_true rfl), (gB_w (gBl (show Int32.toInt 0 = 0 by decide)) (by decide) (by decide)), (by unfold uA; first | omega | (have qa0 : Int32.toInt 0 = 0 := (by decide); have qa1 : Int32.toInt 1 = 1 := (by decide); omega))⟩
    · have r398577 : p398564.toInt ≠ 21 := gj_neq hc398575 (show Int32.toInt 21 = 21 by decide)
      refine G_aload_n 0 dr_cX15_usesA_18 rfl ?_
      refine Gp_get 0 hmq398563 heq398563 dr_cX15_usesA_19 (gk_X15 D I) (Nat.le_of_ble_eq_true rfl) wr_9_175 rfl ?_
      refine G_bipush 30 dr_cX15_usesA_22 (by decide +kernel) ?_
      refine G_icmp_eq 38 dr_cX15_usesA_24 (by decide +kernel) (fun hc398578 => ?_) (fun hc398578 => ?_)
      · have r398579 : p398564.toInt = 30 := gj_eq hc398578 (show Int32.toInt 30 = 30 by decide)
        have bp398564' : gB p398564 30 30 := ⟨by omega, by omega⟩
        refine G_iconst 0 dr_cX15_usesA_38 (by decide +kernel) ?_
        exact G_zretA FieldType.boolean dr_cX15_usesA_39 rfl rfl (Nat.le_of_ble_eq_true rfl) (Nat.le_of_ble_eq_true rfl) ⟨0, rfl, rfl, (Nat.le_of_ble_eq_true rfl), (Nat.le_of_ble_eq_true rfl), (gB_w (gBl (show Int32.toInt 0 = 0 by decide)) (by decide) (by decide)), (by unfold uA; first | omega | (have qa0 : Int32.toInt 0 = 0 := (by decide); have qa1 : Int32.toInt 1 = 1 := (by decide); omega))⟩
      · have r398580 : p398564.toInt ≠ 30 := gj_neq hc398578 (show Int32.toInt 30 = 30 by decide)
        refine G_aload_n 0 dr_cX15_usesA_27 rfl ?_
        refine Gp_get 5 hmq398563 heq398563 dr_cX15_usesA_28 (gk_X15 D I) (Nat.le_of_ble_eq_true rfl) wr_9_195 rfl ?_
        refine G_if_eq 38 dr_cX15_usesA_31 (by decide +kernel) (fun hc398581 => ?_) (fun hc398581 => ?_)
        · have r398582 : p398569.toInt = 0 := gj_eq hc398581 (show Int32.toInt 0 = 0 by decide)
          have bp398569' : gB p398569 0 0 := ⟨by omega, by omega⟩
          refine G_iconst 0 dr_cX15_usesA_38 (by decide +kernel) ?_
          exact G_zretA FieldType.boolean dr_cX15_usesA_39 rfl rfl (Nat.le_of_ble_eq_true rfl) (Nat.le_of_ble_eq_true rfl) ⟨0, rfl, rfl, (Nat.le_of_ble_eq_true rfl), (Nat.le_of_ble_eq_true rfl), (gB_w (gBl (show Int32.toInt 0 = 0 by decide)) (by decide) (by decide)), (by unfold uA; first | omega | (have qa0 : Int32.toInt 0 = 0 := (by decide); have qa1 : Int32.toInt 1 = 1 := (by decide); omega))⟩
        · have r398583 : p398569.toInt ≠ 0 := gj_neq hc398581 (show Int32.toInt 0 = 0 by decide)
          have bp398569' : gB p398569 1 1 := ⟨by omega, by omega⟩
          refine G_iconst 1 dr_cX15_usesA_34 (by decide +kernel) ?_
          refine G_goto 39 dr_cX15_usesA_35 (by decide +kernel) ?_
          exact G_zretA FieldType.boolean dr_cX15_usesA_39 rfl rfl (Nat.le_of_ble_eq_true rfl) (Nat.le_of_ble_eq_true rfl) ⟨1, rfl, rfl, (Nat.le_of_ble_eq_true rfl), (Nat.le_of_ble_eq_true rfl), (gB_w (gBl (show Int32.toInt 1 = 1 by decide)) (by decide) (by decide)), (by unfold uA; first | omega | (have qa0 : Int32.toInt 0 = 0 := (by decide); have qa1 : Int32.toInt 1 = 1 := (by decide); omega))⟩
abbrev ky_398595_Row_usesB : gKey := (cX15_usesB, 1, "SpillForgeModel$Row", (some FieldType.boolean), [], "usesB", fun _ _ => True)
def pp_398595_Row_usesB (D : va_G) (I : FieldType → ClassId) (P398585 : List Nat) (F398586 : Nat → va_E) (q398587 : Nat) (p398588 : Int32) (p398589 : Int32) (p398590 : Int32) (p398591 : Int32) (p398592 : Int32) (p398593 : Int32) (p398594 : Int32) : Option Value → va_W → Nat → Nat → Prop := fun r w dc ds => ∃ (o398605 : Int32), r = some (.int o398605) ∧ w = va_pl P398585 F398586 ∧ dc ≤ 0 ∧ ds ≤ 0 ∧ gB o398605 0 1 ∧ (uB o398605.toInt p398588.toInt p398594.toInt)
set_option maxRecDepth 100000 in
set_option maxHeartbeats 4000000 in
theorem cp_398595_Row_usesB (l : Launch) (hl0 : l.stackTraces = false) (D : va_G) (I : FieldType → ClassId) (P398585 : List Nat) (F398586 : Nat → va_E) (q398587 : Nat) (p398588 : Int32) (p398589 : Int32) (p398590 : Int32) (p398591 : Int32) (p398592 : Int32) (p398593 : Int32) (p398594 : Int32) (hmq398587 : q398587 ∈ P398585) (heq398587 : F398586 q398587 = .inr (20, [.int p398588, .int p398589, .int p398590, .int p398591, .int p398592, .int p398593, .int p398594])) (bp398588 : gB p398588 0 32) (bp398589 : gB p398589 0 1999) (bp398592 : gB p398592 0 1999) (bp398593 : gB p398593 0 1) (bp398594 : gB p398594 0 1) : CtA (gV D I) l yX15_usesB cX15_usesB 1 (some FieldType.boolean) 0 0 0 0 [.ref q398587] (va_pl P398585 F398586) (pp_398595_Row_usesB D I P398585 F398586 q398587 p398588 p398589 p398590 p398591 p398592 p398593 p398594) gNA := by
  refine CtA_of hl0 (by decide) (Nat.le_of_ble_eq_true rfl) ?_
  have bp398590 := gB_any p398590
  have bp398591 := gB_any p398591
  refine G_aload_n 0 dr_cX15_usesB_0 rfl ?_
  refine Gp_get 0 hmq398587 heq398587 dr_cX15_usesB_1 (gk_X15 D I) (Nat.le_of_ble_eq_true rfl) wr_9_175 rfl ?_
  refine G_if_le 27 dr_cX15_usesB_4 (by decide +kernel) (fun hc398596 => ?_) (fun hc398596 => ?_)
  · have r398597 : p398588.toInt ≤ 0 := gj_le hc398596 (show Int32.toInt 0 = 0 by decide)
    have bp398588' : gB p398588 0 0 := ⟨by omega, by omega⟩
    refine G_iconst 0 dr_cX15_usesB_27 (by decide +kernel) ?_
    exact G_zretA FieldType.boolean dr_cX15_usesB_28 rfl rfl (Nat.le_of_ble_eq_true rfl) (Nat.le_of_ble_eq_true rfl) ⟨0, rfl, rfl, (Nat.le_of_ble_eq_true rfl), (Nat.le_of_ble_eq_true rfl), (gB_w (gBl (show Int32.toInt 0 = 0 by decide)) (by decide) (by decide)), (by unfold uB; first | omega | (have qa0 : Int32.toInt 0 = 0 := (by decide); have qa1 : Int32.toInt 1 = 1 := (by decide); omega))⟩
  · have r398598 : 0 < p398588.toInt := gj_nle hc398596 (show Int32.toInt 0 = 0 by decide)
    have bp398588' : gB p398588 1 32 := ⟨by omega, by omega⟩
    refine G_aload_n 0 dr_cX15_usesB_7 rfl ?_
    refine Gp_get 0 hmq398587 heq398587 dr_cX15_usesB_8 (gk_X15 D I) (Nat.le_of_ble_eq_true rfl) wr_9_175 rfl ?_
    refine G_bipush 20 dr_cX15_usesB_11 (by decide +kernel) ?_
    refine G_icmp_ge 27 dr_cX15_usesB_13 (by decide +kernel) (fun hc398599 => ?_) (fun hc398599 => ?_)
    · have r398600 : 20 ≤ p398588.toInt := gj_leL hc398599 (show Int32.toInt 20 = 20 by decide)
      have bp398588'' : gB p398588 20 32 := ⟨by omega, by omega⟩
      refine G_iconst 0 dr_cX15_usesB_27 (by decide +kernel) ?_
      exact G_zretA FieldType.boolean dr_cX15_usesB_28 rfl rfl (Nat.le_of_ble_eq_true rfl) (Nat.le_of_ble_eq_true rfl) ⟨0, rfl, rfl, (Nat.le_of_ble_eq_true rfl), (Nat.le_of_ble_eq_true rfl), (gB_w (gBl (show Int32.toInt 0 = 0 by decide)) (by decide) (by decide)), (by unfold uB; first | omega | (have qa0 : Int32.toInt 0 = 0 := (by decide); have qa1 : Int32.toInt 1 = 1 := (by decide); omega))⟩
    · have r398601 : p398588.toInt < 20 := gj_nleL hc398599 (show Int32.toInt 20 = 20 by decide)
      have bp398588'' : gB p398588 1 19 := ⟨by omega, by omega⟩
      refine G_aload_n 0 dr_cX15_usesB_16 rfl ?_
      refine Gp_get 6 hmq398587 heq398587 dr_cX15_usesB_17 (gk_X15 D I) (Nat.le_of_ble_eq_true rfl) wr_9_199 rfl ?_
      refine G_if_eq 27 dr_cX15_usesB_20 (by decide +kernel) (fun hc398602 => ?_) (fun hc398602 => ?_)
      · have r398603 : p398594.toInt = 0 := gj_eq hc398602 (show Int32.toInt 0 = 0 by decide)
        have bp398594' : gB p398594 0 0 := ⟨by omega, by omega⟩
        refine G_iconst 0 dr_cX15_usesB_27 (by decide +kernel) ?_
        exact G_zretA FieldType.boolean dr_cX15_usesB_28 rfl rfl (Nat.le_of_ble_eq_true rfl) (Nat.le_of_ble_eq_true rfl) ⟨0, rfl, rfl, (Nat.le_of_ble_eq_true rfl), (Nat.le_of_ble_eq_true rfl), (gB_w (gBl (show Int32.toInt 0 = 0 by decide)) (by decide) (by decide)), (by unfold uB; first | omega | (have qa0 : Int32.toInt 0 = 0 := (by decide); have qa1 : Int32.toInt 1 = 1 := (by decide); omega))⟩
      · have r398604 : p398594.toInt ≠ 0 := gj_neq hc398602 (show Int32.toInt 0 = 0 by decide)
        have bp398594' : gB p398594 1 1 := ⟨by omega, by omega⟩
        refine G_iconst 1 dr_cX15_usesB_23 (by decide +kernel) ?_
        refine G_goto 28 dr_cX15_usesB_24 (by decide +kernel) ?_
        exact G_zretA FieldType.boolean dr_cX15_usesB_28 rfl rfl (Nat.le_of_ble_eq_true rfl) (Nat.le_of_ble_eq_true rfl) ⟨1, rfl, rfl, (Nat.le_of_ble_eq_true rfl), (Nat.le_of_ble_eq_true rfl), (gB_w (gBl (show Int32.toInt 1 = 1 by decide)) (by decide) (by decide)), (by unfold uB; first | omega | (have qa0 : Int32.toInt 0 = 0 := (by decide); have qa1 : Int32.toInt 1 = 1 := (by decide); omega))⟩
abbrev ky_398616_Row_sets : gKey := (cX15_sets, 1, "SpillForgeModel$Row", (some FieldType.boolean), [], "sets", fun _ _ => True)
def pp_398616_Row_sets (D : va_G) (I : FieldType → ClassId) (P398606 : List Nat) (F398607 : Nat → va_E) (q398608 : Nat) (p398609 : Int32) (p398610 : Int32) (p398611 : Int32) (p398612 : Int32) (p398613 : Int32) (p398614 : Int32) (p398615 : Int32) : Option Value → va_W → Nat → Nat → Prop := fun r w dc ds => ∃ (o398620 : Int32), r = some (.int o398620) ∧ w = va_pl P398606 F398607 ∧ dc ≤ 0 ∧ ds ≤ 0 ∧ gB o398620 0 1 ∧ (uS o398620.toInt p398609.toInt)
set_option maxRecDepth 100000 in
set_option maxHeartbeats 4000000 in
theorem cp_398616_Row_sets (l : Launch) (hl0 : l.stackTraces = false) (D : va_G) (I : FieldType → ClassId) (P398606 : List Nat) (F398607 : Nat → va_E) (q398608 : Nat) (p398609 : Int32) (p398610 : Int32) (p398611 : Int32) (p398612 : Int32) (p398613 : Int32) (p398614 : Int32) (p398615 : Int32) (hmq398608 : q398608 ∈ P398606) (heq398608 : F398607 q398608 = .inr (20, [.int p398609, .int p398610, .int p398611, .int p398612, .int p398613, .int p398614, .int p398615])) (bp398609 : gB p398609 0 32) (bp398610 : gB p398610 0 1999) (bp398613 : gB p398613 0 1999) (bp398614 : gB p398614 0 1) (bp398615 : gB p398615 0 1) : CtA (gV D I) l yX15_sets cX15_sets 1 (some FieldType.boolean) 0 0 0 0 [.ref q398608] (va_pl P398606 F398607) (pp_398616_Row_sets D I P398606 F398607 q398608 p398609 p398610 p398611 p398612 p398613 p398614 p398615) gNA := by
  refine CtA_of hl0 (by decide) (Nat.le_of_ble_eq_true rfl) ?_
  have bp398611 := gB_any p398611
  have bp398612 := gB_any p398612
  refine G_aload_n 0 dr_cX15_sets_0 rfl ?_
  refine Gp_get 0 hmq398608 heq398608 dr_cX15_sets_1 (gk_X15 D I) (Nat.le_of_ble_eq_true rfl) wr_9_175 rfl ?_
  refine G_bipush 21 dr_cX15_sets_4 (by decide +kernel) ?_
  refine G_icmp_gt 13 dr_cX15_sets_6 (by decide +kernel) (fun hc398617 => ?_) (fun hc398617 => ?_)
  · have r398618 : 21 < p398609.toInt := gj_ltL hc398617 (show Int32.toInt 21 = 21 by decide)
    have bp398609' : gB p398609 22 32 := ⟨by omega, by omega⟩
    refine G_iconst 0 dr_cX15_sets_13 (by decide +kernel) ?_
    exact G_zretA FieldType.boolean dr_cX15_sets_14 rfl rfl (Nat.le_of_ble_eq_true rfl) (Nat.le_of_ble_eq_true rfl) ⟨0, rfl, rfl, (Nat.le_of_ble_eq_true rfl), (Nat.le_of_ble_eq_true rfl), (gB_w (gBl (show Int32.toInt 0 = 0 by decide)) (by decide) (by decide)), (by unfold uS; first | omega | (have qa0 : Int32.toInt 0 = 0 := (by decide); have qa1 : Int32.toInt 1 = 1 := (by decide); omega))⟩
  · have r398619 : p398609.toInt ≤ 21 := gj_nltL hc398617 (show Int32.toInt 21 = 21 by decide)
    have bp398609' : gB p398609 0 21 := ⟨by omega, by omega⟩
    refine G_iconst 1 dr_cX15_sets_9 (by decide +kernel) ?_
    refine G_goto 14 dr_cX15_sets_10 (by decide +kernel) ?_
    exact G_zretA FieldType.boolean dr_cX15_sets_14 rfl rfl (Nat.le_of_ble_eq_true rfl) (Nat.le_of_ble_eq_true rfl) ⟨1, rfl, rfl, (Nat.le_of_ble_eq_true rfl), (Nat.le_of_ble_eq_true rfl), (gB_w (gBl (show Int32.toInt 1 = 1 by decide)) (by decide) (by decide)), (by unfold uS; first | omega | (have qa0 : Int32.toInt 0 = 0 := (by decide); have qa1 : Int32.toInt 1 = 1 := (by decide); omega))⟩
abbrev ky_398679_SpillForgeModel_findDepth : gKey := (cX17_findDepth, 13, "SpillForgeModel", none, [], "findDepth", fun _ _ => True)
def pt_398679_SpillForgeModel_findDepth (D : va_G) (I : FieldType → ClassId) (γ el : Nat → Nat → Nat) (P398674 : List Nat) (F398675 : Nat → va_E) (q398676 : Nat) (q398677 : Nat) : Option Value → va_W → Nat → Nat → Prop := fun r w dc ds => ∃ (F520269 : Nat → va_E), r = none ∧ w = va_pl P398674 F520269 ∧ RS D I P398674 F520269 γ el ∧ rStr γ [] F398675 F520269 ∧ dc ≤ 0 ∧ ds ≤ 0 ∧ (F520269 q398676 = F398675 q398676) ∧ (F520269 (γ 9 3) = F398675 (γ 9 3))
set_option maxRecDepth 100000 in
set_option maxHeartbeats 4000000 in
theorem ct_398679_SpillForgeModel_findDepth (l : Launch) (hl0 : l.stackTraces = false) (D : va_G) (I : FieldType → ClassId) (γ el : Nat → Nat → Nat) (P398674 : List Nat) (F398675 : Nat → va_E) (q398676 : Nat) (q398677 : Nat) (hT : RS D I P398674 F398675 γ el) (htq398676 : rKd γ q398676 10) (htq398677 : rKd γ q398677 9) (x398678 : 0 < γ 6 (γ 1 q398677)) : CtA (gV D I) l yX17_findDepth cX17_findDepth 13 none 5 112 0 0 [.ref q398676, .ref q398677] (va_pl P398674 F398675) (pt_398679_SpillForgeModel_findDepth D I γ el P398674 F398675 q398676 q398677) gNA := by
  refine CtA_of hl0 (by decide) (Nat.le_of_ble_eq_true rfl) ?_
  have hm398680 : q398676 ∈ P398674 := RS_m hT htq398676 (by decide)
  refine rk10_e (show rk_10 γ (F398675 q398676) from RS_o hT htq398676) (fun q398682 q398683 p398684 p398685 p398686 p398687 p398688 p398689 p398690 p398691 p398692 p398693 p398694 p398695 p398696 p398697 p398698 he398681 hB398725 ht398699 ht398700 ht398701 ht398702 ht398703 ht398704 ht398705 ht398706 ht398707 ht398708 ht398709 ht398710 ht398711 ht398712 ht398713 ht398714 ht398715 ht398716 ht398717 ht398718 ht398719 ht398720 ht398721 ht398722 hB398726 => ?_)
  refine G_iconst 0 dr_cX17_findDepth_0 (by decide +kernel) ?_
  refine G_istore_n (L' := [(2, .int 0), (0, .ref q398676), (1, .ref q398677)]) dr_cX17_findDepth_1 (Nat.le_of_ble_eq_true rfl) rfl ?_
  have hlp2_514765 : ∀ (n2_514765 : Nat) (F514761 : Nat → va_E) (g514760 : Int32), gB g514760 0 1000000 → RS D I P398674 F514761 γ el → rStr γ [] F398675 F514761 → (F514761 q398676 = F398675 q398676) → (F514761 (γ 9 3) = F398675 (γ 9 3)) → ((1000001 : Int) - g514760.toInt).toNat < n2_514765 → G (gV D I) l (gRm 5 112 0 0) (gMA (gV D I) (pt_398679_SpillForgeModel_findDepth D I γ el P398674 F398675 q398676 q398677) gNA 0 0) ky_398679_SpillForgeModel_findDepth 2 [(2, .int g514760), (0, .ref q398676), (1, .ref q398677)] [] (va_pl P398674 F514761) 0 0 := by
    intro n2_514765
    induction n2_514765 with
    | zero => intro F514761 g514760 bg514760 hT514762 hs514763 x514764 x514765 hm2_514765; exact absurd hm2_514765 (Nat.not_lt_zero _)
    | succ n2_514765 ih2_514765 =>
      intro F514761 g514760 bg514760 hT514762 hs514763 x514764 x514765 hm2_514765
      have hs514767 : rStr γ [] F398675 F514761 := fun b h0 hb hw => (hs514763 b h0 hb hw).trans ((rStr_rf (γ := γ) (W := []) (F := F398675)) b h0 hb hw).symm
      have hs514768 : rStr γ [] F398675 F514761 := rStr_tr (rStr_rf (γ := γ) (W := []) (F := F398675)) hs514767
      have he514769 : F514761 q398676 = .inr (22, [.ref (γ 9 0), .ref (γ 9 1), .ref (γ 9 2), .ref (γ 9 3), .ref (γ 9 4), .ref (γ 9 5), .ref (γ 9 6), .ref (γ 9 7), .ref (γ 9 8), .int p398684, .int p398685, .int p398686, .int p398687, .int p398688, .int p398689, .ref (γ 9 15), .ref (γ 9 16), .ref (γ 9 17), .ref (γ 9 18), .ref (γ 9 19), .ref (γ 9 20), .ref (γ 9 21), .ref (γ 9 22), .int p398690, .int p398691, .int p398692, .int p398693, .int p398694, .ref q398682, .ref (γ 9 29), .int p398695, .ref (γ 9 31), .int p398696, .int p398697, .int p398698, .ref q398683]) := x514764.trans he398681
      have hm514770 : q398676 ∈ P398674 := RS_m hT514762 htq398676 (by decide)
      refine G_iload_n 0 dr_cX17_findDepth_2 rfl ?_
      refine G_aload_n 2 dr_cX17_findDepth_3 rfl ?_
      have hm514771 : q398677 ∈ P398674 := RS_m hT514762 htq398677 (by decide)
      obtain ⟨q514773, q514774, p514775, p514776, he514772, ht514792, ht514777, ht514778, ht514779, ht514780, r514781, r514782, r514783, r514784, r514785, r514786, r514787, r514788, r514789, r514790, r514791⟩ := show rk_9 γ el q398677 (F514761 q398677) from RS_o hT514762 htq398677
      have bp514775 : gB p514775 0 1000000 := ⟨by omega, by omega⟩
      have bp514776 : gB p514776 0 1000000 := ⟨by omega, by omega⟩
      refine Gw_callV (As := []) (gV_ok D I) (cp_12496_Code_size l hl0 D I P398674 F514761 q398677 q514773 q514774 p514775 p514776 hm514771 he514772) dr_cX17_findDepth_4 ⟨wr_10_160, wr_1_15, wr_9_131, by decide, rfl, (Nat.le_of_ble_eq_true rfl), (Nat.le_of_ble_eq_true rfl)⟩ wr_9_129 wr_9_130 hm514771 he514772 rfl (show 0 + 0 ≤ 0 by first | omega | decide) (show 0 + 0 ≤ 0 by first | omega | decide) (Nat.le_of_ble_eq_true rfl) (fun r514796 w514797 dc514793 ds514794 hp514795 => ?_) (fun _ _ _ _ _ z => z.elim)
      obtain ⟨rfl, rfl, hdc, hds⟩ := hp514795
      change G _ _ _ _ _ _ _ (.int p514776 :: _) _ _ _
      refine G_widen (cs' := 0) (sl' := 0) (by omega) (by omega) ?_
      refine G_icmp_ge 23 dr_cX17_findDepth_7 (by decide +kernel) (fun hc514798 => ?_) (fun hc514798 => ?_)
      · have r514799 : p514776.toInt ≤ g514760.toInt := gC_le hc514798
        refine G_aload_n 2 dr_cX17_findDepth_23 rfl ?_
        refine G_iconst (-1) dr_cX17_findDepth_24 (by decide +kernel) ?_
        refine Gw_callS (As := [.ref q398677, .int (-1)]) (gV_ok D I) (ct_12464_SpillForgeModel_reached l hl0 D I γ el P398674 F514761 q398677 (-1) hT514762 htq398677 (by omega)) dr_cX17_findDepth_25 ⟨wr_11_41, wr_1_14, wr_11_43, by decide, rfl, (Nat.le_of_ble_eq_true rfl), (Nat.le_of_ble_eq_true rfl)⟩ wr_11_42 (show 0 + 0 ≤ 0 by first | omega | decide) (show 0 + 0 ≤ 0 by first | omega | decide) (Nat.le_of_ble_eq_true rfl) (fun r514803 w514804 dc514800 ds514801 hp514802 => ?_) (fun _ _ _ _ _ z => z.elim)
        obtain ⟨ol514805, rfl, rfl, hdc, hds⟩ := hp514802
        change G _ _ _ _ _ _ _ (.long ol514805 :: _) _ _ _
        refine G_widen (cs' := 0) (sl' := 0) (by omega) (by omega) ?_
        refine G_lstore_n (L' := [(2, .long ol514805), (0, .ref q398676), (1, .ref q398677)]) dr_cX17_findDepth_28 (Nat.le_of_ble_eq_true rfl) rfl ?_
        refine G_iconst 0 dr_cX17_findDepth_29 (by decide +kernel) ?_
        refine G_istore (L' := [(4, .int 0), (2, .long ol514805), (0, .ref q398676), (1, .ref q398677)]) dr_cX17_findDepth_30 (Nat.le_of_ble_eq_true rfl) rfl ?_
        have hlp32_517533 : ∀ (n32_517533 : Nat) (F517529 : Nat → va_E) (g517528 : Int32), gB g517528 0 1000000 → RS D I P398674 F517529 γ el → rStr γ [] F398675 F517529 → (F517529 q398676 = F398675 q398676) → (F517529 (γ 9 3) = F398675 (γ 9 3)) → ((1000001 : Int) - g517528.toInt).toNat < n32_517533 → G (gV D I) l (gRm 5 112 0 0) (gMA (gV D I) (pt_398679_SpillForgeModel_findDepth D I γ el P398674 F398675 q398676 q398677) gNA 0 0) ky_398679_SpillForgeModel_findDepth 32 [(4, .int g517528), (2, .long ol514805), (0, .ref q398676), (1, .ref q398677)] [] (va_pl P398674 F517529) 0 0 := by
          intro n32_517533
          induction n32_517533 with
          | zero => intro F517529 g517528 bg517528 hT517530 hs517531 x517532 x517533 hm32_517533; exact absurd hm32_517533 (Nat.not_lt_zero _)
          | succ n32_517533 ih32_517533 =>
            intro F517529 g517528 bg517528 hT517530 hs517531 x517532 x517533 hm32_517533
            have hs517535 : rStr γ [] F514761 F517529 := fun b h0 hb hw => (hs517531 b h0 hb hw).trans (hs514763 b h0 hb hw).symm
            have he517536 : F517529 q398677 = .inr (18, [.ref q514773, .ref q514774, .int p514775, .int p514776]) := (hs517535 q398677 (rT0 htq398677 (by decide)) (rT1 htq398677 (by decide)) (rT2 htq398677 (by decide))).trans he514772
            have hs517537 : rStr γ [] F398675 F517529 := rStr_tr hs514763 hs517535
            have he517538 : F517529 q398676 = .inr (22, [.ref (γ 9 0), .ref (γ 9 1), .ref (γ 9 2), .ref (γ 9 3), .ref (γ 9 4), .ref (γ 9 5), .ref (γ 9 6), .ref (γ 9 7), .ref (γ 9 8), .int p398684, .int p398685, .int p398686, .int p398687, .int p398688, .int p398689, .ref (γ 9 15), .ref (γ 9 16), .ref (γ 9 17), .ref (γ 9 18), .ref (γ 9 19), .ref (γ 9 20), .ref (γ 9 21), .ref (γ 9 22), .int p398690, .int p398691, .int p398692, .int p398693, .int p398694, .ref q398682, .ref (γ 9 29), .int p398695, .ref (γ 9 31), .int p398696, .int p398697, .int p398698, .ref q398683]) := x517532.trans he398681
            have hm517539 : q398676 ∈ P398674 := RS_m hT517530 htq398676 (by decide)
            refine G_iload 0 dr_cX17_findDepth_32 rfl ?_
            refine G_aload_n 3 dr_cX17_findDepth_34 rfl ?_
            refine Gw_callV (As := []) (gV_ok D I) (cp_12496_Code_size l hl0 D I P398674 F517529 q398677 q514773 q514774 p514775 p514776 hm514771 he517536) dr_cX17_findDepth_35 ⟨wr_10_160, wr_1_15, wr_9_131, by decide, rfl, (Nat.le_of_ble_eq_true rfl), (Nat.le_of_ble_eq_true rfl)⟩ wr_9_129 wr_9_130 hm514771 he517536 rfl (show 0 + 0 ≤ 0 by first | omega | decide) (show 0 + 0 ≤ 0 by first | omega | decide) (Nat.le_of_ble_eq_true rfl) (fun r517543 w517544 dc517540 ds517541 hp517542 => ?_) (fun _ _ _ _ _ z => z.elim)
            obtain ⟨rfl, rfl, hdc, hds⟩ := hp517542
            change G _ _ _ _ _ _ _ (.int p514776 :: _) _ _ _
            refine G_widen (cs' := 0) (sl' := 0) (by omega) (by omega) ?_
            refine G_icmp_ge 339 dr_cX17_findDepth_38 (by decide +kernel) (fun hc517545 => ?_) (fun hc517545 => ?_)
            · have r517546 : p514776.toInt ≤ g517528.toInt := gC_le hc517545
              refine G_iconst 0 dr_cX17_findDepth_339 (by decide +kernel) ?_
              refine G_istore (L' := [(4, .int 0), (2, .long ol514805), (0, .ref q398676), (1, .ref q398677)]) dr_cX17_findDepth_340 (Nat.le_of_ble_eq_true rfl) rfl ?_
              have hlp342_517586 : ∀ (n342_517586 : Nat) (F517582 : Nat → va_E) (g517581 : Int32), gB g517581 0 1000000 → RS D I P398674 F517582 γ el → rStr γ [] F398675 F517582 → (F517582 q398676 = F398675 q398676) → (F517582 (γ 9 3) = F398675 (γ 9 3)) → ((1000001 : Int) - g517581.toInt).toNat < n342_517586 → G (gV D I) l (gRm 5 112 0 0) (gMA (gV D I) (pt_398679_SpillForgeModel_findDepth D I γ el P398674 F398675 q398676 q398677) gNA 0 0) ky_398679_SpillForgeModel_findDepth 342 [(4, .int g517581), (2, .long ol514805), (0, .ref q398676), (1, .ref q398677)] [] (va_pl P398674 F517582) 0 0 := by
                intro n342_517586
                induction n342_517586 with
                | zero => intro F517582 g517581 bg517581 hT517583 hs517584 x517585 x517586 hm342_517586; exact absurd hm342_517586 (Nat.not_lt_zero _)
                | succ n342_517586 ih342_517586 =>
                  intro F517582 g517581 bg517581 hT517583 hs517584 x517585 x517586 hm342_517586
                  have hs517588 : rStr γ [] F517529 F517582 := fun b h0 hb hw => (hs517584 b h0 hb hw).trans (hs517531 b h0 hb hw).symm
                  have he517589 : F517582 q398677 = .inr (18, [.ref q514773, .ref q514774, .int p514775, .int p514776]) := (hs517588 q398677 (rT0 htq398677 (by decide)) (rT1 htq398677 (by decide)) (rT2 htq398677 (by decide))).trans he517536
                  have hs517590 : rStr γ [] F398675 F517582 := rStr_tr hs517531 hs517588
                  have he517591 : F517582 q398676 = .inr (22, [.ref (γ 9 0), .ref (γ 9 1), .ref (γ 9 2), .ref (γ 9 3), .ref (γ 9 4), .ref (γ 9 5), .ref (γ 9 6), .ref (γ 9 7), .ref (γ 9 8), .int p398684, .int p398685, .int p398686, .int p398687, .int p398688, .int p398689, .ref (γ 9 15), .ref (γ 9 16), .ref (γ 9 17), .ref (γ 9 18), .ref (γ 9 19), .ref (γ 9 20), .ref (γ 9 21), .ref (γ 9 22), .int p398690, .int p398691, .int p398692, .int p398693, .int p398694, .ref q398682, .ref (γ 9 29), .int p398695, .ref (γ 9 31), .int p398696, .int p398697, .int p398698, .ref q398683]) := x517585.trans he398681
                  have hm517592 : q398676 ∈ P398674 := RS_m hT517583 htq398676 (by decide)
                  refine G_iload 0 dr_cX17_findDepth_342 rfl ?_
                  refine G_aload_n 3 dr_cX17_findDepth_344 rfl ?_
                  refine Gw_callV (As := []) (gV_ok D I) (cp_12496_Code_size l hl0 D I P398674 F517582 q398677 q514773 q514774 p514775 p514776 hm514771 he517589) dr_cX17_findDepth_345 ⟨wr_10_160, wr_1_15, wr_9_131, by decide, rfl, (Nat.le_of_ble_eq_true rfl), (Nat.le_of_ble_eq_true rfl)⟩ wr_9_129 wr_9_130 hm514771 he517589 rfl (show 0 + 0 ≤ 0 by first | omega | decide) (show 0 + 0 ≤ 0 by first | omega | decide) (Nat.le_of_ble_eq_true rfl) (fun r517596 w517597 dc517593 ds517594 hp517595 => ?_) (fun _ _ _ _ _ z => z.elim)
                  obtain ⟨rfl, rfl, hdc, hds⟩ := hp517595
                  change G _ _ _ _ _ _ _ (.int p514776 :: _) _ _ _
                  refine G_widen (cs' := 0) (sl' := 0) (by omega) (by omega) ?_
                  refine G_icmp_ge 375 dr_cX17_findDepth_348 (by decide +kernel) (fun hc517598 => ?_) (fun hc517598 => ?_)
                  · have r517599 : p514776.toInt ≤ g517581.toInt := gC_le hc517598
                    exact G_vretA dr_cX17_findDepth_375 rfl (Nat.le_of_ble_eq_true rfl) (Nat.le_of_ble_eq_true rfl) ⟨F517582, rfl, rfl, hT517583, hs517584, (Nat.le_of_ble_eq_true rfl), (Nat.le_of_ble_eq_true rfl), x517585, x517586⟩
                  · have r517600 : g517581.toInt < p514776.toInt := gC_nle hc517598
                    have bg517581' : gB g517581 0 999999 := ⟨by omega, by omega⟩
                    have bp514776' : gB p514776 1 1000000 := ⟨by omega, by omega⟩
                    refine G_aload_n 2 dr_cX17_findDepth_351 rfl ?_
                    refine Gp_get 4 hm517592 he517591 dr_cX17_findDepth_352 (gk_X17 D I) (Nat.le_of_ble_eq_true rfl) wr_7_78 rfl ?_
                    refine G_iload 0 dr_cX17_findDepth_355 rfl ?_
                    refine G_aload_n 2 dr_cX17_findDepth_357 rfl ?_
                    refine Gp_get 4 hm517592 he517591 dr_cX17_findDepth_358 (gk_X17 D I) (Nat.le_of_ble_eq_true rfl) wr_7_78 rfl ?_
                    refine G_iload 0 dr_cX17_findDepth_361 rfl ?_
                    have hm517601 : (γ 9 4) ∈ P398674 := RS_m hT517583 ht398705 (by decide)
                    obtain ⟨f517603, he517602⟩ := show rk_16 I (F517582 (γ 9 4)) from RS_o hT517583 ht398705
                    refine Gp_iald 0 hm517601 he517602 dr_cX17_findDepth_363 rfl (gB_inr (by omega) (by omega)) (G_nam fun z517604 hz517604 => ?_)
                    have bz517604 : gB z517604 (-2147483648) 2147483647 := gB_any z517604
                    refine G_iconst 4 dr_cX17_findDepth_364 (by decide +kernel) ?_
                    refine G_mmin dr_cX17_findDepth_365 wr_11_20 wr_3_227 wr_1_6 wr_3_228 (Nat.le_of_ble_eq_true rfl) (Nat.le_of_ble_eq_true rfl) (show 0 ≤ 0 by first | omega | decide) (show 0 ≤ 0 by first | omega | decide) (G_nam fun z517605 hz517605 => ?_)
                    have ez517605 : z517604.toInt ≥ z517605.toInt ∧ 4 ≥ z517605.toInt ∧ (z517605.toInt = z517604.toInt ∨ z517605.toInt = 4) := by have := gI_min hz517605; rw [show Int32.toInt 4 = 4 from by decide] at this; omega
                    have bz517605 : gB z517605 (-2147483648) 4 := ⟨by omega, by omega⟩
                    refine Gp_iast 0 hm517601 he517602 dr_cX17_findDepth_368 rfl (gB_inr (by omega) (by omega)) (fun F517606 e517607 n517608 => ?_)
                    obtain ⟨f517609, hf517609⟩ : ∃ z, z = upd f517603 g517581.toNatClampNeg z517605 := ⟨_, rfl⟩
                    rw [← hf517609] at e517607
                    have he517610 : F517606 q398677 = .inr (18, [.ref q514773, .ref q514774, .int p514775, .int p514776]) := (n517608 q398677 (rn_oa he517589 he517602)).trans he517589
                    have he517611 : F517606 q398676 = .inr (22, [.ref (γ 9 0), .ref (γ 9 1), .ref (γ 9 2), .ref (γ 9 3), .ref (γ 9 4), .ref (γ 9 5), .ref (γ 9 6), .ref (γ 9 7), .ref (γ 9 8), .int p398684, .int p398685, .int p398686, .int p398687, .int p398688, .int p398689, .ref (γ 9 15), .ref (γ 9 16), .ref (γ 9 17), .ref (γ 9 18), .ref (γ 9 19), .ref (γ 9 20), .ref (γ 9 21), .ref (γ 9 22), .int p398690, .int p398691, .int p398692, .int p398693, .int p398694, .ref q398682, .ref (γ 9 29), .int p398695, .ref (γ 9 31), .int p398696, .int p398697, .int p398698, .ref q398683]) := (n517608 q398676 (rn_oa he517591 he517602)).trans he517591
                    have he517612 : F517606 (γ 9 4) = .inl (I .int, 40, .inl f517609) := e517607
                    have hs517613 : rStr γ [] F398675 F517606 := rStr_put hs517584 n517608 ht398705 (by decide)
                    have kp517614 : F517606 q398676 = F398675 q398676 := (n517608 q398676 (rn_ty htq398676 ht398705 (by decide))).trans x517585
                    have kp517615 : F517606 (γ 9 3) = F398675 (γ 9 3) := (n517608 (γ 9 3) (rn_ty ht398704 ht398705 (by decide))).trans x517586
                    obtain ⟨z517616, hz517616⟩ : ∃ z : Int32, z = g517581 + Int32.ofInt 1 := ⟨_, rfl⟩
                    have ez517616 : z517616.toInt = g517581.toInt + 1 := gI_inc hz517616 (by decide) bg517581' (by decide) (by decide)
                    have bz517616 : gB z517616 1 1000000 := ⟨by omega, by omega⟩
                    refine G_iinc (L' := [(4, .int z517616), (2, .long ol514805), (0, .ref q398676), (1, .ref q398677)]) z517616 0 dr_cX17_findDepth_369 rfl hz517616.symm (Nat.le_of_ble_eq_true rfl) rfl ?_
                    refine G_goto 342 dr_cX17_findDepth_372 (by decide +kernel) ?_
                    have hT517617 : RS D I P398674 F517606 γ el := RS_set hT517583 n517608 ht398705 (by decide) ⟨f517609, he517612⟩
                    exact ih342_517586 F517606 z517616 (gB_w bz517616 (by decide) (by decide)) hT517617 hs517613 kp517614 kp517615 (mz_up ez517616 (Int.le_trans bg517581'.2 (by decide)) hm342_517586)
              exact hlp342_517586 (((1000001 : Int) - 0).toNat + 1) F517529 0 (gB_w (gBl (show Int32.toInt 0 = 0 by decide)) (by decide) (by decide)) hT517530 hs517531 x517532 x517533 (Nat.lt_succ_self _)
            · have r517618 : g517528.toInt < p514776.toInt := gC_nle hc517545
              have bg517528' : gB g517528 0 999999 := ⟨by omega, by omega⟩
              have bp514776' : gB p514776 1 1000000 := ⟨by omega, by omega⟩
              refine G_lload_n 1 dr_cX17_findDepth_41 rfl ?_
              refine G_iload 0 dr_cX17_findDepth_42 rfl ?_
              refine G_lushr dr_cX17_findDepth_44 (G_namL fun u517619 hu517619 => ?_)
              refine G_lconst 1 dr_cX17_findDepth_45 rfl ?_
              refine G_land dr_cX17_findDepth_46 (G_namL fun u517620 hu517620 => ?_)
              refine G_lconst 0 dr_cX17_findDepth_47 rfl ?_
              refine G_lcmp dr_cX17_findDepth_48 (G_nam fun z517621 hz517621 => ?_)
              have bz517621 : gB z517621 (-1) 1 := gB_cmp hz517621
              refine G_if_ne 55 dr_cX17_findDepth_49 (by decide +kernel) (fun hc517622 => ?_) (fun hc517622 => ?_)
              · have r517623 : z517621.toInt ≠ 0 := gj_neq hc517622 (show Int32.toInt 0 = 0 by decide)
                have lhc517622 := gC_cmpN hz517621 hc517622
                refine G_lload_n 1 dr_cX17_findDepth_55 rfl ?_
                refine G_aload_n 3 dr_cX17_findDepth_56 rfl ?_
                refine G_iload 0 dr_cX17_findDepth_57 rfl ?_
                refine Gw_callS (As := [.ref q398677, .int g517528]) (gV_ok D I) (ct_12464_SpillForgeModel_reached l hl0 D I γ el P398674 F517529 q398677 g517528 hT517530 htq398677 (by omega)) dr_cX17_findDepth_59 ⟨wr_11_41, wr_1_14, wr_11_43, by decide, rfl, (Nat.le_of_ble_eq_true rfl), (Nat.le_of_ble_eq_true rfl)⟩ wr_11_42 (show 0 + 0 ≤ 0 by first | omega | decide) (show 0 + 0 ≤ 0 by first | omega | decide) (Nat.le_of_ble_eq_true rfl) (fun r517627 w517628 dc517624 ds517625 hp517626 => ?_) (fun _ _ _ _ _ z => z.elim)
                obtain ⟨ol517629, rfl, rfl, hdc, hds⟩ := hp517626
                change G _ _ _ _ _ _ _ (.long ol517629 :: _) _ _ _
                refine G_widen (cs' := 0) (sl' := 0) (by omega) (by omega) ?_
                refine G_ldc2 (-1) dr_cX17_findDepth_62 wr_10_188 ?_
                refine G_lxor dr_cX17_findDepth_65 (G_namL fun u517630 hu517630 => ?_)
                refine G_land dr_cX17_findDepth_66 (G_namL fun u517631 hu517631 => ?_)
                refine G_lstore (L' := [(5, .long u517631), (4, .int g517528), (2, .long ol514805), (0, .ref q398676), (1, .ref q398677)]) dr_cX17_findDepth_67 (Nat.le_of_ble_eq_true rfl) rfl ?_
                refine G_lconst 0 dr_cX17_findDepth_69 rfl ?_
                refine G_lstore (L' := [(7, .long 0), (5, .long u517631), (4, .int g517528), (2, .long ol514805), (0, .ref q398676), (1, .ref q398677)]) dr_cX17_findDepth_70 (Nat.le_of_ble_eq_true rfl) rfl ?_
                refine G_iconst 0 dr_cX17_findDepth_72 (by decide +kernel) ?_
                refine G_istore (L' := [(9, .int 0), (7, .long 0), (5, .long u517631), (4, .int g517528), (2, .long ol514805), (0, .ref q398676), (1, .ref q398677)]) dr_cX17_findDepth_73 (Nat.le_of_ble_eq_true rfl) rfl ?_
                have hlp75_518942 : ∀ (n75_518942 : Nat) (g518941 : Int32) (gl518942 : Int64), gB g518941 0 1000000 → ((1000001 : Int) - g518941.toInt).toNat < n75_518942 → G (gV D I) l (gRm 5 112 0 0) (gMA (gV D I) (pt_398679_SpillForgeModel_findDepth D I γ el P398674 F398675 q398676 q398677) gNA 0 0) ky_398679_SpillForgeModel_findDepth 75 [(9, .int g518941), (7, .long gl518942), (5, .long u517631), (4, .int g517528), (2, .long ol514805), (0, .ref q398676), (1, .ref q398677)] [] (va_pl P398674 F517529) 0 0 := by
                  intro n75_518942
                  induction n75_518942 with
                  | zero => intro g518941 gl518942 bg518941 hm75_518942; exact absurd hm75_518942 (Nat.not_lt_zero _)
                  | succ n75_518942 ih75_518942 =>
                    intro g518941 gl518942 bg518941 hm75_518942
                    refine G_iload 0 dr_cX17_findDepth_75 rfl ?_
                    refine G_aload_n 6 dr_cX17_findDepth_77 rfl ?_
                    refine Gw_callV (As := []) (gV_ok D I) (cp_12496_Code_size l hl0 D I P398674 F517529 q398677 q514773 q514774 p514775 p514776 hm514771 he517536) dr_cX17_findDepth_78 ⟨wr_10_160, wr_1_15, wr_9_131, by decide, rfl, (Nat.le_of_ble_eq_true rfl), (Nat.le_of_ble_eq_true rfl)⟩ wr_9_129 wr_9_130 hm514771 he517536 rfl (show 0 + 0 ≤ 0 by first | omega | decide) (show 0 + 0 ≤ 0 by first | omega | decide) (Nat.le_of_ble_eq_true rfl) (fun r518947 w518948 dc518944 ds518945 hp518946 => ?_) (fun _ _ _ _ _ z => z.elim)
                    obtain ⟨rfl, rfl, hdc, hds⟩ := hp518946
                    change G _ _ _ _ _ _ _ (.int p514776 :: _) _ _ _
                    refine G_widen (cs' := 0) (sl' := 0) (by omega) (by omega) ?_
                    refine G_icmp_ge 125 dr_cX17_findDepth_81 (by decide +kernel) (fun hc518949 => ?_) (fun hc518949 => ?_)
                    · have r518950 : p514776.toInt ≤ g518941.toInt := gC_le hc518949
                      have bg518941' : gB g518941 1 1000000 := ⟨by omega, by omega⟩
                      refine G_lload 1 dr_cX17_findDepth_125 rfl ?_
                      refine G_lconst 0 dr_cX17_findDepth_127 rfl ?_
                      refine G_lcmp dr_cX17_findDepth_128 (G_nam fun z518951 hz518951 => ?_)
                      have bz518951 : gB z518951 (-1) 1 := gB_cmp hz518951
                      refine G_if_ne 135 dr_cX17_findDepth_129 (by decide +kernel) (fun hc518952 => ?_) (fun hc518952 => ?_)
                      · have r518953 : z518951.toInt ≠ 0 := gj_neq hc518952 (show Int32.toInt 0 = 0 by decide)
                        have lhc518952 := gC_cmpN hz518951 hc518952
                        refine G_lload 1 dr_cX17_findDepth_135 rfl ?_
                        refine G_lconst 1 dr_cX17_findDepth_137 rfl ?_
                        refine G_iload 3 dr_cX17_findDepth_138 rfl ?_
                        refine G_lshl dr_cX17_findDepth_140 (G_namL fun u518954 hu518954 => ?_)
                        have qu518954 : lb_Q u518954 (g517528.toInt % 64 + 1) := lb_Qshl hu518954 (by omega)
                        refine G_lor dr_cX17_findDepth_141 (G_namL fun u518955 hu518955 => ?_)
                        have pmu518955 : rpop gl518942 ≤ rpop u518955 := rpop_or hu518955
                        refine G_lstore (L' := [(7, .long u518955), (9, .int g518941), (5, .long u517631), (4, .int g517528), (2, .long ol514805), (0, .ref q398676), (1, .ref q398677)]) dr_cX17_findDepth_142 (Nat.le_of_ble_eq_true rfl) rfl ?_
                        refine G_iconst 1 dr_cX17_findDepth_144 (by decide +kernel) ?_
                        refine G_istore (L' := [(9, .int 1), (7, .long u518955), (5, .long u517631), (4, .int g517528), (2, .long ol514805), (0, .ref q398676), (1, .ref q398677)]) dr_cX17_findDepth_145 (Nat.le_of_ble_eq_true rfl) rfl ?_
                        have hlp147_519569 : ∀ (n147_519569 : Nat) (g519567 : Int32) (gl519568 : Int64), gB g519567 0 1 → rpop gl519568 ≤ 64 → (64 - rpop gl519568) + ((g519567.toInt : Int)).toNat < n147_519569 → G (gV D I) l (gRm 5 112 0 0) (gMA (gV D I) (pt_398679_SpillForgeModel_findDepth D I γ el P398674 F398675 q398676 q398677) gNA 0 0) ky_398679_SpillForgeModel_findDepth 147 [(9, .int g519567), (7, .long gl519568), (5, .long u517631), (4, .int g517528), (2, .long ol514805), (0, .ref q398676), (1, .ref q398677)] [] (va_pl P398674 F517529) 0 0 := by
                          intro n147_519569
                          induction n147_519569 with
                          | zero => intro g519567 gl519568 bg519567 x519569 hm147_519569; exact absurd hm147_519569 (Nat.not_lt_zero _)
                          | succ n147_519569 ih147_519569 =>
                            intro g519567 gl519568 bg519567 x519569 hm147_519569
                            refine G_iload 0 dr_cX17_findDepth_147 rfl ?_
                            refine G_if_eq 297 dr_cX17_findDepth_149 (by decide +kernel) (fun hc519571 => ?_) (fun hc519571 => ?_)
                            · have r519572 : g519567.toInt = 0 := gj_eq hc519571 (show Int32.toInt 0 = 0 by decide)
                              have bg519567' : gB g519567 0 0 := gB_t0 r519572
                              refine G_iconst 0 dr_cX17_findDepth_297 (by decide +kernel) ?_
                              refine G_istore (L' := [(10, .int 0), (9, .int g519567), (7, .long gl519568), (5, .long u517631), (4, .int g517528), (2, .long ol514805), (0, .ref q398676), (1, .ref q398677)]) dr_cX17_findDepth_298 (Nat.le_of_ble_eq_true rfl) rfl ?_
                              have hlp300_519616 : ∀ (n300_519616 : Nat) (F519612 : Nat → va_E) (g519611 : Int32), gB g519611 0 1000000 → RS D I P398674 F519612 γ el → rStr γ [] F398675 F519612 → (F519612 q398676 = F398675 q398676) → (F519612 (γ 9 3) = F398675 (γ 9 3)) → ((1000001 : Int) - g519611.toInt).toNat < n300_519616 → G (gV D I) l (gRm 5 112 0 0) (gMA (gV D I) (pt_398679_SpillForgeModel_findDepth D I γ el P398674 F398675 q398676 q398677) gNA 0 0) ky_398679_SpillForgeModel_findDepth 300 [(10, .int g519611), (9, .int g519567), (7, .long gl519568), (5, .long u517631), (4, .int g517528), (2, .long ol514805), (0, .ref q398676), (1, .ref q398677)] [] (va_pl P398674 F519612) 0 0 := by
                                intro n300_519616
                                induction n300_519616 with
                                | zero => intro F519612 g519611 bg519611 hT519613 hs519614 x519615 x519616 hm300_519616; exact absurd hm300_519616 (Nat.not_lt_zero _)
                                | succ n300_519616 ih300_519616 =>
                                  intro F519612 g519611 bg519611 hT519613 hs519614 x519615 x519616 hm300_519616
                                  have hs519618 : rStr γ [] F517529 F519612 := fun b h0 hb hw => (hs519614 b h0 hb hw).trans (hs517531 b h0 hb hw).symm
                                  have he519619 : F519612 q398677 = .inr (18, [.ref q514773, .ref q514774, .int p514775, .int p514776]) := (hs519618 q398677 (rT0 htq398677 (by decide)) (rT1 htq398677 (by decide)) (rT2 htq398677 (by decide))).trans he517536
                                  have hs519620 : rStr γ [] F398675 F519612 := rStr_tr hs517531 hs519618
                                  have he519621 : F519612 q398676 = .inr (22, [.ref (γ 9 0), .ref (γ 9 1), .ref (γ 9 2), .ref (γ 9 3), .ref (γ 9 4), .ref (γ 9 5), .ref (γ 9 6), .ref (γ 9 7), .ref (γ 9 8), .int p398684, .int p398685, .int p398686, .int p398687, .int p398688, .int p398689, .ref (γ 9 15), .ref (γ 9 16), .ref (γ 9 17), .ref (γ 9 18), .ref (γ 9 19), .ref (γ 9 20), .ref (γ 9 21), .ref (γ 9 22), .int p398690, .int p398691, .int p398692, .int p398693, .int p398694, .ref q398682, .ref (γ 9 29), .int p398695, .ref (γ 9 31), .int p398696, .int p398697, .int p398698, .ref q398683]) := x519615.trans he398681
                                  have hm519622 : q398676 ∈ P398674 := RS_m hT519613 htq398676 (by decide)
                                  refine G_iload 0 dr_cX17_findDepth_300 rfl ?_
                                  refine G_aload_n 7 dr_cX17_findDepth_302 rfl ?_
                                  refine Gw_callV (As := []) (gV_ok D I) (cp_12496_Code_size l hl0 D I P398674 F519612 q398677 q514773 q514774 p514775 p514776 hm514771 he519619) dr_cX17_findDepth_303 ⟨wr_10_160, wr_1_15, wr_9_131, by decide, rfl, (Nat.le_of_ble_eq_true rfl), (Nat.le_of_ble_eq_true rfl)⟩ wr_9_129 wr_9_130 hm514771 he519619 rfl (show 0 + 0 ≤ 0 by first | omega | decide) (show 0 + 0 ≤ 0 by first | omega | decide) (Nat.le_of_ble_eq_true rfl) (fun r519626 w519627 dc519623 ds519624 hp519625 => ?_) (fun _ _ _ _ _ z => z.elim)
                                  obtain ⟨rfl, rfl, hdc, hds⟩ := hp519625
                                  change G _ _ _ _ _ _ _ (.int p514776 :: _) _ _ _
                                  refine G_widen (cs' := 0) (sl' := 0) (by omega) (by omega) ?_
                                  refine G_icmp_ge 333 dr_cX17_findDepth_306 (by decide +kernel) (fun hc519628 => ?_) (fun hc519628 => ?_)
                                  · have r519629 : p514776.toInt ≤ g519611.toInt := gC_le hc519628
                                    have bg519611' : gB g519611 1 1000000 := ⟨by omega, by omega⟩
                                    obtain ⟨z519630, hz519630⟩ : ∃ z : Int32, z = g517528 + Int32.ofInt 1 := ⟨_, rfl⟩
                                    have ez519630 : z519630.toInt = g517528.toInt + 1 := gI_inc hz519630 (by decide) bg517528' (by decide) (by decide)
                                    have bz519630 : gB z519630 1 1000000 := ⟨by omega, by omega⟩
                                    refine G_iinc (L' := [(4, .int z519630), (10, .int g519611), (9, .int g519567), (7, .long gl519568), (5, .long u517631), (2, .long ol514805), (0, .ref q398676), (1, .ref q398677)]) z519630 4 dr_cX17_findDepth_333 rfl hz519630.symm (Nat.le_of_ble_eq_true rfl) rfl ?_
                                    refine G_goto 32 dr_cX17_findDepth_336 (by decide +kernel) ?_
                                    refine G_lv (L' := [(4, .int z519630), (2, .long ol514805), (0, .ref q398676), (1, .ref q398677)]) [0, 5, 6, 7] rfl ?_
                                    exact ih32_517533 F519612 z519630 (gB_w bz519630 (by decide) (by decide)) hT519613 hs519614 x519615 x519616 (mz_up ez519630 (Int.le_trans bg517528'.2 (by decide)) hm32_517533)
                                  · have r519631 : g519611.toInt < p514776.toInt := gC_nle hc519628
                                    have bg519611' : gB g519611 0 999999 := ⟨by omega, by omega⟩
                                    refine G_aload_n 6 dr_cX17_findDepth_309 rfl ?_
                                    refine Gp_get 4 hm519622 he519621 dr_cX17_findDepth_310 (gk_X17 D I) (Nat.le_of_ble_eq_true rfl) wr_7_78 rfl ?_
                                    refine G_iload 0 dr_cX17_findDepth_313 rfl ?_
                                    refine G_dup2_11 dr_cX17_findDepth_315 rfl rfl ?_
                                    have hm519632 : (γ 9 4) ∈ P398674 := RS_m hT519613 ht398705 (by decide)
                                    obtain ⟨f519634, he519633⟩ := show rk_16 I (F519612 (γ 9 4)) from RS_o hT519613 ht398705
                                    refine Gp_iald 0 hm519632 he519633 dr_cX17_findDepth_316 rfl (gB_inr (by omega) (by omega)) (G_nam fun z519635 hz519635 => ?_)
                                    have bz519635 : gB z519635 (-2147483648) 2147483647 := gB_any z519635
                                    refine G_lload 2 dr_cX17_findDepth_317 rfl ?_
                                    refine G_iload 0 dr_cX17_findDepth_319 rfl ?_
                                    refine G_lushr dr_cX17_findDepth_321 (G_namL fun u519636 hu519636 => ?_)
                                    refine G_lconst 1 dr_cX17_findDepth_322 rfl ?_
                                    refine G_land dr_cX17_findDepth_323 (G_namL fun u519637 hu519637 => ?_)
                                    refine G_l2i dr_cX17_findDepth_324 (G_nam fun z519638 hz519638 => ?_)
                                    have bz519638 : gB z519638 (-2147483648) 2147483647 := gB_any z519638
                                    refine G_iadd dr_cX17_findDepth_325 (G_nam fun z519639 hz519639 => ?_)
                                    have bz519639 : gB z519639 (-2147483648) 2147483647 := gB_any z519639
                                    refine Gp_iast 0 hm519632 he519633 dr_cX17_findDepth_326 rfl (gB_inr (by omega) (by omega)) (fun F519640 e519641 n519642 => ?_)
                                    obtain ⟨f519643, hf519643⟩ : ∃ z, z = upd f519634 g519611.toNatClampNeg z519639 := ⟨_, rfl⟩
                                    rw [← hf519643] at e519641
                                    have he519644 : F519640 q398677 = .inr (18, [.ref q514773, .ref q514774, .int p514775, .int p514776]) := (n519642 q398677 (rn_oa he519619 he519633)).trans he519619
                                    have he519645 : F519640 q398676 = .inr (22, [.ref (γ 9 0), .ref (γ 9 1), .ref (γ 9 2), .ref (γ 9 3), .ref (γ 9 4), .ref (γ 9 5), .ref (γ 9 6), .ref (γ 9 7), .ref (γ 9 8), .int p398684, .int p398685, .int p398686, .int p398687, .int p398688, .int p398689, .ref (γ 9 15), .ref (γ 9 16), .ref (γ 9 17), .ref (γ 9 18), .ref (γ 9 19), .ref (γ 9 20), .ref (γ 9 21), .ref (γ 9 22), .int p398690, .int p398691, .int p398692, .int p398693, .int p398694, .ref q398682, .ref (γ 9 29), .int p398695, .ref (γ 9 31), .int p398696, .int p398697, .int p398698, .ref q398683]) := (n519642 q398676 (rn_oa he519621 he519633)).trans he519621
                                    have he519646 : F519640 (γ 9 4) = .inl (I .int, 40, .inl f519643) := e519641
                                    have hs519647 : rStr γ [] F398675 F519640 := rStr_put hs519614 n519642 ht398705 (by decide)
                                    have kp519648 : F519640 q398676 = F398675 q398676 := (n519642 q398676 (rn_ty htq398676 ht398705 (by decide))).trans x519615
                                    have kp519649 : F519640 (γ 9 3) = F398675 (γ 9 3) := (n519642 (γ 9 3) (rn_ty ht398704 ht398705 (by decide))).trans x519616
                                    obtain ⟨z519650, hz519650⟩ : ∃ z : Int32, z = g519611 + Int32.ofInt 1 := ⟨_, rfl⟩
                                    have ez519650 : z519650.toInt = g519611.toInt + 1 := gI_inc hz519650 (by decide) bg519611' (by decide) (by decide)
                                    have bz519650 : gB z519650 1 1000000 := ⟨by omega, by omega⟩
                                    refine G_iinc (L' := [(10, .int z519650), (9, .int g519567), (7, .long gl519568), (5, .long u517631), (4, .int g517528), (2, .long ol514805), (0, .ref q398676), (1, .ref q398677)]) z519650 0 dr_cX17_findDepth_327 rfl hz519650.symm (Nat.le_of_ble_eq_true rfl) rfl ?_
                                    refine G_goto 300 dr_cX17_findDepth_330 (by decide +kernel) ?_
                                    have hT519651 : RS D I P398674 F519640 γ el := RS_set hT519613 n519642 ht398705 (by decide) ⟨f519643, he519646⟩
                                    exact ih300_519616 F519640 z519650 (gB_w bz519650 (by decide) (by decide)) hT519651 hs519647 kp519648 kp519649 (mz_up ez519650 (Int.le_trans bg519611'.2 (by decide)) hm300_519616)
                              exact hlp300_519616 (((1000001 : Int) - 0).toNat + 1) F517529 0 (gB_w (gBl (show Int32.toInt 0 = 0 by decide)) (by decide) (by decide)) hT517530 hs517531 x517532 x517533 (Nat.lt_succ_self _)
                            · have r519652 : g519567.toInt ≠ 0 := gj_neq hc519571 (show Int32.toInt 0 = 0 by decide)
                              have bg519567' : gB g519567 1 1 := gB_t1 bg519567 r519652
                              refine G_iconst 0 dr_cX17_findDepth_152 (by decide +kernel) ?_
                              refine G_istore (L' := [(9, .int 0), (7, .long gl519568), (5, .long u517631), (4, .int g517528), (2, .long ol514805), (0, .ref q398676), (1, .ref q398677)]) dr_cX17_findDepth_153 (Nat.le_of_ble_eq_true rfl) rfl ?_
                              refine G_iconst 0 dr_cX17_findDepth_155 (by decide +kernel) ?_
                              refine G_istore (L' := [(10, .int 0), (9, .int 0), (7, .long gl519568), (5, .long u517631), (4, .int g517528), (2, .long ol514805), (0, .ref q398676), (1, .ref q398677)]) dr_cX17_findDepth_156 (Nat.le_of_ble_eq_true rfl) rfl ?_
                              have hlp158_519919 : ∀ (n158_519919 : Nat) (g519915 : Int32) (g519916 : Int32) (gl519917 : Int64), gB g519915 0 1000000 → gB g519916 0 1 → rpop gl519917 ≤ 64 → rpop gl519568 + ((g519916.toInt : Int)).toNat ≤ rpop gl519917 → ((1000001 : Int) - g519915.toInt).toNat < n158_519919 → G (gV D I) l (gRm 5 112 0 0) (gMA (gV D I) (pt_398679_SpillForgeModel_findDepth D I γ el P398674 F398675 q398676 q398677) gNA 0 0) ky_398679_SpillForgeModel_findDepth 158 [(10, .int g519915), (9, .int g519916), (7, .long gl519917), (5, .long u517631), (4, .int g517528), (2, .long ol514805), (0, .ref q398676), (1, .ref q398677)] [] (va_pl P398674 F517529) 0 0 := by
                                intro n158_519919
                                induction n158_519919 with
                                | zero => intro g519915 g519916 gl519917 bg519915 bg519916 x519918 x519919 hm158_519919; exact absurd hm158_519919 (Nat.not_lt_zero _)
                                | succ n158_519919 ih158_519919 =>
                                  intro g519915 g519916 gl519917 bg519915 bg519916 x519918 x519919 hm158_519919
                                  refine G_iload 0 dr_cX17_findDepth_158 rfl ?_
                                  refine G_aload_n 7 dr_cX17_findDepth_160 rfl ?_
                                  refine Gw_callV (As := []) (gV_ok D I) (cp_12496_Code_size l hl0 D I P398674 F517529 q398677 q514773 q514774 p514775 p514776 hm514771 he517536) dr_cX17_findDepth_161 ⟨wr_10_160, wr_1_15, wr_9_131, by decide, rfl, (Nat.le_of_ble_eq_true rfl), (Nat.le_of_ble_eq_true rfl)⟩ wr_9_129 wr_9_130 hm514771 he517536 rfl (show 0 + 0 ≤ 0 by first | omega | decide) (show 0 + 0 ≤ 0 by first | omega | decide) (Nat.le_of_ble_eq_true rfl) (fun r519924 w519925 dc519921 ds519922 hp519923 => ?_) (fun _ _ _ _ _ z => z.elim)
                                  obtain ⟨rfl, rfl, hdc, hds⟩ := hp519923
                                  change G _ _ _ _ _ _ _ (.int p514776 :: _) _ _ _
                                  refine G_widen (cs' := 0) (sl' := 0) (by omega) (by omega) ?_
                                  refine G_icmp_ge 294 dr_cX17_findDepth_164 (by decide +kernel) (fun hc519926 => ?_) (fun hc519926 => ?_)
                                  · have r519927 : p514776.toInt ≤ g519915.toInt := gC_le hc519926
                                    have bg519915' : gB g519915 1 1000000 := ⟨by omega, by omega⟩
                                    refine G_goto 147 dr_cX17_findDepth_294 (by decide +kernel) ?_
                                    refine G_lv (L' := [(9, .int g519916), (7, .long gl519917), (5, .long u517631), (4, .int g517528), (2, .long ol514805), (0, .ref q398676), (1, .ref q398677)]) [1, 2, 3, 4, 5, 6, 7] rfl ?_
                                    exact ih147_519569 g519916 gl519917 bg519916 (rpop_le gl519917) (by omega)
                                  · have r519928 : g519915.toInt < p514776.toInt := gC_nle hc519926
                                    have bg519915' : gB g519915 0 999999 := ⟨by omega, by omega⟩
                                    refine G_lload 2 dr_cX17_findDepth_167 rfl ?_
                                    refine G_iload 0 dr_cX17_findDepth_169 rfl ?_
                                    refine G_lushr dr_cX17_findDepth_171 (G_namL fun u519929 hu519929 => ?_)
                                    refine G_lconst 1 dr_cX17_findDepth_172 rfl ?_
                                    refine G_land dr_cX17_findDepth_173 (G_namL fun u519930 hu519930 => ?_)
                                    refine G_lconst 0 dr_cX17_findDepth_174 rfl ?_
                                    refine G_lcmp dr_cX17_findDepth_175 (G_nam fun z519931 hz519931 => ?_)
                                    have bz519931 : gB z519931 (-1) 1 := gB_cmp hz519931
                                    refine G_if_ne 288 dr_cX17_findDepth_176 (by decide +kernel) (fun hc519932 => ?_) (fun hc519932 => ?_)
                                    · have r519933 : z519931.toInt ≠ 0 := gj_neq hc519932 (show Int32.toInt 0 = 0 by decide)
                                      have lhc519932 := gC_cmpN hz519931 hc519932
                                      obtain ⟨z519934, hz519934⟩ : ∃ z : Int32, z = g519915 + Int32.ofInt 1 := ⟨_, rfl⟩
                                      have ez519934 : z519934.toInt = g519915.toInt + 1 := gI_inc hz519934 (by decide) bg519915' (by decide) (by decide)
                                      have bz519934 : gB z519934 1 1000000 := ⟨by omega, by omega⟩
                                      refine G_iinc (L' := [(10, .int z519934), (9, .int g519916), (7, .long gl519917), (5, .long u517631), (4, .int g517528), (2, .long ol514805), (0, .ref q398676), (1, .ref q398677)]) z519934 0 dr_cX17_findDepth_288 rfl hz519934.symm (Nat.le_of_ble_eq_true rfl) rfl ?_
                                      refine G_goto 158 dr_cX17_findDepth_291 (by decide +kernel) ?_
                                      exact ih158_519919 z519934 g519916 gl519917 (gB_w bz519934 (by decide) (by decide)) bg519916 (rpop_le gl519917) (by omega) (mz_up ez519934 (Int.le_trans bg519915'.2 (by decide)) hm158_519919)
                                    · have r519935 : z519931.toInt = 0 := gj_eq hc519932 (show Int32.toInt 0 = 0 by decide)
                                      have bz519931' : gB z519931 0 0 := ⟨by omega, by omega⟩
                                      have lhc519932 := gC_cmpE hz519931 hc519932
                                      have zhc519932 := rbit_0 hu519929 hu519930 lhc519932 (by omega) (by omega)
                                      refine G_lload_n 5 dr_cX17_findDepth_179 rfl ?_
                                      refine G_iload 0 dr_cX17_findDepth_180 rfl ?_
                                      refine G_lushr dr_cX17_findDepth_182 (G_namL fun u519936 hu519936 => ?_)
                                      refine G_lconst 1 dr_cX17_findDepth_183 rfl ?_
                                      refine G_land dr_cX17_findDepth_184 (G_namL fun u519937 hu519937 => ?_)
                                      refine G_lconst 0 dr_cX17_findDepth_185 rfl ?_
                                      refine G_lcmp dr_cX17_findDepth_186 (G_nam fun z519938 hz519938 => ?_)
                                      have bz519938 : gB z519938 (-1) 1 := gB_cmp hz519938
                                      refine G_if_ne 193 dr_cX17_findDepth_187 (by decide +kernel) (fun hc519939 => ?_) (fun hc519939 => ?_)
                                      · have r519940 : z519938.toInt ≠ 0 := gj_neq hc519939 (show Int32.toInt 0 = 0 by decide)
                                        have lhc519939 := gC_cmpN hz519938 hc519939
                                        refine G_iconst 0 dr_cX17_findDepth_193 (by decide +kernel) ?_
                                        refine G_istore (L' := [(11, .int 0), (10, .int g519915), (9, .int g519916), (7, .long gl519917), (5, .long u517631), (4, .int g517528), (2, .long ol514805), (0, .ref q398676), (1, .ref q398677)]) dr_cX17_findDepth_194 (Nat.le_of_ble_eq_true rfl) rfl ?_
                                        refine G_iconst 0 dr_cX17_findDepth_196 (by decide +kernel) ?_
                                        refine G_istore (L' := [(12, .int 0), (11, .int 0), (10, .int g519915), (9, .int g519916), (7, .long gl519917), (5, .long u517631), (4, .int g517528), (2, .long ol514805), (0, .ref q398676), (1, .ref q398677)]) dr_cX17_findDepth_197 (Nat.le_of_ble_eq_true rfl) rfl ?_
                                        have hlp199_520060 : ∀ (n199_520060 : Nat) (g520059 : Int32) (g520060 : Int32), gB g520059 0 2 → gB g520060 0 1 → ((3 : Int) - g520059.toInt).toNat < n199_520060 → G (gV D I) l (gRm 5 112 0 0) (gMA (gV D I) (pt_398679_SpillForgeModel_findDepth D I γ el P398674 F398675 q398676 q398677) gNA 0 0) ky_398679_SpillForgeModel_findDepth 199 [(12, .int g520059), (11, .int g520060), (10, .int g519915), (9, .int g519916), (7, .long gl519917), (5, .long u517631), (4, .int g517528), (2, .long ol514805), (0, .ref q398676), (1, .ref q398677)] [] (va_pl P398674 F517529) 0 0 := by
                                          intro n199_520060
                                          induction n199_520060 with
                                          | zero => intro g520059 g520060 bg520059 bg520060 hm199_520060; exact absurd hm199_520060 (Nat.not_lt_zero _)
                                          | succ n199_520060 ih199_520060 =>
                                            intro g520059 g520060 bg520059 bg520060 hm199_520060
                                            refine G_iload 0 dr_cX17_findDepth_199 rfl ?_
                                            refine G_aload_n 9 dr_cX17_findDepth_201 rfl ?_
                                            refine G_iload 2 dr_cX17_findDepth_202 rfl ?_
                                            have hm520062 : q514773 ∈ P398674 := RS_m hT517530 ht514777 (by decide)
                                            obtain ⟨⟨p520064, p520065, q520066, he520063, r520067, r520068, r520069, r520071⟩, r520070⟩ := show rk_4 D I γ el F517529 q514773 from RS_o hT517530 ht514777
                                            have bp520064 := gB_any p520064
                                            have bp520065 : gB p520065 0 1000000 := ⟨by omega, by omega⟩
                                            obtain ⟨r520072, r520073, n520080, f520081, r520074, r520075, r520076, r520077, r520078, r520079⟩ := rLC_n r520069 (by omega)
                                            have hm520082 : q520066 ∈ P398674 := RS_m hT517530 r520072 (by decide)
                                            obtain ⟨q520083, hx520084⟩ : ∃ x, x = el q514773 g519915.toInt.toNat := ⟨_, rfl⟩
                                            have hx520085 : f520081 g519915.toNatClampNeg = some q520083 := (r520078 _ (show g519915.toInt.toNat < γ 2 q514773 by omega)).trans (by rw [hx520084])
                                            have ht520088 : rKd γ q520083 2 := by rw [hx520084]; exact (r514788 _ (by omega)).resolve_right (fun z => absurd z.1 (by omega))
                                            have ht520089 : rFm γ q520083 q514773 := by rw [hx520084]; exact (r520070 _ (show g519915.toInt.toNat < γ 2 q514773 by omega)).2.1
                                            have hm520090 : q520083 ∈ P398674 := RS_m hT517530 ht520088 (by decide)
                                            obtain ⟨q520092, q520093, p520094, p520095, he520091, ht520102, ht520096, ht520097, ht520098, ht520099, ht520100, bp520094, bp520095, r520101, r520103, r520104⟩ := show rk_2 γ q520083 (F517529 q520083) from RS_o hT517530 ht520088
                                            refine Gw_callV (As := [.int g519915]) (gV_ok D I) (cp_7737_Code_get l hl0 D I P398674 F517529 q398677 q514773 q520066 g519915 q514774 p514775 p514776 p520064 p520065 f520081 n520080 q520083 q520092 q520093 p520094 p520095 hm514771 hm520062 hm520082 hm520090 he517536 he520063 r520074 he520091 (gB_w bg519915' (by decide) (by decide)) (gB_w bp520065 (by decide) (by decide)) (by omega) (by omega) (by assumption) (by omega)) dr_cX17_findDepth_204 ⟨wr_10_161, wr_1_15, wr_10_141, by decide, rfl, (Nat.le_of_ble_eq_true rfl), (Nat.le_of_ble_eq_true rfl)⟩ wr_10_139 wr_10_140 hm514771 he517536 rfl (show 0 + 0 ≤ 0 by first | omega | decide) (show 0 + 0 ≤ 0 by first | omega | decide) (Nat.le_of_ble_eq_true rfl) (fun r520108 w520109 dc520105 ds520106 hp520107 => ?_) (fun _ _ _ _ _ z => z.elim)
                                            obtain ⟨rfl, rfl, hdc, hds⟩ := hp520107
                                            change G _ _ _ _ _ _ _ (.ref q520083 :: _) _ _ _
                                            refine G_widen (cs' := 0) (sl' := 0) (by omega) (by omega) ?_
                                            have hm520110 : q520093 ∈ P398674 := RS_m hT517530 ht520098 (by decide)
                                            obtain ⟨p520112, p520113, p520114, p520115, p520116, p520117, p520118, he520111, bp520112, bp520113, bp520116, bp520117, bp520118, r520119, r520120, r520121, r520122, r520123⟩ := show rk_1 γ q520093 (F517529 q520093) from RS_o hT517530 ht520098
                                            have bp520114 := gB_any p520114
                                            have bp520115 := gB_any p520115
                                            refine Gw_callV (As := []) (gV_ok D I) (cp_1809_Block_ways l hl0 D I P398674 F517529 q520083 q520093 q520092 p520094 p520095 p520112 p520113 p520114 p520115 p520116 p520117 p520118 hm520090 hm520110 he520091 he520111 bp520094 bp520095 bp520112 bp520113 bp520116 bp520117 bp520118) dr_cX17_findDepth_207 ⟨wr_10_166, wr_1_38, wr_10_169, by decide, rfl, (Nat.le_of_ble_eq_true rfl), (Nat.le_of_ble_eq_true rfl)⟩ wr_10_167 wr_10_168 hm520090 he520091 rfl (show 0 + 0 ≤ 0 by first | omega | decide) (show 0 + 0 ≤ 0 by first | omega | decide) (Nat.le_of_ble_eq_true rfl) (fun r520127 w520128 dc520124 ds520125 hp520126 => ?_) (fun _ _ _ _ _ z => z.elim)
                                            obtain ⟨o520129, rfl, rfl, hdc, hds, bo520129⟩ := hp520126
                                            change G _ _ _ _ _ _ _ (.int o520129 :: _) _ _ _
                                            refine G_widen (cs' := 0) (sl' := 0) (by omega) (by omega) ?_
                                            refine G_icmp_ge 268 dr_cX17_findDepth_210 (by decide +kernel) (fun hc520130 => ?_) (fun hc520130 => ?_)
                                            · have r520131 : o520129.toInt ≤ g520059.toInt := gC_le hc520130
                                              refine G_iload 1 dr_cX17_findDepth_268 rfl ?_
                                              refine G_if_ne 276 dr_cX17_findDepth_270 (by decide +kernel) (fun hc520132 => ?_) (fun hc520132 => ?_)
                                              · have r520133 : g520060.toInt ≠ 0 := gj_neq hc520132 (show Int32.toInt 0 = 0 by decide)
                                                have bg520060' : gB g520060 1 1 := gB_t1 bg520060 r520133
                                                refine G_lload 4 dr_cX17_findDepth_276 rfl ?_
                                                refine G_lconst 1 dr_cX17_findDepth_278 rfl ?_
                                                refine G_iload 2 dr_cX17_findDepth_279 rfl ?_
                                                refine G_lshl dr_cX17_findDepth_281 (G_namL fun u520134 hu520134 => ?_)
                                                have qu520134 : lb_Q u520134 (g519915.toInt % 64 + 1) := lb_Qshl hu520134 (by omega)
                                                refine G_lor dr_cX17_findDepth_282 (G_namL fun u520135 hu520135 => ?_)
                                                have pmu520135 : rpop gl519917 ≤ rpop u520135 := rpop_or hu520135
                                                have pnu520135 : rpop gl519917 + 1 ≤ rpop u520135 := rpop_new hu520135 hu520134 (by omega) (by omega) zhc519932
                                                refine G_lstore (L' := [(7, .long u520135), (12, .int g520059), (11, .int g520060), (10, .int g519915), (9, .int g519916), (5, .long u517631), (4, .int g517528), (2, .long ol514805), (0, .ref q398676), (1, .ref q398677)]) dr_cX17_findDepth_283 (Nat.le_of_ble_eq_true rfl) rfl ?_
                                                refine G_iconst 1 dr_cX17_findDepth_285 (by decide +kernel) ?_
                                                refine G_istore (L' := [(9, .int 1), (7, .long u520135), (12, .int g520059), (11, .int g520060), (10, .int g519915), (5, .long u517631), (4, .int g517528), (2, .long ol514805), (0, .ref q398676), (1, .ref q398677)]) dr_cX17_findDepth_286 (Nat.le_of_ble_eq_true rfl) rfl ?_
                                                obtain ⟨z520136, hz520136⟩ : ∃ z : Int32, z = g519915 + Int32.ofInt 1 := ⟨_, rfl⟩
                                                have ez520136 : z520136.toInt = g519915.toInt + 1 := gI_inc hz520136 (by decide) bg519915' (by decide) (by decide)
                                                have bz520136 : gB z520136 1 1000000 := ⟨by omega, by omega⟩
                                                refine G_iinc (L' := [(10, .int z520136), (9, .int 1), (7, .long u520135), (12, .int g520059), (11, .int g520060), (5, .long u517631), (4, .int g517528), (2, .long ol514805), (0, .ref q398676), (1, .ref q398677)]) z520136 4 dr_cX17_findDepth_288 rfl hz520136.symm (Nat.le_of_ble_eq_true rfl) rfl ?_
                                                refine G_goto 158 dr_cX17_findDepth_291 (by decide +kernel) ?_
                                                refine G_lv (L' := [(10, .int z520136), (9, .int 1), (7, .long u520135), (5, .long u517631), (4, .int g517528), (2, .long ol514805), (0, .ref q398676), (1, .ref q398677)]) [0, 1, 2, 5, 6, 7, 8, 9] rfl ?_
                                                exact ih158_519919 z520136 1 u520135 (gB_w bz520136 (by decide) (by decide)) (gB_w (gBl (show Int32.toInt 1 = 1 by decide)) (by decide) (by decide)) (rpop_le u520135) (by have qa0 : Int32.toInt 1 = 1 := (by decide); omega) (mz_up ez520136 (Int.le_trans bg519915'.2 (by decide)) hm158_519919)
                                              · have r520137 : g520060.toInt = 0 := gj_eq hc520132 (show Int32.toInt 0 = 0 by decide)
                                                have bg520060' : gB g520060 0 0 := gB_t0 r520137
                                                refine G_goto 288 dr_cX17_findDepth_273 (by decide +kernel) ?_
                                                obtain ⟨z520138, hz520138⟩ : ∃ z : Int32, z = g519915 + Int32.ofInt 1 := ⟨_, rfl⟩
                                                have ez520138 : z520138.toInt = g519915.toInt + 1 := gI_inc hz520138 (by decide) bg519915' (by decide) (by decide)
                                                have bz520138 : gB z520138 1 1000000 := ⟨by omega, by omega⟩
                                                refine G_iinc (L' := [(10, .int z520138), (12, .int g520059), (11, .int g520060), (9, .int g519916), (7, .long gl519917), (5, .long u517631), (4, .int g517528), (2, .long ol514805), (0, .ref q398676), (1, .ref q398677)]) z520138 2 dr_cX17_findDepth_288 rfl hz520138.symm (Nat.le_of_ble_eq_true rfl) rfl ?_
                                                refine G_goto 158 dr_cX17_findDepth_291 (by decide +kernel) ?_
                                                refine G_lv (L' := [(10, .int z520138), (9, .int g519916), (7, .long gl519917), (5, .long u517631), (4, .int g517528), (2, .long ol514805), (0, .ref q398676), (1, .ref q398677)]) [0, 3, 4, 5, 6, 7, 8, 9] rfl ?_
                                                exact ih158_519919 z520138 g519916 gl519917 (gB_w bz520138 (by decide) (by decide)) bg519916 (rpop_le gl519917) (by omega) (mz_up ez520138 (Int.le_trans bg519915'.2 (by decide)) hm158_519919)
                                            · have r520139 : g520059.toInt < o520129.toInt := gC_nle hc520130
                                              have bg520059' : gB g520059 0 1 := ⟨by omega, by omega⟩
                                              have bo520129' : gB o520129 1 2 := ⟨by omega, by omega⟩
                                              refine G_iload 1 dr_cX17_findDepth_213 rfl ?_
                                              refine G_if_ne 255 dr_cX17_findDepth_215 (by decide +kernel) (fun hc520140 => ?_) (fun hc520140 => ?_)
                                              · have r520141 : g520060.toInt ≠ 0 := gj_neq hc520140 (show Int32.toInt 0 = 0 by decide)
                                                have bg520060' : gB g520060 1 1 := gB_t1 bg520060 r520141
                                                refine G_iconst 1 dr_cX17_findDepth_255 (by decide +kernel) ?_
                                                refine G_goto 260 dr_cX17_findDepth_256 (by decide +kernel) ?_
                                                refine G_istore (L' := [(11, .int 1), (12, .int g520059), (10, .int g519915), (9, .int g519916), (7, .long gl519917), (5, .long u517631), (4, .int g517528), (2, .long ol514805), (0, .ref q398676), (1, .ref q398677)]) dr_cX17_findDepth_260 (Nat.le_of_ble_eq_true rfl) rfl ?_
                                                obtain ⟨z520142, hz520142⟩ : ∃ z : Int32, z = g520059 + Int32.ofInt 1 := ⟨_, rfl⟩
                                                have ez520142 : z520142.toInt = g520059.toInt + 1 := gI_inc hz520142 (by decide) bg520059' (by decide) (by decide)
                                                have bz520142 : gB z520142 1 2 := ⟨by omega, by omega⟩
                                                refine G_iinc (L' := [(12, .int z520142), (11, .int 1), (10, .int g519915), (9, .int g519916), (7, .long gl519917), (5, .long u517631), (4, .int g517528), (2, .long ol514805), (0, .ref q398676), (1, .ref q398677)]) z520142 1 dr_cX17_findDepth_262 rfl hz520142.symm (Nat.le_of_ble_eq_true rfl) rfl ?_
                                                refine G_goto 199 dr_cX17_findDepth_265 (by decide +kernel) ?_
                                                exact ih199_520060 z520142 1 (gB_w bz520142 (by decide) (by decide)) (gB_w (gBl (show Int32.toInt 1 = 1 by decide)) (by decide) (by decide)) (mz_up ez520142 (Int.le_trans bg520059'.2 (by decide)) hm199_520060)
                                              · have r520143 : g520060.toInt = 0 := gj_eq hc520140 (show Int32.toInt 0 = 0 by decide)
                                                have bg520060' : gB g520060 0 0 := gB_t0 r520143
                                                refine G_aload_n 9 dr_cX17_findDepth_218 rfl ?_
                                                refine G_iload 2 dr_cX17_findDepth_219 rfl ?_
                                                refine Gw_callV (As := [.int g519915]) (gV_ok D I) (cp_7737_Code_get l hl0 D I P398674 F517529 q398677 q514773 q520066 g519915 q514774 p514775 p514776 p520064 p520065 f520081 n520080 q520083 q520092 q520093 p520094 p520095 hm514771 hm520062 hm520082 hm520090 he517536 he520063 r520074 he520091 (gB_w bg519915' (by decide) (by decide)) (gB_w bp520065 (by decide) (by decide)) (by omega) (by omega) (by assumption) (by omega)) dr_cX17_findDepth_221 ⟨wr_10_161, wr_1_15, wr_10_141, by decide, rfl, (Nat.le_of_ble_eq_true rfl), (Nat.le_of_ble_eq_true rfl)⟩ wr_10_139 wr_10_140 hm514771 he517536 rfl (show 0 + 0 ≤ 0 by first | omega | decide) (show 0 + 0 ≤ 0 by first | omega | decide) (Nat.le_of_ble_eq_true rfl) (fun r520147 w520148 dc520144 ds520145 hp520146 => ?_) (fun _ _ _ _ _ z => z.elim)
                                                obtain ⟨rfl, rfl, hdc, hds⟩ := hp520146
                                                change G _ _ _ _ _ _ _ (.ref q520083 :: _) _ _ _
                                                refine G_widen (cs' := 0) (sl' := 0) (by omega) (by omega) ?_
                                                refine G_iload 0 dr_cX17_findDepth_224 rfl ?_
                                                refine Gw_callV (As := [.int g520059]) (gV_ok D I) (cp_5050_Block_way l hl0 D I P398674 F517529 q520083 q520093 g520059 q520092 p520094 p520095 p520112 p520113 p520114 p520115 p520116 p520117 p520118 hm520090 hm520110 he520091 he520111 bp520094 bp520095 bp520112 bp520113 bp520116 bp520117 bp520118) dr_cX17_findDepth_226 ⟨wr_10_170, wr_1_38, wr_10_173, by decide, rfl, (Nat.le_of_ble_eq_true rfl), (Nat.le_of_ble_eq_true rfl)⟩ wr_10_171 wr_10_172 hm520090 he520091 rfl (show 0 + 0 ≤ 0 by first | omega | decide) (show 0 + 0 ≤ 0 by first | omega | decide) (Nat.le_of_ble_eq_true rfl) (fun r520152 w520153 dc520149 ds520150 hp520151 => ?_) (fun _ _ _ _ _ z => z.elim)
                                                obtain ⟨o520154, rfl, rfl, hdc, hds, bo520154⟩ := hp520151
                                                change G _ _ _ _ _ _ _ (.int o520154 :: _) _ _ _
                                                refine G_widen (cs' := 0) (sl' := 0) (by omega) (by omega) ?_
                                                refine G_iload 6 dr_cX17_findDepth_229 rfl ?_
                                                refine G_icmp_eq 259 dr_cX17_findDepth_231 (by decide +kernel) (fun hc520155 => ?_) (fun hc520155 => ?_)
                                                · have r520156 : o520154.toInt = g517528.toInt := gC_eq hc520155
                                                  have bg517528'' : gB g517528 0 39 := ⟨by omega, by omega⟩
                                                  refine G_iconst 0 dr_cX17_findDepth_259 (by decide +kernel) ?_
                                                  refine G_istore (L' := [(11, .int 0), (12, .int g520059), (10, .int g519915), (9, .int g519916), (7, .long gl519917), (5, .long u517631), (4, .int g517528), (2, .long ol514805), (0, .ref q398676), (1, .ref q398677)]) dr_cX17_findDepth_260 (Nat.le_of_ble_eq_true rfl) rfl ?_
                                                  obtain ⟨z520157, hz520157⟩ : ∃ z : Int32, z = g520059 + Int32.ofInt 1 := ⟨_, rfl⟩
                                                  have ez520157 : z520157.toInt = g520059.toInt + 1 := gI_inc hz520157 (by decide) bg520059' (by decide) (by decide)
                                                  have bz520157 : gB z520157 1 2 := ⟨by omega, by omega⟩
                                                  refine G_iinc (L' := [(12, .int z520157), (11, .int 0), (10, .int g519915), (9, .int g519916), (7, .long gl519917), (5, .long u517631), (4, .int g517528), (2, .long ol514805), (0, .ref q398676), (1, .ref q398677)]) z520157 1 dr_cX17_findDepth_262 rfl hz520157.symm (Nat.le_of_ble_eq_true rfl) rfl ?_
                                                  refine G_goto 199 dr_cX17_findDepth_265 (by decide +kernel) ?_
                                                  exact ih199_520060 z520157 0 (gB_w bz520157 (by decide) (by decide)) (gB_w (gBl (show Int32.toInt 0 = 0 by decide)) (by decide) (by decide)) (mz_up ez520157 (Int.le_trans bg520059'.2 (by decide)) hm199_520060)
                                                · have r520158 : o520154.toInt ≠ g517528.toInt := gC_ne hc520155
                                                  refine G_lload 4 dr_cX17_findDepth_234 rfl ?_
                                                  refine G_aload_n 9 dr_cX17_findDepth_236 rfl ?_
                                                  refine G_iload 2 dr_cX17_findDepth_237 rfl ?_
                                                  refine Gw_callV (As := [.int g519915]) (gV_ok D I) (cp_7737_Code_get l hl0 D I P398674 F517529 q398677 q514773 q520066 g519915 q514774 p514775 p514776 p520064 p520065 f520081 n520080 q520083 q520092 q520093 p520094 p520095 hm514771 hm520062 hm520082 hm520090 he517536 he520063 r520074 he520091 (gB_w bg519915' (by decide) (by decide)) (gB_w bp520065 (by decide) (by decide)) (by omega) (by omega) (by assumption) (by omega)) dr_cX17_findDepth_239 ⟨wr_10_161, wr_1_15, wr_10_141, by decide, rfl, (Nat.le_of_ble_eq_true rfl), (Nat.le_of_ble_eq_true rfl)⟩ wr_10_139 wr_10_140 hm514771 he517536 rfl (show 0 + 0 ≤ 0 by first | omega | decide) (show 0 + 0 ≤ 0 by first | omega | decide) (Nat.le_of_ble_eq_true rfl) (fun r520162 w520163 dc520159 ds520160 hp520161 => ?_) (fun _ _ _ _ _ z => z.elim)
                                                  obtain ⟨rfl, rfl, hdc, hds⟩ := hp520161
                                                  change G _ _ _ _ _ _ _ (.ref q520083 :: _) _ _ _
                                                  refine G_widen (cs' := 0) (sl' := 0) (by omega) (by omega) ?_
                                                  refine G_iload 0 dr_cX17_findDepth_242 rfl ?_
                                                  refine Gw_callV (As := [.int g520059]) (gV_ok D I) (cp_5050_Block_way l hl0 D I P398674 F517529 q520083 q520093 g520059 q520092 p520094 p520095 p520112 p520113 p520114 p520115 p520116 p520117 p520118 hm520090 hm520110 he520091 he520111 bp520094 bp520095 bp520112 bp520113 bp520116 bp520117 bp520118) dr_cX17_findDepth_244 ⟨wr_10_170, wr_1_38, wr_10_173, by decide, rfl, (Nat.le_of_ble_eq_true rfl), (Nat.le_of_ble_eq_true rfl)⟩ wr_10_171 wr_10_172 hm520090 he520091 rfl (show 0 + 0 ≤ 0 by first | omega | decide) (show 0 + 0 ≤ 0 by first | omega | decide) (Nat.le_of_ble_eq_true rfl) (fun r520167 w520168 dc520164 ds520165 hp520166 => ?_) (fun _ _ _ _ _ z => z.elim)
                                                  obtain ⟨o520169, rfl, rfl, hdc, hds, bo520169⟩ := hp520166
                                                  change G _ _ _ _ _ _ _ (.int o520169 :: _) _ _ _
                                                  refine G_widen (cs' := 0) (sl' := 0) (by omega) (by omega) ?_
                                                  refine G_lushr dr_cX17_findDepth_247 (G_namL fun u520170 hu520170 => ?_)
                                                  refine G_lconst 1 dr_cX17_findDepth_248 rfl ?_
                                                  refine G_land dr_cX17_findDepth_249 (G_namL fun u520171 hu520171 => ?_)
                                                  refine G_lconst 0 dr_cX17_findDepth_250 rfl ?_
                                                  refine G_lcmp dr_cX17_findDepth_251 (G_nam fun z520172 hz520172 => ?_)
                                                  have bz520172 : gB z520172 (-1) 1 := gB_cmp hz520172
                                                  refine G_if_eq 259 dr_cX17_findDepth_252 (by decide +kernel) (fun hc520173 => ?_) (fun hc520173 => ?_)
                                                  · have r520174 : z520172.toInt = 0 := gj_eq hc520173 (show Int32.toInt 0 = 0 by decide)
                                                    have bz520172' : gB z520172 0 0 := ⟨by omega, by omega⟩
                                                    have lhc520173 := gC_cmpE hz520172 hc520173
                                                    have zhc520173 := rbit_0 hu520170 hu520171 lhc520173 (by omega) (by omega)
                                                    refine G_iconst 0 dr_cX17_findDepth_259 (by decide +kernel) ?_
                                                    refine G_istore (L' := [(11, .int 0), (12, .int g520059), (10, .int g519915), (9, .int g519916), (7, .long gl519917), (5, .long u517631), (4, .int g517528), (2, .long ol514805), (0, .ref q398676), (1, .ref q398677)]) dr_cX17_findDepth_260 (Nat.le_of_ble_eq_true rfl) rfl ?_
                                                    obtain ⟨z520175, hz520175⟩ : ∃ z : Int32, z = g520059 + Int32.ofInt 1 := ⟨_, rfl⟩
                                                    have ez520175 : z520175.toInt = g520059.toInt + 1 := gI_inc hz520175 (by decide) bg520059' (by decide) (by decide)
                                                    have bz520175 : gB z520175 1 2 := ⟨by omega, by omega⟩
                                                    refine G_iinc (L' := [(12, .int z520175), (11, .int 0), (10, .int g519915), (9, .int g519916), (7, .long gl519917), (5, .long u517631), (4, .int g517528), (2, .long ol514805), (0, .ref q398676), (1, .ref q398677)]) z520175 1 dr_cX17_findDepth_262 rfl hz520175.symm (Nat.le_of_ble_eq_true rfl) rfl ?_
                                                    refine G_goto 199 dr_cX17_findDepth_265 (by decide +kernel) ?_
                                                    exact ih199_520060 z520175 0 (gB_w bz520175 (by decide) (by decide)) (gB_w (gBl (show Int32.toInt 0 = 0 by decide)) (by decide) (by decide)) (mz_up ez520175 (Int.le_trans bg520059'.2 (by decide)) hm199_520060)
                                                  · have r520176 : z520172.toInt ≠ 0 := gj_neq hc520173 (show Int32.toInt 0 = 0 by decide)
                                                    have lhc520173 := gC_cmpN hz520172 hc520173
                                                    refine G_iconst 1 dr_cX17_findDepth_255 (by decide +kernel) ?_
                                                    refine G_goto 260 dr_cX17_findDepth_256 (by decide +kernel) ?_
                                                    refine G_istore (L' := [(11, .int 1), (12, .int g520059), (10, .int g519915), (9, .int g519916), (7, .long gl519917), (5, .long u517631), (4, .int g517528), (2, .long ol514805), (0, .ref q398676), (1, .ref q398677)]) dr_cX17_findDepth_260 (Nat.le_of_ble_eq_true rfl) rfl ?_
                                                    obtain ⟨z520177, hz520177⟩ : ∃ z : Int32, z = g520059 + Int32.ofInt 1 := ⟨_, rfl⟩
                                                    have ez520177 : z520177.toInt = g520059.toInt + 1 := gI_inc hz520177 (by decide) bg520059' (by decide) (by decide)
                                                    have bz520177 : gB z520177 1 2 := ⟨by omega, by omega⟩
                                                    refine G_iinc (L' := [(12, .int z520177), (11, .int 1), (10, .int g519915), (9, .int g519916), (7, .long gl519917), (5, .long u517631), (4, .int g517528), (2, .long ol514805), (0, .ref q398676), (1, .ref q398677)]) z520177 1 dr_cX17_findDepth_262 rfl hz520177.symm (Nat.le_of_ble_eq_true rfl) rfl ?_
                                                    refine G_goto 199 dr_cX17_findDepth_265 (by decide +kernel) ?_
                                                    exact ih199_520060 z520177 1 (gB_w bz520177 (by decide) (by decide)) (gB_w (gBl (show Int32.toInt 1 = 1 by decide)) (by decide) (by decide)) (mz_up ez520177 (Int.le_trans bg520059'.2 (by decide)) hm199_520060)
                                        exact hlp199_520060 (((3 : Int) - 0).toNat + 1) 0 0 (gB_w (gBl (show Int32.toInt 0 = 0 by decide)) (by decide) (by decide)) (gB_w (gBl (show Int32.toInt 0 = 0 by decide)) (by decide) (by decide)) (Nat.lt_succ_self _)
                                      · have r520178 : z519938.toInt = 0 := gj_eq hc519939 (show Int32.toInt 0 = 0 by decide)
                                        have bz519938' : gB z519938 0 0 := ⟨by omega, by omega⟩
                                        have lhc519939 := gC_cmpE hz519938 hc519939
                                        refine G_goto 288 dr_cX17_findDepth_190 (by decide +kernel) ?_
                                        obtain ⟨z520179, hz520179⟩ : ∃ z : Int32, z = g519915 + Int32.ofInt 1 := ⟨_, rfl⟩
                                        have ez520179 : z520179.toInt = g519915.toInt + 1 := gI_inc hz520179 (by decide) bg519915' (by decide) (by decide)
                                        have bz520179 : gB z520179 1 1000000 := ⟨by omega, by omega⟩
                                        refine G_iinc (L' := [(10, .int z520179), (9, .int g519916), (7, .long gl519917), (5, .long u517631), (4, .int g517528), (2, .long ol514805), (0, .ref q398676), (1, .ref q398677)]) z520179 0 dr_cX17_findDepth_288 rfl hz520179.symm (Nat.le_of_ble_eq_true rfl) rfl ?_
                                        refine G_goto 158 dr_cX17_findDepth_291 (by decide +kernel) ?_
                                        exact ih158_519919 z520179 g519916 gl519917 (gB_w bz520179 (by decide) (by decide)) bg519916 (rpop_le gl519917) (by omega) (mz_up ez520179 (Int.le_trans bg519915'.2 (by decide)) hm158_519919)
                              exact hlp158_519919 (((1000001 : Int) - 0).toNat + 1) 0 0 gl519568 (gB_w (gBl (show Int32.toInt 0 = 0 by decide)) (by decide) (by decide)) (gB_w (gBl (show Int32.toInt 0 = 0 by decide)) (by decide) (by decide)) (rpop_le gl519568) (by have qa0 : Int32.toInt 0 = 0 := (by decide); omega) (Nat.lt_succ_self _)
                        exact hlp147_519569 ((64 - rpop u518955) + ((1 : Int)).toNat + 1) 1 u518955 (gB_w (gBl (show Int32.toInt 1 = 1 by decide)) (by decide) (by decide)) (rpop_le u518955) (Nat.lt_succ_self _)
                      · have r520180 : z518951.toInt = 0 := gj_eq hc518952 (show Int32.toInt 0 = 0 by decide)
                        have bz518951' : gB z518951 0 0 := ⟨by omega, by omega⟩
                        have lhc518952 := gC_cmpE hz518951 hc518952
                        refine G_goto 333 dr_cX17_findDepth_132 (by decide +kernel) ?_
                        obtain ⟨z520181, hz520181⟩ : ∃ z : Int32, z = g517528 + Int32.ofInt 1 := ⟨_, rfl⟩
                        have ez520181 : z520181.toInt = g517528.toInt + 1 := gI_inc hz520181 (by decide) bg517528' (by decide) (by decide)
                        have bz520181 : gB z520181 1 1000000 := ⟨by omega, by omega⟩
                        refine G_iinc (L' := [(4, .int z520181), (9, .int g518941), (7, .long gl518942), (5, .long u517631), (2, .long ol514805), (0, .ref q398676), (1, .ref q398677)]) z520181 3 dr_cX17_findDepth_333 rfl hz520181.symm (Nat.le_of_ble_eq_true rfl) rfl ?_
                        refine G_goto 32 dr_cX17_findDepth_336 (by decide +kernel) ?_
                        refine G_lv (L' := [(4, .int z520181), (2, .long ol514805), (0, .ref q398676), (1, .ref q398677)]) [0, 4, 5, 6] rfl ?_
                        exact ih32_517533 F517529 z520181 (gB_w bz520181 (by decide) (by decide)) hT517530 hs517531 x517532 x517533 (mz_up ez520181 (Int.le_trans bg517528'.2 (by decide)) hm32_517533)
                    · have r520182 : g518941.toInt < p514776.toInt := gC_nle hc518949
                      have bg518941' : gB g518941 0 999999 := ⟨by omega, by omega⟩
                      refine G_lload 2 dr_cX17_findDepth_84 rfl ?_
                      refine G_iload 0 dr_cX17_findDepth_86 rfl ?_
                      refine G_lushr dr_cX17_findDepth_88 (G_namL fun u520183 hu520183 => ?_)
                      refine G_lconst 1 dr_cX17_findDepth_89 rfl ?_
                      refine G_land dr_cX17_findDepth_90 (G_namL fun u520184 hu520184 => ?_)
                      refine G_lconst 0 dr_cX17_findDepth_91 rfl ?_
                      refine G_lcmp dr_cX17_findDepth_92 (G_nam fun z520185 hz520185 => ?_)
                      have bz520185 : gB z520185 (-1) 1 := gB_cmp hz520185
                      refine G_if_eq 119 dr_cX17_findDepth_93 (by decide +kernel) (fun hc520186 => ?_) (fun hc520186 => ?_)
                      · have r520187 : z520185.toInt = 0 := gj_eq hc520186 (show Int32.toInt 0 = 0 by decide)
                        have bz520185' : gB z520185 0 0 := ⟨by omega, by omega⟩
                        have lhc520186 := gC_cmpE hz520185 hc520186
                        obtain ⟨z520188, hz520188⟩ : ∃ z : Int32, z = g518941 + Int32.ofInt 1 := ⟨_, rfl⟩
                        have ez520188 : z520188.toInt = g518941.toInt + 1 := gI_inc hz520188 (by decide) bg518941' (by decide) (by decide)
                        have bz520188 : gB z520188 1 1000000 := ⟨by omega, by omega⟩
                        refine G_iinc (L' := [(9, .int z520188), (7, .long gl518942), (5, .long u517631), (4, .int g517528), (2, .long ol514805), (0, .ref q398676), (1, .ref q398677)]) z520188 0 dr_cX17_findDepth_119 rfl hz520188.symm (Nat.le_of_ble_eq_true rfl) rfl ?_
                        refine G_goto 75 dr_cX17_findDepth_122 (by decide +kernel) ?_
                        exact ih75_518942 z520188 gl518942 (gB_w bz520188 (by decide) (by decide)) (mz_up ez520188 (Int.le_trans bg518941'.2 (by decide)) hm75_518942)
                      · have r520189 : z520185.toInt ≠ 0 := gj_neq hc520186 (show Int32.toInt 0 = 0 by decide)
                        have lhc520186 := gC_cmpN hz520185 hc520186
                        refine G_aload_n 6 dr_cX17_findDepth_96 rfl ?_
                        refine G_iload 0 dr_cX17_findDepth_97 rfl ?_
                        have hm520190 : q514773 ∈ P398674 := RS_m hT517530 ht514777 (by decide)
                        obtain ⟨⟨p520192, p520193, q520194, he520191, r520195, r520196, r520197, r520199⟩, r520198⟩ := show rk_4 D I γ el F517529 q514773 from RS_o hT517530 ht514777
                        have bp520192 := gB_any p520192
                        have bp520193 : gB p520193 0 1000000 := ⟨by omega, by omega⟩
                        obtain ⟨r520200, r520201, n520208, f520209, r520202, r520203, r520204, r520205, r520206, r520207⟩ := rLC_n r520197 (by omega)
                        have hm520210 : q520194 ∈ P398674 := RS_m hT517530 r520200 (by decide)
                        obtain ⟨q520211, hx520212⟩ : ∃ x, x = el q514773 g518941.toInt.toNat := ⟨_, rfl⟩
                        have hx520213 : f520209 g518941.toNatClampNeg = some q520211 := (r520206 _ (show g518941.toInt.toNat < γ 2 q514773 by omega)).trans (by rw [hx520212])
                        have ht520216 : rKd γ q520211 2 := by rw [hx520212]; exact (r514788 _ (by omega)).resolve_right (fun z => absurd z.1 (by omega))
                        have ht520217 : rFm γ q520211 q514773 := by rw [hx520212]; exact (r520198 _ (show g518941.toInt.toNat < γ 2 q514773 by omega)).2.1
                        have hm520218 : q520211 ∈ P398674 := RS_m hT517530 ht520216 (by decide)
                        obtain ⟨q520220, q520221, p520222, p520223, he520219, ht520230, ht520224, ht520225, ht520226, ht520227, ht520228, bp520222, bp520223, r520229, r520231, r520232⟩ := show rk_2 γ q520211 (F517529 q520211) from RS_o hT517530 ht520216
                        refine Gw_callV (As := [.int g518941]) (gV_ok D I) (cp_7737_Code_get l hl0 D I P398674 F517529 q398677 q514773 q520194 g518941 q514774 p514775 p514776 p520192 p520193 f520209 n520208 q520211 q520220 q520221 p520222 p520223 hm514771 hm520190 hm520210 hm520218 he517536 he520191 r520202 he520219 (gB_w bg518941' (by decide) (by decide)) (gB_w bp520193 (by decide) (by decide)) (by omega) (by omega) (by assumption) (by omega)) dr_cX17_findDepth_99 ⟨wr_10_161, wr_1_15, wr_10_141, by decide, rfl, (Nat.le_of_ble_eq_true rfl), (Nat.le_of_ble_eq_true rfl)⟩ wr_10_139 wr_10_140 hm514771 he517536 rfl (show 0 + 0 ≤ 0 by first | omega | decide) (show 0 + 0 ≤ 0 by first | omega | decide) (Nat.le_of_ble_eq_true rfl) (fun r520236 w520237 dc520233 ds520234 hp520235 => ?_) (fun _ _ _ _ _ z => z.elim)
                        obtain ⟨rfl, rfl, hdc, hds⟩ := hp520235
                        change G _ _ _ _ _ _ _ (.ref q520211 :: _) _ _ _
                        refine G_widen (cs' := 0) (sl' := 0) (by omega) (by omega) ?_
                        refine G_iload 3 dr_cX17_findDepth_102 rfl ?_
                        refine Gw_callS (As := [.ref q520211, .int g517528]) (gV_ok D I) (ct_7444_SpillForgeModel_leads l hl0 D I γ el P398674 F517529 q520211 g517528 hT517530 ht520216) dr_cX17_findDepth_104 ⟨wr_11_44, wr_1_14, wr_11_46, by decide, rfl, (Nat.le_of_ble_eq_true rfl), (Nat.le_of_ble_eq_true rfl)⟩ wr_11_45 (show 0 + 0 ≤ 0 by first | omega | decide) (show 0 + 0 ≤ 0 by first | omega | decide) (Nat.le_of_ble_eq_true rfl) (fun r520241 w520242 dc520238 ds520239 hp520240 => ?_) (fun _ _ _ _ _ z => z.elim)
                        obtain ⟨o520243, rfl, rfl, hdc, hds, bo520243⟩ := hp520240
                        change G _ _ _ _ _ _ _ (.int o520243 :: _) _ _ _
                        refine G_widen (cs' := 0) (sl' := 0) (by omega) (by omega) ?_
                        refine G_if_eq 119 dr_cX17_findDepth_107 (by decide +kernel) (fun hc520244 => ?_) (fun hc520244 => ?_)
                        · have r520245 : o520243.toInt = 0 := gj_eq hc520244 (show Int32.toInt 0 = 0 by decide)
                          have bo520243' : gB o520243 0 0 := gB_t0 r520245
                          obtain ⟨z520246, hz520246⟩ : ∃ z : Int32, z = g518941 + Int32.ofInt 1 := ⟨_, rfl⟩
                          have ez520246 : z520246.toInt = g518941.toInt + 1 := gI_inc hz520246 (by decide) bg518941' (by decide) (by decide)
                          have bz520246 : gB z520246 1 1000000 := ⟨by omega, by omega⟩
                          refine G_iinc (L' := [(9, .int z520246), (7, .long gl518942), (5, .long u517631), (4, .int g517528), (2, .long ol514805), (0, .ref q398676), (1, .ref q398677)]) z520246 0 dr_cX17_findDepth_119 rfl hz520246.symm (Nat.le_of_ble_eq_true rfl) rfl ?_
                          refine G_goto 75 dr_cX17_findDepth_122 (by decide +kernel) ?_
                          exact ih75_518942 z520246 gl518942 (gB_w bz520246 (by decide) (by decide)) (mz_up ez520246 (Int.le_trans bg518941'.2 (by decide)) hm75_518942)
                        · have r520247 : o520243.toInt ≠ 0 := gj_neq hc520244 (show Int32.toInt 0 = 0 by decide)
                          have bo520243' : gB o520243 1 1 := gB_t1 bo520243 r520247
                          refine G_lload 1 dr_cX17_findDepth_110 rfl ?_
                          refine G_lconst 1 dr_cX17_findDepth_112 rfl ?_
                          refine G_iload 0 dr_cX17_findDepth_113 rfl ?_
                          refine G_lshl dr_cX17_findDepth_115 (G_namL fun u520248 hu520248 => ?_)
                          have qu520248 : lb_Q u520248 (g518941.toInt % 64 + 1) := lb_Qshl hu520248 (by omega)
                          refine G_lor dr_cX17_findDepth_116 (G_namL fun u520249 hu520249 => ?_)
                          have pmu520249 : rpop gl518942 ≤ rpop u520249 := rpop_or hu520249
                          refine G_lstore (L' := [(7, .long u520249), (9, .int g518941), (5, .long u517631), (4, .int g517528), (2, .long ol514805), (0, .ref q398676), (1, .ref q398677)]) dr_cX17_findDepth_117 (Nat.le_of_ble_eq_true rfl) rfl ?_
                          obtain ⟨z520250, hz520250⟩ : ∃ z : Int32, z = g518941 + Int32.ofInt 1 := ⟨_, rfl⟩
                          have ez520250 : z520250.toInt = g518941.toInt + 1 := gI_inc hz520250 (by decide) bg518941' (by decide) (by decide)
                          have bz520250 : gB z520250 1 1000000 := ⟨by omega, by omega⟩
                          refine G_iinc (L' := [(9, .int z520250), (7, .long u520249), (5, .long u517631), (4, .int g517528), (2, .long ol514805), (0, .ref q398676), (1, .ref q398677)]) z520250 1 dr_cX17_findDepth_119 rfl hz520250.symm (Nat.le_of_ble_eq_true rfl) rfl ?_
                          refine G_goto 75 dr_cX17_findDepth_122 (by decide +kernel) ?_
                          exact ih75_518942 z520250 u520249 (gB_w bz520250 (by decide) (by decide)) (mz_up ez520250 (Int.le_trans bg518941'.2 (by decide)) hm75_518942)
                exact hlp75_518942 (((1000001 : Int) - 0).toNat + 1) 0 0 (gB_w (gBl (show Int32.toInt 0 = 0 by decide)) (by decide) (by decide)) (Nat.lt_succ_self _)
              · have r520251 : z517621.toInt = 0 := gj_eq hc517622 (show Int32.toInt 0 = 0 by decide)
                have bz517621' : gB z517621 0 0 := ⟨by omega, by omega⟩
                have lhc517622 := gC_cmpE hz517621 hc517622
                refine G_goto 333 dr_cX17_findDepth_52 (by decide +kernel) ?_
                obtain ⟨z520252, hz520252⟩ : ∃ z : Int32, z = g517528 + Int32.ofInt 1 := ⟨_, rfl⟩
                have ez520252 : z520252.toInt = g517528.toInt + 1 := gI_inc hz520252 (by decide) bg517528' (by decide) (by decide)
                have bz520252 : gB z520252 1 1000000 := ⟨by omega, by omega⟩
                refine G_iinc (L' := [(4, .int z520252), (2, .long ol514805), (0, .ref q398676), (1, .ref q398677)]) z520252 0 dr_cX17_findDepth_333 rfl hz520252.symm (Nat.le_of_ble_eq_true rfl) rfl ?_
                refine G_goto 32 dr_cX17_findDepth_336 (by decide +kernel) ?_
                exact ih32_517533 F517529 z520252 (gB_w bz520252 (by decide) (by decide)) hT517530 hs517531 x517532 x517533 (mz_up ez520252 (Int.le_trans bg517528'.2 (by decide)) hm32_517533)
        exact hlp32_517533 (((1000001 : Int) - 0).toNat + 1) F514761 0 (gB_w (gBl (show Int32.toInt 0 = 0 by decide)) (by decide) (by decide)) hT514762 hs514763 x514764 x514765 (Nat.lt_succ_self _)
      · have r520253 : g514760.toInt < p514776.toInt := gC_nle hc514798
        have bg514760' : gB g514760 0 999999 := ⟨by omega, by omega⟩
        have bp514776' : gB p514776 1 1000000 := ⟨by omega, by omega⟩
        refine G_aload_n 1 dr_cX17_findDepth_10 rfl ?_
        refine Gp_get 4 hm514770 he514769 dr_cX17_findDepth_11 (gk_X17 D I) (Nat.le_of_ble_eq_true rfl) wr_7_78 rfl ?_
        refine G_iload_n 0 dr_cX17_findDepth_14 rfl ?_
        refine G_iconst 0 dr_cX17_findDepth_15 (by decide +kernel) ?_
        have hm520254 : (γ 9 4) ∈ P398674 := RS_m hT514762 ht398705 (by decide)
        obtain ⟨f520256, he520255⟩ := show rk_16 I (F514761 (γ 9 4)) from RS_o hT514762 ht398705
        refine Gp_iast 0 hm520254 he520255 dr_cX17_findDepth_16 rfl (gB_inr (by omega) (by omega)) (fun F520257 e520258 n520259 => ?_)
        obtain ⟨f520260, hf520260⟩ : ∃ z, z = upd f520256 g514760.toNatClampNeg 0 := ⟨_, rfl⟩
        rw [← hf520260] at e520258
        have he520261 : F520257 q398676 = .inr (22, [.ref (γ 9 0), .ref (γ 9 1), .ref (γ 9 2), .ref (γ 9 3), .ref (γ 9 4), .ref (γ 9 5), .ref (γ 9 6), .ref (γ 9 7), .ref (γ 9 8), .int p398684, .int p398685, .int p398686, .int p398687, .int p398688, .int p398689, .ref (γ 9 15), .ref (γ 9 16), .ref (γ 9 17), .ref (γ 9 18), .ref (γ 9 19), .ref (γ 9 20), .ref (γ 9 21), .ref (γ 9 22), .int p398690, .int p398691, .int p398692, .int p398693, .int p398694, .ref q398682, .ref (γ 9 29), .int p398695, .ref (γ 9 31), .int p398696, .int p398697, .int p398698, .ref q398683]) := (n520259 q398676 (rn_oa he514769 he520255)).trans he514769
        have he520262 : F520257 q398677 = .inr (18, [.ref q514773, .ref q514774, .int p514775, .int p514776]) := (n520259 q398677 (rn_oa he514772 he520255)).trans he514772
        have he520263 : F520257 (γ 9 4) = .inl (I .int, 40, .inl f520260) := e520258
        have hs520264 : rStr γ [] F398675 F520257 := rStr_put hs514763 n520259 ht398705 (by decide)
        have kp520265 : F520257 q398676 = F398675 q398676 := (n520259 q398676 (rn_ty htq398676 ht398705 (by decide))).trans x514764
        have kp520266 : F520257 (γ 9 3) = F398675 (γ 9 3) := (n520259 (γ 9 3) (rn_ty ht398704 ht398705 (by decide))).trans x514765
        obtain ⟨z520267, hz520267⟩ : ∃ z : Int32, z = g514760 + Int32.ofInt 1 := ⟨_, rfl⟩
        have ez520267 : z520267.toInt = g514760.toInt + 1 := gI_inc hz520267 (by decide) bg514760' (by decide) (by decide)
        have bz520267 : gB z520267 1 1000000 := ⟨by omega, by omega⟩
        refine G_iinc (L' := [(2, .int z520267), (0, .ref q398676), (1, .ref q398677)]) z520267 0 dr_cX17_findDepth_17 rfl hz520267.symm (Nat.le_of_ble_eq_true rfl) rfl ?_
        refine G_goto 2 dr_cX17_findDepth_20 (by decide +kernel) ?_
        have hT520268 : RS D I P398674 F520257 γ el := RS_set hT514762 n520259 ht398705 (by decide) ⟨f520260, he520263⟩
        exact ih2_514765 F520257 z520267 (gB_w bz520267 (by decide) (by decide)) hT520268 hs520264 kp520265 kp520266 (mz_up ez520267 (Int.le_trans bg514760'.2 (by decide)) hm2_514765)
  exact hlp2_514765 (((1000001 : Int) - 0).toNat + 1) F398675 0 (gB_w (gBl (show Int32.toInt 0 = 0 by decide)) (by decide) (by decide)) hT (rStr_rf (γ := γ) (W := []) (F := F398675)) rfl rfl (Nat.lt_succ_self _)
