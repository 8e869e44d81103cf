abbrev ky_407264_SpillForgeModel_load : gKey := (cX17_load, 6, "SpillForgeModel", (some FieldType.int), [], "load", fun _ _ => True)
def pg_407264_SpillForgeModel_load (D : va_G) (I : FieldType → ClassId) (γ0 el0 : Nat → Nat → Nat) (f : Nat) (B : Nat) (P407251 : List Nat) (F407252 : Nat → va_E) (q407253 : Nat) (q407254 : Nat) (q407255 : Nat) (p407256 : Int32) (p407257 : Int32) (jx407258 : Nat) : Option Value → va_W → Nat → Nat → Prop := fun r w dc ds => ∃ (P407614 : List Nat) (F407615 : Nat → va_E) (γ el : Nat → Nat → Nat) (o407613 : Int32), r = some (.int o407613) ∧ w = va_pl P407614 F407615 ∧ rSk f [101] ([3, 5, 6, 8, 9, 10, 101]) D I P407251 F407252 γ0 el0 P407614 F407615 γ el ∧ (18 * dc + rPh γ0 el0 f ≤ rPh γ el f ∧ ds + rPh γ0 el0 f ≤ rPh γ el f) ∧ rBd γ el f B ∧ gB o407613 (-1) 1999 ∧ γ 6 f = γ0 6 f ∧ γ 7 f = γ0 7 f ∧ γ 18 f = γ0 18 f ∧ (γ 14 q407255 = γ0 14 q407255 ∧ jx407258 < γ 2 (γ 14 q407254) ∧ el (γ 14 q407254) jx407258 = q407255) ∧ (o407613.toInt < 0 ∨ (o407613.toInt = (fI (F407252 q407253) 14).toInt ∧ o407613.toInt < 2000 ∧ (fI (F407615 q407253) 14).toInt = o407613.toInt + 1 ∧ γ 16 f = γ0 16 f + 1 ∧ γ 2 (γ 14 q407255) = γ0 2 (γ0 14 q407255) + 1)) ∧ (fI (F407615 q407253) 11).toInt = (fI (F407252 q407253) 11).toInt ∧ (o407613.toInt < 0 ∨ rInsP γ0 el0 F407252 γ el F407615 q407254 f jx407258 (p407256.toInt : Int).toNat (o407613.toInt : Int).toNat) ∧ (o407613.toInt < 0 ∨ ∀ j : Nat, (p407256.toInt : Int).toNat ≤ j → rAt γ el q407254 jx407258 (j + 1) = rAt γ0 el0 q407254 jx407258 j) ∧ mKp (F407252 q407253) (F407615 q407253)
set_option maxRecDepth 100000 in
set_option maxHeartbeats 1500000 in
theorem cg_407264_SpillForgeModel_load (l : Launch) (hl0 : l.stackTraces = false) (D : va_G) (I : FieldType → ClassId) (γ0 el0 : Nat → Nat → Nat) (f : Nat) (B : Nat) (P407251 : List Nat) (F407252 : Nat → va_E) (q407253 : Nat) (q407254 : Nat) (q407255 : Nat) (p407256 : Int32) (p407257 : Int32) (jx407258 : Nat) (hT0 : RS D I P407251 F407252 γ0 el0) (hzq407253 : rKd γ0 q407253 10) (hzq407254 : rKd γ0 q407254 9) (hzq407255 : rKd γ0 q407255 2) (hf0 : γ0 1 q407254 = f) (hB0 : rBd γ0 el0 f B) (hBk : B ≤ 100000) (hqjjx407258 : jx407258 < γ0 2 (γ0 14 q407254)) (hqejx407258 : el0 (γ0 14 q407254) jx407258 = q407255) (hqfjx407258 : γ0 1 q407255 = f) (bp407256 : gB p407256 0 1000000) (bp407257 : gB p407257 0 1999) (x407259 : p407256.toInt ≤ γ0 2 (γ0 14 q407255)) (x407260 : p407257.toInt < γ0 7 f) (x407261 : γ0 16 f + 1 ≤ B) (x407262 : 0 < γ0 6 f) (x407263 : jx407258 < γ0 6 f) : CtA (gV D I) l yX17_load cX17_load 6 (some FieldType.int) 8 170 (((387 * B + 6000) - rPh γ0 el0 f) / 18) ((387 * B + 6000) - rPh γ0 el0 f) [.ref q407253, .ref q407254, .ref q407255, .int p407256, .int p407257] (va_pl P407251 F407252) (pg_407264_SpillForgeModel_load D I γ0 el0 f B P407251 F407252 q407253 q407254 q407255 p407256 p407257 jx407258) gNA := by
  refine CtA_of hl0 (by decide) (Nat.le_of_ble_eq_true rfl) ?_
  obtain ⟨γ, hγ0⟩ : ∃ z, z = γ0 := ⟨_, rfl⟩
  obtain ⟨el, hel0⟩ : ∃ z, z = el0 := ⟨_, rfl⟩
  have hT : RS D I P407251 F407252 γ el := by rw [hγ0, hel0]; exact hT0
  have hst : rSk f [101] ([3, 5, 6, 8, 9, 10, 101]) D I P407251 F407252 γ0 el0 P407251 F407252 γ el := by rw [hγ0, hel0]; exact rSk_rf hT0
  have hph : rPh γ0 el0 f ≤ rPh γ el f := by rw [hγ0, hel0]; exact Nat.le_refl _
  have hB : rBd γ el f B := by rw [hγ0, hel0]; exact hB0
  have htq407253 : rKd γ q407253 10 := by rw [hγ0]; exact hzq407253
  have htq407254 : rKd γ q407254 9 := by rw [hγ0]; exact hzq407254
  have htq407255 : rKd γ q407255 2 := by rw [hγ0]; exact hzq407255
  have hf1 : γ 1 q407254 = f := by rw [hγ0]; exact hf0
  have hpjjx407258 : jx407258 < γ 2 (γ 14 q407254) := by rw [hγ0]; exact hqjjx407258
  have hpejx407258 : el (γ 14 q407254) jx407258 = q407255 := by rw [hγ0, hel0]; exact hqejx407258
  have hpfjx407258 : γ 1 q407255 = f := by rw [hγ0]; exact hqfjx407258
  have x407259n : p407256.toInt ≤ γ 2 (γ 14 q407255) := by rw [hγ0]; exact x407259
  have x407260n : p407257.toInt < γ 7 f := by rw [hγ0]; exact x407260
  have x407261n : γ 16 f + 1 ≤ B := by rw [hγ0]; exact x407261
  have x407262n : 0 < γ 6 f := by rw [hγ0]; exact x407262
  have x407263n : jx407258 < γ 6 f := by rw [hγ0]; exact x407263
  have pk407265 : rPh γ el f ≤ 387 * B + 6000 := rm_pk (rM_ge hT htq407254 hf1).1 (rM_bd hB)
  refine G_widen (cs' := ((rPh γ el f - rPh γ0 el0 f) / 18)) (sl' := (rPh γ el f - rPh γ0 el0 f)) (Nat.zero_le _) (Nat.zero_le _) ?_
  have r407266 : 0 < γ 6 (γ 1 q407254) := by rw [hf1]; omega
  have lz0 : Int32.toInt 0 = 0 := by decide
  have r407267 : γ 6 f = γ0 6 f := by rw [hγ0]
  have r407268 : γ 7 f = γ0 7 f := by rw [hγ0]
  have r407269 : γ 16 f = γ0 16 f := by rw [hγ0]
  have r407270 : γ 18 f = γ0 18 f := by rw [hγ0]
  have r407271 : γ 19 f = γ0 19 f := by rw [hγ0]
  have sz407272 : γ 2 (γ 14 q407255) = γ0 2 (γ0 14 q407255) := by rw [hγ0]
  have hm407273 : q407253 ∈ P407251 := RS_m hT htq407253 (by decide)
  obtain ⟨q407275, q407276, p407277, p407278, p407279, p407280, p407281, p407282, p407283, p407284, p407285, p407286, p407287, p407288, p407289, p407290, p407291, he407274, hB407318, ht407292, ht407293, ht407294, ht407295, ht407296, ht407297, ht407298, ht407299, ht407300, ht407301, ht407302, ht407303, ht407304, ht407305, ht407306, ht407307, ht407308, ht407309, ht407310, ht407311, ht407312, ht407313, ht407314, ht407315, hB407319⟩ := show rk_10 γ (F407252 q407253) from RS_o hT htq407253
  have ac0_11 : (fI (F407252 q407253) 11).toInt = p407279.toInt := by rw [he407274]; rfl
  have ac0_14 : (fI (F407252 q407253) 14).toInt = p407282.toInt := by rw [he407274]; rfl
  have bp407279 : gB p407279 0 100 := (hB407318.2.2.1)
  have bp407282 : gB p407282 0 2000 := (hB407318.2.2.2.1)
  refine G_aload_n 0 dr_cX17_load_0 rfl ?_
  refine Gp_get 14 hm407273 he407274 dr_cX17_load_1 (gk_X17 D I) (Nat.le_of_ble_eq_true rfl) wr_7_88 rfl ?_
  refine G_sipush 2000 dr_cX17_load_4 (by decide +kernel) ?_
  refine G_icmp_ne 12 dr_cX17_load_7 (by decide +kernel) (fun hc407320 => ?_) (fun hc407320 => ?_)
  · have r407321 : p407282.toInt ≠ 2000 := gj_neq hc407320 (show Int32.toInt 2000 = 2000 by decide)
    have bp407282' : gB p407282 0 1999 := ⟨by omega, by omega⟩
    refine G_aload_n 1 dr_cX17_load_12 rfl ?_
    have rg407322 := rM_ge hT htq407254 hf1
    have rm407323 := rM_bd hB
    have bd407324 := rBd_c hT htq407254 hf1 hB
    have rc407325 := rc_at hT htq407254 hf1
    obtain ⟨q407332, hl407333⟩ : ∃ z, z = γ 14 q407255 := ⟨_, rfl⟩
    have hl407334 : γ 0 q407332 = 3 ∨ γ 0 q407332 = 103 := by rw [hl407333, ← hpejx407258]; exact (RS_lst hT rc407325.2.1 hpjjx407258).1
    refine Gt_row (c := q407254) (f := f) hl0 dr_cX17_load_13 ⟨wr_10_206, wr_1_15, wr_10_82, by decide, rfl, (Nat.le_of_ble_eq_true rfl), (Nat.le_of_ble_eq_true rfl)⟩ wr_10_80 wr_10_81 hT htq407254 hf1 (Nat.le_trans bd407324.2.2.1 (Nat.le_trans hBk (by decide))) (rm_cs hph rg407322.2.1 rm407323 (by decide)) (rm_sl hph rg407322.2.1 rm407323 rm_s18) (Nat.le_of_ble_eq_true rfl) (fun P407326 F407327 γ el q407328 dc407329 ds407330 hq407331 => ?_)
    have ar407336 := fun j => rAt_row hT htq407254 hf1 hq407331 (show jx407258 < _ by omega) j
    rw [hγ0, hel0] at ar407336
    have pr407335 := fun (R : Nat → Nat → va_E → Prop) hN => rPl_row (R := R) hT htq407254 hf1 hq407331 hN
    rw [hγ0, hel0] at pr407335
    obtain ⟨hk407337, x0407338, x1407339, x22407340, x8407341, h16407342, h18407343, hnu407344, hot407345, h45407346, hf0407347, ⟨hr1407348, hr2407349⟩, hM407350, hBB407351⟩ := hq407331
    have hk407352 := rSk_of hk407337
    obtain ⟨nu407353, nu407354, nu407355, nu407356⟩ := hnu407344
    have hT407357 := hk407352.1
    have hs407358 := rSk_tr hst hk407352 (by decide) (by decide) (by decide)
    have r407359 := rSk_F hk407352 htq407253 (by decide) (by decide)
    have ht407360 : rKd γ q407253 10 := rSk_k hk407352 htq407253 (by decide) (by decide)
    have ht407361 : rKd γ q407254 9 := rSk_k hk407352 htq407254 (by decide) (by decide)
    have hf407362 : γ 1 q407254 = f := rSk_1 hk407352 htq407254 (by decide) hf1
    have ht407363 : rKd γ q407255 2 := rSk_k hk407352 htq407255 (by decide) (by decide)
    have hf407364 : γ 1 q407255 = f := rSk_1 hk407352 htq407255 (by decide) hpfjx407258
    have mk407365 : mKp (F407252 q407253) (F407327 q407253) := mKp_tr mKp_rf (mKp_eq (rSk_F hk407352 htq407253 (by decide) (by decide)))
    have r407366 := (rSk_s hk407352 htq407254 (by decide)).2.1
    have r407367 := hot407345 _ (by rw [rc407325.2.1]; decide) (by rw [rc407325.2.1]; decide)
    have r407368 : jx407258 < γ 2 (γ 14 q407254) := by rw [r407366, r407367.1]; exact hpjjx407258
    have r407369 : el (γ 14 q407254) jx407258 = q407255 := by rw [r407366, r407367.2]; exact hpejx407258
    clear rg407322 rm407323 bd407324 rc407325
    have r407370 : 0 < γ 6 (γ 1 q407254) := by rw [hf407362]; omega
    have hm407371 : q407253 ∈ P407326 := RS_m hT407357 ht407360 (by decide)
    obtain ⟨q407373, q407374, p407375, p407376, p407377, p407378, p407379, p407380, p407381, p407382, p407383, p407384, p407385, p407386, p407387, p407388, p407389, he407372, hB407416, ht407390, ht407391, ht407392, ht407393, ht407394, ht407395, ht407396, ht407397, ht407398, ht407399, ht407400, ht407401, ht407402, ht407403, ht407404, ht407405, ht407406, ht407407, ht407408, ht407409, ht407410, ht407411, ht407412, ht407413, hB407417⟩ := show rk_10 γ (F407327 q407253) from RS_o hT407357 ht407360
    have r407418 : p407377.toInt = p407279.toInt := by have z : p407377 = p407279 := congrArg (fun e => fI e 11) (he407372.symm.trans (r407359.trans he407274)); rw [z]
    have bp407377 : gB p407377 0 100 := (hB407416.2.2.1)
    have r407419 : p407380.toInt = p407282.toInt := by have z : p407380 = p407282 := congrArg (fun e => fI e 14) (he407372.symm.trans (r407359.trans he407274)); rw [z]
    have bp407380 : gB p407380 0 2000 := (hB407416.2.2.2.1)
    have bp407380' : gB p407380 0 1999 := ⟨by omega, by omega⟩
    have sz407420 := (rSk_s hk407352 htq407255 (by decide)).2.1
    have sz407421 := congrArg (γ 2) sz407420
    have sz407422 := (hot407345 q407332 (by omega) (by omega)).1
    rw [hl407333] at sz407422
    clear hl407334
    have r407423 := hf0407347.2.2
    have hB407424 : rBd γ el f B := hBB407351 B (by omega) hB
    have ht407425 : rKd γ q407328 101 := x0407338
    have r407426 : γ 8 q407328 < γ 16 f := rm_x8 x8407341 h16407342 rfl
    have hph407427 : rPh γ0 el0 f ≤ rPh γ el f := rm_ph hph hr2407349
    have pk407428 : rPh γ el f ≤ 387 * B + 6000 := rm_pk (rM_ge hT407357 ht407361 hf407362).1 (rM_bd hB407424)
    have hm407429 : q407328 ∈ P407326 := RS_m hT407357 ht407425 (by decide)
    obtain ⟨p407431, p407432, p407433, p407434, p407435, p407436, p407437, he407430, bp407431, bp407432, bp407435, bp407436, bp407437, r407438, r407439, r407440⟩ := show rkR (F407327 q407328) from RS_o hT407357 ht407425
    have bp407433 := gB_any p407433
    have bp407434 := gB_any p407434
    have r407441 : γ 7 (γ 1 q407328) = γ 7 f := by rw [x1407339]
    have r407442 : p407436.toInt = 0 := by have z := hf0407347.1; rw [he407430] at z; exact z
    have bp407436' : gB p407436 0 0 := ⟨by omega, by omega⟩
    have r407443 : p407437.toInt = 0 := by have z := hf0407347.2.1; rw [he407430] at z; exact z
    have bp407437' : gB p407437 0 0 := ⟨by omega, by omega⟩
    refine G_widen (cs' := ((rPh γ el f - rPh γ0 el0 f) / 18)) (sl' := (rPh γ el f - rPh γ0 el0 f)) (rm_wc hph hr1407348) (rm_ws hph hr2407349) ?_
    refine G_astore (L' := [(5, .ref q407328), (0, .ref q407253), (1, .ref q407254), (2, .ref q407255), (3, .int p407256), (4, .int p407257)]) dr_cX17_load_16 (Nat.le_of_ble_eq_true rfl) rfl ?_
    refine G_aload 0 dr_cX17_load_18 rfl ?_
    refine G_bipush 21 dr_cX17_load_20 (by decide +kernel) ?_
    refine Gp_put 0 hm407429 he407430 dr_cX17_load_22 (gk_X15 D I) (Nat.le_of_ble_eq_true rfl) wr_9_177 rfl rfl rfl (Nat.le_of_ble_eq_true rfl) (fun F407444 e407445 n407446 => ?_)
    have he407447 : F407444 q407253 = .inr (22, [.ref (γ 9 0), .ref (γ 9 1), .ref (γ 9 2), .ref (γ 9 3), .ref (γ 9 4), .ref (γ 9 5), .ref (γ 9 6), .ref (γ 9 7), .ref (γ 9 8), .int p407375, .int p407376, .int p407377, .int p407378, .int p407379, .int p407380, .ref (γ 9 15), .ref (γ 9 16), .ref (γ 9 17), .ref (γ 9 18), .ref (γ 9 19), .ref (γ 9 20), .ref (γ 9 21), .ref (γ 9 22), .int p407381, .int p407382, .int p407383, .int p407384, .int p407385, .ref q407373, .ref (γ 9 29), .int p407386, .ref (γ 9 31), .int p407387, .int p407388, .int p407389, .ref q407374]) := (n407446 q407253 (rn_oo he407372 he407430 (by decide))).trans he407372
    have he407448 : F407444 q407328 = .inr (20, [.int 21, .int p407432, .int p407433, .int p407434, .int p407435, .int p407436, .int p407437]) := e407445
    have mk407449 : mKp (F407252 q407253) (F407444 q407253) := mKp_tr mk407365 (mKp_eq (n407446 q407253 (rn_ty ht407360 ht407425 (by decide))))
    refine G_aload 0 dr_cX17_load_25 rfl ?_
    refine G_aload_n 1 dr_cX17_load_27 rfl ?_
    refine Gp_get 14 hm407371 he407447 dr_cX17_load_28 (gk_X17 D I) (Nat.le_of_ble_eq_true rfl) wr_7_88 rfl ?_
    refine Gp_put 1 hm407429 he407448 dr_cX17_load_31 (gk_X15 D I) (Nat.le_of_ble_eq_true rfl) wr_9_182 rfl rfl rfl (Nat.le_of_ble_eq_true rfl) (fun F407450 e407451 n407452 => ?_)
    have he407453 : F407450 q407253 = .inr (22, [.ref (γ 9 0), .ref (γ 9 1), .ref (γ 9 2), .ref (γ 9 3), .ref (γ 9 4), .ref (γ 9 5), .ref (γ 9 6), .ref (γ 9 7), .ref (γ 9 8), .int p407375, .int p407376, .int p407377, .int p407378, .int p407379, .int p407380, .ref (γ 9 15), .ref (γ 9 16), .ref (γ 9 17), .ref (γ 9 18), .ref (γ 9 19), .ref (γ 9 20), .ref (γ 9 21), .ref (γ 9 22), .int p407381, .int p407382, .int p407383, .int p407384, .int p407385, .ref q407373, .ref (γ 9 29), .int p407386, .ref (γ 9 31), .int p407387, .int p407388, .int p407389, .ref q407374]) := (n407452 q407253 (rn_oo he407447 he407448 (by decide))).trans he407447
    have he407454 : F407450 q407328 = .inr (20, [.int 21, .int p407380, .int p407433, .int p407434, .int p407435, .int p407436, .int p407437]) := e407451
    have mk407455 : mKp (F407252 q407253) (F407450 q407253) := mKp_tr mk407449 (mKp_eq (n407452 q407253 (rn_ty ht407360 ht407425 (by decide))))
    have n407456 : ∀ b, b ≠ q407328 → F407450 b = F407327 b := fun b hb => (n407452 b hb).trans (n407446 b hb)
    refine G_aload 0 dr_cX17_load_34 rfl ?_
    refine G_iload 5 dr_cX17_load_36 rfl ?_
    refine Gp_put 4 hm407429 he407454 dr_cX17_load_38 (gk_X15 D I) (Nat.le_of_ble_eq_true rfl) wr_9_193 rfl rfl rfl (Nat.le_of_ble_eq_true rfl) (fun F407457 e407458 n407459 => ?_)
    have he407460 : F407457 q407253 = .inr (22, [.ref (γ 9 0), .ref (γ 9 1), .ref (γ 9 2), .ref (γ 9 3), .ref (γ 9 4), .ref (γ 9 5), .ref (γ 9 6), .ref (γ 9 7), .ref (γ 9 8), .int p407375, .int p407376, .int p407377, .int p407378, .int p407379, .int p407380, .ref (γ 9 15), .ref (γ 9 16), .ref (γ 9 17), .ref (γ 9 18), .ref (γ 9 19), .ref (γ 9 20), .ref (γ 9 21), .ref (γ 9 22), .int p407381, .int p407382, .int p407383, .int p407384, .int p407385, .ref q407373, .ref (γ 9 29), .int p407386, .ref (γ 9 31), .int p407387, .int p407388, .int p407389, .ref q407374]) := (n407459 q407253 (rn_oo he407453 he407454 (by decide))).trans he407453
    have he407461 : F407457 q407328 = .inr (20, [.int 21, .int p407380, .int p407433, .int p407434, .int p407257, .int p407436, .int p407437]) := e407458
    have mk407462 : mKp (F407252 q407253) (F407457 q407253) := mKp_tr mk407455 (mKp_eq (n407459 q407253 (rn_ty ht407360 ht407425 (by decide))))
    have n407463 : ∀ b, b ≠ q407328 → F407457 b = F407327 b := fun b hb => (n407459 b hb).trans (n407456 b hb)
    refine G_aload_n 3 dr_cX17_load_41 rfl ?_
    have hT407464 : RS D I P407326 F407457 γ el := RS_set hT407357 n407463 ht407425 (by decide) ⟨21, p407380, p407433, p407434, p407257, p407436, p407437, he407461, (gB_w (gBl (show Int32.toInt 21 = 21 by decide)) (by decide) (by decide)), bp407380', bp407257, (gB_w bp407436' (by decide) (by decide)), (gB_w bp407437' (by decide) (by decide)), (Or.inr (by decide)), r407439, r407440⟩
    have hs407466 := rSk_put hs407358 hT407464 n407463 ht407425 (by decide) (by decide)
    have hm407467 : q407255 ∈ P407326 := RS_m hT407464 ht407363 (by decide)
    obtain ⟨q407469, q407470, p407471, p407472, he407468, ht407479, ht407473, ht407474, ht407475, ht407476, ht407477, bp407471, bp407472, r407478, r407480, r407481⟩ := show rk_2 γ q407255 (F407457 q407255) from RS_o hT407464 ht407363
    have hf407482 : γ 1 q407469 = f := (show γ 1 q407469 = γ 1 q407255 from ht407474).trans hf407364
    have hf407483 : γ 1 q407470 = f := (show γ 1 q407470 = γ 1 q407255 from ht407476).trans hf407364
    have r407484 : γ 6 (γ 1 q407255) = γ 6 f := by rw [hf407364]
    have r407485 : γ 7 (γ 1 q407255) = γ 7 f := by rw [hf407364]
    have r407486 : γ 19 (γ 1 q407255) = γ 19 f := by rw [hf407364]
    have r407487 := r407478.resolve_left (by omega)
    clear r407478
    have r407488 : γ 2 (γ 14 q407255) = γ 2 q407469 := by rw [ht407479.1]
    refine Gp_get 0 hm407467 he407468 dr_cX17_load_42 (gk_X12 D I) (Nat.le_of_ble_eq_true rfl) wr_9_220 rfl ?_
    refine G_iload_n 4 dr_cX17_load_45 rfl ?_
    refine G_aload 0 dr_cX17_load_46 rfl ?_
    have pr407489 := fun (R : Nat → Nat → va_E → Prop) hN => rPl_fr (R := R) hT407357 ht407361 hf407362 (pr407335 R hN) (fun b hb _ => n407463 b (rn_ty (show rKd γ b 1 from hb) ht407425 (by decide)))
    have rg407490 := rM_ge hT407464 ht407361 hf407362
    have rm407491 := rM_bd hB407424
    have bd407492 := rBd_c hT407464 ht407361 hf407362 hB407424
    have rc407493 := rc_at hT407464 ht407361 hf407362
    have r407495 : γ 14 (el (γ 14 q407254) jx407258) = q407469 := by rw [r407369]; exact ht407479.1
    have r407496 := rg407490.2.2 _ r407368
    rw [r407495] at r407496
    have r407497 := bd407492.2.2.2 _ r407368
    rw [r407495] at r407497
    have r407498 : γ 7 (γ 1 q407328) = γ 7 f := by rw [x1407339]
    have hx407499 : rk_1 γ q407328 (F407457 q407328) := ⟨21, p407380, p407433, p407434, p407257, p407436, p407437, he407461, (gB_w (gBl (show Int32.toInt 21 = 21 by decide)) (by decide) (by decide)), bp407380', bp407257, (gB_w bp407436' (by decide) (by decide)), (gB_w bp407437' (by decide) (by decide)), (Or.inr (by decide)), r407439, r407440, (Or.inr (by omega)), (Or.inl x22407340)⟩
    refine Gt_ins (c := q407254) (f := f) hl0 dr_cX17_load_48 ⟨wr_10_207, wr_1_18, wr_10_210, by decide, rfl, (Nat.le_of_ble_eq_true rfl), (Nat.le_of_ble_eq_true rfl)⟩ wr_10_208 wr_10_209 hT407464 ht407473 hf407482 ht407425 x1407339 x22407340 r407426 (by omega) ht407361 hf407362 r407368 r407495 hx407499 (by omega) (by omega) (Nat.le_trans r407497 (Nat.le_trans hBk (by decide))) (rm_cs hph407427 r407496 rm407491 (by decide)) (rm_sl hph407427 r407496 rm407491 rm_s11) (Nat.le_of_ble_eq_true rfl) (fun P407500 F407494 γ el dc407501 ds407502 hq407503 => ?_)
    have ai407505 := fun (j : Nat) (hj : p407256.toInt.toNat ≤ j) => (rAt_ins hT407464 ht407361 hf407362 hq407503 r407495 (show jx407258 < _ by omega) (show p407256.toInt.toNat ≤ _ by omega) j hj).trans (ar407336 j)
    have pr407504 := fun (R R' : Nat → Nat → va_E → Prop) hN h1 h2 (h3 : ∀ e, (∀ n, nmS e n → n = p407380.toInt.toNat) → ((fI e 0).toInt = 21 → (fI e 1).toInt.toNat = p407380.toInt.toNat) → R' jx407258 p407256.toInt.toNat e) h4 => rPl_ins (R := R) (R' := R') hT407464 ht407361 hf407362 hq407503 r407495 (show jx407258 < _ by omega) (show p407256.toInt.toNat ≤ _ by omega) (pr407489 R hN) h1 h2 (h3 _ (nm_ld he407461 (by decide)).1 (nm_ld he407461 (by decide)).2) h4
    obtain ⟨hk407506, x0407507, h2407508, hel407509, hot407510, h16407511, h18407512, hnu407513, hFx407514, hr407515, hM407516, hBB407517⟩ := hq407503
    have hk407518 := rSk_of hk407506
    have r407519 : (fI (F407494 q407254) 3).toInt = (fI (F407457 q407254) 3).toInt := by rw [rSk_F hk407518 ht407361 (by decide) (by decide)]
    obtain ⟨nu407520, nu407521, nu407522, nu407523⟩ := hnu407513
    have hT407524 := hk407518.1
    have hs407525 := rSk_tr hs407466 hk407518 (by decide) (by decide) (by decide)
    have r407526 := rSk_F hk407518 ht407360 (by decide) (by decide)
    have ht407527 : rKd γ q407253 10 := rSk_k hk407518 ht407360 (by decide) (by decide)
    have ht407528 : rKd γ q407254 9 := rSk_k hk407518 ht407361 (by decide) (by decide)
    have hf407529 : γ 1 q407254 = f := rSk_1 hk407518 ht407361 (by decide) hf407362
    have ht407530 : rKd γ q407255 2 := rSk_k hk407518 ht407363 (by decide) (by decide)
    have hf407531 : γ 1 q407255 = f := rSk_1 hk407518 ht407363 (by decide) hf407364
    have ht407532 : rKd γ q407469 3 := rSk_k hk407518 ht407473 (by decide) (by decide)
    have hf407533 : γ 1 q407469 = f := rSk_1 hk407518 ht407473 (by decide) hf407482
    have mk407534 : mKp (F407252 q407253) (F407494 q407253) := mKp_tr mk407462 (mKp_eq (rSk_F hk407518 ht407360 (by decide) (by decide)))
    have r407535 := (rSk_s hk407518 ht407361 (by decide)).2.1
    have r407536 := hot407510 _ (by rw [rc407493.2.1]; decide) (fun q => by rw [q, show _ = 3 from ht407473] at rc407493; exact absurd rc407493.2.1 (by decide))
    have r407537 : jx407258 < γ 2 (γ 14 q407254) := by rw [r407535, r407536.1]; exact r407368
    have r407538 : el (γ 14 q407254) jx407258 = q407255 := by rw [r407535, r407536.2]; exact r407369
    clear bp407431 bp407432 bp407435 bp407436 bp407437 bp407433 bp407434 bp407471 bp407472 r407480 r407481 rg407490 rm407491 bd407492 rc407493 r407496 r407497
    clear r407438 r407439 r407440
    have r407539 : 0 < γ 6 (γ 1 q407254) := by rw [hf407529]; omega
    have hm407540 : q407253 ∈ P407500 := RS_m hT407524 ht407527 (by decide)
    obtain ⟨q407542, q407543, p407544, p407545, p407546, p407547, p407548, p407549, p407550, p407551, p407552, p407553, p407554, p407555, p407556, p407557, p407558, he407541, hB407585, ht407559, ht407560, ht407561, ht407562, ht407563, ht407564, ht407565, ht407566, ht407567, ht407568, ht407569, ht407570, ht407571, ht407572, ht407573, ht407574, ht407575, ht407576, ht407577, ht407578, ht407579, ht407580, ht407581, ht407582, hB407586⟩ := show rk_10 γ (F407494 q407253) from RS_o hT407524 ht407527
    have r407587 : p407546.toInt = p407377.toInt := by have z : p407546 = p407377 := congrArg (fun e => fI e 11) (he407541.symm.trans (r407526.trans he407460)); rw [z]
    have bp407546 : gB p407546 0 100 := (hB407585.2.2.1)
    have r407588 : p407549.toInt = p407380.toInt := by have z : p407549 = p407380 := congrArg (fun e => fI e 14) (he407541.symm.trans (r407526.trans he407460)); rw [z]
    have bp407549 : gB p407549 0 2000 := (hB407585.2.2.2.1)
    have bp407549' : gB p407549 0 1999 := ⟨by omega, by omega⟩
    have ht407589 : rKd γ q407328 1 := x0407507
    have hB407590 : rBd γ el f B := hBB407517 B hB407424
    have hph407591 : rPh γ0 el0 f ≤ rPh γ el f := rm_ph hph407427 hr407515.2
    have pk407592 : rPh γ el f ≤ 387 * B + 6000 := rm_pk (rM_ge hT407524 ht407528 hf407529).1 (rM_bd hB407590)
    refine G_widen (cs' := ((rPh γ el f - rPh γ0 el0 f) / 18)) (sl' := (rPh γ el f - rPh γ0 el0 f)) (rm_wc hph407427 hr407515.1) (rm_ws hph407427 hr407515.2) ?_
    have he407593 : F407494 q407328 = .inr (20, [.int 21, .int p407380, .int p407433, .int p407434, .int p407257, .int p407436, .int p407437]) := hFx407514.trans he407461
    have hm407594 : q407328 ∈ P407500 := RS_m hT407524 ht407589 (by decide)
    have r407595 : γ 14 q407255 = q407469 := ((rSk_s (rSk_of hk407506) ht407363 (by decide)).2.1).trans ht407479.1
    have sz407596 : γ 2 (γ 14 q407255) = γ 2 q407469 := by rw [r407595]
    refine G_aload_n 1 dr_cX17_load_51 rfl ?_
    refine G_dup dr_cX17_load_52 rfl ?_
    refine Gp_get 14 hm407540 he407541 dr_cX17_load_53 (gk_X17 D I) (Nat.le_of_ble_eq_true rfl) wr_7_88 rfl ?_
    refine G_iconst 1 dr_cX17_load_56 (by decide +kernel) ?_
    refine G_iadd dr_cX17_load_57 (G_nam fun z407597 hz407597 => ?_)
    have ez407597 : z407597.toInt = p407549.toInt + 1 := by rw [gI_add hz407597 bp407549' (gBl (show Int32.toInt 1 = 1 by decide)) (by decide) (by decide), show Int32.toInt 1 = 1 from by decide]
    have bz407597 : gB z407597 1 2000 := gB_add (gI_add hz407597 bp407549' (gBl (show Int32.toInt 1 = 1 by decide)) (by decide) (by decide)) bp407549' (gBl (show Int32.toInt 1 = 1 by decide)) (by decide) (by decide)
    refine Gp_put 14 hm407540 he407541 dr_cX17_load_58 (gk_X17 D I) (Nat.le_of_ble_eq_true rfl) wr_7_88 rfl rfl rfl (Nat.le_of_ble_eq_true rfl) (fun F407598 e407599 n407600 => ?_)
    have he407601 : F407598 q407328 = .inr (20, [.int 21, .int p407380, .int p407433, .int p407434, .int p407257, .int p407436, .int p407437]) := (n407600 q407328 (rn_oo he407593 he407541 (by decide))).trans he407593
    have he407602 : F407598 q407253 = .inr (22, [.ref (γ 9 0), .ref (γ 9 1), .ref (γ 9 2), .ref (γ 9 3), .ref (γ 9 4), .ref (γ 9 5), .ref (γ 9 6), .ref (γ 9 7), .ref (γ 9 8), .int p407544, .int p407545, .int p407546, .int p407547, .int p407548, .int z407597, .ref (γ 9 15), .ref (γ 9 16), .ref (γ 9 17), .ref (γ 9 18), .ref (γ 9 19), .ref (γ 9 20), .ref (γ 9 21), .ref (γ 9 22), .int p407550, .int p407551, .int p407552, .int p407553, .int p407554, .ref q407542, .ref (γ 9 29), .int p407555, .ref (γ 9 31), .int p407556, .int p407557, .int p407558, .ref q407543]) := e407599
    have mk407603 : mKp (F407252 q407253) (F407598 q407253) := mKp_tr mk407534 (by rw [he407541, he407602]; exact ⟨rfl, rfl⟩)
    have hT407604 : RS D I P407500 F407598 γ el := RS_set hT407524 n407600 ht407527 (by decide) ⟨q407542, q407543, p407544, p407545, p407546, p407547, p407548, z407597, p407550, p407551, p407552, p407553, p407554, p407555, p407556, p407557, p407558, he407602, ⟨(hB407585.1), (hB407585.2.1), bp407546, (gB_w bz407597 (by decide) (by decide)), (hB407585.2.2.2.2.1), (hB407585.2.2.2.2.2.1), (hB407585.2.2.2.2.2.2.1), (hB407585.2.2.2.2.2.2.2.1), (hB407585.2.2.2.2.2.2.2.2)⟩, ht407559, ht407560, ht407561, ht407562, ht407563, ht407564, ht407565, ht407566, ht407567, ht407568, ht407569, ht407570, ht407571, ht407572, ht407573, ht407574, ht407575, ht407576, ht407577, ht407578, ht407579, ht407580, ht407581, ht407582, hB407586⟩
    have hs407606 := rSk_put hs407525 hT407604 n407600 ht407527 (by decide) (by decide)
    have pr407607 := fun (R R' : Nat → Nat → va_E → Prop) hN h1 h2 h3 h4 => rPl_fr (R := R') hT407524 ht407528 hf407529 (pr407504 R R' hN h1 h2 h3 h4) (fun b hb _ => n407600 b (rn_ty (show rKd γ b 1 from hb) ht407527 (by decide)))
    refine G_aload 0 dr_cX17_load_61 rfl ?_
    refine Gp_get 1 hm407594 he407601 dr_cX17_load_63 (gk_X15 D I) (Nat.le_of_ble_eq_true rfl) wr_9_182 rfl ?_
    have ac407608 : (fI (F407598 q407253) 11).toInt = p407546.toInt := by rw [he407602]; rfl
    have ac407609 : (fI (F407598 q407253) 14).toInt = z407597.toInt := by rw [he407602]; rfl
    exact G_iretA dr_cX17_load_66 rfl (show ((rPh γ el f - rPh γ0 el0 f) / 18) ≤ (((387 * B + 6000) - rPh γ0 el0 f) / 18) by omega) (show (rPh γ el f - rPh γ0 el0 f) ≤ ((387 * B + 6000) - rPh γ0 el0 f) by omega) ⟨P407500, F407598, γ, el, p407380, rfl, rfl, hs407606, ⟨by omega, by omega⟩, hB407590, (gB_w bp407380' (by decide) (by decide)), (by omega), (by omega), (by omega), ⟨(rSk_s hs407606 hzq407255 (by decide)).2.1, r407537, r407538⟩, (Or.inr ⟨by omega, by omega, by omega, by omega, by omega⟩), (by omega), (Or.inr pr407607), (Or.inr ai407505), mk407603⟩
  · have r407610 : p407282.toInt = 2000 := gj_eq hc407320 (show Int32.toInt 2000 = 2000 by decide)
    have bp407282' : gB p407282 2000 2000 := ⟨by omega, by omega⟩
    have ac407611 : (fI (F407252 q407253) 11).toInt = p407279.toInt := by rw [he407274]; rfl
    have ac407612 : (fI (F407252 q407253) 14).toInt = p407282.toInt := by rw [he407274]; rfl
    refine G_iconst (-1) dr_cX17_load_10 (by decide +kernel) ?_
    exact G_iretA dr_cX17_load_11 rfl (show ((rPh γ el f - rPh γ0 el0 f) / 18) ≤ (((387 * B + 6000) - rPh γ0 el0 f) / 18) by omega) (show (rPh γ el f - rPh γ0 el0 f) ≤ ((387 * B + 6000) - rPh γ0 el0 f) by omega) ⟨P407251, F407252, γ, el, (-1), rfl, rfl, hst, ⟨by omega, by omega⟩, hB, (gB_w (gBl (show Int32.toInt (-1) = (-1) by decide)) (by decide) (by decide)), (by have qa0 : Int32.toInt (-1) = (-1) := (by decide); omega), (by have qa0 : Int32.toInt (-1) = (-1) := (by decide); omega), (by have qa0 : Int32.toInt (-1) = (-1) := (by decide); omega), ⟨(rSk_s hst hzq407255 (by decide)).2.1, hpjjx407258, hpejx407258⟩, (Or.inl (by decide)), (by have qa0 : Int32.toInt (-1) = (-1) := (by decide); omega), (Or.inl (by decide)), (Or.inl (by decide)), mKp_rf⟩
/- tr_RRow_usesA3: result -/
def tr_RRow_usesA3 (a0_op : Int32) (a0_regA : Int32) (o1 : Int32) : Prop := ∀ R : (Int32) → Prop,
  (a0_op.toInt = 20 → R (0 : Int32)) →
  (a0_op.toInt ≠ 20 → a0_op.toInt = 21 → R (0 : Int32)) →
  (a0_op.toInt ≠ 20 → a0_op.toInt ≠ 21 → a0_op.toInt = 30 → R (0 : Int32)) →
  (a0_op.toInt ≠ 20 → a0_op.toInt ≠ 21 → a0_op.toInt ≠ 30 → a0_regA.toInt = 0 → R (0 : Int32)) →
  (a0_op.toInt ≠ 20 → a0_op.toInt ≠ 21 → a0_op.toInt ≠ 30 → a0_regA.toInt ≠ 0 → R (1 : Int32)) →
  R o1
abbrev ky_407626_Row_usesA : gKey := (cX15_usesA, 1, "SpillForgeModel$Row", (some FieldType.boolean), [], "usesA", fun _ _ => True)
def pp_407626_Row_usesA (D : va_G) (I : FieldType → ClassId) (P407616 : List Nat) (F407617 : Nat → va_E) (q407618 : Nat) (p407619 : Int32) (p407620 : Int32) (p407621 : Int32) (p407622 : Int32) (p407623 : Int32) (p407624 : Int32) (p407625 : Int32) : Option Value → va_W → Nat → Nat → Prop := fun r w dc ds => ∃ (o407639 : Int32), r = some (.int o407639) ∧ w = va_pl P407616 F407617 ∧ dc ≤ 0 ∧ ds ≤ 0 ∧ gB o407639 0 1 ∧ (uA o407639.toInt p407619.toInt p407624.toInt) ∧ tr_RRow_usesA3 p407619 p407624 o407639
set_option maxRecDepth 100000 in
set_option maxHeartbeats 4000000 in
theorem cp_407626_Row_usesA (l : Launch) (hl0 : l.stackTraces = false) (D : va_G) (I : FieldType → ClassId) (P407616 : List Nat) (F407617 : Nat → va_E) (q407618 : Nat) (p407619 : Int32) (p407620 : Int32) (p407621 : Int32) (p407622 : Int32) (p407623 : Int32) (p407624 : Int32) (p407625 : Int32) (hmq407618 : q407618 ∈ P407616) (heq407618 : F407617 q407618 = .inr (20, [.int p407619, .int p407620, .int p407621, .int p407622, .int p407623, .int p407624, .int p407625])) (bp407619 : gB p407619 0 32) (bp407620 : gB p407620 0 1999) (bp407623 : gB p407623 0 1999) (bp407624 : gB p407624 0 1) (bp407625 : gB p407625 0 1) : CtA (gV D I) l yX15_usesA cX15_usesA 1 (some FieldType.boolean) 0 0 0 0 [.ref q407618] (va_pl P407616 F407617) (pp_407626_Row_usesA D I P407616 F407617 q407618 p407619 p407620 p407621 p407622 p407623 p407624 p407625) gNA := by
  refine CtA_of hl0 (by decide) (Nat.le_of_ble_eq_true rfl) ?_
  have bp407621 := gB_any p407621
  have bp407622 := gB_any p407622
  refine G_aload_n 0 dr_cX15_usesA_0 rfl ?_
  refine Gp_get 0 hmq407618 heq407618 dr_cX15_usesA_1 (gk_X15 D I) (Nat.le_of_ble_eq_true rfl) wr_9_175 rfl ?_
  refine G_bipush 20 dr_cX15_usesA_4 (by decide +kernel) ?_
  refine G_icmp_eq 38 dr_cX15_usesA_6 (by decide +kernel) (fun hc407627 => ?_) (fun hc407627 => ?_)
  · have r407628 : p407619.toInt = 20 := gj_eq hc407627 (show Int32.toInt 20 = 20 by decide)
    have bp407619' : gB p407619 20 20 := ⟨by omega, by omega⟩
    refine G_iconst 0 dr_cX15_usesA_38 (by decide +kernel) ?_
    exact G_zretA FieldType.boolean dr_cX15_usesA_39 rfl rfl (Nat.le_of_ble_eq_true rfl) (Nat.le_of_ble_eq_true rfl) ⟨0, rfl, rfl, (Nat.le_of_ble_eq_true rfl), (Nat.le_of_ble_eq_true rfl), (gB_w (gBl (show Int32.toInt 0 = 0 by decide)) (by decide) (by decide)), (by unfold uA; first | omega | (have qa0 : Int32.toInt 0 = 0 := (by decide); have qa1 : Int32.toInt 1 = 1 := (by decide); omega)), (fun R c1 c2 c3 c4 c5 => c1 r407628)⟩
  · have r407629 : p407619.toInt ≠ 20 := gj_neq hc407627 (show Int32.toInt 20 = 20 by decide)
    refine G_aload_n 0 dr_cX15_usesA_9 rfl ?_
    refine Gp_get 0 hmq407618 heq407618 dr_cX15_usesA_10 (gk_X15 D I) (Nat.le_of_ble_eq_true rfl) wr_9_175 rfl ?_
    refine G_bipush 21 dr_cX15_usesA_13 (by decide +kernel) ?_
    refine G_icmp_eq 38 dr_cX15_usesA_15 (by decide +kernel) (fun hc407630 => ?_) (fun hc407630 => ?_)
    · have r407631 : p407619.toInt = 21 := gj_eq hc407630 (show Int32.toInt 21 = 21 by decide)
      have bp407619' : gB p407619 21 21 := ⟨by omega, by omega⟩
      refine G_iconst 0 dr_cX15_usesA_38 (by decide +kernel) ?_
      exact G_zretA FieldType.boolean dr_cX15_usesA_39 rfl rfl (Nat.le_of_ble_eq_true rfl) (Nat.le_of_ble_eq_true rfl) ⟨0, rfl, rfl, (Nat.le_of_ble_eq_true rfl), (Nat.le_of_ble_eq_true rfl), (gB_w (gBl (show Int32.toInt 0 = 0 by decide)) (by decide) (by decide)), (by unfold uA; first | omega | (have qa0 : Int32.toInt 0 = 0 := (by decide); have qa1 : Int32.toInt 1 = 1 := (by decide); omega)), (fun R c1 c2 c3 c4 c5 => c2 r407629 r407631)⟩
    · have r407632 : p407619.toInt ≠ 21 := gj_neq hc407630 (show Int32.toInt 21 = 21 by decide)
      refine G_aload_n 0 dr_cX15_usesA_18 rfl ?_
      refine Gp_get 0 hmq407618 heq407618 dr_cX15_usesA_19 (gk_X15 D I) (Nat.le_of_ble_eq_true rfl) wr_9_175 rfl ?_
      refine G_bipush 30 dr_cX15_usesA_22 (by decide +kernel) ?_
      refine G_icmp_eq 38 dr_cX15_usesA_24 (by decide +kernel) (fun hc407633 => ?_) (fun hc407633 => ?_)
      · have r407634 : p407619.toInt = 30 := gj_eq hc407633 (show Int32.toInt 30 = 30 by decide)
        have bp407619' : gB p407619 30 30 := ⟨by omega, by omega⟩
        refine G_iconst 0 dr_cX15_usesA_38 (by decide +kernel) ?_
        exact G_zretA FieldType.boolean dr_cX15_usesA_39 rfl rfl (Nat.le_of_ble_eq_true rfl) (Nat.le_of_ble_eq_true rfl) ⟨0, rfl, rfl, (Nat.le_of_ble_eq_true rfl), (Nat.le_of_ble_eq_true rfl), (gB_w (gBl (show Int32.toInt 0 = 0 by decide)) (by decide) (by decide)), (by unfold uA; first | omega | (have qa0 : Int32.toInt 0 = 0 := (by decide); have qa1 : Int32.toInt 1 = 1 := (by decide); omega)), (fun R c1 c2 c3 c4 c5 => c3 r407629 r407632 r407634)⟩
      · have r407635 : p407619.toInt ≠ 30 := gj_neq hc407633 (show Int32.toInt 30 = 30 by decide)
        refine G_aload_n 0 dr_cX15_usesA_27 rfl ?_
        refine Gp_get 5 hmq407618 heq407618 dr_cX15_usesA_28 (gk_X15 D I) (Nat.le_of_ble_eq_true rfl) wr_9_195 rfl ?_
        refine G_if_eq 38 dr_cX15_usesA_31 (by decide +kernel) (fun hc407636 => ?_) (fun hc407636 => ?_)
        · have r407637 : p407624.toInt = 0 := gj_eq hc407636 (show Int32.toInt 0 = 0 by decide)
          have bp407624' : gB p407624 0 0 := ⟨by omega, by omega⟩
          refine G_iconst 0 dr_cX15_usesA_38 (by decide +kernel) ?_
          exact G_zretA FieldType.boolean dr_cX15_usesA_39 rfl rfl (Nat.le_of_ble_eq_true rfl) (Nat.le_of_ble_eq_true rfl) ⟨0, rfl, rfl, (Nat.le_of_ble_eq_true rfl), (Nat.le_of_ble_eq_true rfl), (gB_w (gBl (show Int32.toInt 0 = 0 by decide)) (by decide) (by decide)), (by unfold uA; first | omega | (have qa0 : Int32.toInt 0 = 0 := (by decide); have qa1 : Int32.toInt 1 = 1 := (by decide); omega)), (fun R c1 c2 c3 c4 c5 => c4 r407629 r407632 r407635 r407637)⟩
        · have r407638 : p407624.toInt ≠ 0 := gj_neq hc407636 (show Int32.toInt 0 = 0 by decide)
          have bp407624' : gB p407624 1 1 := ⟨by omega, by omega⟩
          refine G_iconst 1 dr_cX15_usesA_34 (by decide +kernel) ?_
          refine G_goto 39 dr_cX15_usesA_35 (by decide +kernel) ?_
          exact G_zretA FieldType.boolean dr_cX15_usesA_39 rfl rfl (Nat.le_of_ble_eq_true rfl) (Nat.le_of_ble_eq_true rfl) ⟨1, rfl, rfl, (Nat.le_of_ble_eq_true rfl), (Nat.le_of_ble_eq_true rfl), (gB_w (gBl (show Int32.toInt 1 = 1 by decide)) (by decide) (by decide)), (by unfold uA; first | omega | (have qa0 : Int32.toInt 0 = 0 := (by decide); have qa1 : Int32.toInt 1 = 1 := (by decide); omega)), (fun R c1 c2 c3 c4 c5 => c5 r407629 r407632 r407635 r407638)⟩
/- tr_RRow_usesB3: result -/
def tr_RRow_usesB3 (a0_op : Int32) (a0_regB : Int32) (o1 : Int32) : Prop := ∀ R : (Int32) → Prop,
  (a0_op.toInt ≤ 0 → R (0 : Int32)) →
  (0 < a0_op.toInt → 20 ≤ a0_op.toInt → R (0 : Int32)) →
  (0 < a0_op.toInt → a0_op.toInt < 20 → a0_regB.toInt = 0 → R (0 : Int32)) →
  (0 < a0_op.toInt → a0_op.toInt < 20 → a0_regB.toInt ≠ 0 → R (1 : Int32)) →
  R o1
abbrev ky_407650_Row_usesB : gKey := (cX15_usesB, 1, "SpillForgeModel$Row", (some FieldType.boolean), [], "usesB", fun _ _ => True)
def pp_407650_Row_usesB (D : va_G) (I : FieldType → ClassId) (P407640 : List Nat) (F407641 : Nat → va_E) (q407642 : Nat) (p407643 : Int32) (p407644 : Int32) (p407645 : Int32) (p407646 : Int32) (p407647 : Int32) (p407648 : Int32) (p407649 : Int32) : Option Value → va_W → Nat → Nat → Prop := fun r w dc ds => ∃ (o407660 : Int32), r = some (.int o407660) ∧ w = va_pl P407640 F407641 ∧ dc ≤ 0 ∧ ds ≤ 0 ∧ gB o407660 0 1 ∧ (uB o407660.toInt p407643.toInt p407649.toInt) ∧ tr_RRow_usesB3 p407643 p407649 o407660
set_option maxRecDepth 100000 in
set_option maxHeartbeats 4000000 in
theorem cp_407650_Row_usesB (l : Launch) (hl0 : l.stackTraces = false) (D : va_G) (I : FieldType → ClassId) (P407640 : List Nat) (F407641 : Nat → va_E) (q407642 : Nat) (p407643 : Int32) (p407644 : Int32) (p407645 : Int32) (p407646 : Int32) (p407647 : Int32) (p407648 : Int32) (p407649 : Int32) (hmq407642 : q407642 ∈ P407640) (heq407642 : F407641 q407642 = .inr (20, [.int p407643, .int p407644, .int p407645, .int p407646, .int p407647, .int p407648, .int p407649])) (bp407643 : gB p407643 0 32) (bp407644 : gB p407644 0 1999) (bp407647 : gB p407647 0 1999) (bp407648 : gB p407648 0 1) (bp407649 : gB p407649 0 1) : CtA (gV D I) l yX15_usesB cX15_usesB 1 (some FieldType.boolean) 0 0 0 0 [.ref q407642] (va_pl P407640 F407641) (pp_407650_Row_usesB D I P407640 F407641 q407642 p407643 p407644 p407645 p407646 p407647 p407648 p407649) gNA := by
  refine CtA_of hl0 (by decide) (Nat.le_of_ble_eq_true rfl) ?_
  have bp407645 := gB_any p407645
  have bp407646 := gB_any p407646
  refine G_aload_n 0 dr_cX15_usesB_0 rfl ?_
  refine Gp_get 0 hmq407642 heq407642 dr_cX15_usesB_1 (gk_X15 D I) (Nat.le_of_ble_eq_true rfl) wr_9_175 rfl ?_
  refine G_if_le 27 dr_cX15_usesB_4 (by decide +kernel) (fun hc407651 => ?_) (fun hc407651 => ?_)
  · have r407652 : p407643.toInt ≤ 0 := gj_le hc407651 (show Int32.toInt 0 = 0 by decide)
    have bp407643' : gB p407643 0 0 := ⟨by omega, by omega⟩
    refine G_iconst 0 dr_cX15_usesB_27 (by decide +kernel) ?_
    exact G_zretA FieldType.boolean dr_cX15_usesB_28 rfl rfl (Nat.le_of_ble_eq_true rfl) (Nat.le_of_ble_eq_true rfl) ⟨0, rfl, rfl, (Nat.le_of_ble_eq_true rfl), (Nat.le_of_ble_eq_true rfl), (gB_w (gBl (show Int32.toInt 0 = 0 by decide)) (by decide) (by decide)), (by unfold uB; first | omega | (have qa0 : Int32.toInt 0 = 0 := (by decide); have qa1 : Int32.toInt 1 = 1 := (by decide); omega)), (fun R c1 c2 c3 c4 => c1 r407652)⟩
  · have r407653 : 0 < p407643.toInt := gj_nle hc407651 (show Int32.toInt 0 = 0 by decide)
    have bp407643' : gB p407643 1 32 := ⟨by omega, by omega⟩
    refine G_aload_n 0 dr_cX15_usesB_7 rfl ?_
    refine Gp_get 0 hmq407642 heq407642 dr_cX15_usesB_8 (gk_X15 D I) (Nat.le_of_ble_eq_true rfl) wr_9_175 rfl ?_
    refine G_bipush 20 dr_cX15_usesB_11 (by decide +kernel) ?_
    refine G_icmp_ge 27 dr_cX15_usesB_13 (by decide +kernel) (fun hc407654 => ?_) (fun hc407654 => ?_)
    · have r407655 : 20 ≤ p407643.toInt := gj_leL hc407654 (show Int32.toInt 20 = 20 by decide)
      have bp407643'' : gB p407643 20 32 := ⟨by omega, by omega⟩
      refine G_iconst 0 dr_cX15_usesB_27 (by decide +kernel) ?_
      exact G_zretA FieldType.boolean dr_cX15_usesB_28 rfl rfl (Nat.le_of_ble_eq_true rfl) (Nat.le_of_ble_eq_true rfl) ⟨0, rfl, rfl, (Nat.le_of_ble_eq_true rfl), (Nat.le_of_ble_eq_true rfl), (gB_w (gBl (show Int32.toInt 0 = 0 by decide)) (by decide) (by decide)), (by unfold uB; first | omega | (have qa0 : Int32.toInt 0 = 0 := (by decide); have qa1 : Int32.toInt 1 = 1 := (by decide); omega)), (fun R c1 c2 c3 c4 => c2 r407653 r407655)⟩
    · have r407656 : p407643.toInt < 20 := gj_nleL hc407654 (show Int32.toInt 20 = 20 by decide)
      have bp407643'' : gB p407643 1 19 := ⟨by omega, by omega⟩
      refine G_aload_n 0 dr_cX15_usesB_16 rfl ?_
      refine Gp_get 6 hmq407642 heq407642 dr_cX15_usesB_17 (gk_X15 D I) (Nat.le_of_ble_eq_true rfl) wr_9_199 rfl ?_
      refine G_if_eq 27 dr_cX15_usesB_20 (by decide +kernel) (fun hc407657 => ?_) (fun hc407657 => ?_)
      · have r407658 : p407649.toInt = 0 := gj_eq hc407657 (show Int32.toInt 0 = 0 by decide)
        have bp407649' : gB p407649 0 0 := ⟨by omega, by omega⟩
        refine G_iconst 0 dr_cX15_usesB_27 (by decide +kernel) ?_
        exact G_zretA FieldType.boolean dr_cX15_usesB_28 rfl rfl (Nat.le_of_ble_eq_true rfl) (Nat.le_of_ble_eq_true rfl) ⟨0, rfl, rfl, (Nat.le_of_ble_eq_true rfl), (Nat.le_of_ble_eq_true rfl), (gB_w (gBl (show Int32.toInt 0 = 0 by decide)) (by decide) (by decide)), (by unfold uB; first | omega | (have qa0 : Int32.toInt 0 = 0 := (by decide); have qa1 : Int32.toInt 1 = 1 := (by decide); omega)), (fun R c1 c2 c3 c4 => c3 r407653 r407656 r407658)⟩
      · have r407659 : p407649.toInt ≠ 0 := gj_neq hc407657 (show Int32.toInt 0 = 0 by decide)
        have bp407649' : gB p407649 1 1 := ⟨by omega, by omega⟩
        refine G_iconst 1 dr_cX15_usesB_23 (by decide +kernel) ?_
        refine G_goto 28 dr_cX15_usesB_24 (by decide +kernel) ?_
        exact G_zretA FieldType.boolean dr_cX15_usesB_28 rfl rfl (Nat.le_of_ble_eq_true rfl) (Nat.le_of_ble_eq_true rfl) ⟨1, rfl, rfl, (Nat.le_of_ble_eq_true rfl), (Nat.le_of_ble_eq_true rfl), (gB_w (gBl (show Int32.toInt 1 = 1 by decide)) (by decide) (by decide)), (by unfold uB; first | omega | (have qa0 : Int32.toInt 0 = 0 := (by decide); have qa1 : Int32.toInt 1 = 1 := (by decide); omega)), (fun R c1 c2 c3 c4 => c4 r407653 r407656 r407659)⟩
/- tr_RRow_sets3: result -/
def tr_RRow_sets3 (a0_op : Int32) (o1 : Int32) : Prop := ∀ R : (Int32) → Prop,
  (21 < a0_op.toInt → R (0 : Int32)) →
  (a0_op.toInt ≤ 21 → R (1 : Int32)) →
  R o1
abbrev ky_407671_Row_sets : gKey := (cX15_sets, 1, "SpillForgeModel$Row", (some FieldType.boolean), [], "sets", fun _ _ => True)
def pp_407671_Row_sets (D : va_G) (I : FieldType → ClassId) (P407661 : List Nat) (F407662 : Nat → va_E) (q407663 : Nat) (p407664 : Int32) (p407665 : Int32) (p407666 : Int32) (p407667 : Int32) (p407668 : Int32) (p407669 : Int32) (p407670 : Int32) : Option Value → va_W → Nat → Nat → Prop := fun r w dc ds => ∃ (o407675 : Int32), r = some (.int o407675) ∧ w = va_pl P407661 F407662 ∧ dc ≤ 0 ∧ ds ≤ 0 ∧ gB o407675 0 1 ∧ (uS o407675.toInt p407664.toInt) ∧ tr_RRow_sets3 p407664 o407675
set_option maxRecDepth 100000 in
set_option maxHeartbeats 4000000 in
theorem cp_407671_Row_sets (l : Launch) (hl0 : l.stackTraces = false) (D : va_G) (I : FieldType → ClassId) (P407661 : List Nat) (F407662 : Nat → va_E) (q407663 : Nat) (p407664 : Int32) (p407665 : Int32) (p407666 : Int32) (p407667 : Int32) (p407668 : Int32) (p407669 : Int32) (p407670 : Int32) (hmq407663 : q407663 ∈ P407661) (heq407663 : F407662 q407663 = .inr (20, [.int p407664, .int p407665, .int p407666, .int p407667, .int p407668, .int p407669, .int p407670])) (bp407664 : gB p407664 0 32) (bp407665 : gB p407665 0 1999) (bp407668 : gB p407668 0 1999) (bp407669 : gB p407669 0 1) (bp407670 : gB p407670 0 1) : CtA (gV D I) l yX15_sets cX15_sets 1 (some FieldType.boolean) 0 0 0 0 [.ref q407663] (va_pl P407661 F407662) (pp_407671_Row_sets D I P407661 F407662 q407663 p407664 p407665 p407666 p407667 p407668 p407669 p407670) gNA := by
  refine CtA_of hl0 (by decide) (Nat.le_of_ble_eq_true rfl) ?_
  have bp407666 := gB_any p407666
  have bp407667 := gB_any p407667
  refine G_aload_n 0 dr_cX15_sets_0 rfl ?_
  refine Gp_get 0 hmq407663 heq407663 dr_cX15_sets_1 (gk_X15 D I) (Nat.le_of_ble_eq_true rfl) wr_9_175 rfl ?_
  refine G_bipush 21 dr_cX15_sets_4 (by decide +kernel) ?_
  refine G_icmp_gt 13 dr_cX15_sets_6 (by decide +kernel) (fun hc407672 => ?_) (fun hc407672 => ?_)
  · have r407673 : 21 < p407664.toInt := gj_ltL hc407672 (show Int32.toInt 21 = 21 by decide)
    have bp407664' : gB p407664 22 32 := ⟨by omega, by omega⟩
    refine G_iconst 0 dr_cX15_sets_13 (by decide +kernel) ?_
    exact G_zretA FieldType.boolean dr_cX15_sets_14 rfl rfl (Nat.le_of_ble_eq_true rfl) (Nat.le_of_ble_eq_true rfl) ⟨0, rfl, rfl, (Nat.le_of_ble_eq_true rfl), (Nat.le_of_ble_eq_true rfl), (gB_w (gBl (show Int32.toInt 0 = 0 by decide)) (by decide) (by decide)), (by unfold uS; first | omega | (have qa0 : Int32.toInt 0 = 0 := (by decide); have qa1 : Int32.toInt 1 = 1 := (by decide); omega)), (fun R c1 c2 => c1 r407673)⟩
  · have r407674 : p407664.toInt ≤ 21 := gj_nltL hc407672 (show Int32.toInt 21 = 21 by decide)
    have bp407664' : gB p407664 0 21 := ⟨by omega, by omega⟩
    refine G_iconst 1 dr_cX15_sets_9 (by decide +kernel) ?_
    refine G_goto 14 dr_cX15_sets_10 (by decide +kernel) ?_
    exact G_zretA FieldType.boolean dr_cX15_sets_14 rfl rfl (Nat.le_of_ble_eq_true rfl) (Nat.le_of_ble_eq_true rfl) ⟨1, rfl, rfl, (Nat.le_of_ble_eq_true rfl), (Nat.le_of_ble_eq_true rfl), (gB_w (gBl (show Int32.toInt 1 = 1 by decide)) (by decide) (by decide)), (by unfold uS; first | omega | (have qa0 : Int32.toInt 0 = 0 := (by decide); have qa1 : Int32.toInt 1 = 1 := (by decide); omega)), (fun R c1 c2 => c2 r407674)⟩
/- tl_RModel_findDepth2_342: F, l4; out: F -/
def tl_RModel_findDepth2_342 (D : va_G) (I : FieldType → ClassId) (γ el : Nat → Nat → Nat) (P : List Nat) (F : Nat → va_E) (q0 : Nat) (q1 : Nat) (s1 : Nat → va_E) (s2 : Int32) (k : Nat) (e1 : Nat → va_E) : Prop := ∀ R : (Nat → va_E) → (Int32) → Nat → (Nat → va_E) → Prop,
  (∀ (F_1 : Nat → va_E) (l4_1 : Int32) (x1 : Int32), gB l4_1 0 1000000 → RS D I P F_1 γ el → rStr γ [] F F_1 → (F_1 q0 = F q0) → (F_1 (γ 9 3) = F (γ 9 3)) → fI (F_1 q1) 3 = x1 → x1.toInt ≤ l4_1.toInt → R F_1 l4_1 375 F_1) →
  (∀ (F_1 : Nat → va_E) (l4_1 : Int32) (x1 : Int32) (x2 : Nat → Int32) (x3 : Int32) (x4 : Int32) (x5 : Nat → Int32) (x6 : Nat → va_E) (x7 : Int32) (k : Nat) (e1 : Nat → va_E), gB l4_1 0 1000000 → RS D I P F_1 γ el → rStr γ [] F F_1 → (F_1 q0 = F q0) → (F_1 (γ 9 3) = F (γ 9 3)) → fI (F_1 q1) 3 = x1 → l4_1.toInt < x1.toInt → fR (F_1 q0) 4 = (γ 9 4) → F_1 (γ 9 4) = .inl (I .int, 40, .inl x2) → x3 = x2 l4_1.toNatClampNeg → (x3.toInt ≥ x4.toInt ∧ 4 ≥ x4.toInt ∧ (x4.toInt = x3.toInt ∨ x4.toInt = 4)) → x5 = upd x2 l4_1.toNatClampNeg x4 → (∀ b, b ≠ (γ 9 4) → x6 b = F_1 b) → x6 (γ 9 4) = .inl (I .int, 40, .inl x5) → x7.toInt = l4_1.toInt + 1 → R x6 x7 k e1 → R F_1 l4_1 k e1) →
  R s1 s2 k e1
/- tl_RModel_findDepth2_300: F, l10; out: F -/
def tl_RModel_findDepth2_300 (D : va_G) (I : FieldType → ClassId) (γ el : Nat → Nat → Nat) (P : List Nat) (F : Nat → va_E) (q0 : Nat) (q1 : Nat) (l7_2 : Int64) (s1 : Nat → va_E) (s2 : Int32) (k : Nat) (e1 : Nat → va_E) : Prop := ∀ R : (Nat → va_E) → (Int32) → Nat → (Nat → va_E) → Prop,
  (∀ (F_2 : Nat → va_E) (l10_2 : Int32) (x1 : Int32), gB l10_2 0 1000000 → RS D I P F_2 γ el → rStr γ [] F F_2 → (F_2 q0 = F q0) → (F_2 (γ 9 3) = F (γ 9 3)) → fI (F_2 q1) 3 = x1 → x1.toInt ≤ l10_2.toInt → R F_2 l10_2 333 F_2) →
  (∀ (F_2 : Nat → va_E) (l10_2 : Int32) (x1 : Int32) (x2 : Nat → Int32) (x3 : Int32) (x4 : Int64) (x5 : Int64) (x6 : Int32) (x7 : Int32) (x8 : Nat → Int32) (x9 : Nat → va_E) (x10 : Int32) (k : Nat) (e1 : Nat → va_E), gB l10_2 0 1000000 → RS D I P F_2 γ el → rStr γ [] F F_2 → (F_2 q0 = F q0) → (F_2 (γ 9 3) = F (γ 9 3)) → fI (F_2 q1) 3 = x1 → l10_2.toInt < x1.toInt → fR (F_2 q0) 4 = (γ 9 4) → F_2 (γ 9 4) = .inl (I .int, 40, .inl x2) → x3 = x2 l10_2.toNatClampNeg → x4 = (l7_2.toUInt64 >>> (l10_2.toInt64.toUInt64 &&& Int64.toUInt64 63)).toInt64 → x5 = x4 &&& (1 : Int64) → x6 = x5.toInt32 → x7 = x3 + x6 → x8 = upd x2 l10_2.toNatClampNeg x7 → (∀ b, b ≠ (γ 9 4) → x9 b = F_2 b) → x9 (γ 9 4) = .inl (I .int, 40, .inl x8) → x10.toInt = l10_2.toInt + 1 → R x9 x10 k e1 → R F_2 l10_2 k e1) →
  R s1 s2 k e1
/- tl_RModel_findDepth2_199: l12, l11; out: l11 -/
def tl_RModel_findDepth2_199 (D : va_G) (I : FieldType → ClassId) (γ el : Nat → Nat → Nat) (F_1 : Nat → va_E) (q1 : Nat) (l10_3 : Int32) (l4_1 : Int32) (l7_3 : Int64) (s1 : Int32) (s2 : Int32) (k : Nat) (e1 : Int32) : Prop := ∀ R : (Int32) → (Int32) → Nat → (Int32) → Prop,
  (∀ (l12_4 : Int32) (l11_4 : Int32) (x1 : Nat) (x2 : Nat) (x3 : Int32) (x4 : Int32) (x5 : Int32) (x6 : Nat) (x7 : Int32) (x8 : Int32), gB l12_4 0 2 → gB l11_4 0 1 → fR (F_1 q1) 0 = x1 → x2 = el x1 l10_3.toInt.toNat → fI (F_1 x1) 2 = x3 → tr_RCode_get l10_3 x3 → fI (F_1 x2) 2 = x4 → fI (F_1 x2) 3 = x5 → fR (F_1 x2) 1 = x6 → fI (F_1 x6) 0 = x7 → gB x8 0 2 → tr_RBlock_ways x4 x5 x7 x8 → x8.toInt ≤ l12_4.toInt → R l12_4 l11_4 268 l11_4) →
  (∀ (l12_4 : Int32) (l11_4 : Int32) (x1 : Nat) (x2 : Nat) (x3 : Int32) (x4 : Int32) (x5 : Int32) (x6 : Nat) (x7 : Int32) (x8 : Int32) (x9 : Int32) (k : Nat) (e1 : Int32), gB l12_4 0 2 → gB l11_4 0 1 → fR (F_1 q1) 0 = x1 → x2 = el x1 l10_3.toInt.toNat → fI (F_1 x1) 2 = x3 → tr_RCode_get l10_3 x3 → fI (F_1 x2) 2 = x4 → fI (F_1 x2) 3 = x5 → fR (F_1 x2) 1 = x6 → fI (F_1 x6) 0 = x7 → gB x8 0 2 → tr_RBlock_ways x4 x5 x7 x8 → l12_4.toInt < x8.toInt → l11_4.toInt ≠ 0 → x9.toInt = l12_4.toInt + 1 → R x9 (1 : Int32) k e1 → R l12_4 l11_4 k e1) →
  (∀ (l12_4 : Int32) (l11_4 : Int32) (x1 : Nat) (x2 : Nat) (x3 : Int32) (x4 : Int32) (x5 : Int32) (x6 : Nat) (x7 : Int32) (x8 : Int32) (x9 : Int32) (x10 : Int32) (k : Nat) (e1 : Int32), gB l12_4 0 2 → gB l11_4 0 1 → fR (F_1 q1) 0 = x1 → x2 = el x1 l10_3.toInt.toNat → fI (F_1 x1) 2 = x3 → tr_RCode_get l10_3 x3 → fI (F_1 x2) 2 = x4 → fI (F_1 x2) 3 = x5 → fR (F_1 x2) 1 = x6 → fI (F_1 x6) 0 = x7 → gB x8 0 2 → tr_RBlock_ways x4 x5 x7 x8 → l12_4.toInt < x8.toInt → l11_4.toInt = 0 → tr_RCode_get l10_3 x3 → gB x9 0 39 → tr_RBlock_way2 l12_4 x4 x5 x9 → x9.toInt = l4_1.toInt → x10.toInt = l12_4.toInt + 1 → R x10 (0 : Int32) k e1 → R l12_4 l11_4 k e1) →
  (∀ (l12_4 : Int32) (l11_4 : Int32) (x1 : Nat) (x2 : Nat) (x3 : Int32) (x4 : Int32) (x5 : Int32) (x6 : Nat) (x7 : Int32) (x8 : Int32) (x9 : Int32) (x10 : Int32) (x11 : Int64) (x12 : Int64) (x13 : Int32) (k : Nat) (e1 : Int32), gB l12_4 0 2 → gB l11_4 0 1 → fR (F_1 q1) 0 = x1 → x2 = el x1 l10_3.toInt.toNat → fI (F_1 x1) 2 = x3 → tr_RCode_get l10_3 x3 → fI (F_1 x2) 2 = x4 → fI (F_1 x2) 3 = x5 → fR (F_1 x2) 1 = x6 → fI (F_1 x6) 0 = x7 → gB x8 0 2 → tr_RBlock_ways x4 x5 x7 x8 → l12_4.toInt < x8.toInt → l11_4.toInt = 0 → tr_RCode_get l10_3 x3 → gB x9 0 39 → tr_RBlock_way2 l12_4 x4 x5 x9 → x9.toInt ≠ l4_1.toInt → tr_RCode_get l10_3 x3 → gB x10 0 39 → tr_RBlock_way2 l12_4 x4 x5 x10 → x11 = (l7_3.toUInt64 >>> (x10.toInt64.toUInt64 &&& Int64.toUInt64 63)).toInt64 → x12 = x11 &&& (1 : Int64) → x12 = (0 : Int64) → x13.toInt = l12_4.toInt + 1 → R x13 (0 : Int32) k e1 → R l12_4 l11_4 k e1) →
  (∀ (l12_4 : Int32) (l11_4 : Int32) (x1 : Nat) (x2 : Nat) (x3 : Int32) (x4 : Int32) (x5 : Int32) (x6 : Nat) (x7 : Int32) (x8 : Int32) (x9 : Int32) (x10 : Int32) (x11 : Int64) (x12 : Int64) (x13 : Int32) (k : Nat) (e1 : Int32), gB l12_4 0 2 → gB l11_4 0 1 → fR (F_1 q1) 0 = x1 → x2 = el x1 l10_3.toInt.toNat → fI (F_1 x1) 2 = x3 → tr_RCode_get l10_3 x3 → fI (F_1 x2) 2 = x4 → fI (F_1 x2) 3 = x5 → fR (F_1 x2) 1 = x6 → fI (F_1 x6) 0 = x7 → gB x8 0 2 → tr_RBlock_ways x4 x5 x7 x8 → l12_4.toInt < x8.toInt → l11_4.toInt = 0 → tr_RCode_get l10_3 x3 → gB x9 0 39 → tr_RBlock_way2 l12_4 x4 x5 x9 → x9.toInt ≠ l4_1.toInt → tr_RCode_get l10_3 x3 → gB x10 0 39 → tr_RBlock_way2 l12_4 x4 x5 x10 → x11 = (l7_3.toUInt64 >>> (x10.toInt64.toUInt64 &&& Int64.toUInt64 63)).toInt64 → x12 = x11 &&& (1 : Int64) → (¬ x12 = (0 : Int64)) → x13.toInt = l12_4.toInt + 1 → R x13 (1 : Int32) k e1 → R l12_4 l11_4 k e1) →
  R s1 s2 k e1
/- tl_RModel_findDepth2_158: l10, l9, l7; out: l9, l7 -/
def tl_RModel_findDepth2_158 (D : va_G) (I : FieldType → ClassId) (γ el : Nat → Nat → Nat) (l7_2 : Int64) (F_1 : Nat → va_E) (q1 : Nat) (c1 : Int64) (l4_1 : Int32) (s1 : Int32) (s2 : Int32) (s3 : Int64) (k : Nat) (e1 : Int32) (e2 : Int64) : Prop := ∀ R : (Int32) → (Int32) → (Int64) → Nat → (Int32) → (Int64) → Prop,
  (∀ (l10_3 : Int32) (l9_3 : Int32) (l7_3 : Int64) (x1 : Int32), gB l10_3 0 1000000 → gB l9_3 0 1 → rpop l7_3 ≤ 64 → rpop l7_2 + ((l9_3.toInt : Int)).toNat ≤ rpop l7_3 → fI (F_1 q1) 3 = x1 → x1.toInt ≤ l10_3.toInt → R l10_3 l9_3 l7_3 294 l9_3 l7_3) →
  (∀ (l10_3 : Int32) (l9_3 : Int32) (l7_3 : Int64) (x1 : Int32) (x2 : Int64) (x3 : Int64) (x4 : Int32) (k : Nat) (e1 : Int32) (e2 : Int64), gB l10_3 0 1000000 → gB l9_3 0 1 → rpop l7_3 ≤ 64 → rpop l7_2 + ((l9_3.toInt : Int)).toNat ≤ rpop l7_3 → fI (F_1 q1) 3 = x1 → l10_3.toInt < x1.toInt → x2 = (l7_3.toUInt64 >>> (l10_3.toInt64.toUInt64 &&& Int64.toUInt64 63)).toInt64 → x3 = x2 &&& (1 : Int64) → (¬ x3 = (0 : Int64)) → x4.toInt = l10_3.toInt + 1 → R x4 l9_3 l7_3 k e1 e2 → R l10_3 l9_3 l7_3 k e1 e2) →
  (∀ (l10_3 : Int32) (l9_3 : Int32) (l7_3 : Int64) (x1 : Int32) (x2 : Int64) (x3 : Int64) (x4 : Int64) (x5 : Int64) (x6 : Int32) (x7 : Int64) (x8 : Int64) (x9 : Int32) (k : Nat) (e1 : Int32) (e2 : Int64), gB l10_3 0 1000000 → gB l9_3 0 1 → rpop l7_3 ≤ 64 → rpop l7_2 + ((l9_3.toInt : Int)).toNat ≤ rpop l7_3 → fI (F_1 q1) 3 = x1 → l10_3.toInt < x1.toInt → x2 = (l7_3.toUInt64 >>> (l10_3.toInt64.toUInt64 &&& Int64.toUInt64 63)).toInt64 → x3 = x2 &&& (1 : Int64) → x3 = (0 : Int64) → x4 = (c1.toUInt64 >>> (l10_3.toInt64.toUInt64 &&& Int64.toUInt64 63)).toInt64 → x5 = x4 &&& (1 : Int64) → (¬ x5 = (0 : Int64)) → tl_RModel_findDepth2_199 D I γ el F_1 q1 l10_3 l4_1 l7_3 (0 : Int32) (0 : Int32) 268 x6 → x6.toInt ≠ 0 → x7 = (1 : Int64) <<< (l10_3.toInt64 &&& 63) → x8 = l7_3 ||| x7 → x9.toInt = l10_3.toInt + 1 → R x9 (1 : Int32) x8 k e1 e2 → R l10_3 l9_3 l7_3 k e1 e2) →
  (∀ (l10_3 : Int32) (l9_3 : Int32) (l7_3 : Int64) (x1 : Int32) (x2 : Int64) (x3 : Int64) (x4 : Int64) (x5 : Int64) (x6 : Int32) (x7 : Int32) (k : Nat) (e1 : Int32) (e2 : Int64), gB l10_3 0 1000000 → gB l9_3 0 1 → rpop l7_3 ≤ 64 → rpop l7_2 + ((l9_3.toInt : Int)).toNat ≤ rpop l7_3 → fI (F_1 q1) 3 = x1 → l10_3.toInt < x1.toInt → x2 = (l7_3.toUInt64 >>> (l10_3.toInt64.toUInt64 &&& Int64.toUInt64 63)).toInt64 → x3 = x2 &&& (1 : Int64) → x3 = (0 : Int64) → x4 = (c1.toUInt64 >>> (l10_3.toInt64.toUInt64 &&& Int64.toUInt64 63)).toInt64 → x5 = x4 &&& (1 : Int64) → (¬ x5 = (0 : Int64)) → tl_RModel_findDepth2_199 D I γ el F_1 q1 l10_3 l4_1 l7_3 (0 : Int32) (0 : Int32) 268 x6 → x6.toInt = 0 → x7.toInt = l10_3.toInt + 1 → R x7 l9_3 l7_3 k e1 e2 → R l10_3 l9_3 l7_3 k e1 e2) →
  (∀ (l10_3 : Int32) (l9_3 : Int32) (l7_3 : Int64) (x1 : Int32) (x2 : Int64) (x3 : Int64) (x4 : Int64) (x5 : Int64) (x6 : Int32) (k : Nat) (e1 : Int32) (e2 : Int64), gB l10_3 0 1000000 → gB l9_3 0 1 → rpop l7_3 ≤ 64 → rpop l7_2 + ((l9_3.toInt : Int)).toNat ≤ rpop l7_3 → fI (F_1 q1) 3 = x1 → l10_3.toInt < x1.toInt → x2 = (l7_3.toUInt64 >>> (l10_3.toInt64.toUInt64 &&& Int64.toUInt64 63)).toInt64 → x3 = x2 &&& (1 : Int64) → x3 = (0 : Int64) → x4 = (c1.toUInt64 >>> (l10_3.toInt64.toUInt64 &&& Int64.toUInt64 63)).toInt64 → x5 = x4 &&& (1 : Int64) → x5 = (0 : Int64) → x6.toInt = l10_3.toInt + 1 → R x6 l9_3 l7_3 k e1 e2 → R l10_3 l9_3 l7_3 k e1 e2) →
  R s1 s2 s3 k e1 e2
/- tl_RModel_findDepth2_147: l9, l7; out: l7 -/
def tl_RModel_findDepth2_147 (D : va_G) (I : FieldType → ClassId) (γ el : Nat → Nat → Nat) (F_1 : Nat → va_E) (q1 : Nat) (c1 : Int64) (l4_1 : Int32) (s1 : Int32) (s2 : Int64) (k : Nat) (e1 : Int64) : Prop := ∀ R : (Int32) → (Int64) → Nat → (Int64) → Prop,
  (∀ (l9_2 : Int32) (l7_2 : Int64), gB l9_2 0 1 → rpop l7_2 ≤ 64 → l9_2.toInt = 0 → R l9_2 l7_2 297 l7_2) →
  (∀ (l9_2 : Int32) (l7_2 : Int64) (x1 : Int32) (x2 : Int64) (k : Nat) (e1 : Int64), gB l9_2 0 1 → rpop l7_2 ≤ 64 → l9_2.toInt ≠ 0 → tl_RModel_findDepth2_158 D I γ el l7_2 F_1 q1 c1 l4_1 (0 : Int32) (0 : Int32) l7_2 294 x1 x2 → R x1 x2 k e1 → R l9_2 l7_2 k e1) →
  R s1 s2 k e1
/- tl_RModel_findDepth2_75: l9, l7; out: l7 -/
def tl_RModel_findDepth2_75 (D : va_G) (I : FieldType → ClassId) (γ el : Nat → Nat → Nat) (F_1 : Nat → va_E) (q1 : Nat) (c1 : Int64) (l4_1 : Int32) (s1 : Int32) (s2 : Int64) (k : Nat) (e1 : Int64) : Prop := ∀ R : (Int32) → (Int64) → Nat → (Int64) → Prop,
  (∀ (l9_2 : Int32) (l7_2 : Int64) (x1 : Int32), gB l9_2 0 1000000 → fI (F_1 q1) 3 = x1 → x1.toInt ≤ l9_2.toInt → R l9_2 l7_2 125 l7_2) →
  (∀ (l9_2 : Int32) (l7_2 : Int64) (x1 : Int32) (x2 : Int64) (x3 : Int64) (x4 : Int32) (k : Nat) (e1 : Int64), gB l9_2 0 1000000 → fI (F_1 q1) 3 = x1 → l9_2.toInt < x1.toInt → x2 = (c1.toUInt64 >>> (l9_2.toInt64.toUInt64 &&& Int64.toUInt64 63)).toInt64 → x3 = x2 &&& (1 : Int64) → x3 = (0 : Int64) → x4.toInt = l9_2.toInt + 1 → R x4 l7_2 k e1 → R l9_2 l7_2 k e1) →
  (∀ (l9_2 : Int32) (l7_2 : Int64) (x1 : Int32) (x2 : Int64) (x3 : Int64) (x4 : Nat) (x5 : Nat) (x6 : Int32) (x7 : Int32) (x8 : Int32) (k : Nat) (e1 : Int64), gB l9_2 0 1000000 → fI (F_1 q1) 3 = x1 → l9_2.toInt < x1.toInt → x2 = (c1.toUInt64 >>> (l9_2.toInt64.toUInt64 &&& Int64.toUInt64 63)).toInt64 → x3 = x2 &&& (1 : Int64) → (¬ x3 = (0 : Int64)) → fR (F_1 q1) 0 = x4 → x5 = el x4 l9_2.toInt.toNat → fI (F_1 x4) 2 = x6 → tr_RCode_get l9_2 x6 → gB x7 0 1 → tr_RModel_leads D I γ el F_1 x5 l4_1 x7 → x7.toInt = 0 → x8.toInt = l9_2.toInt + 1 → R x8 l7_2 k e1 → R l9_2 l7_2 k e1) →
  (∀ (l9_2 : Int32) (l7_2 : Int64) (x1 : Int32) (x2 : Int64) (x3 : Int64) (x4 : Nat) (x5 : Nat) (x6 : Int32) (x7 : Int32) (x8 : Int64) (x9 : Int64) (x10 : Int32) (k : Nat) (e1 : Int64), gB l9_2 0 1000000 → fI (F_1 q1) 3 = x1 → l9_2.toInt < x1.toInt → x2 = (c1.toUInt64 >>> (l9_2.toInt64.toUInt64 &&& Int64.toUInt64 63)).toInt64 → x3 = x2 &&& (1 : Int64) → (¬ x3 = (0 : Int64)) → fR (F_1 q1) 0 = x4 → x5 = el x4 l9_2.toInt.toNat → fI (F_1 x4) 2 = x6 → tr_RCode_get l9_2 x6 → gB x7 0 1 → tr_RModel_leads D I γ el F_1 x5 l4_1 x7 → x7.toInt ≠ 0 → x8 = (1 : Int64) <<< (l9_2.toInt64 &&& 63) → x9 = l7_2 ||| x8 → x10.toInt = l9_2.toInt + 1 → R x10 x9 k e1 → R l9_2 l7_2 k e1) →
  R s1 s2 k e1
/- tl_RModel_findDepth2_32: F, l4; out: F -/
def tl_RModel_findDepth2_32 (D : va_G) (I : FieldType → ClassId) (γ el : Nat → Nat → Nat) (P : List Nat) (F : Nat → va_E) (q0 : Nat) (q1 : Nat) (c1 : Int64) (s1 : Nat → va_E) (s2 : Int32) (k : Nat) (e1 : Nat → va_E) : Prop := ∀ R : (Nat → va_E) → (Int32) → Nat → (Nat → va_E) → Prop,
  (∀ (F_1 : Nat → va_E) (l4_1 : Int32) (x1 : Int32), gB l4_1 0 1000000 → RS D I P F_1 γ el → rStr γ [] F F_1 → (F_1 q0 = F q0) → (F_1 (γ 9 3) = F (γ 9 3)) → fI (F_1 q1) 3 = x1 → x1.toInt ≤ l4_1.toInt → R F_1 l4_1 339 F_1) →
  (∀ (F_1 : Nat → va_E) (l4_1 : Int32) (x1 : Int32) (x2 : Int64) (x3 : Int64) (x4 : Int64) (x5 : Int64) (x6 : Int64) (x7 : Int64) (x8 : Int64) (x9 : Int64) (x10 : Int64) (x11 : Nat → va_E) (x12 : Int32) (k : Nat) (e1 : Nat → va_E), gB l4_1 0 1000000 → RS D I P F_1 γ el → rStr γ [] F F_1 → (F_1 q0 = F q0) → (F_1 (γ 9 3) = F (γ 9 3)) → fI (F_1 q1) 3 = x1 → l4_1.toInt < x1.toInt → x2 = (c1.toUInt64 >>> (l4_1.toInt64.toUInt64 &&& Int64.toUInt64 63)).toInt64 → x3 = x2 &&& (1 : Int64) → (¬ x3 = (0 : Int64)) → tr_RModel_reached D I γ el F_1 q1 l4_1 x4 → x5 = x4 ^^^ (-1 : Int64) → x6 = c1 &&& x5 → tl_RModel_findDepth2_75 D I γ el F_1 q1 x6 l4_1 (0 : Int32) (0 : Int64) 125 x7 → (¬ x7 = (0 : Int64)) → x8 = (1 : Int64) <<< (l4_1.toInt64 &&& 63) → x9 = x7 ||| x8 → tl_RModel_findDepth2_147 D I γ el F_1 q1 c1 l4_1 (1 : Int32) x9 297 x10 → tl_RModel_findDepth2_300 D I γ el P F q0 q1 x10 F_1 (0 : Int32) 333 x11 → x12.toInt = l4_1.toInt + 1 → R x11 x12 k e1 → R F_1 l4_1 k e1) →
  (∀ (F_1 : Nat → va_E) (l4_1 : Int32) (x1 : Int32) (x2 : Int64) (x3 : Int64) (x4 : Int64) (x5 : Int64) (x6 : Int64) (x7 : Int64) (x8 : Int32) (k : Nat) (e1 : Nat → va_E), gB l4_1 0 1000000 → RS D I P F_1 γ el → rStr γ [] F F_1 → (F_1 q0 = F q0) → (F_1 (γ 9 3) = F (γ 9 3)) → fI (F_1 q1) 3 = x1 → l4_1.toInt < x1.toInt → x2 = (c1.toUInt64 >>> (l4_1.toInt64.toUInt64 &&& Int64.toUInt64 63)).toInt64 → x3 = x2 &&& (1 : Int64) → (¬ x3 = (0 : Int64)) → tr_RModel_reached D I γ el F_1 q1 l4_1 x4 → x5 = x4 ^^^ (-1 : Int64) → x6 = c1 &&& x5 → tl_RModel_findDepth2_75 D I γ el F_1 q1 x6 l4_1 (0 : Int32) (0 : Int64) 125 x7 → x7 = (0 : Int64) → x8.toInt = l4_1.toInt + 1 → R F_1 x8 k e1 → R F_1 l4_1 k e1) →
  (∀ (F_1 : Nat → va_E) (l4_1 : Int32) (x1 : Int32) (x2 : Int64) (x3 : Int64) (x4 : Int32) (k : Nat) (e1 : Nat → va_E), gB l4_1 0 1000000 → RS D I P F_1 γ el → rStr γ [] F F_1 → (F_1 q0 = F q0) → (F_1 (γ 9 3) = F (γ 9 3)) → fI (F_1 q1) 3 = x1 → l4_1.toInt < x1.toInt → x2 = (c1.toUInt64 >>> (l4_1.toInt64.toUInt64 &&& Int64.toUInt64 63)).toInt64 → x3 = x2 &&& (1 : Int64) → x3 = (0 : Int64) → x4.toInt = l4_1.toInt + 1 → R F_1 x4 k e1 → R F_1 l4_1 k e1) →
  R s1 s2 k e1
/- tl_RModel_findDepth2_2: F, l2; out: F -/
def tl_RModel_findDepth2_2 (D : va_G) (I : FieldType → ClassId) (γ el : Nat → Nat → Nat) (P : List Nat) (F : Nat → va_E) (q0 : Nat) (q1 : Nat) (s1 : Nat → va_E) (s2 : Int32) (k : Nat) (e1 : Nat → va_E) : Prop := ∀ R : (Nat → va_E) → (Int32) → Nat → (Nat → va_E) → Prop,
  (∀ (F_1 : Nat → va_E) (l2_1 : Int32) (x1 : Int32), gB l2_1 0 1000000 → RS D I P F_1 γ el → rStr γ [] F F_1 → (F_1 q0 = F q0) → (F_1 (γ 9 3) = F (γ 9 3)) → fI (F_1 q1) 3 = x1 → x1.toInt ≤ l2_1.toInt → R F_1 l2_1 23 F_1) →
  (∀ (F_1 : Nat → va_E) (l2_1 : Int32) (x1 : Int32) (x2 : Nat → Int32) (x3 : Nat → Int32) (x4 : Nat → va_E) (x5 : Int32) (k : Nat) (e1 : Nat → va_E), gB l2_1 0 1000000 → RS D I P F_1 γ el → rStr γ [] F F_1 → (F_1 q0 = F q0) → (F_1 (γ 9 3) = F (γ 9 3)) → fI (F_1 q1) 3 = x1 → l2_1.toInt < x1.toInt → fR (F_1 q0) 4 = (γ 9 4) → F_1 (γ 9 4) = .inl (I .int, 40, .inl x2) → x3 = upd x2 l2_1.toNatClampNeg 0 → (∀ b, b ≠ (γ 9 4) → x4 b = F_1 b) → x4 (γ 9 4) = .inl (I .int, 40, .inl x3) → x5.toInt = l2_1.toInt + 1 → R x4 x5 k e1 → R F_1 l2_1 k e1) →
  R s1 s2 k e1
/- tr_RModel_findDepth2: F -/
def tr_RModel_findDepth2 (D : va_G) (I : FieldType → ClassId) (γ el : Nat → Nat → Nat) (P : List Nat) (F : Nat → va_E) (q0 : Nat) (q1 : Nat) (o1 : Nat → va_E) : Prop := ∀ R : (Nat → va_E) → Prop,
  (∀ (x1 : Nat → va_E) (x2 : Int64) (x3 : Nat → va_E) (x4 : Nat → va_E), tl_RModel_findDepth2_2 D I γ el P F q0 q1 F (0 : Int32) 23 x1 → tr_RModel_reached D I γ el x1 q1 (-1 : Int32) x2 → tl_RModel_findDepth2_32 D I γ el P F q0 q1 x2 x1 (0 : Int32) 339 x3 → tl_RModel_findDepth2_342 D I γ el P F q0 q1 x3 (0 : Int32) 375 x4 → R x4) →
  R o1
