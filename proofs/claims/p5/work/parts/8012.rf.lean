theorem dr_cX17_give_0 : decode cX17_give 0 = .ok (.aload_n 0, 1) := by decide +kernel
theorem dr_cX17_give_1 : decode cX17_give 1 = .ok (.iconst 0, 1) := by decide +kernel
theorem dr_cX17_give_2 : decode cX17_give 2 = .ok (.putfield 380, 3) := by decide +kernel
theorem dr_cX17_give_5 : decode cX17_give 5 = .ok (.iload_n 1, 1) := by decide +kernel
theorem dr_cX17_give_6 : decode cX17_give 6 = .ok (.iconst 1, 1) := by decide +kernel
theorem dr_cX17_give_7 : decode cX17_give 7 = .ok (.if_icmp .lt 9, 3) := by decide +kernel
theorem dr_cX17_give_16 : decode cX17_give 16 = .ok (.aload_n 0, 1) := by decide +kernel
theorem dr_cX17_give_17 : decode cX17_give 17 = .ok (.iconst 1, 1) := by decide +kernel
theorem dr_cX17_give_18 : decode cX17_give 18 = .ok (.invokevirtual 385, 3) := by decide +kernel
theorem dr_cX17_give_21 : decode cX17_give 21 = .ok (.ireturn, 1) := by decide +kernel
theorem dr_cX17_give_10 : decode cX17_give 10 = .ok (.iload_n 1, 1) := by decide +kernel
theorem dr_cX17_give_11 : decode cX17_give 11 = .ok (.bipush 32, 2) := by decide +kernel
theorem dr_cX17_give_13 : decode cX17_give 13 = .ok (.if_icmp .le 9, 3) := by decide +kernel
theorem dr_cX17_give_22 : decode cX17_give 22 = .ok (.aload_n 0, 1) := by decide +kernel
theorem dr_cX17_give_23 : decode cX17_give 23 = .ok (.getfield 414, 3) := by decide +kernel
theorem dr_cX17_give_26 : decode cX17_give 26 = .ok (.ifCond .ne 9, 3) := by decide +kernel
theorem dr_cX17_give_35 : decode cX17_give 35 = .ok (.aload_n 0, 1) := by decide +kernel
theorem dr_cX17_give_36 : decode cX17_give 36 = .ok (.getfield 365, 3) := by decide +kernel
theorem dr_cX17_give_39 : decode cX17_give 39 = .ok (.aload_n 0, 1) := by decide +kernel
theorem dr_cX17_give_40 : decode cX17_give 40 = .ok (.getfield 361, 3) := by decide +kernel
theorem dr_cX17_give_43 : decode cX17_give 43 = .ok (.invokevirtual 419, 3) := by decide +kernel
theorem dr_cX17_give_46 : decode cX17_give 46 = .ok (.aload_n 0, 1) := by decide +kernel
theorem dr_cX17_give_47 : decode cX17_give 47 = .ok (.aload_n 0, 1) := by decide +kernel
theorem dr_cX17_give_48 : decode cX17_give 48 = .ok (.getfield 365, 3) := by decide +kernel
theorem dr_cX17_give_51 : decode cX17_give 51 = .ok (.iload_n 1, 1) := by decide +kernel
theorem dr_cX17_give_52 : decode cX17_give 52 = .ok (.invokevirtual 422, 3) := by decide +kernel
theorem wr_10_144 : (Jvm.Cond.methodLink "SpillForgeModel" (422 : Nat) ({ cls := "SpillForgeModel", name := "giveAll", desc := "(LSpillForgeModel$Code;I)I" } : Jvm.MethodName)) ∈ gw := gw_10 144 rfl rfl
theorem wr_10_147 : (Jvm.Cond.code ({ cls := "SpillForgeModel", name := "giveAll", desc := "(LSpillForgeModel$Code;I)I" } : Jvm.MethodName) prog_14_method_24_code (8 : Nat) (Option.some Jvm.ClassFile.FieldType.int)) ∈ gw := gw_10 147 rfl rfl
theorem wr_10_146 : (Jvm.Cond.instanceMethod ({ cls := "SpillForgeModel", name := "giveAll", desc := "(LSpillForgeModel$Code;I)I" } : Jvm.MethodName)) ∈ gw := gw_10 146 rfl rfl
theorem wr_p_92 : Cond.selects "SpillForgeModel" ⟨"SpillForgeModel", "giveAll", "(LSpillForgeModel$Code;I)I"⟩ ⟨"SpillForgeModel", "giveAll", "(LSpillForgeModel$Code;I)I"⟩ ∈ gw := gw_p _ 92 rfl rfl rfl
theorem dr_cX17_give_55 : decode cX17_give 55 = .ok (.istore_n 2, 1) := by decide +kernel
theorem dr_cX17_give_56 : decode cX17_give 56 = .ok (.aload_n 0, 1) := by decide +kernel
theorem dr_cX17_give_57 : decode cX17_give 57 = .ok (.iload_n 2, 1) := by decide +kernel
theorem dr_cX17_give_58 : decode cX17_give 58 = .ok (.ifCond .le 7, 3) := by decide +kernel
theorem dr_cX17_give_65 : decode cX17_give 65 = .ok (.iconst 0, 1) := by decide +kernel
theorem dr_cX17_give_66 : decode cX17_give 66 = .ok (.putfield 416, 3) := by decide +kernel
theorem dr_cX17_give_69 : decode cX17_give 69 = .ok (.iload_n 2, 1) := by decide +kernel
theorem dr_cX17_give_70 : decode cX17_give 70 = .ok (.ireturn, 1) := by decide +kernel
theorem dr_cX17_give_61 : decode cX17_give 61 = .ok (.iconst 1, 1) := by decide +kernel
theorem dr_cX17_give_62 : decode cX17_give 62 = .ok (.goto 4, 3) := by decide +kernel
theorem dr_cX17_give_29 : decode cX17_give 29 = .ok (.aload_n 0, 1) := by decide +kernel
theorem dr_cX17_give_30 : decode cX17_give 30 = .ok (.iconst 2, 1) := by decide +kernel
theorem dr_cX17_give_31 : decode cX17_give 31 = .ok (.invokevirtual 385, 3) := by decide +kernel
theorem dr_cX17_give_34 : decode cX17_give 34 = .ok (.ireturn, 1) := by decide +kernel
abbrev ky_639359_SpillForgeModel_give : gKey := (cX17_give, 3, "SpillForgeModel", (some FieldType.int), [], "give", fun _ _ => True)
def pg_639359_SpillForgeModel_give (D : va_G) (I : FieldType → ClassId) (γ0 el0 : Nat → Nat → Nat) (f : Nat) (fo : Nat) (B : Nat) (P639347 : List Nat) (F639348 : Nat → va_E) (q639349 : Nat) (p639350 : Int32) (q639351 : Nat) (q639352 : Nat) : Option Value → va_W → Nat → Nat → Prop := fun r w dc ds => ∃ (P639881 : List Nat) (F639882 : Nat → va_E) (γ el : Nat → Nat → Nat) (o639880 : Int32), r = some (.int o639880) ∧ w = va_pl P639881 F639882 ∧ rSk f [1, 2, 3, 101, 102, 103, 202] ([1, 2, 3, 4, 5, 6, 7, 8, 9, 101, 102, 103, 202] ++ npk) D I P639347 F639348 γ0 el0 P639881 F639882 γ el ∧ (18 * dc + rPh γ0 el0 f ≤ rPh γ el f ∧ ds + rPh γ0 el0 f ≤ rPh γ el f) ∧ rBd γ el f B ∧ gB o639880 (-1) 40 ∧ ((fI (F639882 q639349) 10).toInt = 0 ∨ 0 < γ 6 f) ∧ mKp (F639348 q639349) (F639882 q639349)
set_option maxRecDepth 100000 in
set_option maxHeartbeats 20000000 in
theorem cg_639359_SpillForgeModel_give (l : Launch) (hl0 : l.stackTraces = false) (D : va_G) (I : FieldType → ClassId) (γ0 el0 : Nat → Nat → Nat) (f : Nat) (fo : Nat) (B : Nat) (P639347 : List Nat) (F639348 : Nat → va_E) (q639349 : Nat) (p639350 : Int32) (q639351 : Nat) (q639352 : Nat) (hT0 : RS D I P639347 F639348 γ0 el0) (hzq639349 : rKd γ0 q639349 10) (hzq639351 : rKd γ0 q639351 9) (hzq639352 : rKd γ0 q639352 9) (hvq639351 : γ0 9 7 = q639351) (hvq639352 : γ0 9 6 = q639352) (hf0 : γ0 1 q639351 = f) (hfo0 : γ0 1 q639352 = fo) (hne : fo ≠ f) (hB0 : rBd γ0 el0 f B) (hBk : B ≤ 100000) (x639353 : f = 1) (x639354 : fo = 0) (x639355 : ((fI (F639348 q639349) 9).toInt = 0 ∨ (0 < γ0 6 fo ∧ γ0 16 fo ≤ 160))) (x639356 : γ0 7 fo = 0) (x639357 : 4061 ≤ B) (x639358 : ((fI (F639348 q639349) 10).toInt = 0 ∨ 0 < γ0 6 f)) : CtA (gV D I) l yX17_give cX17_give 3 (some FieldType.int) 11 251 (((387 * B + 6000) - rPh γ0 el0 f) / 18) ((387 * B + 6000) - rPh γ0 el0 f) [.ref q639349, .int p639350] (va_pl P639347 F639348) (pg_639359_SpillForgeModel_give D I γ0 el0 f fo B P639347 F639348 q639349 p639350 q639351 q639352) gNA := by
  refine CtA_of hl0 (by decide) (Nat.le_of_ble_eq_true rfl) ?_
  have bp639350 := gB_any p639350
  obtain ⟨γ, hγ0⟩ : ∃ z, z = γ0 := ⟨_, rfl⟩
  obtain ⟨el, hel0⟩ : ∃ z, z = el0 := ⟨_, rfl⟩
  have hT : RS D I P639347 F639348 γ el := by rw [hγ0, hel0]; exact hT0
  have hst : rSk f [1, 2, 3, 101, 102, 103, 202] ([1, 2, 3, 4, 5, 6, 7, 8, 9, 101, 102, 103, 202] ++ npk) D I P639347 F639348 γ0 el0 P639347 F639348 γ el := by rw [hγ0, hel0]; exact rSk_rf hT0
  have hph : rPh γ0 el0 f ≤ rPh γ el f := by rw [hγ0, hel0]; exact Nat.le_refl _
  have hB : rBd γ el f B := by rw [hγ0, hel0]; exact hB0
  have htq639349 : rKd γ q639349 10 := by rw [hγ0]; exact hzq639349
  have htq639351 : rKd γ q639351 9 := by rw [hγ0]; exact hzq639351
  have htq639352 : rKd γ q639352 9 := by rw [hγ0]; exact hzq639352
  have hf1 : γ 1 q639351 = f := by rw [hγ0]; exact hf0
  have hfo1 : γ 1 q639352 = fo := by rw [hγ0]; exact hfo0
  have x639355n : ((fI (F639348 q639349) 9).toInt = 0 ∨ (0 < γ 6 fo ∧ γ 16 fo ≤ 160)) := by rw [hγ0]; exact x639355
  have x639356n : γ 7 fo = 0 := by rw [hγ0]; exact x639356
  have x639358n : ((fI (F639348 q639349) 10).toInt = 0 ∨ 0 < γ 6 f) := by rw [hγ0]; exact x639358
  have pk639360 : rPh γ el f ≤ 387 * B + 6000 := rm_pk (rM_ge hT htq639351 hf1).1 (rM_bd hB)
  refine G_widen (cs' := ((rPh γ el f - rPh γ0 el0 f) / 18)) (sl' := (rPh γ el f - rPh γ0 el0 f)) (Nat.zero_le _) (Nat.zero_le _) ?_
  have lz0 : Int32.toInt 0 = 0 := by decide
  have r639361 : γ 6 f = γ0 6 f := by rw [hγ0]
  have r639362 : γ 7 f = γ0 7 f := by rw [hγ0]
  have r639363 : γ 16 f = γ0 16 f := by rw [hγ0]
  have r639364 : γ 18 f = γ0 18 f := by rw [hγ0]
  have r639365 : γ 19 f = γ0 19 f := by rw [hγ0]
  have hm639366 : q639349 ∈ P639347 := RS_m hT htq639349 (by decide)
  refine rk10_e (show rk_10 γ (F639348 q639349) from RS_o hT htq639349) (fun q639368 q639369 p639370 p639371 p639372 p639373 p639374 p639375 p639376 p639377 p639378 p639379 p639380 p639381 p639382 p639383 p639384 he639367 hB639411 ht639385 ht639386 ht639387 ht639388 ht639389 ht639390 ht639391 ht639392 ht639393 ht639394 ht639395 ht639396 ht639397 ht639398 ht639399 ht639400 ht639401 ht639402 ht639403 ht639404 ht639405 ht639406 ht639407 ht639408 hB639412 => ?_)
  have ac0_9 : (fI (F639348 q639349) 9).toInt = p639370.toInt := by rw [he639367]; rfl
  have ac0_10 : (fI (F639348 q639349) 10).toInt = p639371.toInt := by rw [he639367]; rfl
  have ac0_32 : (fI (F639348 q639349) 32).toInt = p639382.toInt := by rw [he639367]; rfl
  have r639413 : γ 6 fo = γ0 6 fo := by rw [hγ0]
  have r639414 : γ 7 fo = γ0 7 fo := by rw [hγ0]
  have r639415 : γ 16 fo = γ0 16 fo := by rw [hγ0]
  refine G_aload_n 0 dr_cX17_give_0 rfl ?_
  refine G_iconst 0 dr_cX17_give_1 (by decide +kernel) ?_
  refine Gp_put 30 hm639366 he639367 dr_cX17_give_2 (gk_X17 D I) (Nat.le_of_ble_eq_true rfl) wr_7_104 rfl rfl rfl (Nat.le_of_ble_eq_true rfl) (fun F639416 e639417 n639418 => ?_)
  have he639419 : F639416 q639349 = .inr (22, [.ref (γ 9 0), .ref (γ 9 1), .ref (γ 9 2), .ref (γ 9 3), .ref (γ 9 4), .ref (γ 9 5), .ref (γ 9 6), .ref (γ 9 7), .ref (γ 9 8), .int p639370, .int p639371, .int p639372, .int p639373, .int p639374, .int p639375, .ref (γ 9 15), .ref (γ 9 16), .ref (γ 9 17), .ref (γ 9 18), .ref (γ 9 19), .ref (γ 9 20), .ref (γ 9 21), .ref (γ 9 22), .int p639376, .int p639377, .int p639378, .int p639379, .int p639380, .ref q639368, .ref (γ 9 29), .int 0, .ref (γ 9 31), .int p639382, .int p639383, .int p639384, .ref q639369]) := e639417
  have mk639420 : mKp (F639348 q639349) (F639416 q639349) := mKp_tr mKp_rf (by rw [he639367, he639419]; exact ⟨rfl, rfl⟩)
  have hT639421 : RS D I P639347 F639416 γ el := RS_set hT n639418 htq639349 (by decide) ⟨q639368, q639369, p639370, p639371, p639372, p639373, p639374, p639375, p639376, p639377, p639378, p639379, p639380, 0, p639382, p639383, p639384, he639419, ⟨(hB639411.1), (hB639411.2.1), (hB639411.2.2.1), (hB639411.2.2.2.1), (hB639411.2.2.2.2.1), (hB639411.2.2.2.2.2.1), (hB639411.2.2.2.2.2.2.1), (hB639411.2.2.2.2.2.2.2.1), (hB639411.2.2.2.2.2.2.2.2)⟩, ht639385, ht639386, ht639387, ht639388, ht639389, ht639390, ht639391, ht639392, ht639393, ht639394, ht639395, ht639396, ht639397, ht639398, ht639399, ht639400, ht639401, ht639402, ht639403, ht639404, ht639405, ht639406, ht639407, ht639408, hB639412⟩
  have hs639422 := rSk_put hst hT639421 n639418 htq639349 (by decide) (by decide)
  have ac639423 : (fI (F639416 q639349) 10).toInt = p639371.toInt := by rw [he639419]; rfl
  refine G_iload_n 1 dr_cX17_give_5 rfl ?_
  refine G_iconst 1 dr_cX17_give_6 (by decide +kernel) ?_
  refine G_icmp_lt 16 dr_cX17_give_7 (by decide +kernel) (fun hc639424 => ?_) (fun hc639424 => ?_)
  · have r639425 : p639350.toInt < 1 := gj_lt hc639424 (show Int32.toInt 1 = 1 by decide)
    have bp639350' : gB p639350 (-2147483648) 0 := ⟨by omega, by omega⟩
    refine G_aload_n 0 dr_cX17_give_16 rfl ?_
    refine G_iconst 1 dr_cX17_give_17 (by decide +kernel) ?_
    refine Gw_callV (As := [.int 1]) (gV_ok D I) (ct_571896_SpillForgeModel_no l hl0 D I γ el P639347 F639416 q639349 1 hT639421 htq639349) dr_cX17_give_18 ⟨wr_7_187, wr_1_14, wr_7_190, by decide, rfl, (Nat.le_of_ble_eq_true rfl), (Nat.le_of_ble_eq_true rfl)⟩ wr_7_189 wr_p_73 hm639366 he639419 rfl (rm_zc pk639360) (rm_zs pk639360) (Nat.le_of_ble_eq_true rfl) (fun r639429 w639430 dc639426 ds639427 hp639428 => ?_) (fun _ _ _ _ _ z => z.elim)
    obtain ⟨F639433, rfl, rfl, hT639434, hs639435, hdc, hds, x639431, x639432⟩ := hp639428
    have hs639436 := rSk_str hs639422 hT639434 hs639435 (by decide) (by decide) (by decide)
    have mk639437 : mKp (F639348 q639349) (F639433 q639349) := mKp_tr mk639420 x639432
    change G _ _ _ _ _ _ _ (.int 0 :: _) _ _ _
    refine G_widen (cs' := ((rPh γ el f - rPh γ0 el0 f) / 18)) (sl' := (rPh γ el f - rPh γ0 el0 f)) (rm_d0 hdc) (rm_d0 hds) ?_
    have hm639438 : q639349 ∈ P639347 := RS_m hT639434 htq639349 (by decide)
    refine rk10_e (show rk_10 γ (F639433 q639349) from RS_o hT639434 htq639349) (fun q639440 q639441 p639442 p639443 p639444 p639445 p639446 p639447 p639448 p639449 p639450 p639451 p639452 p639453 p639454 p639455 p639456 he639439 hB639483 ht639457 ht639458 ht639459 ht639460 ht639461 ht639462 ht639463 ht639464 ht639465 ht639466 ht639467 ht639468 ht639469 ht639470 ht639471 ht639472 ht639473 ht639474 ht639475 ht639476 ht639477 ht639478 ht639479 ht639480 hB639484 => ?_)
    have ac639485 : (fI (F639433 q639349) 9).toInt = p639442.toInt := by rw [he639439]; rfl
    have ac639486 : (fI (F639433 q639349) 10).toInt = p639443.toInt := by rw [he639439]; rfl
    have ac639487 : (fI (F639433 q639349) 32).toInt = p639454.toInt := by rw [he639439]; rfl
    exact G_iretA dr_cX17_give_21 rfl (show ((rPh γ el f - rPh γ0 el0 f) / 18) ≤ (((387 * B + 6000) - rPh γ0 el0 f) / 18) by omega) (show (rPh γ el f - rPh γ0 el0 f) ≤ ((387 * B + 6000) - rPh γ0 el0 f) by omega) ⟨P639347, F639433, γ, el, 0, rfl, rfl, hs639436, ⟨by omega, by omega⟩, hB, (gB_w (gBl (show Int32.toInt 0 = 0 by decide)) (by decide) (by decide)), (by have qa0 : Int32.toInt 0 = 0 := (by decide); omega), mk639437⟩
  · have r639488 : 1 ≤ p639350.toInt := gj_nlt hc639424 (show Int32.toInt 1 = 1 by decide)
    have bp639350' : gB p639350 1 2147483647 := ⟨by omega, by omega⟩
    refine G_iload_n 1 dr_cX17_give_10 rfl ?_
    refine G_bipush 32 dr_cX17_give_11 (by decide +kernel) ?_
    refine G_icmp_le 22 dr_cX17_give_13 (by decide +kernel) (fun hc639489 => ?_) (fun hc639489 => ?_)
    · have r639490 : p639350.toInt ≤ 32 := gj_le hc639489 (show Int32.toInt 32 = 32 by decide)
      have bp639350'' : gB p639350 1 32 := ⟨by omega, by omega⟩
      refine G_aload_n 0 dr_cX17_give_22 rfl ?_
      refine Gp_get 9 hm639366 he639419 dr_cX17_give_23 (gk_X17 D I) (Nat.le_of_ble_eq_true rfl) wr_7_83 rfl ?_
      have bp639370 : gB p639370 0 1 := (hB639411.1)
      refine G_if_ne 35 dr_cX17_give_26 (by decide +kernel) (fun hc639491 => ?_) (fun hc639491 => ?_)
      · have r639492 : p639370.toInt ≠ 0 := gj_neq hc639491 (show Int32.toInt 0 = 0 by decide)
        have bp639370' : gB p639370 1 1 := gB_t1 bp639370 r639492
        refine G_aload_n 0 dr_cX17_give_35 rfl ?_
        refine Gp_get 7 hm639366 he639419 dr_cX17_give_36 (gk_X17 D I) (Nat.le_of_ble_eq_true rfl) wr_7_81 rfl ?_
        rw [show γ 9 7 = q639351 from (congrFun (rSk_9 hs639422) 7).trans hvq639351]
        refine G_aload_n 0 dr_cX17_give_39 rfl ?_
        refine Gp_get 6 hm639366 he639419 dr_cX17_give_40 (gk_X17 D I) (Nat.le_of_ble_eq_true rfl) wr_7_80 rfl ?_
        rw [show γ 9 6 = q639352 from (congrFun (rSk_9 hs639422) 6).trans hvq639352]
        have rg639493 := rM_ge hT639421 htq639351 hf1
        have rm639494 := rM_bd hB
        have bd639495 := rBd_c hT639421 htq639351 hf1 hB
        have rc639496 := rc_at hT639421 htq639351 hf1
        have hm639502 : q639351 ∈ P639347 := RS_m hT639421 htq639351 (by decide)
        obtain ⟨q639504, q639505, p639506, p639507, he639503, ht639523, ht639508, ht639509, ht639510, ht639511, r639512, r639513, r639514, r639515, r639516, r639517, r639518, r639519, r639520, r639521, r639522⟩ := show rk_9 γ el q639351 (F639416 q639351) from RS_o hT639421 htq639351
        have bp639506 : gB p639506 0 1000000 := ⟨by omega, by omega⟩
        have bp639507 : gB p639507 0 1000000 := ⟨by omega, by omega⟩
        have hf639524 : γ 1 q639504 = f := (show γ 1 q639504 = γ 1 q639351 from ht639509).trans hf1
        have hf639525 : γ 1 q639505 = f := (show γ 1 q639505 = γ 1 q639351 from ht639511).trans hf1
        have r639526 : γ 6 (γ 1 q639351) = γ 6 f := by rw [hf1]
        have r639527 : γ 16 (γ 1 q639351) = γ 16 f := by rw [hf1]
        refine Gw_callV (As := [.ref q639352]) (gV_ok D I) (cg_189834_Code_copy l hl0 D I γ el f fo B P639347 F639416 q639351 q639352 hT639421 htq639351 htq639352 hf1 hfo1 hne hB hBk (by omega) (by omega) (by omega)) dr_cX17_give_43 ⟨wr_10_128, wr_1_15, wr_10_131, by decide, rfl, (Nat.le_of_ble_eq_true rfl), (Nat.le_of_ble_eq_true rfl)⟩ wr_10_129 wr_10_130 hm639502 he639503 rfl (rm_gc hph pk639360) (rm_gs hph pk639360) (Nat.le_of_ble_eq_true rfl) (fun r639500 w639501 dc639497 ds639498 hp639499 => ?_) (fun _ _ _ _ _ z => z.elim)
        obtain ⟨P639532, F639533, γ, el, rfl, rfl, hk639534, ⟨hr639535, hr639536⟩, hB639537, x639528, x639529, x639530, x639531⟩ := hp639499
        have hT639538 := hk639534.1
        have hs639539 := rSk_tr hs639422 hk639534 (by decide) (by decide) (by decide)
        have kp639540 : F639533 q639349 = F639416 q639349 := rSk_F hk639534 htq639349 (by decide) (by decide)
        have r639541 := rSk_F hk639534 htq639349 (by decide) (by decide)
        have ht639542 : rKd γ q639349 10 := rSk_k hk639534 htq639349 (by decide) (by decide)
        have ht639543 : rKd γ q639351 9 := rSk_k hk639534 htq639351 (by decide) (by decide)
        have hf639544 : γ 1 q639351 = f := rSk_1 hk639534 htq639351 (by decide) hf1
        have ht639545 : rKd γ q639352 9 := rSk_kf hk639534 htq639352 (by decide) (by rw [hfo1]; exact hne)
        have hf639546 : γ 1 q639352 = fo := rSk_1 hk639534 htq639352 (by decide) hfo1
        have mk639547 : mKp (F639348 q639349) (F639533 q639349) := mKp_tr mk639420 (mKp_eq (rSk_F hk639534 htq639349 (by decide) (by decide)))
        clear r639512 r639513 r639514 r639515 r639516 r639517 r639519 r639520 r639521 r639522 bp639506 bp639507 rg639493 rm639494 bd639495 rc639496
        clear r639518
        have hph639548 : rPh γ0 el0 f ≤ rPh γ el f := rm_ph hph hr639536
        have pk639549 : rPh γ el f ≤ 387 * B + 6000 := rm_pk (rM_ge hT639538 ht639543 hf639544).1 (rM_bd hB639537)
        change G _ _ _ _ _ _ _ _ _ _ _
        refine G_widen (cs' := ((rPh γ el f - rPh γ0 el0 f) / 18)) (sl' := (rPh γ el f - rPh γ0 el0 f)) (rm_wc hph hr639535) (rm_ws hph hr639536) ?_
        have r639550 := rSk_g hs639539 hne
        have r639551 : γ 6 fo = γ0 6 fo := r639550.1
        have r639552 : γ 7 fo = γ0 7 fo := r639550.2.1
        have r639553 : γ 16 fo = γ0 16 fo := r639550.2.2.1
        have r639554 : 0 < γ 6 (γ 1 q639351) := by rw [hf639544]; omega
        refine G_aload_n 0 dr_cX17_give_46 rfl ?_
        refine G_aload_n 0 dr_cX17_give_47 rfl ?_
        have hm639555 : q639349 ∈ P639532 := RS_m hT639538 ht639542 (by decide)
        refine rk10_e (show rk_10 γ (F639533 q639349) from RS_o hT639538 ht639542) (fun q639557 q639558 p639559 p639560 p639561 p639562 p639563 p639564 p639565 p639566 p639567 p639568 p639569 p639570 p639571 p639572 p639573 he639556 hB639600 ht639574 ht639575 ht639576 ht639577 ht639578 ht639579 ht639580 ht639581 ht639582 ht639583 ht639584 ht639585 ht639586 ht639587 ht639588 ht639589 ht639590 ht639591 ht639592 ht639593 ht639594 ht639595 ht639596 ht639597 hB639601 => ?_)
        refine Gp_get 7 hm639555 he639556 dr_cX17_give_48 (gk_X17 D I) (Nat.le_of_ble_eq_true rfl) wr_7_81 rfl ?_
        rw [show γ 9 7 = q639351 from (congrFun (rSk_9 hs639539) 7).trans hvq639351]
        refine G_iload_n 1 dr_cX17_give_51 rfl ?_
        have rg639602 := rM_ge hT639538 ht639543 hf639544
        have rm639603 := rM_bd hB639537
        have bd639604 := rBd_c hT639538 ht639543 hf639544 hB639537
        have rc639605 := rc_at hT639538 ht639543 hf639544
        refine Gw_callV (As := [.ref q639351, .int p639350]) (gV_ok D I) (cg_614040_SpillForgeModel_giveAll l hl0 D I γ el f B P639532 F639533 q639349 q639351 p639350 hT639538 ht639542 ht639543 hf639544 hB639537 hBk bp639350'' (by omega) (by omega) (by omega)) dr_cX17_give_52 ⟨wr_10_144, wr_1_14, wr_10_147, by decide, rfl, (Nat.le_of_ble_eq_true rfl), (Nat.le_of_ble_eq_true rfl)⟩ wr_10_146 wr_p_92 hm639555 he639556 rfl (rm_gc hph639548 pk639549) (rm_gs hph639548 pk639549) (Nat.le_of_ble_eq_true rfl) (fun r639609 w639610 dc639606 ds639607 hp639608 => ?_) (fun _ _ _ _ _ z => z.elim)
        obtain ⟨P639614, F639615, γ, el, o639611, rfl, rfl, hk639616, ⟨hr639617, hr639618⟩, hB639619, bo639611, x639612, x639613⟩ := hp639608
        have hT639620 := hk639616.1
        have hs639621 := rSk_tr hs639539 hk639616 (by decide) (by decide) (by decide)
        have ht639622 : rKd γ q639349 10 := rSk_k hk639616 ht639542 (by decide) (by decide)
        have ht639623 : rKd γ q639351 9 := rSk_k hk639616 ht639543 (by decide) (by decide)
        have hf639624 : γ 1 q639351 = f := rSk_1 hk639616 ht639543 (by decide) hf639544
        have ht639625 : rKd γ q639352 9 := rSk_kf hk639616 ht639545 (by decide) (by rw [hf639546]; exact hne)
        have hf639626 : γ 1 q639352 = fo := rSk_1 hk639616 ht639545 (by decide) hf639546
        clear rg639602 rm639603 bd639604 rc639605
        have mk639627 : mKp (F639348 q639349) (F639615 q639349) := mKp_tr mk639547 x639613
        have hph639628 : rPh γ0 el0 f ≤ rPh γ el f := rm_ph hph639548 hr639618
        have pk639629 : rPh γ el f ≤ 387 * B + 6000 := rm_pk (rM_ge hT639620 ht639623 hf639624).1 (rM_bd hB639619)
        change G _ _ _ _ _ _ _ (.int o639611 :: _) _ _ _
        refine G_widen (cs' := ((rPh γ el f - rPh γ0 el0 f) / 18)) (sl' := (rPh γ el f - rPh γ0 el0 f)) (rm_wc hph639548 hr639617) (rm_ws hph639548 hr639618) ?_
        have r639630 := rSk_g hs639621 hne
        have r639631 : γ 6 fo = γ0 6 fo := r639630.1
        have r639632 : γ 7 fo = γ0 7 fo := r639630.2.1
        have r639633 : γ 16 fo = γ0 16 fo := r639630.2.2.1
        have r639634 : 0 < γ 6 (γ 1 q639351) := by rw [hf639624]; omega
        refine G_istore_n (L' := [(2, .int o639611), (0, .ref q639349), (1, .int p639350)]) dr_cX17_give_55 (Nat.le_of_ble_eq_true rfl) rfl ?_
        refine G_aload_n 1 dr_cX17_give_56 rfl ?_
        refine G_iload_n 0 dr_cX17_give_57 rfl ?_
        refine G_if_le 65 dr_cX17_give_58 (by decide +kernel) (fun hc639635 => ?_) (fun hc639635 => ?_)
        · have r639636 : o639611.toInt ≤ 0 := gj_le hc639635 (show Int32.toInt 0 = 0 by decide)
          have bo639611' : gB o639611 (-1) 0 := ⟨by omega, by omega⟩
          refine G_iconst 0 dr_cX17_give_65 (by decide +kernel) ?_
          have hm639637 : q639349 ∈ P639614 := RS_m hT639620 ht639622 (by decide)
          refine rk10_e (show rk_10 γ (F639615 q639349) from RS_o hT639620 ht639622) (fun q639639 q639640 p639641 p639642 p639643 p639644 p639645 p639646 p639647 p639648 p639649 p639650 p639651 p639652 p639653 p639654 p639655 he639638 hB639682 ht639656 ht639657 ht639658 ht639659 ht639660 ht639661 ht639662 ht639663 ht639664 ht639665 ht639666 ht639667 ht639668 ht639669 ht639670 ht639671 ht639672 ht639673 ht639674 ht639675 ht639676 ht639677 ht639678 ht639679 hB639683 => ?_)
          refine Gp_put 10 hm639637 he639638 dr_cX17_give_66 (gk_X17 D I) (Nat.le_of_ble_eq_true rfl) wr_7_84 rfl rfl rfl (Nat.le_of_ble_eq_true rfl) (fun F639684 e639685 n639686 => ?_)
          have he639687 : F639684 q639349 = .inr (22, [.ref (γ 9 0), .ref (γ 9 1), .ref (γ 9 2), .ref (γ 9 3), .ref (γ 9 4), .ref (γ 9 5), .ref (γ 9 6), .ref (γ 9 7), .ref (γ 9 8), .int p639641, .int 0, .int p639643, .int p639644, .int p639645, .int p639646, .ref (γ 9 15), .ref (γ 9 16), .ref (γ 9 17), .ref (γ 9 18), .ref (γ 9 19), .ref (γ 9 20), .ref (γ 9 21), .ref (γ 9 22), .int p639647, .int p639648, .int p639649, .int p639650, .int p639651, .ref q639639, .ref (γ 9 29), .int p639652, .ref (γ 9 31), .int p639653, .int p639654, .int p639655, .ref q639640]) := e639685
          have mk639688 : mKp (F639348 q639349) (F639684 q639349) := mKp_tr mk639627 (by rw [he639638, he639687]; exact ⟨rfl, rfl⟩)
          refine G_iload_n 0 dr_cX17_give_69 rfl ?_
          have hT639689 : RS D I P639614 F639684 γ el := RS_set hT639620 n639686 ht639622 (by decide) ⟨q639639, q639640, p639641, 0, p639643, p639644, p639645, p639646, p639647, p639648, p639649, p639650, p639651, p639652, p639653, p639654, p639655, he639687, ⟨(hB639682.1), (gB_w (gBl (show Int32.toInt 0 = 0 by decide)) (by decide) (by decide)), (hB639682.2.2.1), (hB639682.2.2.2.1), (hB639682.2.2.2.2.1), (hB639682.2.2.2.2.2.1), (hB639682.2.2.2.2.2.2.1), (hB639682.2.2.2.2.2.2.2.1), (hB639682.2.2.2.2.2.2.2.2)⟩, ht639656, ht639657, ht639658, ht639659, ht639660, ht639661, ht639662, ht639663, ht639664, ht639665, ht639666, ht639667, ht639668, ht639669, ht639670, ht639671, ht639672, ht639673, ht639674, ht639675, ht639676, ht639677, ht639678, ht639679, ⟨(show (_ ∨ _ ∨ _) ∧ (_ ∨ _ ∨ _) ∧ _ from hB639683).1, Or.inr (Or.inl (by have z : 0 < γ 6 f := (by omega); rw [x639353] at z; exact z)), (show (_ ∨ _ ∨ _) ∧ (_ ∨ _ ∨ _) ∧ _ from hB639683).2.2⟩⟩
          have hs639690 := rSk_put hs639621 hT639689 n639686 ht639622 (by decide) (by decide)
          have ac639691 : (fI (F639684 q639349) 9).toInt = p639641.toInt := by rw [he639687]; rfl
          have ac639692 : (fI (F639684 q639349) 10).toInt = 0 := by rw [he639687]; show Int32.toInt 0 = 0; decide
          have ac639693 : (fI (F639684 q639349) 32).toInt = p639653.toInt := by rw [he639687]; rfl
          have mq639694 : mKp _ _ := mk639627
          exact G_iretA dr_cX17_give_70 rfl (show ((rPh γ el f - rPh γ0 el0 f) / 18) ≤ (((387 * B + 6000) - rPh γ0 el0 f) / 18) by omega) (show (rPh γ el f - rPh γ0 el0 f) ≤ ((387 * B + 6000) - rPh γ0 el0 f) by omega) ⟨P639614, F639684, γ, el, o639611, rfl, rfl, hs639690, ⟨by omega, by omega⟩, hB639619, (gB_w bo639611' (by decide) (by decide)), (by omega), mk639688⟩
        · have r639695 : 0 < o639611.toInt := gj_nle hc639635 (show Int32.toInt 0 = 0 by decide)
          have bo639611' : gB o639611 1 40 := ⟨by omega, by omega⟩
          refine G_iconst 1 dr_cX17_give_61 (by decide +kernel) ?_
          refine G_goto 66 dr_cX17_give_62 (by decide +kernel) ?_
          have hm639696 : q639349 ∈ P639614 := RS_m hT639620 ht639622 (by decide)
          refine rk10_e (show rk_10 γ (F639615 q639349) from RS_o hT639620 ht639622) (fun q639698 q639699 p639700 p639701 p639702 p639703 p639704 p639705 p639706 p639707 p639708 p639709 p639710 p639711 p639712 p639713 p639714 he639697 hB639741 ht639715 ht639716 ht639717 ht639718 ht639719 ht639720 ht639721 ht639722 ht639723 ht639724 ht639725 ht639726 ht639727 ht639728 ht639729 ht639730 ht639731 ht639732 ht639733 ht639734 ht639735 ht639736 ht639737 ht639738 hB639742 => ?_)
          refine Gp_put 10 hm639696 he639697 dr_cX17_give_66 (gk_X17 D I) (Nat.le_of_ble_eq_true rfl) wr_7_84 rfl rfl rfl (Nat.le_of_ble_eq_true rfl) (fun F639743 e639744 n639745 => ?_)
          have he639746 : F639743 q639349 = .inr (22, [.ref (γ 9 0), .ref (γ 9 1), .ref (γ 9 2), .ref (γ 9 3), .ref (γ 9 4), .ref (γ 9 5), .ref (γ 9 6), .ref (γ 9 7), .ref (γ 9 8), .int p639700, .int 1, .int p639702, .int p639703, .int p639704, .int p639705, .ref (γ 9 15), .ref (γ 9 16), .ref (γ 9 17), .ref (γ 9 18), .ref (γ 9 19), .ref (γ 9 20), .ref (γ 9 21), .ref (γ 9 22), .int p639706, .int p639707, .int p639708, .int p639709, .int p639710, .ref q639698, .ref (γ 9 29), .int p639711, .ref (γ 9 31), .int p639712, .int p639713, .int p639714, .ref q639699]) := e639744
          have mk639747 : mKp (F639348 q639349) (F639743 q639349) := mKp_tr mk639627 (by rw [he639697, he639746]; exact ⟨rfl, rfl⟩)
          refine G_iload_n 0 dr_cX17_give_69 rfl ?_
          have hT639748 : RS D I P639614 F639743 γ el := RS_set hT639620 n639745 ht639622 (by decide) ⟨q639698, q639699, p639700, 1, p639702, p639703, p639704, p639705, p639706, p639707, p639708, p639709, p639710, p639711, p639712, p639713, p639714, he639746, ⟨(hB639741.1), (gB_w (gBl (show Int32.toInt 1 = 1 by decide)) (by decide) (by decide)), (hB639741.2.2.1), (hB639741.2.2.2.1), (hB639741.2.2.2.2.1), (hB639741.2.2.2.2.2.1), (hB639741.2.2.2.2.2.2.1), (hB639741.2.2.2.2.2.2.2.1), (hB639741.2.2.2.2.2.2.2.2)⟩, ht639715, ht639716, ht639717, ht639718, ht639719, ht639720, ht639721, ht639722, ht639723, ht639724, ht639725, ht639726, ht639727, ht639728, ht639729, ht639730, ht639731, ht639732, ht639733, ht639734, ht639735, ht639736, ht639737, ht639738, ⟨(show (_ ∨ _ ∨ _) ∧ (_ ∨ _ ∨ _) ∧ _ from hB639742).1, Or.inr (Or.inl (by have z : 0 < γ 6 f := (by omega); rw [x639353] at z; exact z)), (show (_ ∨ _ ∨ _) ∧ (_ ∨ _ ∨ _) ∧ _ from hB639742).2.2⟩⟩
          have hs639749 := rSk_put hs639621 hT639748 n639745 ht639622 (by decide) (by decide)
          have ac639750 : (fI (F639743 q639349) 9).toInt = p639700.toInt := by rw [he639746]; rfl
          have ac639751 : (fI (F639743 q639349) 10).toInt = 1 := by rw [he639746]; show Int32.toInt 1 = 1; decide
          have ac639752 : (fI (F639743 q639349) 32).toInt = p639712.toInt := by rw [he639746]; rfl
          have mq639753 : mKp _ _ := mk639627
          exact G_iretA dr_cX17_give_70 rfl (show ((rPh γ el f - rPh γ0 el0 f) / 18) ≤ (((387 * B + 6000) - rPh γ0 el0 f) / 18) by omega) (show (rPh γ el f - rPh γ0 el0 f) ≤ ((387 * B + 6000) - rPh γ0 el0 f) by omega) ⟨P639614, F639743, γ, el, o639611, rfl, rfl, hs639749, ⟨by omega, by omega⟩, hB639619, (gB_w bo639611' (by decide) (by decide)), (by omega), mk639747⟩
      · have r639754 : p639370.toInt = 0 := gj_eq hc639491 (show Int32.toInt 0 = 0 by decide)
        have bp639370' : gB p639370 0 0 := gB_t0 r639754
        refine G_aload_n 0 dr_cX17_give_29 rfl ?_
        refine G_iconst 2 dr_cX17_give_30 (by decide +kernel) ?_
        refine Gw_callV (As := [.int 2]) (gV_ok D I) (ct_571896_SpillForgeModel_no l hl0 D I γ el P639347 F639416 q639349 2 hT639421 htq639349) dr_cX17_give_31 ⟨wr_7_187, wr_1_14, wr_7_190, by decide, rfl, (Nat.le_of_ble_eq_true rfl), (Nat.le_of_ble_eq_true rfl)⟩ wr_7_189 wr_p_73 hm639366 he639419 rfl (rm_zc pk639360) (rm_zs pk639360) (Nat.le_of_ble_eq_true rfl) (fun r639758 w639759 dc639755 ds639756 hp639757 => ?_) (fun _ _ _ _ _ z => z.elim)
        obtain ⟨F639762, rfl, rfl, hT639763, hs639764, hdc, hds, x639760, x639761⟩ := hp639757
        have hs639765 := rSk_str hs639422 hT639763 hs639764 (by decide) (by decide) (by decide)
        have mk639766 : mKp (F639348 q639349) (F639762 q639349) := mKp_tr mk639420 x639761
        change G _ _ _ _ _ _ _ (.int 0 :: _) _ _ _
        refine G_widen (cs' := ((rPh γ el f - rPh γ0 el0 f) / 18)) (sl' := (rPh γ el f - rPh γ0 el0 f)) (rm_d0 hdc) (rm_d0 hds) ?_
        have hm639767 : q639349 ∈ P639347 := RS_m hT639763 htq639349 (by decide)
        refine rk10_e (show rk_10 γ (F639762 q639349) from RS_o hT639763 htq639349) (fun q639769 q639770 p639771 p639772 p639773 p639774 p639775 p639776 p639777 p639778 p639779 p639780 p639781 p639782 p639783 p639784 p639785 he639768 hB639812 ht639786 ht639787 ht639788 ht639789 ht639790 ht639791 ht639792 ht639793 ht639794 ht639795 ht639796 ht639797 ht639798 ht639799 ht639800 ht639801 ht639802 ht639803 ht639804 ht639805 ht639806 ht639807 ht639808 ht639809 hB639813 => ?_)
        have ac639814 : (fI (F639762 q639349) 9).toInt = p639771.toInt := by rw [he639768]; rfl
        have ac639815 : (fI (F639762 q639349) 10).toInt = p639772.toInt := by rw [he639768]; rfl
        have ac639816 : (fI (F639762 q639349) 32).toInt = p639783.toInt := by rw [he639768]; rfl
        exact G_iretA dr_cX17_give_34 rfl (show ((rPh γ el f - rPh γ0 el0 f) / 18) ≤ (((387 * B + 6000) - rPh γ0 el0 f) / 18) by omega) (show (rPh γ el f - rPh γ0 el0 f) ≤ ((387 * B + 6000) - rPh γ0 el0 f) by omega) ⟨P639347, F639762, γ, el, 0, rfl, rfl, hs639765, ⟨by omega, by omega⟩, hB, (gB_w (gBl (show Int32.toInt 0 = 0 by decide)) (by decide) (by decide)), (by have qa0 : Int32.toInt 0 = 0 := (by decide); omega), mk639766⟩
    · have r639817 : 32 < p639350.toInt := gj_nle hc639489 (show Int32.toInt 32 = 32 by decide)
      have bp639350'' : gB p639350 33 2147483647 := ⟨by omega, by omega⟩
      refine G_aload_n 0 dr_cX17_give_16 rfl ?_
      refine G_iconst 1 dr_cX17_give_17 (by decide +kernel) ?_
      refine Gw_callV (As := [.int 1]) (gV_ok D I) (ct_571896_SpillForgeModel_no l hl0 D I γ el P639347 F639416 q639349 1 hT639421 htq639349) dr_cX17_give_18 ⟨wr_7_187, wr_1_14, wr_7_190, by decide, rfl, (Nat.le_of_ble_eq_true rfl), (Nat.le_of_ble_eq_true rfl)⟩ wr_7_189 wr_p_73 hm639366 he639419 rfl (rm_zc pk639360) (rm_zs pk639360) (Nat.le_of_ble_eq_true rfl) (fun r639821 w639822 dc639818 ds639819 hp639820 => ?_) (fun _ _ _ _ _ z => z.elim)
      obtain ⟨F639825, rfl, rfl, hT639826, hs639827, hdc, hds, x639823, x639824⟩ := hp639820
      have hs639828 := rSk_str hs639422 hT639826 hs639827 (by decide) (by decide) (by decide)
      have mk639829 : mKp (F639348 q639349) (F639825 q639349) := mKp_tr mk639420 x639824
      change G _ _ _ _ _ _ _ (.int 0 :: _) _ _ _
      refine G_widen (cs' := ((rPh γ el f - rPh γ0 el0 f) / 18)) (sl' := (rPh γ el f - rPh γ0 el0 f)) (rm_d0 hdc) (rm_d0 hds) ?_
      have hm639830 : q639349 ∈ P639347 := RS_m hT639826 htq639349 (by decide)
      refine rk10_e (show rk_10 γ (F639825 q639349) from RS_o hT639826 htq639349) (fun q639832 q639833 p639834 p639835 p639836 p639837 p639838 p639839 p639840 p639841 p639842 p639843 p639844 p639845 p639846 p639847 p639848 he639831 hB639875 ht639849 ht639850 ht639851 ht639852 ht639853 ht639854 ht639855 ht639856 ht639857 ht639858 ht639859 ht639860 ht639861 ht639862 ht639863 ht639864 ht639865 ht639866 ht639867 ht639868 ht639869 ht639870 ht639871 ht639872 hB639876 => ?_)
      have ac639877 : (fI (F639825 q639349) 9).toInt = p639834.toInt := by rw [he639831]; rfl
      have ac639878 : (fI (F639825 q639349) 10).toInt = p639835.toInt := by rw [he639831]; rfl
      have ac639879 : (fI (F639825 q639349) 32).toInt = p639846.toInt := by rw [he639831]; rfl
      exact G_iretA dr_cX17_give_21 rfl (show ((rPh γ el f - rPh γ0 el0 f) / 18) ≤ (((387 * B + 6000) - rPh γ0 el0 f) / 18) by omega) (show (rPh γ el f - rPh γ0 el0 f) ≤ ((387 * B + 6000) - rPh γ0 el0 f) by omega) ⟨P639347, F639825, γ, el, 0, rfl, rfl, hs639828, ⟨by omega, by omega⟩, hB, (gB_w (gBl (show Int32.toInt 0 = 0 by decide)) (by decide) (by decide)), (by have qa0 : Int32.toInt 0 = 0 := (by decide); omega), mk639829⟩
