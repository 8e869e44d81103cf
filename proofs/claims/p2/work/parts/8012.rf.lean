theorem dr_cX17_give_0 : decode cX17_give 0 = .ok (.aload_n 0, 1) := by decide +kernel
theorem dr_cX17_give_1 : decode cX17_give 1 = .ok (.iconst 0, 1) := by decide +kernel
theorem dr_cX17_give_2 : decode cX17_give 2 = .ok (.putfield 380, 3) := by decide +kernel
theorem dr_cX17_give_5 : decode cX17_give 5 = .ok (.iload_n 1, 1) := by decide +kernel
theorem dr_cX17_give_6 : decode cX17_give 6 = .ok (.iconst 1, 1) := by decide +kernel
theorem dr_cX17_give_7 : decode cX17_give 7 = .ok (.if_icmp .lt 9, 3) := by decide +kernel
theorem dr_cX17_give_16 : decode cX17_give 16 = .ok (.aload_n 0, 1) := by decide +kernel
theorem dr_cX17_give_17 : decode cX17_give 17 = .ok (.iconst 1, 1) := by decide +kernel
theorem dr_cX17_give_18 : decode cX17_give 18 = .ok (.invokevirtual 385, 3) := by decide +kernel
theorem dr_cX17_give_21 : decode cX17_give 21 = .ok (.ireturn, 1) := by decide +kernel
theorem dr_cX17_give_10 : decode cX17_give 10 = .ok (.iload_n 1, 1) := by decide +kernel
theorem dr_cX17_give_11 : decode cX17_give 11 = .ok (.bipush 32, 2) := by decide +kernel
theorem dr_cX17_give_13 : decode cX17_give 13 = .ok (.if_icmp .le 9, 3) := by decide +kernel
theorem dr_cX17_give_22 : decode cX17_give 22 = .ok (.aload_n 0, 1) := by decide +kernel
theorem dr_cX17_give_23 : decode cX17_give 23 = .ok (.getfield 414, 3) := by decide +kernel
theorem dr_cX17_give_26 : decode cX17_give 26 = .ok (.ifCond .ne 9, 3) := by decide +kernel
theorem dr_cX17_give_35 : decode cX17_give 35 = .ok (.aload_n 0, 1) := by decide +kernel
theorem dr_cX17_give_36 : decode cX17_give 36 = .ok (.getfield 365, 3) := by decide +kernel
theorem dr_cX17_give_39 : decode cX17_give 39 = .ok (.aload_n 0, 1) := by decide +kernel
theorem dr_cX17_give_40 : decode cX17_give 40 = .ok (.getfield 361, 3) := by decide +kernel
theorem dr_cX17_give_43 : decode cX17_give 43 = .ok (.invokevirtual 419, 3) := by decide +kernel
theorem dr_cX17_give_46 : decode cX17_give 46 = .ok (.aload_n 0, 1) := by decide +kernel
theorem dr_cX17_give_47 : decode cX17_give 47 = .ok (.aload_n 0, 1) := by decide +kernel
theorem dr_cX17_give_48 : decode cX17_give 48 = .ok (.getfield 365, 3) := by decide +kernel
theorem dr_cX17_give_51 : decode cX17_give 51 = .ok (.iload_n 1, 1) := by decide +kernel
theorem dr_cX17_give_52 : decode cX17_give 52 = .ok (.invokevirtual 422, 3) := by decide +kernel
theorem wr_10_148 : (Jvm.Cond.methodLink "SpillForgeModel" (422 : Nat) ({ cls := "SpillForgeModel", name := "giveAll", desc := "(LSpillForgeModel$Code;I)I" } : Jvm.MethodName)) ∈ gw := gw_10 148 rfl rfl
theorem wr_10_151 : (Jvm.Cond.code ({ cls := "SpillForgeModel", name := "giveAll", desc := "(LSpillForgeModel$Code;I)I" } : Jvm.MethodName) prog_14_method_24_code (8 : Nat) (Option.some Jvm.ClassFile.FieldType.int)) ∈ gw := gw_10 151 rfl rfl
theorem wr_10_150 : (Jvm.Cond.instanceMethod ({ cls := "SpillForgeModel", name := "giveAll", desc := "(LSpillForgeModel$Code;I)I" } : Jvm.MethodName)) ∈ gw := gw_10 150 rfl rfl
theorem wr_p_92 : Cond.selects "SpillForgeModel" ⟨"SpillForgeModel", "giveAll", "(LSpillForgeModel$Code;I)I"⟩ ⟨"SpillForgeModel", "giveAll", "(LSpillForgeModel$Code;I)I"⟩ ∈ gw := gw_p _ 92 rfl rfl rfl
theorem dr_cX17_give_55 : decode cX17_give 55 = .ok (.istore_n 2, 1) := by decide +kernel
theorem dr_cX17_give_56 : decode cX17_give 56 = .ok (.aload_n 0, 1) := by decide +kernel
theorem dr_cX17_give_57 : decode cX17_give 57 = .ok (.iload_n 2, 1) := by decide +kernel
theorem dr_cX17_give_58 : decode cX17_give 58 = .ok (.ifCond .le 7, 3) := by decide +kernel
theorem dr_cX17_give_65 : decode cX17_give 65 = .ok (.iconst 0, 1) := by decide +kernel
theorem dr_cX17_give_66 : decode cX17_give 66 = .ok (.putfield 416, 3) := by decide +kernel
theorem dr_cX17_give_69 : decode cX17_give 69 = .ok (.iload_n 2, 1) := by decide +kernel
theorem dr_cX17_give_70 : decode cX17_give 70 = .ok (.ireturn, 1) := by decide +kernel
theorem dr_cX17_give_61 : decode cX17_give 61 = .ok (.iconst 1, 1) := by decide +kernel
theorem dr_cX17_give_62 : decode cX17_give 62 = .ok (.goto 4, 3) := by decide +kernel
theorem dr_cX17_give_29 : decode cX17_give 29 = .ok (.aload_n 0, 1) := by decide +kernel
theorem dr_cX17_give_30 : decode cX17_give 30 = .ok (.iconst 2, 1) := by decide +kernel
theorem dr_cX17_give_31 : decode cX17_give 31 = .ok (.invokevirtual 385, 3) := by decide +kernel
theorem dr_cX17_give_34 : decode cX17_give 34 = .ok (.ireturn, 1) := by decide +kernel
abbrev ky_639311_SpillForgeModel_give : gKey := (cX17_give, 3, "SpillForgeModel", (some FieldType.int), [], "give", fun _ _ => True)
def pg_639311_SpillForgeModel_give (D : va_G) (I : FieldType → ClassId) (γ0 el0 : Nat → Nat → Nat) (f : Nat) (fo : Nat) (B : Nat) (P639299 : List Nat) (F639300 : Nat → va_E) (q639301 : Nat) (p639302 : Int32) (q639303 : Nat) (q639304 : Nat) : Option Value → va_W → Nat → Nat → Prop := fun r w dc ds => ∃ (P639833 : List Nat) (F639834 : Nat → va_E) (γ el : Nat → Nat → Nat) (o639832 : Int32), r = some (.int o639832) ∧ w = va_pl P639833 F639834 ∧ rSk f [1, 2, 3, 101, 102, 103, 202] ([1, 2, 3, 4, 5, 6, 7, 8, 9, 101, 102, 103, 202] ++ npk) D I P639299 F639300 γ0 el0 P639833 F639834 γ el ∧ (18 * dc + rPh γ0 el0 f ≤ rPh γ el f ∧ ds + rPh γ0 el0 f ≤ rPh γ el f) ∧ rBd γ el f B ∧ gB o639832 (-1) 40 ∧ ((fI (F639834 q639301) 10).toInt = 0 ∨ 0 < γ 6 f) ∧ mKp (F639300 q639301) (F639834 q639301)
set_option maxRecDepth 100000 in
set_option maxHeartbeats 20000000 in
theorem cg_639311_SpillForgeModel_give (l : Launch) (hl0 : l.stackTraces = false) (D : va_G) (I : FieldType → ClassId) (γ0 el0 : Nat → Nat → Nat) (f : Nat) (fo : Nat) (B : Nat) (P639299 : List Nat) (F639300 : Nat → va_E) (q639301 : Nat) (p639302 : Int32) (q639303 : Nat) (q639304 : Nat) (hT0 : RS D I P639299 F639300 γ0 el0) (hzq639301 : rKd γ0 q639301 10) (hzq639303 : rKd γ0 q639303 9) (hzq639304 : rKd γ0 q639304 9) (hvq639303 : γ0 9 7 = q639303) (hvq639304 : γ0 9 6 = q639304) (hf0 : γ0 1 q639303 = f) (hfo0 : γ0 1 q639304 = fo) (hne : fo ≠ f) (hB0 : rBd γ0 el0 f B) (hBk : B ≤ 100000) (x639305 : f = 1) (x639306 : fo = 0) (x639307 : ((fI (F639300 q639301) 9).toInt = 0 ∨ (0 < γ0 6 fo ∧ γ0 16 fo ≤ 160))) (x639308 : γ0 7 fo = 0) (x639309 : 4061 ≤ B) (x639310 : ((fI (F639300 q639301) 10).toInt = 0 ∨ 0 < γ0 6 f)) : CtA (gV D I) l yX17_give cX17_give 3 (some FieldType.int) 11 251 (((387 * B + 6000) - rPh γ0 el0 f) / 18) ((387 * B + 6000) - rPh γ0 el0 f) [.ref q639301, .int p639302] (va_pl P639299 F639300) (pg_639311_SpillForgeModel_give D I γ0 el0 f fo B P639299 F639300 q639301 p639302 q639303 q639304) gNA := by
  refine CtA_of hl0 (by decide) (Nat.le_of_ble_eq_true rfl) ?_
  have bp639302 := gB_any p639302
  obtain ⟨γ, hγ0⟩ : ∃ z, z = γ0 := ⟨_, rfl⟩
  obtain ⟨el, hel0⟩ : ∃ z, z = el0 := ⟨_, rfl⟩
  have hT : RS D I P639299 F639300 γ el := by rw [hγ0, hel0]; exact hT0
  have hst : rSk f [1, 2, 3, 101, 102, 103, 202] ([1, 2, 3, 4, 5, 6, 7, 8, 9, 101, 102, 103, 202] ++ npk) D I P639299 F639300 γ0 el0 P639299 F639300 γ el := by rw [hγ0, hel0]; exact rSk_rf hT0
  have hph : rPh γ0 el0 f ≤ rPh γ el f := by rw [hγ0, hel0]; exact Nat.le_refl _
  have hB : rBd γ el f B := by rw [hγ0, hel0]; exact hB0
  have htq639301 : rKd γ q639301 10 := by rw [hγ0]; exact hzq639301
  have htq639303 : rKd γ q639303 9 := by rw [hγ0]; exact hzq639303
  have htq639304 : rKd γ q639304 9 := by rw [hγ0]; exact hzq639304
  have hf1 : γ 1 q639303 = f := by rw [hγ0]; exact hf0
  have hfo1 : γ 1 q639304 = fo := by rw [hγ0]; exact hfo0
  have x639307n : ((fI (F639300 q639301) 9).toInt = 0 ∨ (0 < γ 6 fo ∧ γ 16 fo ≤ 160)) := by rw [hγ0]; exact x639307
  have x639308n : γ 7 fo = 0 := by rw [hγ0]; exact x639308
  have x639310n : ((fI (F639300 q639301) 10).toInt = 0 ∨ 0 < γ 6 f) := by rw [hγ0]; exact x639310
  have pk639312 : rPh γ el f ≤ 387 * B + 6000 := rm_pk (rM_ge hT htq639303 hf1).1 (rM_bd hB)
  refine G_widen (cs' := ((rPh γ el f - rPh γ0 el0 f) / 18)) (sl' := (rPh γ el f - rPh γ0 el0 f)) (Nat.zero_le _) (Nat.zero_le _) ?_
  have lz0 : Int32.toInt 0 = 0 := by decide
  have r639313 : γ 6 f = γ0 6 f := by rw [hγ0]
  have r639314 : γ 7 f = γ0 7 f := by rw [hγ0]
  have r639315 : γ 16 f = γ0 16 f := by rw [hγ0]
  have r639316 : γ 18 f = γ0 18 f := by rw [hγ0]
  have r639317 : γ 19 f = γ0 19 f := by rw [hγ0]
  have hm639318 : q639301 ∈ P639299 := RS_m hT htq639301 (by decide)
  refine rk10_e (show rk_10 γ (F639300 q639301) from RS_o hT htq639301) (fun q639320 q639321 p639322 p639323 p639324 p639325 p639326 p639327 p639328 p639329 p639330 p639331 p639332 p639333 p639334 p639335 p639336 he639319 hB639363 ht639337 ht639338 ht639339 ht639340 ht639341 ht639342 ht639343 ht639344 ht639345 ht639346 ht639347 ht639348 ht639349 ht639350 ht639351 ht639352 ht639353 ht639354 ht639355 ht639356 ht639357 ht639358 ht639359 ht639360 hB639364 => ?_)
  have ac0_9 : (fI (F639300 q639301) 9).toInt = p639322.toInt := by rw [he639319]; rfl
  have ac0_10 : (fI (F639300 q639301) 10).toInt = p639323.toInt := by rw [he639319]; rfl
  have ac0_32 : (fI (F639300 q639301) 32).toInt = p639334.toInt := by rw [he639319]; rfl
  have r639365 : γ 6 fo = γ0 6 fo := by rw [hγ0]
  have r639366 : γ 7 fo = γ0 7 fo := by rw [hγ0]
  have r639367 : γ 16 fo = γ0 16 fo := by rw [hγ0]
  refine G_aload_n 0 dr_cX17_give_0 rfl ?_
  refine G_iconst 0 dr_cX17_give_1 (by decide +kernel) ?_
  refine Gp_put 30 hm639318 he639319 dr_cX17_give_2 (gk_X17 D I) (Nat.le_of_ble_eq_true rfl) wr_7_104 rfl rfl rfl (Nat.le_of_ble_eq_true rfl) (fun F639368 e639369 n639370 => ?_)
  have he639371 : F639368 q639301 = .inr (22, [.ref (γ 9 0), .ref (γ 9 1), .ref (γ 9 2), .ref (γ 9 3), .ref (γ 9 4), .ref (γ 9 5), .ref (γ 9 6), .ref (γ 9 7), .ref (γ 9 8), .int p639322, .int p639323, .int p639324, .int p639325, .int p639326, .int p639327, .ref (γ 9 15), .ref (γ 9 16), .ref (γ 9 17), .ref (γ 9 18), .ref (γ 9 19), .ref (γ 9 20), .ref (γ 9 21), .ref (γ 9 22), .int p639328, .int p639329, .int p639330, .int p639331, .int p639332, .ref q639320, .ref (γ 9 29), .int 0, .ref (γ 9 31), .int p639334, .int p639335, .int p639336, .ref q639321]) := e639369
  have mk639372 : mKp (F639300 q639301) (F639368 q639301) := mKp_tr mKp_rf (by rw [he639319, he639371]; exact ⟨rfl, rfl⟩)
  have hT639373 : RS D I P639299 F639368 γ el := RS_set hT n639370 htq639301 (by decide) ⟨q639320, q639321, p639322, p639323, p639324, p639325, p639326, p639327, p639328, p639329, p639330, p639331, p639332, 0, p639334, p639335, p639336, he639371, ⟨(hB639363.1), (hB639363.2.1), (hB639363.2.2.1), (hB639363.2.2.2.1), (hB639363.2.2.2.2.1), (hB639363.2.2.2.2.2.1), (hB639363.2.2.2.2.2.2.1), (hB639363.2.2.2.2.2.2.2.1), (hB639363.2.2.2.2.2.2.2.2)⟩, ht639337, ht639338, ht639339, ht639340, ht639341, ht639342, ht639343, ht639344, ht639345, ht639346, ht639347, ht639348, ht639349, ht639350, ht639351, ht639352, ht639353, ht639354, ht639355, ht639356, ht639357, ht639358, ht639359, ht639360, hB639364⟩
  have hs639374 := rSk_put hst hT639373 n639370 htq639301 (by decide) (by decide)
  have ac639375 : (fI (F639368 q639301) 10).toInt = p639323.toInt := by rw [he639371]; rfl
  refine G_iload_n 1 dr_cX17_give_5 rfl ?_
  refine G_iconst 1 dr_cX17_give_6 (by decide +kernel) ?_
  refine G_icmp_lt 16 dr_cX17_give_7 (by decide +kernel) (fun hc639376 => ?_) (fun hc639376 => ?_)
  · have r639377 : p639302.toInt < 1 := gj_lt hc639376 (show Int32.toInt 1 = 1 by decide)
    have bp639302' : gB p639302 (-2147483648) 0 := ⟨by omega, by omega⟩
    refine G_aload_n 0 dr_cX17_give_16 rfl ?_
    refine G_iconst 1 dr_cX17_give_17 (by decide +kernel) ?_
    refine Gw_callV (As := [.int 1]) (gV_ok D I) (ct_572004_SpillForgeModel_no l hl0 D I γ el P639299 F639368 q639301 1 hT639373 htq639301) dr_cX17_give_18 ⟨wr_7_191, wr_1_14, wr_7_194, by decide, rfl, (Nat.le_of_ble_eq_true rfl), (Nat.le_of_ble_eq_true rfl)⟩ wr_7_193 wr_p_73 hm639318 he639371 rfl (rm_zc pk639312) (rm_zs pk639312) (Nat.le_of_ble_eq_true rfl) (fun r639381 w639382 dc639378 ds639379 hp639380 => ?_) (fun _ _ _ _ _ z => z.elim)
    obtain ⟨F639385, rfl, rfl, hT639386, hs639387, hdc, hds, x639383, x639384⟩ := hp639380
    have hs639388 := rSk_str hs639374 hT639386 hs639387 (by decide) (by decide) (by decide)
    have mk639389 : mKp (F639300 q639301) (F639385 q639301) := mKp_tr mk639372 x639384
    change G _ _ _ _ _ _ _ (.int 0 :: _) _ _ _
    refine G_widen (cs' := ((rPh γ el f - rPh γ0 el0 f) / 18)) (sl' := (rPh γ el f - rPh γ0 el0 f)) (rm_d0 hdc) (rm_d0 hds) ?_
    have hm639390 : q639301 ∈ P639299 := RS_m hT639386 htq639301 (by decide)
    refine rk10_e (show rk_10 γ (F639385 q639301) from RS_o hT639386 htq639301) (fun q639392 q639393 p639394 p639395 p639396 p639397 p639398 p639399 p639400 p639401 p639402 p639403 p639404 p639405 p639406 p639407 p639408 he639391 hB639435 ht639409 ht639410 ht639411 ht639412 ht639413 ht639414 ht639415 ht639416 ht639417 ht639418 ht639419 ht639420 ht639421 ht639422 ht639423 ht639424 ht639425 ht639426 ht639427 ht639428 ht639429 ht639430 ht639431 ht639432 hB639436 => ?_)
    have ac639437 : (fI (F639385 q639301) 9).toInt = p639394.toInt := by rw [he639391]; rfl
    have ac639438 : (fI (F639385 q639301) 10).toInt = p639395.toInt := by rw [he639391]; rfl
    have ac639439 : (fI (F639385 q639301) 32).toInt = p639406.toInt := by rw [he639391]; rfl
    exact G_iretA dr_cX17_give_21 rfl (show ((rPh γ el f - rPh γ0 el0 f) / 18) ≤ (((387 * B + 6000) - rPh γ0 el0 f) / 18) by omega) (show (rPh γ el f - rPh γ0 el0 f) ≤ ((387 * B + 6000) - rPh γ0 el0 f) by omega) ⟨P639299, F639385, γ, el, 0, rfl, rfl, hs639388, ⟨by omega, by omega⟩, hB, (gB_w (gBl (show Int32.toInt 0 = 0 by decide)) (by decide) (by decide)), (by have qa0 : Int32.toInt 0 = 0 := (by decide); omega), mk639389⟩
  · have r639440 : 1 ≤ p639302.toInt := gj_nlt hc639376 (show Int32.toInt 1 = 1 by decide)
    have bp639302' : gB p639302 1 2147483647 := ⟨by omega, by omega⟩
    refine G_iload_n 1 dr_cX17_give_10 rfl ?_
    refine G_bipush 32 dr_cX17_give_11 (by decide +kernel) ?_
    refine G_icmp_le 22 dr_cX17_give_13 (by decide +kernel) (fun hc639441 => ?_) (fun hc639441 => ?_)
    · have r639442 : p639302.toInt ≤ 32 := gj_le hc639441 (show Int32.toInt 32 = 32 by decide)
      have bp639302'' : gB p639302 1 32 := ⟨by omega, by omega⟩
      refine G_aload_n 0 dr_cX17_give_22 rfl ?_
      refine Gp_get 9 hm639318 he639371 dr_cX17_give_23 (gk_X17 D I) (Nat.le_of_ble_eq_true rfl) wr_7_83 rfl ?_
      have bp639322 : gB p639322 0 1 := (hB639363.1)
      refine G_if_ne 35 dr_cX17_give_26 (by decide +kernel) (fun hc639443 => ?_) (fun hc639443 => ?_)
      · have r639444 : p639322.toInt ≠ 0 := gj_neq hc639443 (show Int32.toInt 0 = 0 by decide)
        have bp639322' : gB p639322 1 1 := gB_t1 bp639322 r639444
        refine G_aload_n 0 dr_cX17_give_35 rfl ?_
        refine Gp_get 7 hm639318 he639371 dr_cX17_give_36 (gk_X17 D I) (Nat.le_of_ble_eq_true rfl) wr_7_81 rfl ?_
        rw [show γ 9 7 = q639303 from (congrFun (rSk_9 hs639374) 7).trans hvq639303]
        refine G_aload_n 0 dr_cX17_give_39 rfl ?_
        refine Gp_get 6 hm639318 he639371 dr_cX17_give_40 (gk_X17 D I) (Nat.le_of_ble_eq_true rfl) wr_7_80 rfl ?_
        rw [show γ 9 6 = q639304 from (congrFun (rSk_9 hs639374) 6).trans hvq639304]
        have rg639445 := rM_ge hT639373 htq639303 hf1
        have rm639446 := rM_bd hB
        have bd639447 := rBd_c hT639373 htq639303 hf1 hB
        have rc639448 := rc_at hT639373 htq639303 hf1
        have hm639454 : q639303 ∈ P639299 := RS_m hT639373 htq639303 (by decide)
        obtain ⟨q639456, q639457, p639458, p639459, he639455, ht639475, ht639460, ht639461, ht639462, ht639463, r639464, r639465, r639466, r639467, r639468, r639469, r639470, r639471, r639472, r639473, r639474⟩ := show rk_9 γ el q639303 (F639368 q639303) from RS_o hT639373 htq639303
        have bp639458 : gB p639458 0 1000000 := ⟨by omega, by omega⟩
        have bp639459 : gB p639459 0 1000000 := ⟨by omega, by omega⟩
        have hf639476 : γ 1 q639456 = f := (show γ 1 q639456 = γ 1 q639303 from ht639461).trans hf1
        have hf639477 : γ 1 q639457 = f := (show γ 1 q639457 = γ 1 q639303 from ht639463).trans hf1
        have r639478 : γ 6 (γ 1 q639303) = γ 6 f := by rw [hf1]
        have r639479 : γ 16 (γ 1 q639303) = γ 16 f := by rw [hf1]
        refine Gw_callV (As := [.ref q639304]) (gV_ok D I) (cg_189887_Code_copy l hl0 D I γ el f fo B P639299 F639368 q639303 q639304 hT639373 htq639303 htq639304 hf1 hfo1 hne hB hBk (by omega) (by omega) (by omega)) dr_cX17_give_43 ⟨wr_10_132, wr_1_15, wr_10_135, by decide, rfl, (Nat.le_of_ble_eq_true rfl), (Nat.le_of_ble_eq_true rfl)⟩ wr_10_133 wr_10_134 hm639454 he639455 rfl (rm_gc hph pk639312) (rm_gs hph pk639312) (Nat.le_of_ble_eq_true rfl) (fun r639452 w639453 dc639449 ds639450 hp639451 => ?_) (fun _ _ _ _ _ z => z.elim)
        obtain ⟨P639484, F639485, γ, el, rfl, rfl, hk639486, ⟨hr639487, hr639488⟩, hB639489, x639480, x639481, x639482, x639483⟩ := hp639451
        have hT639490 := hk639486.1
        have hs639491 := rSk_tr hs639374 hk639486 (by decide) (by decide) (by decide)
        have kp639492 : F639485 q639301 = F639368 q639301 := rSk_F hk639486 htq639301 (by decide) (by decide)
        have r639493 := rSk_F hk639486 htq639301 (by decide) (by decide)
        have ht639494 : rKd γ q639301 10 := rSk_k hk639486 htq639301 (by decide) (by decide)
        have ht639495 : rKd γ q639303 9 := rSk_k hk639486 htq639303 (by decide) (by decide)
        have hf639496 : γ 1 q639303 = f := rSk_1 hk639486 htq639303 (by decide) hf1
        have ht639497 : rKd γ q639304 9 := rSk_kf hk639486 htq639304 (by decide) (by rw [hfo1]; exact hne)
        have hf639498 : γ 1 q639304 = fo := rSk_1 hk639486 htq639304 (by decide) hfo1
        have mk639499 : mKp (F639300 q639301) (F639485 q639301) := mKp_tr mk639372 (mKp_eq (rSk_F hk639486 htq639301 (by decide) (by decide)))
        clear r639464 r639465 r639466 r639467 r639468 r639469 r639471 r639472 r639473 r639474 bp639458 bp639459 rg639445 rm639446 bd639447 rc639448
        clear r639470
        have hph639500 : rPh γ0 el0 f ≤ rPh γ el f := rm_ph hph hr639488
        have pk639501 : rPh γ el f ≤ 387 * B + 6000 := rm_pk (rM_ge hT639490 ht639495 hf639496).1 (rM_bd hB639489)
        change G _ _ _ _ _ _ _ _ _ _ _
        refine G_widen (cs' := ((rPh γ el f - rPh γ0 el0 f) / 18)) (sl' := (rPh γ el f - rPh γ0 el0 f)) (rm_wc hph hr639487) (rm_ws hph hr639488) ?_
        have r639502 := rSk_g hs639491 hne
        have r639503 : γ 6 fo = γ0 6 fo := r639502.1
        have r639504 : γ 7 fo = γ0 7 fo := r639502.2.1
        have r639505 : γ 16 fo = γ0 16 fo := r639502.2.2.1
        have r639506 : 0 < γ 6 (γ 1 q639303) := by rw [hf639496]; omega
        refine G_aload_n 0 dr_cX17_give_46 rfl ?_
        refine G_aload_n 0 dr_cX17_give_47 rfl ?_
        have hm639507 : q639301 ∈ P639484 := RS_m hT639490 ht639494 (by decide)
        refine rk10_e (show rk_10 γ (F639485 q639301) from RS_o hT639490 ht639494) (fun q639509 q639510 p639511 p639512 p639513 p639514 p639515 p639516 p639517 p639518 p639519 p639520 p639521 p639522 p639523 p639524 p639525 he639508 hB639552 ht639526 ht639527 ht639528 ht639529 ht639530 ht639531 ht639532 ht639533 ht639534 ht639535 ht639536 ht639537 ht639538 ht639539 ht639540 ht639541 ht639542 ht639543 ht639544 ht639545 ht639546 ht639547 ht639548 ht639549 hB639553 => ?_)
        refine Gp_get 7 hm639507 he639508 dr_cX17_give_48 (gk_X17 D I) (Nat.le_of_ble_eq_true rfl) wr_7_81 rfl ?_
        rw [show γ 9 7 = q639303 from (congrFun (rSk_9 hs639491) 7).trans hvq639303]
        refine G_iload_n 1 dr_cX17_give_51 rfl ?_
        have rg639554 := rM_ge hT639490 ht639495 hf639496
        have rm639555 := rM_bd hB639489
        have bd639556 := rBd_c hT639490 ht639495 hf639496 hB639489
        have rc639557 := rc_at hT639490 ht639495 hf639496
        refine Gw_callV (As := [.ref q639303, .int p639302]) (gV_ok D I) (cg_613992_SpillForgeModel_giveAll l hl0 D I γ el f B P639484 F639485 q639301 q639303 p639302 hT639490 ht639494 ht639495 hf639496 hB639489 hBk bp639302'' (by omega) (by omega) (by omega)) dr_cX17_give_52 ⟨wr_10_148, wr_1_14, wr_10_151, by decide, rfl, (Nat.le_of_ble_eq_true rfl), (Nat.le_of_ble_eq_true rfl)⟩ wr_10_150 wr_p_92 hm639507 he639508 rfl (rm_gc hph639500 pk639501) (rm_gs hph639500 pk639501) (Nat.le_of_ble_eq_true rfl) (fun r639561 w639562 dc639558 ds639559 hp639560 => ?_) (fun _ _ _ _ _ z => z.elim)
        obtain ⟨P639566, F639567, γ, el, o639563, rfl, rfl, hk639568, ⟨hr639569, hr639570⟩, hB639571, bo639563, x639564, x639565⟩ := hp639560
        have hT639572 := hk639568.1
        have hs639573 := rSk_tr hs639491 hk639568 (by decide) (by decide) (by decide)
        have ht639574 : rKd γ q639301 10 := rSk_k hk639568 ht639494 (by decide) (by decide)
        have ht639575 : rKd γ q639303 9 := rSk_k hk639568 ht639495 (by decide) (by decide)
        have hf639576 : γ 1 q639303 = f := rSk_1 hk639568 ht639495 (by decide) hf639496
        have ht639577 : rKd γ q639304 9 := rSk_kf hk639568 ht639497 (by decide) (by rw [hf639498]; exact hne)
        have hf639578 : γ 1 q639304 = fo := rSk_1 hk639568 ht639497 (by decide) hf639498
        clear rg639554 rm639555 bd639556 rc639557
        have mk639579 : mKp (F639300 q639301) (F639567 q639301) := mKp_tr mk639499 x639565
        have hph639580 : rPh γ0 el0 f ≤ rPh γ el f := rm_ph hph639500 hr639570
        have pk639581 : rPh γ el f ≤ 387 * B + 6000 := rm_pk (rM_ge hT639572 ht639575 hf639576).1 (rM_bd hB639571)
        change G _ _ _ _ _ _ _ (.int o639563 :: _) _ _ _
        refine G_widen (cs' := ((rPh γ el f - rPh γ0 el0 f) / 18)) (sl' := (rPh γ el f - rPh γ0 el0 f)) (rm_wc hph639500 hr639569) (rm_ws hph639500 hr639570) ?_
        have r639582 := rSk_g hs639573 hne
        have r639583 : γ 6 fo = γ0 6 fo := r639582.1
        have r639584 : γ 7 fo = γ0 7 fo := r639582.2.1
        have r639585 : γ 16 fo = γ0 16 fo := r639582.2.2.1
        have r639586 : 0 < γ 6 (γ 1 q639303) := by rw [hf639576]; omega
        refine G_istore_n (L' := [(2, .int o639563), (0, .ref q639301), (1, .int p639302)]) dr_cX17_give_55 (Nat.le_of_ble_eq_true rfl) rfl ?_
        refine G_aload_n 1 dr_cX17_give_56 rfl ?_
        refine G_iload_n 0 dr_cX17_give_57 rfl ?_
        refine G_if_le 65 dr_cX17_give_58 (by decide +kernel) (fun hc639587 => ?_) (fun hc639587 => ?_)
        · have r639588 : o639563.toInt ≤ 0 := gj_le hc639587 (show Int32.toInt 0 = 0 by decide)
          have bo639563' : gB o639563 (-1) 0 := ⟨by omega, by omega⟩
          refine G_iconst 0 dr_cX17_give_65 (by decide +kernel) ?_
          have hm639589 : q639301 ∈ P639566 := RS_m hT639572 ht639574 (by decide)
          refine rk10_e (show rk_10 γ (F639567 q639301) from RS_o hT639572 ht639574) (fun q639591 q639592 p639593 p639594 p639595 p639596 p639597 p639598 p639599 p639600 p639601 p639602 p639603 p639604 p639605 p639606 p639607 he639590 hB639634 ht639608 ht639609 ht639610 ht639611 ht639612 ht639613 ht639614 ht639615 ht639616 ht639617 ht639618 ht639619 ht639620 ht639621 ht639622 ht639623 ht639624 ht639625 ht639626 ht639627 ht639628 ht639629 ht639630 ht639631 hB639635 => ?_)
          refine Gp_put 10 hm639589 he639590 dr_cX17_give_66 (gk_X17 D I) (Nat.le_of_ble_eq_true rfl) wr_7_84 rfl rfl rfl (Nat.le_of_ble_eq_true rfl) (fun F639636 e639637 n639638 => ?_)
          have he639639 : F639636 q639301 = .inr (22, [.ref (γ 9 0), .ref (γ 9 1), .ref (γ 9 2), .ref (γ 9 3), .ref (γ 9 4), .ref (γ 9 5), .ref (γ 9 6), .ref (γ 9 7), .ref (γ 9 8), .int p639593, .int 0, .int p639595, .int p639596, .int p639597, .int p639598, .ref (γ 9 15), .ref (γ 9 16), .ref (γ 9 17), .ref (γ 9 18), .ref (γ 9 19), .ref (γ 9 20), .ref (γ 9 21), .ref (γ 9 22), .int p639599, .int p639600, .int p639601, .int p639602, .int p639603, .ref q639591, .ref (γ 9 29), .int p639604, .ref (γ 9 31), .int p639605, .int p639606, .int p639607, .ref q639592]) := e639637
          have mk639640 : mKp (F639300 q639301) (F639636 q639301) := mKp_tr mk639579 (by rw [he639590, he639639]; exact ⟨rfl, rfl⟩)
          refine G_iload_n 0 dr_cX17_give_69 rfl ?_
          have hT639641 : RS D I P639566 F639636 γ el := RS_set hT639572 n639638 ht639574 (by decide) ⟨q639591, q639592, p639593, 0, p639595, p639596, p639597, p639598, p639599, p639600, p639601, p639602, p639603, p639604, p639605, p639606, p639607, he639639, ⟨(hB639634.1), (gB_w (gBl (show Int32.toInt 0 = 0 by decide)) (by decide) (by decide)), (hB639634.2.2.1), (hB639634.2.2.2.1), (hB639634.2.2.2.2.1), (hB639634.2.2.2.2.2.1), (hB639634.2.2.2.2.2.2.1), (hB639634.2.2.2.2.2.2.2.1), (hB639634.2.2.2.2.2.2.2.2)⟩, ht639608, ht639609, ht639610, ht639611, ht639612, ht639613, ht639614, ht639615, ht639616, ht639617, ht639618, ht639619, ht639620, ht639621, ht639622, ht639623, ht639624, ht639625, ht639626, ht639627, ht639628, ht639629, ht639630, ht639631, ⟨(show (_ ∨ _ ∨ _) ∧ (_ ∨ _ ∨ _) ∧ _ from hB639635).1, Or.inr (Or.inl (by have z : 0 < γ 6 f := (by omega); rw [x639305] at z; exact z)), (show (_ ∨ _ ∨ _) ∧ (_ ∨ _ ∨ _) ∧ _ from hB639635).2.2⟩⟩
          have hs639642 := rSk_put hs639573 hT639641 n639638 ht639574 (by decide) (by decide)
          have ac639643 : (fI (F639636 q639301) 9).toInt = p639593.toInt := by rw [he639639]; rfl
          have ac639644 : (fI (F639636 q639301) 10).toInt = 0 := by rw [he639639]; show Int32.toInt 0 = 0; decide
          have ac639645 : (fI (F639636 q639301) 32).toInt = p639605.toInt := by rw [he639639]; rfl
          have mq639646 : mKp _ _ := mk639579
          exact G_iretA dr_cX17_give_70 rfl (show ((rPh γ el f - rPh γ0 el0 f) / 18) ≤ (((387 * B + 6000) - rPh γ0 el0 f) / 18) by omega) (show (rPh γ el f - rPh γ0 el0 f) ≤ ((387 * B + 6000) - rPh γ0 el0 f) by omega) ⟨P639566, F639636, γ, el, o639563, rfl, rfl, hs639642, ⟨by omega, by omega⟩, hB639571, (gB_w bo639563' (by decide) (by decide)), (by omega), mk639640⟩
        · have r639647 : 0 < o639563.toInt := gj_nle hc639587 (show Int32.toInt 0 = 0 by decide)
          have bo639563' : gB o639563 1 40 := ⟨by omega, by omega⟩
          refine G_iconst 1 dr_cX17_give_61 (by decide +kernel) ?_
          refine G_goto 66 dr_cX17_give_62 (by decide +kernel) ?_
          have hm639648 : q639301 ∈ P639566 := RS_m hT639572 ht639574 (by decide)
          refine rk10_e (show rk_10 γ (F639567 q639301) from RS_o hT639572 ht639574) (fun q639650 q639651 p639652 p639653 p639654 p639655 p639656 p639657 p639658 p639659 p639660 p639661 p639662 p639663 p639664 p639665 p639666 he639649 hB639693 ht639667 ht639668 ht639669 ht639670 ht639671 ht639672 ht639673 ht639674 ht639675 ht639676 ht639677 ht639678 ht639679 ht639680 ht639681 ht639682 ht639683 ht639684 ht639685 ht639686 ht639687 ht639688 ht639689 ht639690 hB639694 => ?_)
          refine Gp_put 10 hm639648 he639649 dr_cX17_give_66 (gk_X17 D I) (Nat.le_of_ble_eq_true rfl) wr_7_84 rfl rfl rfl (Nat.le_of_ble_eq_true rfl) (fun F639695 e639696 n639697 => ?_)
          have he639698 : F639695 q639301 = .inr (22, [.ref (γ 9 0), .ref (γ 9 1), .ref (γ 9 2), .ref (γ 9 3), .ref (γ 9 4), .ref (γ 9 5), .ref (γ 9 6), .ref (γ 9 7), .ref (γ 9 8), .int p639652, .int 1, .int p639654, .int p639655, .int p639656, .int p639657, .ref (γ 9 15), .ref (γ 9 16), .ref (γ 9 17), .ref (γ 9 18), .ref (γ 9 19), .ref (γ 9 20), .ref (γ 9 21), .ref (γ 9 22), .int p639658, .int p639659, .int p639660, .int p639661, .int p639662, .ref q639650, .ref (γ 9 29), .int p639663, .ref (γ 9 31), .int p639664, .int p639665, .int p639666, .ref q639651]) := e639696
          have mk639699 : mKp (F639300 q639301) (F639695 q639301) := mKp_tr mk639579 (by rw [he639649, he639698]; exact ⟨rfl, rfl⟩)
          refine G_iload_n 0 dr_cX17_give_69 rfl ?_
          have hT639700 : RS D I P639566 F639695 γ el := RS_set hT639572 n639697 ht639574 (by decide) ⟨q639650, q639651, p639652, 1, p639654, p639655, p639656, p639657, p639658, p639659, p639660, p639661, p639662, p639663, p639664, p639665, p639666, he639698, ⟨(hB639693.1), (gB_w (gBl (show Int32.toInt 1 = 1 by decide)) (by decide) (by decide)), (hB639693.2.2.1), (hB639693.2.2.2.1), (hB639693.2.2.2.2.1), (hB639693.2.2.2.2.2.1), (hB639693.2.2.2.2.2.2.1), (hB639693.2.2.2.2.2.2.2.1), (hB639693.2.2.2.2.2.2.2.2)⟩, ht639667, ht639668, ht639669, ht639670, ht639671, ht639672, ht639673, ht639674, ht639675, ht639676, ht639677, ht639678, ht639679, ht639680, ht639681, ht639682, ht639683, ht639684, ht639685, ht639686, ht639687, ht639688, ht639689, ht639690, ⟨(show (_ ∨ _ ∨ _) ∧ (_ ∨ _ ∨ _) ∧ _ from hB639694).1, Or.inr (Or.inl (by have z : 0 < γ 6 f := (by omega); rw [x639305] at z; exact z)), (show (_ ∨ _ ∨ _) ∧ (_ ∨ _ ∨ _) ∧ _ from hB639694).2.2⟩⟩
          have hs639701 := rSk_put hs639573 hT639700 n639697 ht639574 (by decide) (by decide)
          have ac639702 : (fI (F639695 q639301) 9).toInt = p639652.toInt := by rw [he639698]; rfl
          have ac639703 : (fI (F639695 q639301) 10).toInt = 1 := by rw [he639698]; show Int32.toInt 1 = 1; decide
          have ac639704 : (fI (F639695 q639301) 32).toInt = p639664.toInt := by rw [he639698]; rfl
          have mq639705 : mKp _ _ := mk639579
          exact G_iretA dr_cX17_give_70 rfl (show ((rPh γ el f - rPh γ0 el0 f) / 18) ≤ (((387 * B + 6000) - rPh γ0 el0 f) / 18) by omega) (show (rPh γ el f - rPh γ0 el0 f) ≤ ((387 * B + 6000) - rPh γ0 el0 f) by omega) ⟨P639566, F639695, γ, el, o639563, rfl, rfl, hs639701, ⟨by omega, by omega⟩, hB639571, (gB_w bo639563' (by decide) (by decide)), (by omega), mk639699⟩
      · have r639706 : p639322.toInt = 0 := gj_eq hc639443 (show Int32.toInt 0 = 0 by decide)
        have bp639322' : gB p639322 0 0 := gB_t0 r639706
        refine G_aload_n 0 dr_cX17_give_29 rfl ?_
        refine G_iconst 2 dr_cX17_give_30 (by decide +kernel) ?_
        refine Gw_callV (As := [.int 2]) (gV_ok D I) (ct_572004_SpillForgeModel_no l hl0 D I γ el P639299 F639368 q639301 2 hT639373 htq639301) dr_cX17_give_31 ⟨wr_7_191, wr_1_14, wr_7_194, by decide, rfl, (Nat.le_of_ble_eq_true rfl), (Nat.le_of_ble_eq_true rfl)⟩ wr_7_193 wr_p_73 hm639318 he639371 rfl (rm_zc pk639312) (rm_zs pk639312) (Nat.le_of_ble_eq_true rfl) (fun r639710 w639711 dc639707 ds639708 hp639709 => ?_) (fun _ _ _ _ _ z => z.elim)
        obtain ⟨F639714, rfl, rfl, hT639715, hs639716, hdc, hds, x639712, x639713⟩ := hp639709
        have hs639717 := rSk_str hs639374 hT639715 hs639716 (by decide) (by decide) (by decide)
        have mk639718 : mKp (F639300 q639301) (F639714 q639301) := mKp_tr mk639372 x639713
        change G _ _ _ _ _ _ _ (.int 0 :: _) _ _ _
        refine G_widen (cs' := ((rPh γ el f - rPh γ0 el0 f) / 18)) (sl' := (rPh γ el f - rPh γ0 el0 f)) (rm_d0 hdc) (rm_d0 hds) ?_
        have hm639719 : q639301 ∈ P639299 := RS_m hT639715 htq639301 (by decide)
        refine rk10_e (show rk_10 γ (F639714 q639301) from RS_o hT639715 htq639301) (fun q639721 q639722 p639723 p639724 p639725 p639726 p639727 p639728 p639729 p639730 p639731 p639732 p639733 p639734 p639735 p639736 p639737 he639720 hB639764 ht639738 ht639739 ht639740 ht639741 ht639742 ht639743 ht639744 ht639745 ht639746 ht639747 ht639748 ht639749 ht639750 ht639751 ht639752 ht639753 ht639754 ht639755 ht639756 ht639757 ht639758 ht639759 ht639760 ht639761 hB639765 => ?_)
        have ac639766 : (fI (F639714 q639301) 9).toInt = p639723.toInt := by rw [he639720]; rfl
        have ac639767 : (fI (F639714 q639301) 10).toInt = p639724.toInt := by rw [he639720]; rfl
        have ac639768 : (fI (F639714 q639301) 32).toInt = p639735.toInt := by rw [he639720]; rfl
        exact G_iretA dr_cX17_give_34 rfl (show ((rPh γ el f - rPh γ0 el0 f) / 18) ≤ (((387 * B + 6000) - rPh γ0 el0 f) / 18) by omega) (show (rPh γ el f - rPh γ0 el0 f) ≤ ((387 * B + 6000) - rPh γ0 el0 f) by omega) ⟨P639299, F639714, γ, el, 0, rfl, rfl, hs639717, ⟨by omega, by omega⟩, hB, (gB_w (gBl (show Int32.toInt 0 = 0 by decide)) (by decide) (by decide)), (by have qa0 : Int32.toInt 0 = 0 := (by decide); omega), mk639718⟩
    · have r639769 : 32 < p639302.toInt := gj_nle hc639441 (show Int32.toInt 32 = 32 by decide)
      have bp639302'' : gB p639302 33 2147483647 := ⟨by omega, by omega⟩
      refine G_aload_n 0 dr_cX17_give_16 rfl ?_
      refine G_iconst 1 dr_cX17_give_17 (by decide +kernel) ?_
      refine Gw_callV (As := [.int 1]) (gV_ok D I) (ct_572004_SpillForgeModel_no l hl0 D I γ el P639299 F639368 q639301 1 hT639373 htq639301) dr_cX17_give_18 ⟨wr_7_191, wr_1_14, wr_7_194, by decide, rfl, (Nat.le_of_ble_eq_true rfl), (Nat.le_of_ble_eq_true rfl)⟩ wr_7_193 wr_p_73 hm639318 he639371 rfl (rm_zc pk639312) (rm_zs pk639312) (Nat.le_of_ble_eq_true rfl) (fun r639773 w639774 dc639770 ds639771 hp639772 => ?_) (fun _ _ _ _ _ z => z.elim)
      obtain ⟨F639777, rfl, rfl, hT639778, hs639779, hdc, hds, x639775, x639776⟩ := hp639772
      have hs639780 := rSk_str hs639374 hT639778 hs639779 (by decide) (by decide) (by decide)
      have mk639781 : mKp (F639300 q639301) (F639777 q639301) := mKp_tr mk639372 x639776
      change G _ _ _ _ _ _ _ (.int 0 :: _) _ _ _
      refine G_widen (cs' := ((rPh γ el f - rPh γ0 el0 f) / 18)) (sl' := (rPh γ el f - rPh γ0 el0 f)) (rm_d0 hdc) (rm_d0 hds) ?_
      have hm639782 : q639301 ∈ P639299 := RS_m hT639778 htq639301 (by decide)
      refine rk10_e (show rk_10 γ (F639777 q639301) from RS_o hT639778 htq639301) (fun q639784 q639785 p639786 p639787 p639788 p639789 p639790 p639791 p639792 p639793 p639794 p639795 p639796 p639797 p639798 p639799 p639800 he639783 hB639827 ht639801 ht639802 ht639803 ht639804 ht639805 ht639806 ht639807 ht639808 ht639809 ht639810 ht639811 ht639812 ht639813 ht639814 ht639815 ht639816 ht639817 ht639818 ht639819 ht639820 ht639821 ht639822 ht639823 ht639824 hB639828 => ?_)
      have ac639829 : (fI (F639777 q639301) 9).toInt = p639786.toInt := by rw [he639783]; rfl
      have ac639830 : (fI (F639777 q639301) 10).toInt = p639787.toInt := by rw [he639783]; rfl
      have ac639831 : (fI (F639777 q639301) 32).toInt = p639798.toInt := by rw [he639783]; rfl
      exact G_iretA dr_cX17_give_21 rfl (show ((rPh γ el f - rPh γ0 el0 f) / 18) ≤ (((387 * B + 6000) - rPh γ0 el0 f) / 18) by omega) (show (rPh γ el f - rPh γ0 el0 f) ≤ ((387 * B + 6000) - rPh γ0 el0 f) by omega) ⟨P639299, F639777, γ, el, 0, rfl, rfl, hs639780, ⟨by omega, by omega⟩, hB, (gB_w (gBl (show Int32.toInt 0 = 0 by decide)) (by decide) (by decide)), (by have qa0 : Int32.toInt 0 = 0 := (by decide); omega), mk639781⟩
