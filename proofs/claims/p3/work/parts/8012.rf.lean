theorem dr_cX17_give_0 : decode cX17_give 0 = .ok (.aload_n 0, 1) := by decide +kernel
theorem dr_cX17_give_1 : decode cX17_give 1 = .ok (.iconst 0, 1) := by decide +kernel
theorem dr_cX17_give_2 : decode cX17_give 2 = .ok (.putfield 380, 3) := by decide +kernel
theorem dr_cX17_give_5 : decode cX17_give 5 = .ok (.iload_n 1, 1) := by decide +kernel
theorem dr_cX17_give_6 : decode cX17_give 6 = .ok (.iconst 1, 1) := by decide +kernel
theorem dr_cX17_give_7 : decode cX17_give 7 = .ok (.if_icmp .lt 9, 3) := by decide +kernel
theorem dr_cX17_give_16 : decode cX17_give 16 = .ok (.aload_n 0, 1) := by decide +kernel
theorem dr_cX17_give_17 : decode cX17_give 17 = .ok (.iconst 1, 1) := by decide +kernel
theorem dr_cX17_give_18 : decode cX17_give 18 = .ok (.invokevirtual 385, 3) := by decide +kernel
theorem dr_cX17_give_21 : decode cX17_give 21 = .ok (.ireturn, 1) := by decide +kernel
theorem dr_cX17_give_10 : decode cX17_give 10 = .ok (.iload_n 1, 1) := by decide +kernel
theorem dr_cX17_give_11 : decode cX17_give 11 = .ok (.bipush 32, 2) := by decide +kernel
theorem dr_cX17_give_13 : decode cX17_give 13 = .ok (.if_icmp .le 9, 3) := by decide +kernel
theorem dr_cX17_give_22 : decode cX17_give 22 = .ok (.aload_n 0, 1) := by decide +kernel
theorem dr_cX17_give_23 : decode cX17_give 23 = .ok (.getfield 414, 3) := by decide +kernel
theorem dr_cX17_give_26 : decode cX17_give 26 = .ok (.ifCond .ne 9, 3) := by decide +kernel
theorem dr_cX17_give_35 : decode cX17_give 35 = .ok (.aload_n 0, 1) := by decide +kernel
theorem dr_cX17_give_36 : decode cX17_give 36 = .ok (.getfield 365, 3) := by decide +kernel
theorem dr_cX17_give_39 : decode cX17_give 39 = .ok (.aload_n 0, 1) := by decide +kernel
theorem dr_cX17_give_40 : decode cX17_give 40 = .ok (.getfield 361, 3) := by decide +kernel
theorem dr_cX17_give_43 : decode cX17_give 43 = .ok (.invokevirtual 419, 3) := by decide +kernel
theorem dr_cX17_give_46 : decode cX17_give 46 = .ok (.aload_n 0, 1) := by decide +kernel
theorem dr_cX17_give_47 : decode cX17_give 47 = .ok (.aload_n 0, 1) := by decide +kernel
theorem dr_cX17_give_48 : decode cX17_give 48 = .ok (.getfield 365, 3) := by decide +kernel
theorem dr_cX17_give_51 : decode cX17_give 51 = .ok (.iload_n 1, 1) := by decide +kernel
theorem dr_cX17_give_52 : decode cX17_give 52 = .ok (.invokevirtual 422, 3) := by decide +kernel
theorem wr_10_148 : (Jvm.Cond.methodLink "SpillForgeModel" (422 : Nat) ({ cls := "SpillForgeModel", name := "giveAll", desc := "(LSpillForgeModel$Code;I)I" } : Jvm.MethodName)) ∈ gw := gw_10 148 rfl rfl
theorem wr_10_151 : (Jvm.Cond.code ({ cls := "SpillForgeModel", name := "giveAll", desc := "(LSpillForgeModel$Code;I)I" } : Jvm.MethodName) prog_14_method_24_code (8 : Nat) (Option.some Jvm.ClassFile.FieldType.int)) ∈ gw := gw_10 151 rfl rfl
theorem wr_10_150 : (Jvm.Cond.instanceMethod ({ cls := "SpillForgeModel", name := "giveAll", desc := "(LSpillForgeModel$Code;I)I" } : Jvm.MethodName)) ∈ gw := gw_10 150 rfl rfl
theorem wr_p_92 : Cond.selects "SpillForgeModel" ⟨"SpillForgeModel", "giveAll", "(LSpillForgeModel$Code;I)I"⟩ ⟨"SpillForgeModel", "giveAll", "(LSpillForgeModel$Code;I)I"⟩ ∈ gw := gw_p _ 92 rfl rfl rfl
theorem dr_cX17_give_55 : decode cX17_give 55 = .ok (.istore_n 2, 1) := by decide +kernel
theorem dr_cX17_give_56 : decode cX17_give 56 = .ok (.aload_n 0, 1) := by decide +kernel
theorem dr_cX17_give_57 : decode cX17_give 57 = .ok (.iload_n 2, 1) := by decide +kernel
theorem dr_cX17_give_58 : decode cX17_give 58 = .ok (.ifCond .le 7, 3) := by decide +kernel
theorem dr_cX17_give_65 : decode cX17_give 65 = .ok (.iconst 0, 1) := by decide +kernel
theorem dr_cX17_give_66 : decode cX17_give 66 = .ok (.putfield 416, 3) := by decide +kernel
theorem dr_cX17_give_69 : decode cX17_give 69 = .ok (.iload_n 2, 1) := by decide +kernel
theorem dr_cX17_give_70 : decode cX17_give 70 = .ok (.ireturn, 1) := by decide +kernel
theorem dr_cX17_give_61 : decode cX17_give 61 = .ok (.iconst 1, 1) := by decide +kernel
theorem dr_cX17_give_62 : decode cX17_give 62 = .ok (.goto 4, 3) := by decide +kernel
theorem dr_cX17_give_29 : decode cX17_give 29 = .ok (.aload_n 0, 1) := by decide +kernel
theorem dr_cX17_give_30 : decode cX17_give 30 = .ok (.iconst 2, 1) := by decide +kernel
theorem dr_cX17_give_31 : decode cX17_give 31 = .ok (.invokevirtual 385, 3) := by decide +kernel
theorem dr_cX17_give_34 : decode cX17_give 34 = .ok (.ireturn, 1) := by decide +kernel
abbrev ky_639467_SpillForgeModel_give : gKey := (cX17_give, 3, "SpillForgeModel", (some FieldType.int), [], "give", fun _ _ => True)
def pg_639467_SpillForgeModel_give (D : va_G) (I : FieldType → ClassId) (γ0 el0 : Nat → Nat → Nat) (f : Nat) (fo : Nat) (B : Nat) (P639455 : List Nat) (F639456 : Nat → va_E) (q639457 : Nat) (p639458 : Int32) (q639459 : Nat) (q639460 : Nat) : Option Value → va_W → Nat → Nat → Prop := fun r w dc ds => ∃ (P639989 : List Nat) (F639990 : Nat → va_E) (γ el : Nat → Nat → Nat) (o639988 : Int32), r = some (.int o639988) ∧ w = va_pl P639989 F639990 ∧ rSk f [1, 2, 3, 101, 102, 103, 202] ([1, 2, 3, 4, 5, 6, 7, 8, 9, 101, 102, 103, 202] ++ npk) D I P639455 F639456 γ0 el0 P639989 F639990 γ el ∧ (18 * dc + rPh γ0 el0 f ≤ rPh γ el f ∧ ds + rPh γ0 el0 f ≤ rPh γ el f) ∧ rBd γ el f B ∧ gB o639988 (-1) 40 ∧ ((fI (F639990 q639457) 10).toInt = 0 ∨ 0 < γ 6 f) ∧ mKp (F639456 q639457) (F639990 q639457)
set_option maxRecDepth 100000 in
set_option maxHeartbeats 20000000 in
theorem cg_639467_SpillForgeModel_give (l : Launch) (hl0 : l.stackTraces = false) (D : va_G) (I : FieldType → ClassId) (γ0 el0 : Nat → Nat → Nat) (f : Nat) (fo : Nat) (B : Nat) (P639455 : List Nat) (F639456 : Nat → va_E) (q639457 : Nat) (p639458 : Int32) (q639459 : Nat) (q639460 : Nat) (hT0 : RS D I P639455 F639456 γ0 el0) (hzq639457 : rKd γ0 q639457 10) (hzq639459 : rKd γ0 q639459 9) (hzq639460 : rKd γ0 q639460 9) (hvq639459 : γ0 9 7 = q639459) (hvq639460 : γ0 9 6 = q639460) (hf0 : γ0 1 q639459 = f) (hfo0 : γ0 1 q639460 = fo) (hne : fo ≠ f) (hB0 : rBd γ0 el0 f B) (hBk : B ≤ 100000) (x639461 : f = 1) (x639462 : fo = 0) (x639463 : ((fI (F639456 q639457) 9).toInt = 0 ∨ (0 < γ0 6 fo ∧ γ0 16 fo ≤ 160))) (x639464 : γ0 7 fo = 0) (x639465 : 4061 ≤ B) (x639466 : ((fI (F639456 q639457) 10).toInt = 0 ∨ 0 < γ0 6 f)) : CtA (gV D I) l yX17_give cX17_give 3 (some FieldType.int) 11 251 (((387 * B + 6000) - rPh γ0 el0 f) / 18) ((387 * B + 6000) - rPh γ0 el0 f) [.ref q639457, .int p639458] (va_pl P639455 F639456) (pg_639467_SpillForgeModel_give D I γ0 el0 f fo B P639455 F639456 q639457 p639458 q639459 q639460) gNA := by
  refine CtA_of hl0 (by decide) (Nat.le_of_ble_eq_true rfl) ?_
  have bp639458 := gB_any p639458
  obtain ⟨γ, hγ0⟩ : ∃ z, z = γ0 := ⟨_, rfl⟩
  obtain ⟨el, hel0⟩ : ∃ z, z = el0 := ⟨_, rfl⟩
  have hT : RS D I P639455 F639456 γ el := by rw [hγ0, hel0]; exact hT0
  have hst : rSk f [1, 2, 3, 101, 102, 103, 202] ([1, 2, 3, 4, 5, 6, 7, 8, 9, 101, 102, 103, 202] ++ npk) D I P639455 F639456 γ0 el0 P639455 F639456 γ el := by rw [hγ0, hel0]; exact rSk_rf hT0
  have hph : rPh γ0 el0 f ≤ rPh γ el f := by rw [hγ0, hel0]; exact Nat.le_refl _
  have hB : rBd γ el f B := by rw [hγ0, hel0]; exact hB0
  have htq639457 : rKd γ q639457 10 := by rw [hγ0]; exact hzq639457
  have htq639459 : rKd γ q639459 9 := by rw [hγ0]; exact hzq639459
  have htq639460 : rKd γ q639460 9 := by rw [hγ0]; exact hzq639460
  have hf1 : γ 1 q639459 = f := by rw [hγ0]; exact hf0
  have hfo1 : γ 1 q639460 = fo := by rw [hγ0]; exact hfo0
  have x639463n : ((fI (F639456 q639457) 9).toInt = 0 ∨ (0 < γ 6 fo ∧ γ 16 fo ≤ 160)) := by rw [hγ0]; exact x639463
  have x639464n : γ 7 fo = 0 := by rw [hγ0]; exact x639464
  have x639466n : ((fI (F639456 q639457) 10).toInt = 0 ∨ 0 < γ 6 f) := by rw [hγ0]; exact x639466
  have pk639468 : rPh γ el f ≤ 387 * B + 6000 := rm_pk (rM_ge hT htq639459 hf1).1 (rM_bd hB)
  refine G_widen (cs' := ((rPh γ el f - rPh γ0 el0 f) / 18)) (sl' := (rPh γ el f - rPh γ0 el0 f)) (Nat.zero_le _) (Nat.zero_le _) ?_
  have lz0 : Int32.toInt 0 = 0 := by decide
  have r639469 : γ 6 f = γ0 6 f := by rw [hγ0]
  have r639470 : γ 7 f = γ0 7 f := by rw [hγ0]
  have r639471 : γ 16 f = γ0 16 f := by rw [hγ0]
  have r639472 : γ 18 f = γ0 18 f := by rw [hγ0]
  have r639473 : γ 19 f = γ0 19 f := by rw [hγ0]
  have hm639474 : q639457 ∈ P639455 := RS_m hT htq639457 (by decide)
  refine rk10_e (show rk_10 γ (F639456 q639457) from RS_o hT htq639457) (fun q639476 q639477 p639478 p639479 p639480 p639481 p639482 p639483 p639484 p639485 p639486 p639487 p639488 p639489 p639490 p639491 p639492 he639475 hB639519 ht639493 ht639494 ht639495 ht639496 ht639497 ht639498 ht639499 ht639500 ht639501 ht639502 ht639503 ht639504 ht639505 ht639506 ht639507 ht639508 ht639509 ht639510 ht639511 ht639512 ht639513 ht639514 ht639515 ht639516 hB639520 => ?_)
  have ac0_9 : (fI (F639456 q639457) 9).toInt = p639478.toInt := by rw [he639475]; rfl
  have ac0_10 : (fI (F639456 q639457) 10).toInt = p639479.toInt := by rw [he639475]; rfl
  have ac0_32 : (fI (F639456 q639457) 32).toInt = p639490.toInt := by rw [he639475]; rfl
  have r639521 : γ 6 fo = γ0 6 fo := by rw [hγ0]
  have r639522 : γ 7 fo = γ0 7 fo := by rw [hγ0]
  have r639523 : γ 16 fo = γ0 16 fo := by rw [hγ0]
  refine G_aload_n 0 dr_cX17_give_0 rfl ?_
  refine G_iconst 0 dr_cX17_give_1 (by decide +kernel) ?_
  refine Gp_put 30 hm639474 he639475 dr_cX17_give_2 (gk_X17 D I) (Nat.le_of_ble_eq_true rfl) wr_7_104 rfl rfl rfl (Nat.le_of_ble_eq_true rfl) (fun F639524 e639525 n639526 => ?_)
  have he639527 : F639524 q639457 = .inr (22, [.ref (γ 9 0), .ref (γ 9 1), .ref (γ 9 2), .ref (γ 9 3), .ref (γ 9 4), .ref (γ 9 5), .ref (γ 9 6), .ref (γ 9 7), .ref (γ 9 8), .int p639478, .int p639479, .int p639480, .int p639481, .int p639482, .int p639483, .ref (γ 9 15), .ref (γ 9 16), .ref (γ 9 17), .ref (γ 9 18), .ref (γ 9 19), .ref (γ 9 20), .ref (γ 9 21), .ref (γ 9 22), .int p639484, .int p639485, .int p639486, .int p639487, .int p639488, .ref q639476, .ref (γ 9 29), .int 0, .ref (γ 9 31), .int p639490, .int p639491, .int p639492, .ref q639477]) := e639525
  have mk639528 : mKp (F639456 q639457) (F639524 q639457) := mKp_tr mKp_rf (by rw [he639475, he639527]; exact ⟨rfl, rfl⟩)
  have hT639529 : RS D I P639455 F639524 γ el := RS_set hT n639526 htq639457 (by decide) ⟨q639476, q639477, p639478, p639479, p639480, p639481, p639482, p639483, p639484, p639485, p639486, p639487, p639488, 0, p639490, p639491, p639492, he639527, ⟨(hB639519.1), (hB639519.2.1), (hB639519.2.2.1), (hB639519.2.2.2.1), (hB639519.2.2.2.2.1), (hB639519.2.2.2.2.2.1), (hB639519.2.2.2.2.2.2.1), (hB639519.2.2.2.2.2.2.2.1), (hB639519.2.2.2.2.2.2.2.2)⟩, ht639493, ht639494, ht639495, ht639496, ht639497, ht639498, ht639499, ht639500, ht639501, ht639502, ht639503, ht639504, ht639505, ht639506, ht639507, ht639508, ht639509, ht639510, ht639511, ht639512, ht639513, ht639514, ht639515, ht639516, hB639520⟩
  have hs639530 := rSk_put hst hT639529 n639526 htq639457 (by decide) (by decide)
  have ac639531 : (fI (F639524 q639457) 10).toInt = p639479.toInt := by rw [he639527]; rfl
  refine G_iload_n 1 dr_cX17_give_5 rfl ?_
  refine G_iconst 1 dr_cX17_give_6 (by decide +kernel) ?_
  refine G_icmp_lt 16 dr_cX17_give_7 (by decide +kernel) (fun hc639532 => ?_) (fun hc639532 => ?_)
  · have r639533 : p639458.toInt < 1 := gj_lt hc639532 (show Int32.toInt 1 = 1 by decide)
    have bp639458' : gB p639458 (-2147483648) 0 := ⟨by omega, by omega⟩
    refine G_aload_n 0 dr_cX17_give_16 rfl ?_
    refine G_iconst 1 dr_cX17_give_17 (by decide +kernel) ?_
    refine Gw_callV (As := [.int 1]) (gV_ok D I) (ct_572004_SpillForgeModel_no l hl0 D I γ el P639455 F639524 q639457 1 hT639529 htq639457) dr_cX17_give_18 ⟨wr_7_191, wr_1_14, wr_7_194, by decide, rfl, (Nat.le_of_ble_eq_true rfl), (Nat.le_of_ble_eq_true rfl)⟩ wr_7_193 wr_p_73 hm639474 he639527 rfl (rm_zc pk639468) (rm_zs pk639468) (Nat.le_of_ble_eq_true rfl) (fun r639537 w639538 dc639534 ds639535 hp639536 => ?_) (fun _ _ _ _ _ z => z.elim)
    obtain ⟨F639541, rfl, rfl, hT639542, hs639543, hdc, hds, x639539, x639540⟩ := hp639536
    have hs639544 := rSk_str hs639530 hT639542 hs639543 (by decide) (by decide) (by decide)
    have mk639545 : mKp (F639456 q639457) (F639541 q639457) := mKp_tr mk639528 x639540
    change G _ _ _ _ _ _ _ (.int 0 :: _) _ _ _
    refine G_widen (cs' := ((rPh γ el f - rPh γ0 el0 f) / 18)) (sl' := (rPh γ el f - rPh γ0 el0 f)) (rm_d0 hdc) (rm_d0 hds) ?_
    have hm639546 : q639457 ∈ P639455 := RS_m hT639542 htq639457 (by decide)
    refine rk10_e (show rk_10 γ (F639541 q639457) from RS_o hT639542 htq639457) (fun q639548 q639549 p639550 p639551 p639552 p639553 p639554 p639555 p639556 p639557 p639558 p639559 p639560 p639561 p639562 p639563 p639564 he639547 hB639591 ht639565 ht639566 ht639567 ht639568 ht639569 ht639570 ht639571 ht639572 ht639573 ht639574 ht639575 ht639576 ht639577 ht639578 ht639579 ht639580 ht639581 ht639582 ht639583 ht639584 ht639585 ht639586 ht639587 ht639588 hB639592 => ?_)
    have ac639593 : (fI (F639541 q639457) 9).toInt = p639550.toInt := by rw [he639547]; rfl
    have ac639594 : (fI (F639541 q639457) 10).toInt = p639551.toInt := by rw [he639547]; rfl
    have ac639595 : (fI (F639541 q639457) 32).toInt = p639562.toInt := by rw [he639547]; rfl
    exact G_iretA dr_cX17_give_21 rfl (show ((rPh γ el f - rPh γ0 el0 f) / 18) ≤ (((387 * B + 6000) - rPh γ0 el0 f) / 18) by omega) (show (rPh γ el f - rPh γ0 el0 f) ≤ ((387 * B + 6000) - rPh γ0 el0 f) by omega) ⟨P639455, F639541, γ, el, 0, rfl, rfl, hs639544, ⟨by omega, by omega⟩, hB, (gB_w (gBl (show Int32.toInt 0 = 0 by decide)) (by decide) (by decide)), (by have qa0 : Int32.toInt 0 = 0 := (by decide); omega), mk639545⟩
  · have r639596 : 1 ≤ p639458.toInt := gj_nlt hc639532 (show Int32.toInt 1 = 1 by decide)
    have bp639458' : gB p639458 1 2147483647 := ⟨by omega, by omega⟩
    refine G_iload_n 1 dr_cX17_give_10 rfl ?_
    refine G_bipush 32 dr_cX17_give_11 (by decide +kernel) ?_
    refine G_icmp_le 22 dr_cX17_give_13 (by decide +kernel) (fun hc639597 => ?_) (fun hc639597 => ?_)
    · have r639598 : p639458.toInt ≤ 32 := gj_le hc639597 (show Int32.toInt 32 = 32 by decide)
      have bp639458'' : gB p639458 1 32 := ⟨by omega, by omega⟩
      refine G_aload_n 0 dr_cX17_give_22 rfl ?_
      refine Gp_get 9 hm639474 he639527 dr_cX17_give_23 (gk_X17 D I) (Nat.le_of_ble_eq_true rfl) wr_7_83 rfl ?_
      have bp639478 : gB p639478 0 1 := (hB639519.1)
      refine G_if_ne 35 dr_cX17_give_26 (by decide +kernel) (fun hc639599 => ?_) (fun hc639599 => ?_)
      · have r639600 : p639478.toInt ≠ 0 := gj_neq hc639599 (show Int32.toInt 0 = 0 by decide)
        have bp639478' : gB p639478 1 1 := gB_t1 bp639478 r639600
        refine G_aload_n 0 dr_cX17_give_35 rfl ?_
        refine Gp_get 7 hm639474 he639527 dr_cX17_give_36 (gk_X17 D I) (Nat.le_of_ble_eq_true rfl) wr_7_81 rfl ?_
        rw [show γ 9 7 = q639459 from (congrFun (rSk_9 hs639530) 7).trans hvq639459]
        refine G_aload_n 0 dr_cX17_give_39 rfl ?_
        refine Gp_get 6 hm639474 he639527 dr_cX17_give_40 (gk_X17 D I) (Nat.le_of_ble_eq_true rfl) wr_7_80 rfl ?_
        rw [show γ 9 6 = q639460 from (congrFun (rSk_9 hs639530) 6).trans hvq639460]
        have rg639601 := rM_ge hT639529 htq639459 hf1
        have rm639602 := rM_bd hB
        have bd639603 := rBd_c hT639529 htq639459 hf1 hB
        have rc639604 := rc_at hT639529 htq639459 hf1
        have hm639610 : q639459 ∈ P639455 := RS_m hT639529 htq639459 (by decide)
        obtain ⟨q639612, q639613, p639614, p639615, he639611, ht639631, ht639616, ht639617, ht639618, ht639619, r639620, r639621, r639622, r639623, r639624, r639625, r639626, r639627, r639628, r639629, r639630⟩ := show rk_9 γ el q639459 (F639524 q639459) from RS_o hT639529 htq639459
        have bp639614 : gB p639614 0 1000000 := ⟨by omega, by omega⟩
        have bp639615 : gB p639615 0 1000000 := ⟨by omega, by omega⟩
        have hf639632 : γ 1 q639612 = f := (show γ 1 q639612 = γ 1 q639459 from ht639617).trans hf1
        have hf639633 : γ 1 q639613 = f := (show γ 1 q639613 = γ 1 q639459 from ht639619).trans hf1
        have r639634 : γ 6 (γ 1 q639459) = γ 6 f := by rw [hf1]
        have r639635 : γ 16 (γ 1 q639459) = γ 16 f := by rw [hf1]
        refine Gw_callV (As := [.ref q639460]) (gV_ok D I) (cg_189887_Code_copy l hl0 D I γ el f fo B P639455 F639524 q639459 q639460 hT639529 htq639459 htq639460 hf1 hfo1 hne hB hBk (by omega) (by omega) (by omega)) dr_cX17_give_43 ⟨wr_10_132, wr_1_15, wr_10_135, by decide, rfl, (Nat.le_of_ble_eq_true rfl), (Nat.le_of_ble_eq_true rfl)⟩ wr_10_133 wr_10_134 hm639610 he639611 rfl (rm_gc hph pk639468) (rm_gs hph pk639468) (Nat.le_of_ble_eq_true rfl) (fun r639608 w639609 dc639605 ds639606 hp639607 => ?_) (fun _ _ _ _ _ z => z.elim)
        obtain ⟨P639640, F639641, γ, el, rfl, rfl, hk639642, ⟨hr639643, hr639644⟩, hB639645, x639636, x639637, x639638, x639639⟩ := hp639607
        have hT639646 := hk639642.1
        have hs639647 := rSk_tr hs639530 hk639642 (by decide) (by decide) (by decide)
        have kp639648 : F639641 q639457 = F639524 q639457 := rSk_F hk639642 htq639457 (by decide) (by decide)
        have r639649 := rSk_F hk639642 htq639457 (by decide) (by decide)
        have ht639650 : rKd γ q639457 10 := rSk_k hk639642 htq639457 (by decide) (by decide)
        have ht639651 : rKd γ q639459 9 := rSk_k hk639642 htq639459 (by decide) (by decide)
        have hf639652 : γ 1 q639459 = f := rSk_1 hk639642 htq639459 (by decide) hf1
        have ht639653 : rKd γ q639460 9 := rSk_kf hk639642 htq639460 (by decide) (by rw [hfo1]; exact hne)
        have hf639654 : γ 1 q639460 = fo := rSk_1 hk639642 htq639460 (by decide) hfo1
        have mk639655 : mKp (F639456 q639457) (F639641 q639457) := mKp_tr mk639528 (mKp_eq (rSk_F hk639642 htq639457 (by decide) (by decide)))
        clear r639620 r639621 r639622 r639623 r639624 r639625 r639627 r639628 r639629 r639630 bp639614 bp639615 rg639601 rm639602 bd639603 rc639604
        clear r639626
        have hph639656 : rPh γ0 el0 f ≤ rPh γ el f := rm_ph hph hr639644
        have pk639657 : rPh γ el f ≤ 387 * B + 6000 := rm_pk (rM_ge hT639646 ht639651 hf639652).1 (rM_bd hB639645)
        change G _ _ _ _ _ _ _ _ _ _ _
        refine G_widen (cs' := ((rPh γ el f - rPh γ0 el0 f) / 18)) (sl' := (rPh γ el f - rPh γ0 el0 f)) (rm_wc hph hr639643) (rm_ws hph hr639644) ?_
        have r639658 := rSk_g hs639647 hne
        have r639659 : γ 6 fo = γ0 6 fo := r639658.1
        have r639660 : γ 7 fo = γ0 7 fo := r639658.2.1
        have r639661 : γ 16 fo = γ0 16 fo := r639658.2.2.1
        have r639662 : 0 < γ 6 (γ 1 q639459) := by rw [hf639652]; omega
        refine G_aload_n 0 dr_cX17_give_46 rfl ?_
        refine G_aload_n 0 dr_cX17_give_47 rfl ?_
        have hm639663 : q639457 ∈ P639640 := RS_m hT639646 ht639650 (by decide)
        refine rk10_e (show rk_10 γ (F639641 q639457) from RS_o hT639646 ht639650) (fun q639665 q639666 p639667 p639668 p639669 p639670 p639671 p639672 p639673 p639674 p639675 p639676 p639677 p639678 p639679 p639680 p639681 he639664 hB639708 ht639682 ht639683 ht639684 ht639685 ht639686 ht639687 ht639688 ht639689 ht639690 ht639691 ht639692 ht639693 ht639694 ht639695 ht639696 ht639697 ht639698 ht639699 ht639700 ht639701 ht639702 ht639703 ht639704 ht639705 hB639709 => ?_)
        refine Gp_get 7 hm639663 he639664 dr_cX17_give_48 (gk_X17 D I) (Nat.le_of_ble_eq_true rfl) wr_7_81 rfl ?_
        rw [show γ 9 7 = q639459 from (congrFun (rSk_9 hs639647) 7).trans hvq639459]
        refine G_iload_n 1 dr_cX17_give_51 rfl ?_
        have rg639710 := rM_ge hT639646 ht639651 hf639652
        have rm639711 := rM_bd hB639645
        have bd639712 := rBd_c hT639646 ht639651 hf639652 hB639645
        have rc639713 := rc_at hT639646 ht639651 hf639652
        refine Gw_callV (As := [.ref q639459, .int p639458]) (gV_ok D I) (cg_614148_SpillForgeModel_giveAll l hl0 D I γ el f B P639640 F639641 q639457 q639459 p639458 hT639646 ht639650 ht639651 hf639652 hB639645 hBk bp639458'' (by omega) (by omega) (by omega)) dr_cX17_give_52 ⟨wr_10_148, wr_1_14, wr_10_151, by decide, rfl, (Nat.le_of_ble_eq_true rfl), (Nat.le_of_ble_eq_true rfl)⟩ wr_10_150 wr_p_92 hm639663 he639664 rfl (rm_gc hph639656 pk639657) (rm_gs hph639656 pk639657) (Nat.le_of_ble_eq_true rfl) (fun r639717 w639718 dc639714 ds639715 hp639716 => ?_) (fun _ _ _ _ _ z => z.elim)
        obtain ⟨P639722, F639723, γ, el, o639719, rfl, rfl, hk639724, ⟨hr639725, hr639726⟩, hB639727, bo639719, x639720, x639721⟩ := hp639716
        have hT639728 := hk639724.1
        have hs639729 := rSk_tr hs639647 hk639724 (by decide) (by decide) (by decide)
        have ht639730 : rKd γ q639457 10 := rSk_k hk639724 ht639650 (by decide) (by decide)
        have ht639731 : rKd γ q639459 9 := rSk_k hk639724 ht639651 (by decide) (by decide)
        have hf639732 : γ 1 q639459 = f := rSk_1 hk639724 ht639651 (by decide) hf639652
        have ht639733 : rKd γ q639460 9 := rSk_kf hk639724 ht639653 (by decide) (by rw [hf639654]; exact hne)
        have hf639734 : γ 1 q639460 = fo := rSk_1 hk639724 ht639653 (by decide) hf639654
        clear rg639710 rm639711 bd639712 rc639713
        have mk639735 : mKp (F639456 q639457) (F639723 q639457) := mKp_tr mk639655 x639721
        have hph639736 : rPh γ0 el0 f ≤ rPh γ el f := rm_ph hph639656 hr639726
        have pk639737 : rPh γ el f ≤ 387 * B + 6000 := rm_pk (rM_ge hT639728 ht639731 hf639732).1 (rM_bd hB639727)
        change G _ _ _ _ _ _ _ (.int o639719 :: _) _ _ _
        refine G_widen (cs' := ((rPh γ el f - rPh γ0 el0 f) / 18)) (sl' := (rPh γ el f - rPh γ0 el0 f)) (rm_wc hph639656 hr639725) (rm_ws hph639656 hr639726) ?_
        have r639738 := rSk_g hs639729 hne
        have r639739 : γ 6 fo = γ0 6 fo := r639738.1
        have r639740 : γ 7 fo = γ0 7 fo := r639738.2.1
        have r639741 : γ 16 fo = γ0 16 fo := r639738.2.2.1
        have r639742 : 0 < γ 6 (γ 1 q639459) := by rw [hf639732]; omega
        refine G_istore_n (L' := [(2, .int o639719), (0, .ref q639457), (1, .int p639458)]) dr_cX17_give_55 (Nat.le_of_ble_eq_true rfl) rfl ?_
        refine G_aload_n 1 dr_cX17_give_56 rfl ?_
        refine G_iload_n 0 dr_cX17_give_57 rfl ?_
        refine G_if_le 65 dr_cX17_give_58 (by decide +kernel) (fun hc639743 => ?_) (fun hc639743 => ?_)
        · have r639744 : o639719.toInt ≤ 0 := gj_le hc639743 (show Int32.toInt 0 = 0 by decide)
          have bo639719' : gB o639719 (-1) 0 := ⟨by omega, by omega⟩
          refine G_iconst 0 dr_cX17_give_65 (by decide +kernel) ?_
          have hm639745 : q639457 ∈ P639722 := RS_m hT639728 ht639730 (by decide)
          refine rk10_e (show rk_10 γ (F639723 q639457) from RS_o hT639728 ht639730) (fun q639747 q639748 p639749 p639750 p639751 p639752 p639753 p639754 p639755 p639756 p639757 p639758 p639759 p639760 p639761 p639762 p639763 he639746 hB639790 ht639764 ht639765 ht639766 ht639767 ht639768 ht639769 ht639770 ht639771 ht639772 ht639773 ht639774 ht639775 ht639776 ht639777 ht639778 ht639779 ht639780 ht639781 ht639782 ht639783 ht639784 ht639785 ht639786 ht639787 hB639791 => ?_)
          refine Gp_put 10 hm639745 he639746 dr_cX17_give_66 (gk_X17 D I) (Nat.le_of_ble_eq_true rfl) wr_7_84 rfl rfl rfl (Nat.le_of_ble_eq_true rfl) (fun F639792 e639793 n639794 => ?_)
          have he639795 : F639792 q639457 = .inr (22, [.ref (γ 9 0), .ref (γ 9 1), .ref (γ 9 2), .ref (γ 9 3), .ref (γ 9 4), .ref (γ 9 5), .ref (γ 9 6), .ref (γ 9 7), .ref (γ 9 8), .int p639749, .int 0, .int p639751, .int p639752, .int p639753, .int p639754, .ref (γ 9 15), .ref (γ 9 16), .ref (γ 9 17), .ref (γ 9 18), .ref (γ 9 19), .ref (γ 9 20), .ref (γ 9 21), .ref (γ 9 22), .int p639755, .int p639756, .int p639757, .int p639758, .int p639759, .ref q639747, .ref (γ 9 29), .int p639760, .ref (γ 9 31), .int p639761, .int p639762, .int p639763, .ref q639748]) := e639793
          have mk639796 : mKp (F639456 q639457) (F639792 q639457) := mKp_tr mk639735 (by rw [he639746, he639795]; exact ⟨rfl, rfl⟩)
          refine G_iload_n 0 dr_cX17_give_69 rfl ?_
          have hT639797 : RS D I P639722 F639792 γ el := RS_set hT639728 n639794 ht639730 (by decide) ⟨q639747, q639748, p639749, 0, p639751, p639752, p639753, p639754, p639755, p639756, p639757, p639758, p639759, p639760, p639761, p639762, p639763, he639795, ⟨(hB639790.1), (gB_w (gBl (show Int32.toInt 0 = 0 by decide)) (by decide) (by decide)), (hB639790.2.2.1), (hB639790.2.2.2.1), (hB639790.2.2.2.2.1), (hB639790.2.2.2.2.2.1), (hB639790.2.2.2.2.2.2.1), (hB639790.2.2.2.2.2.2.2.1), (hB639790.2.2.2.2.2.2.2.2)⟩, ht639764, ht639765, ht639766, ht639767, ht639768, ht639769, ht639770, ht639771, ht639772, ht639773, ht639774, ht639775, ht639776, ht639777, ht639778, ht639779, ht639780, ht639781, ht639782, ht639783, ht639784, ht639785, ht639786, ht639787, ⟨(show (_ ∨ _ ∨ _) ∧ (_ ∨ _ ∨ _) ∧ _ from hB639791).1, Or.inr (Or.inl (by have z : 0 < γ 6 f := (by omega); rw [x639461] at z; exact z)), (show (_ ∨ _ ∨ _) ∧ (_ ∨ _ ∨ _) ∧ _ from hB639791).2.2⟩⟩
          have hs639798 := rSk_put hs639729 hT639797 n639794 ht639730 (by decide) (by decide)
          have ac639799 : (fI (F639792 q639457) 9).toInt = p639749.toInt := by rw [he639795]; rfl
          have ac639800 : (fI (F639792 q639457) 10).toInt = 0 := by rw [he639795]; show Int32.toInt 0 = 0; decide
          have ac639801 : (fI (F639792 q639457) 32).toInt = p639761.toInt := by rw [he639795]; rfl
          have mq639802 : mKp _ _ := mk639735
          exact G_iretA dr_cX17_give_70 rfl (show ((rPh γ el f - rPh γ0 el0 f) / 18) ≤ (((387 * B + 6000) - rPh γ0 el0 f) / 18) by omega) (show (rPh γ el f - rPh γ0 el0 f) ≤ ((387 * B + 6000) - rPh γ0 el0 f) by omega) ⟨P639722, F639792, γ, el, o639719, rfl, rfl, hs639798, ⟨by omega, by omega⟩, hB639727, (gB_w bo639719' (by decide) (by decide)), (by omega), mk639796⟩
        · have r639803 : 0 < o639719.toInt := gj_nle hc639743 (show Int32.toInt 0 = 0 by decide)
          have bo639719' : gB o639719 1 40 := ⟨by omega, by omega⟩
          refine G_iconst 1 dr_cX17_give_61 (by decide +kernel) ?_
          refine G_goto 66 dr_cX17_give_62 (by decide +kernel) ?_
          have hm639804 : q639457 ∈ P639722 := RS_m hT639728 ht639730 (by decide)
          refine rk10_e (show rk_10 γ (F639723 q639457) from RS_o hT639728 ht639730) (fun q639806 q639807 p639808 p639809 p639810 p639811 p639812 p639813 p639814 p639815 p639816 p639817 p639818 p639819 p639820 p639821 p639822 he639805 hB639849 ht639823 ht639824 ht639825 ht639826 ht639827 ht639828 ht639829 ht639830 ht639831 ht639832 ht639833 ht639834 ht639835 ht639836 ht639837 ht639838 ht639839 ht639840 ht639841 ht639842 ht639843 ht639844 ht639845 ht639846 hB639850 => ?_)
          refine Gp_put 10 hm639804 he639805 dr_cX17_give_66 (gk_X17 D I) (Nat.le_of_ble_eq_true rfl) wr_7_84 rfl rfl rfl (Nat.le_of_ble_eq_true rfl) (fun F639851 e639852 n639853 => ?_)
          have he639854 : F639851 q639457 = .inr (22, [.ref (γ 9 0), .ref (γ 9 1), .ref (γ 9 2), .ref (γ 9 3), .ref (γ 9 4), .ref (γ 9 5), .ref (γ 9 6), .ref (γ 9 7), .ref (γ 9 8), .int p639808, .int 1, .int p639810, .int p639811, .int p639812, .int p639813, .ref (γ 9 15), .ref (γ 9 16), .ref (γ 9 17), .ref (γ 9 18), .ref (γ 9 19), .ref (γ 9 20), .ref (γ 9 21), .ref (γ 9 22), .int p639814, .int p639815, .int p639816, .int p639817, .int p639818, .ref q639806, .ref (γ 9 29), .int p639819, .ref (γ 9 31), .int p639820, .int p639821, .int p639822, .ref q639807]) := e639852
          have mk639855 : mKp (F639456 q639457) (F639851 q639457) := mKp_tr mk639735 (by rw [he639805, he639854]; exact ⟨rfl, rfl⟩)
          refine G_iload_n 0 dr_cX17_give_69 rfl ?_
          have hT639856 : RS D I P639722 F639851 γ el := RS_set hT639728 n639853 ht639730 (by decide) ⟨q639806, q639807, p639808, 1, p639810, p639811, p639812, p639813, p639814, p639815, p639816, p639817, p639818, p639819, p639820, p639821, p639822, he639854, ⟨(hB639849.1), (gB_w (gBl (show Int32.toInt 1 = 1 by decide)) (by decide) (by decide)), (hB639849.2.2.1), (hB639849.2.2.2.1), (hB639849.2.2.2.2.1), (hB639849.2.2.2.2.2.1), (hB639849.2.2.2.2.2.2.1), (hB639849.2.2.2.2.2.2.2.1), (hB639849.2.2.2.2.2.2.2.2)⟩, ht639823, ht639824, ht639825, ht639826, ht639827, ht639828, ht639829, ht639830, ht639831, ht639832, ht639833, ht639834, ht639835, ht639836, ht639837, ht639838, ht639839, ht639840, ht639841, ht639842, ht639843, ht639844, ht639845, ht639846, ⟨(show (_ ∨ _ ∨ _) ∧ (_ ∨ _ ∨ _) ∧ _ from hB639850).1, Or.inr (Or.inl (by have z : 0 < γ 6 f := (by omega); rw [x639461] at z; exact z)), (show (_ ∨ _ ∨ _) ∧ (_ ∨ _ ∨ _) ∧ _ from hB639850).2.2⟩⟩
          have hs639857 := rSk_put hs639729 hT639856 n639853 ht639730 (by decide) (by decide)
          have ac639858 : (fI (F639851 q639457) 9).toInt = p639808.toInt := by rw [he639854]; rfl
          have ac639859 : (fI (F639851 q639457) 10).toInt = 1 := by rw [he639854]; show Int32.toInt 1 = 1; decide
          have ac639860 : (fI (F639851 q639457) 32).toInt = p639820.toInt := by rw [he639854]; rfl
          have mq639861 : mKp _ _ := mk639735
          exact G_iretA dr_cX17_give_70 rfl (show ((rPh γ el f - rPh γ0 el0 f) / 18) ≤ (((387 * B + 6000) - rPh γ0 el0 f) / 18) by omega) (show (rPh γ el f - rPh γ0 el0 f) ≤ ((387 * B + 6000) - rPh γ0 el0 f) by omega) ⟨P639722, F639851, γ, el, o639719, rfl, rfl, hs639857, ⟨by omega, by omega⟩, hB639727, (gB_w bo639719' (by decide) (by decide)), (by omega), mk639855⟩
      · have r639862 : p639478.toInt = 0 := gj_eq hc639599 (show Int32.toInt 0 = 0 by decide)
        have bp639478' : gB p639478 0 0 := gB_t0 r639862
        refine G_aload_n 0 dr_cX17_give_29 rfl ?_
        refine G_iconst 2 dr_cX17_give_30 (by decide +kernel) ?_
        refine Gw_callV (As := [.int 2]) (gV_ok D I) (ct_572004_SpillForgeModel_no l hl0 D I γ el P639455 F639524 q639457 2 hT639529 htq639457) dr_cX17_give_31 ⟨wr_7_191, wr_1_14, wr_7_194, by decide, rfl, (Nat.le_of_ble_eq_true rfl), (Nat.le_of_ble_eq_true rfl)⟩ wr_7_193 wr_p_73 hm639474 he639527 rfl (rm_zc pk639468) (rm_zs pk639468) (Nat.le_of_ble_eq_true rfl) (fun r639866 w639867 dc639863 ds639864 hp639865 => ?_) (fun _ _ _ _ _ z => z.elim)
        obtain ⟨F639870, rfl, rfl, hT639871, hs639872, hdc, hds, x639868, x639869⟩ := hp639865
        have hs639873 := rSk_str hs639530 hT639871 hs639872 (by decide) (by decide) (by decide)
        have mk639874 : mKp (F639456 q639457) (F639870 q639457) := mKp_tr mk639528 x639869
        change G _ _ _ _ _ _ _ (.int 0 :: _) _ _ _
        refine G_widen (cs' := ((rPh γ el f - rPh γ0 el0 f) / 18)) (sl' := (rPh γ el f - rPh γ0 el0 f)) (rm_d0 hdc) (rm_d0 hds) ?_
        have hm639875 : q639457 ∈ P639455 := RS_m hT639871 htq639457 (by decide)
        refine rk10_e (show rk_10 γ (F639870 q639457) from RS_o hT639871 htq639457) (fun q639877 q639878 p639879 p639880 p639881 p639882 p639883 p639884 p639885 p639886 p639887 p639888 p639889 p639890 p639891 p639892 p639893 he639876 hB639920 ht639894 ht639895 ht639896 ht639897 ht639898 ht639899 ht639900 ht639901 ht639902 ht639903 ht639904 ht639905 ht639906 ht639907 ht639908 ht639909 ht639910 ht639911 ht639912 ht639913 ht639914 ht639915 ht639916 ht639917 hB639921 => ?_)
        have ac639922 : (fI (F639870 q639457) 9).toInt = p639879.toInt := by rw [he639876]; rfl
        have ac639923 : (fI (F639870 q639457) 10).toInt = p639880.toInt := by rw [he639876]; rfl
        have ac639924 : (fI (F639870 q639457) 32).toInt = p639891.toInt := by rw [he639876]; rfl
        exact G_iretA dr_cX17_give_34 rfl (show ((rPh γ el f - rPh γ0 el0 f) / 18) ≤ (((387 * B + 6000) - rPh γ0 el0 f) / 18) by omega) (show (rPh γ el f - rPh γ0 el0 f) ≤ ((387 * B + 6000) - rPh γ0 el0 f) by omega) ⟨P639455, F639870, γ, el, 0, rfl, rfl, hs639873, ⟨by omega, by omega⟩, hB, (gB_w (gBl (show Int32.toInt 0 = 0 by decide)) (by decide) (by decide)), (by have qa0 : Int32.toInt 0 = 0 := (by decide); omega), mk639874⟩
    · have r639925 : 32 < p639458.toInt := gj_nle hc639597 (show Int32.toInt 32 = 32 by decide)
      have bp639458'' : gB p639458 33 2147483647 := ⟨by omega, by omega⟩
      refine G_aload_n 0 dr_cX17_give_16 rfl ?_
      refine G_iconst 1 dr_cX17_give_17 (by decide +kernel) ?_
      refine Gw_callV (As := [.int 1]) (gV_ok D I) (ct_572004_SpillForgeModel_no l hl0 D I γ el P639455 F639524 q639457 1 hT639529 htq639457) dr_cX17_give_18 ⟨wr_7_191, wr_1_14, wr_7_194, by decide, rfl, (Nat.le_of_ble_eq_true rfl), (Nat.le_of_ble_eq_true rfl)⟩ wr_7_193 wr_p_73 hm639474 he639527 rfl (rm_zc pk639468) (rm_zs pk639468) (Nat.le_of_ble_eq_true rfl) (fun r639929 w639930 dc639926 ds639927 hp639928 => ?_) (fun _ _ _ _ _ z => z.elim)
      obtain ⟨F639933, rfl, rfl, hT639934, hs639935, hdc, hds, x639931, x639932⟩ := hp639928
      have hs639936 := rSk_str hs639530 hT639934 hs639935 (by decide) (by decide) (by decide)
      have mk639937 : mKp (F639456 q639457) (F639933 q639457) := mKp_tr mk639528 x639932
      change G _ _ _ _ _ _ _ (.int 0 :: _) _ _ _
      refine G_widen (cs' := ((rPh γ el f - rPh γ0 el0 f) / 18)) (sl' := (rPh γ el f - rPh γ0 el0 f)) (rm_d0 hdc) (rm_d0 hds) ?_
      have hm639938 : q639457 ∈ P639455 := RS_m hT639934 htq639457 (by decide)
      refine rk10_e (show rk_10 γ (F639933 q639457) from RS_o hT639934 htq639457) (fun q639940 q639941 p639942 p639943 p639944 p639945 p639946 p639947 p639948 p639949 p639950 p639951 p639952 p639953 p639954 p639955 p639956 he639939 hB639983 ht639957 ht639958 ht639959 ht639960 ht639961 ht639962 ht639963 ht639964 ht639965 ht639966 ht639967 ht639968 ht639969 ht639970 ht639971 ht639972 ht639973 ht639974 ht639975 ht639976 ht639977 ht639978 ht639979 ht639980 hB639984 => ?_)
      have ac639985 : (fI (F639933 q639457) 9).toInt = p639942.toInt := by rw [he639939]; rfl
      have ac639986 : (fI (F639933 q639457) 10).toInt = p639943.toInt := by rw [he639939]; rfl
      have ac639987 : (fI (F639933 q639457) 32).toInt = p639954.toInt := by rw [he639939]; rfl
      exact G_iretA dr_cX17_give_21 rfl (show ((rPh γ el f - rPh γ0 el0 f) / 18) ≤ (((387 * B + 6000) - rPh γ0 el0 f) / 18) by omega) (show (rPh γ el f - rPh γ0 el0 f) ≤ ((387 * B + 6000) - rPh γ0 el0 f) by omega) ⟨P639455, F639933, γ, el, 0, rfl, rfl, hs639936, ⟨by omega, by omega⟩, hB, (gB_w (gBl (show Int32.toInt 0 = 0 by decide)) (by decide) (by decide)), (by have qa0 : Int32.toInt 0 = 0 := (by decide); omega), mk639937⟩
