section
abbrev ky_284394_SpillForgeModel_back : gKey := (cX17_back, 4, "SpillForgeModel", none, [], "back", fun _ _ => True)
def pt_284394_SpillForgeModel_back (D : va_G) (I : FieldType → ClassId) (γ el : Nat → Nat → Nat) (P284389 : List Nat) (F284390 : Nat → va_E) (q284391 : Nat) (q284392 : Nat) (p284393 : Int32) : Option Value → va_W → Nat → Nat → Prop := fun r w dc ds => ∃ (F284897 : Nat → va_E), r = none ∧ w = va_pl P284389 F284897 ∧ RS D I P284389 F284897 γ el ∧ rStr γ [] F284390 F284897 ∧ dc ≤ 0 ∧ ds ≤ 0 ∧ (F284897 q284391 = F284390 q284391) ∧ (F284897 (γ 9 3) = F284390 (γ 9 3)) ∧ tr_RModel_back3 D I γ el P284389 F284390 q284391 q284392 p284393 F284897
set_option maxRecDepth 100000 in
set_option maxHeartbeats 4000000 in
theorem ct_284394_SpillForgeModel_back (l : Launch) (hl0 : l.stackTraces = false) (D : va_G) (I : FieldType → ClassId) (γ el : Nat → Nat → Nat) (P284389 : List Nat) (F284390 : Nat → va_E) (q284391 : Nat) (q284392 : Nat) (p284393 : Int32) (hT : RS D I P284389 F284390 γ el) (htq284391 : rKd γ q284391 10) (htq284392 : rKd γ q284392 1) (bp284393 : gB p284393 0 1) : CtA (gV D I) l yX17_back cX17_back 4 none 2 41 0 0 [.ref q284391, .ref q284392, .int p284393] (va_pl P284389 F284390) (pt_284394_SpillForgeModel_back D I γ el P284389 F284390 q284391 q284392 p284393) gNA := by
  refine CtA_of hl0 (by decide) (Nat.le_of_ble_eq_true rfl) ?_
  refine G_aload_n 1 dr_cX17_back_0 rfl ?_
  refine G_iload_n 2 dr_cX17_back_1 rfl ?_
  have hm284395 : q284392 ∈ P284389 := RS_m hT htq284392 (by decide)
  obtain ⟨p284397, p284398, p284399, p284400, p284401, p284402, p284403, he284396, bp284397, bp284398, bp284401, bp284402, bp284403, r284404, r284405, r284406, r284407, r284408⟩ := show rk_1 γ q284392 (F284390 q284392) from RS_o hT htq284392
  have bp284399 := gB_any p284399
  have bp284400 := gB_any p284400
  have fq284409 : fI (F284390 q284392) 0 = p284397 := by rw [he284396]; rfl
  have fq284410 : fI (F284390 q284392) 1 = p284398 := by rw [he284396]; rfl
  have fq284411 : fI (F284390 q284392) 4 = p284401 := by rw [he284396]; rfl
  refine Gw_callS (As := [.ref q284392, .int p284393]) (gV_ok D I) (cp_1784_SpillForgeModel_setOf l hl0 D I P284389 F284390 q284392 p284393 p284397 p284398 p284399 p284400 p284401 p284402 p284403 hm284395 he284396 bp284393 bp284397 bp284398 bp284401 bp284402 bp284403) dr_cX17_back_2 ⟨wr_10_178, wr_1_14, wr_10_180, by decide, rfl, (Nat.le_of_ble_eq_true rfl), (Nat.le_of_ble_eq_true rfl)⟩ wr_10_179 (show 0 + 0 ≤ 0 by first | omega | decide) (show 0 + 0 ≤ 0 by first | omega | decide) (Nat.le_of_ble_eq_true rfl) (fun r284415 w284416 dc284412 ds284413 hp284414 => ?_) (fun _ _ _ _ _ z => z.elim)
  obtain ⟨o284417, rfl, rfl, hdc, hds, bo284417, ht284418⟩ := hp284414
  change G _ _ _ _ _ _ _ (.int o284417 :: _) _ _ _
  refine G_widen (cs' := 0) (sl' := 0) (by omega) (by omega) ?_
  refine G_istore_n (L' := [(3, .int o284417), (0, .ref q284391), (1, .ref q284392), (2, .int p284393)]) dr_cX17_back_5 (Nat.le_of_ble_eq_true rfl) rfl ?_
  refine G_iload_n 0 dr_cX17_back_6 rfl ?_
  refine G_if_lt 18 dr_cX17_back_7 (by decide +kernel) (fun hc284419 => ?_) (fun hc284419 => ?_)
  · have r284420 : o284417.toInt < 0 := gj_lt hc284419 (show Int32.toInt 0 = 0 by decide)
    have bo284417' : gB o284417 (-1) (-1) := ⟨by omega, by omega⟩
    refine G_iload_n 3 dr_cX17_back_18 rfl ?_
    refine G_if_eq 43 dr_cX17_back_19 (by decide +kernel) (fun hc284421 => ?_) (fun hc284421 => ?_)
    · have r284422 : p284393.toInt = 0 := gj_eq hc284421 (show Int32.toInt 0 = 0 by decide)
      have bp284393' : gB p284393 0 0 := gB_t0 r284422
      refine G_aload_n 2 dr_cX17_back_43 rfl ?_
      have fq284423 : fI (F284390 q284392) 5 = p284402 := by rw [he284396]; rfl
      refine Gw_callV (As := []) (gV_ok D I) (cp_1675_Row_usesA l hl0 D I P284389 F284390 q284392 p284397 p284398 p284399 p284400 p284401 p284402 p284403 hm284395 he284396 bp284397 bp284398 bp284401 bp284402 bp284403) dr_cX17_back_44 ⟨wr_10_192, wr_1_39, wr_10_195, by decide, rfl, (Nat.le_of_ble_eq_true rfl), (Nat.le_of_ble_eq_true rfl)⟩ wr_10_193 wr_10_194 hm284395 he284396 rfl (show 0 + 0 ≤ 0 by first | omega | decide) (show 0 + 0 ≤ 0 by first | omega | decide) (Nat.le_of_ble_eq_true rfl) (fun r284427 w284428 dc284424 ds284425 hp284426 => ?_) (fun _ _ _ _ _ z => z.elim)
      obtain ⟨o284429, rfl, rfl, hdc, hds, bo284429, x284430, ht284431⟩ := hp284426
      change G _ _ _ _ _ _ _ (.int o284429 :: _) _ _ _
      refine G_widen (cs' := 0) (sl' := 0) (by omega) (by omega) ?_
      refine G_if_eq 61 dr_cX17_back_47 (by decide +kernel) (fun hc284432 => ?_) (fun hc284432 => ?_)
      · have r284433 : o284429.toInt = 0 := gj_eq hc284432 (show Int32.toInt 0 = 0 by decide)
        have bo284429' : gB o284429 0 0 := gB_t0 r284433
        refine G_aload_n 2 dr_cX17_back_61 rfl ?_
        have fq284434 : fI (F284390 q284392) 6 = p284403 := by rw [he284396]; rfl
        refine Gw_callV (As := []) (gV_ok D I) (cp_1699_Row_usesB l hl0 D I P284389 F284390 q284392 p284397 p284398 p284399 p284400 p284401 p284402 p284403 hm284395 he284396 bp284397 bp284398 bp284401 bp284402 bp284403) dr_cX17_back_62 ⟨wr_10_196, wr_1_39, wr_10_199, by decide, rfl, (Nat.le_of_ble_eq_true rfl), (Nat.le_of_ble_eq_true rfl)⟩ wr_10_197 wr_10_198 hm284395 he284396 rfl (show 0 + 0 ≤ 0 by first | omega | decide) (show 0 + 0 ≤ 0 by first | omega | decide) (Nat.le_of_ble_eq_true rfl) (fun r284438 w284439 dc284435 ds284436 hp284437 => ?_) (fun _ _ _ _ _ z => z.elim)
        obtain ⟨o284440, rfl, rfl, hdc, hds, bo284440, x284441, ht284442⟩ := hp284437
        change G _ _ _ _ _ _ _ (.int o284440 :: _) _ _ _
        refine G_widen (cs' := 0) (sl' := 0) (by omega) (by omega) ?_
        refine G_if_eq 79 dr_cX17_back_65 (by decide +kernel) (fun hc284443 => ?_) (fun hc284443 => ?_)
        · have r284444 : o284440.toInt = 0 := gj_eq hc284443 (show Int32.toInt 0 = 0 by decide)
          have bo284440' : gB o284440 0 0 := gB_t0 r284444
          exact G_vretA dr_cX17_back_79 rfl (Nat.le_of_ble_eq_true rfl) (Nat.le_of_ble_eq_true rfl) ⟨F284390, rfl, rfl, hT, (rStr_rf (γ := γ) (W := []) (F := F284390)), (Nat.le_of_ble_eq_true rfl), (Nat.le_of_ble_eq_true rfl), rfl, rfl, (fun R c1 c2 c3 c4 c5 c6 c7 c8 c9 c10 c11 c12 => c1 p284397 p284398 p284401 o284417 p284402 o284429 p284403 o284440 fq284409 fq284410 fq284411 bo284417 ht284418 r284420 r284422 fq284423 bo284429 ht284431 r284433 fq284434 bo284440 ht284442 r284444)⟩
        · have r284445 : o284440.toInt ≠ 0 := gj_neq hc284443 (show Int32.toInt 0 = 0 by decide)
          have bo284440' : gB o284440 1 1 := gB_t1 bo284440 r284445
          refine G_aload_n 1 dr_cX17_back_68 rfl ?_
          have hm284446 : q284391 ∈ P284389 := RS_m hT htq284391 (by decide)
          refine rk10_e (show rk_10 γ (F284390 q284391) from RS_o hT htq284391) (fun q284448 q284449 p284450 p284451 p284452 p284453 p284454 p284455 p284456 p284457 p284458 p284459 p284460 p284461 p284462 p284463 p284464 he284447 hB284491 ht284465 ht284466 ht284467 ht284468 ht284469 ht284470 ht284471 ht284472 ht284473 ht284474 ht284475 ht284476 ht284477 ht284478 ht284479 ht284480 ht284481 ht284482 ht284483 ht284484 ht284485 ht284486 ht284487 ht284488 hB284492 => ?_)
          have fq284493 : fR (F284390 q284391) 2 = (γ 9 2) := by rw [he284447]; rfl
          refine Gp_get 2 hm284446 he284447 dr_cX17_back_69 (gk_X17 D I) (Nat.le_of_ble_eq_true rfl) wr_7_76 rfl ?_
          refine G_aload_n 2 dr_cX17_back_72 rfl ?_
          have fq284494 : fI (F284390 q284392) 3 = p284400 := by rw [he284396]; rfl
          refine Gp_get 3 hm284395 he284396 dr_cX17_back_73 (gk_X15 D I) (Nat.le_of_ble_eq_true rfl) wr_9_190 rfl ?_
          have hm284495 : (γ 9 2) ∈ P284389 := RS_m hT ht284469 (by decide)
          obtain ⟨f284497, he284496, wf284497⟩ := show rk_35 I (F284390 (γ 9 2)) from RS_o hT ht284469
          refine Gw_callS (As := [.ref (γ 9 2), .int p284400]) (gV_ok D I) (cp_1860_SpillForgeModel_set l hl0 D I P284389 F284390 (γ 9 2) p284400 f284497 hm284495 he284496 ⟨by omega, by omega⟩ wf284497) dr_cX17_back_76 ⟨wr_10_189, wr_1_14, wr_10_191, by decide, rfl, (Nat.le_of_ble_eq_true rfl), (Nat.le_of_ble_eq_true rfl)⟩ wr_10_190 (show 0 + 0 ≤ 0 by first | omega | decide) (show 0 + 0 ≤ 0 by first | omega | decide) (Nat.le_of_ble_eq_true rfl) (fun r284501 w284502 dc284498 ds284499 hp284500 => ?_) (fun _ _ _ _ _ z => z.elim)
          obtain ⟨F284506, f284503, rfl, rfl, hfr284508, he284509, hdc, hds, x284504, ht284505⟩ := hp284500
          have he284510 : F284506 q284392 = .inr (20, [.int p284397, .int p284398, .int p284399, .int p284400, .int p284401, .int p284402, .int p284403]) := (hfr284508 q284392 hm284395 (nm_c (rn_oa he284396 he284496) nm_n)).trans he284396
          have he284511 : F284506 q284391 = .inr (22, [.ref (γ 9 0), .ref (γ 9 1), .ref (γ 9 2), .ref (γ 9 3), .ref (γ 9 4), .ref (γ 9 5), .ref (γ 9 6), .ref (γ 9 7), .ref (γ 9 8), .int p284450, .int p284451, .int p284452, .int p284453, .int p284454, .int p284455, .ref (γ 9 15), .ref (γ 9 16), .ref (γ 9 17), .ref (γ 9 18), .ref (γ 9 19), .ref (γ 9 20), .ref (γ 9 21), .ref (γ 9 22), .int p284456, .int p284457, .int p284458, .int p284459, .int p284460, .ref q284448, .ref (γ 9 29), .int p284461, .ref (γ 9 31), .int p284462, .int p284463, .int p284464, .ref q284449]) := (hfr284508 q284391 hm284446 (nm_c (rn_oa he284447 he284496) nm_n)).trans he284447
          have hfr284512 : rFr [(γ 9 2)] P284389 F284390 F284506 := rFr_call (rSub_rf (P := P284389)) (rFr_rf (W := []) (P := P284389) (F := F284390)) hfr284508 (fun b hb hn => ⟨nm_n, (nm_c (fun e => hn (e ▸ List.mem_cons_self)) nm_n)⟩)
          change G _ _ _ _ _ _ _ _ _ _ _
          refine G_widen (cs' := 0) (sl' := 0) (by omega) (by omega) ?_
          have hT284513 : RS D I P284389 F284506 γ el := RS_fr hT hfr284512 ht284469 (by decide) ⟨f284503, he284509, x284504⟩
          have hs284514 : rStr γ [] F284390 F284506 := rStr_fr hT (rStr_rf (γ := γ) (W := []) (F := F284390)) hfr284512 ht284469 (by decide)
          have kp284515 : F284506 q284391 = F284390 q284391 := hfr284512 q284391 (RS_m hT htq284391 (by decide)) (nm_c (rn_ty htq284391 ht284469 (by decide)) nm_n)
          have kp284516 : F284506 (γ 9 3) = F284390 (γ 9 3) := hfr284512 (γ 9 3) (RS_m hT ht284470 (by decide)) (nm_c (rn_ty ht284470 ht284469 (by decide)) nm_n)
          exact G_vretA dr_cX17_back_79 rfl (Nat.le_of_ble_eq_true rfl) (Nat.le_of_ble_eq_true rfl) ⟨F284506, rfl, rfl, hT284513, hs284514, (Nat.le_of_ble_eq_true rfl), (Nat.le_of_ble_eq_true rfl), kp284515, kp284516, (fun R c1 c2 c3 c4 c5 c6 c7 c8 c9 c10 c11 c12 => c2 p284397 p284398 p284401 o284417 p284402 o284429 p284403 o284440 p284400 f284497 f284503 F284506 fq284409 fq284410 fq284411 bo284417 ht284418 r284420 r284422 fq284423 bo284429 ht284431 r284433 fq284434 bo284440 ht284442 r284445 fq284493 fq284494 he284496 ht284505 hfr284512 he284509 hT284513)⟩
      · have r284517 : o284429.toInt ≠ 0 := gj_neq hc284432 (show Int32.toInt 0 = 0 by decide)
        have bo284429' : gB o284429 1 1 := gB_t1 bo284429 r284517
        refine G_aload_n 1 dr_cX17_back_50 rfl ?_
        have hm284518 : q284391 ∈ P284389 := RS_m hT htq284391 (by decide)
        refine rk10_e (show rk_10 γ (F284390 q284391) from RS_o hT htq284391) (fun q284520 q284521 p284522 p284523 p284524 p284525 p284526 p284527 p284528 p284529 p284530 p284531 p284532 p284533 p284534 p284535 p284536 he284519 hB284563 ht284537 ht284538 ht284539 ht284540 ht284541 ht284542 ht284543 ht284544 ht284545 ht284546 ht284547 ht284548 ht284549 ht284550 ht284551 ht284552 ht284553 ht284554 ht284555 ht284556 ht284557 ht284558 ht284559 ht284560 hB284564 => ?_)
        have fq284565 : fR (F284390 q284391) 2 = (γ 9 2) := by rw [he284519]; rfl
        refine Gp_get 2 hm284518 he284519 dr_cX17_back_51 (gk_X17 D I) (Nat.le_of_ble_eq_true rfl) wr_7_76 rfl ?_
        refine G_aload_n 2 dr_cX17_back_54 rfl ?_
        have fq284566 : fI (F284390 q284392) 2 = p284399 := by rw [he284396]; rfl
        refine Gp_get 2 hm284395 he284396 dr_cX17_back_55 (gk_X15 D I) (Nat.le_of_ble_eq_true rfl) wr_9_186 rfl ?_
        have hm284567 : (γ 9 2) ∈ P284389 := RS_m hT ht284541 (by decide)
        obtain ⟨f284569, he284568, wf284569⟩ := show rk_35 I (F284390 (γ 9 2)) from RS_o hT ht284541
        refine Gw_callS (As := [.ref (γ 9 2), .int p284399]) (gV_ok D I) (cp_1860_SpillForgeModel_set l hl0 D I P284389 F284390 (γ 9 2) p284399 f284569 hm284567 he284568 ⟨by omega, by omega⟩ wf284569) dr_cX17_back_58 ⟨wr_10_189, wr_1_14, wr_10_191, by decide, rfl, (Nat.le_of_ble_eq_true rfl), (Nat.le_of_ble_eq_true rfl)⟩ wr_10_190 (show 0 + 0 ≤ 0 by first | omega | decide) (show 0 + 0 ≤ 0 by first | omega | decide) (Nat.le_of_ble_eq_true rfl) (fun r284573 w284574 dc284570 ds284571 hp284572 => ?_) (fun _ _ _ _ _ z => z.elim)
        obtain ⟨F284578, f284575, rfl, rfl, hfr284580, he284581, hdc, hds, x284576, ht284577⟩ := hp284572
        have he284582 : F284578 q284392 = .inr (20, [.int p284397, .int p284398, .int p284399, .int p284400, .int p284401, .int p284402, .int p284403]) := (hfr284580 q284392 hm284395 (nm_c (rn_oa he284396 he284568) nm_n)).trans he284396
        have he284583 : F284578 q284391 = .inr (22, [.ref (γ 9 0), .ref (γ 9 1), .ref (γ 9 2), .ref (γ 9 3), .ref (γ 9 4), .ref (γ 9 5), .ref (γ 9 6), .ref (γ 9 7), .ref (γ 9 8), .int p284522, .int p284523, .int p284524, .int p284525, .int p284526, .int p284527, .ref (γ 9 15), .ref (γ 9 16), .ref (γ 9 17), .ref (γ 9 18), .ref (γ 9 19), .ref (γ 9 20), .ref (γ 9 21), .ref (γ 9 22), .int p284528, .int p284529, .int p284530, .int p284531, .int p284532, .ref q284520, .ref (γ 9 29), .int p284533, .ref (γ 9 31), .int p284534, .int p284535, .int p284536, .ref q284521]) := (hfr284580 q284391 hm284518 (nm_c (rn_oa he284519 he284568) nm_n)).trans he284519
        have hfr284584 : rFr [(γ 9 2)] P284389 F284390 F284578 := rFr_call (rSub_rf (P := P284389)) (rFr_rf (W := []) (P := P284389) (F := F284390)) hfr284580 (fun b hb hn => ⟨nm_n, (nm_c (fun e => hn (e ▸ List.mem_cons_self)) nm_n)⟩)
        change G _ _ _ _ _ _ _ _ _ _ _
        refine G_widen (cs' := 0) (sl' := 0) (by omega) (by omega) ?_
        have hT284585 : RS D I P284389 F284578 γ el := RS_fr hT hfr284584 ht284541 (by decide) ⟨f284575, he284581, x284576⟩
        have hs284586 : rStr γ [] F284390 F284578 := rStr_fr hT (rStr_rf (γ := γ) (W := []) (F := F284390)) hfr284584 ht284541 (by decide)
        have kp284587 : F284578 q284391 = F284390 q284391 := hfr284584 q284391 (RS_m hT htq284391 (by decide)) (nm_c (rn_ty htq284391 ht284541 (by decide)) nm_n)
        have kp284588 : F284578 (γ 9 3) = F284390 (γ 9 3) := hfr284584 (γ 9 3) (RS_m hT ht284542 (by decide)) (nm_c (rn_ty ht284542 ht284541 (by decide)) nm_n)
        refine G_aload_n 2 dr_cX17_back_61 rfl ?_
        have fq284589 : fI (F284578 q284392) 0 = p284397 := by rw [he284582]; rfl
        have fq284590 : fI (F284578 q284392) 6 = p284403 := by rw [he284582]; rfl
        refine Gw_callV (As := []) (gV_ok D I) (cp_1699_Row_usesB l hl0 D I P284389 F284578 q284392 p284397 p284398 p284399 p284400 p284401 p284402 p284403 hm284395 he284582 bp284397 bp284398 bp284401 bp284402 bp284403) dr_cX17_back_62 ⟨wr_10_196, wr_1_39, wr_10_199, by decide, rfl, (Nat.le_of_ble_eq_true rfl), (Nat.le_of_ble_eq_true rfl)⟩ wr_10_197 wr_10_198 hm284395 he284582 rfl (show 0 + 0 ≤ 0 by first | omega | decide) (show 0 + 0 ≤ 0 by first | omega | decide) (Nat.le_of_ble_eq_true rfl) (fun r284594 w284595 dc284591 ds284592 hp284593 => ?_) (fun _ _ _ _ _ z => z.elim)
        obtain ⟨o284596, rfl, rfl, hdc, hds, bo284596, x284597, ht284598⟩ := hp284593
        change G _ _ _ _ _ _ _ (.int o284596 :: _) _ _ _
        refine G_widen (cs' := 0) (sl' := 0) (by omega) (by omega) ?_
        refine G_if_eq 79 dr_cX17_back_65 (by decide +kernel) (fun hc284599 => ?_) (fun hc284599 => ?_)
        · have r284600 : o284596.toInt = 0 := gj_eq hc284599 (show Int32.toInt 0 = 0 by decide)
          have bo284596' : gB o284596 0 0 := gB_t0 r284600
          exact G_vretA dr_cX17_back_79 rfl (Nat.le_of_ble_eq_true rfl) (Nat.le_of_ble_eq_true rfl) ⟨F284578, rfl, rfl, hT284585, hs284586, (Nat.le_of_ble_eq_true rfl), (Nat.le_of_ble_eq_true rfl), kp284587, kp284588, (fun R c1 c2 c3 c4 c5 c6 c7 c8 c9 c10 c11 c12 => c3 p284397 p284398 p284401 o284417 p284402 o284429 p284399 f284569 f284575 F284578 p284403 o284596 fq284409 fq284410 fq284411 bo284417 ht284418 r284420 r284422 fq284423 bo284429 ht284431 r284517 fq284565 fq284566 he284568 ht284577 hfr284584 he284581 hT284585 fq284589 fq284590 bo284596 ht284598 r284600)⟩
        · have r284601 : o284596.toInt ≠ 0 := gj_neq hc284599 (show Int32.toInt 0 = 0 by decide)
          have bo284596' : gB o284596 1 1 := gB_t1 bo284596 r284601
          refine G_aload_n 1 dr_cX17_back_68 rfl ?_
          have fq284602 : fR (F284578 q284391) 2 = (γ 9 2) := by rw [he284583]; rfl
          refine Gp_get 2 hm284518 he284583 dr_cX17_back_69 (gk_X17 D I) (Nat.le_of_ble_eq_true rfl) wr_7_76 rfl ?_
          refine G_aload_n 2 dr_cX17_back_72 rfl ?_
          have fq284603 : fI (F284578 q284392) 3 = p284400 := by rw [he284582]; rfl
          refine Gp_get 3 hm284395 he284582 dr_cX17_back_73 (gk_X15 D I) (Nat.le_of_ble_eq_true rfl) wr_9_190 rfl ?_
          refine Gw_callS (As := [.ref (γ 9 2), .int p284400]) (gV_ok D I) (cp_1860_SpillForgeModel_set l hl0 D I P284389 F284578 (γ 9 2) p284400 f284575 hm284567 he284581 ⟨by omega, by omega⟩ x284576) dr_cX17_back_76 ⟨wr_10_189, wr_1_14, wr_10_191, by decide, rfl, (Nat.le_of_ble_eq_true rfl), (Nat.le_of_ble_eq_true rfl)⟩ wr_10_190 (show 0 + 0 ≤ 0 by first | omega | decide) (show 0 + 0 ≤ 0 by first | omega | decide) (Nat.le_of_ble_eq_true rfl) (fun r284607 w284608 dc284604 ds284605 hp284606 => ?_) (fun _ _ _ _ _ z => z.elim)
          obtain ⟨F284612, f284609, rfl, rfl, hfr284614, he284615, hdc, hds, x284610, ht284611⟩ := hp284606
          have he284616 : F284612 q284392 = .inr (20, [.int p284397, .int p284398, .int p284399, .int p284400, .int p284401, .int p284402, .int p284403]) := (hfr284614 q284392 hm284395 (nm_c (rn_oa he284582 he284581) nm_n)).trans he284582
          have he284617 : F284612 q284391 = .inr (22, [.ref (γ 9 0), .ref (γ 9 1), .ref (γ 9 2), .ref (γ 9 3), .ref (γ 9 4), .ref (γ 9 5), .ref (γ 9 6), .ref (γ 9 7), .ref (γ 9 8), .int p284522, .int p284523, .int p284524, .int p284525, .int p284526, .int p284527, .ref (γ 9 15), .ref (γ 9 16), .ref (γ 9 17), .ref (γ 9 18), .ref (γ 9 19), .ref (γ 9 20), .ref (γ 9 21), .ref (γ 9 22), .int p284528, .int p284529, .int p284530, .int p284531, .int p284532, .ref q284520, .ref (γ 9 29), .int p284533, .ref (γ 9 31), .int p284534, .int p284535, .int p284536, .ref q284521]) := (hfr284614 q284391 hm284518 (nm_c (rn_oa he284583 he284581) nm_n)).trans he284583
          have hfr284618 : rFr [(γ 9 2)] P284389 F284578 F284612 := rFr_call (rSub_rf (P := P284389)) (rFr_rf (W := []) (P := P284389) (F := F284578)) hfr284614 (fun b hb hn => ⟨nm_n, (nm_c (fun e => hn (e ▸ List.mem_cons_self)) nm_n)⟩)
          change G _ _ _ _ _ _ _ _ _ _ _
          refine G_widen (cs' := 0) (sl' := 0) (by omega) (by omega) ?_
          have hT284619 : RS D I P284389 F284612 γ el := RS_fr hT284585 hfr284618 ht284541 (by decide) ⟨f284609, he284615, x284610⟩
          have hs284620 : rStr γ [] F284390 F284612 := rStr_fr hT284585 hs284586 hfr284618 ht284541 (by decide)
          have kp284621 : F284612 q284391 = F284390 q284391 := (hfr284618 q284391 (RS_m hT284585 htq284391 (by decide)) (nm_c (rn_ty htq284391 ht284541 (by decide)) nm_n)).trans kp284587
          have kp284622 : F284612 (γ 9 3) = F284390 (γ 9 3) := (hfr284618 (γ 9 3) (RS_m hT284585 ht284542 (by decide)) (nm_c (rn_ty ht284542 ht284541 (by decide)) nm_n)).trans kp284588
          exact G_vretA dr_cX17_back_79 rfl (Nat.le_of_ble_eq_true rfl) (Nat.le_of_ble_eq_true rfl) ⟨F284612, rfl, rfl, hT284619, hs284620, (Nat.le_of_ble_eq_true rfl), (Nat.le_of_ble_eq_true rfl), kp284621, kp284622, (fun R c1 c2 c3 c4 c5 c6 c7 c8 c9 c10 c11 c12 => c4 p284397 p284398 p284401 o284417 p284402 o284429 p284399 f284569 f284575 F284578 p284403 o284596 p284400 f284609 F284612 fq284409 fq284410 fq284411 bo284417 ht284418 r284420 r284422 fq284423 bo284429 ht284431 r284517 fq284565 fq284566 he284568 ht284577 hfr284584 he284581 hT284585 fq284589 fq284590 bo284596 ht284598 r284601 fq284602 fq284603 he284581 ht284611 hfr284618 he284615 hT284619)⟩
    · have r284623 : p284393.toInt ≠ 0 := gj_neq hc284421 (show Int32.toInt 0 = 0 by decide)
      have bp284393' : gB p284393 1 1 := gB_t1 bp284393 r284623
      refine G_aload_n 2 dr_cX17_back_22 rfl ?_
      refine Gp_get 0 hm284395 he284396 dr_cX17_back_23 (gk_X15 D I) (Nat.le_of_ble_eq_true rfl) wr_9_177 rfl ?_
      refine G_bipush 21 dr_cX17_back_26 (by decide +kernel) ?_
      refine G_icmp_ne 42 dr_cX17_back_28 (by decide +kernel) (fun hc284624 => ?_) (fun hc284624 => ?_)
      · have r284625 : p284397.toInt ≠ 21 := gj_neq hc284624 (show Int32.toInt 21 = 21 by decide)
        exact G_vretA dr_cX17_back_42 rfl (Nat.le_of_ble_eq_true rfl) (Nat.le_of_ble_eq_true rfl) ⟨F284390, rfl, rfl, hT, (rStr_rf (γ := γ) (W := []) (F := F284390)), (Nat.le_of_ble_eq_true rfl), (Nat.le_of_ble_eq_true rfl), rfl, rfl, (fun R c1 c2 c3 c4 c5 c6 c7 c8 c9 c10 c11 c12 => c5 p284397 p284398 p284401 o284417 fq284409 fq284410 fq284411 bo284417 ht284418 r284420 r284623 r284625)⟩
      · have r284626 : p284397.toInt = 21 := gj_eq hc284624 (show Int32.toInt 21 = 21 by decide)
        have bp284397' : gB p284397 21 21 := ⟨by omega, by omega⟩
        refine G_aload_n 1 dr_cX17_back_31 rfl ?_
        have hm284627 : q284391 ∈ P284389 := RS_m hT htq284391 (by decide)
        refine rk10_e (show rk_10 γ (F284390 q284391) from RS_o hT htq284391) (fun q284629 q284630 p284631 p284632 p284633 p284634 p284635 p284636 p284637 p284638 p284639 p284640 p284641 p284642 p284643 p284644 p284645 he284628 hB284672 ht284646 ht284647 ht284648 ht284649 ht284650 ht284651 ht284652 ht284653 ht284654 ht284655 ht284656 ht284657 ht284658 ht284659 ht284660 ht284661 ht284662 ht284663 ht284664 ht284665 ht284666 ht284667 ht284668 ht284669 hB284673 => ?_)
        have fq284674 : fR (F284390 q284391) 2 = (γ 9 2) := by rw [he284628]; rfl
        refine Gp_get 2 hm284627 he284628 dr_cX17_back_32 (gk_X17 D I) (Nat.le_of_ble_eq_true rfl) wr_7_76 rfl ?_
        refine G_aload_n 2 dr_cX17_back_35 rfl ?_
        refine Gp_get 4 hm284395 he284396 dr_cX17_back_36 (gk_X15 D I) (Nat.le_of_ble_eq_true rfl) wr_9_193 rfl ?_
        have hm284675 : (γ 9 2) ∈ P284389 := RS_m hT ht284650 (by decide)
        obtain ⟨f284677, he284676, wf284677⟩ := show rk_35 I (F284390 (γ 9 2)) from RS_o hT ht284650
        refine Gw_callS (As := [.ref (γ 9 2), .int p284401]) (gV_ok D I) (cp_1860_SpillForgeModel_set l hl0 D I P284389 F284390 (γ 9 2) p284401 f284677 hm284675 he284676 bp284401 wf284677) dr_cX17_back_39 ⟨wr_10_189, wr_1_14, wr_10_191, by decide, rfl, (Nat.le_of_ble_eq_true rfl), (Nat.le_of_ble_eq_true rfl)⟩ wr_10_190 (show 0 + 0 ≤ 0 by first | omega | decide) (show 0 + 0 ≤ 0 by first | omega | decide) (Nat.le_of_ble_eq_true rfl) (fun r284681 w284682 dc284678 ds284679 hp284680 => ?_) (fun _ _ _ _ _ z => z.elim)
        obtain ⟨F284686, f284683, rfl, rfl, hfr284688, he284689, hdc, hds, x284684, ht284685⟩ := hp284680
        have he284690 : F284686 q284392 = .inr (20, [.int p284397, .int p284398, .int p284399, .int p284400, .int p284401, .int p284402, .int p284403]) := (hfr284688 q284392 hm284395 (nm_c (rn_oa he284396 he284676) nm_n)).trans he284396
        have he284691 : F284686 q284391 = .inr (22, [.ref (γ 9 0), .ref (γ 9 1), .ref (γ 9 2), .ref (γ 9 3), .ref (γ 9 4), .ref (γ 9 5), .ref (γ 9 6), .ref (γ 9 7), .ref (γ 9 8), .int p284631, .int p284632, .int p284633, .int p284634, .int p284635, .int p284636, .ref (γ 9 15), .ref (γ 9 16), .ref (γ 9 17), .ref (γ 9 18), .ref (γ 9 19), .ref (γ 9 20), .ref (γ 9 21), .ref (γ 9 22), .int p284637, .int p284638, .int p284639, .int p284640, .int p284641, .ref q284629, .ref (γ 9 29), .int p284642, .ref (γ 9 31), .int p284643, .int p284644, .int p284645, .ref q284630]) := (hfr284688 q284391 hm284627 (nm_c (rn_oa he284628 he284676) nm_n)).trans he284628
        have hfr284692 : rFr [(γ 9 2)] P284389 F284390 F284686 := rFr_call (rSub_rf (P := P284389)) (rFr_rf (W := []) (P := P284389) (F := F284390)) hfr284688 (fun b hb hn => ⟨nm_n, (nm_c (fun e => hn (e ▸ List.mem_cons_self)) nm_n)⟩)
        change G _ _ _ _ _ _ _ _ _ _ _
        refine G_widen (cs' := 0) (sl' := 0) (by omega) (by omega) ?_
        have hT284693 : RS D I P284389 F284686 γ el := RS_fr hT hfr284692 ht284650 (by decide) ⟨f284683, he284689, x284684⟩
        have hs284694 : rStr γ [] F284390 F284686 := rStr_fr hT (rStr_rf (γ := γ) (W := []) (F := F284390)) hfr284692 ht284650 (by decide)
        have kp284695 : F284686 q284391 = F284390 q284391 := hfr284692 q284391 (RS_m hT htq284391 (by decide)) (nm_c (rn_ty htq284391 ht284650 (by decide)) nm_n)
        have kp284696 : F284686 (γ 9 3) = F284390 (γ 9 3) := hfr284692 (γ 9 3) (RS_m hT ht284651 (by decide)) (nm_c (rn_ty ht284651 ht284650 (by decide)) nm_n)
        exact G_vretA dr_cX17_back_42 rfl (Nat.le_of_ble_eq_true rfl) (Nat.le_of_ble_eq_true rfl) ⟨F284686, rfl, rfl, hT284693, hs284694, (Nat.le_of_ble_eq_true rfl), (Nat.le_of_ble_eq_true rfl), kp284695, kp284696, (fun R c1 c2 c3 c4 c5 c6 c7 c8 c9 c10 c11 c12 => c6 p284397 p284398 p284401 o284417 f284677 f284683 F284686 fq284409 fq284410 fq284411 bo284417 ht284418 r284420 r284623 r284626 fq284674 he284676 ht284685 hfr284692 he284689 hT284693)⟩
  · have r284697 : 0 ≤ o284417.toInt := gj_nlt hc284419 (show Int32.toInt 0 = 0 by decide)
    have bo284417' : gB o284417 0 1999 := ⟨by omega, by omega⟩
    refine G_aload_n 1 dr_cX17_back_10 rfl ?_
    have hm284698 : q284391 ∈ P284389 := RS_m hT htq284391 (by decide)
    refine rk10_e (show rk_10 γ (F284390 q284391) from RS_o hT htq284391) (fun q284700 q284701 p284702 p284703 p284704 p284705 p284706 p284707 p284708 p284709 p284710 p284711 p284712 p284713 p284714 p284715 p284716 he284699 hB284743 ht284717 ht284718 ht284719 ht284720 ht284721 ht284722 ht284723 ht284724 ht284725 ht284726 ht284727 ht284728 ht284729 ht284730 ht284731 ht284732 ht284733 ht284734 ht284735 ht284736 ht284737 ht284738 ht284739 ht284740 hB284744 => ?_)
    have fq284745 : fR (F284390 q284391) 2 = (γ 9 2) := by rw [he284699]; rfl
    refine Gp_get 2 hm284698 he284699 dr_cX17_back_11 (gk_X17 D I) (Nat.le_of_ble_eq_true rfl) wr_7_76 rfl ?_
    refine G_iload_n 0 dr_cX17_back_14 rfl ?_
    have hm284746 : (γ 9 2) ∈ P284389 := RS_m hT ht284721 (by decide)
    obtain ⟨f284748, he284747, wf284748⟩ := show rk_35 I (F284390 (γ 9 2)) from RS_o hT ht284721
    refine Gw_callS (As := [.ref (γ 9 2), .int o284417]) (gV_ok D I) (cp_1880_SpillForgeModel_clear l hl0 D I P284389 F284390 (γ 9 2) o284417 f284748 hm284746 he284747 bo284417' wf284748) dr_cX17_back_15 ⟨wr_10_185, wr_1_14, wr_10_187, by decide, rfl, (Nat.le_of_ble_eq_true rfl), (Nat.le_of_ble_eq_true rfl)⟩ wr_10_186 (show 0 + 0 ≤ 0 by first | omega | decide) (show 0 + 0 ≤ 0 by first | omega | decide) (Nat.le_of_ble_eq_true rfl) (fun r284752 w284753 dc284749 ds284750 hp284751 => ?_) (fun _ _ _ _ _ z => z.elim)
    obtain ⟨F284757, f284754, rfl, rfl, hfr284759, he284760, hdc, hds, x284755, ht284756⟩ := hp284751
    have he284761 : F284757 q284392 = .inr (20, [.int p284397, .int p284398, .int p284399, .int p284400, .int p284401, .int p284402, .int p284403]) := (hfr284759 q284392 hm284395 (nm_c (rn_oa he284396 he284747) nm_n)).trans he284396
    have he284762 : F284757 q284391 = .inr (22, [.ref (γ 9 0), .ref (γ 9 1), .ref (γ 9 2), .ref (γ 9 3), .ref (γ 9 4), .ref (γ 9 5), .ref (γ 9 6), .ref (γ 9 7), .ref (γ 9 8), .int p284702, .int p284703, .int p284704, .int p284705, .int p284706, .int p284707, .ref (γ 9 15), .ref (γ 9 16), .ref (γ 9 17), .ref (γ 9 18), .ref (γ 9 19), .ref (γ 9 20), .ref (γ 9 21), .ref (γ 9 22), .int p284708, .int p284709, .int p284710, .int p284711, .int p284712, .ref q284700, .ref (γ 9 29), .int p284713, .ref (γ 9 31), .int p284714, .int p284715, .int p284716, .ref q284701]) := (hfr284759 q284391 hm284698 (nm_c (rn_oa he284699 he284747) nm_n)).trans he284699
    have hfr284763 : rFr [(γ 9 2)] P284389 F284390 F284757 := rFr_call (rSub_rf (P := P284389)) (rFr_rf (W := []) (P := P284389) (F := F284390)) hfr284759 (fun b hb hn => ⟨nm_n, (nm_c (fun e => hn (e ▸ List.mem_cons_self)) nm_n)⟩)
    change G _ _ _ _ _ _ _ _ _ _ _
    refine G_widen (cs' := 0) (sl' := 0) (by omega) (by omega) ?_
    have hT284764 : RS D I P284389 F284757 γ el := RS_fr hT hfr284763 ht284721 (by decide) ⟨f284754, he284760, x284755⟩
    have hs284765 : rStr γ [] F284390 F284757 := rStr_fr hT (rStr_rf (γ := γ) (W := []) (F := F284390)) hfr284763 ht284721 (by decide)
    have kp284766 : F284757 q284391 = F284390 q284391 := hfr284763 q284391 (RS_m hT htq284391 (by decide)) (nm_c (rn_ty htq284391 ht284721 (by decide)) nm_n)
    have kp284767 : F284757 (γ 9 3) = F284390 (γ 9 3) := hfr284763 (γ 9 3) (RS_m hT ht284722 (by decide)) (nm_c (rn_ty ht284722 ht284721 (by decide)) nm_n)
    refine G_iload_n 3 dr_cX17_back_18 rfl ?_
    refine G_if_eq 43 dr_cX17_back_19 (by decide +kernel) (fun hc284768 => ?_) (fun hc284768 => ?_)
    · have r284769 : p284393.toInt = 0 := gj_eq hc284768 (show Int32.toInt 0 = 0 by decide)
      have bp284393' : gB p284393 0 0 := gB_t0 r284769
      refine G_aload_n 2 dr_cX17_back_43 rfl ?_
      have fq284770 : fI (F284757 q284392) 0 = p284397 := by rw [he284761]; rfl
      have fq284771 : fI (F284757 q284392) 5 = p284402 := by rw [he284761]; rfl
      refine Gw_callV (As := []) (gV_ok D I) (cp_1675_Row_usesA l hl0 D I P284389 F284757 q284392 p284397 p284398 p284399 p284400 p284401 p284402 p284403 hm284395 he284761 bp284397 bp284398 bp284401 bp284402 bp284403) dr_cX17_back_44 ⟨wr_10_192, wr_1_39, wr_10_195, by decide, rfl, (Nat.le_of_ble_eq_true rfl), (Nat.le_of_ble_eq_true rfl)⟩ wr_10_193 wr_10_194 hm284395 he284761 rfl (show 0 + 0 ≤ 0 by first | omega | decide) (show 0 + 0 ≤ 0 by first | omega | decide) (Nat.le_of_ble_eq_true rfl) (fun r284775 w284776 dc284772 ds284773 hp284774 => ?_) (fun _ _ _ _ _ z => z.elim)
      obtain ⟨o284777, rfl, rfl, hdc, hds, bo284777, x284778, ht284779⟩ := hp284774
      change G _ _ _ _ _ _ _ (.int o284777 :: _) _ _ _
      refine G_widen (cs' := 0) (sl' := 0) (by omega) (by omega) ?_
      refine G_if_eq 61 dr_cX17_back_47 (by decide +kernel) (fun hc284780 => ?_) (fun hc284780 => ?_)
      · have r284781 : o284777.toInt = 0 := gj_eq hc284780 (show Int32.toInt 0 = 0 by decide)
        have bo284777' : gB o284777 0 0 := gB_t0 r284781
        refine G_aload_n 2 dr_cX17_back_61 rfl ?_
        have fq284782 : fI (F284757 q284392) 6 = p284403 := by rw [he284761]; rfl
        refine Gw_callV (As := []) (gV_ok D I) (cp_1699_Row_usesB l hl0 D I P284389 F284757 q284392 p284397 p284398 p284399 p284400 p284401 p284402 p284403 hm284395 he284761 bp284397 bp284398 bp284401 bp284402 bp284403) dr_cX17_back_62 ⟨wr_10_196, wr_1_39, wr_10_199, by decide, rfl, (Nat.le_of_ble_eq_true rfl), (Nat.le_of_ble_eq_true rfl)⟩ wr_10_197 wr_10_198 hm284395 he284761 rfl (show 0 + 0 ≤ 0 by first | omega | decide) (show 0 + 0 ≤ 0 by first | omega | decide) (Nat.le_of_ble_eq_true rfl) (fun r284786 w284787 dc284783 ds284784 hp284785 => ?_) (fun _ _ _ _ _ z => z.elim)
        obtain ⟨o284788, rfl, rfl, hdc, hds, bo284788, x284789, ht284790⟩ := hp284785
        change G _ _ _ _ _ _ _ (.int o284788 :: _) _ _ _
        refine G_widen (cs' := 0) (sl' := 0) (by omega) (by omega) ?_
        refine G_if_eq 79 dr_cX17_back_65 (by decide +kernel) (fun hc284791 => ?_) (fun hc284791 => ?_)
        · have r284792 : o284788.toInt = 0 := gj_eq hc284791 (show Int32.toInt 0 = 0 by decide)
          have bo284788' : gB o284788 0 0 := gB_t0 r284792
          exact G_vretA dr_cX17_back_79 rfl (Nat.le_of_ble_eq_true rfl) (Nat.le_of_ble_eq_true rfl) ⟨F284757, rfl, rfl, hT284764, hs284765, (Nat.le_of_ble_eq_true rfl), (Nat.le_of_ble_eq_true rfl), kp284766, kp284767, (fun R c1 c2 c3 c4 c5 c6 c7 c8 c9 c10 c11 c12 => c7 p284397 p284398 p284401 o284417 f284748 f284754 F284757 p284402 o284777 p284403 o284788 fq284409 fq284410 fq284411 bo284417 ht284418 r284697 fq284745 he284747 ht284756 hfr284763 he284760 hT284764 r284769 fq284770 fq284771 bo284777 ht284779 r284781 fq284782 bo284788 ht284790 r284792)⟩
        · have r284793 : o284788.toInt ≠ 0 := gj_neq hc284791 (show Int32.toInt 0 = 0 by decide)
          have bo284788' : gB o284788 1 1 := gB_t1 bo284788 r284793
          refine G_aload_n 1 dr_cX17_back_68 rfl ?_
          have fq284794 : fR (F284757 q284391) 2 = (γ 9 2) := by rw [he284762]; rfl
          refine Gp_get 2 hm284698 he284762 dr_cX17_back_69 (gk_X17 D I) (Nat.le_of_ble_eq_true rfl) wr_7_76 rfl ?_
          refine G_aload_n 2 dr_cX17_back_72 rfl ?_
          have fq284795 : fI (F284757 q284392) 3 = p284400 := by rw [he284761]; rfl
          refine Gp_get 3 hm284395 he284761 dr_cX17_back_73 (gk_X15 D I) (Nat.le_of_ble_eq_true rfl) wr_9_190 rfl ?_
          refine Gw_callS (As := [.ref (γ 9 2), .int p284400]) (gV_ok D I) (cp_1860_SpillForgeModel_set l hl0 D I P284389 F284757 (γ 9 2) p284400 f284754 hm284746 he284760 ⟨by omega, by omega⟩ x284755) dr_cX17_back_76 ⟨wr_10_189, wr_1_14, wr_10_191, by decide, rfl, (Nat.le_of_ble_eq_true rfl), (Nat.le_of_ble_eq_true rfl)⟩ wr_10_190 (show 0 + 0 ≤ 0 by first | omega | decide) (show 0 + 0 ≤ 0 by first | omega | decide) (Nat.le_of_ble_eq_true rfl) (fun r284799 w284800 dc284796 ds284797 hp284798 => ?_) (fun _ _ _ _ _ z => z.elim)
          obtain ⟨F284804, f284801, rfl, rfl, hfr284806, he284807, hdc, hds, x284802, ht284803⟩ := hp284798
          have he284808 : F284804 q284392 = .inr (20, [.int p284397, .int p284398, .int p284399, .int p284400, .int p284401, .int p284402, .int p284403]) := (hfr284806 q284392 hm284395 (nm_c (rn_oa he284761 he284760) nm_n)).trans he284761
          have he284809 : F284804 q284391 = .inr (22, [.ref (γ 9 0), .ref (γ 9 1), .ref (γ 9 2), .ref (γ 9 3), .ref (γ 9 4), .ref (γ 9 5), .ref (γ 9 6), .ref (γ 9 7), .ref (γ 9 8), .int p284702, .int p284703, .int p284704, .int p284705, .int p284706, .int p284707, .ref (γ 9 15), .ref (γ 9 16), .ref (γ 9 17), .ref (γ 9 18), .ref (γ 9 19), .ref (γ 9 20), .ref (γ 9 21), .ref (γ 9 22), .int p284708, .int p284709, .int p284710, .int p284711, .int p284712, .ref q284700, .ref (γ 9 29), .int p284713, .ref (γ 9 31), .int p284714, .int p284715, .int p284716, .ref q284701]) := (hfr284806 q284391 hm284698 (nm_c (rn_oa he284762 he284760) nm_n)).trans he284762
          have hfr284810 : rFr [(γ 9 2)] P284389 F284757 F284804 := rFr_call (rSub_rf (P := P284389)) (rFr_rf (W := []) (P := P284389) (F := F284757)) hfr284806 (fun b hb hn => ⟨nm_n, (nm_c (fun e => hn (e ▸ List.mem_cons_self)) nm_n)⟩)
          change G _ _ _ _ _ _ _ _ _ _ _
          refine G_widen (cs' := 0) (sl' := 0) (by omega) (by omega) ?_
          have hT284811 : RS D I P284389 F284804 γ el := RS_fr hT284764 hfr284810 ht284721 (by decide) ⟨f284801, he284807, x284802⟩
          have hs284812 : rStr γ [] F284390 F284804 := rStr_fr hT284764 hs284765 hfr284810 ht284721 (by decide)
          have kp284813 : F284804 q284391 = F284390 q284391 := (hfr284810 q284391 (RS_m hT284764 htq284391 (by decide)) (nm_c (rn_ty htq284391 ht284721 (by decide)) nm_n)).trans kp284766
          have kp284814 : F284804 (γ 9 3) = F284390 (γ 9 3) := (hfr284810 (γ 9 3) (RS_m hT284764 ht284722 (by decide)) (nm_c (rn_ty ht284722 ht284721 (by decide)) nm_n)).trans kp284767
          exact G_vretA dr_cX17_back_79 rfl (Nat.le_of_ble_eq_true rfl) (Nat.le_of_ble_eq_true rfl) ⟨F284804, rfl, rfl, hT284811, hs284812, (Nat.le_of_ble_eq_true rfl), (Nat.le_of_ble_eq_true rfl), kp284813, kp284814, (fun R c1 c2 c3 c4 c5 c6 c7 c8 c9 c10 c11 c12 => c8 p284397 p284398 p284401 o284417 f284748 f284754 F284757 p284402 o284777 p284403 o284788 p284400 f284801 F284804 fq284409 fq284410 fq284411 bo284417 ht284418 r284697 fq284745 he284747 ht284756 hfr284763 he284760 hT284764 r284769 fq284770 fq284771 bo284777 ht284779 r284781 fq284782 bo284788 ht284790 r284793 fq284794 fq284795 he284760 ht284803 hfr284810 he284807 hT284811)⟩
      · have r284815 : o284777.toInt ≠ 0 := gj_neq hc284780 (show Int32.toInt 0 = 0 by decide)
        have bo284777' : gB o284777 1 1 := gB_t1 bo284777 r284815
        refine G_aload_n 1 dr_cX17_back_50 rfl ?_
        have fq284816 : fR (F284757 q284391) 2 = (γ 9 2) := by rw [he284762]; rfl
        refine Gp_get 2 hm284698 he284762 dr_cX17_back_51 (gk_X17 D I) (Nat.le_of_ble_eq_true rfl) wr_7_76 rfl ?_
        refine G_aload_n 2 dr_cX17_back_54 rfl ?_
        have fq284817 : fI (F284757 q284392) 2 = p284399 := by rw [he284761]; rfl
        refine Gp_get 2 hm284395 he284761 dr_cX17_back_55 (gk_X15 D I) (Nat.le_of_ble_eq_true rfl) wr_9_186 rfl ?_
        refine Gw_callS (As := [.ref (γ 9 2), .int p284399]) (gV_ok D I) (cp_1860_SpillForgeModel_set l hl0 D I P284389 F284757 (γ 9 2) p284399 f284754 hm284746 he284760 ⟨by omega, by omega⟩ x284755) dr_cX17_back_58 ⟨wr_10_189, wr_1_14, wr_10_191, by decide, rfl, (Nat.le_of_ble_eq_true rfl), (Nat.le_of_ble_eq_true rfl)⟩ wr_10_190 (show 0 + 0 ≤ 0 by first | omega | decide) (show 0 + 0 ≤ 0 by first | omega | decide) (Nat.le_of_ble_eq_true rfl) (fun r284821 w284822 dc284818 ds284819 hp284820 => ?_) (fun _ _ _ _ _ z => z.elim)
        obtain ⟨F284826, f284823, rfl, rfl, hfr284828, he284829, hdc, hds, x284824, ht284825⟩ := hp284820
        have he284830 : F284826 q284392 = .inr (20, [.int p284397, .int p284398, .int p284399, .int p284400, .int p284401, .int p284402, .int p284403]) := (hfr284828 q284392 hm284395 (nm_c (rn_oa he284761 he284760) nm_n)).trans he284761
        have he284831 : F284826 q284391 = .inr (22, [.ref (γ 9 0), .ref (γ 9 1), .ref (γ 9 2), .ref (γ 9 3), .ref (γ 9 4), .ref (γ 9 5), .ref (γ 9 6), .ref (γ 9 7), .ref (γ 9 8), .int p284702, .int p284703, .int p284704, .int p284705, .int p284706, .int p284707, .ref (γ 9 15), .ref (γ 9 16), .ref (γ 9 17), .ref (γ 9 18), .ref (γ 9 19), .ref (γ 9 20), .ref (γ 9 21), .ref (γ 9 22), .int p284708, .int p284709, .int p284710, .int p284711, .int p284712, .ref q284700, .ref (γ 9 29), .int p284713, .ref (γ 9 31), .int p284714, .int p284715, .int p284716, .ref q284701]) := (hfr284828 q284391 hm284698 (nm_c (rn_oa he284762 he284760) nm_n)).trans he284762
        have hfr284832 : rFr [(γ 9 2)] P284389 F284757 F284826 := rFr_call (rSub_rf (P := P284389)) (rFr_rf (W := []) (P := P284389) (F := F284757)) hfr284828 (fun b hb hn => ⟨nm_n, (nm_c (fun e => hn (e ▸ List.mem_cons_self)) nm_n)⟩)
        change G _ _ _ _ _ _ _ _ _ _ _
        refine G_widen (cs' := 0) (sl' := 0) (by omega) (by omega) ?_
        have hT284833 : RS D I P284389 F284826 γ el := RS_fr hT284764 hfr284832 ht284721 (by decide) ⟨f284823, he284829, x284824⟩
        have hs284834 : rStr γ [] F284390 F284826 := rStr_fr hT284764 hs284765 hfr284832 ht284721 (by decide)
        have kp284835 : F284826 q284391 = F284390 q284391 := (hfr284832 q284391 (RS_m hT284764 htq284391 (by decide)) (nm_c (rn_ty htq284391 ht284721 (by decide)) nm_n)).trans kp284766
        have kp284836 : F284826 (γ 9 3) = F284390 (γ 9 3) := (hfr284832 (γ 9 3) (RS_m hT284764 ht284722 (by decide)) (nm_c (rn_ty ht284722 ht284721 (by decide)) nm_n)).trans kp284767
        refine G_aload_n 2 dr_cX17_back_61 rfl ?_
        have fq284837 : fI (F284826 q284392) 0 = p284397 := by rw [he284830]; rfl
        have fq284838 : fI (F284826 q284392) 6 = p284403 := by rw [he284830]; rfl
        refine Gw_callV (As := []) (gV_ok D I) (cp_1699_Row_usesB l hl0 D I P284389 F284826 q284392 p284397 p284398 p284399 p284400 p284401 p284402 p284403 hm284395 he284830 bp284397 bp284398 bp284401 bp284402 bp284403) dr_cX17_back_62 ⟨wr_10_196, wr_1_39, wr_10_199, by decide, rfl, (Nat.le_of_ble_eq_true rfl), (Nat.le_of_ble_eq_true rfl)⟩ wr_10_197 wr_10_198 hm284395 he284830 rfl (show 0 + 0 ≤ 0 by first | omega | decide) (show 0 + 0 ≤ 0 by first | omega | decide) (Nat.le_of_ble_eq_true rfl) (fun r284842 w284843 dc284839 ds284840 hp284841 => ?_) (fun _ _ _ _ _ z => z.elim)
        obtain ⟨o284844, rfl, rfl, hdc, hds, bo284844, x284845, ht284846⟩ := hp284841
        change G _ _ _ _ _ _ _ (.int o284844 :: _) _ _ _
        refine G_widen (cs' := 0) (sl' := 0) (by omega) (by omega) ?_
        refine G_if_eq 79 dr_cX17_back_65 (by decide +kernel) (fun hc284847 => ?_) (fun hc284847 => ?_)
        · have r284848 : o284844.toInt = 0 := gj_eq hc284847 (show Int32.toInt 0 = 0 by decide)
          have bo284844' : gB o284844 0 0 := gB_t0 r284848
          exact G_vretA dr_cX17_back_79 rfl (Nat.le_of_ble_eq_true rfl) (Nat.le_of_ble_eq_true rfl) ⟨F284826, rfl, rfl, hT284833, hs284834, (Nat.le_of_ble_eq_true rfl), (Nat.le_of_ble_eq_true rfl), kp284835, kp284836, (fun R c1 c2 c3 c4 c5 c6 c7 c8 c9 c10 c11 c12 => c9 p284397 p284398 p284401 o284417 f284748 f284754 F284757 p284402 o284777 p284399 f284823 F284826 p284403 o284844 fq284409 fq284410 fq284411 bo284417 ht284418 r284697 fq284745 he284747 ht284756 hfr284763 he284760 hT284764 r284769 fq284770 fq284771 bo284777 ht284779 r284815 fq284816 fq284817 he284760 ht284825 hfr284832 he284829 hT284833 fq284837 fq284838 bo284844 ht284846 r284848)⟩
        · have r284849 : o284844.toInt ≠ 0 := gj_neq hc284847 (show Int32.toInt 0 = 0 by decide)
          have bo284844' : gB o284844 1 1 := gB_t1 bo284844 r284849
          refine G_aload_n 1 dr_cX17_back_68 rfl ?_
          have fq284850 : fR (F284826 q284391) 2 = (γ 9 2) := by rw [he284831]; rfl
          refine Gp_get 2 hm284698 he284831 dr_cX17_back_69 (gk_X17 D I) (Nat.le_of_ble_eq_true rfl) wr_7_76 rfl ?_
          refine G_aload_n 2 dr_cX17_back_72 rfl ?_
          have fq284851 : fI (F284826 q284392) 3 = p284400 := by rw [he284830]; rfl
          refine Gp_get 3 hm284395 he284830 dr_cX17_back_73 (gk_X15 D I) (Nat.le_of_ble_eq_true rfl) wr_9_190 rfl ?_
          refine Gw_callS (As := [.ref (γ 9 2), .int p284400]) (gV_ok D I) (cp_1860_SpillForgeModel_set l hl0 D I P284389 F284826 (γ 9 2) p284400 f284823 hm284746 he284829 ⟨by omega, by omega⟩ x284824) dr_cX17_back_76 ⟨wr_10_189, wr_1_14, wr_10_191, by decide, rfl, (Nat.le_of_ble_eq_true rfl), (Nat.le_of_ble_eq_true rfl)⟩ wr_10_190 (show 0 + 0 ≤ 0 by first | omega | decide) (show 0 + 0 ≤ 0 by first | omega | decide) (Nat.le_of_ble_eq_true rfl) (fun r284855 w284856 dc284852 ds284853 hp284854 => ?_) (fun _ _ _ _ _ z => z.elim)
          obtain ⟨F284860, f284857, rfl, rfl, hfr284862, he284863, hdc, hds, x284858, ht284859⟩ := hp284854
          have he284864 : F284860 q284392 = .inr (20, [.int p284397, .int p284398, .int p284399, .int p284400, .int p284401, .int p284402, .int p284403]) := (hfr284862 q284392 hm284395 (nm_c (rn_oa he284830 he284829) nm_n)).trans he284830
          have he284865 : F284860 q284391 = .inr (22, [.ref (γ 9 0), .ref (γ 9 1), .ref (γ 9 2), .ref (γ 9 3), .ref (γ 9 4), .ref (γ 9 5), .ref (γ 9 6), .ref (γ 9 7), .ref (γ 9 8), .int p284702, .int p284703, .int p284704, .int p284705, .int p284706, .int p284707, .ref (γ 9 15), .ref (γ 9 16), .ref (γ 9 17), .ref (γ 9 18), .ref (γ 9 19), .ref (γ 9 20), .ref (γ 9 21), .ref (γ 9 22), .int p284708, .int p284709, .int p284710, .int p284711, .int p284712, .ref q284700, .ref (γ 9 29), .int p284713, .ref (γ 9 31), .int p284714, .int p284715, .int p284716, .ref q284701]) := (hfr284862 q284391 hm284698 (nm_c (rn_oa he284831 he284829) nm_n)).trans he284831
          have hfr284866 : rFr [(γ 9 2)] P284389 F284826 F284860 := rFr_call (rSub_rf (P := P284389)) (rFr_rf (W := []) (P := P284389) (F := F284826)) hfr284862 (fun b hb hn => ⟨nm_n, (nm_c (fun e => hn (e ▸ List.mem_cons_self)) nm_n)⟩)
          change G _ _ _ _ _ _ _ _ _ _ _
          refine G_widen (cs' := 0) (sl' := 0) (by omega) (by omega) ?_
          have hT284867 : RS D I P284389 F284860 γ el := RS_fr hT284833 hfr284866 ht284721 (by decide) ⟨f284857, he284863, x284858⟩
          have hs284868 : rStr γ [] F284390 F284860 := rStr_fr hT284833 hs284834 hfr284866 ht284721 (by decide)
          have kp284869 : F284860 q284391 = F284390 q284391 := (hfr284866 q284391 (RS_m hT284833 htq284391 (by decide)) (nm_c (rn_ty htq284391 ht284721 (by decide)) nm_n)).trans kp284835
          have kp284870 : F284860 (γ 9 3) = F284390 (γ 9 3) := (hfr284866 (γ 9 3) (RS_m hT284833 ht284722 (by decide)) (nm_c (rn_ty ht284722 ht284721 (by decide)) nm_n)).trans kp284836
          exact G_vretA dr_cX17_back_79 rfl (Nat.le_of_ble_eq_true rfl) (Nat.le_of_ble_eq_true rfl) ⟨F284860, rfl, rfl, hT284867, hs284868, (Nat.le_of_ble_eq_true rfl), (Nat.le_of_ble_eq_true rfl), kp284869, kp284870, (fun R c1 c2 c3 c4 c5 c6 c7 c8 c9 c10 c11 c12 => c10 p284397 p284398 p284401 o284417 f284748 f284754 F284757 p284402 o284777 p284399 f284823 F284826 p284403 o284844 p284400 f284857 F284860 fq284409 fq284410 fq284411 bo284417 ht284418 r284697 fq284745 he284747 ht284756 hfr284763 he284760 hT284764 r284769 fq284770 fq284771 bo284777 ht284779 r284815 fq284816 fq284817 he284760 ht284825 hfr284832 he284829 hT284833 fq284837 fq284838 bo284844 ht284846 r284849 fq284850 fq284851 he284829 ht284859 hfr284866 he284863 hT284867)⟩
    · have r284871 : p284393.toInt ≠ 0 := gj_neq hc284768 (show Int32.toInt 0 = 0 by decide)
      have bp284393' : gB p284393 1 1 := gB_t1 bp284393 r284871
      refine G_aload_n 2 dr_cX17_back_22 rfl ?_
      have fq284872 : fI (F284757 q284392) 0 = p284397 := by rw [he284761]; rfl
      refine Gp_get 0 hm284395 he284761 dr_cX17_back_23 (gk_X15 D I) (Nat.le_of_ble_eq_true rfl) wr_9_177 rfl ?_
      refine G_bipush 21 dr_cX17_back_26 (by decide +kernel) ?_
      refine G_icmp_ne 42 dr_cX17_back_28 (by decide +kernel) (fun hc284873 => ?_) (fun hc284873 => ?_)
      · have r284874 : p284397.toInt ≠ 21 := gj_neq hc284873 (show Int32.toInt 21 = 21 by decide)
        exact G_vretA dr_cX17_back_42 rfl (Nat.le_of_ble_eq_true rfl) (Nat.le_of_ble_eq_true rfl) ⟨F284757, rfl, rfl, hT284764, hs284765, (Nat.le_of_ble_eq_true rfl), (Nat.le_of_ble_eq_true rfl), kp284766, kp284767, (fun R c1 c2 c3 c4 c5 c6 c7 c8 c9 c10 c11 c12 => c11 p284397 p284398 p284401 o284417 f284748 f284754 F284757 fq284409 fq284410 fq284411 bo284417 ht284418 r284697 fq284745 he284747 ht284756 hfr284763 he284760 hT284764 r284871 fq284872 r284874)⟩
      · have r284875 : p284397.toInt = 21 := gj_eq hc284873 (show Int32.toInt 21 = 21 by decide)
        have bp284397' : gB p284397 21 21 := ⟨by omega, by omega⟩
        refine G_aload_n 1 dr_cX17_back_31 rfl ?_
        have fq284876 : fR (F284757 q284391) 2 = (γ 9 2) := by rw [he284762]; rfl
        refine Gp_get 2 hm284698 he284762 dr_cX17_back_32 (gk_X17 D I) (Nat.le_of_ble_eq_true rfl) wr_7_76 rfl ?_
        refine G_aload_n 2 dr_cX17_back_35 rfl ?_
        have fq284877 : fI (F284757 q284392) 4 = p284401 := by rw [he284761]; rfl
        refine Gp_get 4 hm284395 he284761 dr_cX17_back_36 (gk_X15 D I) (Nat.le_of_ble_eq_true rfl) wr_9_193 rfl ?_
        refine Gw_callS (As := [.ref (γ 9 2), .int p284401]) (gV_ok D I) (cp_1860_SpillForgeModel_set l hl0 D I P284389 F284757 (γ 9 2) p284401 f284754 hm284746 he284760 bp284401 x284755) dr_cX17_back_39 ⟨wr_10_189, wr_1_14, wr_10_191, by decide, rfl, (Nat.le_of_ble_eq_true rfl), (Nat.le_of_ble_eq_true rfl)⟩ wr_10_190 (show 0 + 0 ≤ 0 by first | omega | decide) (show 0 + 0 ≤ 0 by first | omega | decide) (Nat.le_of_ble_eq_true rfl) (fun r284881 w284882 dc284878 ds284879 hp284880 => ?_) (fun _ _ _ _ _ z => z.elim)
        obtain ⟨F284886, f284883, rfl, rfl, hfr284888, he284889, hdc, hds, x284884, ht284885⟩ := hp284880
        have he284890 : F284886 q284392 = .inr (20, [.int p284397, .int p284398, .int p284399, .int p284400, .int p284401, .int p284402, .int p284403]) := (hfr284888 q284392 hm284395 (nm_c (rn_oa he284761 he284760) nm_n)).trans he284761
        have he284891 : F284886 q284391 = .inr (22, [.ref (γ 9 0), .ref (γ 9 1), .ref (γ 9 2), .ref (γ 9 3), .ref (γ 9 4), .ref (γ 9 5), .ref (γ 9 6), .ref (γ 9 7), .ref (γ 9 8), .int p284702, .int p284703, .int p284704, .int p284705, .int p284706, .int p284707, .ref (γ 9 15), .ref (γ 9 16), .ref (γ 9 17), .ref (γ 9 18), .ref (γ 9 19), .ref (γ 9 20), .ref (γ 9 21), .ref (γ 9 22), .int p284708, .int p284709, .int p284710, .int p284711, .int p284712, .ref q284700, .ref (γ 9 29), .int p284713, .ref (γ 9 31), .int p284714, .int p284715, .int p284716, .ref q284701]) := (hfr284888 q284391 hm284698 (nm_c (rn_oa he284762 he284760) nm_n)).trans he284762
        have hfr284892 : rFr [(γ 9 2)] P284389 F284757 F284886 := rFr_call (rSub_rf (P := P284389)) (rFr_rf (W := []) (P := P284389) (F := F284757)) hfr284888 (fun b hb hn => ⟨nm_n, (nm_c (fun e => hn (e ▸ List.mem_cons_self)) nm_n)⟩)
        change G _ _ _ _ _ _ _ _ _ _ _
        refine G_widen (cs' := 0) (sl' := 0) (by omega) (by omega) ?_
        have hT284893 : RS D I P284389 F284886 γ el := RS_fr hT284764 hfr284892 ht284721 (by decide) ⟨f284883, he284889, x284884⟩
        have hs284894 : rStr γ [] F284390 F284886 := rStr_fr hT284764 hs284765 hfr284892 ht284721 (by decide)
        have kp284895 : F284886 q284391 = F284390 q284391 := (hfr284892 q284391 (RS_m hT284764 htq284391 (by decide)) (nm_c (rn_ty htq284391 ht284721 (by decide)) nm_n)).trans kp284766
        have kp284896 : F284886 (γ 9 3) = F284390 (γ 9 3) := (hfr284892 (γ 9 3) (RS_m hT284764 ht284722 (by decide)) (nm_c (rn_ty ht284722 ht284721 (by decide)) nm_n)).trans kp284767
        exact G_vretA dr_cX17_back_42 rfl (Nat.le_of_ble_eq_true rfl) (Nat.le_of_ble_eq_true rfl) ⟨F284886, rfl, rfl, hT284893, hs284894, (Nat.le_of_ble_eq_true rfl), (Nat.le_of_ble_eq_true rfl), kp284895, kp284896, (fun R c1 c2 c3 c4 c5 c6 c7 c8 c9 c10 c11 c12 => c12 p284397 p284398 p284401 o284417 f284748 f284754 F284757 f284883 F284886 fq284409 fq284410 fq284411 bo284417 ht284418 r284697 fq284745 he284747 ht284756 hfr284763 he284760 hT284764 r284871 fq284872 r284875 fq284876 fq284877 he284760 ht284885 hfr284892 he284889 hT284893)⟩
/- tl_RModel_graph_338: F, l5; out: F -/
def tl_RModel_graph_338 (D : va_G) (I : FieldType → ClassId) (γ el : Nat → Nat → Nat) (P : List Nat) (F : Nat → va_E) (l4_2 : Int32) (a2 : Int32) (q1 : Nat) (q0 : Nat) (l3_1 : Int32) (s1 : Nat → va_E) (s2 : Int64) (k : Nat) (e1 : Nat → va_E) : Prop := ∀ R : (Nat → va_E) → (Int64) → Nat → (Nat → va_E) → Prop,
  (∀ (F_3 : Nat → va_E) (l5_3 : Int64), RS D I P F_3 γ el → rStr γ [] F F_3 → (lb_Q l5_3 (2000 - 64 * l4_2.toInt)) → (gIp (a2.toInt = 0) (rGr γ el F q1 (γ 6 (γ 1 q1)) (cB (F_3 (γ 9 3))) (vA (γ 6 (γ 1 q1))))) → (F_3 q0 = F q0) → l5_3 = (0 : Int64) → R F_3 l5_3 377 F_3) →
  (∀ (F_3 : Nat → va_E) (l5_3 : Int64) (x1 : Int32) (x2 : Int32) (x3 : Int32) (x4 : Nat) (x5 : Nat → Int64) (x6 : Nat → Int64) (x7 : Nat → va_E) (x8 : Int64) (x9 : Int64) (k : Nat) (e1 : Nat → va_E), RS D I P F_3 γ el → rStr γ [] F F_3 → (lb_Q l5_3 (2000 - 64 * l4_2.toInt)) → (gIp (a2.toInt = 0) (rGr γ el F q1 (γ 6 (γ 1 q1)) (cB (F_3 (γ 9 3))) (vA (γ 6 (γ 1 q1))))) → (F_3 q0 = F q0) → (¬ l5_3 = (0 : Int64)) → fR (F_3 q0) 1 = (γ 9 1) → x1.toInt = 64 * l4_2.toInt → (0 ≤ x2.toInt ∧ x2.toInt ≤ 63 ∧ l5_3.toBitVec.getLsbD x2.toInt.toNat = true ∧ ∀ i, i < x2.toInt.toNat → l5_3.toBitVec.getLsbD i = false) → x3.toInt = x1.toInt + x2.toInt → x4 = γ 11 x3.toInt.toNat → F_3 x4 = .inl (I .long, 32, .inr (.inl x5)) → tr_RModel_set l3_1 x5 x6 → rFr [x4] P F_3 x7 → x7 x4 = .inl (I .long, 32, .inr (.inl x6)) → RS D I P x7 γ el → x8 = l5_3 - (1 : Int64) → x9 = l5_3 &&& x8 → R x7 x9 k e1 → R F_3 l5_3 k e1) →
  R s1 s2 k e1
/- tl_RModel_graph_320: F, l4; out: F -/
def tl_RModel_graph_320 (D : va_G) (I : FieldType → ClassId) (γ el : Nat → Nat → Nat) (P : List Nat) (F : Nat → va_E) (a2 : Int32) (q1 : Nat) (q0 : Nat) (l3_1 : Int32) (s1 : Nat → va_E) (s2 : Int32) (k : Nat) (e1 : Nat → va_E) : Prop := ∀ R : (Nat → va_E) → (Int32) → Nat → (Nat → va_E) → Prop,
  (∀ (F_2 : Nat → va_E) (l4_2 : Int32), gB l4_2 0 32 → RS D I P F_2 γ el → rStr γ [] F F_2 → (gIp (a2.toInt = 0) (rGr γ el F q1 (γ 6 (γ 1 q1)) (cB (F_2 (γ 9 3))) (vA (γ 6 (γ 1 q1))))) → (F_2 q0 = F q0) → 32 ≤ l4_2.toInt → R F_2 l4_2 383 F_2) →
  (∀ (F_2 : Nat → va_E) (l4_2 : Int32) (x1 : Nat) (x2 : Nat → Int64) (x3 : Int64) (x4 : Nat → va_E) (x5 : Int32) (k : Nat) (e1 : Nat → va_E), gB l4_2 0 32 → RS D I P F_2 γ el → rStr γ [] F F_2 → (gIp (a2.toInt = 0) (rGr γ el F q1 (γ 6 (γ 1 q1)) (cB (F_2 (γ 9 3))) (vA (γ 6 (γ 1 q1))))) → (F_2 q0 = F q0) → l4_2.toInt < 32 → fR (F_2 q0) 1 = (γ 9 1) → x1 = γ 11 l3_1.toInt.toNat → F_2 x1 = .inl (I .long, 32, .inr (.inl x2)) → x3 = x2 l4_2.toNatClampNeg → tl_RModel_graph_338 D I γ el P F l4_2 a2 q1 q0 l3_1 F_2 x3 377 x4 → x5.toInt = l4_2.toInt + 1 → R x4 x5 k e1 → R F_2 l4_2 k e1) →
  R s1 s2 k e1
/- tl_RModel_graph_298: F, l3; out: F -/
def tl_RModel_graph_298 (D : va_G) (I : FieldType → ClassId) (γ el : Nat → Nat → Nat) (P : List Nat) (F : Nat → va_E) (a2 : Int32) (q1 : Nat) (q0 : Nat) (s1 : Nat → va_E) (s2 : Int32) (k : Nat) (e1 : Nat → va_E) : Prop := ∀ R : (Nat → va_E) → (Int32) → Nat → (Nat → va_E) → Prop,
  (∀ (F_1 : Nat → va_E) (l3_1 : Int32), gB l3_1 0 2000 → RS D I P F_1 γ el → rStr γ [] F F_1 → (gIp (a2.toInt = 0) (rGr γ el F q1 (γ 6 (γ 1 q1)) (cB (F_1 (γ 9 3))) (vA (γ 6 (γ 1 q1))))) → (F_1 q0 = F q0) → 2000 ≤ l3_1.toInt → R F_1 l3_1 389 F_1) →
  (∀ (F_1 : Nat → va_E) (l3_1 : Int32) (x1 : Nat → Int32) (x2 : Int32) (x3 : Nat → va_E) (x4 : Int32) (k : Nat) (e1 : Nat → va_E), gB l3_1 0 2000 → RS D I P F_1 γ el → rStr γ [] F F_1 → (gIp (a2.toInt = 0) (rGr γ el F q1 (γ 6 (γ 1 q1)) (cB (F_1 (γ 9 3))) (vA (γ 6 (γ 1 q1))))) → (F_1 q0 = F q0) → l3_1.toInt < 2000 → fR (F_1 q0) 3 = (γ 9 3) → F_1 (γ 9 3) = .inl (I .boolean, 2000, .inl x1) → x2 = x1 l3_1.toNatClampNeg → gB x2 0 1 → x2.toInt ≠ 0 → tl_RModel_graph_320 D I γ el P F a2 q1 q0 l3_1 F_1 (0 : Int32) 383 x3 → x4.toInt = l3_1.toInt + 1 → R x3 x4 k e1 → R F_1 l3_1 k e1) →
  (∀ (F_1 : Nat → va_E) (l3_1 : Int32) (x1 : Nat → Int32) (x2 : Int32) (x3 : Int32) (k : Nat) (e1 : Nat → va_E), gB l3_1 0 2000 → RS D I P F_1 γ el → rStr γ [] F F_1 → (gIp (a2.toInt = 0) (rGr γ el F q1 (γ 6 (γ 1 q1)) (cB (F_1 (γ 9 3))) (vA (γ 6 (γ 1 q1))))) → (F_1 q0 = F q0) → l3_1.toInt < 2000 → fR (F_1 q0) 3 = (γ 9 3) → F_1 (γ 9 3) = .inl (I .boolean, 2000, .inl x1) → x2 = x1 l3_1.toNatClampNeg → gB x2 0 1 → x2.toInt = 0 → x3.toInt = l3_1.toInt + 1 → R F_1 x3 k e1 → R F_1 l3_1 k e1) →
  R s1 s2 k e1
/- tl_RModel_graph_210: F, l10; out: F -/
def tl_RModel_graph_210 (D : va_G) (I : FieldType → ClassId) (γ el : Nat → Nat → Nat) (P : List Nat) (F : Nat → va_E) (a2 : Int32) (q1 : Nat) (l3_1 : Int32) (l5_2 : Int32) (q0 : Nat) (c1 : Int32) (s1 : Nat → va_E) (s2 : Int32) (k : Nat) (e1 : Nat → va_E) : Prop := ∀ R : (Nat → va_E) → (Int32) → Nat → (Nat → va_E) → Prop,
  (∀ (F_3 : Nat → va_E) (l10_3 : Int32), gB l10_3 0 32 → RS D I P F_3 γ el → rStr γ [] F F_3 → (gIp (a2.toInt = 0) (rGr γ el F q1 (γ 6 (γ 1 q1)) (cB (F_3 (γ 9 3))) (vB (l3_1.toInt : Int).toNat (l5_2.toInt : Int).toNat))) → (F_3 q0 = F q0) → 32 ≤ l10_3.toInt → R F_3 l10_3 243 F_3) →
  (∀ (F_3 : Nat → va_E) (l10_3 : Int32) (x1 : Nat) (x2 : Nat → Int64) (x3 : Int64) (x4 : Nat → Int64) (x5 : Int64) (x6 : Int64) (x7 : Nat → Int64) (x8 : Nat → va_E) (x9 : Int32) (k : Nat) (e1 : Nat → va_E), gB l10_3 0 32 → RS D I P F_3 γ el → rStr γ [] F F_3 → (gIp (a2.toInt = 0) (rGr γ el F q1 (γ 6 (γ 1 q1)) (cB (F_3 (γ 9 3))) (vB (l3_1.toInt : Int).toNat (l5_2.toInt : Int).toNat))) → (F_3 q0 = F q0) → l10_3.toInt < 32 → fR (F_3 q0) 1 = (γ 9 1) → x1 = γ 11 c1.toInt.toNat → F_3 x1 = .inl (I .long, 32, .inr (.inl x2)) → x3 = x2 l10_3.toNatClampNeg → fR (F_3 q0) 2 = (γ 9 2) → F_3 (γ 9 2) = .inl (I .long, 32, .inr (.inl x4)) → x5 = x4 l10_3.toNatClampNeg → x6 = x3 ||| x5 → x7 = vp_updL x2 l10_3.toNatClampNeg x6 → (∀ b, b ≠ x1 → x8 b = F_3 b) → x8 x1 = .inl (I .long, 32, .inr (.inl x7)) → x9.toInt = l10_3.toInt + 1 → R x8 x9 k e1 → R F_3 l10_3 k e1) →
  R s1 s2 k e1
/- tl_RModel_graph_210_2: F, l10; out: F -/
def tl_RModel_graph_210_2 (D : va_G) (I : FieldType → ClassId) (γ el : Nat → Nat → Nat) (P : List Nat) (F : Nat → va_E) (a2 : Int32) (q1 : Nat) (l3_1 : Int32) (l5_2 : Int32) (q0 : Nat) (c1 : Int32) (s1 : Nat → va_E) (s2 : Int32) (k : Nat) (e1 : Nat → va_E) : Prop := ∀ R : (Nat → va_E) → (Int32) → Nat → (Nat → va_E) → Prop,
  (∀ (F_3 : Nat → va_E) (l10_3 : Int32), gB l10_3 0 32 → RS D I P F_3 γ el → rStr γ [] F F_3 → (gIp (a2.toInt = 0) (rGr γ el F q1 (γ 6 (γ 1 q1)) (cB (F_3 (γ 9 3))) (vB (l3_1.toInt : Int).toNat (l5_2.toInt : Int).toNat))) → (F_3 q0 = F q0) → 32 ≤ l10_3.toInt → R F_3 l10_3 243 F_3) →
  (∀ (F_3 : Nat → va_E) (l10_3 : Int32) (x1 : Nat) (x2 : Nat → Int64) (x3 : Int64) (x4 : Nat → Int64) (x5 : Int64) (x6 : Int64) (x7 : Nat → Int64) (x8 : Nat → va_E) (x9 : Int32) (k : Nat) (e1 : Nat → va_E), gB l10_3 0 32 → RS D I P F_3 γ el → rStr γ [] F F_3 → (gIp (a2.toInt = 0) (rGr γ el F q1 (γ 6 (γ 1 q1)) (cB (F_3 (γ 9 3))) (vB (l3_1.toInt : Int).toNat (l5_2.toInt : Int).toNat))) → (F_3 q0 = F q0) → l10_3.toInt < 32 → fR (F_3 q0) 1 = (γ 9 1) → x1 = γ 11 c1.toInt.toNat → F_3 x1 = .inl (I .long, 32, .inr (.inl x2)) → x3 = x2 l10_3.toNatClampNeg → fR (F_3 q0) 2 = (γ 9 2) → F_3 (γ 9 2) = .inl (I .long, 32, .inr (.inl x4)) → x5 = x4 l10_3.toNatClampNeg → x6 = x3 ||| x5 → x7 = vp_updL x2 l10_3.toNatClampNeg x6 → (∀ b, b ≠ x1 → x8 b = F_3 b) → x8 x1 = .inl (I .long, 32, .inr (.inl x7)) → x9.toInt = l10_3.toInt + 1 → R x8 x9 k e1 → R F_3 l10_3 k e1) →
  R s1 s2 k e1
/- tl_RModel_graph_210_3: F, l10; out: F -/
def tl_RModel_graph_210_3 (D : va_G) (I : FieldType → ClassId) (γ el : Nat → Nat → Nat) (P : List Nat) (F : Nat → va_E) (a2 : Int32) (q1 : Nat) (l3_1 : Int32) (l5_2 : Int32) (q0 : Nat) (c1 : Int32) (s1 : Nat → va_E) (s2 : Int32) (k : Nat) (e1 : Nat → va_E) : Prop := ∀ R : (Nat → va_E) → (Int32) → Nat → (Nat → va_E) → Prop,
  (∀ (F_3 : Nat → va_E) (l10_3 : Int32), gB l10_3 0 32 → RS D I P F_3 γ el → rStr γ [] F F_3 → (gIp (a2.toInt = 0) (rGr γ el F q1 (γ 6 (γ 1 q1)) (cB (F_3 (γ 9 3))) (vB (l3_1.toInt : Int).toNat (l5_2.toInt : Int).toNat))) → (F_3 q0 = F q0) → 32 ≤ l10_3.toInt → R F_3 l10_3 243 F_3) →
  (∀ (F_3 : Nat → va_E) (l10_3 : Int32) (x1 : Nat) (x2 : Nat → Int64) (x3 : Int64) (x4 : Nat → Int64) (x5 : Int64) (x6 : Int64) (x7 : Nat → Int64) (x8 : Nat → va_E) (x9 : Int32) (k : Nat) (e1 : Nat → va_E), gB l10_3 0 32 → RS D I P F_3 γ el → rStr γ [] F F_3 → (gIp (a2.toInt = 0) (rGr γ el F q1 (γ 6 (γ 1 q1)) (cB (F_3 (γ 9 3))) (vB (l3_1.toInt : Int).toNat (l5_2.toInt : Int).toNat))) → (F_3 q0 = F q0) → l10_3.toInt < 32 → fR (F_3 q0) 1 = (γ 9 1) → x1 = γ 11 c1.toInt.toNat → F_3 x1 = .inl (I .long, 32, .inr (.inl x2)) → x3 = x2 l10_3.toNatClampNeg → fR (F_3 q0) 2 = (γ 9 2) → F_3 (γ 9 2) = .inl (I .long, 32, .inr (.inl x4)) → x5 = x4 l10_3.toNatClampNeg → x6 = x3 ||| x5 → x7 = vp_updL x2 l10_3.toNatClampNeg x6 → (∀ b, b ≠ x1 → x8 b = F_3 b) → x8 x1 = .inl (I .long, 32, .inr (.inl x7)) → x9.toInt = l10_3.toInt + 1 → R x8 x9 k e1 → R F_3 l10_3 k e1) →
  R s1 s2 k e1
/- tl_RModel_graph_210_4: F, l10; out: F -/
def tl_RModel_graph_210_4 (D : va_G) (I : FieldType → ClassId) (γ el : Nat → Nat → Nat) (P : List Nat) (F : Nat → va_E) (a2 : Int32) (q1 : Nat) (l3_1 : Int32) (l5_2 : Int32) (q0 : Nat) (c1 : Int32) (s1 : Nat → va_E) (s2 : Int32) (k : Nat) (e1 : Nat → va_E) : Prop := ∀ R : (Nat → va_E) → (Int32) → Nat → (Nat → va_E) → Prop,
  (∀ (F_3 : Nat → va_E) (l10_3 : Int32), gB l10_3 0 32 → RS D I P F_3 γ el → rStr γ [] F F_3 → (gIp (a2.toInt = 0) (rGr γ el F q1 (γ 6 (γ 1 q1)) (cB (F_3 (γ 9 3))) (vB (l3_1.toInt : Int).toNat (l5_2.toInt : Int).toNat))) → (F_3 q0 = F q0) → 32 ≤ l10_3.toInt → R F_3 l10_3 243 F_3) →
  (∀ (F_3 : Nat → va_E) (l10_3 : Int32) (x1 : Nat) (x2 : Nat → Int64) (x3 : Int64) (x4 : Nat → Int64) (x5 : Int64) (x6 : Int64) (x7 : Nat → Int64) (x8 : Nat → va_E) (x9 : Int32) (k : Nat) (e1 : Nat → va_E), gB l10_3 0 32 → RS D I P F_3 γ el → rStr γ [] F F_3 → (gIp (a2.toInt = 0) (rGr γ el F q1 (γ 6 (γ 1 q1)) (cB (F_3 (γ 9 3))) (vB (l3_1.toInt : Int).toNat (l5_2.toInt : Int).toNat))) → (F_3 q0 = F q0) → l10_3.toInt < 32 → fR (F_3 q0) 1 = (γ 9 1) → x1 = γ 11 c1.toInt.toNat → F_3 x1 = .inl (I .long, 32, .inr (.inl x2)) → x3 = x2 l10_3.toNatClampNeg → fR (F_3 q0) 2 = (γ 9 2) → F_3 (γ 9 2) = .inl (I .long, 32, .inr (.inl x4)) → x5 = x4 l10_3.toNatClampNeg → x6 = x3 ||| x5 → x7 = vp_updL x2 l10_3.toNatClampNeg x6 → (∀ b, b ≠ x1 → x8 b = F_3 b) → x8 x1 = .inl (I .long, 32, .inr (.inl x7)) → x9.toInt = l10_3.toInt + 1 → R x8 x9 k e1 → R F_3 l10_3 k e1) →
  R s1 s2 k e1
/- tl_RModel_graph_210_5: F, l10; out: F -/
def tl_RModel_graph_210_5 (D : va_G) (I : FieldType → ClassId) (γ el : Nat → Nat → Nat) (P : List Nat) (F : Nat → va_E) (a2 : Int32) (q1 : Nat) (l3_1 : Int32) (l5_2 : Int32) (q0 : Nat) (c1 : Int32) (s1 : Nat → va_E) (s2 : Int32) (k : Nat) (e1 : Nat → va_E) : Prop := ∀ R : (Nat → va_E) → (Int32) → Nat → (Nat → va_E) → Prop,
  (∀ (F_3 : Nat → va_E) (l10_3 : Int32), gB l10_3 0 32 → RS D I P F_3 γ el → rStr γ [] F F_3 → (gIp (a2.toInt = 0) (rGr γ el F q1 (γ 6 (γ 1 q1)) (cB (F_3 (γ 9 3))) (vB (l3_1.toInt : Int).toNat (l5_2.toInt : Int).toNat))) → (F_3 q0 = F q0) → 32 ≤ l10_3.toInt → R F_3 l10_3 243 F_3) →
  (∀ (F_3 : Nat → va_E) (l10_3 : Int32) (x1 : Nat) (x2 : Nat → Int64) (x3 : Int64) (x4 : Nat → Int64) (x5 : Int64) (x6 : Int64) (x7 : Nat → Int64) (x8 : Nat → va_E) (x9 : Int32) (k : Nat) (e1 : Nat → va_E), gB l10_3 0 32 → RS D I P F_3 γ el → rStr γ [] F F_3 → (gIp (a2.toInt = 0) (rGr γ el F q1 (γ 6 (γ 1 q1)) (cB (F_3 (γ 9 3))) (vB (l3_1.toInt : Int).toNat (l5_2.toInt : Int).toNat))) → (F_3 q0 = F q0) → l10_3.toInt < 32 → fR (F_3 q0) 1 = (γ 9 1) → x1 = γ 11 c1.toInt.toNat → F_3 x1 = .inl (I .long, 32, .inr (.inl x2)) → x3 = x2 l10_3.toNatClampNeg → fR (F_3 q0) 2 = (γ 9 2) → F_3 (γ 9 2) = .inl (I .long, 32, .inr (.inl x4)) → x5 = x4 l10_3.toNatClampNeg → x6 = x3 ||| x5 → x7 = vp_updL x2 l10_3.toNatClampNeg x6 → (∀ b, b ≠ x1 → x8 b = F_3 b) → x8 x1 = .inl (I .long, 32, .inr (.inl x7)) → x9.toInt = l10_3.toInt + 1 → R x8 x9 k e1 → R F_3 l10_3 k e1) →
  R s1 s2 k e1
/- tl_RModel_graph_210_6: F, l10; out: F -/
def tl_RModel_graph_210_6 (D : va_G) (I : FieldType → ClassId) (γ el : Nat → Nat → Nat) (P : List Nat) (F : Nat → va_E) (a2 : Int32) (q1 : Nat) (l3_1 : Int32) (l5_2 : Int32) (q0 : Nat) (c1 : Int32) (s1 : Nat → va_E) (s2 : Int32) (k : Nat) (e1 : Nat → va_E) : Prop := ∀ R : (Nat → va_E) → (Int32) → Nat → (Nat → va_E) → Prop,
  (∀ (F_3 : Nat → va_E) (l10_3 : Int32), gB l10_3 0 32 → RS D I P F_3 γ el → rStr γ [] F F_3 → (gIp (a2.toInt = 0) (rGr γ el F q1 (γ 6 (γ 1 q1)) (cB (F_3 (γ 9 3))) (vB (l3_1.toInt : Int).toNat (l5_2.toInt : Int).toNat))) → (F_3 q0 = F q0) → 32 ≤ l10_3.toInt → R F_3 l10_3 243 F_3) →
  (∀ (F_3 : Nat → va_E) (l10_3 : Int32) (x1 : Nat) (x2 : Nat → Int64) (x3 : Int64) (x4 : Nat → Int64) (x5 : Int64) (x6 : Int64) (x7 : Nat → Int64) (x8 : Nat → va_E) (x9 : Int32) (k : Nat) (e1 : Nat → va_E), gB l10_3 0 32 → RS D I P F_3 γ el → rStr γ [] F F_3 → (gIp (a2.toInt = 0) (rGr γ el F q1 (γ 6 (γ 1 q1)) (cB (F_3 (γ 9 3))) (vB (l3_1.toInt : Int).toNat (l5_2.toInt : Int).toNat))) → (F_3 q0 = F q0) → l10_3.toInt < 32 → fR (F_3 q0) 1 = (γ 9 1) → x1 = γ 11 c1.toInt.toNat → F_3 x1 = .inl (I .long, 32, .inr (.inl x2)) → x3 = x2 l10_3.toNatClampNeg → fR (F_3 q0) 2 = (γ 9 2) → F_3 (γ 9 2) = .inl (I .long, 32, .inr (.inl x4)) → x5 = x4 l10_3.toNatClampNeg → x6 = x3 ||| x5 → x7 = vp_updL x2 l10_3.toNatClampNeg x6 → (∀ b, b ≠ x1 → x8 b = F_3 b) → x8 x1 = .inl (I .long, 32, .inr (.inl x7)) → x9.toInt = l10_3.toInt + 1 → R x8 x9 k e1 → R F_3 l10_3 k e1) →
  R s1 s2 k e1
/- tl_RModel_graph_109: F, l5; out: F -/
def tl_RModel_graph_109 (D : va_G) (I : FieldType → ClassId) (γ el : Nat → Nat → Nat) (P : List Nat) (F : Nat → va_E) (c1 : Nat) (a2 : Int32) (q1 : Nat) (l3_1 : Int32) (q0 : Nat) (s1 : Nat → va_E) (s2 : Int32) (k : Nat) (e1 : Nat → va_E) : Prop := ∀ R : (Nat → va_E) → (Int32) → Nat → (Nat → va_E) → Prop,
  (∀ (F_2 : Nat → va_E) (l5_2 : Int32), gB l5_2 (-1) 999999 → RS D I P F_2 γ el → rStr γ [] F F_2 → ((l5_2.toInt : Int) < γ 2 (γ 14 c1)) → (gIp (a2.toInt = 0) (rGr γ el F q1 (γ 6 (γ 1 q1)) (cB (F_2 (γ 9 3))) (vB (l3_1.toInt : Int).toNat (l5_2.toInt + 1 : Int).toNat))) → (F_2 q0 = F q0) → l5_2.toInt < 0 → R F_2 l5_2 290 F_2) →
  (∀ (F_2 : Nat → va_E) (l5_2 : Int32) (x1 : Nat) (x2 : Nat) (x3 : Int32) (x4 : Nat → va_E) (x5 : Int32) (x6 : Int32) (x7 : Int32) (x8 : Int32) (x9 : Nat → va_E) (x10 : Int32) (k : Nat) (e1 : Nat → va_E), gB l5_2 (-1) 999999 → RS D I P F_2 γ el → rStr γ [] F F_2 → ((l5_2.toInt : Int) < γ 2 (γ 14 c1)) → (gIp (a2.toInt = 0) (rGr γ el F q1 (γ 6 (γ 1 q1)) (cB (F_2 (γ 9 3))) (vB (l3_1.toInt : Int).toNat (l5_2.toInt + 1 : Int).toNat))) → (F_2 q0 = F q0) → 0 ≤ l5_2.toInt → fR (F_2 c1) 0 = x1 → x2 = el x1 l5_2.toInt.toNat → fI (F_2 x1) 2 = x3 → tr_RArrayList_get l5_2 x3 → RS D I P x4 γ el → rStr γ [] F_2 x4 → ((gIp (a2.toInt = 0) (∀ n : Nat, rSd (cB (x4 (γ 9 3))) n ↔ (rSd (cB (F_2 (γ 9 3))) n ∨ nmS (F_2 x2) n)))) → (x4 q0 = F_2 q0) → tr_RModel_stand2 D I γ el F_2 q0 x2 a2 x4 → fI (x4 x2) 0 = x5 → fI (x4 x2) 1 = x6 → fI (x4 x2) 4 = x7 → gB x8 (-1) 1999 → tr_RModel_setOf a2 x5 x6 x7 x8 → a2.toInt ≠ 0 → x8.toInt < 0 → RS D I P x9 γ el → rStr γ [] x4 x9 → (x9 q0 = x4 q0) → (x9 (γ 9 3) = x4 (γ 9 3)) → tr_RModel_back3 D I γ el P x4 q0 x2 a2 x9 → x10.toInt = l5_2.toInt + (-1) → R x9 x10 k e1 → R F_2 l5_2 k e1) →
  (∀ (F_2 : Nat → va_E) (l5_2 : Int32) (x1 : Nat) (x2 : Nat) (x3 : Int32) (x4 : Nat → va_E) (x5 : Int32) (x6 : Int32) (x7 : Int32) (x8 : Int32) (x9 : Nat → va_E) (x10 : Nat) (x11 : Nat → Int64) (x12 : Nat → Int64) (x13 : Nat → va_E) (x14 : Nat → va_E) (x15 : Int32) (k : Nat) (e1 : Nat → va_E), gB l5_2 (-1) 999999 → RS D I P F_2 γ el → rStr γ [] F F_2 → ((l5_2.toInt : Int) < γ 2 (γ 14 c1)) → (gIp (a2.toInt = 0) (rGr γ el F q1 (γ 6 (γ 1 q1)) (cB (F_2 (γ 9 3))) (vB (l3_1.toInt : Int).toNat (l5_2.toInt + 1 : Int).toNat))) → (F_2 q0 = F q0) → 0 ≤ l5_2.toInt → fR (F_2 c1) 0 = x1 → x2 = el x1 l5_2.toInt.toNat → fI (F_2 x1) 2 = x3 → tr_RArrayList_get l5_2 x3 → RS D I P x4 γ el → rStr γ [] F_2 x4 → ((gIp (a2.toInt = 0) (∀ n : Nat, rSd (cB (x4 (γ 9 3))) n ↔ (rSd (cB (F_2 (γ 9 3))) n ∨ nmS (F_2 x2) n)))) → (x4 q0 = F_2 q0) → tr_RModel_stand2 D I γ el F_2 q0 x2 a2 x4 → fI (x4 x2) 0 = x5 → fI (x4 x2) 1 = x6 → fI (x4 x2) 4 = x7 → gB x8 (-1) 1999 → tr_RModel_setOf a2 x5 x6 x7 x8 → a2.toInt ≠ 0 → 0 ≤ x8.toInt → tl_RModel_graph_210 D I γ el P F a2 q1 l3_1 l5_2 q0 x8 x4 (0 : Int32) 243 x9 → fR (x9 q0) 1 = (γ 9 1) → x10 = γ 11 x8.toInt.toNat → x9 x10 = .inl (I .long, 32, .inr (.inl x11)) → tr_RModel_clear x8 x11 x12 → rFr [x10] P x9 x13 → x13 x10 = .inl (I .long, 32, .inr (.inl x12)) → RS D I P x13 γ el → RS D I P x14 γ el → rStr γ [] x13 x14 → (x14 q0 = x13 q0) → (x14 (γ 9 3) = x13 (γ 9 3)) → tr_RModel_back3 D I γ el P x13 q0 x2 a2 x14 → x15.toInt = l5_2.toInt + (-1) → R x14 x15 k e1 → R F_2 l5_2 k e1) →
  (∀ (F_2 : Nat → va_E) (l5_2 : Int32) (x1 : Nat) (x2 : Nat) (x3 : Int32) (x4 : Nat → va_E) (x5 : Int32) (x6 : Int32) (x7 : Int32) (x8 : Int32) (x9 : Nat → va_E) (x10 : Int32) (k : Nat) (e1 : Nat → va_E), gB l5_2 (-1) 999999 → RS D I P F_2 γ el → rStr γ [] F F_2 → ((l5_2.toInt : Int) < γ 2 (γ 14 c1)) → (gIp (a2.toInt = 0) (rGr γ el F q1 (γ 6 (γ 1 q1)) (cB (F_2 (γ 9 3))) (vB (l3_1.toInt : Int).toNat (l5_2.toInt + 1 : Int).toNat))) → (F_2 q0 = F q0) → 0 ≤ l5_2.toInt → fR (F_2 c1) 0 = x1 → x2 = el x1 l5_2.toInt.toNat → fI (F_2 x1) 2 = x3 → tr_RArrayList_get l5_2 x3 → RS D I P x4 γ el → rStr γ [] F_2 x4 → ((gIp (a2.toInt = 0) (∀ n : Nat, rSd (cB (x4 (γ 9 3))) n ↔ (rSd (cB (F_2 (γ 9 3))) n ∨ nmS (F_2 x2) n)))) → (x4 q0 = F_2 q0) → tr_RModel_stand2 D I γ el F_2 q0 x2 a2 x4 → fI (x4 x2) 0 = x5 → fI (x4 x2) 1 = x6 → fI (x4 x2) 4 = x7 → gB x8 (-1) 1999 → tr_RModel_setOf a2 x5 x6 x7 x8 → a2.toInt = 0 → x5.toInt ≠ 0 → x8.toInt < 0 → RS D I P x9 γ el → rStr γ [] x4 x9 → (x9 q0 = x4 q0) → (x9 (γ 9 3) = x4 (γ 9 3)) → tr_RModel_back3 D I γ el P x4 q0 x2 a2 x9 → x10.toInt = l5_2.toInt + (-1) → R x9 x10 k e1 → R F_2 l5_2 k e1) →
  (∀ (F_2 : Nat → va_E) (l5_2 : Int32) (x1 : Nat) (x2 : Nat) (x3 : Int32) (x4 : Nat → va_E) (x5 : Int32) (x6 : Int32) (x7 : Int32) (x8 : Int32) (x9 : Nat → va_E) (x10 : Nat) (x11 : Nat → Int64) (x12 : Nat → Int64) (x13 : Nat → va_E) (x14 : Nat → va_E) (x15 : Int32) (k : Nat) (e1 : Nat → va_E), gB l5_2 (-1) 999999 → RS D I P F_2 γ el → rStr γ [] F F_2 → ((l5_2.toInt : Int) < γ 2 (γ 14 c1)) → (gIp (a2.toInt = 0) (rGr γ el F q1 (γ 6 (γ 1 q1)) (cB (F_2 (γ 9 3))) (vB (l3_1.toInt : Int).toNat (l5_2.toInt + 1 : Int).toNat))) → (F_2 q0 = F q0) → 0 ≤ l5_2.toInt → fR (F_2 c1) 0 = x1 → x2 = el x1 l5_2.toInt.toNat → fI (F_2 x1) 2 = x3 → tr_RArrayList_get l5_2 x3 → RS D I P x4 γ el → rStr γ [] F_2 x4 → ((gIp (a2.toInt = 0) (∀ n : Nat, rSd (cB (x4 (γ 9 3))) n ↔ (rSd (cB (F_2 (γ 9 3))) n ∨ nmS (F_2 x2) n)))) → (x4 q0 = F_2 q0) → tr_RModel_stand2 D I γ el F_2 q0 x2 a2 x4 → fI (x4 x2) 0 = x5 → fI (x4 x2) 1 = x6 → fI (x4 x2) 4 = x7 → gB x8 (-1) 1999 → tr_RModel_setOf a2 x5 x6 x7 x8 → a2.toInt = 0 → x5.toInt ≠ 0 → 0 ≤ x8.toInt → tl_RModel_graph_210_2 D I γ el P F a2 q1 l3_1 l5_2 q0 x8 x4 (0 : Int32) 243 x9 → fR (x9 q0) 1 = (γ 9 1) → x10 = γ 11 x8.toInt.toNat → x9 x10 = .inl (I .long, 32, .inr (.inl x11)) → tr_RModel_clear x8 x11 x12 → rFr [x10] P x9 x13 → x13 x10 = .inl (I .long, 32, .inr (.inl x12)) → RS D I P x13 γ el → RS D I P x14 γ el → rStr γ [] x13 x14 → (x14 q0 = x13 q0) → (x14 (γ 9 3) = x13 (γ 9 3)) → tr_RModel_back3 D I γ el P x13 q0 x2 a2 x14 → x15.toInt = l5_2.toInt + (-1) → R x14 x15 k e1 → R F_2 l5_2 k e1) →
  (∀ (F_2 : Nat → va_E) (l5_2 : Int32) (x1 : Nat) (x2 : Nat) (x3 : Int32) (x4 : Nat → va_E) (x5 : Int32) (x6 : Int32) (x7 : Int32) (x8 : Int32) (x9 : Int32) (x10 : Nat → va_E) (x11 : Int32) (k : Nat) (e1 : Nat → va_E), gB l5_2 (-1) 999999 → RS D I P F_2 γ el → rStr γ [] F F_2 → ((l5_2.toInt : Int) < γ 2 (γ 14 c1)) → (gIp (a2.toInt = 0) (rGr γ el F q1 (γ 6 (γ 1 q1)) (cB (F_2 (γ 9 3))) (vB (l3_1.toInt : Int).toNat (l5_2.toInt + 1 : Int).toNat))) → (F_2 q0 = F q0) → 0 ≤ l5_2.toInt → fR (F_2 c1) 0 = x1 → x2 = el x1 l5_2.toInt.toNat → fI (F_2 x1) 2 = x3 → tr_RArrayList_get l5_2 x3 → RS D I P x4 γ el → rStr γ [] F_2 x4 → ((gIp (a2.toInt = 0) (∀ n : Nat, rSd (cB (x4 (γ 9 3))) n ↔ (rSd (cB (F_2 (γ 9 3))) n ∨ nmS (F_2 x2) n)))) → (x4 q0 = F_2 q0) → tr_RModel_stand2 D I γ el F_2 q0 x2 a2 x4 → fI (x4 x2) 0 = x5 → fI (x4 x2) 1 = x6 → fI (x4 x2) 4 = x7 → gB x8 (-1) 1999 → tr_RModel_setOf a2 x5 x6 x7 x8 → a2.toInt = 0 → x5.toInt = 0 → fI (x4 x2) 5 = x9 → x9.toInt = 0 → x8.toInt < 0 → RS D I P x10 γ el → rStr γ [] x4 x10 → (x10 q0 = x4 q0) → (x10 (γ 9 3) = x4 (γ 9 3)) → tr_RModel_back3 D I γ el P x4 q0 x2 a2 x10 → x11.toInt = l5_2.toInt + (-1) → R x10 x11 k e1 → R F_2 l5_2 k e1) →
  (∀ (F_2 : Nat → va_E) (l5_2 : Int32) (x1 : Nat) (x2 : Nat) (x3 : Int32) (x4 : Nat → va_E) (x5 : Int32) (x6 : Int32) (x7 : Int32) (x8 : Int32) (x9 : Int32) (x10 : Nat → va_E) (x11 : Nat) (x12 : Nat → Int64) (x13 : Nat → Int64) (x14 : Nat → va_E) (x15 : Nat → va_E) (x16 : Int32) (k : Nat) (e1 : Nat → va_E), gB l5_2 (-1) 999999 → RS D I P F_2 γ el → rStr γ [] F F_2 → ((l5_2.toInt : Int) < γ 2 (γ 14 c1)) → (gIp (a2.toInt = 0) (rGr γ el F q1 (γ 6 (γ 1 q1)) (cB (F_2 (γ 9 3))) (vB (l3_1.toInt : Int).toNat (l5_2.toInt + 1 : Int).toNat))) → (F_2 q0 = F q0) → 0 ≤ l5_2.toInt → fR (F_2 c1) 0 = x1 → x2 = el x1 l5_2.toInt.toNat → fI (F_2 x1) 2 = x3 → tr_RArrayList_get l5_2 x3 → RS D I P x4 γ el → rStr γ [] F_2 x4 → ((gIp (a2.toInt = 0) (∀ n : Nat, rSd (cB (x4 (γ 9 3))) n ↔ (rSd (cB (F_2 (γ 9 3))) n ∨ nmS (F_2 x2) n)))) → (x4 q0 = F_2 q0) → tr_RModel_stand2 D I γ el F_2 q0 x2 a2 x4 → fI (x4 x2) 0 = x5 → fI (x4 x2) 1 = x6 → fI (x4 x2) 4 = x7 → gB x8 (-1) 1999 → tr_RModel_setOf a2 x5 x6 x7 x8 → a2.toInt = 0 → x5.toInt = 0 → fI (x4 x2) 5 = x9 → x9.toInt = 0 → 0 ≤ x8.toInt → tl_RModel_graph_210_3 D I γ el P F a2 q1 l3_1 l5_2 q0 x8 x4 (0 : Int32) 243 x10 → fR (x10 q0) 1 = (γ 9 1) → x11 = γ 11 x8.toInt.toNat → x10 x11 = .inl (I .long, 32, .inr (.inl x12)) → tr_RModel_clear x8 x12 x13 → rFr [x11] P x10 x14 → x14 x11 = .inl (I .long, 32, .inr (.inl x13)) → RS D I P x14 γ el → RS D I P x15 γ el → rStr γ [] x14 x15 → (x15 q0 = x14 q0) → (x15 (γ 9 3) = x14 (γ 9 3)) → tr_RModel_back3 D I γ el P x14 q0 x2 a2 x15 → x16.toInt = l5_2.toInt + (-1) → R x15 x16 k e1 → R F_2 l5_2 k e1) →
  (∀ (F_2 : Nat → va_E) (l5_2 : Int32) (x1 : Nat) (x2 : Nat) (x3 : Int32) (x4 : Nat → va_E) (x5 : Int32) (x6 : Int32) (x7 : Int32) (x8 : Int32) (x9 : Int32) (x10 : Nat → va_E) (x11 : Int32) (k : Nat) (e1 : Nat → va_E), gB l5_2 (-1) 999999 → RS D I P F_2 γ el → rStr γ [] F F_2 → ((l5_2.toInt : Int) < γ 2 (γ 14 c1)) → (gIp (a2.toInt = 0) (rGr γ el F q1 (γ 6 (γ 1 q1)) (cB (F_2 (γ 9 3))) (vB (l3_1.toInt : Int).toNat (l5_2.toInt + 1 : Int).toNat))) → (F_2 q0 = F q0) → 0 ≤ l5_2.toInt → fR (F_2 c1) 0 = x1 → x2 = el x1 l5_2.toInt.toNat → fI (F_2 x1) 2 = x3 → tr_RArrayList_get l5_2 x3 → RS D I P x4 γ el → rStr γ [] F_2 x4 → ((gIp (a2.toInt = 0) (∀ n : Nat, rSd (cB (x4 (γ 9 3))) n ↔ (rSd (cB (F_2 (γ 9 3))) n ∨ nmS (F_2 x2) n)))) → (x4 q0 = F_2 q0) → tr_RModel_stand2 D I γ el F_2 q0 x2 a2 x4 → fI (x4 x2) 0 = x5 → fI (x4 x2) 1 = x6 → fI (x4 x2) 4 = x7 → gB x8 (-1) 1999 → tr_RModel_setOf a2 x5 x6 x7 x8 → a2.toInt = 0 → x5.toInt = 0 → fI (x4 x2) 5 = x9 → x9.toInt ≠ 0 → x8.toInt < 0 → RS D I P x10 γ el → rStr γ [] x4 x10 → (x10 q0 = x4 q0) → (x10 (γ 9 3) = x4 (γ 9 3)) → tr_RModel_back3 D I γ el P x4 q0 x2 a2 x10 → x11.toInt = l5_2.toInt + (-1) → R x10 x11 k e1 → R F_2 l5_2 k e1) →
  (∀ (F_2 : Nat → va_E) (l5_2 : Int32) (x1 : Nat) (x2 : Nat) (x3 : Int32) (x4 : Nat → va_E) (x5 : Int32) (x6 : Int32) (x7 : Int32) (x8 : Int32) (x9 : Int32) (x10 : Int32) (x11 : Nat → va_E) (x12 : Nat) (x13 : Nat → Int64) (x14 : Nat → Int64) (x15 : Nat → va_E) (x16 : Nat → va_E) (x17 : Int32) (k : Nat) (e1 : Nat → va_E), gB l5_2 (-1) 999999 → RS D I P F_2 γ el → rStr γ [] F F_2 → ((l5_2.toInt : Int) < γ 2 (γ 14 c1)) → (gIp (a2.toInt = 0) (rGr γ el F q1 (γ 6 (γ 1 q1)) (cB (F_2 (γ 9 3))) (vB (l3_1.toInt : Int).toNat (l5_2.toInt + 1 : Int).toNat))) → (F_2 q0 = F q0) → 0 ≤ l5_2.toInt → fR (F_2 c1) 0 = x1 → x2 = el x1 l5_2.toInt.toNat → fI (F_2 x1) 2 = x3 → tr_RArrayList_get l5_2 x3 → RS D I P x4 γ el → rStr γ [] F_2 x4 → ((gIp (a2.toInt = 0) (∀ n : Nat, rSd (cB (x4 (γ 9 3))) n ↔ (rSd (cB (F_2 (γ 9 3))) n ∨ nmS (F_2 x2) n)))) → (x4 q0 = F_2 q0) → tr_RModel_stand2 D I γ el F_2 q0 x2 a2 x4 → fI (x4 x2) 0 = x5 → fI (x4 x2) 1 = x6 → fI (x4 x2) 4 = x7 → gB x8 (-1) 1999 → tr_RModel_setOf a2 x5 x6 x7 x8 → a2.toInt = 0 → x5.toInt = 0 → fI (x4 x2) 5 = x9 → x9.toInt ≠ 0 → fI (x4 x2) 2 = x10 → 0 ≤ x8.toInt → x10.toInt < 0 → tl_RModel_graph_210_4 D I γ el P F a2 q1 l3_1 l5_2 q0 x8 x4 (0 : Int32) 243 x11 → fR (x11 q0) 1 = (γ 9 1) → x12 = γ 11 x8.toInt.toNat → x11 x12 = .inl (I .long, 32, .inr (.inl x13)) → tr_RModel_clear x8 x13 x14 → rFr [x12] P x11 x15 → x15 x12 = .inl (I .long, 32, .inr (.inl x14)) → RS D I P x15 γ el → RS D I P x16 γ el → rStr γ [] x15 x16 → (x16 q0 = x15 q0) → (x16 (γ 9 3) = x15 (γ 9 3)) → tr_RModel_back3 D I γ el P x15 q0 x2 a2 x16 → x17.toInt = l5_2.toInt + (-1) → R x16 x17 k e1 → R F_2 l5_2 k e1) →
  (∀ (F_2 : Nat → va_E) (l5_2 : Int32) (x1 : Nat) (x2 : Nat) (x3 : Int32) (x4 : Nat → va_E) (x5 : Int32) (x6 : Int32) (x7 : Int32) (x8 : Int32) (x9 : Int32) (x10 : Int32) (x11 : Nat) (x12 : Nat → Int64) (x13 : Nat → va_E) (x14 : Nat) (x15 : Nat → Int64) (x16 : Nat → Int64) (x17 : Nat → va_E) (x18 : Nat) (x19 : Nat → Int64) (x20 : Nat → Int64) (x21 : Nat → va_E) (x22 : Nat → va_E) (x23 : Int32) (k : Nat) (e1 : Nat → va_E), gB l5_2 (-1) 999999 → RS D I P F_2 γ el → rStr γ [] F F_2 → ((l5_2.toInt : Int) < γ 2 (γ 14 c1)) → (gIp (a2.toInt = 0) (rGr γ el F q1 (γ 6 (γ 1 q1)) (cB (F_2 (γ 9 3))) (vB (l3_1.toInt : Int).toNat (l5_2.toInt + 1 : Int).toNat))) → (F_2 q0 = F q0) → 0 ≤ l5_2.toInt → fR (F_2 c1) 0 = x1 → x2 = el x1 l5_2.toInt.toNat → fI (F_2 x1) 2 = x3 → tr_RArrayList_get l5_2 x3 → RS D I P x4 γ el → rStr γ [] F_2 x4 → ((gIp (a2.toInt = 0) (∀ n : Nat, rSd (cB (x4 (γ 9 3))) n ↔ (rSd (cB (F_2 (γ 9 3))) n ∨ nmS (F_2 x2) n)))) → (x4 q0 = F_2 q0) → tr_RModel_stand2 D I γ el F_2 q0 x2 a2 x4 → fI (x4 x2) 0 = x5 → fI (x4 x2) 1 = x6 → fI (x4 x2) 4 = x7 → gB x8 (-1) 1999 → tr_RModel_setOf a2 x5 x6 x7 x8 → a2.toInt = 0 → x5.toInt = 0 → fI (x4 x2) 5 = x9 → x9.toInt ≠ 0 → fI (x4 x2) 2 = x10 → 0 ≤ x8.toInt → 0 ≤ x10.toInt → fR (x4 q0) 1 = (γ 9 1) → x11 = γ 11 x8.toInt.toNat → x4 x11 = .inl (I .long, 32, .inr (.inl x12)) → tr_RModel_has x10 x12 (0 : Int32) → tl_RModel_graph_210_5 D I γ el P F a2 q1 l3_1 l5_2 q0 x8 x4 (0 : Int32) 243 x13 → fR (x13 q0) 1 = (γ 9 1) → x14 = γ 11 x8.toInt.toNat → x13 x14 = .inl (I .long, 32, .inr (.inl x15)) → tr_RModel_clear x10 x15 x16 → rFr [x14] P x13 x17 → x17 x14 = .inl (I .long, 32, .inr (.inl x16)) → RS D I P x17 γ el → fR (x17 q0) 1 = (γ 9 1) → x18 = γ 11 x8.toInt.toNat → x17 x18 = .inl (I .long, 32, .inr (.inl x19)) → tr_RModel_clear x8 x19 x20 → rFr [x18] P x17 x21 → x21 x18 = .inl (I .long, 32, .inr (.inl x20)) → RS D I P x21 γ el → RS D I P x22 γ el → rStr γ [] x21 x22 → (x22 q0 = x21 q0) → (x22 (γ 9 3) = x21 (γ 9 3)) → tr_RModel_back3 D I γ el P x21 q0 x2 a2 x22 → x23.toInt = l5_2.toInt + (-1) → R x22 x23 k e1 → R F_2 l5_2 k e1) →
  (∀ (F_2 : Nat → va_E) (l5_2 : Int32) (x1 : Nat) (x2 : Nat) (x3 : Int32) (x4 : Nat → va_E) (x5 : Int32) (x6 : Int32) (x7 : Int32) (x8 : Int32) (x9 : Int32) (x10 : Int32) (x11 : Nat) (x12 : Nat → Int64) (x13 : Nat → va_E) (x14 : Nat) (x15 : Nat → Int64) (x16 : Nat → Int64) (x17 : Nat → va_E) (x18 : Nat → va_E) (x19 : Int32) (k : Nat) (e1 : Nat → va_E), gB l5_2 (-1) 999999 → RS D I P F_2 γ el → rStr γ [] F F_2 → ((l5_2.toInt : Int) < γ 2 (γ 14 c1)) → (gIp (a2.toInt = 0) (rGr γ el F q1 (γ 6 (γ 1 q1)) (cB (F_2 (γ 9 3))) (vB (l3_1.toInt : Int).toNat (l5_2.toInt + 1 : Int).toNat))) → (F_2 q0 = F q0) → 0 ≤ l5_2.toInt → fR (F_2 c1) 0 = x1 → x2 = el x1 l5_2.toInt.toNat → fI (F_2 x1) 2 = x3 → tr_RArrayList_get l5_2 x3 → RS D I P x4 γ el → rStr γ [] F_2 x4 → ((gIp (a2.toInt = 0) (∀ n : Nat, rSd (cB (x4 (γ 9 3))) n ↔ (rSd (cB (F_2 (γ 9 3))) n ∨ nmS (F_2 x2) n)))) → (x4 q0 = F_2 q0) → tr_RModel_stand2 D I γ el F_2 q0 x2 a2 x4 → fI (x4 x2) 0 = x5 → fI (x4 x2) 1 = x6 → fI (x4 x2) 4 = x7 → gB x8 (-1) 1999 → tr_RModel_setOf a2 x5 x6 x7 x8 → a2.toInt = 0 → x5.toInt = 0 → fI (x4 x2) 5 = x9 → x9.toInt ≠ 0 → fI (x4 x2) 2 = x10 → 0 ≤ x8.toInt → 0 ≤ x10.toInt → fR (x4 q0) 1 = (γ 9 1) → x11 = γ 11 x8.toInt.toNat → x4 x11 = .inl (I .long, 32, .inr (.inl x12)) → tr_RModel_has x10 x12 (1 : Int32) → tl_RModel_graph_210_6 D I γ el P F a2 q1 l3_1 l5_2 q0 x8 x4 (0 : Int32) 243 x13 → fR (x13 q0) 1 = (γ 9 1) → x14 = γ 11 x8.toInt.toNat → x13 x14 = .inl (I .long, 32, .inr (.inl x15)) → tr_RModel_clear x8 x15 x16 → rFr [x14] P x13 x17 → x17 x14 = .inl (I .long, 32, .inr (.inl x16)) → RS D I P x17 γ el → RS D I P x18 γ el → rStr γ [] x17 x18 → (x18 q0 = x17 q0) → (x18 (γ 9 3) = x17 (γ 9 3)) → tr_RModel_back3 D I γ el P x17 q0 x2 a2 x18 → x19.toInt = l5_2.toInt + (-1) → R x18 x19 k e1 → R F_2 l5_2 k e1) →
  R s1 s2 k e1
/- tl_RModel_graph_56: F, l3; out: F -/
def tl_RModel_graph_56 (D : va_G) (I : FieldType → ClassId) (γ el : Nat → Nat → Nat) (P : List Nat) (F : Nat → va_E) (a2 : Int32) (q1 : Nat) (q0 : Nat) (s1 : Nat → va_E) (s2 : Int32) (k : Nat) (e1 : Nat → va_E) : Prop := ∀ R : (Nat → va_E) → (Int32) → Nat → (Nat → va_E) → Prop,
  (∀ (F_1 : Nat → va_E) (l3_1 : Int32) (x1 : Int32), gB l3_1 0 1000000 → RS D I P F_1 γ el → rStr γ [] F F_1 → (gIp (a2.toInt = 0) (rGr γ el F q1 (γ 6 (γ 1 q1)) (cB (F_1 (γ 9 3))) (vA (l3_1.toInt : Int).toNat))) → (F_1 q0 = F q0) → fI (F_1 q1) 3 = x1 → x1.toInt ≤ l3_1.toInt → R F_1 l3_1 296 F_1) →
  (∀ (F_1 : Nat → va_E) (l3_1 : Int32) (x1 : Int32) (x2 : Nat) (x3 : Nat) (x4 : Int32) (x5 : Nat → va_E) (x6 : Nat) (x7 : Nat → va_E) (x8 : Nat → va_E) (x9 : Nat) (x10 : Int32) (x11 : Int32) (x12 : Nat → va_E) (x13 : Int32) (k : Nat) (e1 : Nat → va_E), gB l3_1 0 1000000 → RS D I P F_1 γ el → rStr γ [] F F_1 → (gIp (a2.toInt = 0) (rGr γ el F q1 (γ 6 (γ 1 q1)) (cB (F_1 (γ 9 3))) (vA (l3_1.toInt : Int).toNat))) → (F_1 q0 = F q0) → fI (F_1 q1) 3 = x1 → l3_1.toInt < x1.toInt → fR (F_1 q1) 0 = x2 → x3 = el x2 l3_1.toInt.toNat → fI (F_1 x2) 2 = x4 → tr_RCode_get l3_1 x4 → RS D I P x5 γ el → rStr γ [] F_1 x5 → (x5 q0 = F_1 q0) → (x5 (γ 9 3) = F_1 (γ 9 3)) → tr_RModel_behind3 D I γ el P F_1 q0 x3 x5 → fR (x5 x3) 1 = x6 → RS D I P x7 γ el → rStr γ [] x5 x7 → ((gIp (a2.toInt = 0) (∀ n : Nat, rSd (cB (x7 (γ 9 3))) n ↔ (rSd (cB (x5 (γ 9 3))) n ∨ nmS (x5 x6) n)))) → (x7 q0 = x5 q0) → tr_RModel_stand2 D I γ el x5 q0 x6 a2 x7 → fR (x7 x3) 1 = x6 → RS D I P x8 γ el → rStr γ [] x7 x8 → (x8 q0 = x7 q0) → (x8 (γ 9 3) = x7 (γ 9 3)) → tr_RModel_back3 D I γ el P x7 q0 x6 a2 x8 → fR (x8 x3) 0 = x9 → x10.toInt = (γ 2 x9 : Int) → fI (x8 x9) 2 = x10 → x11.toInt = x10.toInt - 1 → tl_RModel_graph_109 D I γ el P F x3 a2 q1 l3_1 q0 x8 x11 290 x12 → x13.toInt = l3_1.toInt + 1 → R x12 x13 k e1 → R F_1 l3_1 k e1) →
  R s1 s2 k e1
/- tl_RModel_graph_25: F, l4; out: F -/
def tl_RModel_graph_25 (D : va_G) (I : FieldType → ClassId) (γ el : Nat → Nat → Nat) (P : List Nat) (F : Nat → va_E) (l3_1 : Int32) (q0 : Nat) (s1 : Nat → va_E) (s2 : Int32) (k : Nat) (e1 : Nat → va_E) : Prop := ∀ R : (Nat → va_E) → (Int32) → Nat → (Nat → va_E) → Prop,
  (∀ (F_2 : Nat → va_E) (l4_2 : Int32), gB l4_2 0 32 → RS D I P F_2 γ el → rStr γ [] F F_2 → ((∀ n : Nat, (n : Int) < l3_1.toInt + 1 → ¬ rSd (cB (F_2 (γ 9 3))) n)) → (F_2 q0 = F q0) → 32 ≤ l4_2.toInt → R F_2 l4_2 48 F_2) →
  (∀ (F_2 : Nat → va_E) (l4_2 : Int32) (x1 : Nat) (x2 : Nat → Int64) (x3 : Nat → Int64) (x4 : Nat → va_E) (x5 : Int32) (k : Nat) (e1 : Nat → va_E), gB l4_2 0 32 → RS D I P F_2 γ el → rStr γ [] F F_2 → ((∀ n : Nat, (n : Int) < l3_1.toInt + 1 → ¬ rSd (cB (F_2 (γ 9 3))) n)) → (F_2 q0 = F q0) → l4_2.toInt < 32 → fR (F_2 q0) 1 = (γ 9 1) → x1 = γ 11 l3_1.toInt.toNat → F_2 x1 = .inl (I .long, 32, .inr (.inl x2)) → x3 = vp_updL x2 l4_2.toNatClampNeg 0 → (∀ b, b ≠ x1 → x4 b = F_2 b) → x4 x1 = .inl (I .long, 32, .inr (.inl x3)) → x5.toInt = l4_2.toInt + 1 → R x4 x5 k e1 → R F_2 l4_2 k e1) →
  R s1 s2 k e1
/- tl_RModel_graph_8: F, l3; out: F -/
def tl_RModel_graph_8 (D : va_G) (I : FieldType → ClassId) (γ el : Nat → Nat → Nat) (P : List Nat) (F : Nat → va_E) (q0 : Nat) (s1 : Nat → va_E) (s2 : Int32) (k : Nat) (e1 : Nat → va_E) : Prop := ∀ R : (Nat → va_E) → (Int32) → Nat → (Nat → va_E) → Prop,
  (∀ (F_1 : Nat → va_E) (l3_1 : Int32), gB l3_1 0 2000 → RS D I P F_1 γ el → rStr γ [] F F_1 → ((∀ n : Nat, (n : Int) < l3_1.toInt → ¬ rSd (cB (F_1 (γ 9 3))) n)) → (F_1 q0 = F q0) → 2000 ≤ l3_1.toInt → R F_1 l3_1 54 F_1) →
  (∀ (F_1 : Nat → va_E) (l3_1 : Int32) (x1 : Nat → Int32) (x2 : Nat → Int32) (x3 : Nat → va_E) (x4 : Nat → va_E) (x5 : Int32) (k : Nat) (e1 : Nat → va_E), gB l3_1 0 2000 → RS D I P F_1 γ el → rStr γ [] F F_1 → ((∀ n : Nat, (n : Int) < l3_1.toInt → ¬ rSd (cB (F_1 (γ 9 3))) n)) → (F_1 q0 = F q0) → l3_1.toInt < 2000 → fR (F_1 q0) 3 = (γ 9 3) → F_1 (γ 9 3) = .inl (I .boolean, 2000, .inl x1) → x2 = upd x1 l3_1.toNatClampNeg (vp_nar .boolean 0) → (∀ b, b ≠ (γ 9 3) → x3 b = F_1 b) → x3 (γ 9 3) = .inl (I .boolean, 2000, .inl x2) → tl_RModel_graph_25 D I γ el P F l3_1 q0 x3 (0 : Int32) 48 x4 → x5.toInt = l3_1.toInt + 1 → R x4 x5 k e1 → R F_1 l3_1 k e1) →
  R s1 s2 k e1
/- tr_RModel_graph: F -/
def tr_RModel_graph (D : va_G) (I : FieldType → ClassId) (γ el : Nat → Nat → Nat) (P : List Nat) (F : Nat → va_E) (q0 : Nat) (q1 : Nat) (a2 : Int32) (o1 : Nat → va_E) : Prop := ∀ R : (Nat → va_E) → Prop,
  (∀ (x1 : Nat → va_E) (x2 : Nat → va_E) (x3 : Nat → va_E) (x4 : Nat → va_E), RS D I P x1 γ el → rStr γ [] F x1 → (x1 q0 = F q0) → tr_RModel_findLive D I γ el P F q0 q1 a2 x1 → tl_RModel_graph_8 D I γ el P F q0 x1 (0 : Int32) 54 x2 → tl_RModel_graph_56 D I γ el P F a2 q1 q0 x2 (0 : Int32) 296 x3 → tl_RModel_graph_298 D I γ el P F a2 q1 q0 x3 (0 : Int32) 389 x4 → R x4) →
  R o1
end
section
theorem dr_cX17_graph_0 : decode cX17_graph 0 = .ok (.aload_n 0, 1) := by decide +kernel
theorem dr_cX17_graph_1 : decode cX17_graph 1 = .ok (.aload_n 1, 1) := by decide +kernel
theorem dr_cX17_graph_2 : decode cX17_graph 2 = .ok (.iload_n 2, 1) := by decide +kernel
theorem dr_cX17_graph_3 : decode cX17_graph 3 = .ok (.invokevirtual 127, 3) := by decide +kernel
theorem wr_10_156 : (Jvm.Cond.methodLink "SpillForgeModel" (127 : Nat) ({ cls := "SpillForgeModel", name := "findLive", desc := "(LSpillForgeModel$Code;Z)V" } : Jvm.MethodName)) ∈ gw := gw_10 156 rfl rfl
theorem wr_10_159 : (Jvm.Cond.code ({ cls := "SpillForgeModel", name := "findLive", desc := "(LSpillForgeModel$Code;Z)V" } : Jvm.MethodName) prog_14_method_9_code (7 : Nat) (Option.none : Option Jvm.ClassFile.FieldType)) ∈ gw := gw_10 159 rfl rfl
theorem wr_10_158 : (Jvm.Cond.instanceMethod ({ cls := "SpillForgeModel", name := "findLive", desc := "(LSpillForgeModel$Code;Z)V" } : Jvm.MethodName)) ∈ gw := gw_10 158 rfl rfl
theorem wr_p_94 : Cond.selects "SpillForgeModel" ⟨"SpillForgeModel", "findLive", "(LSpillForgeModel$Code;Z)V"⟩ ⟨"SpillForgeModel", "findLive", "(LSpillForgeModel$Code;Z)V"⟩ ∈ gw := gw_p _ 94 rfl rfl rfl
theorem dr_cX17_graph_6 : decode cX17_graph 6 = .ok (.iconst 0, 1) := by decide +kernel
theorem dr_cX17_graph_7 : decode cX17_graph 7 = .ok (.istore_n 3, 1) := by decide +kernel
theorem dr_cX17_graph_8 : decode cX17_graph 8 = .ok (.iload_n 3, 1) := by decide +kernel
theorem dr_cX17_graph_9 : decode cX17_graph 9 = .ok (.sipush 2000, 3) := by decide +kernel
theorem dr_cX17_graph_12 : decode cX17_graph 12 = .ok (.if_icmp .ge 42, 3) := by decide +kernel
theorem dr_cX17_graph_54 : decode cX17_graph 54 = .ok (.iconst 0, 1) := by decide +kernel
theorem dr_cX17_graph_55 : decode cX17_graph 55 = .ok (.istore_n 3, 1) := by decide +kernel
theorem dr_cX17_graph_56 : decode cX17_graph 56 = .ok (.iload_n 3, 1) := by decide +kernel
theorem dr_cX17_graph_57 : decode cX17_graph 57 = .ok (.aload_n 1, 1) := by decide +kernel
theorem dr_cX17_graph_58 : decode cX17_graph 58 = .ok (.invokevirtual 96, 3) := by decide +kernel
theorem dr_cX17_graph_61 : decode cX17_graph 61 = .ok (.if_icmp .ge 235, 3) := by decide +kernel
theorem dr_cX17_graph_296 : decode cX17_graph 296 = .ok (.iconst 0, 1) := by decide +kernel
theorem dr_cX17_graph_297 : decode cX17_graph 297 = .ok (.istore_n 3, 1) := by decide +kernel
theorem dr_cX17_graph_298 : decode cX17_graph 298 = .ok (.iload_n 3, 1) := by decide +kernel
theorem dr_cX17_graph_299 : decode cX17_graph 299 = .ok (.sipush 2000, 3) := by decide +kernel
theorem dr_cX17_graph_302 : decode cX17_graph 302 = .ok (.if_icmp .ge 87, 3) := by decide +kernel
theorem dr_cX17_graph_389 : decode cX17_graph 389 = .ok (.return_, 1) := by decide +kernel
theorem dr_cX17_graph_305 : decode cX17_graph 305 = .ok (.aload_n 0, 1) := by decide +kernel
theorem dr_cX17_graph_306 : decode cX17_graph 306 = .ok (.getfield 131, 3) := by decide +kernel
theorem dr_cX17_graph_309 : decode cX17_graph 309 = .ok (.iload_n 3, 1) := by decide +kernel
theorem dr_cX17_graph_310 : decode cX17_graph 310 = .ok (.baload, 1) := by decide +kernel
theorem dr_cX17_graph_311 : decode cX17_graph 311 = .ok (.ifCond .ne 6, 3) := by decide +kernel
theorem dr_cX17_graph_317 : decode cX17_graph 317 = .ok (.iconst 0, 1) := by decide +kernel
theorem dr_cX17_graph_318 : decode cX17_graph 318 = .ok (.istore 4, 2) := by decide +kernel
theorem dr_cX17_graph_320 : decode cX17_graph 320 = .ok (.iload 4, 2) := by decide +kernel
theorem dr_cX17_graph_322 : decode cX17_graph 322 = .ok (.bipush 32, 2) := by decide +kernel
theorem dr_cX17_graph_324 : decode cX17_graph 324 = .ok (.if_icmp .ge 59, 3) := by decide +kernel
theorem dr_cX17_graph_383 : decode cX17_graph 383 = .ok (.iinc 3 1, 3) := by decide +kernel
theorem dr_cX17_graph_386 : decode cX17_graph 386 = .ok (.goto (-88), 3) := by decide +kernel
theorem dr_cX17_graph_327 : decode cX17_graph 327 = .ok (.aload_n 0, 1) := by decide +kernel
theorem dr_cX17_graph_328 : decode cX17_graph 328 = .ok (.getfield 135, 3) := by decide +kernel
theorem dr_cX17_graph_331 : decode cX17_graph 331 = .ok (.iload_n 3, 1) := by decide +kernel
theorem dr_cX17_graph_332 : decode cX17_graph 332 = .ok (.aaload, 1) := by decide +kernel
theorem dr_cX17_graph_333 : decode cX17_graph 333 = .ok (.iload 4, 2) := by decide +kernel
theorem dr_cX17_graph_335 : decode cX17_graph 335 = .ok (.laload, 1) := by decide +kernel
theorem dr_cX17_graph_336 : decode cX17_graph 336 = .ok (.lstore 5, 2) := by decide +kernel
theorem dr_cX17_graph_338 : decode cX17_graph 338 = .ok (.lload 5, 2) := by decide +kernel
theorem dr_cX17_graph_340 : decode cX17_graph 340 = .ok (.lconst 0, 1) := by decide +kernel
theorem dr_cX17_graph_341 : decode cX17_graph 341 = .ok (.lcmp, 1) := by decide +kernel
theorem dr_cX17_graph_342 : decode cX17_graph 342 = .ok (.ifCond .eq 35, 3) := by decide +kernel
theorem dr_cX17_graph_377 : decode cX17_graph 377 = .ok (.iinc 4 1, 3) := by decide +kernel
theorem dr_cX17_graph_380 : decode cX17_graph 380 = .ok (.goto (-60), 3) := by decide +kernel
theorem dr_cX17_graph_345 : decode cX17_graph 345 = .ok (.aload_n 0, 1) := by decide +kernel
theorem dr_cX17_graph_346 : decode cX17_graph 346 = .ok (.getfield 135, 3) := by decide +kernel
theorem dr_cX17_graph_349 : decode cX17_graph 349 = .ok (.bipush 64, 2) := by decide +kernel
theorem dr_cX17_graph_351 : decode cX17_graph 351 = .ok (.iload 4, 2) := by decide +kernel
theorem dr_cX17_graph_353 : decode cX17_graph 353 = .ok (.imul, 1) := by decide +kernel
theorem dr_cX17_graph_354 : decode cX17_graph 354 = .ok (.lload 5, 2) := by decide +kernel
theorem dr_cX17_graph_356 : decode cX17_graph 356 = .ok (.invokestatic 149, 3) := by decide +kernel
theorem wr_11_1 : (Jvm.Cond.methodLink "SpillForgeModel" (149 : Nat) ({ cls := "java/lang/Long", name := "numberOfTrailingZeros", desc := "(J)I" } : Jvm.MethodName)) ∈ gw := gw_11 1 rfl rfl
theorem wr_11_3 : (Jvm.Cond.code ({ cls := "java/lang/Long", name := "numberOfTrailingZeros", desc := "(J)I" } : Jvm.MethodName) prog_31_method_49_code (3 : Nat) (Option.some Jvm.ClassFile.FieldType.int)) ∈ gw := gw_11 3 rfl rfl
theorem wr_11_2 : (Jvm.Cond.static ({ cls := "java/lang/Long", name := "numberOfTrailingZeros", desc := "(J)I" } : Jvm.MethodName)) ∈ gw := gw_11 2 rfl rfl
theorem dr_cX17_graph_359 : decode cX17_graph 359 = .ok (.iadd, 1) := by decide +kernel
theorem dr_cX17_graph_360 : decode cX17_graph 360 = .ok (.aaload, 1) := by decide +kernel
theorem dr_cX17_graph_361 : decode cX17_graph 361 = .ok (.iload_n 3, 1) := by decide +kernel
theorem dr_cX17_graph_362 : decode cX17_graph 362 = .ok (.invokestatic 67, 3) := by decide +kernel
theorem dr_cX17_graph_365 : decode cX17_graph 365 = .ok (.lload 5, 2) := by decide +kernel
theorem dr_cX17_graph_367 : decode cX17_graph 367 = .ok (.lload 5, 2) := by decide +kernel
theorem dr_cX17_graph_369 : decode cX17_graph 369 = .ok (.lconst 1, 1) := by decide +kernel
theorem dr_cX17_graph_370 : decode cX17_graph 370 = .ok (.lsub, 1) := by decide +kernel
theorem dr_cX17_graph_371 : decode cX17_graph 371 = .ok (.land, 1) := by decide +kernel
theorem dr_cX17_graph_372 : decode cX17_graph 372 = .ok (.lstore 5, 2) := by decide +kernel
theorem dr_cX17_graph_374 : decode cX17_graph 374 = .ok (.goto (-36), 3) := by decide +kernel
theorem dr_cX17_graph_314 : decode cX17_graph 314 = .ok (.goto 69, 3) := by decide +kernel
theorem dr_cX17_graph_64 : decode cX17_graph 64 = .ok (.aload_n 1, 1) := by decide +kernel
theorem dr_cX17_graph_65 : decode cX17_graph 65 = .ok (.iload_n 3, 1) := by decide +kernel
theorem dr_cX17_graph_66 : decode cX17_graph 66 = .ok (.invokevirtual 101, 3) := by decide +kernel
theorem dr_cX17_graph_69 : decode cX17_graph 69 = .ok (.astore 4, 2) := by decide +kernel
theorem dr_cX17_graph_71 : decode cX17_graph 71 = .ok (.aload_n 0, 1) := by decide +kernel
theorem dr_cX17_graph_72 : decode cX17_graph 72 = .ok (.aload 4, 2) := by decide +kernel
theorem dr_cX17_graph_74 : decode cX17_graph 74 = .ok (.invokevirtual 105, 3) := by decide +kernel
theorem dr_cX17_graph_77 : decode cX17_graph 77 = .ok (.aload_n 0, 1) := by decide +kernel
theorem dr_cX17_graph_78 : decode cX17_graph 78 = .ok (.aload 4, 2) := by decide +kernel
theorem dr_cX17_graph_80 : decode cX17_graph 80 = .ok (.getfield 109, 3) := by decide +kernel
theorem dr_cX17_graph_83 : decode cX17_graph 83 = .ok (.iload_n 2, 1) := by decide +kernel
theorem dr_cX17_graph_84 : decode cX17_graph 84 = .ok (.invokevirtual 138, 3) := by decide +kernel
theorem wr_10_237 : (Jvm.Cond.methodLink "SpillForgeModel" (138 : Nat) ({ cls := "SpillForgeModel", name := "stand", desc := "(LSpillForgeModel$Row;Z)V" } : Jvm.MethodName)) ∈ gw := gw_10 237 rfl rfl
theorem wr_11_0 : (Jvm.Cond.code ({ cls := "SpillForgeModel", name := "stand", desc := "(LSpillForgeModel$Row;Z)V" } : Jvm.MethodName) prog_14_method_11_code (4 : Nat) (Option.none : Option Jvm.ClassFile.FieldType)) ∈ gw := gw_11 0 rfl rfl
theorem wr_10_239 : (Jvm.Cond.instanceMethod ({ cls := "SpillForgeModel", name := "stand", desc := "(LSpillForgeModel$Row;Z)V" } : Jvm.MethodName)) ∈ gw := gw_10 239 rfl rfl
theorem wr_p_100 : Cond.selects "SpillForgeModel" ⟨"SpillForgeModel", "stand", "(LSpillForgeModel$Row;Z)V"⟩ ⟨"SpillForgeModel", "stand", "(LSpillForgeModel$Row;Z)V"⟩ ∈ gw := gw_p _ 100 rfl rfl rfl
theorem dr_cX17_graph_87 : decode cX17_graph 87 = .ok (.aload_n 0, 1) := by decide +kernel
theorem dr_cX17_graph_88 : decode cX17_graph 88 = .ok (.aload 4, 2) := by decide +kernel
theorem dr_cX17_graph_90 : decode cX17_graph 90 = .ok (.getfield 109, 3) := by decide +kernel
theorem dr_cX17_graph_93 : decode cX17_graph 93 = .ok (.iload_n 2, 1) := by decide +kernel
theorem dr_cX17_graph_94 : decode cX17_graph 94 = .ok (.invokevirtual 113, 3) := by decide +kernel
theorem dr_cX17_graph_97 : decode cX17_graph 97 = .ok (.aload 4, 2) := by decide +kernel
theorem dr_cX17_graph_99 : decode cX17_graph 99 = .ok (.getfield 117, 3) := by decide +kernel
theorem dr_cX17_graph_102 : decode cX17_graph 102 = .ok (.invokevirtual 121, 3) := by decide +kernel
theorem dr_cX17_graph_105 : decode cX17_graph 105 = .ok (.iconst 1, 1) := by decide +kernel
theorem dr_cX17_graph_106 : decode cX17_graph 106 = .ok (.isub, 1) := by decide +kernel
theorem dr_cX17_graph_107 : decode cX17_graph 107 = .ok (.istore 5, 2) := by decide +kernel
theorem dr_cX17_graph_109 : decode cX17_graph 109 = .ok (.iload 5, 2) := by decide +kernel
theorem dr_cX17_graph_111 : decode cX17_graph 111 = .ok (.ifCond .lt 179, 3) := by decide +kernel
theorem dr_cX17_graph_290 : decode cX17_graph 290 = .ok (.iinc 3 1, 3) := by decide +kernel
theorem dr_cX17_graph_293 : decode cX17_graph 293 = .ok (.goto (-237), 3) := by decide +kernel
theorem dr_cX17_graph_114 : decode cX17_graph 114 = .ok (.aload 4, 2) := by decide +kernel
theorem dr_cX17_graph_116 : decode cX17_graph 116 = .ok (.getfield 117, 3) := by decide +kernel
theorem dr_cX17_graph_119 : decode cX17_graph 119 = .ok (.iload 5, 2) := by decide +kernel
theorem dr_cX17_graph_121 : decode cX17_graph 121 = .ok (.invokevirtual 124, 3) := by decide +kernel
theorem dr_cX17_graph_124 : decode cX17_graph 124 = .ok (.checkcast 40, 3) := by decide +kernel
theorem dr_cX17_graph_127 : decode cX17_graph 127 = .ok (.astore 6, 2) := by decide +kernel
theorem dr_cX17_graph_129 : decode cX17_graph 129 = .ok (.aload_n 0, 1) := by decide +kernel
theorem dr_cX17_graph_130 : decode cX17_graph 130 = .ok (.aload 6, 2) := by decide +kernel
theorem dr_cX17_graph_132 : decode cX17_graph 132 = .ok (.iload_n 2, 1) := by decide +kernel
theorem dr_cX17_graph_133 : decode cX17_graph 133 = .ok (.invokevirtual 138, 3) := by decide +kernel
theorem dr_cX17_graph_136 : decode cX17_graph 136 = .ok (.aload 6, 2) := by decide +kernel
theorem dr_cX17_graph_138 : decode cX17_graph 138 = .ok (.iload_n 2, 1) := by decide +kernel
theorem dr_cX17_graph_139 : decode cX17_graph 139 = .ok (.invokestatic 55, 3) := by decide +kernel
theorem dr_cX17_graph_142 : decode cX17_graph 142 = .ok (.istore 7, 2) := by decide +kernel
theorem dr_cX17_graph_144 : decode cX17_graph 144 = .ok (.iload_n 2, 1) := by decide +kernel
theorem dr_cX17_graph_145 : decode cX17_graph 145 = .ok (.ifCond .ne 27, 3) := by decide +kernel
theorem dr_cX17_graph_172 : decode cX17_graph 172 = .ok (.iconst (-1), 1) := by decide +kernel
theorem dr_cX17_graph_173 : decode cX17_graph 173 = .ok (.istore 8, 2) := by decide +kernel
theorem dr_cX17_graph_175 : decode cX17_graph 175 = .ok (.iload 7, 2) := by decide +kernel
theorem dr_cX17_graph_177 : decode cX17_graph 177 = .ok (.ifCond .lt 100, 3) := by decide +kernel
theorem dr_cX17_graph_277 : decode cX17_graph 277 = .ok (.aload_n 0, 1) := by decide +kernel
theorem dr_cX17_graph_278 : decode cX17_graph 278 = .ok (.aload 6, 2) := by decide +kernel
theorem dr_cX17_graph_280 : decode cX17_graph 280 = .ok (.iload_n 2, 1) := by decide +kernel
theorem dr_cX17_graph_281 : decode cX17_graph 281 = .ok (.invokevirtual 113, 3) := by decide +kernel
theorem dr_cX17_graph_284 : decode cX17_graph 284 = .ok (.iinc 5 (-1), 3) := by decide +kernel
theorem dr_cX17_graph_287 : decode cX17_graph 287 = .ok (.goto (-178), 3) := by decide +kernel
theorem dr_cX17_graph_180 : decode cX17_graph 180 = .ok (.iload 8, 2) := by decide +kernel
theorem dr_cX17_graph_182 : decode cX17_graph 182 = .ok (.ifCond .lt 22, 3) := by decide +kernel
theorem dr_cX17_graph_204 : decode cX17_graph 204 = .ok (.iconst 0, 1) := by decide +kernel
theorem dr_cX17_graph_205 : decode cX17_graph 205 = .ok (.istore 9, 2) := by decide +kernel
theorem dr_cX17_graph_207 : decode cX17_graph 207 = .ok (.iconst 0, 1) := by decide +kernel
theorem dr_cX17_graph_208 : decode cX17_graph 208 = .ok (.istore 10, 2) := by decide +kernel
theorem dr_cX17_graph_210 : decode cX17_graph 210 = .ok (.iload 10, 2) := by decide +kernel
theorem dr_cX17_graph_212 : decode cX17_graph 212 = .ok (.bipush 32, 2) := by decide +kernel
theorem dr_cX17_graph_214 : decode cX17_graph 214 = .ok (.if_icmp .ge 29, 3) := by decide +kernel
theorem dr_cX17_graph_243 : decode cX17_graph 243 = .ok (.iload 8, 2) := by decide +kernel
theorem dr_cX17_graph_245 : decode cX17_graph 245 = .ok (.ifCond .lt 20, 3) := by decide +kernel
theorem dr_cX17_graph_265 : decode cX17_graph 265 = .ok (.aload_n 0, 1) := by decide +kernel
theorem dr_cX17_graph_266 : decode cX17_graph 266 = .ok (.getfield 135, 3) := by decide +kernel
theorem dr_cX17_graph_269 : decode cX17_graph 269 = .ok (.iload 7, 2) := by decide +kernel
theorem dr_cX17_graph_271 : decode cX17_graph 271 = .ok (.aaload, 1) := by decide +kernel
theorem dr_cX17_graph_272 : decode cX17_graph 272 = .ok (.iload 7, 2) := by decide +kernel
theorem dr_cX17_graph_274 : decode cX17_graph 274 = .ok (.invokestatic 63, 3) := by decide +kernel
theorem dr_cX17_graph_217 : decode cX17_graph 217 = .ok (.aload_n 0, 1) := by decide +kernel
theorem dr_cX17_graph_218 : decode cX17_graph 218 = .ok (.getfield 135, 3) := by decide +kernel
theorem dr_cX17_graph_221 : decode cX17_graph 221 = .ok (.iload 7, 2) := by decide +kernel
theorem dr_cX17_graph_223 : decode cX17_graph 223 = .ok (.aaload, 1) := by decide +kernel
theorem dr_cX17_graph_224 : decode cX17_graph 224 = .ok (.iload 10, 2) := by decide +kernel
theorem dr_cX17_graph_226 : decode cX17_graph 226 = .ok (.dup2, 1) := by decide +kernel
theorem dr_cX17_graph_227 : decode cX17_graph 227 = .ok (.laload, 1) := by decide +kernel
theorem dr_cX17_graph_228 : decode cX17_graph 228 = .ok (.aload_n 0, 1) := by decide +kernel
theorem dr_cX17_graph_229 : decode cX17_graph 229 = .ok (.getfield 59, 3) := by decide +kernel
theorem dr_cX17_graph_232 : decode cX17_graph 232 = .ok (.iload 10, 2) := by decide +kernel
theorem dr_cX17_graph_234 : decode cX17_graph 234 = .ok (.laload, 1) := by decide +kernel
theorem dr_cX17_graph_235 : decode cX17_graph 235 = .ok (.lor, 1) := by decide +kernel
theorem dr_cX17_graph_236 : decode cX17_graph 236 = .ok (.lastore, 1) := by decide +kernel
theorem dr_cX17_graph_237 : decode cX17_graph 237 = .ok (.iinc 10 1, 3) := by decide +kernel
theorem dr_cX17_graph_240 : decode cX17_graph 240 = .ok (.goto (-30), 3) := by decide +kernel
theorem dr_cX17_graph_148 : decode cX17_graph 148 = .ok (.aload 6, 2) := by decide +kernel
theorem dr_cX17_graph_150 : decode cX17_graph 150 = .ok (.getfield 39, 3) := by decide +kernel
theorem dr_cX17_graph_153 : decode cX17_graph 153 = .ok (.ifCond .ne 19, 3) := by decide +kernel
theorem dr_cX17_graph_156 : decode cX17_graph 156 = .ok (.aload 6, 2) := by decide +kernel
theorem dr_cX17_graph_158 : decode cX17_graph 158 = .ok (.getfield 141, 3) := by decide +kernel
theorem dr_cX17_graph_161 : decode cX17_graph 161 = .ok (.ifCond .eq 11, 3) := by decide +kernel
theorem dr_cX17_graph_164 : decode cX17_graph 164 = .ok (.aload 6, 2) := by decide +kernel
theorem dr_cX17_graph_166 : decode cX17_graph 166 = .ok (.getfield 73, 3) := by decide +kernel
theorem dr_cX17_graph_169 : decode cX17_graph 169 = .ok (.goto 4, 3) := by decide +kernel
theorem dr_cX17_graph_185 : decode cX17_graph 185 = .ok (.aload_n 0, 1) := by decide +kernel
theorem dr_cX17_graph_186 : decode cX17_graph 186 = .ok (.getfield 135, 3) := by decide +kernel
theorem dr_cX17_graph_189 : decode cX17_graph 189 = .ok (.iload 7, 2) := by decide +kernel
theorem dr_cX17_graph_191 : decode cX17_graph 191 = .ok (.aaload, 1) := by decide +kernel
theorem dr_cX17_graph_192 : decode cX17_graph 192 = .ok (.iload 8, 2) := by decide +kernel
theorem dr_cX17_graph_194 : decode cX17_graph 194 = .ok (.invokestatic 145, 3) := by decide +kernel
theorem dr_cX17_graph_197 : decode cX17_graph 197 = .ok (.ifCond .eq 7, 3) := by decide +kernel
theorem dr_cX17_graph_248 : decode cX17_graph 248 = .ok (.iload 9, 2) := by decide +kernel
theorem dr_cX17_graph_250 : decode cX17_graph 250 = .ok (.ifCond .ne 15, 3) := by decide +kernel
theorem dr_cX17_graph_253 : decode cX17_graph 253 = .ok (.aload_n 0, 1) := by decide +kernel
theorem dr_cX17_graph_254 : decode cX17_graph 254 = .ok (.getfield 135, 3) := by decide +kernel
theorem dr_cX17_graph_257 : decode cX17_graph 257 = .ok (.iload 7, 2) := by decide +kernel
theorem dr_cX17_graph_259 : decode cX17_graph 259 = .ok (.aaload, 1) := by decide +kernel
theorem dr_cX17_graph_260 : decode cX17_graph 260 = .ok (.iload 8, 2) := by decide +kernel
theorem dr_cX17_graph_262 : decode cX17_graph 262 = .ok (.invokestatic 63, 3) := by decide +kernel
theorem dr_cX17_graph_200 : decode cX17_graph 200 = .ok (.iconst 1, 1) := by decide +kernel
theorem dr_cX17_graph_201 : decode cX17_graph 201 = .ok (.goto 4, 3) := by decide +kernel
theorem dr_cX17_graph_15 : decode cX17_graph 15 = .ok (.aload_n 0, 1) := by decide +kernel
theorem dr_cX17_graph_16 : decode cX17_graph 16 = .ok (.getfield 131, 3) := by decide +kernel
theorem dr_cX17_graph_19 : decode cX17_graph 19 = .ok (.iload_n 3, 1) := by decide +kernel
theorem dr_cX17_graph_20 : decode cX17_graph 20 = .ok (.iconst 0, 1) := by decide +kernel
theorem dr_cX17_graph_21 : decode cX17_graph 21 = .ok (.bastore, 1) := by decide +kernel
theorem dr_cX17_graph_22 : decode cX17_graph 22 = .ok (.iconst 0, 1) := by decide +kernel
theorem dr_cX17_graph_23 : decode cX17_graph 23 = .ok (.istore 4, 2) := by decide +kernel
theorem dr_cX17_graph_25 : decode cX17_graph 25 = .ok (.iload 4, 2) := by decide +kernel
theorem dr_cX17_graph_27 : decode cX17_graph 27 = .ok (.bipush 32, 2) := by decide +kernel
theorem dr_cX17_graph_29 : decode cX17_graph 29 = .ok (.if_icmp .ge 19, 3) := by decide +kernel
theorem dr_cX17_graph_48 : decode cX17_graph 48 = .ok (.iinc 3 1, 3) := by decide +kernel
theorem dr_cX17_graph_51 : decode cX17_graph 51 = .ok (.goto (-43), 3) := by decide +kernel
theorem dr_cX17_graph_32 : decode cX17_graph 32 = .ok (.aload_n 0, 1) := by decide +kernel
theorem dr_cX17_graph_33 : decode cX17_graph 33 = .ok (.getfield 135, 3) := by decide +kernel
theorem dr_cX17_graph_36 : decode cX17_graph 36 = .ok (.iload_n 3, 1) := by decide +kernel
theorem dr_cX17_graph_37 : decode cX17_graph 37 = .ok (.aaload, 1) := by decide +kernel
theorem dr_cX17_graph_38 : decode cX17_graph 38 = .ok (.iload 4, 2) := by decide +kernel
theorem dr_cX17_graph_40 : decode cX17_graph 40 = .ok (.lconst 0, 1) := by decide +kernel
theorem dr_cX17_graph_41 : decode cX17_graph 41 = .ok (.lastore, 1) := by decide +kernel
theorem dr_cX17_graph_42 : decode cX17_graph 42 = .ok (.iinc 4 1, 3) := by decide +kernel
theorem dr_cX17_graph_45 : decode cX17_graph 45 = .ok (.goto (-20), 3) := by decide +kernel
abbrev ky_277563_SpillForgeModel_graph : gKey := (cX17_graph, 11, "SpillForgeModel", none, [], "graph", fun _ _ => True)
def pt_277563_SpillForgeModel_graph (D : va_G) (I : FieldType → ClassId) (γ el : Nat → Nat → Nat) (P277557 : List Nat) (F277558 : Nat → va_E) (q277559 : Nat) (q277560 : Nat) (p277561 : Int32) : Option Value → va_W → Nat → Nat → Prop := fun r w dc ds => ∃ (F335985 : Nat → va_E), r = none ∧ w = va_pl P277557 F335985 ∧ RS D I P277557 F335985 γ el ∧ rStr γ [] F277558 F335985 ∧ dc ≤ 0 ∧ ds ≤ 0 ∧ (gIp (p277561.toInt = 0) (rGr γ el F277558 q277560 (γ 6 (γ 1 q277560)) (cB (F335985 (γ 9 3))) (vA (γ 6 (γ 1 q277560))))) ∧ (F335985 q277559 = F277558 q277559) ∧ tr_RModel_graph D I γ el P277557 F277558 q277559 q277560 p277561 F335985
set_option maxRecDepth 100000 in
set_option maxHeartbeats 4000000 in
theorem ct_277563_SpillForgeModel_graph (l : Launch) (hl0 : l.stackTraces = false) (D : va_G) (I : FieldType → ClassId) (γ el : Nat → Nat → Nat) (P277557 : List Nat) (F277558 : Nat → va_E) (q277559 : Nat) (q277560 : Nat) (p277561 : Int32) (hT : RS D I P277557 F277558 γ el) (htq277559 : rKd γ q277559 10) (htq277560 : rKd γ q277560 9) (bp277561 : gB p277561 0 1) (x277562 : 0 < γ 6 (γ 1 q277560)) : CtA (gV D I) l yX17_graph cX17_graph 11 none 5 111 0 0 [.ref q277559, .ref q277560, .int p277561] (va_pl P277557 F277558) (pt_277563_SpillForgeModel_graph D I γ el P277557 F277558 q277559 q277560 p277561) gNA := by
  refine CtA_of hl0 (by decide) (Nat.le_of_ble_eq_true rfl) ?_
  have hm277564 : q277559 ∈ P277557 := RS_m hT htq277559 (by decide)
  refine rk10_e (show rk_10 γ (F277558 q277559) from RS_o hT htq277559) (fun q277566 q277567 p277568 p277569 p277570 p277571 p277572 p277573 p277574 p277575 p277576 p277577 p277578 p277579 p277580 p277581 p277582 he277565 hB277609 ht277583 ht277584 ht277585 ht277586 ht277587 ht277588 ht277589 ht277590 ht277591 ht277592 ht277593 ht277594 ht277595 ht277596 ht277597 ht277598 ht277599 ht277600 ht277601 ht277602 ht277603 ht277604 ht277605 ht277606 hB277610 => ?_)
  refine G_aload_n 0 dr_cX17_graph_0 rfl ?_
  refine G_aload_n 1 dr_cX17_graph_1 rfl ?_
  refine G_iload_n 2 dr_cX17_graph_2 rfl ?_
  refine Gw_callV (As := [.ref q277560, .int p277561]) (gV_ok D I) (ct_225959_SpillForgeModel_findLive l hl0 D I γ el P277557 F277558 q277559 q277560 p277561 hT htq277559 htq277560 bp277561 (by omega)) dr_cX17_graph_3 ⟨wr_10_156, wr_1_14, wr_10_159, by decide, rfl, (Nat.le_of_ble_eq_true rfl), (Nat.le_of_ble_eq_true rfl)⟩ wr_10_158 wr_p_94 hm277564 he277565 rfl (show 0 + 0 ≤ 0 by first | omega | decide) (show 0 + 0 ≤ 0 by first | omega | decide) (Nat.le_of_ble_eq_true rfl) (fun r277614 w277615 dc277611 ds277612 hp277613 => ?_) (fun _ _ _ _ _ z => z.elim)
  obtain ⟨F277618, rfl, rfl, hT277619, hs277620, hdc, hds, x277616, ht277617⟩ := hp277613
  have hs277621 : rStr γ [] F277558 F277618 := rStr_tr (rStr_rf (γ := γ) (W := []) (F := F277558)) hs277620
  have kp277622 : F277618 q277559 = F277558 q277559 := x277616
  have he277623 : F277618 q277559 = .inr (22, [.ref (γ 9 0), .ref (γ 9 1), .ref (γ 9 2), .ref (γ 9 3), .ref (γ 9 4), .ref (γ 9 5), .ref (γ 9 6), .ref (γ 9 7), .ref (γ 9 8), .int p277568, .int p277569, .int p277570, .int p277571, .int p277572, .int p277573, .ref (γ 9 15), .ref (γ 9 16), .ref (γ 9 17), .ref (γ 9 18), .ref (γ 9 19), .ref (γ 9 20), .ref (γ 9 21), .ref (γ 9 22), .int p277574, .int p277575, .int p277576, .int p277577, .int p277578, .ref q277566, .ref (γ 9 29), .int p277579, .ref (γ 9 31), .int p277580, .int p277581, .int p277582, .ref q277567]) := (x277616).trans he277565
  change G _ _ _ _ _ _ _ _ _ _ _
  refine G_widen (cs' := 0) (sl' := 0) (by omega) (by omega) ?_
  refine G_iconst 0 dr_cX17_graph_6 (by decide +kernel) ?_
  refine G_istore_n (L' := [(3, .int 0), (0, .ref q277559), (1, .ref q277560), (2, .int p277561)]) dr_cX17_graph_7 (Nat.le_of_ble_eq_true rfl) rfl ?_
  have hlp8_327557 : ∀ (n8_327557 : Nat) (F327553 : Nat → va_E) (g327552 : Int32), gB g327552 0 2000 → RS D I P277557 F327553 γ el → rStr γ [] F277558 F327553 → (∀ n : Nat, (n : Int) < g327552.toInt → ¬ rSd (cB (F327553 (γ 9 3))) n) → (F327553 q277559 = F277558 q277559) → (∀ (k : Nat) (e1 : Nat → va_E), tl_RModel_graph_8 D I γ el P277557 F277558 q277559 F327553 g327552 k e1 → tl_RModel_graph_8 D I γ el P277557 F277558 q277559 F277618 (0 : Int32) k e1) → ((2001 : Int) - g327552.toInt).toNat < n8_327557 → G (gV D I) l (gRm 5 111 0 0) (gMA (gV D I) (pt_277563_SpillForgeModel_graph D I γ el P277557 F277558 q277559 q277560 p277561) gNA 0 0) ky_277563_SpillForgeModel_graph 8 [(3, .int g327552), (0, .ref q277559), (1, .ref q277560), (2, .int p277561)] [] (va_pl P277557 F327553) 0 0 := by
    intro n8_327557
    induction n8_327557 with
    | zero => intro F327553 g327552 bg327552 hT327554 hs327555 x327556 x327557 kt8_327558 hm8_327557; exact absurd hm8_327557 (Nat.not_lt_zero _)
    | succ n8_327557 ih8_327557 =>
      intro F327553 g327552 bg327552 hT327554 hs327555 x327556 x327557 kt8_327558 hm8_327557
      have hs327559 : rStr γ [] F277618 F327553 := fun b h0 hb hw => (hs327555 b h0 hb hw).trans (hs277621 b h0 hb hw).symm
      have hs327560 : rStr γ [] F277558 F327553 := rStr_tr hs277621 hs327559
      have he327561 : F327553 q277559 = .inr (22, [.ref (γ 9 0), .ref (γ 9 1), .ref (γ 9 2), .ref (γ 9 3), .ref (γ 9 4), .ref (γ 9 5), .ref (γ 9 6), .ref (γ 9 7), .ref (γ 9 8), .int p277568, .int p277569, .int p277570, .int p277571, .int p277572, .int p277573, .ref (γ 9 15), .ref (γ 9 16), .ref (γ 9 17), .ref (γ 9 18), .ref (γ 9 19), .ref (γ 9 20), .ref (γ 9 21), .ref (γ 9 22), .int p277574, .int p277575, .int p277576, .int p277577, .int p277578, .ref q277566, .ref (γ 9 29), .int p277579, .ref (γ 9 31), .int p277580, .int p277581, .int p277582, .ref q277567]) := x327557.trans he277565
      have hm327562 : q277559 ∈ P277557 := RS_m hT327554 htq277559 (by decide)
      refine G_iload_n 0 dr_cX17_graph_8 rfl ?_
      refine G_sipush 2000 dr_cX17_graph_9 (by decide +kernel) ?_
      refine G_icmp_ge 54 dr_cX17_graph_12 (by decide +kernel) (fun hc327563 => ?_) (fun hc327563 => ?_)
      · have r327564 : 2000 ≤ g327552.toInt := gj_leL hc327563 (show Int32.toInt 2000 = 2000 by decide)
        have bg327552' : gB g327552 2000 2000 := ⟨by omega, by omega⟩
        have hx327565 : tl_RModel_graph_8 D I γ el P277557 F277558 q277559 F277618 (0 : Int32) 54 F327553 := kt8_327558 54 F327553 (fun R c1 c2 => c1 F327553 g327552 bg327552 hT327554 hs327555 x327556 x327557 r327564)
        refine G_iconst 0 dr_cX17_graph_54 (by decide +kernel) ?_
        refine G_istore_n (L' := [(3, .int 0), (0, .ref q277559), (1, .ref q277560), (2, .int p277561)]) dr_cX17_graph_55 (Nat.le_of_ble_eq_true rfl) rfl ?_
        have hlp56_331711 : ∀ (n56_331711 : Nat) (F331707 : Nat → va_E) (g331706 : Int32), gB g331706 0 1000000 → RS D I P277557 F331707 γ el → rStr γ [] F277558 F331707 → (gIp (p277561.toInt = 0) (rGr γ el F277558 q277560 (γ 6 (γ 1 q277560)) (cB (F331707 (γ 9 3))) (vA (g331706.toInt : Int).toNat))) → (F331707 q277559 = F277558 q277559) → (∀ (k : Nat) (e1 : Nat → va_E), tl_RModel_graph_56 D I γ el P277557 F277558 p277561 q277560 q277559 F331707 g331706 k e1 → tl_RModel_graph_56 D I γ el P277557 F277558 p277561 q277560 q277559 F327553 (0 : Int32) k e1) → ((1000001 : Int) - g331706.toInt).toNat < n56_331711 → G (gV D I) l (gRm 5 111 0 0) (gMA (gV D I) (pt_277563_SpillForgeModel_graph D I γ el P277557 F277558 q277559 q277560 p277561) gNA 0 0) ky_277563_SpillForgeModel_graph 56 [(3, .int g331706), (0, .ref q277559), (1, .ref q277560), (2, .int p277561)] [] (va_pl P277557 F331707) 0 0 := by
          intro n56_331711
          induction n56_331711 with
          | zero => intro F331707 g331706 bg331706 hT331708 hs331709 x331710 x331711 kt56_331712 hm56_331711; exact absurd hm56_331711 (Nat.not_lt_zero _)
          | succ n56_331711 ih56_331711 =>
            intro F331707 g331706 bg331706 hT331708 hs331709 x331710 x331711 kt56_331712 hm56_331711
            have hs331713 : rStr γ [] F327553 F331707 := fun b h0 hb hw => (hs331709 b h0 hb hw).trans (hs327555 b h0 hb hw).symm
            have hs331714 : rStr γ [] F277558 F331707 := rStr_tr hs327555 hs331713
            have he331715 : F331707 q277559 = .inr (22, [.ref (γ 9 0), .ref (γ 9 1), .ref (γ 9 2), .ref (γ 9 3), .ref (γ 9 4), .ref (γ 9 5), .ref (γ 9 6), .ref (γ 9 7), .ref (γ 9 8), .int p277568, .int p277569, .int p277570, .int p277571, .int p277572, .int p277573, .ref (γ 9 15), .ref (γ 9 16), .ref (γ 9 17), .ref (γ 9 18), .ref (γ 9 19), .ref (γ 9 20), .ref (γ 9 21), .ref (γ 9 22), .int p277574, .int p277575, .int p277576, .int p277577, .int p277578, .ref q277566, .ref (γ 9 29), .int p277579, .ref (γ 9 31), .int p277580, .int p277581, .int p277582, .ref q277567]) := x331711.trans he277565
            have hm331716 : q277559 ∈ P277557 := RS_m hT331708 htq277559 (by decide)
            refine G_iload_n 0 dr_cX17_graph_56 rfl ?_
            refine G_aload_n 2 dr_cX17_graph_57 rfl ?_
            have hm331717 : q277560 ∈ P277557 := RS_m hT331708 htq277560 (by decide)
            obtain ⟨q331719, q331720, p331721, p331722, he331718, ht331738, ht331723, ht331724, ht331725, ht331726, r331727, r331728, r331729, r331730, r331731, r331732, r331733, r331734, r331735, r331736, r331737⟩ := show rk_9 γ el q277560 (F331707 q277560) from RS_o hT331708 htq277560
            have bp331721 : gB p331721 0 1000000 := ⟨by omega, by omega⟩
            have bp331722 : gB p331722 0 1000000 := ⟨by omega, by omega⟩
            have fq331739 : fI (F331707 q277560) 3 = p331722 := by rw [he331718]; rfl
            refine Gw_callV (As := []) (gV_ok D I) (cp_12780_Code_size l hl0 D I P277557 F331707 q277560 q331719 q331720 p331721 p331722 hm331717 he331718) dr_cX17_graph_58 ⟨wr_10_160, wr_1_15, wr_9_131, by decide, rfl, (Nat.le_of_ble_eq_true rfl), (Nat.le_of_ble_eq_true rfl)⟩ wr_9_129 wr_9_130 hm331717 he331718 rfl (show 0 + 0 ≤ 0 by first | omega | decide) (show 0 + 0 ≤ 0 by first | omega | decide) (Nat.le_of_ble_eq_true rfl) (fun r331743 w331744 dc331740 ds331741 hp331742 => ?_) (fun _ _ _ _ _ z => z.elim)
            obtain ⟨rfl, rfl, hdc, hds⟩ := hp331742
            change G _ _ _ _ _ _ _ (.int p331722 :: _) _ _ _
            refine G_widen (cs' := 0) (sl' := 0) (by omega) (by omega) ?_
            refine G_icmp_ge 296 dr_cX17_graph_61 (by decide +kernel) (fun hc331745 => ?_) (fun hc331745 => ?_)
            · have r331746 : p331722.toInt ≤ g331706.toInt := gC_le hc331745
              have hx331747 : tl_RModel_graph_56 D I γ el P277557 F277558 p277561 q277560 q277559 F327553 (0 : Int32) 296 F331707 := kt56_331712 296 F331707 (fun R c1 c2 => c1 F331707 g331706 p331722 bg331706 hT331708 hs331709 x331710 x331711 fq331739 r331746)
              refine G_iconst 0 dr_cX17_graph_296 (by decide +kernel) ?_
              refine G_istore_n (L' := [(3, .int 0), (0, .ref q277559), (1, .ref q277560), (2, .int p277561)]) dr_cX17_graph_297 (Nat.le_of_ble_eq_true rfl) rfl ?_
              have hlp298_332056 : ∀ (n298_332056 : Nat) (F332052 : Nat → va_E) (g332051 : Int32), gB g332051 0 2000 → RS D I P277557 F332052 γ el → rStr γ [] F277558 F332052 → (gIp (p277561.toInt = 0) (rGr γ el F277558 q277560 (γ 6 (γ 1 q277560)) (cB (F332052 (γ 9 3))) (vA (γ 6 (γ 1 q277560))))) → (F332052 q277559 = F277558 q277559) → (∀ (k : Nat) (e1 : Nat → va_E), tl_RModel_graph_298 D I γ el P277557 F277558 p277561 q277560 q277559 F332052 g332051 k e1 → tl_RModel_graph_298 D I γ el P277557 F277558 p277561 q277560 q277559 F331707 (0 : Int32) k e1) → ((2001 : Int) - g332051.toInt).toNat < n298_332056 → G (gV D I) l (gRm 5 111 0 0) (gMA (gV D I) (pt_277563_SpillForgeModel_graph D I γ el P277557 F277558 q277559 q277560 p277561) gNA 0 0) ky_277563_SpillForgeModel_graph 298 [(3, .int g332051), (0, .ref q277559), (1, .ref q277560), (2, .int p277561)] [] (va_pl P277557 F332052) 0 0 := by
                intro n298_332056
                induction n298_332056 with
                | zero => intro F332052 g332051 bg332051 hT332053 hs332054 x332055 x332056 kt298_332057 hm298_332056; exact absurd hm298_332056 (Nat.not_lt_zero _)
                | succ n298_332056 ih298_332056 =>
                  intro F332052 g332051 bg332051 hT332053 hs332054 x332055 x332056 kt298_332057 hm298_332056
                  have hs332058 : rStr γ [] F331707 F332052 := fun b h0 hb hw => (hs332054 b h0 hb hw).trans (hs331709 b h0 hb hw).symm
                  have he332059 : F332052 q277560 = .inr (18, [.ref q331719, .ref q331720, .int p331721, .int p331722]) := (hs332058 q277560 (rT0 htq277560 (by decide)) (rT1 htq277560 (by decide)) (rT2 htq277560 (by decide))).trans he331718
                  have hs332060 : rStr γ [] F277558 F332052 := rStr_tr hs331709 hs332058
                  have he332061 : F332052 q277559 = .inr (22, [.ref (γ 9 0), .ref (γ 9 1), .ref (γ 9 2), .ref (γ 9 3), .ref (γ 9 4), .ref (γ 9 5), .ref (γ 9 6), .ref (γ 9 7), .ref (γ 9 8), .int p277568, .int p277569, .int p277570, .int p277571, .int p277572, .int p277573, .ref (γ 9 15), .ref (γ 9 16), .ref (γ 9 17), .ref (γ 9 18), .ref (γ 9 19), .ref (γ 9 20), .ref (γ 9 21), .ref (γ 9 22), .int p277574, .int p277575, .int p277576, .int p277577, .int p277578, .ref q277566, .ref (γ 9 29), .int p277579, .ref (γ 9 31), .int p277580, .int p277581, .int p277582, .ref q277567]) := x332056.trans he277565
                  have hm332062 : q277559 ∈ P277557 := RS_m hT332053 htq277559 (by decide)
                  refine G_iload_n 0 dr_cX17_graph_298 rfl ?_
                  refine G_sipush 2000 dr_cX17_graph_299 (by decide +kernel) ?_
                  refine G_icmp_ge 389 dr_cX17_graph_302 (by decide +kernel) (fun hc332063 => ?_) (fun hc332063 => ?_)
                  · have r332064 : 2000 ≤ g332051.toInt := gj_leL hc332063 (show Int32.toInt 2000 = 2000 by decide)
                    have bg332051' : gB g332051 2000 2000 := ⟨by omega, by omega⟩
                    have hx332065 : tl_RModel_graph_298 D I γ el P277557 F277558 p277561 q277560 q277559 F331707 (0 : Int32) 389 F332052 := kt298_332057 389 F332052 (fun R c1 c2 c3 => c1 F332052 g332051 bg332051 hT332053 hs332054 x332055 x332056 r332064)
                    exact G_vretA dr_cX17_graph_389 rfl (Nat.le_of_ble_eq_true rfl) (Nat.le_of_ble_eq_true rfl) ⟨F332052, rfl, rfl, hT332053, hs332054, (Nat.le_of_ble_eq_true rfl), (Nat.le_of_ble_eq_true rfl), x332055, x332056, (fun R c1 => c1 F277618 F327553 F331707 F332052 hT277619 hs277620 x277616 ht277617 hx327565 hx331747 hx332065)⟩
                  · have r332066 : g332051.toInt < 2000 := gj_nleL hc332063 (show Int32.toInt 2000 = 2000 by decide)
                    have bg332051' : gB g332051 0 1999 := ⟨by omega, by omega⟩
                    refine G_aload_n 1 dr_cX17_graph_305 rfl ?_
                    have fq332067 : fR (F332052 q277559) 3 = (γ 9 3) := by rw [he332061]; rfl
                    refine Gp_get 3 hm332062 he332061 dr_cX17_graph_306 (gk_X17 D I) (Nat.le_of_ble_eq_true rfl) wr_7_77 rfl ?_
                    refine G_iload_n 0 dr_cX17_graph_309 rfl ?_
                    have hm332068 : (γ 9 3) ∈ P277557 := RS_m hT332053 ht277588 (by decide)
                    obtain ⟨f332070, he332069, bf332070⟩ := show rk_14 I (F332052 (γ 9 3)) from RS_o hT332053 ht277588
                    refine Gp_zald 3 hm332068 he332069 dr_cX17_graph_310 rfl (gB_in bg332051' (by decide) (by decide)) (G_nam fun z332071 hz332071 => ?_)
                    have bz332071 : gB z332071 0 1 := by rw [hz332071]; exact bf332070 _
                    refine G_if_ne 317 dr_cX17_graph_311 (by decide +kernel) (fun hc332072 => ?_) (fun hc332072 => ?_)
                    · have r332073 : z332071.toInt ≠ 0 := gj_neq hc332072 (show Int32.toInt 0 = 0 by decide)
                      have bz332071' : gB z332071 1 1 := gB_t1 bz332071 r332073
                      refine G_iconst 0 dr_cX17_graph_317 (by decide +kernel) ?_
                      refine G_istore (L' := [(4, .int 0), (3, .int g332051), (0, .ref q277559), (1, .ref q277560), (2, .int p277561)]) dr_cX17_graph_318 (Nat.le_of_ble_eq_true rfl) rfl ?_
                      have hlp320_332219 : ∀ (n320_332219 : Nat) (F332215 : Nat → va_E) (g332214 : Int32), gB g332214 0 32 → RS D I P277557 F332215 γ el → rStr γ [] F277558 F332215 → (gIp (p277561.toInt = 0) (rGr γ el F277558 q277560 (γ 6 (γ 1 q277560)) (cB (F332215 (γ 9 3))) (vA (γ 6 (γ 1 q277560))))) → (F332215 q277559 = F277558 q277559) → (∀ (k : Nat) (e1 : Nat → va_E), tl_RModel_graph_320 D I γ el P277557 F277558 p277561 q277560 q277559 g332051 F332215 g332214 k e1 → tl_RModel_graph_320 D I γ el P277557 F277558 p277561 q277560 q277559 g332051 F332052 (0 : Int32) k e1) → ((33 : Int) - g332214.toInt).toNat < n320_332219 → G (gV D I) l (gRm 5 111 0 0) (gMA (gV D I) (pt_277563_SpillForgeModel_graph D I γ el P277557 F277558 q277559 q277560 p277561) gNA 0 0) ky_277563_SpillForgeModel_graph 320 [(4, .int g332214), (3, .int g332051), (0, .ref q277559), (1, .ref q277560), (2, .int p277561)] [] (va_pl P277557 F332215) 0 0 := by
                        intro n320_332219
                        induction n320_332219 with
                        | zero => intro F332215 g332214 bg332214 hT332216 hs332217 x332218 x332219 kt320_332220 hm320_332219; exact absurd hm320_332219 (Nat.not_lt_zero _)
                        | succ n320_332219 ih320_332219 =>
                          intro F332215 g332214 bg332214 hT332216 hs332217 x332218 x332219 kt320_332220 hm320_332219
                          have hs332221 : rStr γ [] F332052 F332215 := fun b h0 hb hw => (hs332217 b h0 hb hw).trans (hs332054 b h0 hb hw).symm
                          have he332222 : F332215 q277560 = .inr (18, [.ref q331719, .ref q331720, .int p331721, .int p331722]) := (hs332221 q277560 (rT0 htq277560 (by decide)) (rT1 htq277560 (by decide)) (rT2 htq277560 (by decide))).trans he332059
                          have hs332223 : rStr γ [] F277558 F332215 := rStr_tr hs332054 hs332221
                          have he332224 : F332215 q277559 = .inr (22, [.ref (γ 9 0), .ref (γ 9 1), .ref (γ 9 2), .ref (γ 9 3), .ref (γ 9 4), .ref (γ 9 5), .ref (γ 9 6), .ref (γ 9 7), .ref (γ 9 8), .int p277568, .int p277569, .int p277570, .int p277571, .int p277572, .int p277573, .ref (γ 9 15), .ref (γ 9 16), .ref (γ 9 17), .ref (γ 9 18), .ref (γ 9 19), .ref (γ 9 20), .ref (γ 9 21), .ref (γ 9 22), .int p277574, .int p277575, .int p277576, .int p277577, .int p277578, .ref q277566, .ref (γ 9 29), .int p277579, .ref (γ 9 31), .int p277580, .int p277581, .int p277582, .ref q277567]) := x332219.trans he277565
                          have hm332225 : q277559 ∈ P277557 := RS_m hT332216 htq277559 (by decide)
                          refine G_iload 0 dr_cX17_graph_320 rfl ?_
                          refine G_bipush 32 dr_cX17_graph_322 (by decide +kernel) ?_
                          refine G_icmp_ge 383 dr_cX17_graph_324 (by decide +kernel) (fun hc332226 => ?_) (fun hc332226 => ?_)
                          · have r332227 : 32 ≤ g332214.toInt := gj_leL hc332226 (show Int32.toInt 32 = 32 by decide)
                            have bg332214' : gB g332214 32 32 := ⟨by omega, by omega⟩
                            have hx332228 : tl_RModel_graph_320 D I γ el P277557 F277558 p277561 q277560 q277559 g332051 F332052 (0 : Int32) 383 F332215 := kt320_332220 383 F332215 (fun R c1 c2 => c1 F332215 g332214 bg332214 hT332216 hs332217 x332218 x332219 r332227)
                            obtain ⟨z332229, hz332229⟩ : ∃ z : Int32, z = g332051 + Int32.ofInt 1 := ⟨_, rfl⟩
                            have ez332229 : z332229.toInt = g332051.toInt + 1 := gI_inc hz332229 (by decide) bg332051' (by decide) (by decide)
                            have bz332229 : gB z332229 1 2000 := ⟨by omega, by omega⟩
                            refine G_iinc (L' := [(3, .int z332229), (4, .int g332214), (0, .ref q277559), (1, .ref q277560), (2, .int p277561)]) z332229 1 dr_cX17_graph_383 rfl hz332229.symm (Nat.le_of_ble_eq_true rfl) rfl ?_
                            refine G_goto 298 dr_cX17_graph_386 (by decide +kernel) ?_
                            refine G_lv (L' := [(3, .int z332229), (0, .ref q277559), (1, .ref q277560), (2, .int p277561)]) [0, 2, 3, 4] rfl ?_
                            exact ih298_332056 F332215 z332229 (gB_w bz332229 (by decide) (by decide)) hT332216 hs332217 x332218 x332219 (fun k e1 ht => kt298_332057 k e1 (fun R c1 c2 c3 => c2 F332052 g332051 f332070 z332071 F332215 z332229 k e1 bg332051 hT332053 hs332054 x332055 x332056 r332066 fq332067 he332069 hz332071 bz332071 r332073 hx332228 ez332229 (ht R c1 c2 c3))) (mz_up ez332229 (Int.le_trans bg332051'.2 (by decide)) hm298_332056)
                          · have r332230 : g332214.toInt < 32 := gj_nleL hc332226 (show Int32.toInt 32 = 32 by decide)
                            have bg332214' : gB g332214 0 31 := ⟨by omega, by omega⟩
                            refine G_aload_n 2 dr_cX17_graph_327 rfl ?_
                            have fq332231 : fR (F332215 q277559) 1 = (γ 9 1) := by rw [he332224]; rfl
                            refine Gp_get 1 hm332225 he332224 dr_cX17_graph_328 (gk_X17 D I) (Nat.le_of_ble_eq_true rfl) wr_7_75 rfl ?_
                            refine G_iload_n 1 dr_cX17_graph_331 rfl ?_
                            have hm332232 : (γ 9 1) ∈ P277557 := RS_m hT332216 ht277586 (by decide)
                            obtain ⟨f332234, he332233, hg332235⟩ := show rk_13 I γ (F332215 (γ 9 1)) from RS_o hT332216 ht277586
                            obtain ⟨q332236, hx332238⟩ : ∃ x, x = γ 11 g332051.toInt.toNat := ⟨_, rfl⟩
                            have ht332237 : rKd γ q332236 36 := by rw [hx332238]; exact (hg332235 _ (show g332051.toInt.toNat < 2000 by omega)).2.1
                            refine Gp_aald 5 hm332232 he332233 dr_cX17_graph_332 rfl rfl (gB_in bg332051' (by decide) (by decide)) ?_
                            rw [show f332234 g332051.toNatClampNeg = some q332236 from (hg332235 _ (show g332051.toInt.toNat < 2000 by omega)).1.trans (by rw [hx332238])]
                            change G _ _ _ _ _ _ _ (.ref q332236 :: _) _ _ _
                            refine G_iload 0 dr_cX17_graph_333 rfl ?_
                            have hm332239 : q332236 ∈ P277557 := RS_m hT332216 ht332237 (by decide)
                            obtain ⟨f332241, he332240, wf332241⟩ := show rk_36 I (F332215 q332236) from RS_o hT332216 ht332237
                            refine Gp_lald 2 hm332239 he332240 dr_cX17_graph_335 rfl (gB_in bg332214' (by decide) (by decide)) (G_namL fun u332242 hu332242 => ?_)
                            have qu332242 : lb_Q u332242 (2000 - 64 * g332214.toInt) := lb_Wld hu332242 wf332241 (by omega) (by omega) (lb_Mod0 (by omega) (by omega))
                            refine G_lstore (L' := [(5, .long u332242), (4, .int g332214), (3, .int g332051), (0, .ref q277559), (1, .ref q277560), (2, .int p277561)]) dr_cX17_graph_336 (Nat.le_of_ble_eq_true rfl) rfl ?_
                            have hlp338_332305 : ∀ (n338_332305 : Nat) (F332300 : Nat → va_E) (gl332299 : Int64), RS D I P277557 F332300 γ el → rStr γ [] F277558 F332300 → (lb_Q gl332299 (2000 - 64 * g332214.toInt)) → (gIp (p277561.toInt = 0) (rGr γ el F277558 q277560 (γ 6 (γ 1 q277560)) (cB (F332300 (γ 9 3))) (vA (γ 6 (γ 1 q277560))))) → (F332300 q277559 = F277558 q277559) → (∀ (k : Nat) (e1 : Nat → va_E), tl_RModel_graph_338 D I γ el P277557 F277558 g332214 p277561 q277560 q277559 g332051 F332300 gl332299 k e1 → tl_RModel_graph_338 D I γ el P277557 F277558 g332214 p277561 q277560 q277559 g332051 F332215 u332242 k e1) → (rpop gl332299) < n338_332305 → G (gV D I) l (gRm 5 111 0 0) (gMA (gV D I) (pt_277563_SpillForgeModel_graph D I γ el P277557 F277558 q277559 q277560 p277561) gNA 0 0) ky_277563_SpillForgeModel_graph 338 [(5, .long gl332299), (4, .int g332214), (3, .int g332051), (0, .ref q277559), (1, .ref q277560), (2, .int p277561)] [] (va_pl P277557 F332300) 0 0 := by
                              intro n338_332305
                              induction n338_332305 with
                              | zero => intro F332300 gl332299 hT332301 hs332302 x332303 x332304 x332305 kt338_332306 hm338_332305; exact absurd hm338_332305 (Nat.not_lt_zero _)
                              | succ n338_332305 ih338_332305 =>
                                intro F332300 gl332299 hT332301 hs332302 x332303 x332304 x332305 kt338_332306 hm338_332305
                                have hs332307 : rStr γ [] F332215 F332300 := fun b h0 hb hw => (hs332302 b h0 hb hw).trans (hs332217 b h0 hb hw).symm
                                have he332308 : F332300 q277560 = .inr (18, [.ref q331719, .ref q331720, .int p331721, .int p331722]) := (hs332307 q277560 (rT0 htq277560 (by decide)) (rT1 htq277560 (by decide)) (rT2 htq277560 (by decide))).trans he332222
                                have hs332309 : rStr γ [] F277558 F332300 := rStr_tr hs332217 hs332307
                                have he332310 : F332300 q277559 = .inr (22, [.ref (γ 9 0), .ref (γ 9 1), .ref (γ 9 2), .ref (γ 9 3), .ref (γ 9 4), .ref (γ 9 5), .ref (γ 9 6), .ref (γ 9 7), .ref (γ 9 8), .int p277568, .int p277569, .int p277570, .int p277571, .int p277572, .int p277573, .ref (γ 9 15), .ref (γ 9 16), .ref (γ 9 17), .ref (γ 9 18), .ref (γ 9 19), .ref (γ 9 20), .ref (γ 9 21), .ref (γ 9 22), .int p277574, .int p277575, .int p277576, .int p277577, .int p277578, .ref q277566, .ref (γ 9 29), .int p277579, .ref (γ 9 31), .int p277580, .int p277581, .int p277582, .ref q277567]) := x332305.trans he277565
                                have hm332311 : q277559 ∈ P277557 := RS_m hT332301 htq277559 (by decide)
                                refine G_lload 0 dr_cX17_graph_338 rfl ?_
                                refine G_lconst 0 dr_cX17_graph_340 rfl ?_
                                refine G_lcmp dr_cX17_graph_341 (G_nam fun z332312 hz332312 => ?_)
                                have bz332312 : gB z332312 (-1) 1 := gB_cmp hz332312
                                refine G_if_eq 377 dr_cX17_graph_342 (by decide +kernel) (fun hc332313 => ?_) (fun hc332313 => ?_)
                                · have r332314 : z332312.toInt = 0 := gj_eq hc332313 (show Int32.toInt 0 = 0 by decide)
                                  have bz332312' : gB z332312 0 0 := ⟨by omega, by omega⟩
                                  have lhc332313 := gC_cmpE hz332312 hc332313
                                  have hx332315 : tl_RModel_graph_338 D I γ el P277557 F277558 g332214 p277561 q277560 q277559 g332051 F332215 u332242 377 F332300 := kt338_332306 377 F332300 (fun R c1 c2 => c1 F332300 gl332299 hT332301 hs332302 x332303 x332304 x332305 lhc332313)
                                  obtain ⟨z332316, hz332316⟩ : ∃ z : Int32, z = g332214 + Int32.ofInt 1 := ⟨_, rfl⟩
                                  have ez332316 : z332316.toInt = g332214.toInt + 1 := gI_inc hz332316 (by decide) bg332214' (by decide) (by decide)
                                  have bz332316 : gB z332316 1 32 := ⟨by omega, by omega⟩
                                  refine G_iinc (L' := [(4, .int z332316), (5, .long gl332299), (3, .int g332051), (0, .ref q277559), (1, .ref q277560), (2, .int p277561)]) z332316 1 dr_cX17_graph_377 rfl hz332316.symm (Nat.le_of_ble_eq_true rfl) rfl ?_
                                  refine G_goto 320 dr_cX17_graph_380 (by decide +kernel) ?_
                                  refine G_lv (L' := [(4, .int z332316), (3, .int g332051), (0, .ref q277559), (1, .ref q277560), (2, .int p277561)]) [0, 2, 3, 4, 5] rfl ?_
                                  exact ih320_332219 F332300 z332316 (gB_w bz332316 (by decide) (by decide)) hT332301 hs332302 x332304 x332305 (fun k e1 ht => kt320_332220 k e1 (fun R c1 c2 => c2 F332215 g332214 q332236 f332241 u332242 F332300 z332316 k e1 bg332214 hT332216 hs332217 x332218 x332219 r332230 fq332231 hx332238 he332240 hu332242 hx332315 ez332316 (ht R c1 c2))) (mz_up ez332316 (Int.le_trans bg332214'.2 (by decide)) hm320_332219)
                                · have r332317 : z332312.toInt ≠ 0 := gj_neq hc332313 (show Int32.toInt 0 = 0 by decide)
                                  have lhc332313 := gC_cmpN hz332312 hc332313
                                  refine G_aload_n 3 dr_cX17_graph_345 rfl ?_
                                  have fq332318 : fR (F332300 q277559) 1 = (γ 9 1) := by rw [he332310]; rfl
                                  refine Gp_get 1 hm332311 he332310 dr_cX17_graph_346 (gk_X17 D I) (Nat.le_of_ble_eq_true rfl) wr_7_75 rfl ?_
                                  refine G_bipush 64 dr_cX17_graph_349 (by decide +kernel) ?_
                                  refine G_iload 1 dr_cX17_graph_351 rfl ?_
                                  refine G_imul dr_cX17_graph_353 (G_nam fun z332319 hz332319 => ?_)
                                  have ez332319 : z332319.toInt = 64 * g332214.toInt := by rw [gI_mul hz332319 (gBl (show Int32.toInt 64 = 64 by decide)) bg332214' (by decide) (by decide) (by decide), show Int32.toInt 64 = 64 from by decide]
                                  have bz332319 : gB z332319 0 1984 := gB_mul hz332319 (gBl (show Int32.toInt 64 = 64 by decide)) bg332214' (by decide) (by decide) (by decide) (by decide)
                                  refine G_lload 0 dr_cX17_graph_354 rfl ?_
                                  refine Gw_callS (As := [.long gl332299]) (gV_ok D I) (nzc_Long_numberOfTrailingZeros l hl0 D I P277557 F332300 gl332299) dr_cX17_graph_356 ⟨wr_11_1, wr_1_31, wr_11_3, by decide, rfl, (Nat.le_of_ble_eq_true rfl), (Nat.le_of_ble_eq_true rfl)⟩ wr_11_2 (show 0 + 0 ≤ 0 by first | omega | decide) (show 0 + 0 ≤ 0 by first | omega | decide) (Nat.le_of_ble_eq_true rfl) (fun r332323 w332324 dc332320 ds332321 hp332322 => ?_) (fun _ _ _ _ _ z => z.elim)
                                  obtain ⟨o332327, rfl, rfl, hdc, hds, hO332325⟩ := hp332322
                                  have hO332325 := hO332325 lhc332313
                                  have bo332327 : gB o332327 0 63 := ⟨hO332325.1, hO332325.2.1⟩
                                  have r332326 : o332327.toInt < 2000 - 64 * g332214.toInt := lb_Qlt x332303 hO332325.1 hO332325.2.2.1
                                  change G _ _ _ _ _ _ _ (.int o332327 :: _) _ _ _
                                  refine G_widen (cs' := 0) (sl' := 0) (by omega) (by omega) ?_
                                  refine G_iadd dr_cX17_graph_359 (G_nam fun z332328 hz332328 => ?_)
                                  have ez332328 : z332328.toInt = z332319.toInt + o332327.toInt := by rw [gI_add hz332328 bz332319 bo332327 (by decide) (by decide)]
                                  have bz332328 : gB z332328 0 2047 := gB_add (gI_add hz332328 bz332319 bo332327 (by decide) (by decide)) bz332319 bo332327 (by decide) (by decide)
                                  have hm332329 : (γ 9 1) ∈ P277557 := RS_m hT332301 ht277586 (by decide)
                                  obtain ⟨f332331, he332330, hg332332⟩ := show rk_13 I γ (F332300 (γ 9 1)) from RS_o hT332301 ht277586
                                  obtain ⟨q332333, hx332335⟩ : ∃ x, x = γ 11 z332328.toInt.toNat := ⟨_, rfl⟩
                                  have ht332334 : rKd γ q332333 36 := by rw [hx332335]; exact (hg332332 _ (show z332328.toInt.toNat < 2000 by omega)).2.1
                                  refine Gp_aald 5 hm332329 he332330 dr_cX17_graph_360 rfl rfl (gB_inr (by omega) (by omega)) ?_
                                  rw [show f332331 z332328.toNatClampNeg = some q332333 from (hg332332 _ (show z332328.toInt.toNat < 2000 by omega)).1.trans (by rw [hx332335])]
                                  change G _ _ _ _ _ _ _ (.ref q332333 :: _) _ _ _
                                  refine G_iload_n 2 dr_cX17_graph_361 rfl ?_
                                  have hm332336 : q332333 ∈ P277557 := RS_m hT332301 ht332334 (by decide)
                                  obtain ⟨f332338, he332337, wf332338⟩ := show rk_36 I (F332300 q332333) from RS_o hT332301 ht332334
                                  refine Gw_callS (As := [.ref q332333, .int g332051]) (gV_ok D I) (cp_1860_SpillForgeModel_set l hl0 D I P277557 F332300 q332333 g332051 f332338 hm332336 he332337 bg332051' wf332338) dr_cX17_graph_362 ⟨wr_10_189, wr_1_14, wr_10_191, by decide, rfl, (Nat.le_of_ble_eq_true rfl), (Nat.le_of_ble_eq_true rfl)⟩ wr_10_190 (show 0 + 0 ≤ 0 by first | omega | decide) (show 0 + 0 ≤ 0 by first | omega | decide) (Nat.le_of_ble_eq_true rfl) (fun r332342 w332343 dc332339 ds332340 hp332341 => ?_) (fun _ _ _ _ _ z => z.elim)
                                  obtain ⟨F332347, f332344, rfl, rfl, hfr332349, he332350, hdc, hds, x332345, ht332346⟩ := hp332341
                                  have he332351 : F332347 q277560 = .inr (18, [.ref q331719, .ref q331720, .int p331721, .int p331722]) := (hfr332349 q277560 hm331717 (nm_c (rn_oa he332308 he332337) nm_n)).trans he332308
                                  have he332352 : F332347 q277559 = .inr (22, [.ref (γ 9 0), .ref (γ 9 1), .ref (γ 9 2), .ref (γ 9 3), .ref (γ 9 4), .ref (γ 9 5), .ref (γ 9 6), .ref (γ 9 7), .ref (γ 9 8), .int p277568, .int p277569, .int p277570, .int p277571, .int p277572, .int p277573, .ref (γ 9 15), .ref (γ 9 16), .ref (γ 9 17), .ref (γ 9 18), .ref (γ 9 19), .ref (γ 9 20), .ref (γ 9 21), .ref (γ 9 22), .int p277574, .int p277575, .int p277576, .int p277577, .int p277578, .ref q277566, .ref (γ 9 29), .int p277579, .ref (γ 9 31), .int p277580, .int p277581, .int p277582, .ref q277567]) := (hfr332349 q277559 hm332311 (nm_c (rn_oa he332310 he332337) nm_n)).trans he332310
                                  have he332353 : F332347 (γ 9 1) = .inl (I (.array .long), 2000, .inr (.inr (.inr (.inr f332331)))) := (hfr332349 (γ 9 1) hm332329 (nm_c (rn_ref_long he332330 he332337) nm_n)).trans he332330
                                  have hfr332354 : rFr [q332333] P277557 F332300 F332347 := rFr_call (rSub_rf (P := P277557)) (rFr_rf (W := []) (P := P277557) (F := F332300)) hfr332349 (fun b hb hn => ⟨nm_n, (nm_c (fun e => hn (e ▸ List.mem_cons_self)) nm_n)⟩)
                                  change G _ _ _ _ _ _ _ _ _ _ _
                                  refine G_widen (cs' := 0) (sl' := 0) (by omega) (by omega) ?_
                                  have hT332355 : RS D I P277557 F332347 γ el := RS_fr hT332301 hfr332354 ht332334 (by decide) ⟨f332344, he332350, x332345⟩
                                  have hs332356 : rStr γ [] F277558 F332347 := rStr_fr hT332301 hs332302 hfr332354 ht332334 (by decide)
                                  have kp332357 : F332347 q277559 = F277558 q277559 := (hfr332354 q277559 (RS_m hT332301 htq277559 (by decide)) (nm_c (rn_ty htq277559 ht332334 (by decide)) nm_n)).trans x332305
                                  have kp332358 : F332347 (γ 9 3) = F332300 (γ 9 3) := hfr332354 (γ 9 3) (RS_m hT332301 ht277588 (by decide)) (nm_c (rn_ty ht277588 ht332334 (by decide)) nm_n)
                                  refine G_lload 0 dr_cX17_graph_365 rfl ?_
                                  refine G_lload 0 dr_cX17_graph_367 rfl ?_
                                  refine G_lconst 1 dr_cX17_graph_369 rfl ?_
                                  refine G_lsub dr_cX17_graph_370 (G_namL fun u332359 hu332359 => ?_)
                                  refine G_land dr_cX17_graph_371 (G_namL fun u332360 hu332360 => ?_)
                                  refine G_lstore (L' := [(5, .long u332360), (4, .int g332214), (3, .int g332051), (0, .ref q277559), (1, .ref q277560), (2, .int p277561)]) dr_cX17_graph_372 (Nat.le_of_ble_eq_true rfl) rfl ?_
                                  refine G_goto 338 dr_cX17_graph_374 (by decide +kernel) ?_
                                  exact ih338_332305 F332347 u332360 hT332355 hs332356 (lb_QandL hu332360 x332303) (by rw [kp332358]; exact x332304) kp332357 (fun k e1 ht => kt338_332306 k e1 (fun R c1 c2 => c2 F332300 gl332299 z332319 o332327 z332328 q332333 f332338 f332344 F332347 u332359 u332360 k e1 hT332301 hs332302 x332303 x332304 x332305 lhc332313 fq332318 ez332319 hO332325 ez332328 hx332335 he332337 ht332346 hfr332354 he332350 hT332355 hu332359 hu332360 (ht R c1 c2))) (by have q := rpop_low lhc332313 hu332359 hu332360; omega)
                            exact hlp338_332305 ((rpop u332242) + 1) F332215 u332242 hT332216 hs332217 qu332242 x332218 x332219 (fun k e1 ht => ht) (Nat.lt_succ_self _)
                      exact hlp320_332219 (((33 : Int) - 0).toNat + 1) F332052 0 (gB_w (gBl (show Int32.toInt 0 = 0 by decide)) (by decide) (by decide)) hT332053 hs332054 x332055 x332056 (fun k e1 ht => ht) (Nat.lt_succ_self _)
                    · have r332361 : z332071.toInt = 0 := gj_eq hc332072 (show Int32.toInt 0 = 0 by decide)
                      have bz332071' : gB z332071 0 0 := gB_t0 r332361
                      refine G_goto 383 dr_cX17_graph_314 (by decide +kernel) ?_
                      obtain ⟨z332362, hz332362⟩ : ∃ z : Int32, z = g332051 + Int32.ofInt 1 := ⟨_, rfl⟩
                      have ez332362 : z332362.toInt = g332051.toInt + 1 := gI_inc hz332362 (by decide) bg332051' (by decide) (by decide)
                      have bz332362 : gB z332362 1 2000 := ⟨by omega, by omega⟩
                      refine G_iinc (L' := [(3, .int z332362), (0, .ref q277559), (1, .ref q277560), (2, .int p277561)]) z332362 0 dr_cX17_graph_383 rfl hz332362.symm (Nat.le_of_ble_eq_true rfl) rfl ?_
                      refine G_goto 298 dr_cX17_graph_386 (by decide +kernel) ?_
                      exact ih298_332056 F332052 z332362 (gB_w bz332362 (by decide) (by decide)) hT332053 hs332054 x332055 x332056 (fun k e1 ht => kt298_332057 k e1 (fun R c1 c2 c3 => c3 F332052 g332051 f332070 z332071 z332362 k e1 bg332051 hT332053 hs332054 x332055 x332056 r332066 fq332067 he332069 hz332071 bz332071 r332361 ez332362 (ht R c1 c2 c3))) (mz_up ez332362 (Int.le_trans bg332051'.2 (by decide)) hm298_332056)
              exact hlp298_332056 (((2001 : Int) - 0).toNat + 1) F331707 0 (gB_w (gBl (show Int32.toInt 0 = 0 by decide)) (by decide) (by decide)) hT331708 hs331709 (fun h0 => by have z := x331710 h0; exact gq_al z (by omega)) x331711 (fun k e1 ht => ht) (Nat.lt_succ_self _)
            · have r332363 : g331706.toInt < p331722.toInt := gC_nle hc331745
              have bg331706' : gB g331706 0 999999 := ⟨by omega, by omega⟩
              have bp331722' : gB p331722 1 1000000 := ⟨by omega, by omega⟩
              refine G_aload_n 2 dr_cX17_graph_64 rfl ?_
              refine G_iload_n 0 dr_cX17_graph_65 rfl ?_
              have hm332364 : q331719 ∈ P277557 := RS_m hT331708 ht331723 (by decide)
              obtain ⟨⟨p332366, p332367, q332368, he332365, r332369, r332370, r332371, r332373⟩, r332372⟩ := show rk_4 D I γ el F331707 q331719 from RS_o hT331708 ht331723
              have bp332366 := gB_any p332366
              have bp332367 : gB p332367 0 1000000 := ⟨by omega, by omega⟩
              obtain ⟨r332374, r332375, n332382, f332383, r332376, r332377, r332378, r332379, r332380, r332381⟩ := rLC_n r332371 (by omega)
              have hm332384 : q332368 ∈ P277557 := RS_m hT331708 r332374 (by decide)
              obtain ⟨q332385, hx332386⟩ : ∃ x, x = el q331719 g331706.toInt.toNat := ⟨_, rfl⟩
              have fq332390 : fR (F331707 q277560) 0 = q331719 := by rw [he331718]; rfl
              have hx332387 : f332383 g331706.toNatClampNeg = some q332385 := (r332380 _ (show g331706.toInt.toNat < γ 2 q331719 by omega)).trans (by rw [hx332386])
              have ht332391 : rKd γ q332385 2 := by rw [hx332386]; exact (r331734 _ (by omega)).resolve_right (fun z => absurd z.1 (by omega))
              have ht332392 : rFm γ q332385 q331719 := by rw [hx332386]; exact (r332372 _ (show g331706.toInt.toNat < γ 2 q331719 by omega)).2.1
              have hm332393 : q332385 ∈ P277557 := RS_m hT331708 ht332391 (by decide)
              obtain ⟨q332395, q332396, p332397, p332398, he332394, ht332405, ht332399, ht332400, ht332401, ht332402, ht332403, bp332397, bp332398, r332404, r332406, r332407⟩ := show rk_2 γ q332385 (F331707 q332385) from RS_o hT331708 ht332391
              have fq332408 : fI (F331707 q331719) 2 = p332367 := by rw [he332365]; rfl
              refine Gw_callV (As := [.int g331706]) (gV_ok D I) (cp_7901_Code_get l hl0 D I P277557 F331707 q277560 q331719 q332368 g331706 q331720 p331721 p331722 p332366 p332367 f332383 n332382 q332385 q332395 q332396 p332397 p332398 hm331717 hm332364 hm332384 hm332393 he331718 he332365 r332376 he332394 (gB_w bg331706' (by decide) (by decide)) (gB_w bp332367 (by decide) (by decide)) (by omega) (by omega) (by assumption) (by omega)) dr_cX17_graph_66 ⟨wr_10_161, wr_1_15, wr_10_141, by decide, rfl, (Nat.le_of_ble_eq_true rfl), (Nat.le_of_ble_eq_true rfl)⟩ wr_10_139 wr_10_140 hm331717 he331718 rfl (show 0 + 0 ≤ 0 by first | omega | decide) (show 0 + 0 ≤ 0 by first | omega | decide) (Nat.le_of_ble_eq_true rfl) (fun r332412 w332413 dc332409 ds332410 hp332411 => ?_) (fun _ _ _ _ _ z => z.elim)
              obtain ⟨rfl, rfl, hdc, hds, ht332414⟩ := hp332411
              change G _ _ _ _ _ _ _ (.ref q332385 :: _) _ _ _
              refine G_widen (cs' := 0) (sl' := 0) (by omega) (by omega) ?_
              have hb332415 : el (γ 14 q277560) (g331706.toInt : Int).toNat = q332385 := by rw [ht331738.1, hx332386]
              refine G_astore (L' := [(4, .ref q332385), (3, .int g331706), (0, .ref q277559), (1, .ref q277560), (2, .int p277561)]) dr_cX17_graph_69 (Nat.le_of_ble_eq_true rfl) rfl ?_
              refine G_aload_n 2 dr_cX17_graph_71 rfl ?_
              refine G_aload 0 dr_cX17_graph_72 rfl ?_
              refine Gw_callV (As := [.ref q332385]) (gV_ok D I) (ct_281342_SpillForgeModel_behind l hl0 D I γ el P277557 F331707 q277559 q332385 hT331708 htq277559 ht332391) dr_cX17_graph_74 ⟨wr_10_162, wr_1_14, wr_10_165, by decide, rfl, (Nat.le_of_ble_eq_true rfl), (Nat.le_of_ble_eq_true rfl)⟩ wr_10_164 wr_p_95 hm331716 he331715 rfl (show 0 + 0 ≤ 0 by first | omega | decide) (show 0 + 0 ≤ 0 by first | omega | decide) (Nat.le_of_ble_eq_true rfl) (fun r332419 w332420 dc332416 ds332417 hp332418 => ?_) (fun _ _ _ _ _ z => z.elim)
              obtain ⟨F332424, rfl, rfl, hT332425, hs332426, hdc, hds, x332421, x332422, ht332423⟩ := hp332418
              have he332427 : F332424 q277560 = .inr (18, [.ref q331719, .ref q331720, .int p331721, .int p331722]) := (hs332426 q277560 (rT0 htq277560 (by decide)) (rT1 htq277560 (by decide)) (rT2 htq277560 (by decide))).trans he331718
              have he332428 : F332424 q331719 = .inr (4, [.int p332366, .ref q332368, .int p332367]) := (hs332426 q331719 (rT0 ht331723 (by decide)) (rT1 ht331723 (by decide)) (rT2 ht331723 (by decide))).trans he332365
              have he332429 : F332424 q332368 = .inl (I (.object "java/lang/Object"), n332382, .inr (.inr (.inr (.inr f332383)))) := (hs332426 q332368 (rT0 r332374 (by decide)) (rT1 r332374 (by decide)) (rT2 r332374 (by decide))).trans r332376
              have he332430 : F332424 q332385 = .inr (17, [.ref q332395, .ref q332396, .int p332397, .int p332398]) := (hs332426 q332385 (rT0 ht332391 (by decide)) (rT1 ht332391 (by decide)) (rT2 ht332391 (by decide))).trans he332394
              have hs332431 : rStr γ [] F277558 F332424 := rStr_tr hs331709 hs332426
              have kp332432 : F332424 q277559 = F277558 q277559 := (x332421).trans x331711
              have kp332433 : F332424 (γ 9 3) = F331707 (γ 9 3) := x332422
              have he332434 : F332424 q277559 = .inr (22, [.ref (γ 9 0), .ref (γ 9 1), .ref (γ 9 2), .ref (γ 9 3), .ref (γ 9 4), .ref (γ 9 5), .ref (γ 9 6), .ref (γ 9 7), .ref (γ 9 8), .int p277568, .int p277569, .int p277570, .int p277571, .int p277572, .int p277573, .ref (γ 9 15), .ref (γ 9 16), .ref (γ 9 17), .ref (γ 9 18), .ref (γ 9 19), .ref (γ 9 20), .ref (γ 9 21), .ref (γ 9 22), .int p277574, .int p277575, .int p277576, .int p277577, .int p277578, .ref q277566, .ref (γ 9 29), .int p277579, .ref (γ 9 31), .int p277580, .int p277581, .int p277582, .ref q277567]) := (x332421).trans he331715
              change G _ _ _ _ _ _ _ _ _ _ _
              refine G_widen (cs' := 0) (sl' := 0) (by omega) (by omega) ?_
              refine G_aload_n 2 dr_cX17_graph_77 rfl ?_
              refine G_aload 0 dr_cX17_graph_78 rfl ?_
              have fq332435 : fR (F332424 q332385) 1 = q332396 := by rw [he332430]; rfl
              refine Gp_get 1 hm332393 he332430 dr_cX17_graph_80 (gk_X12 D I) (Nat.le_of_ble_eq_true rfl) wr_9_223 rfl ?_
              refine G_iload_n 4 dr_cX17_graph_83 rfl ?_
              refine Gw_callV (As := [.ref q332396, .int p277561]) (gV_ok D I) (ct_284091_SpillForgeModel_stand l hl0 D I γ el P277557 F332424 q277559 q332396 p277561 hT332425 htq277559 ht332401 bp277561) dr_cX17_graph_84 ⟨wr_10_237, wr_1_14, wr_11_0, by decide, rfl, (Nat.le_of_ble_eq_true rfl), (Nat.le_of_ble_eq_true rfl)⟩ wr_10_239 wr_p_100 hm331716 he332434 rfl (show 0 + 0 ≤ 0 by first | omega | decide) (show 0 + 0 ≤ 0 by first | omega | decide) (Nat.le_of_ble_eq_true rfl) (fun r332439 w332440 dc332436 ds332437 hp332438 => ?_) (fun _ _ _ _ _ z => z.elim)
              obtain ⟨F332444, rfl, rfl, hT332445, hs332446, hdc, hds, x332441, x332442, ht332443⟩ := hp332438
              have he332447 : F332444 q277560 = .inr (18, [.ref q331719, .ref q331720, .int p331721, .int p331722]) := (hs332446 q277560 (rT0 htq277560 (by decide)) (rT1 htq277560 (by decide)) (rT2 htq277560 (by decide))).trans he332427
              have he332448 : F332444 q331719 = .inr (4, [.int p332366, .ref q332368, .int p332367]) := (hs332446 q331719 (rT0 ht331723 (by decide)) (rT1 ht331723 (by decide)) (rT2 ht331723 (by decide))).trans he332428
              have he332449 : F332444 q332368 = .inl (I (.object "java/lang/Object"), n332382, .inr (.inr (.inr (.inr f332383)))) := (hs332446 q332368 (rT0 r332374 (by decide)) (rT1 r332374 (by decide)) (rT2 r332374 (by decide))).trans he332429
              have he332450 : F332444 q332385 = .inr (17, [.ref q332395, .ref q332396, .int p332397, .int p332398]) := (hs332446 q332385 (rT0 ht332391 (by decide)) (rT1 ht332391 (by decide)) (rT2 ht332391 (by decide))).trans he332430
              have hs332451 : rStr γ [] F277558 F332444 := rStr_tr hs332431 hs332446
              have kp332452 : F332444 q277559 = F277558 q277559 := (x332442).trans kp332432
              have he332453 : F332444 q277559 = .inr (22, [.ref (γ 9 0), .ref (γ 9 1), .ref (γ 9 2), .ref (γ 9 3), .ref (γ 9 4), .ref (γ 9 5), .ref (γ 9 6), .ref (γ 9 7), .ref (γ 9 8), .int p277568, .int p277569, .int p277570, .int p277571, .int p277572, .int p277573, .ref (γ 9 15), .ref (γ 9 16), .ref (γ 9 17), .ref (γ 9 18), .ref (γ 9 19), .ref (γ 9 20), .ref (γ 9 21), .ref (γ 9 22), .int p277574, .int p277575, .int p277576, .int p277577, .int p277578, .ref q277566, .ref (γ 9 29), .int p277579, .ref (γ 9 31), .int p277580, .int p277581, .int p277582, .ref q277567]) := (x332442).trans he332434
              change G _ _ _ _ _ _ _ _ _ _ _
              refine G_widen (cs' := 0) (sl' := 0) (by omega) (by omega) ?_
              have hb332454 : el (γ 14 q277560) (g331706.toInt : Int).toNat = q332385 := hb332415
              have hL332455 : rwL γ el q277560 (g331706.toInt : Int).toNat = q332395 := by unfold rwL; rw [hb332454]; exact ht332405.1
              have hs332456 : F332424 q332396 = F277558 q332396 := hs332431 q332396 (rT0 ht332401 (by decide)) (rT1 ht332401 (by decide)) (rT2 ht332401 (by decide))
              have gr332457 : gIp (p277561.toInt = 0) (rGr γ el F277558 q277560 (γ 6 (γ 1 q277560)) (cB (F332444 (γ 9 3))) (vB (g331706.toInt : Int).toNat (γ 2 q332395))) := fun h0 => gq_end (x331710 h0) (fun m => by have z := x332441 h0 m; rw [kp332433, hs332456] at z; exact z) ((rAt_e hb332454 ht332405.1 (Nat.le_refl _)).trans ht332405.2.1) (show (g331706.toInt : Int).toNat < γ 6 (γ 1 q277560) by omega) (by rw [hL332455])
              refine G_aload_n 2 dr_cX17_graph_87 rfl ?_
              refine G_aload 0 dr_cX17_graph_88 rfl ?_
              have fq332458 : fR (F332444 q332385) 1 = q332396 := by rw [he332450]; rfl
              refine Gp_get 1 hm332393 he332450 dr_cX17_graph_90 (gk_X12 D I) (Nat.le_of_ble_eq_true rfl) wr_9_223 rfl ?_
              refine G_iload_n 4 dr_cX17_graph_93 rfl ?_
              refine Gw_callV (As := [.ref q332396, .int p277561]) (gV_ok D I) (ct_284394_SpillForgeModel_back l hl0 D I γ el P277557 F332444 q277559 q332396 p277561 hT332445 htq277559 ht332401 bp277561) dr_cX17_graph_94 ⟨wr_10_174, wr_1_14, wr_10_177, by decide, rfl, (Nat.le_of_ble_eq_true rfl), (Nat.le_of_ble_eq_true rfl)⟩ wr_10_176 wr_p_96 hm331716 he332453 rfl (show 0 + 0 ≤ 0 by first | omega | decide) (show 0 + 0 ≤ 0 by first | omega | decide) (Nat.le_of_ble_eq_true rfl) (fun r332462 w332463 dc332459 ds332460 hp332461 => ?_) (fun _ _ _ _ _ z => z.elim)
              obtain ⟨F332467, rfl, rfl, hT332468, hs332469, hdc, hds, x332464, x332465, ht332466⟩ := hp332461
              have he332470 : F332467 q277560 = .inr (18, [.ref q331719, .ref q331720, .int p331721, .int p331722]) := (hs332469 q277560 (rT0 htq277560 (by decide)) (rT1 htq277560 (by decide)) (rT2 htq277560 (by decide))).trans he332447
              have he332471 : F332467 q331719 = .inr (4, [.int p332366, .ref q332368, .int p332367]) := (hs332469 q331719 (rT0 ht331723 (by decide)) (rT1 ht331723 (by decide)) (rT2 ht331723 (by decide))).trans he332448
              have he332472 : F332467 q332368 = .inl (I (.object "java/lang/Object"), n332382, .inr (.inr (.inr (.inr f332383)))) := (hs332469 q332368 (rT0 r332374 (by decide)) (rT1 r332374 (by decide)) (rT2 r332374 (by decide))).trans he332449
              have he332473 : F332467 q332385 = .inr (17, [.ref q332395, .ref q332396, .int p332397, .int p332398]) := (hs332469 q332385 (rT0 ht332391 (by decide)) (rT1 ht332391 (by decide)) (rT2 ht332391 (by decide))).trans he332450
              have hs332474 : rStr γ [] F277558 F332467 := rStr_tr hs332451 hs332469
              have kp332475 : F332467 q277559 = F277558 q277559 := (x332464).trans kp332452
              have kp332476 : F332467 (γ 9 3) = F332444 (γ 9 3) := x332465
              have he332477 : F332467 q277559 = .inr (22, [.ref (γ 9 0), .ref (γ 9 1), .ref (γ 9 2), .ref (γ 9 3), .ref (γ 9 4), .ref (γ 9 5), .ref (γ 9 6), .ref (γ 9 7), .ref (γ 9 8), .int p277568, .int p277569, .int p277570, .int p277571, .int p277572, .int p277573, .ref (γ 9 15), .ref (γ 9 16), .ref (γ 9 17), .ref (γ 9 18), .ref (γ 9 19), .ref (γ 9 20), .ref (γ 9 21), .ref (γ 9 22), .int p277574, .int p277575, .int p277576, .int p277577, .int p277578, .ref q277566, .ref (γ 9 29), .int p277579, .ref (γ 9 31), .int p277580, .int p277581, .int p277582, .ref q277567]) := (x332464).trans he332453
              change G _ _ _ _ _ _ _ _ _ _ _
              refine G_widen (cs' := 0) (sl' := 0) (by omega) (by omega) ?_
              refine G_aload 0 dr_cX17_graph_97 rfl ?_
              have fq332478 : fR (F332467 q332385) 0 = q332395 := by rw [he332473]; rfl
              refine Gp_get 0 hm332393 he332473 dr_cX17_graph_99 (gk_X12 D I) (Nat.le_of_ble_eq_true rfl) wr_9_220 rfl ?_
              have fl332479 : γ 2 (γ 14 q332385) = γ 2 q332395 := by rw [ht332405.1]
              have hm332480 : q332395 ∈ P277557 := RS_m hT332468 ht332399 (by decide)
              obtain ⟨⟨p332482, p332483, q332484, he332481, r332485, r332486, r332487, r332489⟩, r332488⟩ := show rk_3 D I γ el F332467 q332395 from RS_o hT332468 ht332399
              have bp332482 := gB_any p332482
              have bp332483 : gB p332483 0 1000000 := ⟨by omega, by omega⟩
              have fq332490 : p332483.toInt = (γ 2 q332395 : Int) := by omega
              have fq332491 : fI (F332467 q332395) 2 = p332483 := by rw [he332481]; rfl
              refine Gw_callV (As := []) (gV_ok D I) (cp_7_ArrayList_size l hl0 D I P277557 F332467 q332395 p332482 q332484 p332483 hm332480 he332481 (gB_w bp332483 (by decide) (by decide))) dr_cX17_graph_102 ⟨wr_10_200, wr_1_18, wr_9_160, by decide, rfl, (Nat.le_of_ble_eq_true rfl), (Nat.le_of_ble_eq_true rfl)⟩ wr_9_158 wr_9_159 hm332480 he332481 rfl (show 0 + 0 ≤ 0 by first | omega | decide) (show 0 + 0 ≤ 0 by first | omega | decide) (Nat.le_of_ble_eq_true rfl) (fun r332495 w332496 dc332492 ds332493 hp332494 => ?_) (fun _ _ _ _ _ z => z.elim)
              obtain ⟨rfl, rfl, hdc, hds⟩ := hp332494
              change G _ _ _ _ _ _ _ (.int p332483 :: _) _ _ _
              refine G_widen (cs' := 0) (sl' := 0) (by omega) (by omega) ?_
              refine G_iconst 1 dr_cX17_graph_105 (by decide +kernel) ?_
              refine G_isub dr_cX17_graph_106 (G_nam fun z332497 hz332497 => ?_)
              have ez332497 : z332497.toInt = p332483.toInt - 1 := by rw [gI_sub hz332497 bp332483 (gBl (show Int32.toInt 1 = 1 by decide)) (by decide) (by decide), show Int32.toInt 1 = 1 from by decide]
              have bz332497 : gB z332497 (-1) 999999 := gB_sub (gI_sub hz332497 bp332483 (gBl (show Int32.toInt 1 = 1 by decide)) (by decide) (by decide)) bp332483 (gBl (show Int32.toInt 1 = 1 by decide)) (by decide) (by decide)
              refine G_istore (L' := [(5, .int z332497), (4, .ref q332385), (3, .int g331706), (0, .ref q277559), (1, .ref q277560), (2, .int p277561)]) dr_cX17_graph_107 (Nat.le_of_ble_eq_true rfl) rfl ?_
              have hlp109_334185 : ∀ (n109_334185 : Nat) (F334180 : Nat → va_E) (g334179 : Int32), gB g334179 (-1) 999999 → RS D I P277557 F334180 γ el → rStr γ [] F277558 F334180 → ((g334179.toInt : Int) < γ 2 (γ 14 q332385)) → (gIp (p277561.toInt = 0) (rGr γ el F277558 q277560 (γ 6 (γ 1 q277560)) (cB (F334180 (γ 9 3))) (vB (g331706.toInt : Int).toNat (g334179.toInt + 1 : Int).toNat))) → (F334180 q277559 = F277558 q277559) → (∀ (k : Nat) (e1 : Nat → va_E), tl_RModel_graph_109 D I γ el P277557 F277558 q332385 p277561 q277560 g331706 q277559 F334180 g334179 k e1 → tl_RModel_graph_109 D I γ el P277557 F277558 q332385 p277561 q277560 g331706 q277559 F332467 z332497 k e1) → ((g334179.toInt : Int) - (-2)).toNat < n109_334185 → G (gV D I) l (gRm 5 111 0 0) (gMA (gV D I) (pt_277563_SpillForgeModel_graph D I γ el P277557 F277558 q277559 q277560 p277561) gNA 0 0) ky_277563_SpillForgeModel_graph 109 [(5, .int g334179), (4, .ref q332385), (3, .int g331706), (0, .ref q277559), (1, .ref q277560), (2, .int p277561)] [] (va_pl P277557 F334180) 0 0 := by
                intro n109_334185
                induction n109_334185 with
                | zero => intro F334180 g334179 bg334179 hT334181 hs334182 x334183 x334184 x334185 kt109_334186 hm109_334185; exact absurd hm109_334185 (Nat.not_lt_zero _)
                | succ n109_334185 ih109_334185 =>
                  intro F334180 g334179 bg334179 hT334181 hs334182 x334183 x334184 x334185 kt109_334186 hm109_334185
                  have hs334187 : rStr γ [] F332467 F334180 := fun b h0 hb hw => (hs334182 b h0 hb hw).trans (hs332474 b h0 hb hw).symm
                  have he334188 : F334180 q277560 = .inr (18, [.ref q331719, .ref q331720, .int p331721, .int p331722]) := (hs334187 q277560 (rT0 htq277560 (by decide)) (rT1 htq277560 (by decide)) (rT2 htq277560 (by decide))).trans he332470
                  have he334189 : F334180 q331719 = .inr (4, [.int p332366, .ref q332368, .int p332367]) := (hs334187 q331719 (rT0 ht331723 (by decide)) (rT1 ht331723 (by decide)) (rT2 ht331723 (by decide))).trans he332471
                  have he334190 : F334180 q332368 = .inl (I (.object "java/lang/Object"), n332382, .inr (.inr (.inr (.inr f332383)))) := (hs334187 q332368 (rT0 r332374 (by decide)) (rT1 r332374 (by decide)) (rT2 r332374 (by decide))).trans he332472
                  have he334191 : F334180 q332385 = .inr (17, [.ref q332395, .ref q332396, .int p332397, .int p332398]) := (hs334187 q332385 (rT0 ht332391 (by decide)) (rT1 ht332391 (by decide)) (rT2 ht332391 (by decide))).trans he332473
                  have he334192 : F334180 q332395 = .inr (4, [.int p332482, .ref q332484, .int p332483]) := (hs334187 q332395 (rT0 ht332399 (by decide)) (rT1 ht332399 (by decide)) (rT2 ht332399 (by decide))).trans he332481
                  have hs334193 : rStr γ [] F277558 F334180 := rStr_tr hs332474 hs334187
                  have he334194 : F334180 q277559 = .inr (22, [.ref (γ 9 0), .ref (γ 9 1), .ref (γ 9 2), .ref (γ 9 3), .ref (γ 9 4), .ref (γ 9 5), .ref (γ 9 6), .ref (γ 9 7), .ref (γ 9 8), .int p277568, .int p277569, .int p277570, .int p277571, .int p277572, .int p277573, .ref (γ 9 15), .ref (γ 9 16), .ref (γ 9 17), .ref (γ 9 18), .ref (γ 9 19), .ref (γ 9 20), .ref (γ 9 21), .ref (γ 9 22), .int p277574, .int p277575, .int p277576, .int p277577, .int p277578, .ref q277566, .ref (γ 9 29), .int p277579, .ref (γ 9 31), .int p277580, .int p277581, .int p277582, .ref q277567]) := x334185.trans he277565
                  have hm334195 : q277559 ∈ P277557 := RS_m hT334181 htq277559 (by decide)
                  refine G_iload 0 dr_cX17_graph_109 rfl ?_
                  refine G_if_lt 290 dr_cX17_graph_111 (by decide +kernel) (fun hc334196 => ?_) (fun hc334196 => ?_)
                  · have r334197 : g334179.toInt < 0 := gj_lt hc334196 (show Int32.toInt 0 = 0 by decide)
                    have bg334179' : gB g334179 (-1) (-1) := ⟨by omega, by omega⟩
                    have hx334198 : tl_RModel_graph_109 D I γ el P277557 F277558 q332385 p277561 q277560 g331706 q277559 F332467 z332497 290 F334180 := kt109_334186 290 F334180 (fun R c1 c2 c3 c4 c5 c6 c7 c8 c9 c10 c11 => c1 F334180 g334179 bg334179 hT334181 hs334182 x334183 x334184 x334185 r334197)
                    obtain ⟨z334199, hz334199⟩ : ∃ z : Int32, z = g331706 + Int32.ofInt 1 := ⟨_, rfl⟩
                    have ez334199 : z334199.toInt = g331706.toInt + 1 := gI_inc hz334199 (by decide) bg331706' (by decide) (by decide)
                    have bz334199 : gB z334199 1 1000000 := ⟨by omega, by omega⟩
                    refine G_iinc (L' := [(3, .int z334199), (5, .int g334179), (4, .ref q332385), (0, .ref q277559), (1, .ref q277560), (2, .int p277561)]) z334199 2 dr_cX17_graph_290 rfl hz334199.symm (Nat.le_of_ble_eq_true rfl) rfl ?_
                    refine G_goto 56 dr_cX17_graph_293 (by decide +kernel) ?_
                    refine G_lv (L' := [(3, .int z334199), (0, .ref q277559), (1, .ref q277560), (2, .int p277561)]) [0, 3, 4, 5] rfl ?_
                    exact ih56_331711 F334180 z334199 (gB_w bz334199 (by decide) (by decide)) hT334181 hs334182 (fun h0 => by have z := x334184 h0; exact gq_nx z (by omega) (by rw [ez334199]; omega)) x334185 (fun k e1 ht => kt56_331712 k e1 (fun R c1 c2 => c2 F331707 g331706 p331722 q331719 q332385 p332367 F332424 q332396 F332444 F332467 q332395 p332483 z332497 F334180 z334199 k e1 bg331706 hT331708 hs331709 x331710 x331711 fq331739 r332363 fq332390 hx332386 fq332408 ht332414 hT332425 hs332426 x332421 x332422 ht332423 fq332435 hT332445 hs332446 x332441 x332442 ht332443 fq332458 hT332468 hs332469 x332464 x332465 ht332466 fq332478 fq332490 fq332491 ez332497 hx334198 ez334199 (ht R c1 c2))) (mz_up ez334199 (Int.le_trans bg331706'.2 (by decide)) hm56_331711)
                  · have r334200 : 0 ≤ g334179.toInt := gj_nlt hc334196 (show Int32.toInt 0 = 0 by decide)
                    have bg334179' : gB g334179 0 999999 := ⟨by omega, by omega⟩
                    refine G_aload 1 dr_cX17_graph_114 rfl ?_
                    have fq334201 : fR (F334180 q332385) 0 = q332395 := by rw [he334191]; rfl
                    refine Gp_get 0 hm332393 he334191 dr_cX17_graph_116 (gk_X12 D I) (Nat.le_of_ble_eq_true rfl) wr_9_220 rfl ?_
                    refine G_iload 0 dr_cX17_graph_119 rfl ?_
                    have fl334202 : γ 2 (γ 14 q332385) = γ 2 q332395 := by rw [ht332405.1]
                    have hm334203 : q332395 ∈ P277557 := RS_m hT334181 ht332399 (by decide)
                    obtain ⟨⟨p334205, p334206, q334207, he334204, r334208, r334209, r334210, r334212⟩, r334211⟩ := show rk_3 D I γ el F334180 q332395 from RS_o hT334181 ht332399
                    have bp334205 := gB_any p334205
                    have bp334206 : gB p334206 0 1000000 := ⟨by omega, by omega⟩
                    obtain ⟨r334213, r334214, n334221, f334222, r334215, r334216, r334217, r334218, r334219, r334220⟩ := rLC_n r334210 (by omega)
                    have hm334223 : q334207 ∈ P277557 := RS_m hT334181 r334213 (by decide)
                    obtain ⟨q334224, hx334225⟩ : ∃ x, x = el q332395 g334179.toInt.toNat := ⟨_, rfl⟩
                    have hx334226 : f334222 g334179.toNatClampNeg = some q334224 := (r334219 _ (show g334179.toInt.toNat < γ 2 q332395 by omega)).trans (by rw [hx334225])
                    have ht334227 : rKd γ q334224 1 := by rw [hx334225]; exact (r334211 _ (show g334179.toInt.toNat < γ 2 q332395 by omega)).1
                    have ht334228 : rFm γ q334224 q332395 := by rw [hx334225]; exact (r334211 _ (show g334179.toInt.toNat < γ 2 q332395 by omega)).2.1
                    have fq334229 : fI (F334180 q332395) 2 = p334206 := by rw [he334204]; rfl
                    refine Gw_callV (As := [.int g334179]) (gV_ok D I) (cp_22_ArrayList_get l hl0 D I P277557 F334180 q332395 q334207 g334179 p334205 p334206 f334222 n334221 q334224 hm334203 hm334223 he334204 r334215 (gB_w bg334179' (by decide) (by decide)) (gB_w bp334206 (by decide) (by decide)) (by omega) (by omega) (by assumption) (by omega)) dr_cX17_graph_121 ⟨wr_10_201, wr_1_18, wr_10_65, by decide, rfl, (Nat.le_of_ble_eq_true rfl), (Nat.le_of_ble_eq_true rfl)⟩ wr_10_63 wr_10_64 hm334203 he334204 rfl (show 0 + 0 ≤ 0 by first | omega | decide) (show 0 + 0 ≤ 0 by first | omega | decide) (Nat.le_of_ble_eq_true rfl) (fun r334233 w334234 dc334230 ds334231 hp334232 => ?_) (fun _ _ _ _ _ z => z.elim)
                    obtain ⟨rfl, rfl, hdc, hds, ht334235⟩ := hp334232
                    change G _ _ _ _ _ _ _ (.ref q334224 :: _) _ _ _
                    refine G_widen (cs' := 0) (sl' := 0) (by omega) (by omega) ?_
                    have hr334236 : el q332395 (g334179.toInt : Int).toNat = q334224 := by rw [hx334225]
                    have hm334237 : q334224 ∈ P277557 := RS_m hT334181 ht334227 (by decide)
                    obtain ⟨p334239, p334240, p334241, p334242, p334243, p334244, p334245, he334238, bp334239, bp334240, bp334243, bp334244, bp334245, r334246, r334247, r334248, r334249, r334250⟩ := show rk_1 γ q334224 (F334180 q334224) from RS_o hT334181 ht334227
                    have bp334241 := gB_any p334241
                    have bp334242 := gB_any p334242
                    refine Gp_cast hm334237 he334238 rfl dr_cX17_graph_124 wr_10_202 (gr_cast 1 rfl) ?_
                    refine G_astore (L' := [(6, .ref q334224), (5, .int g334179), (4, .ref q332385), (3, .int g331706), (0, .ref q277559), (1, .ref q277560), (2, .int p277561)]) dr_cX17_graph_127 (Nat.le_of_ble_eq_true rfl) rfl ?_
                    refine G_aload_n 4 dr_cX17_graph_129 rfl ?_
                    refine G_aload 0 dr_cX17_graph_130 rfl ?_
                    refine G_iload_n 6 dr_cX17_graph_132 rfl ?_
                    refine Gw_callV (As := [.ref q334224, .int p277561]) (gV_ok D I) (ct_284091_SpillForgeModel_stand l hl0 D I γ el P277557 F334180 q277559 q334224 p277561 hT334181 htq277559 ht334227 bp277561) dr_cX17_graph_133 ⟨wr_10_237, wr_1_14, wr_11_0, by decide, rfl, (Nat.le_of_ble_eq_true rfl), (Nat.le_of_ble_eq_true rfl)⟩ wr_10_239 wr_p_100 hm334195 he334194 rfl (show 0 + 0 ≤ 0 by first | omega | decide) (show 0 + 0 ≤ 0 by first | omega | decide) (Nat.le_of_ble_eq_true rfl) (fun r334254 w334255 dc334251 ds334252 hp334253 => ?_) (fun _ _ _ _ _ z => z.elim)
                    obtain ⟨F334259, rfl, rfl, hT334260, hs334261, hdc, hds, x334256, x334257, ht334258⟩ := hp334253
                    have he334262 : F334259 q277560 = .inr (18, [.ref q331719, .ref q331720, .int p331721, .int p331722]) := (hs334261 q277560 (rT0 htq277560 (by decide)) (rT1 htq277560 (by decide)) (rT2 htq277560 (by decide))).trans he334188
                    have he334263 : F334259 q331719 = .inr (4, [.int p332366, .ref q332368, .int p332367]) := (hs334261 q331719 (rT0 ht331723 (by decide)) (rT1 ht331723 (by decide)) (rT2 ht331723 (by decide))).trans he334189
                    have he334264 : F334259 q332368 = .inl (I (.object "java/lang/Object"), n332382, .inr (.inr (.inr (.inr f332383)))) := (hs334261 q332368 (rT0 r332374 (by decide)) (rT1 r332374 (by decide)) (rT2 r332374 (by decide))).trans he334190
                    have he334265 : F334259 q332385 = .inr (17, [.ref q332395, .ref q332396, .int p332397, .int p332398]) := (hs334261 q332385 (rT0 ht332391 (by decide)) (rT1 ht332391 (by decide)) (rT2 ht332391 (by decide))).trans he334191
                    have he334266 : F334259 q332395 = .inr (4, [.int p334205, .ref q334207, .int p334206]) := (hs334261 q332395 (rT0 ht332399 (by decide)) (rT1 ht332399 (by decide)) (rT2 ht332399 (by decide))).trans he334204
                    have he334267 : F334259 q334207 = .inl (I (.object "java/lang/Object"), n334221, .inr (.inr (.inr (.inr f334222)))) := (hs334261 q334207 (rT0 r334213 (by decide)) (rT1 r334213 (by decide)) (rT2 r334213 (by decide))).trans r334215
                    have he334268 : F334259 q334224 = .inr (20, [.int p334239, .int p334240, .int p334241, .int p334242, .int p334243, .int p334244, .int p334245]) := (hs334261 q334224 (rT0 ht334227 (by decide)) (rT1 ht334227 (by decide)) (rT2 ht334227 (by decide))).trans he334238
                    have hs334269 : rStr γ [] F277558 F334259 := rStr_tr hs334182 hs334261
                    have kp334270 : F334259 q277559 = F277558 q277559 := (x334257).trans x334185
                    have he334271 : F334259 q277559 = .inr (22, [.ref (γ 9 0), .ref (γ 9 1), .ref (γ 9 2), .ref (γ 9 3), .ref (γ 9 4), .ref (γ 9 5), .ref (γ 9 6), .ref (γ 9 7), .ref (γ 9 8), .int p277568, .int p277569, .int p277570, .int p277571, .int p277572, .int p277573, .ref (γ 9 15), .ref (γ 9 16), .ref (γ 9 17), .ref (γ 9 18), .ref (γ 9 19), .ref (γ 9 20), .ref (γ 9 21), .ref (γ 9 22), .int p277574, .int p277575, .int p277576, .int p277577, .int p277578, .ref q277566, .ref (γ 9 29), .int p277579, .ref (γ 9 31), .int p277580, .int p277581, .int p277582, .ref q277567]) := (x334257).trans he334194
                    change G _ _ _ _ _ _ _ _ _ _ _
                    refine G_widen (cs' := 0) (sl' := 0) (by omega) (by omega) ?_
                    have hb334272 : el (γ 14 q277560) (g331706.toInt : Int).toNat = q332385 := hb332415
                    have hL334273 : rwL γ el q277560 (g331706.toInt : Int).toNat = q332395 := by unfold rwL; rw [hb334272]; exact ht332405.1
                    have hs334274 : F334180 q334224 = F277558 q334224 := hs334182 q334224 (rT0 ht334227 (by decide)) (rT1 ht334227 (by decide)) (rT2 ht334227 (by decide))
                    have gr334275 : gIp (p277561.toInt = 0) (rGr γ el F277558 q277560 (γ 6 (γ 1 q277560)) (cB (F334259 (γ 9 3))) (vB (g331706.toInt : Int).toNat (g334179.toInt : Int).toNat)) := fun h0 => gq_row (x334184 h0) (fun m => by have z := x334256 h0 m; rw [hs334274] at z; exact z) ((rAt_r hb334272 ht332405.1 (by omega)).trans hr334236) (show (g331706.toInt : Int).toNat < γ 6 (γ 1 q277560) by omega) (by rw [hL334273]; omega) (by omega)
                    refine G_aload 0 dr_cX17_graph_136 rfl ?_
                    refine G_iload_n 6 dr_cX17_graph_138 rfl ?_
                    have fq334276 : fI (F334259 q334224) 0 = p334239 := by rw [he334268]; rfl
                    have fq334277 : fI (F334259 q334224) 1 = p334240 := by rw [he334268]; rfl
                    have fq334278 : fI (F334259 q334224) 4 = p334243 := by rw [he334268]; rfl
                    refine Gw_callS (As := [.ref q334224, .int p277561]) (gV_ok D I) (cp_1784_SpillForgeModel_setOf l hl0 D I P277557 F334259 q334224 p277561 p334239 p334240 p334241 p334242 p334243 p334244 p334245 hm334237 he334268 bp277561 bp334239 bp334240 bp334243 bp334244 bp334245) dr_cX17_graph_139 ⟨wr_10_178, wr_1_14, wr_10_180, by decide, rfl, (Nat.le_of_ble_eq_true rfl), (Nat.le_of_ble_eq_true rfl)⟩ wr_10_179 (show 0 + 0 ≤ 0 by first | omega | decide) (show 0 + 0 ≤ 0 by first | omega | decide) (Nat.le_of_ble_eq_true rfl) (fun r334282 w334283 dc334279 ds334280 hp334281 => ?_) (fun _ _ _ _ _ z => z.elim)
                    obtain ⟨o334284, rfl, rfl, hdc, hds, bo334284, ht334285⟩ := hp334281
                    change G _ _ _ _ _ _ _ (.int o334284 :: _) _ _ _
                    refine G_widen (cs' := 0) (sl' := 0) (by omega) (by omega) ?_
                    refine G_istore (L' := [(7, .int o334284), (6, .ref q334224), (5, .int g334179), (4, .ref q332385), (3, .int g331706), (0, .ref q277559), (1, .ref q277560), (2, .int p277561)]) dr_cX17_graph_142 (Nat.le_of_ble_eq_true rfl) rfl ?_
                    refine G_iload_n 7 dr_cX17_graph_144 rfl ?_
                    refine G_if_ne 172 dr_cX17_graph_145 (by decide +kernel) (fun hc334286 => ?_) (fun hc334286 => ?_)
                    · have r334287 : p277561.toInt ≠ 0 := gj_neq hc334286 (show Int32.toInt 0 = 0 by decide)
                      have bp277561' : gB p277561 1 1 := gB_t1 bp277561 r334287
                      refine G_iconst (-1) dr_cX17_graph_172 (by decide +kernel) ?_
                      refine G_istore (L' := [(8, .int (-1)), (7, .int o334284), (6, .ref q334224), (5, .int g334179), (4, .ref q332385), (3, .int g331706), (0, .ref q277559), (1, .ref q277560), (2, .int p277561)]) dr_cX17_graph_173 (Nat.le_of_ble_eq_true rfl) rfl ?_
                      refine G_iload 1 dr_cX17_graph_175 rfl ?_
                      refine G_if_lt 277 dr_cX17_graph_177 (by decide +kernel) (fun hc334288 => ?_) (fun hc334288 => ?_)
                      · have r334289 : o334284.toInt < 0 := gj_lt hc334288 (show Int32.toInt 0 = 0 by decide)
                        have bo334284' : gB o334284 (-1) (-1) := ⟨by omega, by omega⟩
                        refine G_aload_n 6 dr_cX17_graph_277 rfl ?_
                        refine G_aload 2 dr_cX17_graph_278 rfl ?_
                        refine G_iload_n 8 dr_cX17_graph_280 rfl ?_
                        refine Gw_callV (As := [.ref q334224, .int p277561]) (gV_ok D I) (ct_284394_SpillForgeModel_back l hl0 D I γ el P277557 F334259 q277559 q334224 p277561 hT334260 htq277559 ht334227 (gB_w bp277561' (by decide) (by decide))) dr_cX17_graph_281 ⟨wr_10_174, wr_1_14, wr_10_177, by decide, rfl, (Nat.le_of_ble_eq_true rfl), (Nat.le_of_ble_eq_true rfl)⟩ wr_10_176 wr_p_96 hm334195 he334271 rfl (show 0 + 0 ≤ 0 by first | omega | decide) (show 0 + 0 ≤ 0 by first | omega | decide) (Nat.le_of_ble_eq_true rfl) (fun r334293 w334294 dc334290 ds334291 hp334292 => ?_) (fun _ _ _ _ _ z => z.elim)
                        obtain ⟨F334298, rfl, rfl, hT334299, hs334300, hdc, hds, x334295, x334296, ht334297⟩ := hp334292
                        have he334301 : F334298 q277560 = .inr (18, [.ref q331719, .ref q331720, .int p331721, .int p331722]) := (hs334300 q277560 (rT0 htq277560 (by decide)) (rT1 htq277560 (by decide)) (rT2 htq277560 (by decide))).trans he334262
                        have he334302 : F334298 q331719 = .inr (4, [.int p332366, .ref q332368, .int p332367]) := (hs334300 q331719 (rT0 ht331723 (by decide)) (rT1 ht331723 (by decide)) (rT2 ht331723 (by decide))).trans he334263
                        have he334303 : F334298 q332368 = .inl (I (.object "java/lang/Object"), n332382, .inr (.inr (.inr (.inr f332383)))) := (hs334300 q332368 (rT0 r332374 (by decide)) (rT1 r332374 (by decide)) (rT2 r332374 (by decide))).trans he334264
                        have he334304 : F334298 q332385 = .inr (17, [.ref q332395, .ref q332396, .int p332397, .int p332398]) := (hs334300 q332385 (rT0 ht332391 (by decide)) (rT1 ht332391 (by decide)) (rT2 ht332391 (by decide))).trans he334265
                        have he334305 : F334298 q332395 = .inr (4, [.int p334205, .ref q334207, .int p334206]) := (hs334300 q332395 (rT0 ht332399 (by decide)) (rT1 ht332399 (by decide)) (rT2 ht332399 (by decide))).trans he334266
                        have he334306 : F334298 q334207 = .inl (I (.object "java/lang/Object"), n334221, .inr (.inr (.inr (.inr f334222)))) := (hs334300 q334207 (rT0 r334213 (by decide)) (rT1 r334213 (by decide)) (rT2 r334213 (by decide))).trans he334267
                        have he334307 : F334298 q334224 = .inr (20, [.int p334239, .int p334240, .int p334241, .int p334242, .int p334243, .int p334244, .int p334245]) := (hs334300 q334224 (rT0 ht334227 (by decide)) (rT1 ht334227 (by decide)) (rT2 ht334227 (by decide))).trans he334268
                        have hs334308 : rStr γ [] F277558 F334298 := rStr_tr hs334269 hs334300
                        have kp334309 : F334298 q277559 = F277558 q277559 := (x334295).trans kp334270
                        have kp334310 : F334298 (γ 9 3) = F334259 (γ 9 3) := x334296
                        have he334311 : F334298 q277559 = .inr (22, [.ref (γ 9 0), .ref (γ 9 1), .ref (γ 9 2), .ref (γ 9 3), .ref (γ 9 4), .ref (γ 9 5), .ref (γ 9 6), .ref (γ 9 7), .ref (γ 9 8), .int p277568, .int p277569, .int p277570, .int p277571, .int p277572, .int p277573, .ref (γ 9 15), .ref (γ 9 16), .ref (γ 9 17), .ref (γ 9 18), .ref (γ 9 19), .ref (γ 9 20), .ref (γ 9 21), .ref (γ 9 22), .int p277574, .int p277575, .int p277576, .int p277577, .int p277578, .ref q277566, .ref (γ 9 29), .int p277579, .ref (γ 9 31), .int p277580, .int p277581, .int p277582, .ref q277567]) := (x334295).trans he334271
                        change G _ _ _ _ _ _ _ _ _ _ _
                        refine G_widen (cs' := 0) (sl' := 0) (by omega) (by omega) ?_
                        obtain ⟨z334312, hz334312⟩ : ∃ z : Int32, z = g334179 + Int32.ofInt (-1) := ⟨_, rfl⟩
                        have ez334312 : z334312.toInt = g334179.toInt + (-1) := gI_inc hz334312 (by decide) bg334179' (by decide) (by decide)
                        have bz334312 : gB z334312 (-1) 999998 := ⟨by omega, by omega⟩
                        refine G_iinc (L' := [(5, .int z334312), (8, .int (-1)), (7, .int o334284), (6, .ref q334224), (4, .ref q332385), (3, .int g331706), (0, .ref q277559), (1, .ref q277560), (2, .int p277561)]) z334312 3 dr_cX17_graph_284 rfl hz334312.symm (Nat.le_of_ble_eq_true rfl) rfl ?_
                        refine G_goto 109 dr_cX17_graph_287 (by decide +kernel) ?_
                        refine G_lv (L' := [(5, .int z334312), (4, .ref q332385), (3, .int g331706), (0, .ref q277559), (1, .ref q277560), (2, .int p277561)]) [0, 4, 5, 6, 7, 8] rfl ?_
                        exact ih109_334185 F334298 z334312 (gB_w bz334312 (by decide) (by decide)) hT334299 hs334308 (by omega) (fun h0 => by have z := gr334275 h0; rw [← kp334310] at z; rw [show ((g334179.toInt : Int).toNat : Nat) = (z334312.toInt + 1 : Int).toNat by omega] at z; exact z) kp334309 (fun k e1 ht => kt109_334186 k e1 (fun R c1 c2 c3 c4 c5 c6 c7 c8 c9 c10 c11 => c2 F334180 g334179 q332395 q334224 p334206 F334259 p334239 p334240 p334243 o334284 F334298 z334312 k e1 bg334179 hT334181 hs334182 x334183 x334184 x334185 r334200 fq334201 hx334225 fq334229 ht334235 hT334260 hs334261 x334256 x334257 ht334258 fq334276 fq334277 fq334278 bo334284 ht334285 r334287 r334289 hT334299 hs334300 x334295 x334296 ht334297 ez334312 (ht R c1 c2 c3 c4 c5 c6 c7 c8 c9 c10 c11))) (mz_dn ez334312 (Int.le_trans (by decide) bg334179'.1) hm109_334185)
                      · have r334313 : 0 ≤ o334284.toInt := gj_nlt hc334288 (show Int32.toInt 0 = 0 by decide)
                        have bo334284' : gB o334284 0 1999 := ⟨by omega, by omega⟩
                        refine G_iload 0 dr_cX17_graph_180 rfl ?_
                        refine G_if_lt 204 dr_cX17_graph_182 (by decide +kernel) (fun _ => ?_) (fun hc => absurd hc (by decide))
                        refine G_iconst 0 dr_cX17_graph_204 (by decide +kernel) ?_
                        refine G_istore (L' := [(9, .int 0), (8, .int (-1)), (7, .int o334284), (6, .ref q334224), (5, .int g334179), (4, .ref q332385), (3, .int g331706), (0, .ref q277559), (1, .ref q277560), (2, .int p277561)]) dr_cX17_graph_205 (Nat.le_of_ble_eq_true rfl) rfl ?_
                        refine G_iconst 0 dr_cX17_graph_207 (by decide +kernel) ?_
                        refine G_istore (L' := [(10, .int 0), (9, .int 0), (8, .int (-1)), (7, .int o334284), (6, .ref q334224), (5, .int g334179), (4, .ref q332385), (3, .int g331706), (0, .ref q277559), (1, .ref q277560), (2, .int p277561)]) dr_cX17_graph_208 (Nat.le_of_ble_eq_true rfl) rfl ?_
                        have hlp210_334432 : ∀ (n210_334432 : Nat) (F334428 : Nat → va_E) (g334427 : Int32), gB g334427 0 32 → RS D I P277557 F334428 γ el → rStr γ [] F277558 F334428 → (gIp (p277561.toInt = 0) (rGr γ el F277558 q277560 (γ 6 (γ 1 q277560)) (cB (F334428 (γ 9 3))) (vB (g331706.toInt : Int).toNat (g334179.toInt : Int).toNat))) → (F334428 q277559 = F277558 q277559) → (∀ (k : Nat) (e1 : Nat → va_E), tl_RModel_graph_210 D I γ el P277557 F277558 p277561 q277560 g331706 g334179 q277559 o334284 F334428 g334427 k e1 → tl_RModel_graph_210 D I γ el P277557 F277558 p277561 q277560 g331706 g334179 q277559 o334284 F334259 (0 : Int32) k e1) → ((33 : Int) - g334427.toInt).toNat < n210_334432 → G (gV D I) l (gRm 5 111 0 0) (gMA (gV D I) (pt_277563_SpillForgeModel_graph D I γ el P277557 F277558 q277559 q277560 p277561) gNA 0 0) ky_277563_SpillForgeModel_graph 210 [(10, .int g334427), (9, .int 0), (8, .int (-1)), (7, .int o334284), (6, .ref q334224), (5, .int g334179), (4, .ref q332385), (3, .int g331706), (0, .ref q277559), (1, .ref q277560), (2, .int p277561)] [] (va_pl P277557 F334428) 0 0 := by
                          intro n210_334432
                          induction n210_334432 with
                          | zero => intro F334428 g334427 bg334427 hT334429 hs334430 x334431 x334432 kt210_334433 hm210_334432; exact absurd hm210_334432 (Nat.not_lt_zero _)
                          | succ n210_334432 ih210_334432 =>
                            intro F334428 g334427 bg334427 hT334429 hs334430 x334431 x334432 kt210_334433 hm210_334432
                            have hs334434 : rStr γ [] F334259 F334428 := fun b h0 hb hw => (hs334430 b h0 hb hw).trans (hs334269 b h0 hb hw).symm
                            have he334435 : F334428 q277560 = .inr (18, [.ref q331719, .ref q331720, .int p331721, .int p331722]) := (hs334434 q277560 (rT0 htq277560 (by decide)) (rT1 htq277560 (by decide)) (rT2 htq277560 (by decide))).trans he334262
                            have he334436 : F334428 q331719 = .inr (4, [.int p332366, .ref q332368, .int p332367]) := (hs334434 q331719 (rT0 ht331723 (by decide)) (rT1 ht331723 (by decide)) (rT2 ht331723 (by decide))).trans he334263
                            have he334437 : F334428 q332368 = .inl (I (.object "java/lang/Object"), n332382, .inr (.inr (.inr (.inr f332383)))) := (hs334434 q332368 (rT0 r332374 (by decide)) (rT1 r332374 (by decide)) (rT2 r332374 (by decide))).trans he334264
                            have he334438 : F334428 q332385 = .inr (17, [.ref q332395, .ref q332396, .int p332397, .int p332398]) := (hs334434 q332385 (rT0 ht332391 (by decide)) (rT1 ht332391 (by decide)) (rT2 ht332391 (by decide))).trans he334265
                            have he334439 : F334428 q332395 = .inr (4, [.int p334205, .ref q334207, .int p334206]) := (hs334434 q332395 (rT0 ht332399 (by decide)) (rT1 ht332399 (by decide)) (rT2 ht332399 (by decide))).trans he334266
                            have he334440 : F334428 q334207 = .inl (I (.object "java/lang/Object"), n334221, .inr (.inr (.inr (.inr f334222)))) := (hs334434 q334207 (rT0 r334213 (by decide)) (rT1 r334213 (by decide)) (rT2 r334213 (by decide))).trans he334267
                            have he334441 : F334428 q334224 = .inr (20, [.int p334239, .int p334240, .int p334241, .int p334242, .int p334243, .int p334244, .int p334245]) := (hs334434 q334224 (rT0 ht334227 (by decide)) (rT1 ht334227 (by decide)) (rT2 ht334227 (by decide))).trans he334268
                            have hs334442 : rStr γ [] F277558 F334428 := rStr_tr hs334269 hs334434
                            have he334443 : F334428 q277559 = .inr (22, [.ref (γ 9 0), .ref (γ 9 1), .ref (γ 9 2), .ref (γ 9 3), .ref (γ 9 4), .ref (γ 9 5), .ref (γ 9 6), .ref (γ 9 7), .ref (γ 9 8), .int p277568, .int p277569, .int p277570, .int p277571, .int p277572, .int p277573, .ref (γ 9 15), .ref (γ 9 16), .ref (γ 9 17), .ref (γ 9 18), .ref (γ 9 19), .ref (γ 9 20), .ref (γ 9 21), .ref (γ 9 22), .int p277574, .int p277575, .int p277576, .int p277577, .int p277578, .ref q277566, .ref (γ 9 29), .int p277579, .ref (γ 9 31), .int p277580, .int p277581, .int p277582, .ref q277567]) := x334432.trans he277565
                            have hm334444 : q277559 ∈ P277557 := RS_m hT334429 htq277559 (by decide)
                            refine G_iload 0 dr_cX17_graph_210 rfl ?_
                            refine G_bipush 32 dr_cX17_graph_212 (by decide +kernel) ?_
                            refine G_icmp_ge 243 dr_cX17_graph_214 (by decide +kernel) (fun hc334445 => ?_) (fun hc334445 => ?_)
                            · have r334446 : 32 ≤ g334427.toInt := gj_leL hc334445 (show Int32.toInt 32 = 32 by decide)
                              have bg334427' : gB g334427 32 32 := ⟨by omega, by omega⟩
                              have hx334447 : tl_RModel_graph_210 D I γ el P277557 F277558 p277561 q277560 g331706 g334179 q277559 o334284 F334259 (0 : Int32) 243 F334428 := kt210_334433 243 F334428 (fun R c1 c2 => c1 F334428 g334427 bg334427 hT334429 hs334430 x334431 x334432 r334446)
                              refine G_iload 2 dr_cX17_graph_243 rfl ?_
                              refine G_if_lt 265 dr_cX17_graph_245 (by decide +kernel) (fun _ => ?_) (fun hc => absurd hc (by decide))
                              refine G_aload_n 8 dr_cX17_graph_265 rfl ?_
                              have fq334448 : fR (F334428 q277559) 1 = (γ 9 1) := by rw [he334443]; rfl
                              refine Gp_get 1 hm334444 he334443 dr_cX17_graph_266 (gk_X17 D I) (Nat.le_of_ble_eq_true rfl) wr_7_75 rfl ?_
                              refine G_iload 3 dr_cX17_graph_269 rfl ?_
                              have hm334449 : (γ 9 1) ∈ P277557 := RS_m hT334429 ht277586 (by decide)
                              obtain ⟨f334451, he334450, hg334452⟩ := show rk_13 I γ (F334428 (γ 9 1)) from RS_o hT334429 ht277586
                              obtain ⟨q334453, hx334455⟩ : ∃ x, x = γ 11 o334284.toInt.toNat := ⟨_, rfl⟩
                              have ht334454 : rKd γ q334453 36 := by rw [hx334455]; exact (hg334452 _ (show o334284.toInt.toNat < 2000 by omega)).2.1
                              refine Gp_aald 5 hm334449 he334450 dr_cX17_graph_271 rfl rfl (gB_in bo334284' (by decide) (by decide)) ?_
                              rw [show f334451 o334284.toNatClampNeg = some q334453 from (hg334452 _ (show o334284.toInt.toNat < 2000 by omega)).1.trans (by rw [hx334455])]
                              change G _ _ _ _ _ _ _ (.ref q334453 :: _) _ _ _
                              refine G_iload 3 dr_cX17_graph_272 rfl ?_
                              have hm334456 : q334453 ∈ P277557 := RS_m hT334429 ht334454 (by decide)
                              obtain ⟨f334458, he334457, wf334458⟩ := show rk_36 I (F334428 q334453) from RS_o hT334429 ht334454
                              refine Gw_callS (As := [.ref q334453, .int o334284]) (gV_ok D I) (cp_1880_SpillForgeModel_clear l hl0 D I P277557 F334428 q334453 o334284 f334458 hm334456 he334457 bo334284' wf334458) dr_cX17_graph_274 ⟨wr_10_185, wr_1_14, wr_10_187, by decide, rfl, (Nat.le_of_ble_eq_true rfl), (Nat.le_of_ble_eq_true rfl)⟩ wr_10_186 (show 0 + 0 ≤ 0 by first | omega | decide) (show 0 + 0 ≤ 0 by first | omega | decide) (Nat.le_of_ble_eq_true rfl) (fun r334462 w334463 dc334459 ds334460 hp334461 => ?_) (fun _ _ _ _ _ z => z.elim)
                              obtain ⟨F334467, f334464, rfl, rfl, hfr334469, he334470, hdc, hds, x334465, ht334466⟩ := hp334461
                              have he334471 : F334467 q277560 = .inr (18, [.ref q331719, .ref q331720, .int p331721, .int p331722]) := (hfr334469 q277560 hm331717 (nm_c (rn_oa he334435 he334457) nm_n)).trans he334435
                              have he334472 : F334467 q331719 = .inr (4, [.int p332366, .ref q332368, .int p332367]) := (hfr334469 q331719 hm332364 (nm_c (rn_oa he334436 he334457) nm_n)).trans he334436
                              have he334473 : F334467 q332368 = .inl (I (.object "java/lang/Object"), n332382, .inr (.inr (.inr (.inr f332383)))) := (hfr334469 q332368 hm332384 (nm_c (rn_ref_long he334437 he334457) nm_n)).trans he334437
                              have he334474 : F334467 q332385 = .inr (17, [.ref q332395, .ref q332396, .int p332397, .int p332398]) := (hfr334469 q332385 hm332393 (nm_c (rn_oa he334438 he334457) nm_n)).trans he334438
                              have he334475 : F334467 q332395 = .inr (4, [.int p334205, .ref q334207, .int p334206]) := (hfr334469 q332395 hm334203 (nm_c (rn_oa he334439 he334457) nm_n)).trans he334439
                              have he334476 : F334467 q334207 = .inl (I (.object "java/lang/Object"), n334221, .inr (.inr (.inr (.inr f334222)))) := (hfr334469 q334207 hm334223 (nm_c (rn_ref_long he334440 he334457) nm_n)).trans he334440
                              have he334477 : F334467 q334224 = .inr (20, [.int p334239, .int p334240, .int p334241, .int p334242, .int p334243, .int p334244, .int p334245]) := (hfr334469 q334224 hm334237 (nm_c (rn_oa he334441 he334457) nm_n)).trans he334441
                              have he334478 : F334467 q277559 = .inr (22, [.ref (γ 9 0), .ref (γ 9 1), .ref (γ 9 2), .ref (γ 9 3), .ref (γ 9 4), .ref (γ 9 5), .ref (γ 9 6), .ref (γ 9 7), .ref (γ 9 8), .int p277568, .int p277569, .int p277570, .int p277571, .int p277572, .int p277573, .ref (γ 9 15), .ref (γ 9 16), .ref (γ 9 17), .ref (γ 9 18), .ref (γ 9 19), .ref (γ 9 20), .ref (γ 9 21), .ref (γ 9 22), .int p277574, .int p277575, .int p277576, .int p277577, .int p277578, .ref q277566, .ref (γ 9 29), .int p277579, .ref (γ 9 31), .int p277580, .int p277581, .int p277582, .ref q277567]) := (hfr334469 q277559 hm334444 (nm_c (rn_oa he334443 he334457) nm_n)).trans he334443
                              have he334479 : F334467 (γ 9 1) = .inl (I (.array .long), 2000, .inr (.inr (.inr (.inr f334451)))) := (hfr334469 (γ 9 1) hm334449 (nm_c (rn_ref_long he334450 he334457) nm_n)).trans he334450
                              have hfr334480 : rFr [q334453] P277557 F334428 F334467 := rFr_call (rSub_rf (P := P277557)) (rFr_rf (W := []) (P := P277557) (F := F334428)) hfr334469 (fun b hb hn => ⟨nm_n, (nm_c (fun e => hn (e ▸ List.mem_cons_self)) nm_n)⟩)
                              change G _ _ _ _ _ _ _ _ _ _ _
                              refine G_widen (cs' := 0) (sl' := 0) (by omega) (by omega) ?_
                              have hT334481 : RS D I P277557 F334467 γ el := RS_fr hT334429 hfr334480 ht334454 (by decide) ⟨f334464, he334470, x334465⟩
                              have hs334482 : rStr γ [] F277558 F334467 := rStr_fr hT334429 hs334430 hfr334480 ht334454 (by decide)
                              have kp334483 : F334467 q277559 = F277558 q277559 := (hfr334480 q277559 (RS_m hT334429 htq277559 (by decide)) (nm_c (rn_ty htq277559 ht334454 (by decide)) nm_n)).trans x334432
                              have kp334484 : F334467 (γ 9 3) = F334428 (γ 9 3) := hfr334480 (γ 9 3) (RS_m hT334429 ht277588 (by decide)) (nm_c (rn_ty ht277588 ht334454 (by decide)) nm_n)
                              refine G_aload_n 8 dr_cX17_graph_277 rfl ?_
                              refine G_aload 4 dr_cX17_graph_278 rfl ?_
                              refine G_iload_n 10 dr_cX17_graph_280 rfl ?_
                              refine Gw_callV (As := [.ref q334224, .int p277561]) (gV_ok D I) (ct_284394_SpillForgeModel_back l hl0 D I γ el P277557 F334467 q277559 q334224 p277561 hT334481 htq277559 ht334227 (gB_w bp277561' (by decide) (by decide))) dr_cX17_graph_281 ⟨wr_10_174, wr_1_14, wr_10_177, by decide, rfl, (Nat.le_of_ble_eq_true rfl), (Nat.le_of_ble_eq_true rfl)⟩ wr_10_176 wr_p_96 hm334444 he334478 rfl (show 0 + 0 ≤ 0 by first | omega | decide) (show 0 + 0 ≤ 0 by first | omega | decide) (Nat.le_of_ble_eq_true rfl) (fun r334488 w334489 dc334485 ds334486 hp334487 => ?_) (fun _ _ _ _ _ z => z.elim)
                              obtain ⟨F334493, rfl, rfl, hT334494, hs334495, hdc, hds, x334490, x334491, ht334492⟩ := hp334487
                              have he334496 : F334493 q277560 = .inr (18, [.ref q331719, .ref q331720, .int p331721, .int p331722]) := (hs334495 q277560 (rT0 htq277560 (by decide)) (rT1 htq277560 (by decide)) (rT2 htq277560 (by decide))).trans he334471
                              have he334497 : F334493 q331719 = .inr (4, [.int p332366, .ref q332368, .int p332367]) := (hs334495 q331719 (rT0 ht331723 (by decide)) (rT1 ht331723 (by decide)) (rT2 ht331723 (by decide))).trans he334472
                              have he334498 : F334493 q332368 = .inl (I (.object "java/lang/Object"), n332382, .inr (.inr (.inr (.inr f332383)))) := (hs334495 q332368 (rT0 r332374 (by decide)) (rT1 r332374 (by decide)) (rT2 r332374 (by decide))).trans he334473
                              have he334499 : F334493 q332385 = .inr (17, [.ref q332395, .ref q332396, .int p332397, .int p332398]) := (hs334495 q332385 (rT0 ht332391 (by decide)) (rT1 ht332391 (by decide)) (rT2 ht332391 (by decide))).trans he334474
                              have he334500 : F334493 q332395 = .inr (4, [.int p334205, .ref q334207, .int p334206]) := (hs334495 q332395 (rT0 ht332399 (by decide)) (rT1 ht332399 (by decide)) (rT2 ht332399 (by decide))).trans he334475
                              have he334501 : F334493 q334207 = .inl (I (.object "java/lang/Object"), n334221, .inr (.inr (.inr (.inr f334222)))) := (hs334495 q334207 (rT0 r334213 (by decide)) (rT1 r334213 (by decide)) (rT2 r334213 (by decide))).trans he334476
                              have he334502 : F334493 q334224 = .inr (20, [.int p334239, .int p334240, .int p334241, .int p334242, .int p334243, .int p334244, .int p334245]) := (hs334495 q334224 (rT0 ht334227 (by decide)) (rT1 ht334227 (by decide)) (rT2 ht334227 (by decide))).trans he334477
                              have hs334503 : rStr γ [] F277558 F334493 := rStr_tr hs334482 hs334495
                              have kp334504 : F334493 q277559 = F277558 q277559 := (x334490).trans kp334483
                              have kp334505 : F334493 (γ 9 3) = F334428 (γ 9 3) := (x334491).trans kp334484
                              have he334506 : F334493 q277559 = .inr (22, [.ref (γ 9 0), .ref (γ 9 1), .ref (γ 9 2), .ref (γ 9 3), .ref (γ 9 4), .ref (γ 9 5), .ref (γ 9 6), .ref (γ 9 7), .ref (γ 9 8), .int p277568, .int p277569, .int p277570, .int p277571, .int p277572, .int p277573, .ref (γ 9 15), .ref (γ 9 16), .ref (γ 9 17), .ref (γ 9 18), .ref (γ 9 19), .ref (γ 9 20), .ref (γ 9 21), .ref (γ 9 22), .int p277574, .int p277575, .int p277576, .int p277577, .int p277578, .ref q277566, .ref (γ 9 29), .int p277579, .ref (γ 9 31), .int p277580, .int p277581, .int p277582, .ref q277567]) := (x334490).trans he334478
                              change G _ _ _ _ _ _ _ _ _ _ _
                              refine G_widen (cs' := 0) (sl' := 0) (by omega) (by omega) ?_
                              obtain ⟨z334507, hz334507⟩ : ∃ z : Int32, z = g334179 + Int32.ofInt (-1) := ⟨_, rfl⟩
                              have ez334507 : z334507.toInt = g334179.toInt + (-1) := gI_inc hz334507 (by decide) bg334179' (by decide) (by decide)
                              have bz334507 : gB z334507 (-1) 999998 := ⟨by omega, by omega⟩
                              refine G_iinc (L' := [(5, .int z334507), (10, .int g334427), (9, .int 0), (8, .int (-1)), (7, .int o334284), (6, .ref q334224), (4, .ref q332385), (3, .int g331706), (0, .ref q277559), (1, .ref q277560), (2, .int p277561)]) z334507 5 dr_cX17_graph_284 rfl hz334507.symm (Nat.le_of_ble_eq_true rfl) rfl ?_
                              refine G_goto 109 dr_cX17_graph_287 (by decide +kernel) ?_
                              refine G_lv (L' := [(5, .int z334507), (4, .ref q332385), (3, .int g331706), (0, .ref q277559), (1, .ref q277560), (2, .int p277561)]) [0, 6, 7, 8, 9, 10] rfl ?_
                              exact ih109_334185 F334493 z334507 (gB_w bz334507 (by decide) (by decide)) hT334494 hs334503 (by omega) (fun h0 => by have z := x334431 h0; rw [← kp334505] at z; rw [show ((g334179.toInt : Int).toNat : Nat) = (z334507.toInt + 1 : Int).toNat by omega] at z; exact z) kp334504 (fun k e1 ht => kt109_334186 k e1 (fun R c1 c2 c3 c4 c5 c6 c7 c8 c9 c10 c11 => c3 F334180 g334179 q332395 q334224 p334206 F334259 p334239 p334240 p334243 o334284 F334428 q334453 f334458 f334464 F334467 F334493 z334507 k e1 bg334179 hT334181 hs334182 x334183 x334184 x334185 r334200 fq334201 hx334225 fq334229 ht334235 hT334260 hs334261 x334256 x334257 ht334258 fq334276 fq334277 fq334278 bo334284 ht334285 r334287 r334313 hx334447 fq334448 hx334455 he334457 ht334466 hfr334480 he334470 hT334481 hT334494 hs334495 x334490 x334491 ht334492 ez334507 (ht R c1 c2 c3 c4 c5 c6 c7 c8 c9 c10 c11))) (mz_dn ez334507 (Int.le_trans (by decide) bg334179'.1) hm109_334185)
                            · have r334508 : g334427.toInt < 32 := gj_nleL hc334445 (show Int32.toInt 32 = 32 by decide)
                              have bg334427' : gB g334427 0 31 := ⟨by omega, by omega⟩
                              refine G_aload_n 8 dr_cX17_graph_217 rfl ?_
                              have fq334509 : fR (F334428 q277559) 1 = (γ 9 1) := by rw [he334443]; rfl
                              refine Gp_get 1 hm334444 he334443 dr_cX17_graph_218 (gk_X17 D I) (Nat.le_of_ble_eq_true rfl) wr_7_75 rfl ?_
                              refine G_iload 3 dr_cX17_graph_221 rfl ?_
                              have hm334510 : (γ 9 1) ∈ P277557 := RS_m hT334429 ht277586 (by decide)
                              obtain ⟨f334512, he334511, hg334513⟩ := show rk_13 I γ (F334428 (γ 9 1)) from RS_o hT334429 ht277586
                              obtain ⟨q334514, hx334516⟩ : ∃ x, x = γ 11 o334284.toInt.toNat := ⟨_, rfl⟩
                              have ht334515 : rKd γ q334514 36 := by rw [hx334516]; exact (hg334513 _ (show o334284.toInt.toNat < 2000 by omega)).2.1
                              refine Gp_aald 5 hm334510 he334511 dr_cX17_graph_223 rfl rfl (gB_in bo334284' (by decide) (by decide)) ?_
                              rw [show f334512 o334284.toNatClampNeg = some q334514 from (hg334513 _ (show o334284.toInt.toNat < 2000 by omega)).1.trans (by rw [hx334516])]
                              change G _ _ _ _ _ _ _ (.ref q334514 :: _) _ _ _
                              refine G_iload 0 dr_cX17_graph_224 rfl ?_
                              refine G_dup2_11 dr_cX17_graph_226 rfl rfl ?_
                              have hm334517 : q334514 ∈ P277557 := RS_m hT334429 ht334515 (by decide)
                              obtain ⟨f334519, he334518, wf334519⟩ := show rk_36 I (F334428 q334514) from RS_o hT334429 ht334515
                              refine Gp_lald 2 hm334517 he334518 dr_cX17_graph_227 rfl (gB_in bg334427' (by decide) (by decide)) (G_namL fun u334520 hu334520 => ?_)
                              have qu334520 : lb_Q u334520 (2000 - 64 * g334427.toInt) := lb_Wld hu334520 wf334519 (by omega) (by omega) (lb_Mod0 (by omega) (by omega))
                              refine G_aload_n 8 dr_cX17_graph_228 rfl ?_
                              have fq334521 : fR (F334428 q277559) 2 = (γ 9 2) := by rw [he334443]; rfl
                              refine Gp_get 2 hm334444 he334443 dr_cX17_graph_229 (gk_X17 D I) (Nat.le_of_ble_eq_true rfl) wr_7_76 rfl ?_
                              refine G_iload 0 dr_cX17_graph_232 rfl ?_
                              have hm334522 : (γ 9 2) ∈ P277557 := RS_m hT334429 ht277587 (by decide)
                              obtain ⟨f334524, he334523, wf334524⟩ := show rk_35 I (F334428 (γ 9 2)) from RS_o hT334429 ht277587
                              refine Gp_lald 2 hm334522 he334523 dr_cX17_graph_234 rfl (gB_in bg334427' (by decide) (by decide)) (G_namL fun u334525 hu334525 => ?_)
                              have qu334525 : lb_Q u334525 (2000 - 64 * g334427.toInt) := lb_Wld hu334525 wf334524 (by omega) (by omega) (lb_Mod0 (by omega) (by omega))
                              refine G_lor dr_cX17_graph_235 (G_namL fun u334526 hu334526 => ?_)
                              have qu334526 : lb_Q u334526 (2000 - 64 * g334427.toInt) := lb_Qor hu334526 qu334520 qu334525
                              refine Gp_last 2 hm334517 he334518 dr_cX17_graph_236 rfl (gB_in bg334427' (by decide) (by decide)) (fun F334527 e334528 n334529 => ?_)
                              obtain ⟨f334530, hf334530⟩ : ∃ z, z = vp_updL f334519 g334427.toNatClampNeg u334526 := ⟨_, rfl⟩
                              rw [← hf334530] at e334528
                              have he334531 : F334527 q277560 = .inr (18, [.ref q331719, .ref q331720, .int p331721, .int p331722]) := (n334529 q277560 (rn_oa he334435 he334518)).trans he334435
                              have he334532 : F334527 q331719 = .inr (4, [.int p332366, .ref q332368, .int p332367]) := (n334529 q331719 (rn_oa he334436 he334518)).trans he334436
                              have he334533 : F334527 q332368 = .inl (I (.object "java/lang/Object"), n332382, .inr (.inr (.inr (.inr f332383)))) := (n334529 q332368 (rn_ref_long he334437 he334518)).trans he334437
                              have he334534 : F334527 q332385 = .inr (17, [.ref q332395, .ref q332396, .int p332397, .int p332398]) := (n334529 q332385 (rn_oa he334438 he334518)).trans he334438
                              have he334535 : F334527 q332395 = .inr (4, [.int p334205, .ref q334207, .int p334206]) := (n334529 q332395 (rn_oa he334439 he334518)).trans he334439
                              have he334536 : F334527 q334207 = .inl (I (.object "java/lang/Object"), n334221, .inr (.inr (.inr (.inr f334222)))) := (n334529 q334207 (rn_ref_long he334440 he334518)).trans he334440
                              have he334537 : F334527 q334224 = .inr (20, [.int p334239, .int p334240, .int p334241, .int p334242, .int p334243, .int p334244, .int p334245]) := (n334529 q334224 (rn_oa he334441 he334518)).trans he334441
                              have he334538 : F334527 q277559 = .inr (22, [.ref (γ 9 0), .ref (γ 9 1), .ref (γ 9 2), .ref (γ 9 3), .ref (γ 9 4), .ref (γ 9 5), .ref (γ 9 6), .ref (γ 9 7), .ref (γ 9 8), .int p277568, .int p277569, .int p277570, .int p277571, .int p277572, .int p277573, .ref (γ 9 15), .ref (γ 9 16), .ref (γ 9 17), .ref (γ 9 18), .ref (γ 9 19), .ref (γ 9 20), .ref (γ 9 21), .ref (γ 9 22), .int p277574, .int p277575, .int p277576, .int p277577, .int p277578, .ref q277566, .ref (γ 9 29), .int p277579, .ref (γ 9 31), .int p277580, .int p277581, .int p277582, .ref q277567]) := (n334529 q277559 (rn_oa he334443 he334518)).trans he334443
                              have he334539 : F334527 (γ 9 1) = .inl (I (.array .long), 2000, .inr (.inr (.inr (.inr f334512)))) := (n334529 (γ 9 1) (rn_ref_long he334511 he334518)).trans he334511
                              have he334540 : F334527 (γ 9 2) = .inl (I .long, 32, .inr (.inl f334524)) := (n334529 (γ 9 2) (rn_ty ht277587 ht334515 (by decide))).trans he334523
                              have he334541 : F334527 q334514 = .inl (I .long, 32, .inr (.inl f334530)) := e334528
                              have hs334542 : rStr γ [] F277558 F334527 := rStr_put hs334430 n334529 ht334515 (by decide)
                              have kp334543 : F334527 q277559 = F277558 q277559 := (n334529 q277559 (rn_ty htq277559 ht334515 (by decide))).trans x334432
                              have kp334544 : F334527 (γ 9 3) = F334428 (γ 9 3) := n334529 (γ 9 3) (rn_ty ht277588 ht334515 (by decide))
                              have wf334530 : lb_W f334530 (32) (32) (2000) := lb_Wst hf334530 wf334519 (by omega) (lb_Mod0 (by omega) (by omega)) qu334526
                              obtain ⟨z334545, hz334545⟩ : ∃ z : Int32, z = g334427 + Int32.ofInt 1 := ⟨_, rfl⟩
                              have ez334545 : z334545.toInt = g334427.toInt + 1 := gI_inc hz334545 (by decide) bg334427' (by decide) (by decide)
                              have bz334545 : gB z334545 1 32 := ⟨by omega, by omega⟩
                              refine G_iinc (L' := [(10, .int z334545), (9, .int 0), (8, .int (-1)), (7, .int o334284), (6, .ref q334224), (5, .int g334179), (4, .ref q332385), (3, .int g331706), (0, .ref q277559), (1, .ref q277560), (2, .int p277561)]) z334545 0 dr_cX17_graph_237 rfl hz334545.symm (Nat.le_of_ble_eq_true rfl) rfl ?_
                              refine G_goto 210 dr_cX17_graph_240 (by decide +kernel) ?_
                              have hT334546 : RS D I P277557 F334527 γ el := RS_set hT334429 n334529 ht334515 (by decide) ⟨f334530, he334541, wf334530⟩
                              exact ih210_334432 F334527 z334545 (gB_w bz334545 (by decide) (by decide)) hT334546 hs334542 (by rw [kp334544]; exact x334431) kp334543 (fun k e1 ht => kt210_334433 k e1 (fun R c1 c2 => c2 F334428 g334427 q334514 f334519 u334520 f334524 u334525 u334526 f334530 F334527 z334545 k e1 bg334427 hT334429 hs334430 x334431 x334432 r334508 fq334509 hx334516 he334518 hu334520 fq334521 he334523 hu334525 hu334526 hf334530 n334529 he334541 ez334545 (ht R c1 c2))) (mz_up ez334545 (Int.le_trans bg334427'.2 (by decide)) hm210_334432)
                        exact hlp210_334432 (((33 : Int) - 0).toNat + 1) F334259 0 (gB_w (gBl (show Int32.toInt 0 = 0 by decide)) (by decide) (by decide)) hT334260 hs334269 gr334275 kp334270 (fun k e1 ht => ht) (Nat.lt_succ_self _)
                    · have r334547 : p277561.toInt = 0 := gj_eq hc334286 (show Int32.toInt 0 = 0 by decide)
                      have bp277561' : gB p277561 0 0 := gB_t0 r334547
                      refine G_aload 1 dr_cX17_graph_148 rfl ?_
                      refine Gp_get 0 hm334237 he334268 dr_cX17_graph_150 (gk_X15 D I) (Nat.le_of_ble_eq_true rfl) wr_9_177 rfl ?_
                      refine G_if_ne 172 dr_cX17_graph_153 (by decide +kernel) (fun hc334548 => ?_) (fun hc334548 => ?_)
                      · have r334549 : p334239.toInt ≠ 0 := gj_neq hc334548 (show Int32.toInt 0 = 0 by decide)
                        have bp334239' : gB p334239 1 32 := ⟨by omega, by omega⟩
                        refine G_iconst (-1) dr_cX17_graph_172 (by decide +kernel) ?_
                        refine G_istore (L' := [(8, .int (-1)), (7, .int o334284), (6, .ref q334224), (5, .int g334179), (4, .ref q332385), (3, .int g331706), (0, .ref q277559), (1, .ref q277560), (2, .int p277561)]) dr_cX17_graph_173 (Nat.le_of_ble_eq_true rfl) rfl ?_
                        refine G_iload 1 dr_cX17_graph_175 rfl ?_
                        refine G_if_lt 277 dr_cX17_graph_177 (by decide +kernel) (fun hc334550 => ?_) (fun hc334550 => ?_)
                        · have r334551 : o334284.toInt < 0 := gj_lt hc334550 (show Int32.toInt 0 = 0 by decide)
                          have bo334284' : gB o334284 (-1) (-1) := ⟨by omega, by omega⟩
                          refine G_aload_n 6 dr_cX17_graph_277 rfl ?_
                          refine G_aload 2 dr_cX17_graph_278 rfl ?_
                          refine G_iload_n 8 dr_cX17_graph_280 rfl ?_
                          refine Gw_callV (As := [.ref q334224, .int p277561]) (gV_ok D I) (ct_284394_SpillForgeModel_back l hl0 D I γ el P277557 F334259 q277559 q334224 p277561 hT334260 htq277559 ht334227 (gB_w bp277561' (by decide) (by decide))) dr_cX17_graph_281 ⟨wr_10_174, wr_1_14, wr_10_177, by decide, rfl, (Nat.le_of_ble_eq_true rfl), (Nat.le_of_ble_eq_true rfl)⟩ wr_10_176 wr_p_96 hm334195 he334271 rfl (show 0 + 0 ≤ 0 by first | omega | decide) (show 0 + 0 ≤ 0 by first | omega | decide) (Nat.le_of_ble_eq_true rfl) (fun r334555 w334556 dc334552 ds334553 hp334554 => ?_) (fun _ _ _ _ _ z => z.elim)
                          obtain ⟨F334560, rfl, rfl, hT334561, hs334562, hdc, hds, x334557, x334558, ht334559⟩ := hp334554
                          have he334563 : F334560 q277560 = .inr (18, [.ref q331719, .ref q331720, .int p331721, .int p331722]) := (hs334562 q277560 (rT0 htq277560 (by decide)) (rT1 htq277560 (by decide)) (rT2 htq277560 (by decide))).trans he334262
                          have he334564 : F334560 q331719 = .inr (4, [.int p332366, .ref q332368, .int p332367]) := (hs334562 q331719 (rT0 ht331723 (by decide)) (rT1 ht331723 (by decide)) (rT2 ht331723 (by decide))).trans he334263
                          have he334565 : F334560 q332368 = .inl (I (.object "java/lang/Object"), n332382, .inr (.inr (.inr (.inr f332383)))) := (hs334562 q332368 (rT0 r332374 (by decide)) (rT1 r332374 (by decide)) (rT2 r332374 (by decide))).trans he334264
                          have he334566 : F334560 q332385 = .inr (17, [.ref q332395, .ref q332396, .int p332397, .int p332398]) := (hs334562 q332385 (rT0 ht332391 (by decide)) (rT1 ht332391 (by decide)) (rT2 ht332391 (by decide))).trans he334265
                          have he334567 : F334560 q332395 = .inr (4, [.int p334205, .ref q334207, .int p334206]) := (hs334562 q332395 (rT0 ht332399 (by decide)) (rT1 ht332399 (by decide)) (rT2 ht332399 (by decide))).trans he334266
                          have he334568 : F334560 q334207 = .inl (I (.object "java/lang/Object"), n334221, .inr (.inr (.inr (.inr f334222)))) := (hs334562 q334207 (rT0 r334213 (by decide)) (rT1 r334213 (by decide)) (rT2 r334213 (by decide))).trans he334267
                          have he334569 : F334560 q334224 = .inr (20, [.int p334239, .int p334240, .int p334241, .int p334242, .int p334243, .int p334244, .int p334245]) := (hs334562 q334224 (rT0 ht334227 (by decide)) (rT1 ht334227 (by decide)) (rT2 ht334227 (by decide))).trans he334268
                          have hs334570 : rStr γ [] F277558 F334560 := rStr_tr hs334269 hs334562
                          have kp334571 : F334560 q277559 = F277558 q277559 := (x334557).trans kp334270
                          have kp334572 : F334560 (γ 9 3) = F334259 (γ 9 3) := x334558
                          have he334573 : F334560 q277559 = .inr (22, [.ref (γ 9 0), .ref (γ 9 1), .ref (γ 9 2), .ref (γ 9 3), .ref (γ 9 4), .ref (γ 9 5), .ref (γ 9 6), .ref (γ 9 7), .ref (γ 9 8), .int p277568, .int p277569, .int p277570, .int p277571, .int p277572, .int p277573, .ref (γ 9 15), .ref (γ 9 16), .ref (γ 9 17), .ref (γ 9 18), .ref (γ 9 19), .ref (γ 9 20), .ref (γ 9 21), .ref (γ 9 22), .int p277574, .int p277575, .int p277576, .int p277577, .int p277578, .ref q277566, .ref (γ 9 29), .int p277579, .ref (γ 9 31), .int p277580, .int p277581, .int p277582, .ref q277567]) := (x334557).trans he334271
                          change G _ _ _ _ _ _ _ _ _ _ _
                          refine G_widen (cs' := 0) (sl' := 0) (by omega) (by omega) ?_
                          obtain ⟨z334574, hz334574⟩ : ∃ z : Int32, z = g334179 + Int32.ofInt (-1) := ⟨_, rfl⟩
                          have ez334574 : z334574.toInt = g334179.toInt + (-1) := gI_inc hz334574 (by decide) bg334179' (by decide) (by decide)
                          have bz334574 : gB z334574 (-1) 999998 := ⟨by omega, by omega⟩
                          refine G_iinc (L' := [(5, .int z334574), (8, .int (-1)), (7, .int o334284), (6, .ref q334224), (4, .ref q332385), (3, .int g331706), (0, .ref q277559), (1, .ref q277560), (2, .int p277561)]) z334574 3 dr_cX17_graph_284 rfl hz334574.symm (Nat.le_of_ble_eq_true rfl) rfl ?_
                          refine G_goto 109 dr_cX17_graph_287 (by decide +kernel) ?_
                          refine G_lv (L' := [(5, .int z334574), (4, .ref q332385), (3, .int g331706), (0, .ref q277559), (1, .ref q277560), (2, .int p277561)]) [0, 4, 5, 6, 7, 8] rfl ?_
                          exact ih109_334185 F334560 z334574 (gB_w bz334574 (by decide) (by decide)) hT334561 hs334570 (by omega) (fun h0 => by have z := gr334275 h0; rw [← kp334572] at z; rw [show ((g334179.toInt : Int).toNat : Nat) = (z334574.toInt + 1 : Int).toNat by omega] at z; exact z) kp334571 (fun k e1 ht => kt109_334186 k e1 (fun R c1 c2 c3 c4 c5 c6 c7 c8 c9 c10 c11 => c4 F334180 g334179 q332395 q334224 p334206 F334259 p334239 p334240 p334243 o334284 F334560 z334574 k e1 bg334179 hT334181 hs334182 x334183 x334184 x334185 r334200 fq334201 hx334225 fq334229 ht334235 hT334260 hs334261 x334256 x334257 ht334258 fq334276 fq334277 fq334278 bo334284 ht334285 r334547 r334549 r334551 hT334561 hs334562 x334557 x334558 ht334559 ez334574 (ht R c1 c2 c3 c4 c5 c6 c7 c8 c9 c10 c11))) (mz_dn ez334574 (Int.le_trans (by decide) bg334179'.1) hm109_334185)
                        · have r334575 : 0 ≤ o334284.toInt := gj_nlt hc334550 (show Int32.toInt 0 = 0 by decide)
                          have bo334284' : gB o334284 0 1999 := ⟨by omega, by omega⟩
                          refine G_iload 0 dr_cX17_graph_180 rfl ?_
                          refine G_if_lt 204 dr_cX17_graph_182 (by decide +kernel) (fun _ => ?_) (fun hc => absurd hc (by decide))
                          refine G_iconst 0 dr_cX17_graph_204 (by decide +kernel) ?_
                          refine G_istore (L' := [(9, .int 0), (8, .int (-1)), (7, .int o334284), (6, .ref q334224), (5, .int g334179), (4, .ref q332385), (3, .int g331706), (0, .ref q277559), (1, .ref q277560), (2, .int p277561)]) dr_cX17_graph_205 (Nat.le_of_ble_eq_true rfl) rfl ?_
                          refine G_iconst 0 dr_cX17_graph_207 (by decide +kernel) ?_
                          refine G_istore (L' := [(10, .int 0), (9, .int 0), (8, .int (-1)), (7, .int o334284), (6, .ref q334224), (5, .int g334179), (4, .ref q332385), (3, .int g331706), (0, .ref q277559), (1, .ref q277560), (2, .int p277561)]) dr_cX17_graph_208 (Nat.le_of_ble_eq_true rfl) rfl ?_
                          have hlp210_334694 : ∀ (n210_334694 : Nat) (F334690 : Nat → va_E) (g334689 : Int32), gB g334689 0 32 → RS D I P277557 F334690 γ el → rStr γ [] F277558 F334690 → (gIp (p277561.toInt = 0) (rGr γ el F277558 q277560 (γ 6 (γ 1 q277560)) (cB (F334690 (γ 9 3))) (vB (g331706.toInt : Int).toNat (g334179.toInt : Int).toNat))) → (F334690 q277559 = F277558 q277559) → (∀ (k : Nat) (e1 : Nat → va_E), tl_RModel_graph_210_2 D I γ el P277557 F277558 p277561 q277560 g331706 g334179 q277559 o334284 F334690 g334689 k e1 → tl_RModel_graph_210_2 D I γ el P277557 F277558 p277561 q277560 g331706 g334179 q277559 o334284 F334259 (0 : Int32) k e1) → ((33 : Int) - g334689.toInt).toNat < n210_334694 → G (gV D I) l (gRm 5 111 0 0) (gMA (gV D I) (pt_277563_SpillForgeModel_graph D I γ el P277557 F277558 q277559 q277560 p277561) gNA 0 0) ky_277563_SpillForgeModel_graph 210 [(10, .int g334689), (9, .int 0), (8, .int (-1)), (7, .int o334284), (6, .ref q334224), (5, .int g334179), (4, .ref q332385), (3, .int g331706), (0, .ref q277559), (1, .ref q277560), (2, .int p277561)] [] (va_pl P277557 F334690) 0 0 := by
                            intro n210_334694
                            induction n210_334694 with
                            | zero => intro F334690 g334689 bg334689 hT334691 hs334692 x334693 x334694 kt210_334695 hm210_334694; exact absurd hm210_334694 (Nat.not_lt_zero _)
                            | succ n210_334694 ih210_334694 =>
                              intro F334690 g334689 bg334689 hT334691 hs334692 x334693 x334694 kt210_334695 hm210_334694
                              have hs334696 : rStr γ [] F334259 F334690 := fun b h0 hb hw => (hs334692 b h0 hb hw).trans (hs334269 b h0 hb hw).symm
                              have he334697 : F334690 q277560 = .inr (18, [.ref q331719, .ref q331720, .int p331721, .int p331722]) := (hs334696 q277560 (rT0 htq277560 (by decide)) (rT1 htq277560 (by decide)) (rT2 htq277560 (by decide))).trans he334262
                              have he334698 : F334690 q331719 = .inr (4, [.int p332366, .ref q332368, .int p332367]) := (hs334696 q331719 (rT0 ht331723 (by decide)) (rT1 ht331723 (by decide)) (rT2 ht331723 (by decide))).trans he334263
                              have he334699 : F334690 q332368 = .inl (I (.object "java/lang/Object"), n332382, .inr (.inr (.inr (.inr f332383)))) := (hs334696 q332368 (rT0 r332374 (by decide)) (rT1 r332374 (by decide)) (rT2 r332374 (by decide))).trans he334264
                              have he334700 : F334690 q332385 = .inr (17, [.ref q332395, .ref q332396, .int p332397, .int p332398]) := (hs334696 q332385 (rT0 ht332391 (by decide)) (rT1 ht332391 (by decide)) (rT2 ht332391 (by decide))).trans he334265
                              have he334701 : F334690 q332395 = .inr (4, [.int p334205, .ref q334207, .int p334206]) := (hs334696 q332395 (rT0 ht332399 (by decide)) (rT1 ht332399 (by decide)) (rT2 ht332399 (by decide))).trans he334266
                              have he334702 : F334690 q334207 = .inl (I (.object "java/lang/Object"), n334221, .inr (.inr (.inr (.inr f334222)))) := (hs334696 q334207 (rT0 r334213 (by decide)) (rT1 r334213 (by decide)) (rT2 r334213 (by decide))).trans he334267
                              have he334703 : F334690 q334224 = .inr (20, [.int p334239, .int p334240, .int p334241, .int p334242, .int p334243, .int p334244, .int p334245]) := (hs334696 q334224 (rT0 ht334227 (by decide)) (rT1 ht334227 (by decide)) (rT2 ht334227 (by decide))).trans he334268
                              have hs334704 : rStr γ [] F277558 F334690 := rStr_tr hs334269 hs334696
                              have he334705 : F334690 q277559 = .inr (22, [.ref (γ 9 0), .ref (γ 9 1), .ref (γ 9 2), .ref (γ 9 3), .ref (γ 9 4), .ref (γ 9 5), .ref (γ 9 6), .ref (γ 9 7), .ref (γ 9 8), .int p277568, .int p277569, .int p277570, .int p277571, .int p277572, .int p277573, .ref (γ 9 15), .ref (γ 9 16), .ref (γ 9 17), .ref (γ 9 18), .ref (γ 9 19), .ref (γ 9 20), .ref (γ 9 21), .ref (γ 9 22), .int p277574, .int p277575, .int p277576, .int p277577, .int p277578, .ref q277566, .ref (γ 9 29), .int p277579, .ref (γ 9 31), .int p277580, .int p277581, .int p277582, .ref q277567]) := x334694.trans he277565
                              have hm334706 : q277559 ∈ P277557 := RS_m hT334691 htq277559 (by decide)
                              refine G_iload 0 dr_cX17_graph_210 rfl ?_
                              refine G_bipush 32 dr_cX17_graph_212 (by decide +kernel) ?_
                              refine G_icmp_ge 243 dr_cX17_graph_214 (by decide +kernel) (fun hc334707 => ?_) (fun hc334707 => ?_)
                              · have r334708 : 32 ≤ g334689.toInt := gj_leL hc334707 (show Int32.toInt 32 = 32 by decide)
                                have bg334689' : gB g334689 32 32 := ⟨by omega, by omega⟩
                                have hx334709 : tl_RModel_graph_210_2 D I γ el P277557 F277558 p277561 q277560 g331706 g334179 q277559 o334284 F334259 (0 : Int32) 243 F334690 := kt210_334695 243 F334690 (fun R c1 c2 => c1 F334690 g334689 bg334689 hT334691 hs334692 x334693 x334694 r334708)
                                refine G_iload 2 dr_cX17_graph_243 rfl ?_
                                refine G_if_lt 265 dr_cX17_graph_245 (by decide +kernel) (fun _ => ?_) (fun hc => absurd hc (by decide))
                                refine G_aload_n 8 dr_cX17_graph_265 rfl ?_
                                have fq334710 : fR (F334690 q277559) 1 = (γ 9 1) := by rw [he334705]; rfl
                                refine Gp_get 1 hm334706 he334705 dr_cX17_graph_266 (gk_X17 D I) (Nat.le_of_ble_eq_true rfl) wr_7_75 rfl ?_
                                refine G_iload 3 dr_cX17_graph_269 rfl ?_
                                have hm334711 : (γ 9 1) ∈ P277557 := RS_m hT334691 ht277586 (by decide)
                                obtain ⟨f334713, he334712, hg334714⟩ := show rk_13 I γ (F334690 (γ 9 1)) from RS_o hT334691 ht277586
                                obtain ⟨q334715, hx334717⟩ : ∃ x, x = γ 11 o334284.toInt.toNat := ⟨_, rfl⟩
                                have ht334716 : rKd γ q334715 36 := by rw [hx334717]; exact (hg334714 _ (show o334284.toInt.toNat < 2000 by omega)).2.1
                                refine Gp_aald 5 hm334711 he334712 dr_cX17_graph_271 rfl rfl (gB_in bo334284' (by decide) (by decide)) ?_
                                rw [show f334713 o334284.toNatClampNeg = some q334715 from (hg334714 _ (show o334284.toInt.toNat < 2000 by omega)).1.trans (by rw [hx334717])]
                                change G _ _ _ _ _ _ _ (.ref q334715 :: _) _ _ _
                                refine G_iload 3 dr_cX17_graph_272 rfl ?_
                                have hm334718 : q334715 ∈ P277557 := RS_m hT334691 ht334716 (by decide)
                                obtain ⟨f334720, he334719, wf334720⟩ := show rk_36 I (F334690 q334715) from RS_o hT334691 ht334716
                                refine Gw_callS (As := [.ref q334715, .int o334284]) (gV_ok D I) (cp_1880_SpillForgeModel_clear l hl0 D I P277557 F334690 q334715 o334284 f334720 hm334718 he334719 bo334284' wf334720) dr_cX17_graph_274 ⟨wr_10_185, wr_1_14, wr_10_187, by decide, rfl, (Nat.le_of_ble_eq_true rfl), (Nat.le_of_ble_eq_true rfl)⟩ wr_10_186 (show 0 + 0 ≤ 0 by first | omega | decide) (show 0 + 0 ≤ 0 by first | omega | decide) (Nat.le_of_ble_eq_true rfl) (fun r334724 w334725 dc334721 ds334722 hp334723 => ?_) (fun _ _ _ _ _ z => z.elim)
                                obtain ⟨F334729, f334726, rfl, rfl, hfr334731, he334732, hdc, hds, x334727, ht334728⟩ := hp334723
                                have he334733 : F334729 q277560 = .inr (18, [.ref q331719, .ref q331720, .int p331721, .int p331722]) := (hfr334731 q277560 hm331717 (nm_c (rn_oa he334697 he334719) nm_n)).trans he334697
                                have he334734 : F334729 q331719 = .inr (4, [.int p332366, .ref q332368, .int p332367]) := (hfr334731 q331719 hm332364 (nm_c (rn_oa he334698 he334719) nm_n)).trans he334698
                                have he334735 : F334729 q332368 = .inl (I (.object "java/lang/Object"), n332382, .inr (.inr (.inr (.inr f332383)))) := (hfr334731 q332368 hm332384 (nm_c (rn_ref_long he334699 he334719) nm_n)).trans he334699
                                have he334736 : F334729 q332385 = .inr (17, [.ref q332395, .ref q332396, .int p332397, .int p332398]) := (hfr334731 q332385 hm332393 (nm_c (rn_oa he334700 he334719) nm_n)).trans he334700
                                have he334737 : F334729 q332395 = .inr (4, [.int p334205, .ref q334207, .int p334206]) := (hfr334731 q332395 hm334203 (nm_c (rn_oa he334701 he334719) nm_n)).trans he334701
                                have he334738 : F334729 q334207 = .inl (I (.object "java/lang/Object"), n334221, .inr (.inr (.inr (.inr f334222)))) := (hfr334731 q334207 hm334223 (nm_c (rn_ref_long he334702 he334719) nm_n)).trans he334702
                                have he334739 : F334729 q334224 = .inr (20, [.int p334239, .int p334240, .int p334241, .int p334242, .int p334243, .int p334244, .int p334245]) := (hfr334731 q334224 hm334237 (nm_c (rn_oa he334703 he334719) nm_n)).trans he334703
                                have he334740 : F334729 q277559 = .inr (22, [.ref (γ 9 0), .ref (γ 9 1), .ref (γ 9 2), .ref (γ 9 3), .ref (γ 9 4), .ref (γ 9 5), .ref (γ 9 6), .ref (γ 9 7), .ref (γ 9 8), .int p277568, .int p277569, .int p277570, .int p277571, .int p277572, .int p277573, .ref (γ 9 15), .ref (γ 9 16), .ref (γ 9 17), .ref (γ 9 18), .ref (γ 9 19), .ref (γ 9 20), .ref (γ 9 21), .ref (γ 9 22), .int p277574, .int p277575, .int p277576, .int p277577, .int p277578, .ref q277566, .ref (γ 9 29), .int p277579, .ref (γ 9 31), .int p277580, .int p277581, .int p277582, .ref q277567]) := (hfr334731 q277559 hm334706 (nm_c (rn_oa he334705 he334719) nm_n)).trans he334705
                                have he334741 : F334729 (γ 9 1) = .inl (I (.array .long), 2000, .inr (.inr (.inr (.inr f334713)))) := (hfr334731 (γ 9 1) hm334711 (nm_c (rn_ref_long he334712 he334719) nm_n)).trans he334712
                                have hfr334742 : rFr [q334715] P277557 F334690 F334729 := rFr_call (rSub_rf (P := P277557)) (rFr_rf (W := []) (P := P277557) (F := F334690)) hfr334731 (fun b hb hn => ⟨nm_n, (nm_c (fun e => hn (e ▸ List.mem_cons_self)) nm_n)⟩)
                                change G _ _ _ _ _ _ _ _ _ _ _
                                refine G_widen (cs' := 0) (sl' := 0) (by omega) (by omega) ?_
                                have hT334743 : RS D I P277557 F334729 γ el := RS_fr hT334691 hfr334742 ht334716 (by decide) ⟨f334726, he334732, x334727⟩
                                have hs334744 : rStr γ [] F277558 F334729 := rStr_fr hT334691 hs334692 hfr334742 ht334716 (by decide)
                                have kp334745 : F334729 q277559 = F277558 q277559 := (hfr334742 q277559 (RS_m hT334691 htq277559 (by decide)) (nm_c (rn_ty htq277559 ht334716 (by decide)) nm_n)).trans x334694
                                have kp334746 : F334729 (γ 9 3) = F334690 (γ 9 3) := hfr334742 (γ 9 3) (RS_m hT334691 ht277588 (by decide)) (nm_c (rn_ty ht277588 ht334716 (by decide)) nm_n)
                                refine G_aload_n 8 dr_cX17_graph_277 rfl ?_
                                refine G_aload 4 dr_cX17_graph_278 rfl ?_
                                refine G_iload_n 10 dr_cX17_graph_280 rfl ?_
                                refine Gw_callV (As := [.ref q334224, .int p277561]) (gV_ok D I) (ct_284394_SpillForgeModel_back l hl0 D I γ el P277557 F334729 q277559 q334224 p277561 hT334743 htq277559 ht334227 (gB_w bp277561' (by decide) (by decide))) dr_cX17_graph_281 ⟨wr_10_174, wr_1_14, wr_10_177, by decide, rfl, (Nat.le_of_ble_eq_true rfl), (Nat.le_of_ble_eq_true rfl)⟩ wr_10_176 wr_p_96 hm334706 he334740 rfl (show 0 + 0 ≤ 0 by first | omega | decide) (show 0 + 0 ≤ 0 by first | omega | decide) (Nat.le_of_ble_eq_true rfl) (fun r334750 w334751 dc334747 ds334748 hp334749 => ?_) (fun _ _ _ _ _ z => z.elim)
                                obtain ⟨F334755, rfl, rfl, hT334756, hs334757, hdc, hds, x334752, x334753, ht334754⟩ := hp334749
                                have he334758 : F334755 q277560 = .inr (18, [.ref q331719, .ref q331720, .int p331721, .int p331722]) := (hs334757 q277560 (rT0 htq277560 (by decide)) (rT1 htq277560 (by decide)) (rT2 htq277560 (by decide))).trans he334733
                                have he334759 : F334755 q331719 = .inr (4, [.int p332366, .ref q332368, .int p332367]) := (hs334757 q331719 (rT0 ht331723 (by decide)) (rT1 ht331723 (by decide)) (rT2 ht331723 (by decide))).trans he334734
                                have he334760 : F334755 q332368 = .inl (I (.object "java/lang/Object"), n332382, .inr (.inr (.inr (.inr f332383)))) := (hs334757 q332368 (rT0 r332374 (by decide)) (rT1 r332374 (by decide)) (rT2 r332374 (by decide))).trans he334735
                                have he334761 : F334755 q332385 = .inr (17, [.ref q332395, .ref q332396, .int p332397, .int p332398]) := (hs334757 q332385 (rT0 ht332391 (by decide)) (rT1 ht332391 (by decide)) (rT2 ht332391 (by decide))).trans he334736
                                have he334762 : F334755 q332395 = .inr (4, [.int p334205, .ref q334207, .int p334206]) := (hs334757 q332395 (rT0 ht332399 (by decide)) (rT1 ht332399 (by decide)) (rT2 ht332399 (by decide))).trans he334737
                                have he334763 : F334755 q334207 = .inl (I (.object "java/lang/Object"), n334221, .inr (.inr (.inr (.inr f334222)))) := (hs334757 q334207 (rT0 r334213 (by decide)) (rT1 r334213 (by decide)) (rT2 r334213 (by decide))).trans he334738
                                have he334764 : F334755 q334224 = .inr (20, [.int p334239, .int p334240, .int p334241, .int p334242, .int p334243, .int p334244, .int p334245]) := (hs334757 q334224 (rT0 ht334227 (by decide)) (rT1 ht334227 (by decide)) (rT2 ht334227 (by decide))).trans he334739
                                have hs334765 : rStr γ [] F277558 F334755 := rStr_tr hs334744 hs334757
                                have kp334766 : F334755 q277559 = F277558 q277559 := (x334752).trans kp334745
                                have kp334767 : F334755 (γ 9 3) = F334690 (γ 9 3) := (x334753).trans kp334746
                                have he334768 : F334755 q277559 = .inr (22, [.ref (γ 9 0), .ref (γ 9 1), .ref (γ 9 2), .ref (γ 9 3), .ref (γ 9 4), .ref (γ 9 5), .ref (γ 9 6), .ref (γ 9 7), .ref (γ 9 8), .int p277568, .int p277569, .int p277570, .int p277571, .int p277572, .int p277573, .ref (γ 9 15), .ref (γ 9 16), .ref (γ 9 17), .ref (γ 9 18), .ref (γ 9 19), .ref (γ 9 20), .ref (γ 9 21), .ref (γ 9 22), .int p277574, .int p277575, .int p277576, .int p277577, .int p277578, .ref q277566, .ref (γ 9 29), .int p277579, .ref (γ 9 31), .int p277580, .int p277581, .int p277582, .ref q277567]) := (x334752).trans he334740
                                change G _ _ _ _ _ _ _ _ _ _ _
                                refine G_widen (cs' := 0) (sl' := 0) (by omega) (by omega) ?_
                                obtain ⟨z334769, hz334769⟩ : ∃ z : Int32, z = g334179 + Int32.ofInt (-1) := ⟨_, rfl⟩
                                have ez334769 : z334769.toInt = g334179.toInt + (-1) := gI_inc hz334769 (by decide) bg334179' (by decide) (by decide)
                                have bz334769 : gB z334769 (-1) 999998 := ⟨by omega, by omega⟩
                                refine G_iinc (L' := [(5, .int z334769), (10, .int g334689), (9, .int 0), (8, .int (-1)), (7, .int o334284), (6, .ref q334224), (4, .ref q332385), (3, .int g331706), (0, .ref q277559), (1, .ref q277560), (2, .int p277561)]) z334769 5 dr_cX17_graph_284 rfl hz334769.symm (Nat.le_of_ble_eq_true rfl) rfl ?_
                                refine G_goto 109 dr_cX17_graph_287 (by decide +kernel) ?_
                                refine G_lv (L' := [(5, .int z334769), (4, .ref q332385), (3, .int g331706), (0, .ref q277559), (1, .ref q277560), (2, .int p277561)]) [0, 6, 7, 8, 9, 10] rfl ?_
                                exact ih109_334185 F334755 z334769 (gB_w bz334769 (by decide) (by decide)) hT334756 hs334765 (by omega) (fun h0 => by have z := x334693 h0; rw [← kp334767] at z; rw [show ((g334179.toInt : Int).toNat : Nat) = (z334769.toInt + 1 : Int).toNat by omega] at z; exact z) kp334766 (fun k e1 ht => kt109_334186 k e1 (fun R c1 c2 c3 c4 c5 c6 c7 c8 c9 c10 c11 => c5 F334180 g334179 q332395 q334224 p334206 F334259 p334239 p334240 p334243 o334284 F334690 q334715 f334720 f334726 F334729 F334755 z334769 k e1 bg334179 hT334181 hs334182 x334183 x334184 x334185 r334200 fq334201 hx334225 fq334229 ht334235 hT334260 hs334261 x334256 x334257 ht334258 fq334276 fq334277 fq334278 bo334284 ht334285 r334547 r334549 r334575 hx334709 fq334710 hx334717 he334719 ht334728 hfr334742 he334732 hT334743 hT334756 hs334757 x334752 x334753 ht334754 ez334769 (ht R c1 c2 c3 c4 c5 c6 c7 c8 c9 c10 c11))) (mz_dn ez334769 (Int.le_trans (by decide) bg334179'.1) hm109_334185)
                              · have r334770 : g334689.toInt < 32 := gj_nleL hc334707 (show Int32.toInt 32 = 32 by decide)
                                have bg334689' : gB g334689 0 31 := ⟨by omega, by omega⟩
                                refine G_aload_n 8 dr_cX17_graph_217 rfl ?_
                                have fq334771 : fR (F334690 q277559) 1 = (γ 9 1) := by rw [he334705]; rfl
                                refine Gp_get 1 hm334706 he334705 dr_cX17_graph_218 (gk_X17 D I) (Nat.le_of_ble_eq_true rfl) wr_7_75 rfl ?_
                                refine G_iload 3 dr_cX17_graph_221 rfl ?_
                                have hm334772 : (γ 9 1) ∈ P277557 := RS_m hT334691 ht277586 (by decide)
                                obtain ⟨f334774, he334773, hg334775⟩ := show rk_13 I γ (F334690 (γ 9 1)) from RS_o hT334691 ht277586
                                obtain ⟨q334776, hx334778⟩ : ∃ x, x = γ 11 o334284.toInt.toNat := ⟨_, rfl⟩
                                have ht334777 : rKd γ q334776 36 := by rw [hx334778]; exact (hg334775 _ (show o334284.toInt.toNat < 2000 by omega)).2.1
                                refine Gp_aald 5 hm334772 he334773 dr_cX17_graph_223 rfl rfl (gB_in bo334284' (by decide) (by decide)) ?_
                                rw [show f334774 o334284.toNatClampNeg = some q334776 from (hg334775 _ (show o334284.toInt.toNat < 2000 by omega)).1.trans (by rw [hx334778])]
                                change G _ _ _ _ _ _ _ (.ref q334776 :: _) _ _ _
                                refine G_iload 0 dr_cX17_graph_224 rfl ?_
                                refine G_dup2_11 dr_cX17_graph_226 rfl rfl ?_
                                have hm334779 : q334776 ∈ P277557 := RS_m hT334691 ht334777 (by decide)
                                obtain ⟨f334781, he334780, wf334781⟩ := show rk_36 I (F334690 q334776) from RS_o hT334691 ht334777
                                refine Gp_lald 2 hm334779 he334780 dr_cX17_graph_227 rfl (gB_in bg334689' (by decide) (by decide)) (G_namL fun u334782 hu334782 => ?_)
                                have qu334782 : lb_Q u334782 (2000 - 64 * g334689.toInt) := lb_Wld hu334782 wf334781 (by omega) (by omega) (lb_Mod0 (by omega) (by omega))
                                refine G_aload_n 8 dr_cX17_graph_228 rfl ?_
                                have fq334783 : fR (F334690 q277559) 2 = (γ 9 2) := by rw [he334705]; rfl
                                refine Gp_get 2 hm334706 he334705 dr_cX17_graph_229 (gk_X17 D I) (Nat.le_of_ble_eq_true rfl) wr_7_76 rfl ?_
                                refine G_iload 0 dr_cX17_graph_232 rfl ?_
                                have hm334784 : (γ 9 2) ∈ P277557 := RS_m hT334691 ht277587 (by decide)
                                obtain ⟨f334786, he334785, wf334786⟩ := show rk_35 I (F334690 (γ 9 2)) from RS_o hT334691 ht277587
                                refine Gp_lald 2 hm334784 he334785 dr_cX17_graph_234 rfl (gB_in bg334689' (by decide) (by decide)) (G_namL fun u334787 hu334787 => ?_)
                                have qu334787 : lb_Q u334787 (2000 - 64 * g334689.toInt) := lb_Wld hu334787 wf334786 (by omega) (by omega) (lb_Mod0 (by omega) (by omega))
                                refine G_lor dr_cX17_graph_235 (G_namL fun u334788 hu334788 => ?_)
                                have qu334788 : lb_Q u334788 (2000 - 64 * g334689.toInt) := lb_Qor hu334788 qu334782 qu334787
                                refine Gp_last 2 hm334779 he334780 dr_cX17_graph_236 rfl (gB_in bg334689' (by decide) (by decide)) (fun F334789 e334790 n334791 => ?_)
                                obtain ⟨f334792, hf334792⟩ : ∃ z, z = vp_updL f334781 g334689.toNatClampNeg u334788 := ⟨_, rfl⟩
                                rw [← hf334792] at e334790
                                have he334793 : F334789 q277560 = .inr (18, [.ref q331719, .ref q331720, .int p331721, .int p331722]) := (n334791 q277560 (rn_oa he334697 he334780)).trans he334697
                                have he334794 : F334789 q331719 = .inr (4, [.int p332366, .ref q332368, .int p332367]) := (n334791 q331719 (rn_oa he334698 he334780)).trans he334698
                                have he334795 : F334789 q332368 = .inl (I (.object "java/lang/Object"), n332382, .inr (.inr (.inr (.inr f332383)))) := (n334791 q332368 (rn_ref_long he334699 he334780)).trans he334699
                                have he334796 : F334789 q332385 = .inr (17, [.ref q332395, .ref q332396, .int p332397, .int p332398]) := (n334791 q332385 (rn_oa he334700 he334780)).trans he334700
                                have he334797 : F334789 q332395 = .inr (4, [.int p334205, .ref q334207, .int p334206]) := (n334791 q332395 (rn_oa he334701 he334780)).trans he334701
                                have he334798 : F334789 q334207 = .inl (I (.object "java/lang/Object"), n334221, .inr (.inr (.inr (.inr f334222)))) := (n334791 q334207 (rn_ref_long he334702 he334780)).trans he334702
                                have he334799 : F334789 q334224 = .inr (20, [.int p334239, .int p334240, .int p334241, .int p334242, .int p334243, .int p334244, .int p334245]) := (n334791 q334224 (rn_oa he334703 he334780)).trans he334703
                                have he334800 : F334789 q277559 = .inr (22, [.ref (γ 9 0), .ref (γ 9 1), .ref (γ 9 2), .ref (γ 9 3), .ref (γ 9 4), .ref (γ 9 5), .ref (γ 9 6), .ref (γ 9 7), .ref (γ 9 8), .int p277568, .int p277569, .int p277570, .int p277571, .int p277572, .int p277573, .ref (γ 9 15), .ref (γ 9 16), .ref (γ 9 17), .ref (γ 9 18), .ref (γ 9 19), .ref (γ 9 20), .ref (γ 9 21), .ref (γ 9 22), .int p277574, .int p277575, .int p277576, .int p277577, .int p277578, .ref q277566, .ref (γ 9 29), .int p277579, .ref (γ 9 31), .int p277580, .int p277581, .int p277582, .ref q277567]) := (n334791 q277559 (rn_oa he334705 he334780)).trans he334705
                                have he334801 : F334789 (γ 9 1) = .inl (I (.array .long), 2000, .inr (.inr (.inr (.inr f334774)))) := (n334791 (γ 9 1) (rn_ref_long he334773 he334780)).trans he334773
                                have he334802 : F334789 (γ 9 2) = .inl (I .long, 32, .inr (.inl f334786)) := (n334791 (γ 9 2) (rn_ty ht277587 ht334777 (by decide))).trans he334785
                                have he334803 : F334789 q334776 = .inl (I .long, 32, .inr (.inl f334792)) := e334790
                                have hs334804 : rStr γ [] F277558 F334789 := rStr_put hs334692 n334791 ht334777 (by decide)
                                have kp334805 : F334789 q277559 = F277558 q277559 := (n334791 q277559 (rn_ty htq277559 ht334777 (by decide))).trans x334694
                                have kp334806 : F334789 (γ 9 3) = F334690 (γ 9 3) := n334791 (γ 9 3) (rn_ty ht277588 ht334777 (by decide))
                                have wf334792 : lb_W f334792 (32) (32) (2000) := lb_Wst hf334792 wf334781 (by omega) (lb_Mod0 (by omega) (by omega)) qu334788
                                obtain ⟨z334807, hz334807⟩ : ∃ z : Int32, z = g334689 + Int32.ofInt 1 := ⟨_, rfl⟩
                                have ez334807 : z334807.toInt = g334689.toInt + 1 := gI_inc hz334807 (by decide) bg334689' (by decide) (by decide)
                                have bz334807 : gB z334807 1 32 := ⟨by omega, by omega⟩
                                refine G_iinc (L' := [(10, .int z334807), (9, .int 0), (8, .int (-1)), (7, .int o334284), (6, .ref q334224), (5, .int g334179), (4, .ref q332385), (3, .int g331706), (0, .ref q277559), (1, .ref q277560), (2, .int p277561)]) z334807 0 dr_cX17_graph_237 rfl hz334807.symm (Nat.le_of_ble_eq_true rfl) rfl ?_
                                refine G_goto 210 dr_cX17_graph_240 (by decide +kernel) ?_
                                have hT334808 : RS D I P277557 F334789 γ el := RS_set hT334691 n334791 ht334777 (by decide) ⟨f334792, he334803, wf334792⟩
                                exact ih210_334694 F334789 z334807 (gB_w bz334807 (by decide) (by decide)) hT334808 hs334804 (by rw [kp334806]; exact x334693) kp334805 (fun k e1 ht => kt210_334695 k e1 (fun R c1 c2 => c2 F334690 g334689 q334776 f334781 u334782 f334786 u334787 u334788 f334792 F334789 z334807 k e1 bg334689 hT334691 hs334692 x334693 x334694 r334770 fq334771 hx334778 he334780 hu334782 fq334783 he334785 hu334787 hu334788 hf334792 n334791 he334803 ez334807 (ht R c1 c2))) (mz_up ez334807 (Int.le_trans bg334689'.2 (by decide)) hm210_334694)
                          exact hlp210_334694 (((33 : Int) - 0).toNat + 1) F334259 0 (gB_w (gBl (show Int32.toInt 0 = 0 by decide)) (by decide) (by decide)) hT334260 hs334269 gr334275 kp334270 (fun k e1 ht => ht) (Nat.lt_succ_self _)
                      · have r334809 : p334239.toInt = 0 := gj_eq hc334548 (show Int32.toInt 0 = 0 by decide)
                        have bp334239' : gB p334239 0 0 := ⟨by omega, by omega⟩
                        refine G_aload 1 dr_cX17_graph_156 rfl ?_
                        have fq334810 : fI (F334259 q334224) 5 = p334244 := by rw [he334268]; rfl
                        refine Gp_get 5 hm334237 he334268 dr_cX17_graph_158 (gk_X15 D I) (Nat.le_of_ble_eq_true rfl) wr_9_197 rfl ?_
                        refine G_if_eq 172 dr_cX17_graph_161 (by decide +kernel) (fun hc334811 => ?_) (fun hc334811 => ?_)
                        · have r334812 : p334244.toInt = 0 := gj_eq hc334811 (show Int32.toInt 0 = 0 by decide)
                          have bp334244' : gB p334244 0 0 := gB_t0 r334812
                          refine G_iconst (-1) dr_cX17_graph_172 (by decide +kernel) ?_
                          refine G_istore (L' := [(8, .int (-1)), (7, .int o334284), (6, .ref q334224), (5, .int g334179), (4, .ref q332385), (3, .int g331706), (0, .ref q277559), (1, .ref q277560), (2, .int p277561)]) dr_cX17_graph_173 (Nat.le_of_ble_eq_true rfl) rfl ?_
                          refine G_iload 1 dr_cX17_graph_175 rfl ?_
                          refine G_if_lt 277 dr_cX17_graph_177 (by decide +kernel) (fun hc334813 => ?_) (fun hc334813 => ?_)
                          · have r334814 : o334284.toInt < 0 := gj_lt hc334813 (show Int32.toInt 0 = 0 by decide)
                            have bo334284' : gB o334284 (-1) (-1) := ⟨by omega, by omega⟩
                            refine G_aload_n 6 dr_cX17_graph_277 rfl ?_
                            refine G_aload 2 dr_cX17_graph_278 rfl ?_
                            refine G_iload_n 8 dr_cX17_graph_280 rfl ?_
                            refine Gw_callV (As := [.ref q334224, .int p277561]) (gV_ok D I) (ct_284394_SpillForgeModel_back l hl0 D I γ el P277557 F334259 q277559 q334224 p277561 hT334260 htq277559 ht334227 (gB_w bp277561' (by decide) (by decide))) dr_cX17_graph_281 ⟨wr_10_174, wr_1_14, wr_10_177, by decide, rfl, (Nat.le_of_ble_eq_true rfl), (Nat.le_of_ble_eq_true rfl)⟩ wr_10_176 wr_p_96 hm334195 he334271 rfl (show 0 + 0 ≤ 0 by first | omega | decide) (show 0 + 0 ≤ 0 by first | omega | decide) (Nat.le_of_ble_eq_true rfl) (fun r334818 w334819 dc334815 ds334816 hp334817 => ?_) (fun _ _ _ _ _ z => z.elim)
                            obtain ⟨F334823, rfl, rfl, hT334824, hs334825, hdc, hds, x334820, x334821, ht334822⟩ := hp334817
                            have he334826 : F334823 q277560 = .inr (18, [.ref q331719, .ref q331720, .int p331721, .int p331722]) := (hs334825 q277560 (rT0 htq277560 (by decide)) (rT1 htq277560 (by decide)) (rT2 htq277560 (by decide))).trans he334262
                            have he334827 : F334823 q331719 = .inr (4, [.int p332366, .ref q332368, .int p332367]) := (hs334825 q331719 (rT0 ht331723 (by decide)) (rT1 ht331723 (by decide)) (rT2 ht331723 (by decide))).trans he334263
                            have he334828 : F334823 q332368 = .inl (I (.object "java/lang/Object"), n332382, .inr (.inr (.inr (.inr f332383)))) := (hs334825 q332368 (rT0 r332374 (by decide)) (rT1 r332374 (by decide)) (rT2 r332374 (by decide))).trans he334264
                            have he334829 : F334823 q332385 = .inr (17, [.ref q332395, .ref q332396, .int p332397, .int p332398]) := (hs334825 q332385 (rT0 ht332391 (by decide)) (rT1 ht332391 (by decide)) (rT2 ht332391 (by decide))).trans he334265
                            have he334830 : F334823 q332395 = .inr (4, [.int p334205, .ref q334207, .int p334206]) := (hs334825 q332395 (rT0 ht332399 (by decide)) (rT1 ht332399 (by decide)) (rT2 ht332399 (by decide))).trans he334266
                            have he334831 : F334823 q334207 = .inl (I (.object "java/lang/Object"), n334221, .inr (.inr (.inr (.inr f334222)))) := (hs334825 q334207 (rT0 r334213 (by decide)) (rT1 r334213 (by decide)) (rT2 r334213 (by decide))).trans he334267
                            have he334832 : F334823 q334224 = .inr (20, [.int p334239, .int p334240, .int p334241, .int p334242, .int p334243, .int p334244, .int p334245]) := (hs334825 q334224 (rT0 ht334227 (by decide)) (rT1 ht334227 (by decide)) (rT2 ht334227 (by decide))).trans he334268
                            have hs334833 : rStr γ [] F277558 F334823 := rStr_tr hs334269 hs334825
                            have kp334834 : F334823 q277559 = F277558 q277559 := (x334820).trans kp334270
                            have kp334835 : F334823 (γ 9 3) = F334259 (γ 9 3) := x334821
                            have he334836 : F334823 q277559 = .inr (22, [.ref (γ 9 0), .ref (γ 9 1), .ref (γ 9 2), .ref (γ 9 3), .ref (γ 9 4), .ref (γ 9 5), .ref (γ 9 6), .ref (γ 9 7), .ref (γ 9 8), .int p277568, .int p277569, .int p277570, .int p277571, .int p277572, .int p277573, .ref (γ 9 15), .ref (γ 9 16), .ref (γ 9 17), .ref (γ 9 18), .ref (γ 9 19), .ref (γ 9 20), .ref (γ 9 21), .ref (γ 9 22), .int p277574, .int p277575, .int p277576, .int p277577, .int p277578, .ref q277566, .ref (γ 9 29), .int p277579, .ref (γ 9 31), .int p277580, .int p277581, .int p277582, .ref q277567]) := (x334820).trans he334271
                            change G _ _ _ _ _ _ _ _ _ _ _
                            refine G_widen (cs' := 0) (sl' := 0) (by omega) (by omega) ?_
                            obtain ⟨z334837, hz334837⟩ : ∃ z : Int32, z = g334179 + Int32.ofInt (-1) := ⟨_, rfl⟩
                            have ez334837 : z334837.toInt = g334179.toInt + (-1) := gI_inc hz334837 (by decide) bg334179' (by decide) (by decide)
                            have bz334837 : gB z334837 (-1) 999998 := ⟨by omega, by omega⟩
                            refine G_iinc (L' := [(5, .int z334837), (8, .int (-1)), (7, .int o334284), (6, .ref q334224), (4, .ref q332385), (3, .int g331706), (0, .ref q277559), (1, .ref q277560), (2, .int p277561)]) z334837 3 dr_cX17_graph_284 rfl hz334837.symm (Nat.le_of_ble_eq_true rfl) rfl ?_
                            refine G_goto 109 dr_cX17_graph_287 (by decide +kernel) ?_
                            refine G_lv (L' := [(5, .int z334837), (4, .ref q332385), (3, .int g331706), (0, .ref q277559), (1, .ref q277560), (2, .int p277561)]) [0, 4, 5, 6, 7, 8] rfl ?_
                            exact ih109_334185 F334823 z334837 (gB_w bz334837 (by decide) (by decide)) hT334824 hs334833 (by omega) (fun h0 => by have z := gr334275 h0; rw [← kp334835] at z; rw [show ((g334179.toInt : Int).toNat : Nat) = (z334837.toInt + 1 : Int).toNat by omega] at z; exact z) kp334834 (fun k e1 ht => kt109_334186 k e1 (fun R c1 c2 c3 c4 c5 c6 c7 c8 c9 c10 c11 => c6 F334180 g334179 q332395 q334224 p334206 F334259 p334239 p334240 p334243 o334284 p334244 F334823 z334837 k e1 bg334179 hT334181 hs334182 x334183 x334184 x334185 r334200 fq334201 hx334225 fq334229 ht334235 hT334260 hs334261 x334256 x334257 ht334258 fq334276 fq334277 fq334278 bo334284 ht334285 r334547 r334809 fq334810 r334812 r334814 hT334824 hs334825 x334820 x334821 ht334822 ez334837 (ht R c1 c2 c3 c4 c5 c6 c7 c8 c9 c10 c11))) (mz_dn ez334837 (Int.le_trans (by decide) bg334179'.1) hm109_334185)
                          · have r334838 : 0 ≤ o334284.toInt := gj_nlt hc334813 (show Int32.toInt 0 = 0 by decide)
                            have bo334284' : gB o334284 0 1999 := ⟨by omega, by omega⟩
                            refine G_iload 0 dr_cX17_graph_180 rfl ?_
                            refine G_if_lt 204 dr_cX17_graph_182 (by decide +kernel) (fun _ => ?_) (fun hc => absurd hc (by decide))
                            refine G_iconst 0 dr_cX17_graph_204 (by decide +kernel) ?_
                            refine G_istore (L' := [(9, .int 0), (8, .int (-1)), (7, .int o334284), (6, .ref q334224), (5, .int g334179), (4, .ref q332385), (3, .int g331706), (0, .ref q277559), (1, .ref q277560), (2, .int p277561)]) dr_cX17_graph_205 (Nat.le_of_ble_eq_true rfl) rfl ?_
                            refine G_iconst 0 dr_cX17_graph_207 (by decide +kernel) ?_
                            refine G_istore (L' := [(10, .int 0), (9, .int 0), (8, .int (-1)), (7, .int o334284), (6, .ref q334224), (5, .int g334179), (4, .ref q332385), (3, .int g331706), (0, .ref q277559), (1, .ref q277560), (2, .int p277561)]) dr_cX17_graph_208 (Nat.le_of_ble_eq_true rfl) rfl ?_
                            have hlp210_334957 : ∀ (n210_334957 : Nat) (F334953 : Nat → va_E) (g334952 : Int32), gB g334952 0 32 → RS D I P277557 F334953 γ el → rStr γ [] F277558 F334953 → (gIp (p277561.toInt = 0) (rGr γ el F277558 q277560 (γ 6 (γ 1 q277560)) (cB (F334953 (γ 9 3))) (vB (g331706.toInt : Int).toNat (g334179.toInt : Int).toNat))) → (F334953 q277559 = F277558 q277559) → (∀ (k : Nat) (e1 : Nat → va_E), tl_RModel_graph_210_3 D I γ el P277557 F277558 p277561 q277560 g331706 g334179 q277559 o334284 F334953 g334952 k e1 → tl_RModel_graph_210_3 D I γ el P277557 F277558 p277561 q277560 g331706 g334179 q277559 o334284 F334259 (0 : Int32) k e1) → ((33 : Int) - g334952.toInt).toNat < n210_334957 → G (gV D I) l (gRm 5 111 0 0) (gMA (gV D I) (pt_277563_SpillForgeModel_graph D I γ el P277557 F277558 q277559 q277560 p277561) gNA 0 0) ky_277563_SpillForgeModel_graph 210 [(10, .int g334952), (9, .int 0), (8, .int (-1)), (7, .int o334284), (6, .ref q334224), (5, .int g334179), (4, .ref q332385), (3, .int g331706), (0, .ref q277559), (1, .ref q277560), (2, .int p277561)] [] (va_pl P277557 F334953) 0 0 := by
                              intro n210_334957
                              induction n210_334957 with
                              | zero => intro F334953 g334952 bg334952 hT334954 hs334955 x334956 x334957 kt210_334958 hm210_334957; exact absurd hm210_334957 (Nat.not_lt_zero _)
                              | succ n210_334957 ih210_334957 =>
                                intro F334953 g334952 bg334952 hT334954 hs334955 x334956 x334957 kt210_334958 hm210_334957
                                have hs334959 : rStr γ [] F334259 F334953 := fun b h0 hb hw => (hs334955 b h0 hb hw).trans (hs334269 b h0 hb hw).symm
                                have he334960 : F334953 q277560 = .inr (18, [.ref q331719, .ref q331720, .int p331721, .int p331722]) := (hs334959 q277560 (rT0 htq277560 (by decide)) (rT1 htq277560 (by decide)) (rT2 htq277560 (by decide))).trans he334262
                                have he334961 : F334953 q331719 = .inr (4, [.int p332366, .ref q332368, .int p332367]) := (hs334959 q331719 (rT0 ht331723 (by decide)) (rT1 ht331723 (by decide)) (rT2 ht331723 (by decide))).trans he334263
                                have he334962 : F334953 q332368 = .inl (I (.object "java/lang/Object"), n332382, .inr (.inr (.inr (.inr f332383)))) := (hs334959 q332368 (rT0 r332374 (by decide)) (rT1 r332374 (by decide)) (rT2 r332374 (by decide))).trans he334264
                                have he334963 : F334953 q332385 = .inr (17, [.ref q332395, .ref q332396, .int p332397, .int p332398]) := (hs334959 q332385 (rT0 ht332391 (by decide)) (rT1 ht332391 (by decide)) (rT2 ht332391 (by decide))).trans he334265
                                have he334964 : F334953 q332395 = .inr (4, [.int p334205, .ref q334207, .int p334206]) := (hs334959 q332395 (rT0 ht332399 (by decide)) (rT1 ht332399 (by decide)) (rT2 ht332399 (by decide))).trans he334266
                                have he334965 : F334953 q334207 = .inl (I (.object "java/lang/Object"), n334221, .inr (.inr (.inr (.inr f334222)))) := (hs334959 q334207 (rT0 r334213 (by decide)) (rT1 r334213 (by decide)) (rT2 r334213 (by decide))).trans he334267
                                have he334966 : F334953 q334224 = .inr (20, [.int p334239, .int p334240, .int p334241, .int p334242, .int p334243, .int p334244, .int p334245]) := (hs334959 q334224 (rT0 ht334227 (by decide)) (rT1 ht334227 (by decide)) (rT2 ht334227 (by decide))).trans he334268
                                have hs334967 : rStr γ [] F277558 F334953 := rStr_tr hs334269 hs334959
                                have he334968 : F334953 q277559 = .inr (22, [.ref (γ 9 0), .ref (γ 9 1), .ref (γ 9 2), .ref (γ 9 3), .ref (γ 9 4), .ref (γ 9 5), .ref (γ 9 6), .ref (γ 9 7), .ref (γ 9 8), .int p277568, .int p277569, .int p277570, .int p277571, .int p277572, .int p277573, .ref (γ 9 15), .ref (γ 9 16), .ref (γ 9 17), .ref (γ 9 18), .ref (γ 9 19), .ref (γ 9 20), .ref (γ 9 21), .ref (γ 9 22), .int p277574, .int p277575, .int p277576, .int p277577, .int p277578, .ref q277566, .ref (γ 9 29), .int p277579, .ref (γ 9 31), .int p277580, .int p277581, .int p277582, .ref q277567]) := x334957.trans he277565
                                have hm334969 : q277559 ∈ P277557 := RS_m hT334954 htq277559 (by decide)
                                refine G_iload 0 dr_cX17_graph_210 rfl ?_
                                refine G_bipush 32 dr_cX17_graph_212 (by decide +kernel) ?_
                                refine G_icmp_ge 243 dr_cX17_graph_214 (by decide +kernel) (fun hc334970 => ?_) (fun hc334970 => ?_)
                                · have r334971 : 32 ≤ g334952.toInt := gj_leL hc334970 (show Int32.toInt 32 = 32 by decide)
                                  have bg334952' : gB g334952 32 32 := ⟨by omega, by omega⟩
                                  have hx334972 : tl_RModel_graph_210_3 D I γ el P277557 F277558 p277561 q277560 g331706 g334179 q277559 o334284 F334259 (0 : Int32) 243 F334953 := kt210_334958 243 F334953 (fun R c1 c2 => c1 F334953 g334952 bg334952 hT334954 hs334955 x334956 x334957 r334971)
                                  refine G_iload 2 dr_cX17_graph_243 rfl ?_
                                  refine G_if_lt 265 dr_cX17_graph_245 (by decide +kernel) (fun _ => ?_) (fun hc => absurd hc (by decide))
                                  refine G_aload_n 8 dr_cX17_graph_265 rfl ?_
                                  have fq334973 : fR (F334953 q277559) 1 = (γ 9 1) := by rw [he334968]; rfl
                                  refine Gp_get 1 hm334969 he334968 dr_cX17_graph_266 (gk_X17 D I) (Nat.le_of_ble_eq_true rfl) wr_7_75 rfl ?_
                                  refine G_iload 3 dr_cX17_graph_269 rfl ?_
                                  have hm334974 : (γ 9 1) ∈ P277557 := RS_m hT334954 ht277586 (by decide)
                                  obtain ⟨f334976, he334975, hg334977⟩ := show rk_13 I γ (F334953 (γ 9 1)) from RS_o hT334954 ht277586
                                  obtain ⟨q334978, hx334980⟩ : ∃ x, x = γ 11 o334284.toInt.toNat := ⟨_, rfl⟩
                                  have ht334979 : rKd γ q334978 36 := by rw [hx334980]; exact (hg334977 _ (show o334284.toInt.toNat < 2000 by omega)).2.1
                                  refine Gp_aald 5 hm334974 he334975 dr_cX17_graph_271 rfl rfl (gB_in bo334284' (by decide) (by decide)) ?_
                                  rw [show f334976 o334284.toNatClampNeg = some q334978 from (hg334977 _ (show o334284.toInt.toNat < 2000 by omega)).1.trans (by rw [hx334980])]
                                  change G _ _ _ _ _ _ _ (.ref q334978 :: _) _ _ _
                                  refine G_iload 3 dr_cX17_graph_272 rfl ?_
                                  have hm334981 : q334978 ∈ P277557 := RS_m hT334954 ht334979 (by decide)
                                  obtain ⟨f334983, he334982, wf334983⟩ := show rk_36 I (F334953 q334978) from RS_o hT334954 ht334979
                                  refine Gw_callS (As := [.ref q334978, .int o334284]) (gV_ok D I) (cp_1880_SpillForgeModel_clear l hl0 D I P277557 F334953 q334978 o334284 f334983 hm334981 he334982 bo334284' wf334983) dr_cX17_graph_274 ⟨wr_10_185, wr_1_14, wr_10_187, by decide, rfl, (Nat.le_of_ble_eq_true rfl), (Nat.le_of_ble_eq_true rfl)⟩ wr_10_186 (show 0 + 0 ≤ 0 by first | omega | decide) (show 0 + 0 ≤ 0 by first | omega | decide) (Nat.le_of_ble_eq_true rfl) (fun r334987 w334988 dc334984 ds334985 hp334986 => ?_) (fun _ _ _ _ _ z => z.elim)
                                  obtain ⟨F334992, f334989, rfl, rfl, hfr334994, he334995, hdc, hds, x334990, ht334991⟩ := hp334986
                                  have he334996 : F334992 q277560 = .inr (18, [.ref q331719, .ref q331720, .int p331721, .int p331722]) := (hfr334994 q277560 hm331717 (nm_c (rn_oa he334960 he334982) nm_n)).trans he334960
                                  have he334997 : F334992 q331719 = .inr (4, [.int p332366, .ref q332368, .int p332367]) := (hfr334994 q331719 hm332364 (nm_c (rn_oa he334961 he334982) nm_n)).trans he334961
                                  have he334998 : F334992 q332368 = .inl (I (.object "java/lang/Object"), n332382, .inr (.inr (.inr (.inr f332383)))) := (hfr334994 q332368 hm332384 (nm_c (rn_ref_long he334962 he334982) nm_n)).trans he334962
                                  have he334999 : F334992 q332385 = .inr (17, [.ref q332395, .ref q332396, .int p332397, .int p332398]) := (hfr334994 q332385 hm332393 (nm_c (rn_oa he334963 he334982) nm_n)).trans he334963
                                  have he335000 : F334992 q332395 = .inr (4, [.int p334205, .ref q334207, .int p334206]) := (hfr334994 q332395 hm334203 (nm_c (rn_oa he334964 he334982) nm_n)).trans he334964
                                  have he335001 : F334992 q334207 = .inl (I (.object "java/lang/Object"), n334221, .inr (.inr (.inr (.inr f334222)))) := (hfr334994 q334207 hm334223 (nm_c (rn_ref_long he334965 he334982) nm_n)).trans he334965
                                  have he335002 : F334992 q334224 = .inr (20, [.int p334239, .int p334240, .int p334241, .int p334242, .int p334243, .int p334244, .int p334245]) := (hfr334994 q334224 hm334237 (nm_c (rn_oa he334966 he334982) nm_n)).trans he334966
                                  have he335003 : F334992 q277559 = .inr (22, [.ref (γ 9 0), .ref (γ 9 1), .ref (γ 9 2), .ref (γ 9 3), .ref (γ 9 4), .ref (γ 9 5), .ref (γ 9 6), .ref (γ 9 7), .ref (γ 9 8), .int p277568, .int p277569, .int p277570, .int p277571, .int p277572, .int p277573, .ref (γ 9 15), .ref (γ 9 16), .ref (γ 9 17), .ref (γ 9 18), .ref (γ 9 19), .ref (γ 9 20), .ref (γ 9 21), .ref (γ 9 22), .int p277574, .int p277575, .int p277576, .int p277577, .int p277578, .ref q277566, .ref (γ 9 29), .int p277579, .ref (γ 9 31), .int p277580, .int p277581, .int p277582, .ref q277567]) := (hfr334994 q277559 hm334969 (nm_c (rn_oa he334968 he334982) nm_n)).trans he334968
                                  have he335004 : F334992 (γ 9 1) = .inl (I (.array .long), 2000, .inr (.inr (.inr (.inr f334976)))) := (hfr334994 (γ 9 1) hm334974 (nm_c (rn_ref_long he334975 he334982) nm_n)).trans he334975
                                  have hfr335005 : rFr [q334978] P277557 F334953 F334992 := rFr_call (rSub_rf (P := P277557)) (rFr_rf (W := []) (P := P277557) (F := F334953)) hfr334994 (fun b hb hn => ⟨nm_n, (nm_c (fun e => hn (e ▸ List.mem_cons_self)) nm_n)⟩)
                                  change G _ _ _ _ _ _ _ _ _ _ _
                                  refine G_widen (cs' := 0) (sl' := 0) (by omega) (by omega) ?_
                                  have hT335006 : RS D I P277557 F334992 γ el := RS_fr hT334954 hfr335005 ht334979 (by decide) ⟨f334989, he334995, x334990⟩
                                  have hs335007 : rStr γ [] F277558 F334992 := rStr_fr hT334954 hs334955 hfr335005 ht334979 (by decide)
                                  have kp335008 : F334992 q277559 = F277558 q277559 := (hfr335005 q277559 (RS_m hT334954 htq277559 (by decide)) (nm_c (rn_ty htq277559 ht334979 (by decide)) nm_n)).trans x334957
                                  have kp335009 : F334992 (γ 9 3) = F334953 (γ 9 3) := hfr335005 (γ 9 3) (RS_m hT334954 ht277588 (by decide)) (nm_c (rn_ty ht277588 ht334979 (by decide)) nm_n)
                                  refine G_aload_n 8 dr_cX17_graph_277 rfl ?_
                                  refine G_aload 4 dr_cX17_graph_278 rfl ?_
                                  refine G_iload_n 10 dr_cX17_graph_280 rfl ?_
                                  refine Gw_callV (As := [.ref q334224, .int p277561]) (gV_ok D I) (ct_284394_SpillForgeModel_back l hl0 D I γ el P277557 F334992 q277559 q334224 p277561 hT335006 htq277559 ht334227 (gB_w bp277561' (by decide) (by decide))) dr_cX17_graph_281 ⟨wr_10_174, wr_1_14, wr_10_177, by decide, rfl, (Nat.le_of_ble_eq_true rfl), (Nat.le_of_ble_eq_true rfl)⟩ wr_10_176 wr_p_96 hm334969 he335003 rfl (show 0 + 0 ≤ 0 by first | omega | decide) (show 0 + 0 ≤ 0 by first | omega | decide) (Nat.le_of_ble_eq_true rfl) (fun r335013 w335014 dc335010 ds335011 hp335012 => ?_) (fun _ _ _ _ _ z => z.elim)
                                  obtain ⟨F335018, rfl, rfl, hT335019, hs335020, hdc, hds, x335015, x335016, ht335017⟩ := hp335012
                                  have he335021 : F335018 q277560 = .inr (18, [.ref q331719, .ref q331720, .int p331721, .int p331722]) := (hs335020 q277560 (rT0 htq277560 (by decide)) (rT1 htq277560 (by decide)) (rT2 htq277560 (by decide))).trans he334996
                                  have he335022 : F335018 q331719 = .inr (4, [.int p332366, .ref q332368, .int p332367]) := (hs335020 q331719 (rT0 ht331723 (by decide)) (rT1 ht331723 (by decide)) (rT2 ht331723 (by decide))).trans he334997
                                  have he335023 : F335018 q332368 = .inl (I (.object "java/lang/Object"), n332382, .inr (.inr (.inr (.inr f332383)))) := (hs335020 q332368 (rT0 r332374 (by decide)) (rT1 r332374 (by decide)) (rT2 r332374 (by decide))).trans he334998
                                  have he335024 : F335018 q332385 = .inr (17, [.ref q332395, .ref q332396, .int p332397, .int p332398]) := (hs335020 q332385 (rT0 ht332391 (by decide)) (rT1 ht332391 (by decide)) (rT2 ht332391 (by decide))).trans he334999
                                  have he335025 : F335018 q332395 = .inr (4, [.int p334205, .ref q334207, .int p334206]) := (hs335020 q332395 (rT0 ht332399 (by decide)) (rT1 ht332399 (by decide)) (rT2 ht332399 (by decide))).trans he335000
                                  have he335026 : F335018 q334207 = .inl (I (.object "java/lang/Object"), n334221, .inr (.inr (.inr (.inr f334222)))) := (hs335020 q334207 (rT0 r334213 (by decide)) (rT1 r334213 (by decide)) (rT2 r334213 (by decide))).trans he335001
                                  have he335027 : F335018 q334224 = .inr (20, [.int p334239, .int p334240, .int p334241, .int p334242, .int p334243, .int p334244, .int p334245]) := (hs335020 q334224 (rT0 ht334227 (by decide)) (rT1 ht334227 (by decide)) (rT2 ht334227 (by decide))).trans he335002
                                  have hs335028 : rStr γ [] F277558 F335018 := rStr_tr hs335007 hs335020
                                  have kp335029 : F335018 q277559 = F277558 q277559 := (x335015).trans kp335008
                                  have kp335030 : F335018 (γ 9 3) = F334953 (γ 9 3) := (x335016).trans kp335009
                                  have he335031 : F335018 q277559 = .inr (22, [.ref (γ 9 0), .ref (γ 9 1), .ref (γ 9 2), .ref (γ 9 3), .ref (γ 9 4), .ref (γ 9 5), .ref (γ 9 6), .ref (γ 9 7), .ref (γ 9 8), .int p277568, .int p277569, .int p277570, .int p277571, .int p277572, .int p277573, .ref (γ 9 15), .ref (γ 9 16), .ref (γ 9 17), .ref (γ 9 18), .ref (γ 9 19), .ref (γ 9 20), .ref (γ 9 21), .ref (γ 9 22), .int p277574, .int p277575, .int p277576, .int p277577, .int p277578, .ref q277566, .ref (γ 9 29), .int p277579, .ref (γ 9 31), .int p277580, .int p277581, .int p277582, .ref q277567]) := (x335015).trans he335003
                                  change G _ _ _ _ _ _ _ _ _ _ _
                                  refine G_widen (cs' := 0) (sl' := 0) (by omega) (by omega) ?_
                                  obtain ⟨z335032, hz335032⟩ : ∃ z : Int32, z = g334179 + Int32.ofInt (-1) := ⟨_, rfl⟩
                                  have ez335032 : z335032.toInt = g334179.toInt + (-1) := gI_inc hz335032 (by decide) bg334179' (by decide) (by decide)
                                  have bz335032 : gB z335032 (-1) 999998 := ⟨by omega, by omega⟩
                                  refine G_iinc (L' := [(5, .int z335032), (10, .int g334952), (9, .int 0), (8, .int (-1)), (7, .int o334284), (6, .ref q334224), (4, .ref q332385), (3, .int g331706), (0, .ref q277559), (1, .ref q277560), (2, .int p277561)]) z335032 5 dr_cX17_graph_284 rfl hz335032.symm (Nat.le_of_ble_eq_true rfl) rfl ?_
                                  refine G_goto 109 dr_cX17_graph_287 (by decide +kernel) ?_
                                  refine G_lv (L' := [(5, .int z335032), (4, .ref q332385), (3, .int g331706), (0, .ref q277559), (1, .ref q277560), (2, .int p277561)]) [0, 6, 7, 8, 9, 10] rfl ?_
                                  exact ih109_334185 F335018 z335032 (gB_w bz335032 (by decide) (by decide)) hT335019 hs335028 (by omega) (fun h0 => by have z := x334956 h0; rw [← kp335030] at z; rw [show ((g334179.toInt : Int).toNat : Nat) = (z335032.toInt + 1 : Int).toNat by omega] at z; exact z) kp335029 (fun k e1 ht => kt109_334186 k e1 (fun R c1 c2 c3 c4 c5 c6 c7 c8 c9 c10 c11 => c7 F334180 g334179 q332395 q334224 p334206 F334259 p334239 p334240 p334243 o334284 p334244 F334953 q334978 f334983 f334989 F334992 F335018 z335032 k e1 bg334179 hT334181 hs334182 x334183 x334184 x334185 r334200 fq334201 hx334225 fq334229 ht334235 hT334260 hs334261 x334256 x334257 ht334258 fq334276 fq334277 fq334278 bo334284 ht334285 r334547 r334809 fq334810 r334812 r334838 hx334972 fq334973 hx334980 he334982 ht334991 hfr335005 he334995 hT335006 hT335019 hs335020 x335015 x335016 ht335017 ez335032 (ht R c1 c2 c3 c4 c5 c6 c7 c8 c9 c10 c11))) (mz_dn ez335032 (Int.le_trans (by decide) bg334179'.1) hm109_334185)
                                · have r335033 : g334952.toInt < 32 := gj_nleL hc334970 (show Int32.toInt 32 = 32 by decide)
                                  have bg334952' : gB g334952 0 31 := ⟨by omega, by omega⟩
                                  refine G_aload_n 8 dr_cX17_graph_217 rfl ?_
                                  have fq335034 : fR (F334953 q277559) 1 = (γ 9 1) := by rw [he334968]; rfl
                                  refine Gp_get 1 hm334969 he334968 dr_cX17_graph_218 (gk_X17 D I) (Nat.le_of_ble_eq_true rfl) wr_7_75 rfl ?_
                                  refine G_iload 3 dr_cX17_graph_221 rfl ?_
                                  have hm335035 : (γ 9 1) ∈ P277557 := RS_m hT334954 ht277586 (by decide)
                                  obtain ⟨f335037, he335036, hg335038⟩ := show rk_13 I γ (F334953 (γ 9 1)) from RS_o hT334954 ht277586
                                  obtain ⟨q335039, hx335041⟩ : ∃ x, x = γ 11 o334284.toInt.toNat := ⟨_, rfl⟩
                                  have ht335040 : rKd γ q335039 36 := by rw [hx335041]; exact (hg335038 _ (show o334284.toInt.toNat < 2000 by omega)).2.1
                                  refine Gp_aald 5 hm335035 he335036 dr_cX17_graph_223 rfl rfl (gB_in bo334284' (by decide) (by decide)) ?_
                                  rw [show f335037 o334284.toNatClampNeg = some q335039 from (hg335038 _ (show o334284.toInt.toNat < 2000 by omega)).1.trans (by rw [hx335041])]
                                  change G _ _ _ _ _ _ _ (.ref q335039 :: _) _ _ _
                                  refine G_iload 0 dr_cX17_graph_224 rfl ?_
                                  refine G_dup2_11 dr_cX17_graph_226 rfl rfl ?_
                                  have hm335042 : q335039 ∈ P277557 := RS_m hT334954 ht335040 (by decide)
                                  obtain ⟨f335044, he335043, wf335044⟩ := show rk_36 I (F334953 q335039) from RS_o hT334954 ht335040
                                  refine Gp_lald 2 hm335042 he335043 dr_cX17_graph_227 rfl (gB_in bg334952' (by decide) (by decide)) (G_namL fun u335045 hu335045 => ?_)
                                  have qu335045 : lb_Q u335045 (2000 - 64 * g334952.toInt) := lb_Wld hu335045 wf335044 (by omega) (by omega) (lb_Mod0 (by omega) (by omega))
                                  refine G_aload_n 8 dr_cX17_graph_228 rfl ?_
                                  have fq335046 : fR (F334953 q277559) 2 = (γ 9 2) := by rw [he334968]; rfl
                                  refine Gp_get 2 hm334969 he334968 dr_cX17_graph_229 (gk_X17 D I) (Nat.le_of_ble_eq_true rfl) wr_7_76 rfl ?_
                                  refine G_iload 0 dr_cX17_graph_232 rfl ?_
                                  have hm335047 : (γ 9 2) ∈ P277557 := RS_m hT334954 ht277587 (by decide)
                                  obtain ⟨f335049, he335048, wf335049⟩ := show rk_35 I (F334953 (γ 9 2)) from RS_o hT334954 ht277587
                                  refine Gp_lald 2 hm335047 he335048 dr_cX17_graph_234 rfl (gB_in bg334952' (by decide) (by decide)) (G_namL fun u335050 hu335050 => ?_)
                                  have qu335050 : lb_Q u335050 (2000 - 64 * g334952.toInt) := lb_Wld hu335050 wf335049 (by omega) (by omega) (lb_Mod0 (by omega) (by omega))
                                  refine G_lor dr_cX17_graph_235 (G_namL fun u335051 hu335051 => ?_)
                                  have qu335051 : lb_Q u335051 (2000 - 64 * g334952.toInt) := lb_Qor hu335051 qu335045 qu335050
                                  refine Gp_last 2 hm335042 he335043 dr_cX17_graph_236 rfl (gB_in bg334952' (by decide) (by decide)) (fun F335052 e335053 n335054 => ?_)
                                  obtain ⟨f335055, hf335055⟩ : ∃ z, z = vp_updL f335044 g334952.toNatClampNeg u335051 := ⟨_, rfl⟩
                                  rw [← hf335055] at e335053
                                  have he335056 : F335052 q277560 = .inr (18, [.ref q331719, .ref q331720, .int p331721, .int p331722]) := (n335054 q277560 (rn_oa he334960 he335043)).trans he334960
                                  have he335057 : F335052 q331719 = .inr (4, [.int p332366, .ref q332368, .int p332367]) := (n335054 q331719 (rn_oa he334961 he335043)).trans he334961
                                  have he335058 : F335052 q332368 = .inl (I (.object "java/lang/Object"), n332382, .inr (.inr (.inr (.inr f332383)))) := (n335054 q332368 (rn_ref_long he334962 he335043)).trans he334962
                                  have he335059 : F335052 q332385 = .inr (17, [.ref q332395, .ref q332396, .int p332397, .int p332398]) := (n335054 q332385 (rn_oa he334963 he335043)).trans he334963
                                  have he335060 : F335052 q332395 = .inr (4, [.int p334205, .ref q334207, .int p334206]) := (n335054 q332395 (rn_oa he334964 he335043)).trans he334964
                                  have he335061 : F335052 q334207 = .inl (I (.object "java/lang/Object"), n334221, .inr (.inr (.inr (.inr f334222)))) := (n335054 q334207 (rn_ref_long he334965 he335043)).trans he334965
                                  have he335062 : F335052 q334224 = .inr (20, [.int p334239, .int p334240, .int p334241, .int p334242, .int p334243, .int p334244, .int p334245]) := (n335054 q334224 (rn_oa he334966 he335043)).trans he334966
                                  have he335063 : F335052 q277559 = .inr (22, [.ref (γ 9 0), .ref (γ 9 1), .ref (γ 9 2), .ref (γ 9 3), .ref (γ 9 4), .ref (γ 9 5), .ref (γ 9 6), .ref (γ 9 7), .ref (γ 9 8), .int p277568, .int p277569, .int p277570, .int p277571, .int p277572, .int p277573, .ref (γ 9 15), .ref (γ 9 16), .ref (γ 9 17), .ref (γ 9 18), .ref (γ 9 19), .ref (γ 9 20), .ref (γ 9 21), .ref (γ 9 22), .int p277574, .int p277575, .int p277576, .int p277577, .int p277578, .ref q277566, .ref (γ 9 29), .int p277579, .ref (γ 9 31), .int p277580, .int p277581, .int p277582, .ref q277567]) := (n335054 q277559 (rn_oa he334968 he335043)).trans he334968
                                  have he335064 : F335052 (γ 9 1) = .inl (I (.array .long), 2000, .inr (.inr (.inr (.inr f335037)))) := (n335054 (γ 9 1) (rn_ref_long he335036 he335043)).trans he335036
                                  have he335065 : F335052 (γ 9 2) = .inl (I .long, 32, .inr (.inl f335049)) := (n335054 (γ 9 2) (rn_ty ht277587 ht335040 (by decide))).trans he335048
                                  have he335066 : F335052 q335039 = .inl (I .long, 32, .inr (.inl f335055)) := e335053
                                  have hs335067 : rStr γ [] F277558 F335052 := rStr_put hs334955 n335054 ht335040 (by decide)
                                  have kp335068 : F335052 q277559 = F277558 q277559 := (n335054 q277559 (rn_ty htq277559 ht335040 (by decide))).trans x334957
                                  have kp335069 : F335052 (γ 9 3) = F334953 (γ 9 3) := n335054 (γ 9 3) (rn_ty ht277588 ht335040 (by decide))
                                  have wf335055 : lb_W f335055 (32) (32) (2000) := lb_Wst hf335055 wf335044 (by omega) (lb_Mod0 (by omega) (by omega)) qu335051
                                  obtain ⟨z335070, hz335070⟩ : ∃ z : Int32, z = g334952 + Int32.ofInt 1 := ⟨_, rfl⟩
                                  have ez335070 : z335070.toInt = g334952.toInt + 1 := gI_inc hz335070 (by decide) bg334952' (by decide) (by decide)
                                  have bz335070 : gB z335070 1 32 := ⟨by omega, by omega⟩
                                  refine G_iinc (L' := [(10, .int z335070), (9, .int 0), (8, .int (-1)), (7, .int o334284), (6, .ref q334224), (5, .int g334179), (4, .ref q332385), (3, .int g331706), (0, .ref q277559), (1, .ref q277560), (2, .int p277561)]) z335070 0 dr_cX17_graph_237 rfl hz335070.symm (Nat.le_of_ble_eq_true rfl) rfl ?_
                                  refine G_goto 210 dr_cX17_graph_240 (by decide +kernel) ?_
                                  have hT335071 : RS D I P277557 F335052 γ el := RS_set hT334954 n335054 ht335040 (by decide) ⟨f335055, he335066, wf335055⟩
                                  exact ih210_334957 F335052 z335070 (gB_w bz335070 (by decide) (by decide)) hT335071 hs335067 (by rw [kp335069]; exact x334956) kp335068 (fun k e1 ht => kt210_334958 k e1 (fun R c1 c2 => c2 F334953 g334952 q335039 f335044 u335045 f335049 u335050 u335051 f335055 F335052 z335070 k e1 bg334952 hT334954 hs334955 x334956 x334957 r335033 fq335034 hx335041 he335043 hu335045 fq335046 he335048 hu335050 hu335051 hf335055 n335054 he335066 ez335070 (ht R c1 c2))) (mz_up ez335070 (Int.le_trans bg334952'.2 (by decide)) hm210_334957)
                            exact hlp210_334957 (((33 : Int) - 0).toNat + 1) F334259 0 (gB_w (gBl (show Int32.toInt 0 = 0 by decide)) (by decide) (by decide)) hT334260 hs334269 gr334275 kp334270 (fun k e1 ht => ht) (Nat.lt_succ_self _)
                        · have r335072 : p334244.toInt ≠ 0 := gj_neq hc334811 (show Int32.toInt 0 = 0 by decide)
                          have bp334244' : gB p334244 1 1 := gB_t1 bp334244 r335072
                          refine G_aload 1 dr_cX17_graph_164 rfl ?_
                          have fq335073 : fI (F334259 q334224) 2 = p334241 := by rw [he334268]; rfl
                          refine Gp_get 2 hm334237 he334268 dr_cX17_graph_166 (gk_X15 D I) (Nat.le_of_ble_eq_true rfl) wr_9_186 rfl ?_
                          refine G_goto 173 dr_cX17_graph_169 (by decide +kernel) ?_
                          refine G_istore (L' := [(8, .int p334241), (7, .int o334284), (6, .ref q334224), (5, .int g334179), (4, .ref q332385), (3, .int g331706), (0, .ref q277559), (1, .ref q277560), (2, .int p277561)]) dr_cX17_graph_173 (Nat.le_of_ble_eq_true rfl) rfl ?_
                          refine G_iload 1 dr_cX17_graph_175 rfl ?_
                          refine G_if_lt 277 dr_cX17_graph_177 (by decide +kernel) (fun hc335074 => ?_) (fun hc335074 => ?_)
                          · have r335075 : o334284.toInt < 0 := gj_lt hc335074 (show Int32.toInt 0 = 0 by decide)
                            have bo334284' : gB o334284 (-1) (-1) := ⟨by omega, by omega⟩
                            refine G_aload_n 6 dr_cX17_graph_277 rfl ?_
                            refine G_aload 2 dr_cX17_graph_278 rfl ?_
                            refine G_iload_n 8 dr_cX17_graph_280 rfl ?_
                            refine Gw_callV (As := [.ref q334224, .int p277561]) (gV_ok D I) (ct_284394_SpillForgeModel_back l hl0 D I γ el P277557 F334259 q277559 q334224 p277561 hT334260 htq277559 ht334227 (gB_w bp277561' (by decide) (by decide))) dr_cX17_graph_281 ⟨wr_10_174, wr_1_14, wr_10_177, by decide, rfl, (Nat.le_of_ble_eq_true rfl), (Nat.le_of_ble_eq_true rfl)⟩ wr_10_176 wr_p_96 hm334195 he334271 rfl (show 0 + 0 ≤ 0 by first | omega | decide) (show 0 + 0 ≤ 0 by first | omega | decide) (Nat.le_of_ble_eq_true rfl) (fun r335079 w335080 dc335076 ds335077 hp335078 => ?_) (fun _ _ _ _ _ z => z.elim)
                            obtain ⟨F335084, rfl, rfl, hT335085, hs335086, hdc, hds, x335081, x335082, ht335083⟩ := hp335078
                            have he335087 : F335084 q277560 = .inr (18, [.ref q331719, .ref q331720, .int p331721, .int p331722]) := (hs335086 q277560 (rT0 htq277560 (by decide)) (rT1 htq277560 (by decide)) (rT2 htq277560 (by decide))).trans he334262
                            have he335088 : F335084 q331719 = .inr (4, [.int p332366, .ref q332368, .int p332367]) := (hs335086 q331719 (rT0 ht331723 (by decide)) (rT1 ht331723 (by decide)) (rT2 ht331723 (by decide))).trans he334263
                            have he335089 : F335084 q332368 = .inl (I (.object "java/lang/Object"), n332382, .inr (.inr (.inr (.inr f332383)))) := (hs335086 q332368 (rT0 r332374 (by decide)) (rT1 r332374 (by decide)) (rT2 r332374 (by decide))).trans he334264
                            have he335090 : F335084 q332385 = .inr (17, [.ref q332395, .ref q332396, .int p332397, .int p332398]) := (hs335086 q332385 (rT0 ht332391 (by decide)) (rT1 ht332391 (by decide)) (rT2 ht332391 (by decide))).trans he334265
                            have he335091 : F335084 q332395 = .inr (4, [.int p334205, .ref q334207, .int p334206]) := (hs335086 q332395 (rT0 ht332399 (by decide)) (rT1 ht332399 (by decide)) (rT2 ht332399 (by decide))).trans he334266
                            have he335092 : F335084 q334207 = .inl (I (.object "java/lang/Object"), n334221, .inr (.inr (.inr (.inr f334222)))) := (hs335086 q334207 (rT0 r334213 (by decide)) (rT1 r334213 (by decide)) (rT2 r334213 (by decide))).trans he334267
                            have he335093 : F335084 q334224 = .inr (20, [.int p334239, .int p334240, .int p334241, .int p334242, .int p334243, .int p334244, .int p334245]) := (hs335086 q334224 (rT0 ht334227 (by decide)) (rT1 ht334227 (by decide)) (rT2 ht334227 (by decide))).trans he334268
                            have hs335094 : rStr γ [] F277558 F335084 := rStr_tr hs334269 hs335086
                            have kp335095 : F335084 q277559 = F277558 q277559 := (x335081).trans kp334270
                            have kp335096 : F335084 (γ 9 3) = F334259 (γ 9 3) := x335082
                            have he335097 : F335084 q277559 = .inr (22, [.ref (γ 9 0), .ref (γ 9 1), .ref (γ 9 2), .ref (γ 9 3), .ref (γ 9 4), .ref (γ 9 5), .ref (γ 9 6), .ref (γ 9 7), .ref (γ 9 8), .int p277568, .int p277569, .int p277570, .int p277571, .int p277572, .int p277573, .ref (γ 9 15), .ref (γ 9 16), .ref (γ 9 17), .ref (γ 9 18), .ref (γ 9 19), .ref (γ 9 20), .ref (γ 9 21), .ref (γ 9 22), .int p277574, .int p277575, .int p277576, .int p277577, .int p277578, .ref q277566, .ref (γ 9 29), .int p277579, .ref (γ 9 31), .int p277580, .int p277581, .int p277582, .ref q277567]) := (x335081).trans he334271
                            change G _ _ _ _ _ _ _ _ _ _ _
                            refine G_widen (cs' := 0) (sl' := 0) (by omega) (by omega) ?_
                            obtain ⟨z335098, hz335098⟩ : ∃ z : Int32, z = g334179 + Int32.ofInt (-1) := ⟨_, rfl⟩
                            have ez335098 : z335098.toInt = g334179.toInt + (-1) := gI_inc hz335098 (by decide) bg334179' (by decide) (by decide)
                            have bz335098 : gB z335098 (-1) 999998 := ⟨by omega, by omega⟩
                            refine G_iinc (L' := [(5, .int z335098), (8, .int p334241), (7, .int o334284), (6, .ref q334224), (4, .ref q332385), (3, .int g331706), (0, .ref q277559), (1, .ref q277560), (2, .int p277561)]) z335098 3 dr_cX17_graph_284 rfl hz335098.symm (Nat.le_of_ble_eq_true rfl) rfl ?_
                            refine G_goto 109 dr_cX17_graph_287 (by decide +kernel) ?_
                            refine G_lv (L' := [(5, .int z335098), (4, .ref q332385), (3, .int g331706), (0, .ref q277559), (1, .ref q277560), (2, .int p277561)]) [0, 4, 5, 6, 7, 8] rfl ?_
                            exact ih109_334185 F335084 z335098 (gB_w bz335098 (by decide) (by decide)) hT335085 hs335094 (by omega) (fun h0 => by have z := gr334275 h0; rw [← kp335096] at z; rw [show ((g334179.toInt : Int).toNat : Nat) = (z335098.toInt + 1 : Int).toNat by omega] at z; exact z) kp335095 (fun k e1 ht => kt109_334186 k e1 (fun R c1 c2 c3 c4 c5 c6 c7 c8 c9 c10 c11 => c8 F334180 g334179 q332395 q334224 p334206 F334259 p334239 p334240 p334243 o334284 p334244 F335084 z335098 k e1 bg334179 hT334181 hs334182 x334183 x334184 x334185 r334200 fq334201 hx334225 fq334229 ht334235 hT334260 hs334261 x334256 x334257 ht334258 fq334276 fq334277 fq334278 bo334284 ht334285 r334547 r334809 fq334810 r335072 r335075 hT335085 hs335086 x335081 x335082 ht335083 ez335098 (ht R c1 c2 c3 c4 c5 c6 c7 c8 c9 c10 c11))) (mz_dn ez335098 (Int.le_trans (by decide) bg334179'.1) hm109_334185)
                          · have r335099 : 0 ≤ o334284.toInt := gj_nlt hc335074 (show Int32.toInt 0 = 0 by decide)
                            have bo334284' : gB o334284 0 1999 := ⟨by omega, by omega⟩
                            refine G_iload 0 dr_cX17_graph_180 rfl ?_
                            refine G_if_lt 204 dr_cX17_graph_182 (by decide +kernel) (fun hc335100 => ?_) (fun hc335100 => ?_)
                            · have r335101 : p334241.toInt < 0 := gj_lt hc335100 (show Int32.toInt 0 = 0 by decide)
                              have bp334241' : gB p334241 (-2147483648) (-1) := ⟨by omega, by omega⟩
                              refine G_iconst 0 dr_cX17_graph_204 (by decide +kernel) ?_
                              refine G_istore (L' := [(9, .int 0), (8, .int p334241), (7, .int o334284), (6, .ref q334224), (5, .int g334179), (4, .ref q332385), (3, .int g331706), (0, .ref q277559), (1, .ref q277560), (2, .int p277561)]) dr_cX17_graph_205 (Nat.le_of_ble_eq_true rfl) rfl ?_
                              refine G_iconst 0 dr_cX17_graph_207 (by decide +kernel) ?_
                              refine G_istore (L' := [(10, .int 0), (9, .int 0), (8, .int p334241), (7, .int o334284), (6, .ref q334224), (5, .int g334179), (4, .ref q332385), (3, .int g331706), (0, .ref q277559), (1, .ref q277560), (2, .int p277561)]) dr_cX17_graph_208 (Nat.le_of_ble_eq_true rfl) rfl ?_
                              have hlp210_335220 : ∀ (n210_335220 : Nat) (F335216 : Nat → va_E) (g335215 : Int32), gB g335215 0 32 → RS D I P277557 F335216 γ el → rStr γ [] F277558 F335216 → (gIp (p277561.toInt = 0) (rGr γ el F277558 q277560 (γ 6 (γ 1 q277560)) (cB (F335216 (γ 9 3))) (vB (g331706.toInt : Int).toNat (g334179.toInt : Int).toNat))) → (F335216 q277559 = F277558 q277559) → (∀ (k : Nat) (e1 : Nat → va_E), tl_RModel_graph_210_4 D I γ el P277557 F277558 p277561 q277560 g331706 g334179 q277559 o334284 F335216 g335215 k e1 → tl_RModel_graph_210_4 D I γ el P277557 F277558 p277561 q277560 g331706 g334179 q277559 o334284 F334259 (0 : Int32) k e1) → ((33 : Int) - g335215.toInt).toNat < n210_335220 → G (gV D I) l (gRm 5 111 0 0) (gMA (gV D I) (pt_277563_SpillForgeModel_graph D I γ el P277557 F277558 q277559 q277560 p277561) gNA 0 0) ky_277563_SpillForgeModel_graph 210 [(10, .int g335215), (9, .int 0), (8, .int p334241), (7, .int o334284), (6, .ref q334224), (5, .int g334179), (4, .ref q332385), (3, .int g331706), (0, .ref q277559), (1, .ref q277560), (2, .int p277561)] [] (va_pl P277557 F335216) 0 0 := by
                                intro n210_335220
                                induction n210_335220 with
                                | zero => intro F335216 g335215 bg335215 hT335217 hs335218 x335219 x335220 kt210_335221 hm210_335220; exact absurd hm210_335220 (Nat.not_lt_zero _)
                                | succ n210_335220 ih210_335220 =>
                                  intro F335216 g335215 bg335215 hT335217 hs335218 x335219 x335220 kt210_335221 hm210_335220
                                  have hs335222 : rStr γ [] F334259 F335216 := fun b h0 hb hw => (hs335218 b h0 hb hw).trans (hs334269 b h0 hb hw).symm
                                  have he335223 : F335216 q277560 = .inr (18, [.ref q331719, .ref q331720, .int p331721, .int p331722]) := (hs335222 q277560 (rT0 htq277560 (by decide)) (rT1 htq277560 (by decide)) (rT2 htq277560 (by decide))).trans he334262
                                  have he335224 : F335216 q331719 = .inr (4, [.int p332366, .ref q332368, .int p332367]) := (hs335222 q331719 (rT0 ht331723 (by decide)) (rT1 ht331723 (by decide)) (rT2 ht331723 (by decide))).trans he334263
                                  have he335225 : F335216 q332368 = .inl (I (.object "java/lang/Object"), n332382, .inr (.inr (.inr (.inr f332383)))) := (hs335222 q332368 (rT0 r332374 (by decide)) (rT1 r332374 (by decide)) (rT2 r332374 (by decide))).trans he334264
                                  have he335226 : F335216 q332385 = .inr (17, [.ref q332395, .ref q332396, .int p332397, .int p332398]) := (hs335222 q332385 (rT0 ht332391 (by decide)) (rT1 ht332391 (by decide)) (rT2 ht332391 (by decide))).trans he334265
                                  have he335227 : F335216 q332395 = .inr (4, [.int p334205, .ref q334207, .int p334206]) := (hs335222 q332395 (rT0 ht332399 (by decide)) (rT1 ht332399 (by decide)) (rT2 ht332399 (by decide))).trans he334266
                                  have he335228 : F335216 q334207 = .inl (I (.object "java/lang/Object"), n334221, .inr (.inr (.inr (.inr f334222)))) := (hs335222 q334207 (rT0 r334213 (by decide)) (rT1 r334213 (by decide)) (rT2 r334213 (by decide))).trans he334267
                                  have he335229 : F335216 q334224 = .inr (20, [.int p334239, .int p334240, .int p334241, .int p334242, .int p334243, .int p334244, .int p334245]) := (hs335222 q334224 (rT0 ht334227 (by decide)) (rT1 ht334227 (by decide)) (rT2 ht334227 (by decide))).trans he334268
                                  have hs335230 : rStr γ [] F277558 F335216 := rStr_tr hs334269 hs335222
                                  have he335231 : F335216 q277559 = .inr (22, [.ref (γ 9 0), .ref (γ 9 1), .ref (γ 9 2), .ref (γ 9 3), .ref (γ 9 4), .ref (γ 9 5), .ref (γ 9 6), .ref (γ 9 7), .ref (γ 9 8), .int p277568, .int p277569, .int p277570, .int p277571, .int p277572, .int p277573, .ref (γ 9 15), .ref (γ 9 16), .ref (γ 9 17), .ref (γ 9 18), .ref (γ 9 19), .ref (γ 9 20), .ref (γ 9 21), .ref (γ 9 22), .int p277574, .int p277575, .int p277576, .int p277577, .int p277578, .ref q277566, .ref (γ 9 29), .int p277579, .ref (γ 9 31), .int p277580, .int p277581, .int p277582, .ref q277567]) := x335220.trans he277565
                                  have hm335232 : q277559 ∈ P277557 := RS_m hT335217 htq277559 (by decide)
                                  refine G_iload 0 dr_cX17_graph_210 rfl ?_
                                  refine G_bipush 32 dr_cX17_graph_212 (by decide +kernel) ?_
                                  refine G_icmp_ge 243 dr_cX17_graph_214 (by decide +kernel) (fun hc335233 => ?_) (fun hc335233 => ?_)
                                  · have r335234 : 32 ≤ g335215.toInt := gj_leL hc335233 (show Int32.toInt 32 = 32 by decide)
                                    have bg335215' : gB g335215 32 32 := ⟨by omega, by omega⟩
                                    have hx335235 : tl_RModel_graph_210_4 D I γ el P277557 F277558 p277561 q277560 g331706 g334179 q277559 o334284 F334259 (0 : Int32) 243 F335216 := kt210_335221 243 F335216 (fun R c1 c2 => c1 F335216 g335215 bg335215 hT335217 hs335218 x335219 x335220 r335234)
                                    refine G_iload 2 dr_cX17_graph_243 rfl ?_
                                    refine G_if_lt 265 dr_cX17_graph_245 (by decide +kernel) (fun _ => ?_) (fun hc => absurd (show False by have := gj_nlt hc (show Int32.toInt 0 = 0 by decide); omega) not_false)
                                    refine G_aload_n 8 dr_cX17_graph_265 rfl ?_
                                    have fq335236 : fR (F335216 q277559) 1 = (γ 9 1) := by rw [he335231]; rfl
                                    refine Gp_get 1 hm335232 he335231 dr_cX17_graph_266 (gk_X17 D I) (Nat.le_of_ble_eq_true rfl) wr_7_75 rfl ?_
                                    refine G_iload 3 dr_cX17_graph_269 rfl ?_
                                    have hm335237 : (γ 9 1) ∈ P277557 := RS_m hT335217 ht277586 (by decide)
                                    obtain ⟨f335239, he335238, hg335240⟩ := show rk_13 I γ (F335216 (γ 9 1)) from RS_o hT335217 ht277586
                                    obtain ⟨q335241, hx335243⟩ : ∃ x, x = γ 11 o334284.toInt.toNat := ⟨_, rfl⟩
                                    have ht335242 : rKd γ q335241 36 := by rw [hx335243]; exact (hg335240 _ (show o334284.toInt.toNat < 2000 by omega)).2.1
                                    refine Gp_aald 5 hm335237 he335238 dr_cX17_graph_271 rfl rfl (gB_in bo334284' (by decide) (by decide)) ?_
                                    rw [show f335239 o334284.toNatClampNeg = some q335241 from (hg335240 _ (show o334284.toInt.toNat < 2000 by omega)).1.trans (by rw [hx335243])]
                                    change G _ _ _ _ _ _ _ (.ref q335241 :: _) _ _ _
                                    refine G_iload 3 dr_cX17_graph_272 rfl ?_
                                    have hm335244 : q335241 ∈ P277557 := RS_m hT335217 ht335242 (by decide)
                                    obtain ⟨f335246, he335245, wf335246⟩ := show rk_36 I (F335216 q335241) from RS_o hT335217 ht335242
                                    refine Gw_callS (As := [.ref q335241, .int o334284]) (gV_ok D I) (cp_1880_SpillForgeModel_clear l hl0 D I P277557 F335216 q335241 o334284 f335246 hm335244 he335245 bo334284' wf335246) dr_cX17_graph_274 ⟨wr_10_185, wr_1_14, wr_10_187, by decide, rfl, (Nat.le_of_ble_eq_true rfl), (Nat.le_of_ble_eq_true rfl)⟩ wr_10_186 (show 0 + 0 ≤ 0 by first | omega | decide) (show 0 + 0 ≤ 0 by first | omega | decide) (Nat.le_of_ble_eq_true rfl) (fun r335250 w335251 dc335247 ds335248 hp335249 => ?_) (fun _ _ _ _ _ z => z.elim)
                                    obtain ⟨F335255, f335252, rfl, rfl, hfr335257, he335258, hdc, hds, x335253, ht335254⟩ := hp335249
                                    have he335259 : F335255 q277560 = .inr (18, [.ref q331719, .ref q331720, .int p331721, .int p331722]) := (hfr335257 q277560 hm331717 (nm_c (rn_oa he335223 he335245) nm_n)).trans he335223
                                    have he335260 : F335255 q331719 = .inr (4, [.int p332366, .ref q332368, .int p332367]) := (hfr335257 q331719 hm332364 (nm_c (rn_oa he335224 he335245) nm_n)).trans he335224
                                    have he335261 : F335255 q332368 = .inl (I (.object "java/lang/Object"), n332382, .inr (.inr (.inr (.inr f332383)))) := (hfr335257 q332368 hm332384 (nm_c (rn_ref_long he335225 he335245) nm_n)).trans he335225
                                    have he335262 : F335255 q332385 = .inr (17, [.ref q332395, .ref q332396, .int p332397, .int p332398]) := (hfr335257 q332385 hm332393 (nm_c (rn_oa he335226 he335245) nm_n)).trans he335226
                                    have he335263 : F335255 q332395 = .inr (4, [.int p334205, .ref q334207, .int p334206]) := (hfr335257 q332395 hm334203 (nm_c (rn_oa he335227 he335245) nm_n)).trans he335227
                                    have he335264 : F335255 q334207 = .inl (I (.object "java/lang/Object"), n334221, .inr (.inr (.inr (.inr f334222)))) := (hfr335257 q334207 hm334223 (nm_c (rn_ref_long he335228 he335245) nm_n)).trans he335228
                                    have he335265 : F335255 q334224 = .inr (20, [.int p334239, .int p334240, .int p334241, .int p334242, .int p334243, .int p334244, .int p334245]) := (hfr335257 q334224 hm334237 (nm_c (rn_oa he335229 he335245) nm_n)).trans he335229
                                    have he335266 : F335255 q277559 = .inr (22, [.ref (γ 9 0), .ref (γ 9 1), .ref (γ 9 2), .ref (γ 9 3), .ref (γ 9 4), .ref (γ 9 5), .ref (γ 9 6), .ref (γ 9 7), .ref (γ 9 8), .int p277568, .int p277569, .int p277570, .int p277571, .int p277572, .int p277573, .ref (γ 9 15), .ref (γ 9 16), .ref (γ 9 17), .ref (γ 9 18), .ref (γ 9 19), .ref (γ 9 20), .ref (γ 9 21), .ref (γ 9 22), .int p277574, .int p277575, .int p277576, .int p277577, .int p277578, .ref q277566, .ref (γ 9 29), .int p277579, .ref (γ 9 31), .int p277580, .int p277581, .int p277582, .ref q277567]) := (hfr335257 q277559 hm335232 (nm_c (rn_oa he335231 he335245) nm_n)).trans he335231
                                    have he335267 : F335255 (γ 9 1) = .inl (I (.array .long), 2000, .inr (.inr (.inr (.inr f335239)))) := (hfr335257 (γ 9 1) hm335237 (nm_c (rn_ref_long he335238 he335245) nm_n)).trans he335238
                                    have hfr335268 : rFr [q335241] P277557 F335216 F335255 := rFr_call (rSub_rf (P := P277557)) (rFr_rf (W := []) (P := P277557) (F := F335216)) hfr335257 (fun b hb hn => ⟨nm_n, (nm_c (fun e => hn (e ▸ List.mem_cons_self)) nm_n)⟩)
                                    change G _ _ _ _ _ _ _ _ _ _ _
                                    refine G_widen (cs' := 0) (sl' := 0) (by omega) (by omega) ?_
                                    have hT335269 : RS D I P277557 F335255 γ el := RS_fr hT335217 hfr335268 ht335242 (by decide) ⟨f335252, he335258, x335253⟩
                                    have hs335270 : rStr γ [] F277558 F335255 := rStr_fr hT335217 hs335218 hfr335268 ht335242 (by decide)
                                    have kp335271 : F335255 q277559 = F277558 q277559 := (hfr335268 q277559 (RS_m hT335217 htq277559 (by decide)) (nm_c (rn_ty htq277559 ht335242 (by decide)) nm_n)).trans x335220
                                    have kp335272 : F335255 (γ 9 3) = F335216 (γ 9 3) := hfr335268 (γ 9 3) (RS_m hT335217 ht277588 (by decide)) (nm_c (rn_ty ht277588 ht335242 (by decide)) nm_n)
                                    refine G_aload_n 8 dr_cX17_graph_277 rfl ?_
                                    refine G_aload 4 dr_cX17_graph_278 rfl ?_
                                    refine G_iload_n 10 dr_cX17_graph_280 rfl ?_
                                    refine Gw_callV (As := [.ref q334224, .int p277561]) (gV_ok D I) (ct_284394_SpillForgeModel_back l hl0 D I γ el P277557 F335255 q277559 q334224 p277561 hT335269 htq277559 ht334227 (gB_w bp277561' (by decide) (by decide))) dr_cX17_graph_281 ⟨wr_10_174, wr_1_14, wr_10_177, by decide, rfl, (Nat.le_of_ble_eq_true rfl), (Nat.le_of_ble_eq_true rfl)⟩ wr_10_176 wr_p_96 hm335232 he335266 rfl (show 0 + 0 ≤ 0 by first | omega | decide) (show 0 + 0 ≤ 0 by first | omega | decide) (Nat.le_of_ble_eq_true rfl) (fun r335276 w335277 dc335273 ds335274 hp335275 => ?_) (fun _ _ _ _ _ z => z.elim)
                                    obtain ⟨F335281, rfl, rfl, hT335282, hs335283, hdc, hds, x335278, x335279, ht335280⟩ := hp335275
                                    have he335284 : F335281 q277560 = .inr (18, [.ref q331719, .ref q331720, .int p331721, .int p331722]) := (hs335283 q277560 (rT0 htq277560 (by decide)) (rT1 htq277560 (by decide)) (rT2 htq277560 (by decide))).trans he335259
                                    have he335285 : F335281 q331719 = .inr (4, [.int p332366, .ref q332368, .int p332367]) := (hs335283 q331719 (rT0 ht331723 (by decide)) (rT1 ht331723 (by decide)) (rT2 ht331723 (by decide))).trans he335260
                                    have he335286 : F335281 q332368 = .inl (I (.object "java/lang/Object"), n332382, .inr (.inr (.inr (.inr f332383)))) := (hs335283 q332368 (rT0 r332374 (by decide)) (rT1 r332374 (by decide)) (rT2 r332374 (by decide))).trans he335261
                                    have he335287 : F335281 q332385 = .inr (17, [.ref q332395, .ref q332396, .int p332397, .int p332398]) := (hs335283 q332385 (rT0 ht332391 (by decide)) (rT1 ht332391 (by decide)) (rT2 ht332391 (by decide))).trans he335262
                                    have he335288 : F335281 q332395 = .inr (4, [.int p334205, .ref q334207, .int p334206]) := (hs335283 q332395 (rT0 ht332399 (by decide)) (rT1 ht332399 (by decide)) (rT2 ht332399 (by decide))).trans he335263
                                    have he335289 : F335281 q334207 = .inl (I (.object "java/lang/Object"), n334221, .inr (.inr (.inr (.inr f334222)))) := (hs335283 q334207 (rT0 r334213 (by decide)) (rT1 r334213 (by decide)) (rT2 r334213 (by decide))).trans he335264
                                    have he335290 : F335281 q334224 = .inr (20, [.int p334239, .int p334240, .int p334241, .int p334242, .int p334243, .int p334244, .int p334245]) := (hs335283 q334224 (rT0 ht334227 (by decide)) (rT1 ht334227 (by decide)) (rT2 ht334227 (by decide))).trans he335265
                                    have hs335291 : rStr γ [] F277558 F335281 := rStr_tr hs335270 hs335283
                                    have kp335292 : F335281 q277559 = F277558 q277559 := (x335278).trans kp335271
                                    have kp335293 : F335281 (γ 9 3) = F335216 (γ 9 3) := (x335279).trans kp335272
                                    have he335294 : F335281 q277559 = .inr (22, [.ref (γ 9 0), .ref (γ 9 1), .ref (γ 9 2), .ref (γ 9 3), .ref (γ 9 4), .ref (γ 9 5), .ref (γ 9 6), .ref (γ 9 7), .ref (γ 9 8), .int p277568, .int p277569, .int p277570, .int p277571, .int p277572, .int p277573, .ref (γ 9 15), .ref (γ 9 16), .ref (γ 9 17), .ref (γ 9 18), .ref (γ 9 19), .ref (γ 9 20), .ref (γ 9 21), .ref (γ 9 22), .int p277574, .int p277575, .int p277576, .int p277577, .int p277578, .ref q277566, .ref (γ 9 29), .int p277579, .ref (γ 9 31), .int p277580, .int p277581, .int p277582, .ref q277567]) := (x335278).trans he335266
                                    change G _ _ _ _ _ _ _ _ _ _ _
                                    refine G_widen (cs' := 0) (sl' := 0) (by omega) (by omega) ?_
                                    obtain ⟨z335295, hz335295⟩ : ∃ z : Int32, z = g334179 + Int32.ofInt (-1) := ⟨_, rfl⟩
                                    have ez335295 : z335295.toInt = g334179.toInt + (-1) := gI_inc hz335295 (by decide) bg334179' (by decide) (by decide)
                                    have bz335295 : gB z335295 (-1) 999998 := ⟨by omega, by omega⟩
                                    refine G_iinc (L' := [(5, .int z335295), (10, .int g335215), (9, .int 0), (8, .int p334241), (7, .int o334284), (6, .ref q334224), (4, .ref q332385), (3, .int g331706), (0, .ref q277559), (1, .ref q277560), (2, .int p277561)]) z335295 5 dr_cX17_graph_284 rfl hz335295.symm (Nat.le_of_ble_eq_true rfl) rfl ?_
                                    refine G_goto 109 dr_cX17_graph_287 (by decide +kernel) ?_
                                    refine G_lv (L' := [(5, .int z335295), (4, .ref q332385), (3, .int g331706), (0, .ref q277559), (1, .ref q277560), (2, .int p277561)]) [0, 6, 7, 8, 9, 10] rfl ?_
                                    exact ih109_334185 F335281 z335295 (gB_w bz335295 (by decide) (by decide)) hT335282 hs335291 (by omega) (fun h0 => by have z := x335219 h0; rw [← kp335293] at z; rw [show ((g334179.toInt : Int).toNat : Nat) = (z335295.toInt + 1 : Int).toNat by omega] at z; exact z) kp335292 (fun k e1 ht => kt109_334186 k e1 (fun R c1 c2 c3 c4 c5 c6 c7 c8 c9 c10 c11 => c9 F334180 g334179 q332395 q334224 p334206 F334259 p334239 p334240 p334243 o334284 p334244 p334241 F335216 q335241 f335246 f335252 F335255 F335281 z335295 k e1 bg334179 hT334181 hs334182 x334183 x334184 x334185 r334200 fq334201 hx334225 fq334229 ht334235 hT334260 hs334261 x334256 x334257 ht334258 fq334276 fq334277 fq334278 bo334284 ht334285 r334547 r334809 fq334810 r335072 fq335073 r335099 r335101 hx335235 fq335236 hx335243 he335245 ht335254 hfr335268 he335258 hT335269 hT335282 hs335283 x335278 x335279 ht335280 ez335295 (ht R c1 c2 c3 c4 c5 c6 c7 c8 c9 c10 c11))) (mz_dn ez335295 (Int.le_trans (by decide) bg334179'.1) hm109_334185)
                                  · have r335296 : g335215.toInt < 32 := gj_nleL hc335233 (show Int32.toInt 32 = 32 by decide)
                                    have bg335215' : gB g335215 0 31 := ⟨by omega, by omega⟩
                                    refine G_aload_n 8 dr_cX17_graph_217 rfl ?_
                                    have fq335297 : fR (F335216 q277559) 1 = (γ 9 1) := by rw [he335231]; rfl
                                    refine Gp_get 1 hm335232 he335231 dr_cX17_graph_218 (gk_X17 D I) (Nat.le_of_ble_eq_true rfl) wr_7_75 rfl ?_
                                    refine G_iload 3 dr_cX17_graph_221 rfl ?_
                                    have hm335298 : (γ 9 1) ∈ P277557 := RS_m hT335217 ht277586 (by decide)
                                    obtain ⟨f335300, he335299, hg335301⟩ := show rk_13 I γ (F335216 (γ 9 1)) from RS_o hT335217 ht277586
                                    obtain ⟨q335302, hx335304⟩ : ∃ x, x = γ 11 o334284.toInt.toNat := ⟨_, rfl⟩
                                    have ht335303 : rKd γ q335302 36 := by rw [hx335304]; exact (hg335301 _ (show o334284.toInt.toNat < 2000 by omega)).2.1
                                    refine Gp_aald 5 hm335298 he335299 dr_cX17_graph_223 rfl rfl (gB_in bo334284' (by decide) (by decide)) ?_
                                    rw [show f335300 o334284.toNatClampNeg = some q335302 from (hg335301 _ (show o334284.toInt.toNat < 2000 by omega)).1.trans (by rw [hx335304])]
                                    change G _ _ _ _ _ _ _ (.ref q335302 :: _) _ _ _
                                    refine G_iload 0 dr_cX17_graph_224 rfl ?_
                                    refine G_dup2_11 dr_cX17_graph_226 rfl rfl ?_
                                    have hm335305 : q335302 ∈ P277557 := RS_m hT335217 ht335303 (by decide)
                                    obtain ⟨f335307, he335306, wf335307⟩ := show rk_36 I (F335216 q335302) from RS_o hT335217 ht335303
                                    refine Gp_lald 2 hm335305 he335306 dr_cX17_graph_227 rfl (gB_in bg335215' (by decide) (by decide)) (G_namL fun u335308 hu335308 => ?_)
                                    have qu335308 : lb_Q u335308 (2000 - 64 * g335215.toInt) := lb_Wld hu335308 wf335307 (by omega) (by omega) (lb_Mod0 (by omega) (by omega))
                                    refine G_aload_n 8 dr_cX17_graph_228 rfl ?_
                                    have fq335309 : fR (F335216 q277559) 2 = (γ 9 2) := by rw [he335231]; rfl
                                    refine Gp_get 2 hm335232 he335231 dr_cX17_graph_229 (gk_X17 D I) (Nat.le_of_ble_eq_true rfl) wr_7_76 rfl ?_
                                    refine G_iload 0 dr_cX17_graph_232 rfl ?_
                                    have hm335310 : (γ 9 2) ∈ P277557 := RS_m hT335217 ht277587 (by decide)
                                    obtain ⟨f335312, he335311, wf335312⟩ := show rk_35 I (F335216 (γ 9 2)) from RS_o hT335217 ht277587
                                    refine Gp_lald 2 hm335310 he335311 dr_cX17_graph_234 rfl (gB_in bg335215' (by decide) (by decide)) (G_namL fun u335313 hu335313 => ?_)
                                    have qu335313 : lb_Q u335313 (2000 - 64 * g335215.toInt) := lb_Wld hu335313 wf335312 (by omega) (by omega) (lb_Mod0 (by omega) (by omega))
                                    refine G_lor dr_cX17_graph_235 (G_namL fun u335314 hu335314 => ?_)
                                    have qu335314 : lb_Q u335314 (2000 - 64 * g335215.toInt) := lb_Qor hu335314 qu335308 qu335313
                                    refine Gp_last 2 hm335305 he335306 dr_cX17_graph_236 rfl (gB_in bg335215' (by decide) (by decide)) (fun F335315 e335316 n335317 => ?_)
                                    obtain ⟨f335318, hf335318⟩ : ∃ z, z = vp_updL f335307 g335215.toNatClampNeg u335314 := ⟨_, rfl⟩
                                    rw [← hf335318] at e335316
                                    have he335319 : F335315 q277560 = .inr (18, [.ref q331719, .ref q331720, .int p331721, .int p331722]) := (n335317 q277560 (rn_oa he335223 he335306)).trans he335223
                                    have he335320 : F335315 q331719 = .inr (4, [.int p332366, .ref q332368, .int p332367]) := (n335317 q331719 (rn_oa he335224 he335306)).trans he335224
                                    have he335321 : F335315 q332368 = .inl (I (.object "java/lang/Object"), n332382, .inr (.inr (.inr (.inr f332383)))) := (n335317 q332368 (rn_ref_long he335225 he335306)).trans he335225
                                    have he335322 : F335315 q332385 = .inr (17, [.ref q332395, .ref q332396, .int p332397, .int p332398]) := (n335317 q332385 (rn_oa he335226 he335306)).trans he335226
                                    have he335323 : F335315 q332395 = .inr (4, [.int p334205, .ref q334207, .int p334206]) := (n335317 q332395 (rn_oa he335227 he335306)).trans he335227
                                    have he335324 : F335315 q334207 = .inl (I (.object "java/lang/Object"), n334221, .inr (.inr (.inr (.inr f334222)))) := (n335317 q334207 (rn_ref_long he335228 he335306)).trans he335228
                                    have he335325 : F335315 q334224 = .inr (20, [.int p334239, .int p334240, .int p334241, .int p334242, .int p334243, .int p334244, .int p334245]) := (n335317 q334224 (rn_oa he335229 he335306)).trans he335229
                                    have he335326 : F335315 q277559 = .inr (22, [.ref (γ 9 0), .ref (γ 9 1), .ref (γ 9 2), .ref (γ 9 3), .ref (γ 9 4), .ref (γ 9 5), .ref (γ 9 6), .ref (γ 9 7), .ref (γ 9 8), .int p277568, .int p277569, .int p277570, .int p277571, .int p277572, .int p277573, .ref (γ 9 15), .ref (γ 9 16), .ref (γ 9 17), .ref (γ 9 18), .ref (γ 9 19), .ref (γ 9 20), .ref (γ 9 21), .ref (γ 9 22), .int p277574, .int p277575, .int p277576, .int p277577, .int p277578, .ref q277566, .ref (γ 9 29), .int p277579, .ref (γ 9 31), .int p277580, .int p277581, .int p277582, .ref q277567]) := (n335317 q277559 (rn_oa he335231 he335306)).trans he335231
                                    have he335327 : F335315 (γ 9 1) = .inl (I (.array .long), 2000, .inr (.inr (.inr (.inr f335300)))) := (n335317 (γ 9 1) (rn_ref_long he335299 he335306)).trans he335299
                                    have he335328 : F335315 (γ 9 2) = .inl (I .long, 32, .inr (.inl f335312)) := (n335317 (γ 9 2) (rn_ty ht277587 ht335303 (by decide))).trans he335311
                                    have he335329 : F335315 q335302 = .inl (I .long, 32, .inr (.inl f335318)) := e335316
                                    have hs335330 : rStr γ [] F277558 F335315 := rStr_put hs335218 n335317 ht335303 (by decide)
                                    have kp335331 : F335315 q277559 = F277558 q277559 := (n335317 q277559 (rn_ty htq277559 ht335303 (by decide))).trans x335220
                                    have kp335332 : F335315 (γ 9 3) = F335216 (γ 9 3) := n335317 (γ 9 3) (rn_ty ht277588 ht335303 (by decide))
                                    have wf335318 : lb_W f335318 (32) (32) (2000) := lb_Wst hf335318 wf335307 (by omega) (lb_Mod0 (by omega) (by omega)) qu335314
                                    obtain ⟨z335333, hz335333⟩ : ∃ z : Int32, z = g335215 + Int32.ofInt 1 := ⟨_, rfl⟩
                                    have ez335333 : z335333.toInt = g335215.toInt + 1 := gI_inc hz335333 (by decide) bg335215' (by decide) (by decide)
                                    have bz335333 : gB z335333 1 32 := ⟨by omega, by omega⟩
                                    refine G_iinc (L' := [(10, .int z335333), (9, .int 0), (8, .int p334241), (7, .int o334284), (6, .ref q334224), (5, .int g334179), (4, .ref q332385), (3, .int g331706), (0, .ref q277559), (1, .ref q277560), (2, .int p277561)]) z335333 0 dr_cX17_graph_237 rfl hz335333.symm (Nat.le_of_ble_eq_true rfl) rfl ?_
                                    refine G_goto 210 dr_cX17_graph_240 (by decide +kernel) ?_
                                    have hT335334 : RS D I P277557 F335315 γ el := RS_set hT335217 n335317 ht335303 (by decide) ⟨f335318, he335329, wf335318⟩
                                    exact ih210_335220 F335315 z335333 (gB_w bz335333 (by decide) (by decide)) hT335334 hs335330 (by rw [kp335332]; exact x335219) kp335331 (fun k e1 ht => kt210_335221 k e1 (fun R c1 c2 => c2 F335216 g335215 q335302 f335307 u335308 f335312 u335313 u335314 f335318 F335315 z335333 k e1 bg335215 hT335217 hs335218 x335219 x335220 r335296 fq335297 hx335304 he335306 hu335308 fq335309 he335311 hu335313 hu335314 hf335318 n335317 he335329 ez335333 (ht R c1 c2))) (mz_up ez335333 (Int.le_trans bg335215'.2 (by decide)) hm210_335220)
                              exact hlp210_335220 (((33 : Int) - 0).toNat + 1) F334259 0 (gB_w (gBl (show Int32.toInt 0 = 0 by decide)) (by decide) (by decide)) hT334260 hs334269 gr334275 kp334270 (fun k e1 ht => ht) (Nat.lt_succ_self _)
                            · have r335335 : 0 ≤ p334241.toInt := gj_nlt hc335100 (show Int32.toInt 0 = 0 by decide)
                              have bp334241' : gB p334241 0 2147483647 := ⟨by omega, by omega⟩
                              refine G_aload_n 6 dr_cX17_graph_185 rfl ?_
                              have fq335336 : fR (F334259 q277559) 1 = (γ 9 1) := by rw [he334271]; rfl
                              refine Gp_get 1 hm334195 he334271 dr_cX17_graph_186 (gk_X17 D I) (Nat.le_of_ble_eq_true rfl) wr_7_75 rfl ?_
                              refine G_iload 1 dr_cX17_graph_189 rfl ?_
                              have hm335337 : (γ 9 1) ∈ P277557 := RS_m hT334260 ht277586 (by decide)
                              obtain ⟨f335339, he335338, hg335340⟩ := show rk_13 I γ (F334259 (γ 9 1)) from RS_o hT334260 ht277586
                              obtain ⟨q335341, hx335343⟩ : ∃ x, x = γ 11 o334284.toInt.toNat := ⟨_, rfl⟩
                              have ht335342 : rKd γ q335341 36 := by rw [hx335343]; exact (hg335340 _ (show o334284.toInt.toNat < 2000 by omega)).2.1
                              refine Gp_aald 5 hm335337 he335338 dr_cX17_graph_191 rfl rfl (gB_in bo334284' (by decide) (by decide)) ?_
                              rw [show f335339 o334284.toNatClampNeg = some q335341 from (hg335340 _ (show o334284.toInt.toNat < 2000 by omega)).1.trans (by rw [hx335343])]
                              change G _ _ _ _ _ _ _ (.ref q335341 :: _) _ _ _
                              refine G_iload 0 dr_cX17_graph_192 rfl ?_
                              have hm335344 : q335341 ∈ P277557 := RS_m hT334260 ht335342 (by decide)
                              obtain ⟨f335346, he335345, wf335346⟩ := show rk_36 I (F334259 q335341) from RS_o hT334260 ht335342
                              refine Gw_callS (As := [.ref q335341, .int p334241]) (gV_ok D I) (cp_1845_SpillForgeModel_has l hl0 D I P277557 F334259 q335341 p334241 f335346 hm335344 he335345 ⟨by omega, by omega⟩) dr_cX17_graph_194 ⟨wr_10_203, wr_1_14, wr_10_205, by decide, rfl, (Nat.le_of_ble_eq_true rfl), (Nat.le_of_ble_eq_true rfl)⟩ wr_10_204 (show 0 + 0 ≤ 0 by first | omega | decide) (show 0 + 0 ≤ 0 by first | omega | decide) (Nat.le_of_ble_eq_true rfl) (fun r335350 w335351 dc335347 ds335348 hp335349 => ?_) (fun _ _ _ _ _ z => z.elim)
                              rcases hp335349 with ⟨z335352, z335353, rfl, rfl, hdc, hds, r335354, r335355, r335356, r335357, r335358⟩ | ⟨z335359, z335360, rfl, rfl, hdc, hds, r335361, r335362, r335363, r335364, r335365⟩
                              · change G _ _ _ _ _ _ _ (.int 0 :: _) _ _ _
                                refine G_widen (cs' := 0) (sl' := 0) (by omega) (by omega) ?_
                                refine G_if_eq 204 dr_cX17_graph_197 (by decide +kernel) (fun _ => ?_) (fun hc => absurd hc (by decide))
                                refine G_iconst 0 dr_cX17_graph_204 (by decide +kernel) ?_
                                refine G_istore (L' := [(9, .int 0), (8, .int p334241), (7, .int o334284), (6, .ref q334224), (5, .int g334179), (4, .ref q332385), (3, .int g331706), (0, .ref q277559), (1, .ref q277560), (2, .int p277561)]) dr_cX17_graph_205 (Nat.le_of_ble_eq_true rfl) rfl ?_
                                refine G_iconst 0 dr_cX17_graph_207 (by decide +kernel) ?_
                                refine G_istore (L' := [(10, .int 0), (9, .int 0), (8, .int p334241), (7, .int o334284), (6, .ref q334224), (5, .int g334179), (4, .ref q332385), (3, .int g331706), (0, .ref q277559), (1, .ref q277560), (2, .int p277561)]) dr_cX17_graph_208 (Nat.le_of_ble_eq_true rfl) rfl ?_
                                have hlp210_335517 : ∀ (n210_335517 : Nat) (F335513 : Nat → va_E) (g335512 : Int32), gB g335512 0 32 → RS D I P277557 F335513 γ el → rStr γ [] F277558 F335513 → (gIp (p277561.toInt = 0) (rGr γ el F277558 q277560 (γ 6 (γ 1 q277560)) (cB (F335513 (γ 9 3))) (vB (g331706.toInt : Int).toNat (g334179.toInt : Int).toNat))) → (F335513 q277559 = F277558 q277559) → (∀ (k : Nat) (e1 : Nat → va_E), tl_RModel_graph_210_5 D I γ el P277557 F277558 p277561 q277560 g331706 g334179 q277559 o334284 F335513 g335512 k e1 → tl_RModel_graph_210_5 D I γ el P277557 F277558 p277561 q277560 g331706 g334179 q277559 o334284 F334259 (0 : Int32) k e1) → ((33 : Int) - g335512.toInt).toNat < n210_335517 → G (gV D I) l (gRm 5 111 0 0) (gMA (gV D I) (pt_277563_SpillForgeModel_graph D I γ el P277557 F277558 q277559 q277560 p277561) gNA 0 0) ky_277563_SpillForgeModel_graph 210 [(10, .int g335512), (9, .int 0), (8, .int p334241), (7, .int o334284), (6, .ref q334224), (5, .int g334179), (4, .ref q332385), (3, .int g331706), (0, .ref q277559), (1, .ref q277560), (2, .int p277561)] [] (va_pl P277557 F335513) 0 0 := by
                                  intro n210_335517
                                  induction n210_335517 with
                                  | zero => intro F335513 g335512 bg335512 hT335514 hs335515 x335516 x335517 kt210_335518 hm210_335517; exact absurd hm210_335517 (Nat.not_lt_zero _)
                                  | succ n210_335517 ih210_335517 =>
                                    intro F335513 g335512 bg335512 hT335514 hs335515 x335516 x335517 kt210_335518 hm210_335517
                                    have hs335519 : rStr γ [] F334259 F335513 := fun b h0 hb hw => (hs335515 b h0 hb hw).trans (hs334269 b h0 hb hw).symm
                                    have he335520 : F335513 q277560 = .inr (18, [.ref q331719, .ref q331720, .int p331721, .int p331722]) := (hs335519 q277560 (rT0 htq277560 (by decide)) (rT1 htq277560 (by decide)) (rT2 htq277560 (by decide))).trans he334262
                                    have he335521 : F335513 q331719 = .inr (4, [.int p332366, .ref q332368, .int p332367]) := (hs335519 q331719 (rT0 ht331723 (by decide)) (rT1 ht331723 (by decide)) (rT2 ht331723 (by decide))).trans he334263
                                    have he335522 : F335513 q332368 = .inl (I (.object "java/lang/Object"), n332382, .inr (.inr (.inr (.inr f332383)))) := (hs335519 q332368 (rT0 r332374 (by decide)) (rT1 r332374 (by decide)) (rT2 r332374 (by decide))).trans he334264
                                    have he335523 : F335513 q332385 = .inr (17, [.ref q332395, .ref q332396, .int p332397, .int p332398]) := (hs335519 q332385 (rT0 ht332391 (by decide)) (rT1 ht332391 (by decide)) (rT2 ht332391 (by decide))).trans he334265
                                    have he335524 : F335513 q332395 = .inr (4, [.int p334205, .ref q334207, .int p334206]) := (hs335519 q332395 (rT0 ht332399 (by decide)) (rT1 ht332399 (by decide)) (rT2 ht332399 (by decide))).trans he334266
                                    have he335525 : F335513 q334207 = .inl (I (.object "java/lang/Object"), n334221, .inr (.inr (.inr (.inr f334222)))) := (hs335519 q334207 (rT0 r334213 (by decide)) (rT1 r334213 (by decide)) (rT2 r334213 (by decide))).trans he334267
                                    have he335526 : F335513 q334224 = .inr (20, [.int p334239, .int p334240, .int p334241, .int p334242, .int p334243, .int p334244, .int p334245]) := (hs335519 q334224 (rT0 ht334227 (by decide)) (rT1 ht334227 (by decide)) (rT2 ht334227 (by decide))).trans he334268
                                    have hs335527 : rStr γ [] F277558 F335513 := rStr_tr hs334269 hs335519
                                    have he335528 : F335513 q277559 = .inr (22, [.ref (γ 9 0), .ref (γ 9 1), .ref (γ 9 2), .ref (γ 9 3), .ref (γ 9 4), .ref (γ 9 5), .ref (γ 9 6), .ref (γ 9 7), .ref (γ 9 8), .int p277568, .int p277569, .int p277570, .int p277571, .int p277572, .int p277573, .ref (γ 9 15), .ref (γ 9 16), .ref (γ 9 17), .ref (γ 9 18), .ref (γ 9 19), .ref (γ 9 20), .ref (γ 9 21), .ref (γ 9 22), .int p277574, .int p277575, .int p277576, .int p277577, .int p277578, .ref q277566, .ref (γ 9 29), .int p277579, .ref (γ 9 31), .int p277580, .int p277581, .int p277582, .ref q277567]) := x335517.trans he277565
                                    have hm335529 : q277559 ∈ P277557 := RS_m hT335514 htq277559 (by decide)
                                    refine G_iload 0 dr_cX17_graph_210 rfl ?_
                                    refine G_bipush 32 dr_cX17_graph_212 (by decide +kernel) ?_
                                    refine G_icmp_ge 243 dr_cX17_graph_214 (by decide +kernel) (fun hc335530 => ?_) (fun hc335530 => ?_)
                                    · have r335531 : 32 ≤ g335512.toInt := gj_leL hc335530 (show Int32.toInt 32 = 32 by decide)
                                      have bg335512' : gB g335512 32 32 := ⟨by omega, by omega⟩
                                      have hx335532 : tl_RModel_graph_210_5 D I γ el P277557 F277558 p277561 q277560 g331706 g334179 q277559 o334284 F334259 (0 : Int32) 243 F335513 := kt210_335518 243 F335513 (fun R c1 c2 => c1 F335513 g335512 bg335512 hT335514 hs335515 x335516 x335517 r335531)
                                      refine G_iload 2 dr_cX17_graph_243 rfl ?_
                                      refine G_if_lt 265 dr_cX17_graph_245 (by decide +kernel) (fun hc => absurd (show False by have := gj_lt hc (show Int32.toInt 0 = 0 by decide); omega) not_false) (fun _ => ?_)
                                      refine G_iload 1 dr_cX17_graph_248 rfl ?_
                                      refine G_if_ne 265 dr_cX17_graph_250 (by decide +kernel) (fun hc => absurd hc (by decide)) (fun _ => ?_)
                                      refine G_aload_n 8 dr_cX17_graph_253 rfl ?_
                                      have fq335533 : fR (F335513 q277559) 1 = (γ 9 1) := by rw [he335528]; rfl
                                      refine Gp_get 1 hm335529 he335528 dr_cX17_graph_254 (gk_X17 D I) (Nat.le_of_ble_eq_true rfl) wr_7_75 rfl ?_
                                      refine G_iload 3 dr_cX17_graph_257 rfl ?_
                                      have hm335534 : (γ 9 1) ∈ P277557 := RS_m hT335514 ht277586 (by decide)
                                      obtain ⟨f335536, he335535, hg335537⟩ := show rk_13 I γ (F335513 (γ 9 1)) from RS_o hT335514 ht277586
                                      obtain ⟨q335538, hx335540⟩ : ∃ x, x = γ 11 o334284.toInt.toNat := ⟨_, rfl⟩
                                      have ht335539 : rKd γ q335538 36 := by rw [hx335540]; exact (hg335537 _ (show o334284.toInt.toNat < 2000 by omega)).2.1
                                      refine Gp_aald 5 hm335534 he335535 dr_cX17_graph_259 rfl rfl (gB_in bo334284' (by decide) (by decide)) ?_
                                      rw [show f335536 o334284.toNatClampNeg = some q335538 from (hg335537 _ (show o334284.toInt.toNat < 2000 by omega)).1.trans (by rw [hx335540])]
                                      change G _ _ _ _ _ _ _ (.ref q335538 :: _) _ _ _
                                      refine G_iload 2 dr_cX17_graph_260 rfl ?_
                                      have hm335541 : q335538 ∈ P277557 := RS_m hT335514 ht335539 (by decide)
                                      obtain ⟨f335543, he335542, wf335543⟩ := show rk_36 I (F335513 q335538) from RS_o hT335514 ht335539
                                      refine Gw_callS (As := [.ref q335538, .int p334241]) (gV_ok D I) (cp_1880_SpillForgeModel_clear l hl0 D I P277557 F335513 q335538 p334241 f335543 hm335541 he335542 ⟨by omega, by omega⟩ wf335543) dr_cX17_graph_262 ⟨wr_10_185, wr_1_14, wr_10_187, by decide, rfl, (Nat.le_of_ble_eq_true rfl), (Nat.le_of_ble_eq_true rfl)⟩ wr_10_186 (show 0 + 0 ≤ 0 by first | omega | decide) (show 0 + 0 ≤ 0 by first | omega | decide) (Nat.le_of_ble_eq_true rfl) (fun r335547 w335548 dc335544 ds335545 hp335546 => ?_) (fun _ _ _ _ _ z => z.elim)
                                      obtain ⟨F335552, f335549, rfl, rfl, hfr335554, he335555, hdc, hds, x335550, ht335551⟩ := hp335546
                                      have he335556 : F335552 q277560 = .inr (18, [.ref q331719, .ref q331720, .int p331721, .int p331722]) := (hfr335554 q277560 hm331717 (nm_c (rn_oa he335520 he335542) nm_n)).trans he335520
                                      have he335557 : F335552 q331719 = .inr (4, [.int p332366, .ref q332368, .int p332367]) := (hfr335554 q331719 hm332364 (nm_c (rn_oa he335521 he335542) nm_n)).trans he335521
                                      have he335558 : F335552 q332368 = .inl (I (.object "java/lang/Object"), n332382, .inr (.inr (.inr (.inr f332383)))) := (hfr335554 q332368 hm332384 (nm_c (rn_ref_long he335522 he335542) nm_n)).trans he335522
                                      have he335559 : F335552 q332385 = .inr (17, [.ref q332395, .ref q332396, .int p332397, .int p332398]) := (hfr335554 q332385 hm332393 (nm_c (rn_oa he335523 he335542) nm_n)).trans he335523
                                      have he335560 : F335552 q332395 = .inr (4, [.int p334205, .ref q334207, .int p334206]) := (hfr335554 q332395 hm334203 (nm_c (rn_oa he335524 he335542) nm_n)).trans he335524
                                      have he335561 : F335552 q334207 = .inl (I (.object "java/lang/Object"), n334221, .inr (.inr (.inr (.inr f334222)))) := (hfr335554 q334207 hm334223 (nm_c (rn_ref_long he335525 he335542) nm_n)).trans he335525
                                      have he335562 : F335552 q334224 = .inr (20, [.int p334239, .int p334240, .int p334241, .int p334242, .int p334243, .int p334244, .int p334245]) := (hfr335554 q334224 hm334237 (nm_c (rn_oa he335526 he335542) nm_n)).trans he335526
                                      have he335563 : F335552 q277559 = .inr (22, [.ref (γ 9 0), .ref (γ 9 1), .ref (γ 9 2), .ref (γ 9 3), .ref (γ 9 4), .ref (γ 9 5), .ref (γ 9 6), .ref (γ 9 7), .ref (γ 9 8), .int p277568, .int p277569, .int p277570, .int p277571, .int p277572, .int p277573, .ref (γ 9 15), .ref (γ 9 16), .ref (γ 9 17), .ref (γ 9 18), .ref (γ 9 19), .ref (γ 9 20), .ref (γ 9 21), .ref (γ 9 22), .int p277574, .int p277575, .int p277576, .int p277577, .int p277578, .ref q277566, .ref (γ 9 29), .int p277579, .ref (γ 9 31), .int p277580, .int p277581, .int p277582, .ref q277567]) := (hfr335554 q277559 hm335529 (nm_c (rn_oa he335528 he335542) nm_n)).trans he335528
                                      have he335564 : F335552 (γ 9 1) = .inl (I (.array .long), 2000, .inr (.inr (.inr (.inr f335536)))) := (hfr335554 (γ 9 1) hm335534 (nm_c (rn_ref_long he335535 he335542) nm_n)).trans he335535
                                      have hfr335565 : rFr [q335538] P277557 F335513 F335552 := rFr_call (rSub_rf (P := P277557)) (rFr_rf (W := []) (P := P277557) (F := F335513)) hfr335554 (fun b hb hn => ⟨nm_n, (nm_c (fun e => hn (e ▸ List.mem_cons_self)) nm_n)⟩)
                                      change G _ _ _ _ _ _ _ _ _ _ _
                                      refine G_widen (cs' := 0) (sl' := 0) (by omega) (by omega) ?_
                                      have hT335566 : RS D I P277557 F335552 γ el := RS_fr hT335514 hfr335565 ht335539 (by decide) ⟨f335549, he335555, x335550⟩
                                      have hs335567 : rStr γ [] F277558 F335552 := rStr_fr hT335514 hs335515 hfr335565 ht335539 (by decide)
                                      have kp335568 : F335552 q277559 = F277558 q277559 := (hfr335565 q277559 (RS_m hT335514 htq277559 (by decide)) (nm_c (rn_ty htq277559 ht335539 (by decide)) nm_n)).trans x335517
                                      have kp335569 : F335552 (γ 9 3) = F335513 (γ 9 3) := hfr335565 (γ 9 3) (RS_m hT335514 ht277588 (by decide)) (nm_c (rn_ty ht277588 ht335539 (by decide)) nm_n)
                                      refine G_aload_n 8 dr_cX17_graph_265 rfl ?_
                                      have fq335570 : fR (F335552 q277559) 1 = (γ 9 1) := by rw [he335563]; rfl
                                      refine Gp_get 1 hm335529 he335563 dr_cX17_graph_266 (gk_X17 D I) (Nat.le_of_ble_eq_true rfl) wr_7_75 rfl ?_
                                      refine G_iload 3 dr_cX17_graph_269 rfl ?_
                                      obtain ⟨q335571, hx335573⟩ : ∃ x, x = γ 11 o334284.toInt.toNat := ⟨_, rfl⟩
                                      have ht335572 : rKd γ q335571 36 := by rw [hx335573]; exact (hg335537 _ (show o334284.toInt.toNat < 2000 by omega)).2.1
                                      refine Gp_aald 5 hm335534 he335564 dr_cX17_graph_271 rfl rfl (gB_in bo334284' (by decide) (by decide)) ?_
                                      rw [show f335536 o334284.toNatClampNeg = some q335571 from (hg335537 _ (show o334284.toInt.toNat < 2000 by omega)).1.trans (by rw [hx335573])]
                                      change G _ _ _ _ _ _ _ (.ref q335571 :: _) _ _ _
                                      refine G_iload 3 dr_cX17_graph_272 rfl ?_
                                      have hm335574 : q335571 ∈ P277557 := RS_m hT335566 ht335572 (by decide)
                                      obtain ⟨f335576, he335575, wf335576⟩ := show rk_36 I (F335552 q335571) from RS_o hT335566 ht335572
                                      refine Gw_callS (As := [.ref q335571, .int o334284]) (gV_ok D I) (cp_1880_SpillForgeModel_clear l hl0 D I P277557 F335552 q335571 o334284 f335576 hm335574 he335575 bo334284' wf335576) dr_cX17_graph_274 ⟨wr_10_185, wr_1_14, wr_10_187, by decide, rfl, (Nat.le_of_ble_eq_true rfl), (Nat.le_of_ble_eq_true rfl)⟩ wr_10_186 (show 0 + 0 ≤ 0 by first | omega | decide) (show 0 + 0 ≤ 0 by first | omega | decide) (Nat.le_of_ble_eq_true rfl) (fun r335580 w335581 dc335577 ds335578 hp335579 => ?_) (fun _ _ _ _ _ z => z.elim)
                                      obtain ⟨F335585, f335582, rfl, rfl, hfr335587, he335588, hdc, hds, x335583, ht335584⟩ := hp335579
                                      have he335589 : F335585 q277560 = .inr (18, [.ref q331719, .ref q331720, .int p331721, .int p331722]) := (hfr335587 q277560 hm331717 (nm_c (rn_oa he335556 he335575) nm_n)).trans he335556
                                      have he335590 : F335585 q331719 = .inr (4, [.int p332366, .ref q332368, .int p332367]) := (hfr335587 q331719 hm332364 (nm_c (rn_oa he335557 he335575) nm_n)).trans he335557
                                      have he335591 : F335585 q332368 = .inl (I (.object "java/lang/Object"), n332382, .inr (.inr (.inr (.inr f332383)))) := (hfr335587 q332368 hm332384 (nm_c (rn_ref_long he335558 he335575) nm_n)).trans he335558
                                      have he335592 : F335585 q332385 = .inr (17, [.ref q332395, .ref q332396, .int p332397, .int p332398]) := (hfr335587 q332385 hm332393 (nm_c (rn_oa he335559 he335575) nm_n)).trans he335559
                                      have he335593 : F335585 q332395 = .inr (4, [.int p334205, .ref q334207, .int p334206]) := (hfr335587 q332395 hm334203 (nm_c (rn_oa he335560 he335575) nm_n)).trans he335560
                                      have he335594 : F335585 q334207 = .inl (I (.object "java/lang/Object"), n334221, .inr (.inr (.inr (.inr f334222)))) := (hfr335587 q334207 hm334223 (nm_c (rn_ref_long he335561 he335575) nm_n)).trans he335561
                                      have he335595 : F335585 q334224 = .inr (20, [.int p334239, .int p334240, .int p334241, .int p334242, .int p334243, .int p334244, .int p334245]) := (hfr335587 q334224 hm334237 (nm_c (rn_oa he335562 he335575) nm_n)).trans he335562
                                      have he335596 : F335585 q277559 = .inr (22, [.ref (γ 9 0), .ref (γ 9 1), .ref (γ 9 2), .ref (γ 9 3), .ref (γ 9 4), .ref (γ 9 5), .ref (γ 9 6), .ref (γ 9 7), .ref (γ 9 8), .int p277568, .int p277569, .int p277570, .int p277571, .int p277572, .int p277573, .ref (γ 9 15), .ref (γ 9 16), .ref (γ 9 17), .ref (γ 9 18), .ref (γ 9 19), .ref (γ 9 20), .ref (γ 9 21), .ref (γ 9 22), .int p277574, .int p277575, .int p277576, .int p277577, .int p277578, .ref q277566, .ref (γ 9 29), .int p277579, .ref (γ 9 31), .int p277580, .int p277581, .int p277582, .ref q277567]) := (hfr335587 q277559 hm335529 (nm_c (rn_oa he335563 he335575) nm_n)).trans he335563
                                      have he335597 : F335585 (γ 9 1) = .inl (I (.array .long), 2000, .inr (.inr (.inr (.inr f335536)))) := (hfr335587 (γ 9 1) hm335534 (nm_c (rn_ref_long he335564 he335575) nm_n)).trans he335564
                                      have hfr335598 : rFr [q335571] P277557 F335552 F335585 := rFr_call (rSub_rf (P := P277557)) (rFr_rf (W := []) (P := P277557) (F := F335552)) hfr335587 (fun b hb hn => ⟨nm_n, (nm_c (fun e => hn (e ▸ List.mem_cons_self)) nm_n)⟩)
                                      change G _ _ _ _ _ _ _ _ _ _ _
                                      refine G_widen (cs' := 0) (sl' := 0) (by omega) (by omega) ?_
                                      have hT335599 : RS D I P277557 F335585 γ el := RS_fr hT335566 hfr335598 ht335572 (by decide) ⟨f335582, he335588, x335583⟩
                                      have hs335600 : rStr γ [] F277558 F335585 := rStr_fr hT335566 hs335567 hfr335598 ht335572 (by decide)
                                      have kp335601 : F335585 q277559 = F277558 q277559 := (hfr335598 q277559 (RS_m hT335566 htq277559 (by decide)) (nm_c (rn_ty htq277559 ht335572 (by decide)) nm_n)).trans kp335568
                                      have kp335602 : F335585 (γ 9 3) = F335513 (γ 9 3) := (hfr335598 (γ 9 3) (RS_m hT335566 ht277588 (by decide)) (nm_c (rn_ty ht277588 ht335572 (by decide)) nm_n)).trans kp335569
                                      refine G_aload_n 8 dr_cX17_graph_277 rfl ?_
                                      refine G_aload 4 dr_cX17_graph_278 rfl ?_
                                      refine G_iload_n 10 dr_cX17_graph_280 rfl ?_
                                      refine Gw_callV (As := [.ref q334224, .int p277561]) (gV_ok D I) (ct_284394_SpillForgeModel_back l hl0 D I γ el P277557 F335585 q277559 q334224 p277561 hT335599 htq277559 ht334227 (gB_w bp277561' (by decide) (by decide))) dr_cX17_graph_281 ⟨wr_10_174, wr_1_14, wr_10_177, by decide, rfl, (Nat.le_of_ble_eq_true rfl), (Nat.le_of_ble_eq_true rfl)⟩ wr_10_176 wr_p_96 hm335529 he335596 rfl (show 0 + 0 ≤ 0 by first | omega | decide) (show 0 + 0 ≤ 0 by first | omega | decide) (Nat.le_of_ble_eq_true rfl) (fun r335606 w335607 dc335603 ds335604 hp335605 => ?_) (fun _ _ _ _ _ z => z.elim)
                                      obtain ⟨F335611, rfl, rfl, hT335612, hs335613, hdc, hds, x335608, x335609, ht335610⟩ := hp335605
                                      have he335614 : F335611 q277560 = .inr (18, [.ref q331719, .ref q331720, .int p331721, .int p331722]) := (hs335613 q277560 (rT0 htq277560 (by decide)) (rT1 htq277560 (by decide)) (rT2 htq277560 (by decide))).trans he335589
                                      have he335615 : F335611 q331719 = .inr (4, [.int p332366, .ref q332368, .int p332367]) := (hs335613 q331719 (rT0 ht331723 (by decide)) (rT1 ht331723 (by decide)) (rT2 ht331723 (by decide))).trans he335590
                                      have he335616 : F335611 q332368 = .inl (I (.object "java/lang/Object"), n332382, .inr (.inr (.inr (.inr f332383)))) := (hs335613 q332368 (rT0 r332374 (by decide)) (rT1 r332374 (by decide)) (rT2 r332374 (by decide))).trans he335591
                                      have he335617 : F335611 q332385 = .inr (17, [.ref q332395, .ref q332396, .int p332397, .int p332398]) := (hs335613 q332385 (rT0 ht332391 (by decide)) (rT1 ht332391 (by decide)) (rT2 ht332391 (by decide))).trans he335592
                                      have he335618 : F335611 q332395 = .inr (4, [.int p334205, .ref q334207, .int p334206]) := (hs335613 q332395 (rT0 ht332399 (by decide)) (rT1 ht332399 (by decide)) (rT2 ht332399 (by decide))).trans he335593
                                      have he335619 : F335611 q334207 = .inl (I (.object "java/lang/Object"), n334221, .inr (.inr (.inr (.inr f334222)))) := (hs335613 q334207 (rT0 r334213 (by decide)) (rT1 r334213 (by decide)) (rT2 r334213 (by decide))).trans he335594
                                      have he335620 : F335611 q334224 = .inr (20, [.int p334239, .int p334240, .int p334241, .int p334242, .int p334243, .int p334244, .int p334245]) := (hs335613 q334224 (rT0 ht334227 (by decide)) (rT1 ht334227 (by decide)) (rT2 ht334227 (by decide))).trans he335595
                                      have hs335621 : rStr γ [] F277558 F335611 := rStr_tr hs335600 hs335613
                                      have kp335622 : F335611 q277559 = F277558 q277559 := (x335608).trans kp335601
                                      have kp335623 : F335611 (γ 9 3) = F335513 (γ 9 3) := (x335609).trans kp335602
                                      have he335624 : F335611 q277559 = .inr (22, [.ref (γ 9 0), .ref (γ 9 1), .ref (γ 9 2), .ref (γ 9 3), .ref (γ 9 4), .ref (γ 9 5), .ref (γ 9 6), .ref (γ 9 7), .ref (γ 9 8), .int p277568, .int p277569, .int p277570, .int p277571, .int p277572, .int p277573, .ref (γ 9 15), .ref (γ 9 16), .ref (γ 9 17), .ref (γ 9 18), .ref (γ 9 19), .ref (γ 9 20), .ref (γ 9 21), .ref (γ 9 22), .int p277574, .int p277575, .int p277576, .int p277577, .int p277578, .ref q277566, .ref (γ 9 29), .int p277579, .ref (γ 9 31), .int p277580, .int p277581, .int p277582, .ref q277567]) := (x335608).trans he335596
                                      change G _ _ _ _ _ _ _ _ _ _ _
                                      refine G_widen (cs' := 0) (sl' := 0) (by omega) (by omega) ?_
                                      obtain ⟨z335625, hz335625⟩ : ∃ z : Int32, z = g334179 + Int32.ofInt (-1) := ⟨_, rfl⟩
                                      have ez335625 : z335625.toInt = g334179.toInt + (-1) := gI_inc hz335625 (by decide) bg334179' (by decide) (by decide)
                                      have bz335625 : gB z335625 (-1) 999998 := ⟨by omega, by omega⟩
                                      refine G_iinc (L' := [(5, .int z335625), (10, .int g335512), (9, .int 0), (8, .int p334241), (7, .int o334284), (6, .ref q334224), (4, .ref q332385), (3, .int g331706), (0, .ref q277559), (1, .ref q277560), (2, .int p277561)]) z335625 5 dr_cX17_graph_284 rfl hz335625.symm (Nat.le_of_ble_eq_true rfl) rfl ?_
                                      refine G_goto 109 dr_cX17_graph_287 (by decide +kernel) ?_
                                      refine G_lv (L' := [(5, .int z335625), (4, .ref q332385), (3, .int g331706), (0, .ref q277559), (1, .ref q277560), (2, .int p277561)]) [0, 6, 7, 8, 9, 10] rfl ?_
                                      exact ih109_334185 F335611 z335625 (gB_w bz335625 (by decide) (by decide)) hT335612 hs335621 (by omega) (fun h0 => by have z := x335516 h0; rw [← kp335623] at z; rw [show ((g334179.toInt : Int).toNat : Nat) = (z335625.toInt + 1 : Int).toNat by omega] at z; exact z) kp335622 (fun k e1 ht => kt109_334186 k e1 (fun R c1 c2 c3 c4 c5 c6 c7 c8 c9 c10 c11 => c10 F334180 g334179 q332395 q334224 p334206 F334259 p334239 p334240 p334243 o334284 p334244 p334241 q335341 f335346 F335513 q335538 f335543 f335549 F335552 q335571 f335576 f335582 F335585 F335611 z335625 k e1 bg334179 hT334181 hs334182 x334183 x334184 x334185 r334200 fq334201 hx334225 fq334229 ht334235 hT334260 hs334261 x334256 x334257 ht334258 fq334276 fq334277 fq334278 bo334284 ht334285 r334547 r334809 fq334810 r335072 fq335073 r335099 r335335 fq335336 hx335343 he335345 r335358 hx335532 fq335533 hx335540 he335542 ht335551 hfr335565 he335555 hT335566 fq335570 hx335573 he335575 ht335584 hfr335598 he335588 hT335599 hT335612 hs335613 x335608 x335609 ht335610 ez335625 (ht R c1 c2 c3 c4 c5 c6 c7 c8 c9 c10 c11))) (mz_dn ez335625 (Int.le_trans (by decide) bg334179'.1) hm109_334185)
                                    · have r335626 : g335512.toInt < 32 := gj_nleL hc335530 (show Int32.toInt 32 = 32 by decide)
                                      have bg335512' : gB g335512 0 31 := ⟨by omega, by omega⟩
                                      refine G_aload_n 8 dr_cX17_graph_217 rfl ?_
                                      have fq335627 : fR (F335513 q277559) 1 = (γ 9 1) := by rw [he335528]; rfl
                                      refine Gp_get 1 hm335529 he335528 dr_cX17_graph_218 (gk_X17 D I) (Nat.le_of_ble_eq_true rfl) wr_7_75 rfl ?_
                                      refine G_iload 3 dr_cX17_graph_221 rfl ?_
                                      have hm335628 : (γ 9 1) ∈ P277557 := RS_m hT335514 ht277586 (by decide)
                                      obtain ⟨f335630, he335629, hg335631⟩ := show rk_13 I γ (F335513 (γ 9 1)) from RS_o hT335514 ht277586
                                      obtain ⟨q335632, hx335634⟩ : ∃ x, x = γ 11 o334284.toInt.toNat := ⟨_, rfl⟩
                                      have ht335633 : rKd γ q335632 36 := by rw [hx335634]; exact (hg335631 _ (show o334284.toInt.toNat < 2000 by omega)).2.1
                                      refine Gp_aald 5 hm335628 he335629 dr_cX17_graph_223 rfl rfl (gB_in bo334284' (by decide) (by decide)) ?_
                                      rw [show f335630 o334284.toNatClampNeg = some q335632 from (hg335631 _ (show o334284.toInt.toNat < 2000 by omega)).1.trans (by rw [hx335634])]
                                      change G _ _ _ _ _ _ _ (.ref q335632 :: _) _ _ _
                                      refine G_iload 0 dr_cX17_graph_224 rfl ?_
                                      refine G_dup2_11 dr_cX17_graph_226 rfl rfl ?_
                                      have hm335635 : q335632 ∈ P277557 := RS_m hT335514 ht335633 (by decide)
                                      obtain ⟨f335637, he335636, wf335637⟩ := show rk_36 I (F335513 q335632) from RS_o hT335514 ht335633
                                      refine Gp_lald 2 hm335635 he335636 dr_cX17_graph_227 rfl (gB_in bg335512' (by decide) (by decide)) (G_namL fun u335638 hu335638 => ?_)
                                      have qu335638 : lb_Q u335638 (2000 - 64 * g335512.toInt) := lb_Wld hu335638 wf335637 (by omega) (by omega) (lb_Mod0 (by omega) (by omega))
                                      refine G_aload_n 8 dr_cX17_graph_228 rfl ?_
                                      have fq335639 : fR (F335513 q277559) 2 = (γ 9 2) := by rw [he335528]; rfl
                                      refine Gp_get 2 hm335529 he335528 dr_cX17_graph_229 (gk_X17 D I) (Nat.le_of_ble_eq_true rfl) wr_7_76 rfl ?_
                                      refine G_iload 0 dr_cX17_graph_232 rfl ?_
                                      have hm335640 : (γ 9 2) ∈ P277557 := RS_m hT335514 ht277587 (by decide)
                                      obtain ⟨f335642, he335641, wf335642⟩ := show rk_35 I (F335513 (γ 9 2)) from RS_o hT335514 ht277587
                                      refine Gp_lald 2 hm335640 he335641 dr_cX17_graph_234 rfl (gB_in bg335512' (by decide) (by decide)) (G_namL fun u335643 hu335643 => ?_)
                                      have qu335643 : lb_Q u335643 (2000 - 64 * g335512.toInt) := lb_Wld hu335643 wf335642 (by omega) (by omega) (lb_Mod0 (by omega) (by omega))
                                      refine G_lor dr_cX17_graph_235 (G_namL fun u335644 hu335644 => ?_)
                                      have qu335644 : lb_Q u335644 (2000 - 64 * g335512.toInt) := lb_Qor hu335644 qu335638 qu335643
                                      refine Gp_last 2 hm335635 he335636 dr_cX17_graph_236 rfl (gB_in bg335512' (by decide) (by decide)) (fun F335645 e335646 n335647 => ?_)
                                      obtain ⟨f335648, hf335648⟩ : ∃ z, z = vp_updL f335637 g335512.toNatClampNeg u335644 := ⟨_, rfl⟩
                                      rw [← hf335648] at e335646
                                      have he335649 : F335645 q277560 = .inr (18, [.ref q331719, .ref q331720, .int p331721, .int p331722]) := (n335647 q277560 (rn_oa he335520 he335636)).trans he335520
                                      have he335650 : F335645 q331719 = .inr (4, [.int p332366, .ref q332368, .int p332367]) := (n335647 q331719 (rn_oa he335521 he335636)).trans he335521
                                      have he335651 : F335645 q332368 = .inl (I (.object "java/lang/Object"), n332382, .inr (.inr (.inr (.inr f332383)))) := (n335647 q332368 (rn_ref_long he335522 he335636)).trans he335522
                                      have he335652 : F335645 q332385 = .inr (17, [.ref q332395, .ref q332396, .int p332397, .int p332398]) := (n335647 q332385 (rn_oa he335523 he335636)).trans he335523
                                      have he335653 : F335645 q332395 = .inr (4, [.int p334205, .ref q334207, .int p334206]) := (n335647 q332395 (rn_oa he335524 he335636)).trans he335524
                                      have he335654 : F335645 q334207 = .inl (I (.object "java/lang/Object"), n334221, .inr (.inr (.inr (.inr f334222)))) := (n335647 q334207 (rn_ref_long he335525 he335636)).trans he335525
                                      have he335655 : F335645 q334224 = .inr (20, [.int p334239, .int p334240, .int p334241, .int p334242, .int p334243, .int p334244, .int p334245]) := (n335647 q334224 (rn_oa he335526 he335636)).trans he335526
                                      have he335656 : F335645 q277559 = .inr (22, [.ref (γ 9 0), .ref (γ 9 1), .ref (γ 9 2), .ref (γ 9 3), .ref (γ 9 4), .ref (γ 9 5), .ref (γ 9 6), .ref (γ 9 7), .ref (γ 9 8), .int p277568, .int p277569, .int p277570, .int p277571, .int p277572, .int p277573, .ref (γ 9 15), .ref (γ 9 16), .ref (γ 9 17), .ref (γ 9 18), .ref (γ 9 19), .ref (γ 9 20), .ref (γ 9 21), .ref (γ 9 22), .int p277574, .int p277575, .int p277576, .int p277577, .int p277578, .ref q277566, .ref (γ 9 29), .int p277579, .ref (γ 9 31), .int p277580, .int p277581, .int p277582, .ref q277567]) := (n335647 q277559 (rn_oa he335528 he335636)).trans he335528
                                      have he335657 : F335645 (γ 9 1) = .inl (I (.array .long), 2000, .inr (.inr (.inr (.inr f335630)))) := (n335647 (γ 9 1) (rn_ref_long he335629 he335636)).trans he335629
                                      have he335658 : F335645 (γ 9 2) = .inl (I .long, 32, .inr (.inl f335642)) := (n335647 (γ 9 2) (rn_ty ht277587 ht335633 (by decide))).trans he335641
                                      have he335659 : F335645 q335632 = .inl (I .long, 32, .inr (.inl f335648)) := e335646
                                      have hs335660 : rStr γ [] F277558 F335645 := rStr_put hs335515 n335647 ht335633 (by decide)
                                      have kp335661 : F335645 q277559 = F277558 q277559 := (n335647 q277559 (rn_ty htq277559 ht335633 (by decide))).trans x335517
                                      have kp335662 : F335645 (γ 9 3) = F335513 (γ 9 3) := n335647 (γ 9 3) (rn_ty ht277588 ht335633 (by decide))
                                      have wf335648 : lb_W f335648 (32) (32) (2000) := lb_Wst hf335648 wf335637 (by omega) (lb_Mod0 (by omega) (by omega)) qu335644
                                      obtain ⟨z335663, hz335663⟩ : ∃ z : Int32, z = g335512 + Int32.ofInt 1 := ⟨_, rfl⟩
                                      have ez335663 : z335663.toInt = g335512.toInt + 1 := gI_inc hz335663 (by decide) bg335512' (by decide) (by decide)
                                      have bz335663 : gB z335663 1 32 := ⟨by omega, by omega⟩
                                      refine G_iinc (L' := [(10, .int z335663), (9, .int 0), (8, .int p334241), (7, .int o334284), (6, .ref q334224), (5, .int g334179), (4, .ref q332385), (3, .int g331706), (0, .ref q277559), (1, .ref q277560), (2, .int p277561)]) z335663 0 dr_cX17_graph_237 rfl hz335663.symm (Nat.le_of_ble_eq_true rfl) rfl ?_
                                      refine G_goto 210 dr_cX17_graph_240 (by decide +kernel) ?_
                                      have hT335664 : RS D I P277557 F335645 γ el := RS_set hT335514 n335647 ht335633 (by decide) ⟨f335648, he335659, wf335648⟩
                                      exact ih210_335517 F335645 z335663 (gB_w bz335663 (by decide) (by decide)) hT335664 hs335660 (by rw [kp335662]; exact x335516) kp335661 (fun k e1 ht => kt210_335518 k e1 (fun R c1 c2 => c2 F335513 g335512 q335632 f335637 u335638 f335642 u335643 u335644 f335648 F335645 z335663 k e1 bg335512 hT335514 hs335515 x335516 x335517 r335626 fq335627 hx335634 he335636 hu335638 fq335639 he335641 hu335643 hu335644 hf335648 n335647 he335659 ez335663 (ht R c1 c2))) (mz_up ez335663 (Int.le_trans bg335512'.2 (by decide)) hm210_335517)
                                exact hlp210_335517 (((33 : Int) - 0).toNat + 1) F334259 0 (gB_w (gBl (show Int32.toInt 0 = 0 by decide)) (by decide) (by decide)) hT334260 hs334269 gr334275 kp334270 (fun k e1 ht => ht) (Nat.lt_succ_self _)
                              · change G _ _ _ _ _ _ _ (.int 1 :: _) _ _ _
                                refine G_widen (cs' := 0) (sl' := 0) (by omega) (by omega) ?_
                                refine G_if_eq 204 dr_cX17_graph_197 (by decide +kernel) (fun hc => absurd hc (by decide)) (fun _ => ?_)
                                refine G_iconst 1 dr_cX17_graph_200 (by decide +kernel) ?_
                                refine G_goto 205 dr_cX17_graph_201 (by decide +kernel) ?_
                                refine G_istore (L' := [(9, .int 1), (8, .int p334241), (7, .int o334284), (6, .ref q334224), (5, .int g334179), (4, .ref q332385), (3, .int g331706), (0, .ref q277559), (1, .ref q277560), (2, .int p277561)]) dr_cX17_graph_205 (Nat.le_of_ble_eq_true rfl) rfl ?_
                                refine G_iconst 0 dr_cX17_graph_207 (by decide +kernel) ?_
                                refine G_istore (L' := [(10, .int 0), (9, .int 1), (8, .int p334241), (7, .int o334284), (6, .ref q334224), (5, .int g334179), (4, .ref q332385), (3, .int g331706), (0, .ref q277559), (1, .ref q277560), (2, .int p277561)]) dr_cX17_graph_208 (Nat.le_of_ble_eq_true rfl) rfl ?_
                                have hlp210_335783 : ∀ (n210_335783 : Nat) (F335779 : Nat → va_E) (g335778 : Int32), gB g335778 0 32 → RS D I P277557 F335779 γ el → rStr γ [] F277558 F335779 → (gIp (p277561.toInt = 0) (rGr γ el F277558 q277560 (γ 6 (γ 1 q277560)) (cB (F335779 (γ 9 3))) (vB (g331706.toInt : Int).toNat (g334179.toInt : Int).toNat))) → (F335779 q277559 = F277558 q277559) → (∀ (k : Nat) (e1 : Nat → va_E), tl_RModel_graph_210_6 D I γ el P277557 F277558 p277561 q277560 g331706 g334179 q277559 o334284 F335779 g335778 k e1 → tl_RModel_graph_210_6 D I γ el P277557 F277558 p277561 q277560 g331706 g334179 q277559 o334284 F334259 (0 : Int32) k e1) → ((33 : Int) - g335778.toInt).toNat < n210_335783 → G (gV D I) l (gRm 5 111 0 0) (gMA (gV D I) (pt_277563_SpillForgeModel_graph D I γ el P277557 F277558 q277559 q277560 p277561) gNA 0 0) ky_277563_SpillForgeModel_graph 210 [(10, .int g335778), (9, .int 1), (8, .int p334241), (7, .int o334284), (6, .ref q334224), (5, .int g334179), (4, .ref q332385), (3, .int g331706), (0, .ref q277559), (1, .ref q277560), (2, .int p277561)] [] (va_pl P277557 F335779) 0 0 := by
                                  intro n210_335783
                                  induction n210_335783 with
                                  | zero => intro F335779 g335778 bg335778 hT335780 hs335781 x335782 x335783 kt210_335784 hm210_335783; exact absurd hm210_335783 (Nat.not_lt_zero _)
                                  | succ n210_335783 ih210_335783 =>
                                    intro F335779 g335778 bg335778 hT335780 hs335781 x335782 x335783 kt210_335784 hm210_335783
                                    have hs335785 : rStr γ [] F334259 F335779 := fun b h0 hb hw => (hs335781 b h0 hb hw).trans (hs334269 b h0 hb hw).symm
                                    have he335786 : F335779 q277560 = .inr (18, [.ref q331719, .ref q331720, .int p331721, .int p331722]) := (hs335785 q277560 (rT0 htq277560 (by decide)) (rT1 htq277560 (by decide)) (rT2 htq277560 (by decide))).trans he334262
                                    have he335787 : F335779 q331719 = .inr (4, [.int p332366, .ref q332368, .int p332367]) := (hs335785 q331719 (rT0 ht331723 (by decide)) (rT1 ht331723 (by decide)) (rT2 ht331723 (by decide))).trans he334263
                                    have he335788 : F335779 q332368 = .inl (I (.object "java/lang/Object"), n332382, .inr (.inr (.inr (.inr f332383)))) := (hs335785 q332368 (rT0 r332374 (by decide)) (rT1 r332374 (by decide)) (rT2 r332374 (by decide))).trans he334264
                                    have he335789 : F335779 q332385 = .inr (17, [.ref q332395, .ref q332396, .int p332397, .int p332398]) := (hs335785 q332385 (rT0 ht332391 (by decide)) (rT1 ht332391 (by decide)) (rT2 ht332391 (by decide))).trans he334265
                                    have he335790 : F335779 q332395 = .inr (4, [.int p334205, .ref q334207, .int p334206]) := (hs335785 q332395 (rT0 ht332399 (by decide)) (rT1 ht332399 (by decide)) (rT2 ht332399 (by decide))).trans he334266
                                    have he335791 : F335779 q334207 = .inl (I (.object "java/lang/Object"), n334221, .inr (.inr (.inr (.inr f334222)))) := (hs335785 q334207 (rT0 r334213 (by decide)) (rT1 r334213 (by decide)) (rT2 r334213 (by decide))).trans he334267
                                    have he335792 : F335779 q334224 = .inr (20, [.int p334239, .int p334240, .int p334241, .int p334242, .int p334243, .int p334244, .int p334245]) := (hs335785 q334224 (rT0 ht334227 (by decide)) (rT1 ht334227 (by decide)) (rT2 ht334227 (by decide))).trans he334268
                                    have hs335793 : rStr γ [] F277558 F335779 := rStr_tr hs334269 hs335785
                                    have he335794 : F335779 q277559 = .inr (22, [.ref (γ 9 0), .ref (γ 9 1), .ref (γ 9 2), .ref (γ 9 3), .ref (γ 9 4), .ref (γ 9 5), .ref (γ 9 6), .ref (γ 9 7), .ref (γ 9 8), .int p277568, .int p277569, .int p277570, .int p277571, .int p277572, .int p277573, .ref (γ 9 15), .ref (γ 9 16), .ref (γ 9 17), .ref (γ 9 18), .ref (γ 9 19), .ref (γ 9 20), .ref (γ 9 21), .ref (γ 9 22), .int p277574, .int p277575, .int p277576, .int p277577, .int p277578, .ref q277566, .ref (γ 9 29), .int p277579, .ref (γ 9 31), .int p277580, .int p277581, .int p277582, .ref q277567]) := x335783.trans he277565
                                    have hm335795 : q277559 ∈ P277557 := RS_m hT335780 htq277559 (by decide)
                                    refine G_iload 0 dr_cX17_graph_210 rfl ?_
                                    refine G_bipush 32 dr_cX17_graph_212 (by decide +kernel) ?_
                                    refine G_icmp_ge 243 dr_cX17_graph_214 (by decide +kernel) (fun hc335796 => ?_) (fun hc335796 => ?_)
                                    · have r335797 : 32 ≤ g335778.toInt := gj_leL hc335796 (show Int32.toInt 32 = 32 by decide)
                                      have bg335778' : gB g335778 32 32 := ⟨by omega, by omega⟩
                                      have hx335798 : tl_RModel_graph_210_6 D I γ el P277557 F277558 p277561 q277560 g331706 g334179 q277559 o334284 F334259 (0 : Int32) 243 F335779 := kt210_335784 243 F335779 (fun R c1 c2 => c1 F335779 g335778 bg335778 hT335780 hs335781 x335782 x335783 r335797)
                                      refine G_iload 2 dr_cX17_graph_243 rfl ?_
                                      refine G_if_lt 265 dr_cX17_graph_245 (by decide +kernel) (fun hc => absurd (show False by have := gj_lt hc (show Int32.toInt 0 = 0 by decide); omega) not_false) (fun _ => ?_)
                                      refine G_iload 1 dr_cX17_graph_248 rfl ?_
                                      refine G_if_ne 265 dr_cX17_graph_250 (by decide +kernel) (fun _ => ?_) (fun hc => absurd hc (by decide))
                                      refine G_aload_n 8 dr_cX17_graph_265 rfl ?_
                                      have fq335799 : fR (F335779 q277559) 1 = (γ 9 1) := by rw [he335794]; rfl
                                      refine Gp_get 1 hm335795 he335794 dr_cX17_graph_266 (gk_X17 D I) (Nat.le_of_ble_eq_true rfl) wr_7_75 rfl ?_
                                      refine G_iload 3 dr_cX17_graph_269 rfl ?_
                                      have hm335800 : (γ 9 1) ∈ P277557 := RS_m hT335780 ht277586 (by decide)
                                      obtain ⟨f335802, he335801, hg335803⟩ := show rk_13 I γ (F335779 (γ 9 1)) from RS_o hT335780 ht277586
                                      obtain ⟨q335804, hx335806⟩ : ∃ x, x = γ 11 o334284.toInt.toNat := ⟨_, rfl⟩
                                      have ht335805 : rKd γ q335804 36 := by rw [hx335806]; exact (hg335803 _ (show o334284.toInt.toNat < 2000 by omega)).2.1
                                      refine Gp_aald 5 hm335800 he335801 dr_cX17_graph_271 rfl rfl (gB_in bo334284' (by decide) (by decide)) ?_
                                      rw [show f335802 o334284.toNatClampNeg = some q335804 from (hg335803 _ (show o334284.toInt.toNat < 2000 by omega)).1.trans (by rw [hx335806])]
                                      change G _ _ _ _ _ _ _ (.ref q335804 :: _) _ _ _
                                      refine G_iload 3 dr_cX17_graph_272 rfl ?_
                                      have hm335807 : q335804 ∈ P277557 := RS_m hT335780 ht335805 (by decide)
                                      obtain ⟨f335809, he335808, wf335809⟩ := show rk_36 I (F335779 q335804) from RS_o hT335780 ht335805
                                      refine Gw_callS (As := [.ref q335804, .int o334284]) (gV_ok D I) (cp_1880_SpillForgeModel_clear l hl0 D I P277557 F335779 q335804 o334284 f335809 hm335807 he335808 bo334284' wf335809) dr_cX17_graph_274 ⟨wr_10_185, wr_1_14, wr_10_187, by decide, rfl, (Nat.le_of_ble_eq_true rfl), (Nat.le_of_ble_eq_true rfl)⟩ wr_10_186 (show 0 + 0 ≤ 0 by first | omega | decide) (show 0 + 0 ≤ 0 by first | omega | decide) (Nat.le_of_ble_eq_true rfl) (fun r335813 w335814 dc335810 ds335811 hp335812 => ?_) (fun _ _ _ _ _ z => z.elim)
                                      obtain ⟨F335818, f335815, rfl, rfl, hfr335820, he335821, hdc, hds, x335816, ht335817⟩ := hp335812
                                      have he335822 : F335818 q277560 = .inr (18, [.ref q331719, .ref q331720, .int p331721, .int p331722]) := (hfr335820 q277560 hm331717 (nm_c (rn_oa he335786 he335808) nm_n)).trans he335786
                                      have he335823 : F335818 q331719 = .inr (4, [.int p332366, .ref q332368, .int p332367]) := (hfr335820 q331719 hm332364 (nm_c (rn_oa he335787 he335808) nm_n)).trans he335787
                                      have he335824 : F335818 q332368 = .inl (I (.object "java/lang/Object"), n332382, .inr (.inr (.inr (.inr f332383)))) := (hfr335820 q332368 hm332384 (nm_c (rn_ref_long he335788 he335808) nm_n)).trans he335788
                                      have he335825 : F335818 q332385 = .inr (17, [.ref q332395, .ref q332396, .int p332397, .int p332398]) := (hfr335820 q332385 hm332393 (nm_c (rn_oa he335789 he335808) nm_n)).trans he335789
                                      have he335826 : F335818 q332395 = .inr (4, [.int p334205, .ref q334207, .int p334206]) := (hfr335820 q332395 hm334203 (nm_c (rn_oa he335790 he335808) nm_n)).trans he335790
                                      have he335827 : F335818 q334207 = .inl (I (.object "java/lang/Object"), n334221, .inr (.inr (.inr (.inr f334222)))) := (hfr335820 q334207 hm334223 (nm_c (rn_ref_long he335791 he335808) nm_n)).trans he335791
                                      have he335828 : F335818 q334224 = .inr (20, [.int p334239, .int p334240, .int p334241, .int p334242, .int p334243, .int p334244, .int p334245]) := (hfr335820 q334224 hm334237 (nm_c (rn_oa he335792 he335808) nm_n)).trans he335792
                                      have he335829 : F335818 q277559 = .inr (22, [.ref (γ 9 0), .ref (γ 9 1), .ref (γ 9 2), .ref (γ 9 3), .ref (γ 9 4), .ref (γ 9 5), .ref (γ 9 6), .ref (γ 9 7), .ref (γ 9 8), .int p277568, .int p277569, .int p277570, .int p277571, .int p277572, .int p277573, .ref (γ 9 15), .ref (γ 9 16), .ref (γ 9 17), .ref (γ 9 18), .ref (γ 9 19), .ref (γ 9 20), .ref (γ 9 21), .ref (γ 9 22), .int p277574, .int p277575, .int p277576, .int p277577, .int p277578, .ref q277566, .ref (γ 9 29), .int p277579, .ref (γ 9 31), .int p277580, .int p277581, .int p277582, .ref q277567]) := (hfr335820 q277559 hm335795 (nm_c (rn_oa he335794 he335808) nm_n)).trans he335794
                                      have he335830 : F335818 (γ 9 1) = .inl (I (.array .long), 2000, .inr (.inr (.inr (.inr f335802)))) := (hfr335820 (γ 9 1) hm335800 (nm_c (rn_ref_long he335801 he335808) nm_n)).trans he335801
                                      have hfr335831 : rFr [q335804] P277557 F335779 F335818 := rFr_call (rSub_rf (P := P277557)) (rFr_rf (W := []) (P := P277557) (F := F335779)) hfr335820 (fun b hb hn => ⟨nm_n, (nm_c (fun e => hn (e ▸ List.mem_cons_self)) nm_n)⟩)
                                      change G _ _ _ _ _ _ _ _ _ _ _
                                      refine G_widen (cs' := 0) (sl' := 0) (by omega) (by omega) ?_
                                      have hT335832 : RS D I P277557 F335818 γ el := RS_fr hT335780 hfr335831 ht335805 (by decide) ⟨f335815, he335821, x335816⟩
                                      have hs335833 : rStr γ [] F277558 F335818 := rStr_fr hT335780 hs335781 hfr335831 ht335805 (by decide)
                                      have kp335834 : F335818 q277559 = F277558 q277559 := (hfr335831 q277559 (RS_m hT335780 htq277559 (by decide)) (nm_c (rn_ty htq277559 ht335805 (by decide)) nm_n)).trans x335783
                                      have kp335835 : F335818 (γ 9 3) = F335779 (γ 9 3) := hfr335831 (γ 9 3) (RS_m hT335780 ht277588 (by decide)) (nm_c (rn_ty ht277588 ht335805 (by decide)) nm_n)
                                      refine G_aload_n 8 dr_cX17_graph_277 rfl ?_
                                      refine G_aload 4 dr_cX17_graph_278 rfl ?_
                                      refine G_iload_n 10 dr_cX17_graph_280 rfl ?_
                                      refine Gw_callV (As := [.ref q334224, .int p277561]) (gV_ok D I) (ct_284394_SpillForgeModel_back l hl0 D I γ el P277557 F335818 q277559 q334224 p277561 hT335832 htq277559 ht334227 (gB_w bp277561' (by decide) (by decide))) dr_cX17_graph_281 ⟨wr_10_174, wr_1_14, wr_10_177, by decide, rfl, (Nat.le_of_ble_eq_true rfl), (Nat.le_of_ble_eq_true rfl)⟩ wr_10_176 wr_p_96 hm335795 he335829 rfl (show 0 + 0 ≤ 0 by first | omega | decide) (show 0 + 0 ≤ 0 by first | omega | decide) (Nat.le_of_ble_eq_true rfl) (fun r335839 w335840 dc335836 ds335837 hp335838 => ?_) (fun _ _ _ _ _ z => z.elim)
                                      obtain ⟨F335844, rfl, rfl, hT335845, hs335846, hdc, hds, x335841, x335842, ht335843⟩ := hp335838
                                      have he335847 : F335844 q277560 = .inr (18, [.ref q331719, .ref q331720, .int p331721, .int p331722]) := (hs335846 q277560 (rT0 htq277560 (by decide)) (rT1 htq277560 (by decide)) (rT2 htq277560 (by decide))).trans he335822
                                      have he335848 : F335844 q331719 = .inr (4, [.int p332366, .ref q332368, .int p332367]) := (hs335846 q331719 (rT0 ht331723 (by decide)) (rT1 ht331723 (by decide)) (rT2 ht331723 (by decide))).trans he335823
                                      have he335849 : F335844 q332368 = .inl (I (.object "java/lang/Object"), n332382, .inr (.inr (.inr (.inr f332383)))) := (hs335846 q332368 (rT0 r332374 (by decide)) (rT1 r332374 (by decide)) (rT2 r332374 (by decide))).trans he335824
                                      have he335850 : F335844 q332385 = .inr (17, [.ref q332395, .ref q332396, .int p332397, .int p332398]) := (hs335846 q332385 (rT0 ht332391 (by decide)) (rT1 ht332391 (by decide)) (rT2 ht332391 (by decide))).trans he335825
                                      have he335851 : F335844 q332395 = .inr (4, [.int p334205, .ref q334207, .int p334206]) := (hs335846 q332395 (rT0 ht332399 (by decide)) (rT1 ht332399 (by decide)) (rT2 ht332399 (by decide))).trans he335826
                                      have he335852 : F335844 q334207 = .inl (I (.object "java/lang/Object"), n334221, .inr (.inr (.inr (.inr f334222)))) := (hs335846 q334207 (rT0 r334213 (by decide)) (rT1 r334213 (by decide)) (rT2 r334213 (by decide))).trans he335827
                                      have he335853 : F335844 q334224 = .inr (20, [.int p334239, .int p334240, .int p334241, .int p334242, .int p334243, .int p334244, .int p334245]) := (hs335846 q334224 (rT0 ht334227 (by decide)) (rT1 ht334227 (by decide)) (rT2 ht334227 (by decide))).trans he335828
                                      have hs335854 : rStr γ [] F277558 F335844 := rStr_tr hs335833 hs335846
                                      have kp335855 : F335844 q277559 = F277558 q277559 := (x335841).trans kp335834
                                      have kp335856 : F335844 (γ 9 3) = F335779 (γ 9 3) := (x335842).trans kp335835
                                      have he335857 : F335844 q277559 = .inr (22, [.ref (γ 9 0), .ref (γ 9 1), .ref (γ 9 2), .ref (γ 9 3), .ref (γ 9 4), .ref (γ 9 5), .ref (γ 9 6), .ref (γ 9 7), .ref (γ 9 8), .int p277568, .int p277569, .int p277570, .int p277571, .int p277572, .int p277573, .ref (γ 9 15), .ref (γ 9 16), .ref (γ 9 17), .ref (γ 9 18), .ref (γ 9 19), .ref (γ 9 20), .ref (γ 9 21), .ref (γ 9 22), .int p277574, .int p277575, .int p277576, .int p277577, .int p277578, .ref q277566, .ref (γ 9 29), .int p277579, .ref (γ 9 31), .int p277580, .int p277581, .int p277582, .ref q277567]) := (x335841).trans he335829
                                      change G _ _ _ _ _ _ _ _ _ _ _
                                      refine G_widen (cs' := 0) (sl' := 0) (by omega) (by omega) ?_
                                      obtain ⟨z335858, hz335858⟩ : ∃ z : Int32, z = g334179 + Int32.ofInt (-1) := ⟨_, rfl⟩
                                      have ez335858 : z335858.toInt = g334179.toInt + (-1) := gI_inc hz335858 (by decide) bg334179' (by decide) (by decide)
                                      have bz335858 : gB z335858 (-1) 999998 := ⟨by omega, by omega⟩
                                      refine G_iinc (L' := [(5, .int z335858), (10, .int g335778), (9, .int 1), (8, .int p334241), (7, .int o334284), (6, .ref q334224), (4, .ref q332385), (3, .int g331706), (0, .ref q277559), (1, .ref q277560), (2, .int p277561)]) z335858 5 dr_cX17_graph_284 rfl hz335858.symm (Nat.le_of_ble_eq_true rfl) rfl ?_
                                      refine G_goto 109 dr_cX17_graph_287 (by decide +kernel) ?_
                                      refine G_lv (L' := [(5, .int z335858), (4, .ref q332385), (3, .int g331706), (0, .ref q277559), (1, .ref q277560), (2, .int p277561)]) [0, 6, 7, 8, 9, 10] rfl ?_
                                      exact ih109_334185 F335844 z335858 (gB_w bz335858 (by decide) (by decide)) hT335845 hs335854 (by omega) (fun h0 => by have z := x335782 h0; rw [← kp335856] at z; rw [show ((g334179.toInt : Int).toNat : Nat) = (z335858.toInt + 1 : Int).toNat by omega] at z; exact z) kp335855 (fun k e1 ht => kt109_334186 k e1 (fun R c1 c2 c3 c4 c5 c6 c7 c8 c9 c10 c11 => c11 F334180 g334179 q332395 q334224 p334206 F334259 p334239 p334240 p334243 o334284 p334244 p334241 q335341 f335346 F335779 q335804 f335809 f335815 F335818 F335844 z335858 k e1 bg334179 hT334181 hs334182 x334183 x334184 x334185 r334200 fq334201 hx334225 fq334229 ht334235 hT334260 hs334261 x334256 x334257 ht334258 fq334276 fq334277 fq334278 bo334284 ht334285 r334547 r334809 fq334810 r335072 fq335073 r335099 r335335 fq335336 hx335343 he335345 r335365 hx335798 fq335799 hx335806 he335808 ht335817 hfr335831 he335821 hT335832 hT335845 hs335846 x335841 x335842 ht335843 ez335858 (ht R c1 c2 c3 c4 c5 c6 c7 c8 c9 c10 c11))) (mz_dn ez335858 (Int.le_trans (by decide) bg334179'.1) hm109_334185)
                                    · have r335859 : g335778.toInt < 32 := gj_nleL hc335796 (show Int32.toInt 32 = 32 by decide)
                                      have bg335778' : gB g335778 0 31 := ⟨by omega, by omega⟩
                                      refine G_aload_n 8 dr_cX17_graph_217 rfl ?_
                                      have fq335860 : fR (F335779 q277559) 1 = (γ 9 1) := by rw [he335794]; rfl
                                      refine Gp_get 1 hm335795 he335794 dr_cX17_graph_218 (gk_X17 D I) (Nat.le_of_ble_eq_true rfl) wr_7_75 rfl ?_
                                      refine G_iload 3 dr_cX17_graph_221 rfl ?_
                                      have hm335861 : (γ 9 1) ∈ P277557 := RS_m hT335780 ht277586 (by decide)
                                      obtain ⟨f335863, he335862, hg335864⟩ := show rk_13 I γ (F335779 (γ 9 1)) from RS_o hT335780 ht277586
                                      obtain ⟨q335865, hx335867⟩ : ∃ x, x = γ 11 o334284.toInt.toNat := ⟨_, rfl⟩
                                      have ht335866 : rKd γ q335865 36 := by rw [hx335867]; exact (hg335864 _ (show o334284.toInt.toNat < 2000 by omega)).2.1
                                      refine Gp_aald 5 hm335861 he335862 dr_cX17_graph_223 rfl rfl (gB_in bo334284' (by decide) (by decide)) ?_
                                      rw [show f335863 o334284.toNatClampNeg = some q335865 from (hg335864 _ (show o334284.toInt.toNat < 2000 by omega)).1.trans (by rw [hx335867])]
                                      change G _ _ _ _ _ _ _ (.ref q335865 :: _) _ _ _
                                      refine G_iload 0 dr_cX17_graph_224 rfl ?_
                                      refine G_dup2_11 dr_cX17_graph_226 rfl rfl ?_
                                      have hm335868 : q335865 ∈ P277557 := RS_m hT335780 ht335866 (by decide)
                                      obtain ⟨f335870, he335869, wf335870⟩ := show rk_36 I (F335779 q335865) from RS_o hT335780 ht335866
                                      refine Gp_lald 2 hm335868 he335869 dr_cX17_graph_227 rfl (gB_in bg335778' (by decide) (by decide)) (G_namL fun u335871 hu335871 => ?_)
                                      have qu335871 : lb_Q u335871 (2000 - 64 * g335778.toInt) := lb_Wld hu335871 wf335870 (by omega) (by omega) (lb_Mod0 (by omega) (by omega))
                                      refine G_aload_n 8 dr_cX17_graph_228 rfl ?_
                                      have fq335872 : fR (F335779 q277559) 2 = (γ 9 2) := by rw [he335794]; rfl
                                      refine Gp_get 2 hm335795 he335794 dr_cX17_graph_229 (gk_X17 D I) (Nat.le_of_ble_eq_true rfl) wr_7_76 rfl ?_
                                      refine G_iload 0 dr_cX17_graph_232 rfl ?_
                                      have hm335873 : (γ 9 2) ∈ P277557 := RS_m hT335780 ht277587 (by decide)
                                      obtain ⟨f335875, he335874, wf335875⟩ := show rk_35 I (F335779 (γ 9 2)) from RS_o hT335780 ht277587
                                      refine Gp_lald 2 hm335873 he335874 dr_cX17_graph_234 rfl (gB_in bg335778' (by decide) (by decide)) (G_namL fun u335876 hu335876 => ?_)
                                      have qu335876 : lb_Q u335876 (2000 - 64 * g335778.toInt) := lb_Wld hu335876 wf335875 (by omega) (by omega) (lb_Mod0 (by omega) (by omega))
                                      refine G_lor dr_cX17_graph_235 (G_namL fun u335877 hu335877 => ?_)
                                      have qu335877 : lb_Q u335877 (2000 - 64 * g335778.toInt) := lb_Qor hu335877 qu335871 qu335876
                                      refine Gp_last 2 hm335868 he335869 dr_cX17_graph_236 rfl (gB_in bg335778' (by decide) (by decide)) (fun F335878 e335879 n335880 => ?_)
                                      obtain ⟨f335881, hf335881⟩ : ∃ z, z = vp_updL f335870 g335778.toNatClampNeg u335877 := ⟨_, rfl⟩
                                      rw [← hf335881] at e335879
                                      have he335882 : F335878 q277560 = .inr (18, [.ref q331719, .ref q331720, .int p331721, .int p331722]) := (n335880 q277560 (rn_oa he335786 he335869)).trans he335786
                                      have he335883 : F335878 q331719 = .inr (4, [.int p332366, .ref q332368, .int p332367]) := (n335880 q331719 (rn_oa he335787 he335869)).trans he335787
                                      have he335884 : F335878 q332368 = .inl (I (.object "java/lang/Object"), n332382, .inr (.inr (.inr (.inr f332383)))) := (n335880 q332368 (rn_ref_long he335788 he335869)).trans he335788
                                      have he335885 : F335878 q332385 = .inr (17, [.ref q332395, .ref q332396, .int p332397, .int p332398]) := (n335880 q332385 (rn_oa he335789 he335869)).trans he335789
                                      have he335886 : F335878 q332395 = .inr (4, [.int p334205, .ref q334207, .int p334206]) := (n335880 q332395 (rn_oa he335790 he335869)).trans he335790
                                      have he335887 : F335878 q334207 = .inl (I (.object "java/lang/Object"), n334221, .inr (.inr (.inr (.inr f334222)))) := (n335880 q334207 (rn_ref_long he335791 he335869)).trans he335791
                                      have he335888 : F335878 q334224 = .inr (20, [.int p334239, .int p334240, .int p334241, .int p334242, .int p334243, .int p334244, .int p334245]) := (n335880 q334224 (rn_oa he335792 he335869)).trans he335792
                                      have he335889 : F335878 q277559 = .inr (22, [.ref (γ 9 0), .ref (γ 9 1), .ref (γ 9 2), .ref (γ 9 3), .ref (γ 9 4), .ref (γ 9 5), .ref (γ 9 6), .ref (γ 9 7), .ref (γ 9 8), .int p277568, .int p277569, .int p277570, .int p277571, .int p277572, .int p277573, .ref (γ 9 15), .ref (γ 9 16), .ref (γ 9 17), .ref (γ 9 18), .ref (γ 9 19), .ref (γ 9 20), .ref (γ 9 21), .ref (γ 9 22), .int p277574, .int p277575, .int p277576, .int p277577, .int p277578, .ref q277566, .ref (γ 9 29), .int p277579, .ref (γ 9 31), .int p277580, .int p277581, .int p277582, .ref q277567]) := (n335880 q277559 (rn_oa he335794 he335869)).trans he335794
                                      have he335890 : F335878 (γ 9 1) = .inl (I (.array .long), 2000, .inr (.inr (.inr (.inr f335863)))) := (n335880 (γ 9 1) (rn_ref_long he335862 he335869)).trans he335862
                                      have he335891 : F335878 (γ 9 2) = .inl (I .long, 32, .inr (.inl f335875)) := (n335880 (γ 9 2) (rn_ty ht277587 ht335866 (by decide))).trans he335874
                                      have he335892 : F335878 q335865 = .inl (I .long, 32, .inr (.inl f335881)) := e335879
                                      have hs335893 : rStr γ [] F277558 F335878 := rStr_put hs335781 n335880 ht335866 (by decide)
                                      have kp335894 : F335878 q277559 = F277558 q277559 := (n335880 q277559 (rn_ty htq277559 ht335866 (by decide))).trans x335783
                                      have kp335895 : F335878 (γ 9 3) = F335779 (γ 9 3) := n335880 (γ 9 3) (rn_ty ht277588 ht335866 (by decide))
                                      have wf335881 : lb_W f335881 (32) (32) (2000) := lb_Wst hf335881 wf335870 (by omega) (lb_Mod0 (by omega) (by omega)) qu335877
                                      obtain ⟨z335896, hz335896⟩ : ∃ z : Int32, z = g335778 + Int32.ofInt 1 := ⟨_, rfl⟩
                                      have ez335896 : z335896.toInt = g335778.toInt + 1 := gI_inc hz335896 (by decide) bg335778' (by decide) (by decide)
                                      have bz335896 : gB z335896 1 32 := ⟨by omega, by omega⟩
                                      refine G_iinc (L' := [(10, .int z335896), (9, .int 1), (8, .int p334241), (7, .int o334284), (6, .ref q334224), (5, .int g334179), (4, .ref q332385), (3, .int g331706), (0, .ref q277559), (1, .ref q277560), (2, .int p277561)]) z335896 0 dr_cX17_graph_237 rfl hz335896.symm (Nat.le_of_ble_eq_true rfl) rfl ?_
                                      refine G_goto 210 dr_cX17_graph_240 (by decide +kernel) ?_
                                      have hT335897 : RS D I P277557 F335878 γ el := RS_set hT335780 n335880 ht335866 (by decide) ⟨f335881, he335892, wf335881⟩
                                      exact ih210_335783 F335878 z335896 (gB_w bz335896 (by decide) (by decide)) hT335897 hs335893 (by rw [kp335895]; exact x335782) kp335894 (fun k e1 ht => kt210_335784 k e1 (fun R c1 c2 => c2 F335779 g335778 q335865 f335870 u335871 f335875 u335876 u335877 f335881 F335878 z335896 k e1 bg335778 hT335780 hs335781 x335782 x335783 r335859 fq335860 hx335867 he335869 hu335871 fq335872 he335874 hu335876 hu335877 hf335881 n335880 he335892 ez335896 (ht R c1 c2))) (mz_up ez335896 (Int.le_trans bg335778'.2 (by decide)) hm210_335783)
                                exact hlp210_335783 (((33 : Int) - 0).toNat + 1) F334259 0 (gB_w (gBl (show Int32.toInt 0 = 0 by decide)) (by decide) (by decide)) hT334260 hs334269 gr334275 kp334270 (fun k e1 ht => ht) (Nat.lt_succ_self _)
              exact hlp109_334185 (((z332497.toInt : Int) - (-2)).toNat + 1) F332467 z332497 bz332497 hT332468 hs332474 (by omega) (fun h0 => by have z := gr332457 h0; rw [← kp332476] at z; rw [show (γ 2 q332395 : Nat) = (z332497.toInt + 1 : Int).toNat by omega] at z; exact z) kp332475 (fun k e1 ht => ht) (Nat.lt_succ_self _)
        exact hlp56_331711 (((1000001 : Int) - 0).toNat + 1) F327553 0 (gB_w (gBl (show Int32.toInt 0 = 0 by decide)) (by decide) (by decide)) hT327554 hs327555 (fun _ => gq_0 (fun m hm => x327556 m (by omega))) x327557 (fun k e1 ht => ht) (Nat.lt_succ_self _)
      · have r335898 : g327552.toInt < 2000 := gj_nleL hc327563 (show Int32.toInt 2000 = 2000 by decide)
        have bg327552' : gB g327552 0 1999 := ⟨by omega, by omega⟩
        refine G_aload_n 1 dr_cX17_graph_15 rfl ?_
        have fq335899 : fR (F327553 q277559) 3 = (γ 9 3) := by rw [he327561]; rfl
        refine Gp_get 3 hm327562 he327561 dr_cX17_graph_16 (gk_X17 D I) (Nat.le_of_ble_eq_true rfl) wr_7_77 rfl ?_
        refine G_iload_n 0 dr_cX17_graph_19 rfl ?_
        refine G_iconst 0 dr_cX17_graph_20 (by decide +kernel) ?_
        have hm335900 : (γ 9 3) ∈ P277557 := RS_m hT327554 ht277588 (by decide)
        obtain ⟨f335902, he335901, bf335902⟩ := show rk_14 I (F327553 (γ 9 3)) from RS_o hT327554 ht277588
        refine Gp_zast 3 hm335900 he335901 dr_cX17_graph_21 rfl (gB_in bg327552' (by decide) (by decide)) (fun F335903 e335904 n335905 => ?_)
        obtain ⟨f335906, hf335906⟩ : ∃ z, z = upd f335902 g327552.toNatClampNeg (vp_nar .boolean 0) := ⟨_, rfl⟩
        rw [← hf335906] at e335904
        have he335907 : F335903 q277559 = .inr (22, [.ref (γ 9 0), .ref (γ 9 1), .ref (γ 9 2), .ref (γ 9 3), .ref (γ 9 4), .ref (γ 9 5), .ref (γ 9 6), .ref (γ 9 7), .ref (γ 9 8), .int p277568, .int p277569, .int p277570, .int p277571, .int p277572, .int p277573, .ref (γ 9 15), .ref (γ 9 16), .ref (γ 9 17), .ref (γ 9 18), .ref (γ 9 19), .ref (γ 9 20), .ref (γ 9 21), .ref (γ 9 22), .int p277574, .int p277575, .int p277576, .int p277577, .int p277578, .ref q277566, .ref (γ 9 29), .int p277579, .ref (γ 9 31), .int p277580, .int p277581, .int p277582, .ref q277567]) := (n335905 q277559 (rn_oa he327561 he335901)).trans he327561
        have he335908 : F335903 (γ 9 3) = .inl (I .boolean, 2000, .inl f335906) := e335904
        have hs335909 : rStr γ [] F277558 F335903 := rStr_put hs327555 n335905 ht277588 (by decide)
        have kp335910 : F335903 q277559 = F277558 q277559 := (n335905 q277559 (rn_ty htq277559 ht277588 (by decide))).trans x327557
        have bf335906 : gF f335906 0 1 := gF_upd hf335906 bf335902 (gB_w (gBl (show Int32.toInt 0 = 0 by decide)) (by decide) (by decide))
        refine G_iconst 0 dr_cX17_graph_22 (by decide +kernel) ?_
        refine G_istore (L' := [(4, .int 0), (3, .int g327552), (0, .ref q277559), (1, .ref q277560), (2, .int p277561)]) dr_cX17_graph_23 (Nat.le_of_ble_eq_true rfl) rfl ?_
        have hT335911 : RS D I P277557 F335903 γ el := RS_set hT327554 n335905 ht277588 (by decide) ⟨f335906, he335908, bf335906⟩
        have hlp25_335951 : ∀ (n25_335951 : Nat) (F335947 : Nat → va_E) (g335946 : Int32), gB g335946 0 32 → RS D I P277557 F335947 γ el → rStr γ [] F277558 F335947 → (∀ n : Nat, (n : Int) < g327552.toInt + 1 → ¬ rSd (cB (F335947 (γ 9 3))) n) → (F335947 q277559 = F277558 q277559) → (∀ (k : Nat) (e1 : Nat → va_E), tl_RModel_graph_25 D I γ el P277557 F277558 g327552 q277559 F335947 g335946 k e1 → tl_RModel_graph_25 D I γ el P277557 F277558 g327552 q277559 F335903 (0 : Int32) k e1) → ((33 : Int) - g335946.toInt).toNat < n25_335951 → G (gV D I) l (gRm 5 111 0 0) (gMA (gV D I) (pt_277563_SpillForgeModel_graph D I γ el P277557 F277558 q277559 q277560 p277561) gNA 0 0) ky_277563_SpillForgeModel_graph 25 [(4, .int g335946), (3, .int g327552), (0, .ref q277559), (1, .ref q277560), (2, .int p277561)] [] (va_pl P277557 F335947) 0 0 := by
          intro n25_335951
          induction n25_335951 with
          | zero => intro F335947 g335946 bg335946 hT335948 hs335949 x335950 x335951 kt25_335952 hm25_335951; exact absurd hm25_335951 (Nat.not_lt_zero _)
          | succ n25_335951 ih25_335951 =>
            intro F335947 g335946 bg335946 hT335948 hs335949 x335950 x335951 kt25_335952 hm25_335951
            have hs335953 : rStr γ [] F335903 F335947 := fun b h0 hb hw => (hs335949 b h0 hb hw).trans (hs335909 b h0 hb hw).symm
            have hs335954 : rStr γ [] F277558 F335947 := rStr_tr hs335909 hs335953
            have he335955 : F335947 q277559 = .inr (22, [.ref (γ 9 0), .ref (γ 9 1), .ref (γ 9 2), .ref (γ 9 3), .ref (γ 9 4), .ref (γ 9 5), .ref (γ 9 6), .ref (γ 9 7), .ref (γ 9 8), .int p277568, .int p277569, .int p277570, .int p277571, .int p277572, .int p277573, .ref (γ 9 15), .ref (γ 9 16), .ref (γ 9 17), .ref (γ 9 18), .ref (γ 9 19), .ref (γ 9 20), .ref (γ 9 21), .ref (γ 9 22), .int p277574, .int p277575, .int p277576, .int p277577, .int p277578, .ref q277566, .ref (γ 9 29), .int p277579, .ref (γ 9 31), .int p277580, .int p277581, .int p277582, .ref q277567]) := x335951.trans he277565
            have hm335956 : q277559 ∈ P277557 := RS_m hT335948 htq277559 (by decide)
            refine G_iload 0 dr_cX17_graph_25 rfl ?_
            refine G_bipush 32 dr_cX17_graph_27 (by decide +kernel) ?_
            refine G_icmp_ge 48 dr_cX17_graph_29 (by decide +kernel) (fun hc335957 => ?_) (fun hc335957 => ?_)
            · have r335958 : 32 ≤ g335946.toInt := gj_leL hc335957 (show Int32.toInt 32 = 32 by decide)
              have bg335946' : gB g335946 32 32 := ⟨by omega, by omega⟩
              have hx335959 : tl_RModel_graph_25 D I γ el P277557 F277558 g327552 q277559 F335903 (0 : Int32) 48 F335947 := kt25_335952 48 F335947 (fun R c1 c2 => c1 F335947 g335946 bg335946 hT335948 hs335949 x335950 x335951 r335958)
              obtain ⟨z335960, hz335960⟩ : ∃ z : Int32, z = g327552 + Int32.ofInt 1 := ⟨_, rfl⟩
              have ez335960 : z335960.toInt = g327552.toInt + 1 := gI_inc hz335960 (by decide) bg327552' (by decide) (by decide)
              have bz335960 : gB z335960 1 2000 := ⟨by omega, by omega⟩
              refine G_iinc (L' := [(3, .int z335960), (4, .int g335946), (0, .ref q277559), (1, .ref q277560), (2, .int p277561)]) z335960 1 dr_cX17_graph_48 rfl hz335960.symm (Nat.le_of_ble_eq_true rfl) rfl ?_
              refine G_goto 8 dr_cX17_graph_51 (by decide +kernel) ?_
              refine G_lv (L' := [(3, .int z335960), (0, .ref q277559), (1, .ref q277560), (2, .int p277561)]) [0, 2, 3, 4] rfl ?_
              exact ih8_327557 F335947 z335960 (gB_w bz335960 (by decide) (by decide)) hT335948 hs335949 (by rw [ez335960]; exact x335950) x335951 (fun k e1 ht => kt8_327558 k e1 (fun R c1 c2 => c2 F327553 g327552 f335902 f335906 F335903 F335947 z335960 k e1 bg327552 hT327554 hs327555 x327556 x327557 r335898 fq335899 he335901 hf335906 n335905 he335908 hx335959 ez335960 (ht R c1 c2))) (mz_up ez335960 (Int.le_trans bg327552'.2 (by decide)) hm8_327557)
            · have r335961 : g335946.toInt < 32 := gj_nleL hc335957 (show Int32.toInt 32 = 32 by decide)
              have bg335946' : gB g335946 0 31 := ⟨by omega, by omega⟩
              refine G_aload_n 2 dr_cX17_graph_32 rfl ?_
              have fq335962 : fR (F335947 q277559) 1 = (γ 9 1) := by rw [he335955]; rfl
              refine Gp_get 1 hm335956 he335955 dr_cX17_graph_33 (gk_X17 D I) (Nat.le_of_ble_eq_true rfl) wr_7_75 rfl ?_
              refine G_iload_n 1 dr_cX17_graph_36 rfl ?_
              have hm335963 : (γ 9 1) ∈ P277557 := RS_m hT335948 ht277586 (by decide)
              obtain ⟨f335965, he335964, hg335966⟩ := show rk_13 I γ (F335947 (γ 9 1)) from RS_o hT335948 ht277586
              obtain ⟨q335967, hx335969⟩ : ∃ x, x = γ 11 g327552.toInt.toNat := ⟨_, rfl⟩
              have ht335968 : rKd γ q335967 36 := by rw [hx335969]; exact (hg335966 _ (show g327552.toInt.toNat < 2000 by omega)).2.1
              refine Gp_aald 5 hm335963 he335964 dr_cX17_graph_37 rfl rfl (gB_in bg327552' (by decide) (by decide)) ?_
              rw [show f335965 g327552.toNatClampNeg = some q335967 from (hg335966 _ (show g327552.toInt.toNat < 2000 by omega)).1.trans (by rw [hx335969])]
              change G _ _ _ _ _ _ _ (.ref q335967 :: _) _ _ _
              refine G_iload 0 dr_cX17_graph_38 rfl ?_
              refine G_lconst 0 dr_cX17_graph_40 rfl ?_
              have hm335970 : q335967 ∈ P277557 := RS_m hT335948 ht335968 (by decide)
              obtain ⟨f335972, he335971, wf335972⟩ := show rk_36 I (F335947 q335967) from RS_o hT335948 ht335968
              refine Gp_last 2 hm335970 he335971 dr_cX17_graph_41 rfl (gB_in bg335946' (by decide) (by decide)) (fun F335973 e335974 n335975 => ?_)
              obtain ⟨f335976, hf335976⟩ : ∃ z, z = vp_updL f335972 g335946.toNatClampNeg 0 := ⟨_, rfl⟩
              rw [← hf335976] at e335974
              have he335977 : F335973 q277559 = .inr (22, [.ref (γ 9 0), .ref (γ 9 1), .ref (γ 9 2), .ref (γ 9 3), .ref (γ 9 4), .ref (γ 9 5), .ref (γ 9 6), .ref (γ 9 7), .ref (γ 9 8), .int p277568, .int p277569, .int p277570, .int p277571, .int p277572, .int p277573, .ref (γ 9 15), .ref (γ 9 16), .ref (γ 9 17), .ref (γ 9 18), .ref (γ 9 19), .ref (γ 9 20), .ref (γ 9 21), .ref (γ 9 22), .int p277574, .int p277575, .int p277576, .int p277577, .int p277578, .ref q277566, .ref (γ 9 29), .int p277579, .ref (γ 9 31), .int p277580, .int p277581, .int p277582, .ref q277567]) := (n335975 q277559 (rn_oa he335955 he335971)).trans he335955
              have he335978 : F335973 (γ 9 1) = .inl (I (.array .long), 2000, .inr (.inr (.inr (.inr f335965)))) := (n335975 (γ 9 1) (rn_ref_long he335964 he335971)).trans he335964
              have he335979 : F335973 q335967 = .inl (I .long, 32, .inr (.inl f335976)) := e335974
              have hs335980 : rStr γ [] F277558 F335973 := rStr_put hs335949 n335975 ht335968 (by decide)
              have kp335981 : F335973 q277559 = F277558 q277559 := (n335975 q277559 (rn_ty htq277559 ht335968 (by decide))).trans x335951
              have kp335982 : F335973 (γ 9 3) = F335947 (γ 9 3) := n335975 (γ 9 3) (rn_ty ht277588 ht335968 (by decide))
              have wf335976 : lb_W f335976 (32) (32) (2000) := lb_Wst hf335976 wf335972 (by omega) (lb_Mod0 (by omega) (by omega)) lb_Q0
              obtain ⟨z335983, hz335983⟩ : ∃ z : Int32, z = g335946 + Int32.ofInt 1 := ⟨_, rfl⟩
              have ez335983 : z335983.toInt = g335946.toInt + 1 := gI_inc hz335983 (by decide) bg335946' (by decide) (by decide)
              have bz335983 : gB z335983 1 32 := ⟨by omega, by omega⟩
              refine G_iinc (L' := [(4, .int z335983), (3, .int g327552), (0, .ref q277559), (1, .ref q277560), (2, .int p277561)]) z335983 0 dr_cX17_graph_42 rfl hz335983.symm (Nat.le_of_ble_eq_true rfl) rfl ?_
              refine G_goto 25 dr_cX17_graph_45 (by decide +kernel) ?_
              have hT335984 : RS D I P277557 F335973 γ el := RS_set hT335948 n335975 ht335968 (by decide) ⟨f335976, he335979, wf335976⟩
              exact ih25_335951 F335973 z335983 (gB_w bz335983 (by decide) (by decide)) hT335984 hs335980 (by rw [kp335982]; exact x335950) kp335981 (fun k e1 ht => kt25_335952 k e1 (fun R c1 c2 => c2 F335947 g335946 q335967 f335972 f335976 F335973 z335983 k e1 bg335946 hT335948 hs335949 x335950 x335951 r335961 fq335962 hx335969 he335971 hf335976 n335975 he335979 ez335983 (ht R c1 c2))) (mz_up ez335983 (Int.le_trans bg335946'.2 (by decide)) hm25_335951)
        exact hlp25_335951 (((33 : Int) - 0).toNat + 1) F335903 0 (gB_w (gBl (show Int32.toInt 0 = 0 by decide)) (by decide) (by decide)) hT335911 hs335909 (by rw [cB_of he335908]; exact sd_z hf335906 (by omega) (by have q := x327556; rw [cB_of he335901] at q; exact q)) kp335910 (fun k e1 ht => ht) (Nat.lt_succ_self _)
  exact hlp8_327557 (((2001 : Int) - 0).toNat + 1) F277618 0 (gB_w (gBl (show Int32.toInt 0 = 0 by decide)) (by decide) (by decide)) hT277619 hs277621 (fun n hn => absurd hn (by have qa : Int32.toInt 0 = 0 := (by decide); omega)) kp277622 (fun k e1 ht => ht) (Nat.lt_succ_self _)
/- tl_RModel_next_40: l3, l2; out: l2 -/
def tl_RModel_next_40 (D : va_G) (I : FieldType → ClassId) (γ el : Nat → Nat → Nat) (F : Nat → va_E) (q0 : Nat) (s1 : Int32) (s2 : Int32) (k : Nat) (e1 : Int32) : Prop := ∀ R : (Int32) → (Int32) → Nat → (Int32) → Prop,
  (∀ (l3_1 : Int32) (l2_1 : Int32), gB l3_1 0 2000 → gB l2_1 (-1) 1999 → ((gIp (l2_1.toInt < 0) (∀ m : Nat, (m : Int) < l3_1.toInt → ¬ rSd (cB (F (γ 9 18))) m))) → (gIp (0 ≤ l2_1.toInt) (rSd (cB (F (γ 9 18))) (l2_1.toInt : Int).toNat)) → 2000 ≤ l3_1.toInt → R l3_1 l2_1 171 l2_1) →
  (∀ (l3_1 : Int32) (l2_1 : Int32) (x1 : Nat → Int32) (x2 : Int32) (x3 : Nat → Int32) (x4 : Int32) (x5 : Int64) (x6 : Nat → Int32) (x7 : Int32) (x8 : Int64) (x9 : Int64) (x10 : Int32) (x11 : Int64) (x12 : Int32) (x13 : Int64) (x14 : Int64) (x15 : Int32) (x16 : Int32) (k : Nat) (e1 : Int32), gB l3_1 0 2000 → gB l2_1 (-1) 1999 → ((gIp (l2_1.toInt < 0) (∀ m : Nat, (m : Int) < l3_1.toInt → ¬ rSd (cB (F (γ 9 18))) m))) → (gIp (0 ≤ l2_1.toInt) (rSd (cB (F (γ 9 18))) (l2_1.toInt : Int).toNat)) → l3_1.toInt < 2000 → fR (F q0) 18 = (γ 9 18) → F (γ 9 18) = .inl (I .boolean, 2000, .inl x1) → x2 = x1 l3_1.toNatClampNeg → gB x2 0 1 → x2.toInt ≠ 0 → 0 ≤ l2_1.toInt → l3_1.toInt < 100 → l2_1.toInt < 100 → fR (F q0) 5 = (γ 9 5) → F (γ 9 5) = .inl (I .int, 2000, .inl x3) → x4 = x3 l3_1.toNatClampNeg → x5 = x4.toInt64 → fR (F q0) 16 = (γ 9 16) → F (γ 9 16) = .inl (I .int, 2000, .inl x6) → x7 = x6 l2_1.toNatClampNeg → x8 = x7.toInt64 → x9 = x5 * x8 → x10 = x3 l2_1.toNatClampNeg → x11 = x10.toInt64 → x12 = x6 l3_1.toNatClampNeg → x13 = x12.toInt64 → x14 = x11 * x13 → x15 = lg_cmp x9 x14 → 0 ≤ x15.toInt → x16.toInt = l3_1.toInt + 1 → R x16 l2_1 k e1 → R l3_1 l2_1 k e1) →
  (∀ (l3_1 : Int32) (l2_1 : Int32) (x1 : Nat → Int32) (x2 : Int32) (x3 : Nat → Int32) (x4 : Int32) (x5 : Int64) (x6 : Nat → Int32) (x7 : Int32) (x8 : Int64) (x9 : Int64) (x10 : Int32) (x11 : Int64) (x12 : Int32) (x13 : Int64) (x14 : Int64) (x15 : Int32) (x16 : Int32) (k : Nat) (e1 : Int32), gB l3_1 0 2000 → gB l2_1 (-1) 1999 → ((gIp (l2_1.toInt < 0) (∀ m : Nat, (m : Int) < l3_1.toInt → ¬ rSd (cB (F (γ 9 18))) m))) → (gIp (0 ≤ l2_1.toInt) (rSd (cB (F (γ 9 18))) (l2_1.toInt : Int).toNat)) → l3_1.toInt < 2000 → fR (F q0) 18 = (γ 9 18) → F (γ 9 18) = .inl (I .boolean, 2000, .inl x1) → x2 = x1 l3_1.toNatClampNeg → gB x2 0 1 → x2.toInt ≠ 0 → 0 ≤ l2_1.toInt → l3_1.toInt < 100 → l2_1.toInt < 100 → fR (F q0) 5 = (γ 9 5) → F (γ 9 5) = .inl (I .int, 2000, .inl x3) → x4 = x3 l3_1.toNatClampNeg → x5 = x4.toInt64 → fR (F q0) 16 = (γ 9 16) → F (γ 9 16) = .inl (I .int, 2000, .inl x6) → x7 = x6 l2_1.toNatClampNeg → x8 = x7.toInt64 → x9 = x5 * x8 → x10 = x3 l2_1.toNatClampNeg → x11 = x10.toInt64 → x12 = x6 l3_1.toNatClampNeg → x13 = x12.toInt64 → x14 = x11 * x13 → x15 = lg_cmp x9 x14 → x15.toInt < 0 → x16.toInt = l3_1.toInt + 1 → R x16 l3_1 k e1 → R l3_1 l2_1 k e1) →
  (∀ (l3_1 : Int32) (l2_1 : Int32) (x1 : Nat → Int32) (x2 : Int32) (x3 : Nat → Int32) (x4 : Int32) (x5 : Int64) (x6 : Nat → Int32) (x7 : Int32) (x8 : Int64) (x9 : Int64) (x10 : Int32) (x11 : Int64) (x12 : Int32) (x13 : Int64) (x14 : Int64) (x15 : Int32) (x16 : Int32) (k : Nat) (e1 : Int32), gB l3_1 0 2000 → gB l2_1 (-1) 1999 → ((gIp (l2_1.toInt < 0) (∀ m : Nat, (m : Int) < l3_1.toInt → ¬ rSd (cB (F (γ 9 18))) m))) → (gIp (0 ≤ l2_1.toInt) (rSd (cB (F (γ 9 18))) (l2_1.toInt : Int).toNat)) → l3_1.toInt < 2000 → fR (F q0) 18 = (γ 9 18) → F (γ 9 18) = .inl (I .boolean, 2000, .inl x1) → x2 = x1 l3_1.toNatClampNeg → gB x2 0 1 → x2.toInt ≠ 0 → 0 ≤ l2_1.toInt → l3_1.toInt < 100 → 100 ≤ l2_1.toInt → fR (F q0) 5 = (γ 9 5) → F (γ 9 5) = .inl (I .int, 2000, .inl x3) → x4 = x3 l3_1.toNatClampNeg → x5 = x4.toInt64 → fR (F q0) 16 = (γ 9 16) → F (γ 9 16) = .inl (I .int, 2000, .inl x6) → x7 = x6 l2_1.toNatClampNeg → x8 = x7.toInt64 → x9 = x5 * x8 → x10 = x3 l2_1.toNatClampNeg → x11 = x10.toInt64 → x12 = x6 l3_1.toNatClampNeg → x13 = x12.toInt64 → x14 = x11 * x13 → x15 = lg_cmp x9 x14 → 0 ≤ x15.toInt → x16.toInt = l3_1.toInt + 1 → R x16 l3_1 k e1 → R l3_1 l2_1 k e1) →
  (∀ (l3_1 : Int32) (l2_1 : Int32) (x1 : Nat → Int32) (x2 : Int32) (x3 : Nat → Int32) (x4 : Int32) (x5 : Int64) (x6 : Nat → Int32) (x7 : Int32) (x8 : Int64) (x9 : Int64) (x10 : Int32) (x11 : Int64) (x12 : Int32) (x13 : Int64) (x14 : Int64) (x15 : Int32) (x16 : Int32) (k : Nat) (e1 : Int32), gB l3_1 0 2000 → gB l2_1 (-1) 1999 → ((gIp (l2_1.toInt < 0) (∀ m : Nat, (m : Int) < l3_1.toInt → ¬ rSd (cB (F (γ 9 18))) m))) → (gIp (0 ≤ l2_1.toInt) (rSd (cB (F (γ 9 18))) (l2_1.toInt : Int).toNat)) → l3_1.toInt < 2000 → fR (F q0) 18 = (γ 9 18) → F (γ 9 18) = .inl (I .boolean, 2000, .inl x1) → x2 = x1 l3_1.toNatClampNeg → gB x2 0 1 → x2.toInt ≠ 0 → 0 ≤ l2_1.toInt → l3_1.toInt < 100 → 100 ≤ l2_1.toInt → fR (F q0) 5 = (γ 9 5) → F (γ 9 5) = .inl (I .int, 2000, .inl x3) → x4 = x3 l3_1.toNatClampNeg → x5 = x4.toInt64 → fR (F q0) 16 = (γ 9 16) → F (γ 9 16) = .inl (I .int, 2000, .inl x6) → x7 = x6 l2_1.toNatClampNeg → x8 = x7.toInt64 → x9 = x5 * x8 → x10 = x3 l2_1.toNatClampNeg → x11 = x10.toInt64 → x12 = x6 l3_1.toNatClampNeg → x13 = x12.toInt64 → x14 = x11 * x13 → x15 = lg_cmp x9 x14 → x15.toInt < 0 → x16.toInt = l3_1.toInt + 1 → R x16 l3_1 k e1 → R l3_1 l2_1 k e1) →
  (∀ (l3_1 : Int32) (l2_1 : Int32) (x1 : Nat → Int32) (x2 : Int32) (x3 : Int32) (k : Nat) (e1 : Int32), gB l3_1 0 2000 → gB l2_1 (-1) 1999 → ((gIp (l2_1.toInt < 0) (∀ m : Nat, (m : Int) < l3_1.toInt → ¬ rSd (cB (F (γ 9 18))) m))) → (gIp (0 ≤ l2_1.toInt) (rSd (cB (F (γ 9 18))) (l2_1.toInt : Int).toNat)) → l3_1.toInt < 2000 → fR (F q0) 18 = (γ 9 18) → F (γ 9 18) = .inl (I .boolean, 2000, .inl x1) → x2 = x1 l3_1.toNatClampNeg → gB x2 0 1 → x2.toInt ≠ 0 → 0 ≤ l2_1.toInt → 100 ≤ l3_1.toInt → l2_1.toInt < 100 → x3.toInt = l3_1.toInt + 1 → R x3 l2_1 k e1 → R l3_1 l2_1 k e1) →
  (∀ (l3_1 : Int32) (l2_1 : Int32) (x1 : Nat → Int32) (x2 : Int32) (x3 : Nat → Int32) (x4 : Int32) (x5 : Int64) (x6 : Nat → Int32) (x7 : Int32) (x8 : Int64) (x9 : Int64) (x10 : Int32) (x11 : Int64) (x12 : Int32) (x13 : Int64) (x14 : Int64) (x15 : Int32) (x16 : Int32) (k : Nat) (e1 : Int32), gB l3_1 0 2000 → gB l2_1 (-1) 1999 → ((gIp (l2_1.toInt < 0) (∀ m : Nat, (m : Int) < l3_1.toInt → ¬ rSd (cB (F (γ 9 18))) m))) → (gIp (0 ≤ l2_1.toInt) (rSd (cB (F (γ 9 18))) (l2_1.toInt : Int).toNat)) → l3_1.toInt < 2000 → fR (F q0) 18 = (γ 9 18) → F (γ 9 18) = .inl (I .boolean, 2000, .inl x1) → x2 = x1 l3_1.toNatClampNeg → gB x2 0 1 → x2.toInt ≠ 0 → 0 ≤ l2_1.toInt → 100 ≤ l3_1.toInt → 100 ≤ l2_1.toInt → fR (F q0) 5 = (γ 9 5) → F (γ 9 5) = .inl (I .int, 2000, .inl x3) → x4 = x3 l3_1.toNatClampNeg → x5 = x4.toInt64 → fR (F q0) 16 = (γ 9 16) → F (γ 9 16) = .inl (I .int, 2000, .inl x6) → x7 = x6 l2_1.toNatClampNeg → x8 = x7.toInt64 → x9 = x5 * x8 → x10 = x3 l2_1.toNatClampNeg → x11 = x10.toInt64 → x12 = x6 l3_1.toNatClampNeg → x13 = x12.toInt64 → x14 = x11 * x13 → x15 = lg_cmp x9 x14 → 0 ≤ x15.toInt → x16.toInt = l3_1.toInt + 1 → R x16 l2_1 k e1 → R l3_1 l2_1 k e1) →
  (∀ (l3_1 : Int32) (l2_1 : Int32) (x1 : Nat → Int32) (x2 : Int32) (x3 : Nat → Int32) (x4 : Int32) (x5 : Int64) (x6 : Nat → Int32) (x7 : Int32) (x8 : Int64) (x9 : Int64) (x10 : Int32) (x11 : Int64) (x12 : Int32) (x13 : Int64) (x14 : Int64) (x15 : Int32) (x16 : Int32) (k : Nat) (e1 : Int32), gB l3_1 0 2000 → gB l2_1 (-1) 1999 → ((gIp (l2_1.toInt < 0) (∀ m : Nat, (m : Int) < l3_1.toInt → ¬ rSd (cB (F (γ 9 18))) m))) → (gIp (0 ≤ l2_1.toInt) (rSd (cB (F (γ 9 18))) (l2_1.toInt : Int).toNat)) → l3_1.toInt < 2000 → fR (F q0) 18 = (γ 9 18) → F (γ 9 18) = .inl (I .boolean, 2000, .inl x1) → x2 = x1 l3_1.toNatClampNeg → gB x2 0 1 → x2.toInt ≠ 0 → 0 ≤ l2_1.toInt → 100 ≤ l3_1.toInt → 100 ≤ l2_1.toInt → fR (F q0) 5 = (γ 9 5) → F (γ 9 5) = .inl (I .int, 2000, .inl x3) → x4 = x3 l3_1.toNatClampNeg → x5 = x4.toInt64 → fR (F q0) 16 = (γ 9 16) → F (γ 9 16) = .inl (I .int, 2000, .inl x6) → x7 = x6 l2_1.toNatClampNeg → x8 = x7.toInt64 → x9 = x5 * x8 → x10 = x3 l2_1.toNatClampNeg → x11 = x10.toInt64 → x12 = x6 l3_1.toNatClampNeg → x13 = x12.toInt64 → x14 = x11 * x13 → x15 = lg_cmp x9 x14 → x15.toInt < 0 → x16.toInt = l3_1.toInt + 1 → R x16 l3_1 k e1 → R l3_1 l2_1 k e1) →
  (∀ (l3_1 : Int32) (l2_1 : Int32) (x1 : Nat → Int32) (x2 : Int32) (x3 : Int32) (k : Nat) (e1 : Int32), gB l3_1 0 2000 → gB l2_1 (-1) 1999 → ((gIp (l2_1.toInt < 0) (∀ m : Nat, (m : Int) < l3_1.toInt → ¬ rSd (cB (F (γ 9 18))) m))) → (gIp (0 ≤ l2_1.toInt) (rSd (cB (F (γ 9 18))) (l2_1.toInt : Int).toNat)) → l3_1.toInt < 2000 → fR (F q0) 18 = (γ 9 18) → F (γ 9 18) = .inl (I .boolean, 2000, .inl x1) → x2 = x1 l3_1.toNatClampNeg → gB x2 0 1 → x2.toInt ≠ 0 → l2_1.toInt < 0 → x3.toInt = l3_1.toInt + 1 → R x3 l3_1 k e1 → R l3_1 l2_1 k e1) →
  (∀ (l3_1 : Int32) (l2_1 : Int32) (x1 : Nat → Int32) (x2 : Int32) (x3 : Int32) (k : Nat) (e1 : Int32), gB l3_1 0 2000 → gB l2_1 (-1) 1999 → ((gIp (l2_1.toInt < 0) (∀ m : Nat, (m : Int) < l3_1.toInt → ¬ rSd (cB (F (γ 9 18))) m))) → (gIp (0 ≤ l2_1.toInt) (rSd (cB (F (γ 9 18))) (l2_1.toInt : Int).toNat)) → l3_1.toInt < 2000 → fR (F q0) 18 = (γ 9 18) → F (γ 9 18) = .inl (I .boolean, 2000, .inl x1) → x2 = x1 l3_1.toNatClampNeg → gB x2 0 1 → x2.toInt = 0 → x3.toInt = l3_1.toInt + 1 → R x3 l2_1 k e1 → R l3_1 l2_1 k e1) →
  R s1 s2 k e1
/- tl_RModel_next_2: l2; out: l2 -/
def tl_RModel_next_2 (D : va_G) (I : FieldType → ClassId) (γ el : Nat → Nat → Nat) (F : Nat → va_E) (q0 : Nat) (a1 : Int32) (s1 : Int32) (k : Nat) (e1 : Int32) : Prop := ∀ R : (Int32) → Nat → (Int32) → Prop,
  (∀ (l2_1 : Int32), gB l2_1 0 2000 → 2000 ≤ l2_1.toInt → R l2_1 36 (0 : Int32)) →
  (∀ (l2_1 : Int32) (x1 : Nat → Int32) (x2 : Int32) (x3 : Int32) (k : Nat) (e1 : Int32), gB l2_1 0 2000 → l2_1.toInt < 2000 → fR (F q0) 18 = (γ 9 18) → F (γ 9 18) = .inl (I .boolean, 2000, .inl x1) → x2 = x1 l2_1.toNatClampNeg → gB x2 0 1 → x2.toInt = 0 → x3.toInt = l2_1.toInt + 1 → R x3 k e1 → R l2_1 k e1) →
  (∀ (l2_1 : Int32) (x1 : Nat → Int32) (x2 : Int32) (x3 : Nat → Int32) (x4 : Int32) (x5 : Int32) (k : Nat) (e1 : Int32), gB l2_1 0 2000 → l2_1.toInt < 2000 → fR (F q0) 18 = (γ 9 18) → F (γ 9 18) = .inl (I .boolean, 2000, .inl x1) → x2 = x1 l2_1.toNatClampNeg → gB x2 0 1 → x2.toInt ≠ 0 → fR (F q0) 16 = (γ 9 16) → F (γ 9 16) = .inl (I .int, 2000, .inl x3) → x4 = x3 l2_1.toNatClampNeg → a1.toInt ≤ x4.toInt → x5.toInt = l2_1.toInt + 1 → R x5 k e1 → R l2_1 k e1) →
  (∀ (l2_1 : Int32) (x1 : Nat → Int32) (x2 : Int32) (x3 : Nat → Int32) (x4 : Int32), gB l2_1 0 2000 → l2_1.toInt < 2000 → fR (F q0) 18 = (γ 9 18) → F (γ 9 18) = .inl (I .boolean, 2000, .inl x1) → x2 = x1 l2_1.toNatClampNeg → gB x2 0 1 → x2.toInt ≠ 0 → fR (F q0) 16 = (γ 9 16) → F (γ 9 16) = .inl (I .int, 2000, .inl x3) → x4 = x3 l2_1.toNatClampNeg → x4.toInt < a1.toInt → R l2_1 28 l2_1) →
  R s1 k e1
/- tr_RModel_next: result -/
def tr_RModel_next (D : va_G) (I : FieldType → ClassId) (γ el : Nat → Nat → Nat) (F : Nat → va_E) (q0 : Nat) (a1 : Int32) (o1 : Int32) : Prop := ∀ R : (Int32) → Prop,
  (∀ (x1 : Int32), tl_RModel_next_2 D I γ el F q0 a1 (0 : Int32) 36 (0 : Int32) → tl_RModel_next_40 D I γ el F q0 (0 : Int32) (-1 : Int32) 171 x1 → R x1) →
  (∀ (x1 : Int32), tl_RModel_next_2 D I γ el F q0 a1 (0 : Int32) 28 x1 → R x1) →
  R o1
end
