abbrev ky_563559_SpillForgeModel_no : gKey := (cX17_no, 2, "SpillForgeModel", (some FieldType.int), [], "no", fun _ _ => True)
def pt_563559_SpillForgeModel_no (D : va_G) (I : FieldType → ClassId) (γ el : Nat → Nat → Nat) (P563555 : List Nat) (F563556 : Nat → va_E) (q563557 : Nat) (p563558 : Int32) : Option Value → va_W → Nat → Nat → Prop := fun r w dc ds => ∃ (F563621 : Nat → va_E), r = some (.int 0) ∧ w = va_pl P563555 F563621 ∧ RS D I P563555 F563621 γ el ∧ rStr γ [] F563556 F563621 ∧ dc ≤ 0 ∧ ds ≤ 0 ∧ (fI (F563621 q563557) 9).toInt = (fI (F563556 q563557) 9).toInt ∧ (fI (F563621 q563557) 10).toInt = (fI (F563556 q563557) 10).toInt ∧ (fI (F563621 q563557) 32).toInt = (fI (F563556 q563557) 32).toInt ∧ (fI (F563621 q563557) 30).toInt = p563558.toInt
set_option maxRecDepth 100000 in
set_option maxHeartbeats 4000000 in
theorem ct_563559_SpillForgeModel_no (l : Launch) (hl0 : l.stackTraces = false) (D : va_G) (I : FieldType → ClassId) (γ el : Nat → Nat → Nat) (P563555 : List Nat) (F563556 : Nat → va_E) (q563557 : Nat) (p563558 : Int32) (hT : RS D I P563555 F563556 γ el) (htq563557 : rKd γ q563557 10) : CtA (gV D I) l yX17_no cX17_no 2 (some FieldType.int) 0 0 0 0 [.ref q563557, .int p563558] (va_pl P563555 F563556) (pt_563559_SpillForgeModel_no D I γ el P563555 F563556 q563557 p563558) gNA := by
  refine CtA_of hl0 (by decide) (Nat.le_of_ble_eq_true rfl) ?_
  have bp563558 := gB_any p563558
  have hm563560 : q563557 ∈ P563555 := RS_m hT htq563557 (by decide)
  refine rk10_e (show rk_10 γ (F563556 q563557) from RS_o hT htq563557) (fun q563562 q563563 p563564 p563565 p563566 p563567 p563568 p563569 p563570 p563571 p563572 p563573 p563574 p563575 p563576 p563577 p563578 he563561 hB563605 ht563579 ht563580 ht563581 ht563582 ht563583 ht563584 ht563585 ht563586 ht563587 ht563588 ht563589 ht563590 ht563591 ht563592 ht563593 ht563594 ht563595 ht563596 ht563597 ht563598 ht563599 ht563600 ht563601 ht563602 hB563606 => ?_)
  have ac563607 : (fI (F563556 q563557) 9).toInt = p563564.toInt := by rw [he563561]; rfl
  have bp563564 : gB p563564 0 1 := (hB563605.1)
  have ac563608 : (fI (F563556 q563557) 10).toInt = p563565.toInt := by rw [he563561]; rfl
  have bp563565 : gB p563565 0 1 := (hB563605.2.1)
  have ac563609 : (fI (F563556 q563557) 32).toInt = p563576.toInt := by rw [he563561]; rfl
  have bp563576 : gB p563576 0 8192 := (hB563605.2.2.2.2.2.2.2.1)
  have ac563610 : (fI (F563556 q563557) 30).toInt = p563575.toInt := by rw [he563561]; rfl
  have bp563575 : gB p563575 (-2147483648) 2147483647 := (gB_any p563575)
  refine G_aload_n 0 dr_cX17_no_0 rfl ?_
  refine G_iload_n 1 dr_cX17_no_1 rfl ?_
  refine Gp_put 30 hm563560 he563561 dr_cX17_no_2 (gk_X17 D I) (Nat.le_of_ble_eq_true rfl) wr_7_104 rfl rfl rfl (Nat.le_of_ble_eq_true rfl) (fun F563611 e563612 n563613 => ?_)
  have he563614 : F563611 q563557 = .inr (22, [.ref (γ 9 0), .ref (γ 9 1), .ref (γ 9 2), .ref (γ 9 3), .ref (γ 9 4), .ref (γ 9 5), .ref (γ 9 6), .ref (γ 9 7), .ref (γ 9 8), .int p563564, .int p563565, .int p563566, .int p563567, .int p563568, .int p563569, .ref (γ 9 15), .ref (γ 9 16), .ref (γ 9 17), .ref (γ 9 18), .ref (γ 9 19), .ref (γ 9 20), .ref (γ 9 21), .ref (γ 9 22), .int p563570, .int p563571, .int p563572, .int p563573, .int p563574, .ref q563562, .ref (γ 9 29), .int p563558, .ref (γ 9 31), .int p563576, .int p563577, .int p563578, .ref q563563]) := e563612
  have hs563615 : rStr γ [] F563556 F563611 := rStr_put (rStr_rf (γ := γ) (W := []) (F := F563556)) n563613 htq563557 (by decide)
  refine G_iconst 0 dr_cX17_no_5 (by decide +kernel) ?_
  have hT563616 : RS D I P563555 F563611 γ el := RS_set hT n563613 htq563557 (by decide) ⟨q563562, q563563, p563564, p563565, p563566, p563567, p563568, p563569, p563570, p563571, p563572, p563573, p563574, p563558, p563576, p563577, p563578, he563614, ⟨bp563564, bp563565, (hB563605.2.2.1), (hB563605.2.2.2.1), (hB563605.2.2.2.2.1), (hB563605.2.2.2.2.2.1), (hB563605.2.2.2.2.2.2.1), bp563576, (hB563605.2.2.2.2.2.2.2.2)⟩, ht563579, ht563580, ht563581, ht563582, ht563583, ht563584, ht563585, ht563586, ht563587, ht563588, ht563589, ht563590, ht563591, ht563592, ht563593, ht563594, ht563595, ht563596, ht563597, ht563598, ht563599, ht563600, ht563601, ht563602, hB563606⟩
  have ac563617 : (fI (F563611 q563557) 9).toInt = p563564.toInt := by rw [he563614]; rfl
  have ac563618 : (fI (F563611 q563557) 10).toInt = p563565.toInt := by rw [he563614]; rfl
  have ac563619 : (fI (F563611 q563557) 32).toInt = p563576.toInt := by rw [he563614]; rfl
  have ac563620 : (fI (F563611 q563557) 30).toInt = p563558.toInt := by rw [he563614]; rfl
  exact G_iretA dr_cX17_no_6 rfl (Nat.le_of_ble_eq_true rfl) (Nat.le_of_ble_eq_true rfl) ⟨F563611, rfl, rfl, hT563616, hs563615, (Nat.le_of_ble_eq_true rfl), (Nat.le_of_ble_eq_true rfl), (by have qa0 : Int32.toInt 0 = 0 := (by decide); omega), (by have qa0 : Int32.toInt 0 = 0 := (by decide); omega), (by have qa0 : Int32.toInt 0 = 0 := (by decide); omega), (by have qa0 : Int32.toInt 0 = 0 := (by decide); omega)⟩
abbrev ky_563466_SpillForgeModel_told : gKey := (cX17_told, 2, "SpillForgeModel", (some FieldType.int), [], "told", fun _ _ => True)
def pt_563466_SpillForgeModel_told (D : va_G) (I : FieldType → ClassId) (γ el : Nat → Nat → Nat) (P563462 : List Nat) (F563463 : Nat → va_E) (q563464 : Nat) (p563465 : Int32) : Option Value → va_W → Nat → Nat → Prop := fun r w dc ds => ∃ (F563692 : Nat → va_E) (o563691 : Int32), r = some (.int o563691) ∧ w = va_pl P563462 F563692 ∧ RS D I P563462 F563692 γ el ∧ rStr γ [] F563463 F563692 ∧ dc ≤ 0 ∧ ds ≤ 0 ∧ (fI (F563692 q563464) 9).toInt = (fI (F563463 q563464) 9).toInt ∧ (fI (F563692 q563464) 10).toInt = (fI (F563463 q563464) 10).toInt ∧ (fI (F563692 q563464) 32).toInt = (fI (F563463 q563464) 32).toInt
set_option maxRecDepth 100000 in
set_option maxHeartbeats 4000000 in
theorem ct_563466_SpillForgeModel_told (l : Launch) (hl0 : l.stackTraces = false) (D : va_G) (I : FieldType → ClassId) (γ el : Nat → Nat → Nat) (P563462 : List Nat) (F563463 : Nat → va_E) (q563464 : Nat) (p563465 : Int32) (hT : RS D I P563462 F563463 γ el) (htq563464 : rKd γ q563464 10) : CtA (gV D I) l yX17_told cX17_told 2 (some FieldType.int) 1 21 0 0 [.ref q563464, .int p563465] (va_pl P563462 F563463) (pt_563466_SpillForgeModel_told D I γ el P563462 F563463 q563464 p563465) gNA := by
  refine CtA_of hl0 (by decide) (Nat.le_of_ble_eq_true rfl) ?_
  have bp563465 := gB_any p563465
  have hm563467 : q563464 ∈ P563462 := RS_m hT htq563464 (by decide)
  refine rk10_e (show rk_10 γ (F563463 q563464) from RS_o hT htq563464) (fun q563469 q563470 p563471 p563472 p563473 p563474 p563475 p563476 p563477 p563478 p563479 p563480 p563481 p563482 p563483 p563484 p563485 he563468 hB563512 ht563486 ht563487 ht563488 ht563489 ht563490 ht563491 ht563492 ht563493 ht563494 ht563495 ht563496 ht563497 ht563498 ht563499 ht563500 ht563501 ht563502 ht563503 ht563504 ht563505 ht563506 ht563507 ht563508 ht563509 hB563513 => ?_)
  have ac563514 : (fI (F563463 q563464) 9).toInt = p563471.toInt := by rw [he563468]; rfl
  have bp563471 : gB p563471 0 1 := (hB563512.1)
  have ac563515 : (fI (F563463 q563464) 10).toInt = p563472.toInt := by rw [he563468]; rfl
  have bp563472 : gB p563472 0 1 := (hB563512.2.1)
  have ac563516 : (fI (F563463 q563464) 32).toInt = p563483.toInt := by rw [he563468]; rfl
  have bp563483 : gB p563483 0 8192 := (hB563512.2.2.2.2.2.2.2.1)
  refine G_aload_n 0 dr_cX17_told_0 rfl ?_
  refine G_iconst 0 dr_cX17_told_1 (by decide +kernel) ?_
  refine Gp_put 30 hm563467 he563468 dr_cX17_told_2 (gk_X17 D I) (Nat.le_of_ble_eq_true rfl) wr_7_104 rfl rfl rfl (Nat.le_of_ble_eq_true rfl) (fun F563517 e563518 n563519 => ?_)
  have he563520 : F563517 q563464 = .inr (22, [.ref (γ 9 0), .ref (γ 9 1), .ref (γ 9 2), .ref (γ 9 3), .ref (γ 9 4), .ref (γ 9 5), .ref (γ 9 6), .ref (γ 9 7), .ref (γ 9 8), .int p563471, .int p563472, .int p563473, .int p563474, .int p563475, .int p563476, .ref (γ 9 15), .ref (γ 9 16), .ref (γ 9 17), .ref (γ 9 18), .ref (γ 9 19), .ref (γ 9 20), .ref (γ 9 21), .ref (γ 9 22), .int p563477, .int p563478, .int p563479, .int p563480, .int p563481, .ref q563469, .ref (γ 9 29), .int 0, .ref (γ 9 31), .int p563483, .int p563484, .int p563485, .ref q563470]) := e563518
  have hs563521 : rStr γ [] F563463 F563517 := rStr_put (rStr_rf (γ := γ) (W := []) (F := F563463)) n563519 htq563464 (by decide)
  refine G_iload_n 1 dr_cX17_told_5 rfl ?_
  by_cases hs563522 : p563465 = 0
  · have ehs563522 : p563465.toInt = 0 := gj_eq hs563522 (show Int32.toInt 0 = 0 by decide)
    have bp563465' : gB p563465 0 0 := ⟨by omega, by omega⟩
    refine G_eqi (y := 0) hs563522 ?_
    refine G_tableIn 40 dr_cX17_told_6 (by decide) (by decide) (by first | rfl | decide) (by decide) ?_
    refine G_aload_n 0 dr_cX17_told_40 rfl ?_
    refine Gp_get 23 hm563467 he563520 dr_cX17_told_41 (gk_X17 D I) (Nat.le_of_ble_eq_true rfl) wr_7_97 rfl ?_
    have bp563477 : gB p563477 (-2147483648) 2147483647 := (gB_any p563477)
    refine G_if_ne 54 dr_cX17_told_44 (by decide +kernel) (fun hc563523 => ?_) (fun hc563523 => ?_)
    · have r563524 : p563477.toInt ≠ 0 := gj_neq hc563523 (show Int32.toInt 0 = 0 by decide)
      refine G_iconst 0 dr_cX17_told_54 (by decide +kernel) ?_
      have hT563525 : RS D I P563462 F563517 γ el := RS_set hT n563519 htq563464 (by decide) ⟨q563469, q563470, p563471, p563472, p563473, p563474, p563475, p563476, p563477, p563478, p563479, p563480, p563481, 0, p563483, p563484, p563485, he563520, ⟨bp563471, bp563472, (hB563512.2.2.1), (hB563512.2.2.2.1), (hB563512.2.2.2.2.1), (hB563512.2.2.2.2.2.1), (hB563512.2.2.2.2.2.2.1), bp563483, (hB563512.2.2.2.2.2.2.2.2)⟩, ht563486, ht563487, ht563488, ht563489, ht563490, ht563491, ht563492, ht563493, ht563494, ht563495, ht563496, ht563497, ht563498, ht563499, ht563500, ht563501, ht563502, ht563503, ht563504, ht563505, ht563506, ht563507, ht563508, ht563509, hB563513⟩
      have ac563526 : (fI (F563517 q563464) 9).toInt = p563471.toInt := by rw [he563520]; rfl
      have ac563527 : (fI (F563517 q563464) 10).toInt = p563472.toInt := by rw [he563520]; rfl
      have ac563528 : (fI (F563517 q563464) 32).toInt = p563483.toInt := by rw [he563520]; rfl
      exact G_iretA dr_cX17_told_55 rfl (Nat.le_of_ble_eq_true rfl) (Nat.le_of_ble_eq_true rfl) ⟨F563517, 0, rfl, rfl, hT563525, hs563521, (Nat.le_of_ble_eq_true rfl), (Nat.le_of_ble_eq_true rfl), (by have qa0 : Int32.toInt 0 = 0 := (by decide); omega), (by have qa0 : Int32.toInt 0 = 0 := (by decide); omega), (by have qa0 : Int32.toInt 0 = 0 := (by decide); omega)⟩
    · have r563529 : p563477.toInt = 0 := gj_eq hc563523 (show Int32.toInt 0 = 0 by decide)
      have bp563477' : gB p563477 0 0 := ⟨by omega, by omega⟩
      refine G_aload_n 0 dr_cX17_told_47 rfl ?_
      refine Gp_get 24 hm563467 he563520 dr_cX17_told_48 (gk_X17 D I) (Nat.le_of_ble_eq_true rfl) wr_7_98 rfl ?_
      have bp563478 : gB p563478 (-2147483648) 2147483647 := (gB_any p563478)
      refine G_goto 55 dr_cX17_told_51 (by decide +kernel) ?_
      have hT563530 : RS D I P563462 F563517 γ el := RS_set hT n563519 htq563464 (by decide) ⟨q563469, q563470, p563471, p563472, p563473, p563474, p563475, p563476, p563477, p563478, p563479, p563480, p563481, 0, p563483, p563484, p563485, he563520, ⟨bp563471, bp563472, (hB563512.2.2.1), (hB563512.2.2.2.1), (hB563512.2.2.2.2.1), (hB563512.2.2.2.2.2.1), (hB563512.2.2.2.2.2.2.1), bp563483, (hB563512.2.2.2.2.2.2.2.2)⟩, ht563486, ht563487, ht563488, ht563489, ht563490, ht563491, ht563492, ht563493, ht563494, ht563495, ht563496, ht563497, ht563498, ht563499, ht563500, ht563501, ht563502, ht563503, ht563504, ht563505, ht563506, ht563507, ht563508, ht563509, hB563513⟩
      have ac563531 : (fI (F563517 q563464) 9).toInt = p563471.toInt := by rw [he563520]; rfl
      have ac563532 : (fI (F563517 q563464) 10).toInt = p563472.toInt := by rw [he563520]; rfl
      have ac563533 : (fI (F563517 q563464) 32).toInt = p563483.toInt := by rw [he563520]; rfl
      exact G_iretA dr_cX17_told_55 rfl (Nat.le_of_ble_eq_true rfl) (Nat.le_of_ble_eq_true rfl) ⟨F563517, p563478, rfl, rfl, hT563530, hs563521, (Nat.le_of_ble_eq_true rfl), (Nat.le_of_ble_eq_true rfl), (by omega), (by omega), (by omega)⟩
  by_cases hs563534 : p563465 = 1
  · have ehs563534 : p563465.toInt = 1 := gj_eq hs563534 (show Int32.toInt 1 = 1 by decide)
    have bp563465' : gB p563465 1 1 := ⟨by omega, by omega⟩
    refine G_eqi (y := 1) hs563534 ?_
    refine G_tableIn 56 dr_cX17_told_6 (by decide) (by decide) (by first | rfl | decide) (by decide) ?_
    refine G_aload_n 0 dr_cX17_told_56 rfl ?_
    refine Gp_get 25 hm563467 he563520 dr_cX17_told_57 (gk_X17 D I) (Nat.le_of_ble_eq_true rfl) wr_7_99 rfl ?_
    have bp563479 : gB p563479 0 512 := (hB563512.2.2.2.2.1)
    have hT563535 : RS D I P563462 F563517 γ el := RS_set hT n563519 htq563464 (by decide) ⟨q563469, q563470, p563471, p563472, p563473, p563474, p563475, p563476, p563477, p563478, p563479, p563480, p563481, 0, p563483, p563484, p563485, he563520, ⟨bp563471, bp563472, (hB563512.2.2.1), (hB563512.2.2.2.1), bp563479, (hB563512.2.2.2.2.2.1), (hB563512.2.2.2.2.2.2.1), bp563483, (hB563512.2.2.2.2.2.2.2.2)⟩, ht563486, ht563487, ht563488, ht563489, ht563490, ht563491, ht563492, ht563493, ht563494, ht563495, ht563496, ht563497, ht563498, ht563499, ht563500, ht563501, ht563502, ht563503, ht563504, ht563505, ht563506, ht563507, ht563508, ht563509, hB563513⟩
    have ac563536 : (fI (F563517 q563464) 9).toInt = p563471.toInt := by rw [he563520]; rfl
    have ac563537 : (fI (F563517 q563464) 10).toInt = p563472.toInt := by rw [he563520]; rfl
    have ac563538 : (fI (F563517 q563464) 32).toInt = p563483.toInt := by rw [he563520]; rfl
    exact G_iretA dr_cX17_told_60 rfl (Nat.le_of_ble_eq_true rfl) (Nat.le_of_ble_eq_true rfl) ⟨F563517, p563479, rfl, rfl, hT563535, hs563521, (Nat.le_of_ble_eq_true rfl), (Nat.le_of_ble_eq_true rfl), (by omega), (by omega), (by omega)⟩
  by_cases hs563539 : p563465 = 2
  · have ehs563539 : p563465.toInt = 2 := gj_eq hs563539 (show Int32.toInt 2 = 2 by decide)
    have bp563465' : gB p563465 2 2 := ⟨by omega, by omega⟩
    refine G_eqi (y := 2) hs563539 ?_
    refine G_tableIn 61 dr_cX17_told_6 (by decide) (by decide) (by first | rfl | decide) (by decide) ?_
    refine G_aload_n 0 dr_cX17_told_61 rfl ?_
    refine Gp_get 26 hm563467 he563520 dr_cX17_told_62 (gk_X17 D I) (Nat.le_of_ble_eq_true rfl) wr_7_100 rfl ?_
    have bp563480 : gB p563480 0 100000 := (hB563512.2.2.2.2.2.1)
    have hT563540 : RS D I P563462 F563517 γ el := RS_set hT n563519 htq563464 (by decide) ⟨q563469, q563470, p563471, p563472, p563473, p563474, p563475, p563476, p563477, p563478, p563479, p563480, p563481, 0, p563483, p563484, p563485, he563520, ⟨bp563471, bp563472, (hB563512.2.2.1), (hB563512.2.2.2.1), (hB563512.2.2.2.2.1), bp563480, (hB563512.2.2.2.2.2.2.1), bp563483, (hB563512.2.2.2.2.2.2.2.2)⟩, ht563486, ht563487, ht563488, ht563489, ht563490, ht563491, ht563492, ht563493, ht563494, ht563495, ht563496, ht563497, ht563498, ht563499, ht563500, ht563501, ht563502, ht563503, ht563504, ht563505, ht563506, ht563507, ht563508, ht563509, hB563513⟩
    have ac563541 : (fI (F563517 q563464) 9).toInt = p563471.toInt := by rw [he563520]; rfl
    have ac563542 : (fI (F563517 q563464) 10).toInt = p563472.toInt := by rw [he563520]; rfl
    have ac563543 : (fI (F563517 q563464) 32).toInt = p563483.toInt := by rw [he563520]; rfl
    exact G_iretA dr_cX17_told_65 rfl (Nat.le_of_ble_eq_true rfl) (Nat.le_of_ble_eq_true rfl) ⟨F563517, p563480, rfl, rfl, hT563540, hs563521, (Nat.le_of_ble_eq_true rfl), (Nat.le_of_ble_eq_true rfl), (by omega), (by omega), (by omega)⟩
  by_cases hs563544 : p563465 = 3
  · have ehs563544 : p563465.toInt = 3 := gj_eq hs563544 (show Int32.toInt 3 = 3 by decide)
    have bp563465' : gB p563465 3 3 := ⟨by omega, by omega⟩
    refine G_eqi (y := 3) hs563544 ?_
    refine G_tableIn 66 dr_cX17_told_6 (by decide) (by decide) (by first | rfl | decide) (by decide) ?_
    refine G_aload_n 0 dr_cX17_told_66 rfl ?_
    refine Gp_get 27 hm563467 he563520 dr_cX17_told_67 (gk_X17 D I) (Nat.le_of_ble_eq_true rfl) wr_7_101 rfl ?_
    have bp563481 : gB p563481 0 2048 := (hB563512.2.2.2.2.2.2.1)
    have hT563545 : RS D I P563462 F563517 γ el := RS_set hT n563519 htq563464 (by decide) ⟨q563469, q563470, p563471, p563472, p563473, p563474, p563475, p563476, p563477, p563478, p563479, p563480, p563481, 0, p563483, p563484, p563485, he563520, ⟨bp563471, bp563472, (hB563512.2.2.1), (hB563512.2.2.2.1), (hB563512.2.2.2.2.1), (hB563512.2.2.2.2.2.1), bp563481, bp563483, (hB563512.2.2.2.2.2.2.2.2)⟩, ht563486, ht563487, ht563488, ht563489, ht563490, ht563491, ht563492, ht563493, ht563494, ht563495, ht563496, ht563497, ht563498, ht563499, ht563500, ht563501, ht563502, ht563503, ht563504, ht563505, ht563506, ht563507, ht563508, ht563509, hB563513⟩
    have ac563546 : (fI (F563517 q563464) 9).toInt = p563471.toInt := by rw [he563520]; rfl
    have ac563547 : (fI (F563517 q563464) 10).toInt = p563472.toInt := by rw [he563520]; rfl
    have ac563548 : (fI (F563517 q563464) 32).toInt = p563483.toInt := by rw [he563520]; rfl
    exact G_iretA dr_cX17_told_70 rfl (Nat.le_of_ble_eq_true rfl) (Nat.le_of_ble_eq_true rfl) ⟨F563517, p563481, rfl, rfl, hT563545, hs563521, (Nat.le_of_ble_eq_true rfl), (Nat.le_of_ble_eq_true rfl), (by omega), (by omega), (by omega)⟩
  by_cases hs563549 : p563465 = 4
  · have ehs563549 : p563465.toInt = 4 := gj_eq hs563549 (show Int32.toInt 4 = 4 by decide)
    have bp563465' : gB p563465 4 4 := ⟨by omega, by omega⟩
    refine G_eqi (y := 4) hs563549 ?_
    refine G_tableIn 71 dr_cX17_told_6 (by decide) (by decide) (by first | rfl | decide) (by decide) ?_
    refine G_aload_n 0 dr_cX17_told_71 rfl ?_
    refine Gp_get 23 hm563467 he563520 dr_cX17_told_72 (gk_X17 D I) (Nat.le_of_ble_eq_true rfl) wr_7_97 rfl ?_
    have bp563477 : gB p563477 (-2147483648) 2147483647 := (gB_any p563477)
    have hT563550 : RS D I P563462 F563517 γ el := RS_set hT n563519 htq563464 (by decide) ⟨q563469, q563470, p563471, p563472, p563473, p563474, p563475, p563476, p563477, p563478, p563479, p563480, p563481, 0, p563483, p563484, p563485, he563520, ⟨bp563471, bp563472, (hB563512.2.2.1), (hB563512.2.2.2.1), (hB563512.2.2.2.2.1), (hB563512.2.2.2.2.2.1), (hB563512.2.2.2.2.2.2.1), bp563483, (hB563512.2.2.2.2.2.2.2.2)⟩, ht563486, ht563487, ht563488, ht563489, ht563490, ht563491, ht563492, ht563493, ht563494, ht563495, ht563496, ht563497, ht563498, ht563499, ht563500, ht563501, ht563502, ht563503, ht563504, ht563505, ht563506, ht563507, ht563508, ht563509, hB563513⟩
    have ac563551 : (fI (F563517 q563464) 9).toInt = p563471.toInt := by rw [he563520]; rfl
    have ac563552 : (fI (F563517 q563464) 10).toInt = p563472.toInt := by rw [he563520]; rfl
    have ac563553 : (fI (F563517 q563464) 32).toInt = p563483.toInt := by rw [he563520]; rfl
    exact G_iretA dr_cX17_told_75 rfl (Nat.le_of_ble_eq_true rfl) (Nat.le_of_ble_eq_true rfl) ⟨F563517, p563477, rfl, rfl, hT563550, hs563521, (Nat.le_of_ble_eq_true rfl), (Nat.le_of_ble_eq_true rfl), (by omega), (by omega), (by omega)⟩
  have ehs563522 := lv_neT hs563522 (show Int32.toInt 0 = 0 by decide)
  have ehs563534 := lv_neT hs563534 (show Int32.toInt 1 = 1 by decide)
  have ehs563539 := lv_neT hs563539 (show Int32.toInt 2 = 2 by decide)
  have ehs563544 := lv_neT hs563544 (show Int32.toInt 3 = 3 by decide)
  have ehs563549 := lv_neT hs563549 (show Int32.toInt 4 = 4 by decide)
  refine G_tableOut 76 dr_cX17_told_6 (by omega) (by decide) ?_
  refine G_aload_n 0 dr_cX17_told_76 rfl ?_
  refine G_iconst 1 dr_cX17_told_77 (by decide +kernel) ?_
  have hT563554 : RS D I P563462 F563517 γ el := RS_set hT n563519 htq563464 (by decide) ⟨q563469, q563470, p563471, p563472, p563473, p563474, p563475, p563476, p563477, p563478, p563479, p563480, p563481, 0, p563483, p563484, p563485, he563520, ⟨bp563471, bp563472, (hB563512.2.2.1), (hB563512.2.2.2.1), (hB563512.2.2.2.2.1), (hB563512.2.2.2.2.2.1), (hB563512.2.2.2.2.2.2.1), bp563483, (hB563512.2.2.2.2.2.2.2.2)⟩, ht563486, ht563487, ht563488, ht563489, ht563490, ht563491, ht563492, ht563493, ht563494, ht563495, ht563496, ht563497, ht563498, ht563499, ht563500, ht563501, ht563502, ht563503, ht563504, ht563505, ht563506, ht563507, ht563508, ht563509, hB563513⟩
  have ac563622 : (fI (F563517 q563464) 9).toInt = p563471.toInt := by rw [he563520]; rfl
  have ac563623 : (fI (F563517 q563464) 10).toInt = p563472.toInt := by rw [he563520]; rfl
  have ac563624 : (fI (F563517 q563464) 32).toInt = p563483.toInt := by rw [he563520]; rfl
  refine Gw_callV (As := [.int 1]) (gV_ok D I) (ct_563559_SpillForgeModel_no l hl0 D I γ el P563462 F563517 q563464 1 hT563554 htq563464) dr_cX17_told_78 ⟨wr_7_191, wr_1_14, wr_7_194, by decide, rfl, (Nat.le_of_ble_eq_true rfl), (Nat.le_of_ble_eq_true rfl)⟩ wr_7_193 wr_p_73 hm563467 he563520 rfl (show 0 + 0 ≤ 0 by first | omega | decide) (show 0 + 0 ≤ 0 by first | omega | decide) (Nat.le_of_ble_eq_true rfl) (fun r563628 w563629 dc563625 ds563626 hp563627 => ?_) (fun _ _ _ _ _ z => z.elim)
  obtain ⟨F563634, rfl, rfl, hT563635, hs563636, hdc, hds, x563630, x563631, x563632, x563633⟩ := hp563627
  have hs563637 : rStr γ [] F563463 F563634 := rStr_tr hs563521 hs563636
  rw [show Int32.toInt 1 = 1 from by decide] at x563633
  change G _ _ _ _ _ _ _ (.int 0 :: _) _ _ _
  refine G_widen (cs' := 0) (sl' := 0) (by omega) (by omega) ?_
  have hm563638 : q563464 ∈ P563462 := RS_m hT563635 htq563464 (by decide)
  refine rk10_e (show rk_10 γ (F563634 q563464) from RS_o hT563635 htq563464) (fun q563640 q563641 p563642 p563643 p563644 p563645 p563646 p563647 p563648 p563649 p563650 p563651 p563652 p563653 p563654 p563655 p563656 he563639 hB563683 ht563657 ht563658 ht563659 ht563660 ht563661 ht563662 ht563663 ht563664 ht563665 ht563666 ht563667 ht563668 ht563669 ht563670 ht563671 ht563672 ht563673 ht563674 ht563675 ht563676 ht563677 ht563678 ht563679 ht563680 hB563684 => ?_)
  have ac563685 : (fI (F563634 q563464) 9).toInt = p563642.toInt := by rw [he563639]; rfl
  have bp563642 : gB p563642 0 1 := (hB563683.1)
  have ac563686 : (fI (F563634 q563464) 10).toInt = p563643.toInt := by rw [he563639]; rfl
  have bp563643 : gB p563643 0 1 := (hB563683.2.1)
  have ac563687 : (fI (F563634 q563464) 32).toInt = p563654.toInt := by rw [he563639]; rfl
  have bp563654 : gB p563654 0 8192 := (hB563683.2.2.2.2.2.2.2.1)
  have ac563688 : (fI (F563634 q563464) 9).toInt = p563642.toInt := by rw [he563639]; rfl
  have ac563689 : (fI (F563634 q563464) 10).toInt = p563643.toInt := by rw [he563639]; rfl
  have ac563690 : (fI (F563634 q563464) 32).toInt = p563654.toInt := by rw [he563639]; rfl
  exact G_iretA dr_cX17_told_81 rfl (Nat.le_of_ble_eq_true rfl) (Nat.le_of_ble_eq_true rfl) ⟨F563634, 0, rfl, rfl, hT563635, hs563637, (Nat.le_of_ble_eq_true rfl), (Nat.le_of_ble_eq_true rfl), (by have qa0 : Int32.toInt 0 = 0 := (by decide); omega), (by have qa0 : Int32.toInt 0 = 0 := (by decide); omega), (by have qa0 : Int32.toInt 0 = 0 := (by decide); omega)⟩
abbrev ky_563697_SpillForgeModel_shown : gKey := (cX17_shown, 2, "SpillForgeModel", (some FieldType.int), [], "shown", fun _ _ => True)
def pt_563697_SpillForgeModel_shown (D : va_G) (I : FieldType → ClassId) (γ el : Nat → Nat → Nat) (P563693 : List Nat) (F563694 : Nat → va_E) (q563695 : Nat) (p563696 : Int32) : Option Value → va_W → Nat → Nat → Prop := fun r w dc ds => ∃ (F563908 : Nat → va_E) (o563907 : Int32), r = some (.int o563907) ∧ w = va_pl P563693 F563908 ∧ RS D I P563693 F563908 γ el ∧ rStr γ [] F563694 F563908 ∧ dc ≤ 0 ∧ ds ≤ 0 ∧ (fI (F563908 q563695) 9).toInt = (fI (F563694 q563695) 9).toInt ∧ (fI (F563908 q563695) 10).toInt = (fI (F563694 q563695) 10).toInt ∧ (fI (F563908 q563695) 32).toInt = (fI (F563694 q563695) 32).toInt
set_option maxRecDepth 100000 in
set_option maxHeartbeats 4000000 in
theorem ct_563697_SpillForgeModel_shown (l : Launch) (hl0 : l.stackTraces = false) (D : va_G) (I : FieldType → ClassId) (γ el : Nat → Nat → Nat) (P563693 : List Nat) (F563694 : Nat → va_E) (q563695 : Nat) (p563696 : Int32) (hT : RS D I P563693 F563694 γ el) (htq563695 : rKd γ q563695 10) : CtA (gV D I) l yX17_shown cX17_shown 2 (some FieldType.int) 1 21 0 0 [.ref q563695, .int p563696] (va_pl P563693 F563694) (pt_563697_SpillForgeModel_shown D I γ el P563693 F563694 q563695 p563696) gNA := by
  refine CtA_of hl0 (by decide) (Nat.le_of_ble_eq_true rfl) ?_
  have bp563696 := gB_any p563696
  have hm563698 : q563695 ∈ P563693 := RS_m hT htq563695 (by decide)
  refine rk10_e (show rk_10 γ (F563694 q563695) from RS_o hT htq563695) (fun q563700 q563701 p563702 p563703 p563704 p563705 p563706 p563707 p563708 p563709 p563710 p563711 p563712 p563713 p563714 p563715 p563716 he563699 hB563743 ht563717 ht563718 ht563719 ht563720 ht563721 ht563722 ht563723 ht563724 ht563725 ht563726 ht563727 ht563728 ht563729 ht563730 ht563731 ht563732 ht563733 ht563734 ht563735 ht563736 ht563737 ht563738 ht563739 ht563740 hB563744 => ?_)
  have ac563745 : (fI (F563694 q563695) 9).toInt = p563702.toInt := by rw [he563699]; rfl
  have bp563702 : gB p563702 0 1 := (hB563743.1)
  have ac563746 : (fI (F563694 q563695) 10).toInt = p563703.toInt := by rw [he563699]; rfl
  have bp563703 : gB p563703 0 1 := (hB563743.2.1)
  have ac563747 : (fI (F563694 q563695) 32).toInt = p563714.toInt := by rw [he563699]; rfl
  have bp563714 : gB p563714 0 8192 := (hB563743.2.2.2.2.2.2.2.1)
  refine G_aload_n 0 dr_cX17_shown_0 rfl ?_
  refine G_iconst 0 dr_cX17_shown_1 (by decide +kernel) ?_
  refine Gp_put 30 hm563698 he563699 dr_cX17_shown_2 (gk_X17 D I) (Nat.le_of_ble_eq_true rfl) wr_7_104 rfl rfl rfl (Nat.le_of_ble_eq_true rfl) (fun F563748 e563749 n563750 => ?_)
  have he563751 : F563748 q563695 = .inr (22, [.ref (γ 9 0), .ref (γ 9 1), .ref (γ 9 2), .ref (γ 9 3), .ref (γ 9 4), .ref (γ 9 5), .ref (γ 9 6), .ref (γ 9 7), .ref (γ 9 8), .int p563702, .int p563703, .int p563704, .int p563705, .int p563706, .int p563707, .ref (γ 9 15), .ref (γ 9 16), .ref (γ 9 17), .ref (γ 9 18), .ref (γ 9 19), .ref (γ 9 20), .ref (γ 9 21), .ref (γ 9 22), .int p563708, .int p563709, .int p563710, .int p563711, .int p563712, .ref q563700, .ref (γ 9 29), .int 0, .ref (γ 9 31), .int p563714, .int p563715, .int p563716, .ref q563701]) := e563749
  have hs563752 : rStr γ [] F563694 F563748 := rStr_put (rStr_rf (γ := γ) (W := []) (F := F563694)) n563750 htq563695 (by decide)
  refine G_iload_n 1 dr_cX17_shown_5 rfl ?_
  refine G_if_lt 26 dr_cX17_shown_6 (by decide +kernel) (fun hc563753 => ?_) (fun hc563753 => ?_)
  · have r563754 : p563696.toInt < 0 := gj_lt hc563753 (show Int32.toInt 0 = 0 by decide)
    have bp563696' : gB p563696 (-2147483648) (-1) := ⟨by omega, by omega⟩
    refine G_aload_n 0 dr_cX17_shown_26 rfl ?_
    refine G_iconst 1 dr_cX17_shown_27 (by decide +kernel) ?_
    have hT563755 : RS D I P563693 F563748 γ el := RS_set hT n563750 htq563695 (by decide) ⟨q563700, q563701, p563702, p563703, p563704, p563705, p563706, p563707, p563708, p563709, p563710, p563711, p563712, 0, p563714, p563715, p563716, he563751, ⟨bp563702, bp563703, (hB563743.2.2.1), (hB563743.2.2.2.1), (hB563743.2.2.2.2.1), (hB563743.2.2.2.2.2.1), (hB563743.2.2.2.2.2.2.1), bp563714, (hB563743.2.2.2.2.2.2.2.2)⟩, ht563717, ht563718, ht563719, ht563720, ht563721, ht563722, ht563723, ht563724, ht563725, ht563726, ht563727, ht563728, ht563729, ht563730, ht563731, ht563732, ht563733, ht563734, ht563735, ht563736, ht563737, ht563738, ht563739, ht563740, hB563744⟩
    have ac563756 : (fI (F563748 q563695) 9).toInt = p563702.toInt := by rw [he563751]; rfl
    have ac563757 : (fI (F563748 q563695) 10).toInt = p563703.toInt := by rw [he563751]; rfl
    have ac563758 : (fI (F563748 q563695) 32).toInt = p563714.toInt := by rw [he563751]; rfl
    refine Gw_callV (As := [.int 1]) (gV_ok D I) (ct_563559_SpillForgeModel_no l hl0 D I γ el P563693 F563748 q563695 1 hT563755 htq563695) dr_cX17_shown_28 ⟨wr_7_191, wr_1_14, wr_7_194, by decide, rfl, (Nat.le_of_ble_eq_true rfl), (Nat.le_of_ble_eq_true rfl)⟩ wr_7_193 wr_p_73 hm563698 he563751 rfl (show 0 + 0 ≤ 0 by first | omega | decide) (show 0 + 0 ≤ 0 by first | omega | decide) (Nat.le_of_ble_eq_true rfl) (fun r563762 w563763 dc563759 ds563760 hp563761 => ?_) (fun _ _ _ _ _ z => z.elim)
    obtain ⟨F563768, rfl, rfl, hT563769, hs563770, hdc, hds, x563764, x563765, x563766, x563767⟩ := hp563761
    have hs563771 : rStr γ [] F563694 F563768 := rStr_tr hs563752 hs563770
    rw [show Int32.toInt 1 = 1 from by decide] at x563767
    change G _ _ _ _ _ _ _ (.int 0 :: _) _ _ _
    refine G_widen (cs' := 0) (sl' := 0) (by omega) (by omega) ?_
    have hm563772 : q563695 ∈ P563693 := RS_m hT563769 htq563695 (by decide)
    refine rk10_e (show rk_10 γ (F563768 q563695) from RS_o hT563769 htq563695) (fun q563774 q563775 p563776 p563777 p563778 p563779 p563780 p563781 p563782 p563783 p563784 p563785 p563786 p563787 p563788 p563789 p563790 he563773 hB563817 ht563791 ht563792 ht563793 ht563794 ht563795 ht563796 ht563797 ht563798 ht563799 ht563800 ht563801 ht563802 ht563803 ht563804 ht563805 ht563806 ht563807 ht563808 ht563809 ht563810 ht563811 ht563812 ht563813 ht563814 hB563818 => ?_)
    have ac563819 : (fI (F563768 q563695) 9).toInt = p563776.toInt := by rw [he563773]; rfl
    have bp563776 : gB p563776 0 1 := (hB563817.1)
    have ac563820 : (fI (F563768 q563695) 10).toInt = p563777.toInt := by rw [he563773]; rfl
    have bp563777 : gB p563777 0 1 := (hB563817.2.1)
    have ac563821 : (fI (F563768 q563695) 32).toInt = p563788.toInt := by rw [he563773]; rfl
    have bp563788 : gB p563788 0 8192 := (hB563817.2.2.2.2.2.2.2.1)
    have ac563822 : (fI (F563768 q563695) 9).toInt = p563776.toInt := by rw [he563773]; rfl
    have ac563823 : (fI (F563768 q563695) 10).toInt = p563777.toInt := by rw [he563773]; rfl
    have ac563824 : (fI (F563768 q563695) 32).toInt = p563788.toInt := by rw [he563773]; rfl
    exact G_iretA dr_cX17_shown_31 rfl (Nat.le_of_ble_eq_true rfl) (Nat.le_of_ble_eq_true rfl) ⟨F563768, 0, rfl, rfl, hT563769, hs563771, (Nat.le_of_ble_eq_true rfl), (Nat.le_of_ble_eq_true rfl), (by have qa0 : Int32.toInt 0 = 0 := (by decide); omega), (by have qa0 : Int32.toInt 0 = 0 := (by decide); omega), (by have qa0 : Int32.toInt 0 = 0 := (by decide); omega)⟩
  · have r563825 : 0 ≤ p563696.toInt := gj_nlt hc563753 (show Int32.toInt 0 = 0 by decide)
    have bp563696' : gB p563696 0 2147483647 := ⟨by omega, by omega⟩
    refine G_iload_n 1 dr_cX17_shown_9 rfl ?_
    refine G_aload_n 0 dr_cX17_shown_10 rfl ?_
    refine Gp_get 25 hm563698 he563751 dr_cX17_shown_11 (gk_X17 D I) (Nat.le_of_ble_eq_true rfl) wr_7_99 rfl ?_
    have bp563710 : gB p563710 0 512 := (hB563743.2.2.2.2.1)
    refine G_icmp_ge 26 dr_cX17_shown_14 (by decide +kernel) (fun hc563826 => ?_) (fun hc563826 => ?_)
    · have r563827 : p563710.toInt ≤ p563696.toInt := gC_le hc563826
      refine G_aload_n 0 dr_cX17_shown_26 rfl ?_
      refine G_iconst 1 dr_cX17_shown_27 (by decide +kernel) ?_
      have hT563828 : RS D I P563693 F563748 γ el := RS_set hT n563750 htq563695 (by decide) ⟨q563700, q563701, p563702, p563703, p563704, p563705, p563706, p563707, p563708, p563709, p563710, p563711, p563712, 0, p563714, p563715, p563716, he563751, ⟨bp563702, bp563703, (hB563743.2.2.1), (hB563743.2.2.2.1), bp563710, (hB563743.2.2.2.2.2.1), (hB563743.2.2.2.2.2.2.1), bp563714, (hB563743.2.2.2.2.2.2.2.2)⟩, ht563717, ht563718, ht563719, ht563720, ht563721, ht563722, ht563723, ht563724, ht563725, ht563726, ht563727, ht563728, ht563729, ht563730, ht563731, ht563732, ht563733, ht563734, ht563735, ht563736, ht563737, ht563738, ht563739, ht563740, hB563744⟩
      have ac563829 : (fI (F563748 q563695) 9).toInt = p563702.toInt := by rw [he563751]; rfl
      have ac563830 : (fI (F563748 q563695) 10).toInt = p563703.toInt := by rw [he563751]; rfl
      have ac563831 : (fI (F563748 q563695) 32).toInt = p563714.toInt := by rw [he563751]; rfl
      refine Gw_callV (As := [.int 1]) (gV_ok D I) (ct_563559_SpillForgeModel_no l hl0 D I γ el P563693 F563748 q563695 1 hT563828 htq563695) dr_cX17_shown_28 ⟨wr_7_191, wr_1_14, wr_7_194, by decide, rfl, (Nat.le_of_ble_eq_true rfl), (Nat.le_of_ble_eq_true rfl)⟩ wr_7_193 wr_p_73 hm563698 he563751 rfl (show 0 + 0 ≤ 0 by first | omega | decide) (show 0 + 0 ≤ 0 by first | omega | decide) (Nat.le_of_ble_eq_true rfl) (fun r563835 w563836 dc563832 ds563833 hp563834 => ?_) (fun _ _ _ _ _ z => z.elim)
      obtain ⟨F563841, rfl, rfl, hT563842, hs563843, hdc, hds, x563837, x563838, x563839, x563840⟩ := hp563834
      have hs563844 : rStr γ [] F563694 F563841 := rStr_tr hs563752 hs563843
      rw [show Int32.toInt 1 = 1 from by decide] at x563840
      change G _ _ _ _ _ _ _ (.int 0 :: _) _ _ _
      refine G_widen (cs' := 0) (sl' := 0) (by omega) (by omega) ?_
      have hm563845 : q563695 ∈ P563693 := RS_m hT563842 htq563695 (by decide)
      refine rk10_e (show rk_10 γ (F563841 q563695) from RS_o hT563842 htq563695) (fun q563847 q563848 p563849 p563850 p563851 p563852 p563853 p563854 p563855 p563856 p563857 p563858 p563859 p563860 p563861 p563862 p563863 he563846 hB563890 ht563864 ht563865 ht563866 ht563867 ht563868 ht563869 ht563870 ht563871 ht563872 ht563873 ht563874 ht563875 ht563876 ht563877 ht563878 ht563879 ht563880 ht563881 ht563882 ht563883 ht563884 ht563885 ht563886 ht563887 hB563891 => ?_)
      have ac563892 : (fI (F563841 q563695) 9).toInt = p563849.toInt := by rw [he563846]; rfl
      have bp563849 : gB p563849 0 1 := (hB563890.1)
      have ac563893 : (fI (F563841 q563695) 10).toInt = p563850.toInt := by rw [he563846]; rfl
      have bp563850 : gB p563850 0 1 := (hB563890.2.1)
      have ac563894 : (fI (F563841 q563695) 32).toInt = p563861.toInt := by rw [he563846]; rfl
      have bp563861 : gB p563861 0 8192 := (hB563890.2.2.2.2.2.2.2.1)
      have ac563895 : (fI (F563841 q563695) 9).toInt = p563849.toInt := by rw [he563846]; rfl
      have ac563896 : (fI (F563841 q563695) 10).toInt = p563850.toInt := by rw [he563846]; rfl
      have ac563897 : (fI (F563841 q563695) 32).toInt = p563861.toInt := by rw [he563846]; rfl
      exact G_iretA dr_cX17_shown_31 rfl (Nat.le_of_ble_eq_true rfl) (Nat.le_of_ble_eq_true rfl) ⟨F563841, 0, rfl, rfl, hT563842, hs563844, (Nat.le_of_ble_eq_true rfl), (Nat.le_of_ble_eq_true rfl), (by have qa0 : Int32.toInt 0 = 0 := (by decide); omega), (by have qa0 : Int32.toInt 0 = 0 := (by decide); omega), (by have qa0 : Int32.toInt 0 = 0 := (by decide); omega)⟩
    · have r563898 : p563696.toInt < p563710.toInt := gC_nle hc563826
      have bp563696'' : gB p563696 0 511 := ⟨by omega, by omega⟩
      have bp563710' : gB p563710 1 512 := ⟨by omega, by omega⟩
      refine G_aload_n 0 dr_cX17_shown_17 rfl ?_
      refine Gp_get 22 hm563698 he563751 dr_cX17_shown_18 (gk_X17 D I) (Nat.le_of_ble_eq_true rfl) wr_7_96 rfl ?_
      refine G_iload_n 1 dr_cX17_shown_21 rfl ?_
      have hT563899 : RS D I P563693 F563748 γ el := RS_set hT n563750 htq563695 (by decide) ⟨q563700, q563701, p563702, p563703, p563704, p563705, p563706, p563707, p563708, p563709, p563710, p563711, p563712, 0, p563714, p563715, p563716, he563751, ⟨bp563702, bp563703, (hB563743.2.2.1), (hB563743.2.2.2.1), (gB_w bp563710' (by decide) (by decide)), (hB563743.2.2.2.2.2.1), (hB563743.2.2.2.2.2.2.1), bp563714, (hB563743.2.2.2.2.2.2.2.2)⟩, ht563717, ht563718, ht563719, ht563720, ht563721, ht563722, ht563723, ht563724, ht563725, ht563726, ht563727, ht563728, ht563729, ht563730, ht563731, ht563732, ht563733, ht563734, ht563735, ht563736, ht563737, ht563738, ht563739, ht563740, hB563744⟩
      have hm563900 : (γ 9 22) ∈ P563693 := RS_m hT563899 ht563735 (by decide)
      obtain ⟨f563902, he563901⟩ := show rk_24 I (F563748 (γ 9 22)) from RS_o hT563899 ht563735
      refine Gp_iald 0 hm563900 he563901 dr_cX17_shown_22 rfl (gB_in bp563696'' (by decide) (by decide)) (G_nam fun z563903 hz563903 => ?_)
      have bz563903 : gB z563903 (-2147483648) 2147483647 := gB_any z563903
      refine G_goto 31 dr_cX17_shown_23 (by decide +kernel) ?_
      have ac563904 : (fI (F563748 q563695) 9).toInt = p563702.toInt := by rw [he563751]; rfl
      have ac563905 : (fI (F563748 q563695) 10).toInt = p563703.toInt := by rw [he563751]; rfl
      have ac563906 : (fI (F563748 q563695) 32).toInt = p563714.toInt := by rw [he563751]; rfl
      exact G_iretA dr_cX17_shown_31 rfl (Nat.le_of_ble_eq_true rfl) (Nat.le_of_ble_eq_true rfl) ⟨F563748, z563903, rfl, rfl, hT563899, hs563752, (Nat.le_of_ble_eq_true rfl), (Nat.le_of_ble_eq_true rfl), (by omega), (by omega), (by omega)⟩
abbrev ky_563912_SpillForgeModel_thrown : gKey := (cX17_thrown, 1, "SpillForgeModel", (some FieldType.int), [], "thrown", fun _ _ => True)
def pt_563912_SpillForgeModel_thrown (D : va_G) (I : FieldType → ClassId) (γ el : Nat → Nat → Nat) (P563909 : List Nat) (F563910 : Nat → va_E) (q563911 : Nat) : Option Value → va_W → Nat → Nat → Prop := fun r w dc ds => ∃ (o563962 : Int32), r = some (.int o563962) ∧ w = va_pl P563909 F563910 ∧ dc ≤ 0 ∧ ds ≤ 0 ∧ o563962.toInt = (fI (F563910 q563911) 30).toInt
set_option maxRecDepth 100000 in
set_option maxHeartbeats 4000000 in
theorem ct_563912_SpillForgeModel_thrown (l : Launch) (hl0 : l.stackTraces = false) (D : va_G) (I : FieldType → ClassId) (γ el : Nat → Nat → Nat) (P563909 : List Nat) (F563910 : Nat → va_E) (q563911 : Nat) (hT : RS D I P563909 F563910 γ el) (htq563911 : rKd γ q563911 10) : CtA (gV D I) l yX17_thrown cX17_thrown 1 (some FieldType.int) 0 0 0 0 [.ref q563911] (va_pl P563909 F563910) (pt_563912_SpillForgeModel_thrown D I γ el P563909 F563910 q563911) gNA := by
  refine CtA_of hl0 (by decide) (Nat.le_of_ble_eq_true rfl) ?_
  have hm563913 : q563911 ∈ P563909 := RS_m hT htq563911 (by decide)
  refine rk10_e (show rk_10 γ (F563910 q563911) from RS_o hT htq563911) (fun q563915 q563916 p563917 p563918 p563919 p563920 p563921 p563922 p563923 p563924 p563925 p563926 p563927 p563928 p563929 p563930 p563931 he563914 hB563958 ht563932 ht563933 ht563934 ht563935 ht563936 ht563937 ht563938 ht563939 ht563940 ht563941 ht563942 ht563943 ht563944 ht563945 ht563946 ht563947 ht563948 ht563949 ht563950 ht563951 ht563952 ht563953 ht563954 ht563955 hB563959 => ?_)
  have ac563960 : (fI (F563910 q563911) 30).toInt = p563928.toInt := by rw [he563914]; rfl
  have bp563928 : gB p563928 (-2147483648) 2147483647 := (gB_any p563928)
  refine G_aload_n 0 dr_cX17_thrown_0 rfl ?_
  refine Gp_get 30 hm563913 he563914 dr_cX17_thrown_1 (gk_X17 D I) (Nat.le_of_ble_eq_true rfl) wr_7_104 rfl ?_
  have ac563961 : (fI (F563910 q563911) 30).toInt = p563928.toInt := by rw [he563914]; rfl
  exact G_iretA dr_cX17_thrown_4 rfl (Nat.le_of_ble_eq_true rfl) (Nat.le_of_ble_eq_true rfl) ⟨p563928, rfl, rfl, (Nat.le_of_ble_eq_true rfl), (Nat.le_of_ble_eq_true rfl), (by omega)⟩
abbrev ky_564038_SpillForgeModel_word : gKey := (cX17_word, 4, "SpillForgeModel", none, [], "word", fun _ _ => True)
def pt_564038_SpillForgeModel_word (D : va_G) (I : FieldType → ClassId) (γ el : Nat → Nat → Nat) (P564033 : List Nat) (F564034 : Nat → va_E) (q564035 : Nat) (p564036 : Int32) (p564037 : Int32) : Option Value → va_W → Nat → Nat → Prop := fun r w dc ds => ∃ (F564528 : Nat → va_E), r = none ∧ w = va_pl P564033 F564528 ∧ RS D I P564033 F564528 γ el ∧ rStr γ [] F564034 F564528 ∧ dc ≤ 0 ∧ ds ≤ 0 ∧ (fI (F564528 q564035) 9).toInt = (fI (F564034 q564035) 9).toInt ∧ (fI (F564528 q564035) 10).toInt = (fI (F564034 q564035) 10).toInt ∧ (fI (F564528 q564035) 32).toInt = (fI (F564034 q564035) 32).toInt ∧ (fI (F564528 q564035) 30).toInt = (fI (F564034 q564035) 30).toInt
set_option maxRecDepth 100000 in
set_option maxHeartbeats 4000000 in
theorem ct_564038_SpillForgeModel_word (l : Launch) (hl0 : l.stackTraces = false) (D : va_G) (I : FieldType → ClassId) (γ el : Nat → Nat → Nat) (P564033 : List Nat) (F564034 : Nat → va_E) (q564035 : Nat) (p564036 : Int32) (p564037 : Int32) (hT : RS D I P564033 F564034 γ el) (htq564035 : rKd γ q564035 10) (bp564037 : gB p564037 0 8188) : CtA (gV D I) l yX17_word cX17_word 4 none 0 0 0 0 [.ref q564035, .int p564036, .int p564037] (va_pl P564033 F564034) (pt_564038_SpillForgeModel_word D I γ el P564033 F564034 q564035 p564036 p564037) gNA := by
  refine CtA_of hl0 (by decide) (Nat.le_of_ble_eq_true rfl) ?_
  have bp564036 := gB_any p564036
  have hm564039 : q564035 ∈ P564033 := RS_m hT htq564035 (by decide)
  refine rk10_e (show rk_10 γ (F564034 q564035) from RS_o hT htq564035) (fun q564041 q564042 p564043 p564044 p564045 p564046 p564047 p564048 p564049 p564050 p564051 p564052 p564053 p564054 p564055 p564056 p564057 he564040 hB564084 ht564058 ht564059 ht564060 ht564061 ht564062 ht564063 ht564064 ht564065 ht564066 ht564067 ht564068 ht564069 ht564070 ht564071 ht564072 ht564073 ht564074 ht564075 ht564076 ht564077 ht564078 ht564079 ht564080 ht564081 hB564085 => ?_)
  have ac564086 : (fI (F564034 q564035) 9).toInt = p564043.toInt := by rw [he564040]; rfl
  have bp564043 : gB p564043 0 1 := (hB564084.1)
  have ac564087 : (fI (F564034 q564035) 10).toInt = p564044.toInt := by rw [he564040]; rfl
  have bp564044 : gB p564044 0 1 := (hB564084.2.1)
  have ac564088 : (fI (F564034 q564035) 32).toInt = p564055.toInt := by rw [he564040]; rfl
  have bp564055 : gB p564055 0 8192 := (hB564084.2.2.2.2.2.2.2.1)
  have ac564089 : (fI (F564034 q564035) 30).toInt = p564054.toInt := by rw [he564040]; rfl
  have bp564054 : gB p564054 (-2147483648) 2147483647 := (gB_any p564054)
  refine G_iconst 0 dr_cX17_word_0 (by decide +kernel) ?_
  refine G_istore_n (L' := [(3, .int 0), (0, .ref q564035), (1, .int p564036), (2, .int p564037)]) dr_cX17_word_1 (Nat.le_of_ble_eq_true rfl) rfl ?_
  have hlp2_564437 : ∀ (n2_564437 : Nat) (F564431 : Nat → va_E) (g564430 : Int32), gB g564430 0 4 → RS D I P564033 F564431 γ el → rStr γ [] F564034 F564431 → (fI (F564431 q564035) 9).toInt = (fI (F564034 q564035) 9).toInt → (fI (F564431 q564035) 10).toInt = (fI (F564034 q564035) 10).toInt → (fI (F564431 q564035) 32).toInt = (fI (F564034 q564035) 32).toInt → (fI (F564431 q564035) 30).toInt = (fI (F564034 q564035) 30).toInt → ((5 : Int) - g564430.toInt).toNat < n2_564437 → G (gV D I) l (gRm 0 0 0 0) (gMA (gV D I) (pt_564038_SpillForgeModel_word D I γ el P564033 F564034 q564035 p564036 p564037) gNA 0 0) ky_564038_SpillForgeModel_word 2 [(3, .int g564430), (0, .ref q564035), (1, .int p564036), (2, .int p564037)] [] (va_pl P564033 F564431) 0 0 := by
    intro n2_564437
    induction n2_564437 with
    | zero => intro F564431 g564430 bg564430 hT564432 hs564433 x564434 x564435 x564436 x564437 hm2_564437; exact absurd hm2_564437 (Nat.not_lt_zero _)
    | succ n2_564437 ih2_564437 =>
      intro F564431 g564430 bg564430 hT564432 hs564433 x564434 x564435 x564436 x564437 hm2_564437
      have hs564439 : rStr γ [] F564034 F564431 := fun b h0 hb hw => (hs564433 b h0 hb hw).trans ((rStr_rf (γ := γ) (W := []) (F := F564034)) b h0 hb hw).symm
      have hs564440 : rStr γ [] F564034 F564431 := rStr_tr (rStr_rf (γ := γ) (W := []) (F := F564034)) hs564439
      have hm564441 : q564035 ∈ P564033 := RS_m hT564432 htq564035 (by decide)
      refine rk10_e (show rk_10 γ (F564431 q564035) from RS_o hT564432 htq564035) (fun q564443 q564444 p564445 p564446 p564447 p564448 p564449 p564450 p564451 p564452 p564453 p564454 p564455 p564456 p564457 p564458 p564459 he564442 hB564486 ht564460 ht564461 ht564462 ht564463 ht564464 ht564465 ht564466 ht564467 ht564468 ht564469 ht564470 ht564471 ht564472 ht564473 ht564474 ht564475 ht564476 ht564477 ht564478 ht564479 ht564480 ht564481 ht564482 ht564483 hB564487 => ?_)
      have ac564488 : (fI (F564431 q564035) 9).toInt = p564445.toInt := by rw [he564442]; rfl
      have bp564445 : gB p564445 0 1 := (hB564486.1)
      have ac564489 : (fI (F564431 q564035) 10).toInt = p564446.toInt := by rw [he564442]; rfl
      have bp564446 : gB p564446 0 1 := (hB564486.2.1)
      have ac564490 : (fI (F564431 q564035) 32).toInt = p564457.toInt := by rw [he564442]; rfl
      have bp564457 : gB p564457 0 8192 := (hB564486.2.2.2.2.2.2.2.1)
      have ac564491 : (fI (F564431 q564035) 30).toInt = p564456.toInt := by rw [he564442]; rfl
      have bp564456 : gB p564456 (-2147483648) 2147483647 := (gB_any p564456)
      have ac564492 : (fI (F564431 q564035) 9).toInt = p564445.toInt := by rw [he564442]; rfl
      have ac564493 : (fI (F564431 q564035) 10).toInt = p564446.toInt := by rw [he564442]; rfl
      have ac564494 : (fI (F564431 q564035) 32).toInt = p564457.toInt := by rw [he564442]; rfl
      have ac564495 : (fI (F564431 q564035) 30).toInt = p564456.toInt := by rw [he564442]; rfl
      refine G_iload_n 0 dr_cX17_word_2 rfl ?_
      refine G_iconst 4 dr_cX17_word_3 (by decide +kernel) ?_
      refine G_icmp_ge 31 dr_cX17_word_4 (by decide +kernel) (fun hc564496 => ?_) (fun hc564496 => ?_)
      · have r564497 : 4 ≤ g564430.toInt := gj_leL hc564496 (show Int32.toInt 4 = 4 by decide)
        have bg564430' : gB g564430 4 4 := ⟨by omega, by omega⟩
        have ac564498 : (fI (F564431 q564035) 9).toInt = p564445.toInt := by rw [he564442]; rfl
        have ac564499 : (fI (F564431 q564035) 10).toInt = p564446.toInt := by rw [he564442]; rfl
        have ac564500 : (fI (F564431 q564035) 32).toInt = p564457.toInt := by rw [he564442]; rfl
        have ac564501 : (fI (F564431 q564035) 30).toInt = p564456.toInt := by rw [he564442]; rfl
        exact G_vretA dr_cX17_word_31 rfl (Nat.le_of_ble_eq_true rfl) (Nat.le_of_ble_eq_true rfl) ⟨F564431, rfl, rfl, hT564432, hs564433, (Nat.le_of_ble_eq_true rfl), (Nat.le_of_ble_eq_true rfl), (by omega), (by omega), (by omega), (by omega)⟩
      · have r564502 : g564430.toInt < 4 := gj_nleL hc564496 (show Int32.toInt 4 = 4 by decide)
        have bg564430' : gB g564430 0 3 := ⟨by omega, by omega⟩
        refine G_aload_n 1 dr_cX17_word_7 rfl ?_
        refine Gp_get 31 hm564441 he564442 dr_cX17_word_8 (gk_X17 D I) (Nat.le_of_ble_eq_true rfl) wr_7_105 rfl ?_
        refine G_iload_n 3 dr_cX17_word_11 rfl ?_
        refine G_iload_n 0 dr_cX17_word_12 rfl ?_
        refine G_iadd dr_cX17_word_13 (G_nam fun z564503 hz564503 => ?_)
        have ez564503 : z564503.toInt = p564037.toInt + g564430.toInt := by rw [gI_add hz564503 bp564037 bg564430' (by decide) (by decide)]
        have bz564503 : gB z564503 0 8191 := gB_add (gI_add hz564503 bp564037 bg564430' (by decide) (by decide)) bp564037 bg564430' (by decide) (by decide)
        refine G_iload_n 2 dr_cX17_word_14 rfl ?_
        refine G_bipush 24 dr_cX17_word_15 (by decide +kernel) ?_
        refine G_bipush 8 dr_cX17_word_17 (by decide +kernel) ?_
        refine G_iload_n 0 dr_cX17_word_19 rfl ?_
        refine G_imul dr_cX17_word_20 (G_nam fun z564504 hz564504 => ?_)
        have ez564504 : z564504.toInt = 8 * g564430.toInt := by rw [gI_mul hz564504 (gBl (show Int32.toInt 8 = 8 by decide)) bg564430' (by decide) (by decide) (by decide), show Int32.toInt 8 = 8 from by decide]
        have bz564504 : gB z564504 0 24 := gB_mul hz564504 (gBl (show Int32.toInt 8 = 8 by decide)) bg564430' (by decide) (by decide) (by decide) (by decide)
        refine G_isub dr_cX17_word_21 (G_nam fun z564505 hz564505 => ?_)
        have ez564505 : z564505.toInt = 24 - z564504.toInt := by rw [gI_sub hz564505 (gBl (show Int32.toInt 24 = 24 by decide)) bz564504 (by decide) (by decide), show Int32.toInt 24 = 24 from by decide]
        have bz564505 : gB z564505 0 24 := gB_sub (gI_sub hz564505 (gBl (show Int32.toInt 24 = 24 by decide)) bz564504 (by decide) (by decide)) (gBl (show Int32.toInt 24 = 24 by decide)) bz564504 (by decide) (by decide)
        refine G_ishr dr_cX17_word_22 (G_nam fun z564506 hz564506 => ?_)
        have bz564506 : gB z564506 (-2147483648) 2147483647 := gB_any z564506
        refine G_i2b dr_cX17_word_23 (G_nam fun z564507 hz564507 => ?_)
        have bz564507 : gB z564507 (-128) 127 := gB_i2b hz564507
        have hm564508 : (γ 9 31) ∈ P564033 := RS_m hT564432 ht564480 (by decide)
        obtain ⟨f564510, he564509, bf564510⟩ := show rk_25 I (F564431 (γ 9 31)) from RS_o hT564432 ht564480
        refine Gp_bast 1 hm564508 he564509 dr_cX17_word_24 rfl (gB_in bz564503 (by decide) (by decide)) (fun F564511 e564512 n564513 => ?_)
        obtain ⟨f564514, hf564514⟩ : ∃ z, z = upd f564510 z564503.toNatClampNeg (vp_nar .byte z564507) := ⟨_, rfl⟩
        rw [← hf564514] at e564512
        have he564515 : F564511 q564035 = .inr (22, [.ref (γ 9 0), .ref (γ 9 1), .ref (γ 9 2), .ref (γ 9 3), .ref (γ 9 4), .ref (γ 9 5), .ref (γ 9 6), .ref (γ 9 7), .ref (γ 9 8), .int p564445, .int p564446, .int p564447, .int p564448, .int p564449, .int p564450, .ref (γ 9 15), .ref (γ 9 16), .ref (γ 9 17), .ref (γ 9 18), .ref (γ 9 19), .ref (γ 9 20), .ref (γ 9 21), .ref (γ 9 22), .int p564451, .int p564452, .int p564453, .int p564454, .int p564455, .ref q564443, .ref (γ 9 29), .int p564456, .ref (γ 9 31), .int p564457, .int p564458, .int p564459, .ref q564444]) := (n564513 q564035 (rn_oa he564442 he564509)).trans he564442
        have he564516 : F564511 (γ 9 31) = .inl (I .byte, 8192, .inl f564514) := e564512
        have hs564517 : rStr γ [] F564034 F564511 := rStr_put hs564433 n564513 ht564480 (by decide)
        have bf564514 : gF f564514 (-128) 127 := gF_upd hf564514 bf564510 gB_byte
        obtain ⟨z564518, hz564518⟩ : ∃ z : Int32, z = g564430 + Int32.ofInt 1 := ⟨_, rfl⟩
        have ez564518 : z564518.toInt = g564430.toInt + 1 := gI_inc hz564518 (by decide) bg564430' (by decide) (by decide)
        have bz564518 : gB z564518 1 4 := ⟨by omega, by omega⟩
        refine G_iinc (L' := [(3, .int z564518), (0, .ref q564035), (1, .int p564036), (2, .int p564037)]) z564518 0 dr_cX17_word_25 rfl hz564518.symm (Nat.le_of_ble_eq_true rfl) rfl ?_
        refine G_goto 2 dr_cX17_word_28 (by decide +kernel) ?_
        have hT564519 : RS D I P564033 F564511 γ el := RS_set hT564432 n564513 ht564480 (by decide) ⟨f564514, he564516, bf564514⟩
        have ac564520 : (fI (F564511 q564035) 9).toInt = p564445.toInt := by rw [he564515]; rfl
        have ac564521 : (fI (F564511 q564035) 10).toInt = p564446.toInt := by rw [he564515]; rfl
        have ac564522 : (fI (F564511 q564035) 32).toInt = p564457.toInt := by rw [he564515]; rfl
        have ac564523 : (fI (F564511 q564035) 30).toInt = p564456.toInt := by rw [he564515]; rfl
        exact ih2_564437 F564511 z564518 (gB_w bz564518 (by decide) (by decide)) hT564519 hs564517 (by omega) (by omega) (by omega) (by omega) (mz_up ez564518 (Int.le_trans bg564430'.2 (by decide)) hm2_564437)
  have ac564524 : (fI (F564034 q564035) 9).toInt = p564043.toInt := by rw [he564040]; rfl
  have ac564525 : (fI (F564034 q564035) 10).toInt = p564044.toInt := by rw [he564040]; rfl
  have ac564526 : (fI (F564034 q564035) 32).toInt = p564055.toInt := by rw [he564040]; rfl
  have ac564527 : (fI (F564034 q564035) 30).toInt = p564054.toInt := by rw [he564040]; rfl
  exact hlp2_564437 (((5 : Int) - 0).toNat + 1) F564034 0 (gB_w (gBl (show Int32.toInt 0 = 0 by decide)) (by decide) (by decide)) hT (rStr_rf (γ := γ) (W := []) (F := F564034)) (by omega) (by omega) (by omega) (by omega) (Nat.lt_succ_self _)
abbrev ky_563972_SpillForgeModel_feed : gKey := (cX17_feed, 6, "SpillForgeModel", (some FieldType.int), [], "feed", fun _ _ => True)
def pt_563972_SpillForgeModel_feed (D : va_G) (I : FieldType → ClassId) (γ el : Nat → Nat → Nat) (P563964 : List Nat) (F563965 : Nat → va_E) (q563966 : Nat) (p563967 : Int32) (p563968 : Int32) (p563969 : Int32) (p563970 : Int32) (p563971 : Int32) : Option Value → va_W → Nat → Nat → Prop := fun r w dc ds => ∃ (F564959 : Nat → va_E) (o564958 : Int32), r = some (.int o564958) ∧ w = va_pl P563964 F564959 ∧ RS D I P563964 F564959 γ el ∧ rStr γ [] F563965 F564959 ∧ dc ≤ 0 ∧ ds ≤ 0 ∧ gB o564958 0 8212 ∧ (((fI (F563965 q563966) 32).toInt ≤ 8172 ∧ o564958.toInt = (fI (F563965 q563966) 32).toInt + 20 ∧ (fI (F564959 q563966) 32).toInt = (fI (F563965 q563966) 32).toInt + 20 ∧ (fI (F564959 q563966) 30).toInt = 0) ∨ (8172 < (fI (F563965 q563966) 32).toInt ∧ (fI (F564959 q563966) 30).toInt = 1 ∧ (fI (F564959 q563966) 32).toInt = (fI (F563965 q563966) 32).toInt)) ∧ (fI (F564959 q563966) 9).toInt = (fI (F563965 q563966) 9).toInt ∧ (fI (F564959 q563966) 10).toInt = (fI (F563965 q563966) 10).toInt
set_option maxRecDepth 100000 in
set_option maxHeartbeats 4000000 in
theorem ct_563972_SpillForgeModel_feed (l : Launch) (hl0 : l.stackTraces = false) (D : va_G) (I : FieldType → ClassId) (γ el : Nat → Nat → Nat) (P563964 : List Nat) (F563965 : Nat → va_E) (q563966 : Nat) (p563967 : Int32) (p563968 : Int32) (p563969 : Int32) (p563970 : Int32) (p563971 : Int32) (hT : RS D I P563964 F563965 γ el) (htq563966 : rKd γ q563966 10) : CtA (gV D I) l yX17_feed cX17_feed 6 (some FieldType.int) 1 23 0 0 [.ref q563966, .int p563967, .int p563968, .int p563969, .int p563970, .int p563971] (va_pl P563964 F563965) (pt_563972_SpillForgeModel_feed D I γ el P563964 F563965 q563966 p563967 p563968 p563969 p563970 p563971) gNA := by
  refine CtA_of hl0 (by decide) (Nat.le_of_ble_eq_true rfl) ?_
  have bp563967 := gB_any p563967
  have bp563968 := gB_any p563968
  have bp563969 := gB_any p563969
  have bp563970 := gB_any p563970
  have bp563971 := gB_any p563971
  have hm563973 : q563966 ∈ P563964 := RS_m hT htq563966 (by decide)
  refine rk10_e (show rk_10 γ (F563965 q563966) from RS_o hT htq563966) (fun q563975 q563976 p563977 p563978 p563979 p563980 p563981 p563982 p563983 p563984 p563985 p563986 p563987 p563988 p563989 p563990 p563991 he563974 hB564018 ht563992 ht563993 ht563994 ht563995 ht563996 ht563997 ht563998 ht563999 ht564000 ht564001 ht564002 ht564003 ht564004 ht564005 ht564006 ht564007 ht564008 ht564009 ht564010 ht564011 ht564012 ht564013 ht564014 ht564015 hB564019 => ?_)
  have ac564020 : (fI (F563965 q563966) 9).toInt = p563977.toInt := by rw [he563974]; rfl
  have bp563977 : gB p563977 0 1 := (hB564018.1)
  have ac564021 : (fI (F563965 q563966) 10).toInt = p563978.toInt := by rw [he563974]; rfl
  have bp563978 : gB p563978 0 1 := (hB564018.2.1)
  have ac564022 : (fI (F563965 q563966) 32).toInt = p563989.toInt := by rw [he563974]; rfl
  have bp563989 : gB p563989 0 8192 := (hB564018.2.2.2.2.2.2.2.1)
  have ac564023 : (fI (F563965 q563966) 30).toInt = p563988.toInt := by rw [he563974]; rfl
  have bp563988 : gB p563988 (-2147483648) 2147483647 := (gB_any p563988)
  refine G_aload_n 0 dr_cX17_feed_0 rfl ?_
  refine G_iconst 0 dr_cX17_feed_1 (by decide +kernel) ?_
  refine Gp_put 30 hm563973 he563974 dr_cX17_feed_2 (gk_X17 D I) (Nat.le_of_ble_eq_true rfl) wr_7_104 rfl rfl rfl (Nat.le_of_ble_eq_true rfl) (fun F564024 e564025 n564026 => ?_)
  have he564027 : F564024 q563966 = .inr (22, [.ref (γ 9 0), .ref (γ 9 1), .ref (γ 9 2), .ref (γ 9 3), .ref (γ 9 4), .ref (γ 9 5), .ref (γ 9 6), .ref (γ 9 7), .ref (γ 9 8), .int p563977, .int p563978, .int p563979, .int p563980, .int p563981, .int p563982, .ref (γ 9 15), .ref (γ 9 16), .ref (γ 9 17), .ref (γ 9 18), .ref (γ 9 19), .ref (γ 9 20), .ref (γ 9 21), .ref (γ 9 22), .int p563983, .int p563984, .int p563985, .int p563986, .int p563987, .ref q563975, .ref (γ 9 29), .int 0, .ref (γ 9 31), .int p563989, .int p563990, .int p563991, .ref q563976]) := e564025
  have hs564028 : rStr γ [] F563965 F564024 := rStr_put (rStr_rf (γ := γ) (W := []) (F := F563965)) n564026 htq563966 (by decide)
  refine G_aload_n 0 dr_cX17_feed_5 rfl ?_
  refine Gp_get 32 hm563973 he564027 dr_cX17_feed_6 (gk_X17 D I) (Nat.le_of_ble_eq_true rfl) wr_7_106 rfl ?_
  refine G_bipush 20 dr_cX17_feed_9 (by decide +kernel) ?_
  refine G_iadd dr_cX17_feed_11 (G_nam fun z564029 hz564029 => ?_)
  have ez564029 : z564029.toInt = p563989.toInt + 20 := by rw [gI_add hz564029 bp563989 (gBl (show Int32.toInt 20 = 20 by decide)) (by decide) (by decide), show Int32.toInt 20 = 20 from by decide]
  have bz564029 : gB z564029 20 8212 := gB_add (gI_add hz564029 bp563989 (gBl (show Int32.toInt 20 = 20 by decide)) (by decide) (by decide)) bp563989 (gBl (show Int32.toInt 20 = 20 by decide)) (by decide) (by decide)
  refine G_sipush 8192 dr_cX17_feed_12 (by decide +kernel) ?_
  refine G_icmp_le 24 dr_cX17_feed_15 (by decide +kernel) (fun hc564030 => ?_) (fun hc564030 => ?_)
  · have r564031 : z564029.toInt ≤ 8192 := gj_le hc564030 (show Int32.toInt 8192 = 8192 by decide)
    have bz564029' : gB z564029 20 8192 := ⟨by omega, by omega⟩
    refine G_aload_n 0 dr_cX17_feed_24 rfl ?_
    refine G_iload_n 1 dr_cX17_feed_25 rfl ?_
    refine G_aload_n 0 dr_cX17_feed_26 rfl ?_
    refine Gp_get 32 hm563973 he564027 dr_cX17_feed_27 (gk_X17 D I) (Nat.le_of_ble_eq_true rfl) wr_7_106 rfl ?_
    have hT564032 : RS D I P563964 F564024 γ el := RS_set hT n564026 htq563966 (by decide) ⟨q563975, q563976, p563977, p563978, p563979, p563980, p563981, p563982, p563983, p563984, p563985, p563986, p563987, 0, p563989, p563990, p563991, he564027, ⟨bp563977, bp563978, (hB564018.2.2.1), (hB564018.2.2.2.1), (hB564018.2.2.2.2.1), (hB564018.2.2.2.2.2.1), (hB564018.2.2.2.2.2.2.1), bp563989, (hB564018.2.2.2.2.2.2.2.2)⟩, ht563992, ht563993, ht563994, ht563995, ht563996, ht563997, ht563998, ht563999, ht564000, ht564001, ht564002, ht564003, ht564004, ht564005, ht564006, ht564007, ht564008, ht564009, ht564010, ht564011, ht564012, ht564013, ht564014, ht564015, hB564019⟩
    have ac564529 : (fI (F564024 q563966) 9).toInt = p563977.toInt := by rw [he564027]; rfl
    have ac564530 : (fI (F564024 q563966) 10).toInt = p563978.toInt := by rw [he564027]; rfl
    have ac564531 : (fI (F564024 q563966) 32).toInt = p563989.toInt := by rw [he564027]; rfl
    have ac564532 : (fI (F564024 q563966) 30).toInt = 0 := by rw [he564027]; show Int32.toInt 0 = 0; decide
    refine Gw_callV (As := [.int p563967, .int p563989]) (gV_ok D I) (ct_564038_SpillForgeModel_word l hl0 D I γ el P563964 F564024 q563966 p563967 p563989 hT564032 htq563966 ⟨by omega, by omega⟩) dr_cX17_feed_30 ⟨wr_7_195, wr_1_14, wr_7_198, by decide, rfl, (Nat.le_of_ble_eq_true rfl), (Nat.le_of_ble_eq_true rfl)⟩ wr_7_197 wr_p_74 hm563973 he564027 rfl (show 0 + 0 ≤ 0 by first | omega | decide) (show 0 + 0 ≤ 0 by first | omega | decide) (Nat.le_of_ble_eq_true rfl) (fun r564536 w564537 dc564533 ds564534 hp564535 => ?_) (fun _ _ _ _ _ z => z.elim)
    obtain ⟨F564542, rfl, rfl, hT564543, hs564544, hdc, hds, x564538, x564539, x564540, x564541⟩ := hp564535
    have hs564545 : rStr γ [] F563965 F564542 := rStr_tr hs564028 hs564544
    change G _ _ _ _ _ _ _ _ _ _ _
    refine G_widen (cs' := 0) (sl' := 0) (by omega) (by omega) ?_
    refine G_aload_n 0 dr_cX17_feed_33 rfl ?_
    refine G_iload_n 2 dr_cX17_feed_34 rfl ?_
    refine G_aload_n 0 dr_cX17_feed_35 rfl ?_
    have hm564546 : q563966 ∈ P563964 := RS_m hT564543 htq563966 (by decide)
    refine rk10_e (show rk_10 γ (F564542 q563966) from RS_o hT564543 htq563966) (fun q564548 q564549 p564550 p564551 p564552 p564553 p564554 p564555 p564556 p564557 p564558 p564559 p564560 p564561 p564562 p564563 p564564 he564547 hB564591 ht564565 ht564566 ht564567 ht564568 ht564569 ht564570 ht564571 ht564572 ht564573 ht564574 ht564575 ht564576 ht564577 ht564578 ht564579 ht564580 ht564581 ht564582 ht564583 ht564584 ht564585 ht564586 ht564587 ht564588 hB564592 => ?_)
    have ac564593 : (fI (F564542 q563966) 9).toInt = p564550.toInt := by rw [he564547]; rfl
    have bp564550 : gB p564550 0 1 := (hB564591.1)
    have ac564594 : (fI (F564542 q563966) 10).toInt = p564551.toInt := by rw [he564547]; rfl
    have bp564551 : gB p564551 0 1 := (hB564591.2.1)
    have ac564595 : (fI (F564542 q563966) 32).toInt = p564562.toInt := by rw [he564547]; rfl
    have bp564562 : gB p564562 0 8192 := (hB564591.2.2.2.2.2.2.2.1)
    have ac564596 : (fI (F564542 q563966) 30).toInt = p564561.toInt := by rw [he564547]; rfl
    have bp564561 : gB p564561 (-2147483648) 2147483647 := (gB_any p564561)
    refine Gp_get 32 hm564546 he564547 dr_cX17_feed_36 (gk_X17 D I) (Nat.le_of_ble_eq_true rfl) wr_7_106 rfl ?_
    refine G_iconst 4 dr_cX17_feed_39 (by decide +kernel) ?_
    refine G_iadd dr_cX17_feed_40 (G_nam fun z564597 hz564597 => ?_)
    have ez564597 : z564597.toInt = p564562.toInt + 4 := by rw [gI_add hz564597 bp564562 (gBl (show Int32.toInt 4 = 4 by decide)) (by decide) (by decide), show Int32.toInt 4 = 4 from by decide]
    have bz564597 : gB z564597 4 8196 := gB_add (gI_add hz564597 bp564562 (gBl (show Int32.toInt 4 = 4 by decide)) (by decide) (by decide)) bp564562 (gBl (show Int32.toInt 4 = 4 by decide)) (by decide) (by decide)
    have ac564598 : (fI (F564542 q563966) 9).toInt = p564550.toInt := by rw [he564547]; rfl
    have ac564599 : (fI (F564542 q563966) 10).toInt = p564551.toInt := by rw [he564547]; rfl
    have ac564600 : (fI (F564542 q563966) 32).toInt = p564562.toInt := by rw [he564547]; rfl
    have ac564601 : (fI (F564542 q563966) 30).toInt = p564561.toInt := by rw [he564547]; rfl
    refine Gw_callV (As := [.int p563968, .int z564597]) (gV_ok D I) (ct_564038_SpillForgeModel_word l hl0 D I γ el P563964 F564542 q563966 p563968 z564597 hT564543 htq563966 ⟨by omega, by omega⟩) dr_cX17_feed_41 ⟨wr_7_195, wr_1_14, wr_7_198, by decide, rfl, (Nat.le_of_ble_eq_true rfl), (Nat.le_of_ble_eq_true rfl)⟩ wr_7_197 wr_p_74 hm564546 he564547 rfl (show 0 + 0 ≤ 0 by first | omega | decide) (show 0 + 0 ≤ 0 by first | omega | decide) (Nat.le_of_ble_eq_true rfl) (fun r564605 w564606 dc564602 ds564603 hp564604 => ?_) (fun _ _ _ _ _ z => z.elim)
    obtain ⟨F564611, rfl, rfl, hT564612, hs564613, hdc, hds, x564607, x564608, x564609, x564610⟩ := hp564604
    have hs564614 : rStr γ [] F563965 F564611 := rStr_tr hs564545 hs564613
    change G _ _ _ _ _ _ _ _ _ _ _
    refine G_widen (cs' := 0) (sl' := 0) (by omega) (by omega) ?_
    refine G_aload_n 0 dr_cX17_feed_44 rfl ?_
    refine G_iload_n 3 dr_cX17_feed_45 rfl ?_
    refine G_aload_n 0 dr_cX17_feed_46 rfl ?_
    have hm564615 : q563966 ∈ P563964 := RS_m hT564612 htq563966 (by decide)
    refine rk10_e (show rk_10 γ (F564611 q563966) from RS_o hT564612 htq563966) (fun q564617 q564618 p564619 p564620 p564621 p564622 p564623 p564624 p564625 p564626 p564627 p564628 p564629 p564630 p564631 p564632 p564633 he564616 hB564660 ht564634 ht564635 ht564636 ht564637 ht564638 ht564639 ht564640 ht564641 ht564642 ht564643 ht564644 ht564645 ht564646 ht564647 ht564648 ht564649 ht564650 ht564651 ht564652 ht564653 ht564654 ht564655 ht564656 ht564657 hB564661 => ?_)
    have ac564662 : (fI (F564611 q563966) 9).toInt = p564619.toInt := by rw [he564616]; rfl
    have bp564619 : gB p564619 0 1 := (hB564660.1)
    have ac564663 : (fI (F564611 q563966) 10).toInt = p564620.toInt := by rw [he564616]; rfl
    have bp564620 : gB p564620 0 1 := (hB564660.2.1)
    have ac564664 : (fI (F564611 q563966) 32).toInt = p564631.toInt := by rw [he564616]; rfl
    have bp564631 : gB p564631 0 8192 := (hB564660.2.2.2.2.2.2.2.1)
    have ac564665 : (fI (F564611 q563966) 30).toInt = p564630.toInt := by rw [he564616]; rfl
    have bp564630 : gB p564630 (-2147483648) 2147483647 := (gB_any p564630)
    refine Gp_get 32 hm564615 he564616 dr_cX17_feed_47 (gk_X17 D I) (Nat.le_of_ble_eq_true rfl) wr_7_106 rfl ?_
    refine G_bipush 8 dr_cX17_feed_50 (by decide +kernel) ?_
    refine G_iadd dr_cX17_feed_52 (G_nam fun z564666 hz564666 => ?_)
    have ez564666 : z564666.toInt = p564631.toInt + 8 := by rw [gI_add hz564666 bp564631 (gBl (show Int32.toInt 8 = 8 by decide)) (by decide) (by decide), show Int32.toInt 8 = 8 from by decide]
    have bz564666 : gB z564666 8 8200 := gB_add (gI_add hz564666 bp564631 (gBl (show Int32.toInt 8 = 8 by decide)) (by decide) (by decide)) bp564631 (gBl (show Int32.toInt 8 = 8 by decide)) (by decide) (by decide)
    have ac564667 : (fI (F564611 q563966) 9).toInt = p564619.toInt := by rw [he564616]; rfl
    have ac564668 : (fI (F564611 q563966) 10).toInt = p564620.toInt := by rw [he564616]; rfl
    have ac564669 : (fI (F564611 q563966) 32).toInt = p564631.toInt := by rw [he564616]; rfl
    have ac564670 : (fI (F564611 q563966) 30).toInt = p564630.toInt := by rw [he564616]; rfl
    refine Gw_callV (As := [.int p563969, .int z564666]) (gV_ok D I) (ct_564038_SpillForgeModel_word l hl0 D I γ el P563964 F564611 q563966 p563969 z564666 hT564612 htq563966 ⟨by omega, by omega⟩) dr_cX17_feed_53 ⟨wr_7_195, wr_1_14, wr_7_198, by decide, rfl, (Nat.le_of_ble_eq_true rfl), (Nat.le_of_ble_eq_true rfl)⟩ wr_7_197 wr_p_74 hm564615 he564616 rfl (show 0 + 0 ≤ 0 by first | omega | decide) (show 0 + 0 ≤ 0 by first | omega | decide) (Nat.le_of_ble_eq_true rfl) (fun r564674 w564675 dc564671 ds564672 hp564673 => ?_) (fun _ _ _ _ _ z => z.elim)
    obtain ⟨F564680, rfl, rfl, hT564681, hs564682, hdc, hds, x564676, x564677, x564678, x564679⟩ := hp564673
    have hs564683 : rStr γ [] F563965 F564680 := rStr_tr hs564614 hs564682
    change G _ _ _ _ _ _ _ _ _ _ _
    refine G_widen (cs' := 0) (sl' := 0) (by omega) (by omega) ?_
    refine G_aload_n 0 dr_cX17_feed_56 rfl ?_
    refine G_iload 4 dr_cX17_feed_57 rfl ?_
    refine G_aload_n 0 dr_cX17_feed_59 rfl ?_
    have hm564684 : q563966 ∈ P563964 := RS_m hT564681 htq563966 (by decide)
    refine rk10_e (show rk_10 γ (F564680 q563966) from RS_o hT564681 htq563966) (fun q564686 q564687 p564688 p564689 p564690 p564691 p564692 p564693 p564694 p564695 p564696 p564697 p564698 p564699 p564700 p564701 p564702 he564685 hB564729 ht564703 ht564704 ht564705 ht564706 ht564707 ht564708 ht564709 ht564710 ht564711 ht564712 ht564713 ht564714 ht564715 ht564716 ht564717 ht564718 ht564719 ht564720 ht564721 ht564722 ht564723 ht564724 ht564725 ht564726 hB564730 => ?_)
    have ac564731 : (fI (F564680 q563966) 9).toInt = p564688.toInt := by rw [he564685]; rfl
    have bp564688 : gB p564688 0 1 := (hB564729.1)
    have ac564732 : (fI (F564680 q563966) 10).toInt = p564689.toInt := by rw [he564685]; rfl
    have bp564689 : gB p564689 0 1 := (hB564729.2.1)
    have ac564733 : (fI (F564680 q563966) 32).toInt = p564700.toInt := by rw [he564685]; rfl
    have bp564700 : gB p564700 0 8192 := (hB564729.2.2.2.2.2.2.2.1)
    have ac564734 : (fI (F564680 q563966) 30).toInt = p564699.toInt := by rw [he564685]; rfl
    have bp564699 : gB p564699 (-2147483648) 2147483647 := (gB_any p564699)
    refine Gp_get 32 hm564684 he564685 dr_cX17_feed_60 (gk_X17 D I) (Nat.le_of_ble_eq_true rfl) wr_7_106 rfl ?_
    refine G_bipush 12 dr_cX17_feed_63 (by decide +kernel) ?_
    refine G_iadd dr_cX17_feed_65 (G_nam fun z564735 hz564735 => ?_)
    have ez564735 : z564735.toInt = p564700.toInt + 12 := by rw [gI_add hz564735 bp564700 (gBl (show Int32.toInt 12 = 12 by decide)) (by decide) (by decide), show Int32.toInt 12 = 12 from by decide]
    have bz564735 : gB z564735 12 8204 := gB_add (gI_add hz564735 bp564700 (gBl (show Int32.toInt 12 = 12 by decide)) (by decide) (by decide)) bp564700 (gBl (show Int32.toInt 12 = 12 by decide)) (by decide) (by decide)
    have ac564736 : (fI (F564680 q563966) 9).toInt = p564688.toInt := by rw [he564685]; rfl
    have ac564737 : (fI (F564680 q563966) 10).toInt = p564689.toInt := by rw [he564685]; rfl
    have ac564738 : (fI (F564680 q563966) 32).toInt = p564700.toInt := by rw [he564685]; rfl
    have ac564739 : (fI (F564680 q563966) 30).toInt = p564699.toInt := by rw [he564685]; rfl
    refine Gw_callV (As := [.int p563970, .int z564735]) (gV_ok D I) (ct_564038_SpillForgeModel_word l hl0 D I γ el P563964 F564680 q563966 p563970 z564735 hT564681 htq563966 ⟨by omega, by omega⟩) dr_cX17_feed_66 ⟨wr_7_195, wr_1_14, wr_7_198, by decide, rfl, (Nat.le_of_ble_eq_true rfl), (Nat.le_of_ble_eq_true rfl)⟩ wr_7_197 wr_p_74 hm564684 he564685 rfl (show 0 + 0 ≤ 0 by first | omega | decide) (show 0 + 0 ≤ 0 by first | omega | decide) (Nat.le_of_ble_eq_true rfl) (fun r564743 w564744 dc564740 ds564741 hp564742 => ?_) (fun _ _ _ _ _ z => z.elim)
    obtain ⟨F564749, rfl, rfl, hT564750, hs564751, hdc, hds, x564745, x564746, x564747, x564748⟩ := hp564742
    have hs564752 : rStr γ [] F563965 F564749 := rStr_tr hs564683 hs564751
    change G _ _ _ _ _ _ _ _ _ _ _
    refine G_widen (cs' := 0) (sl' := 0) (by omega) (by omega) ?_
    refine G_aload_n 0 dr_cX17_feed_69 rfl ?_
    refine G_iload 5 dr_cX17_feed_70 rfl ?_
    refine G_aload_n 0 dr_cX17_feed_72 rfl ?_
    have hm564753 : q563966 ∈ P563964 := RS_m hT564750 htq563966 (by decide)
    refine rk10_e (show rk_10 γ (F564749 q563966) from RS_o hT564750 htq563966) (fun q564755 q564756 p564757 p564758 p564759 p564760 p564761 p564762 p564763 p564764 p564765 p564766 p564767 p564768 p564769 p564770 p564771 he564754 hB564798 ht564772 ht564773 ht564774 ht564775 ht564776 ht564777 ht564778 ht564779 ht564780 ht564781 ht564782 ht564783 ht564784 ht564785 ht564786 ht564787 ht564788 ht564789 ht564790 ht564791 ht564792 ht564793 ht564794 ht564795 hB564799 => ?_)
    have ac564800 : (fI (F564749 q563966) 9).toInt = p564757.toInt := by rw [he564754]; rfl
    have bp564757 : gB p564757 0 1 := (hB564798.1)
    have ac564801 : (fI (F564749 q563966) 10).toInt = p564758.toInt := by rw [he564754]; rfl
    have bp564758 : gB p564758 0 1 := (hB564798.2.1)
    have ac564802 : (fI (F564749 q563966) 32).toInt = p564769.toInt := by rw [he564754]; rfl
    have bp564769 : gB p564769 0 8192 := (hB564798.2.2.2.2.2.2.2.1)
    have ac564803 : (fI (F564749 q563966) 30).toInt = p564768.toInt := by rw [he564754]; rfl
    have bp564768 : gB p564768 (-2147483648) 2147483647 := (gB_any p564768)
    refine Gp_get 32 hm564753 he564754 dr_cX17_feed_73 (gk_X17 D I) (Nat.le_of_ble_eq_true rfl) wr_7_106 rfl ?_
    refine G_bipush 16 dr_cX17_feed_76 (by decide +kernel) ?_
    refine G_iadd dr_cX17_feed_78 (G_nam fun z564804 hz564804 => ?_)
    have ez564804 : z564804.toInt = p564769.toInt + 16 := by rw [gI_add hz564804 bp564769 (gBl (show Int32.toInt 16 = 16 by decide)) (by decide) (by decide), show Int32.toInt 16 = 16 from by decide]
    have bz564804 : gB z564804 16 8208 := gB_add (gI_add hz564804 bp564769 (gBl (show Int32.toInt 16 = 16 by decide)) (by decide) (by decide)) bp564769 (gBl (show Int32.toInt 16 = 16 by decide)) (by decide) (by decide)
    have ac564805 : (fI (F564749 q563966) 9).toInt = p564757.toInt := by rw [he564754]; rfl
    have ac564806 : (fI (F564749 q563966) 10).toInt = p564758.toInt := by rw [he564754]; rfl
    have ac564807 : (fI (F564749 q563966) 32).toInt = p564769.toInt := by rw [he564754]; rfl
    have ac564808 : (fI (F564749 q563966) 30).toInt = p564768.toInt := by rw [he564754]; rfl
    refine Gw_callV (As := [.int p563971, .int z564804]) (gV_ok D I) (ct_564038_SpillForgeModel_word l hl0 D I γ el P563964 F564749 q563966 p563971 z564804 hT564750 htq563966 ⟨by omega, by omega⟩) dr_cX17_feed_79 ⟨wr_7_195, wr_1_14, wr_7_198, by decide, rfl, (Nat.le_of_ble_eq_true rfl), (Nat.le_of_ble_eq_true rfl)⟩ wr_7_197 wr_p_74 hm564753 he564754 rfl (show 0 + 0 ≤ 0 by first | omega | decide) (show 0 + 0 ≤ 0 by first | omega | decide) (Nat.le_of_ble_eq_true rfl) (fun r564812 w564813 dc564809 ds564810 hp564811 => ?_) (fun _ _ _ _ _ z => z.elim)
    obtain ⟨F564818, rfl, rfl, hT564819, hs564820, hdc, hds, x564814, x564815, x564816, x564817⟩ := hp564811
    have hs564821 : rStr γ [] F563965 F564818 := rStr_tr hs564752 hs564820
    change G _ _ _ _ _ _ _ _ _ _ _
    refine G_widen (cs' := 0) (sl' := 0) (by omega) (by omega) ?_
    refine G_aload_n 0 dr_cX17_feed_82 rfl ?_
    refine G_dup dr_cX17_feed_83 rfl ?_
    have hm564822 : q563966 ∈ P563964 := RS_m hT564819 htq563966 (by decide)
    refine rk10_e (show rk_10 γ (F564818 q563966) from RS_o hT564819 htq563966) (fun q564824 q564825 p564826 p564827 p564828 p564829 p564830 p564831 p564832 p564833 p564834 p564835 p564836 p564837 p564838 p564839 p564840 he564823 hB564867 ht564841 ht564842 ht564843 ht564844 ht564845 ht564846 ht564847 ht564848 ht564849 ht564850 ht564851 ht564852 ht564853 ht564854 ht564855 ht564856 ht564857 ht564858 ht564859 ht564860 ht564861 ht564862 ht564863 ht564864 hB564868 => ?_)
    have ac564869 : (fI (F564818 q563966) 9).toInt = p564826.toInt := by rw [he564823]; rfl
    have bp564826 : gB p564826 0 1 := (hB564867.1)
    have ac564870 : (fI (F564818 q563966) 10).toInt = p564827.toInt := by rw [he564823]; rfl
    have bp564827 : gB p564827 0 1 := (hB564867.2.1)
    have ac564871 : (fI (F564818 q563966) 32).toInt = p564838.toInt := by rw [he564823]; rfl
    have bp564838 : gB p564838 0 8192 := (hB564867.2.2.2.2.2.2.2.1)
    have ac564872 : (fI (F564818 q563966) 30).toInt = p564837.toInt := by rw [he564823]; rfl
    have bp564837 : gB p564837 (-2147483648) 2147483647 := (gB_any p564837)
    refine Gp_get 32 hm564822 he564823 dr_cX17_feed_84 (gk_X17 D I) (Nat.le_of_ble_eq_true rfl) wr_7_106 rfl ?_
    refine G_bipush 20 dr_cX17_feed_87 (by decide +kernel) ?_
    refine G_iadd dr_cX17_feed_89 (G_nam fun z564873 hz564873 => ?_)
    have ez564873 : z564873.toInt = p564838.toInt + 20 := by rw [gI_add hz564873 bp564838 (gBl (show Int32.toInt 20 = 20 by decide)) (by decide) (by decide), show Int32.toInt 20 = 20 from by decide]
    have bz564873 : gB z564873 20 8212 := gB_add (gI_add hz564873 bp564838 (gBl (show Int32.toInt 20 = 20 by decide)) (by decide) (by decide)) bp564838 (gBl (show Int32.toInt 20 = 20 by decide)) (by decide) (by decide)
    refine Gp_put 32 hm564822 he564823 dr_cX17_feed_90 (gk_X17 D I) (Nat.le_of_ble_eq_true rfl) wr_7_106 rfl rfl rfl (Nat.le_of_ble_eq_true rfl) (fun F564874 e564875 n564876 => ?_)
    have he564877 : F564874 q563966 = .inr (22, [.ref (γ 9 0), .ref (γ 9 1), .ref (γ 9 2), .ref (γ 9 3), .ref (γ 9 4), .ref (γ 9 5), .ref (γ 9 6), .ref (γ 9 7), .ref (γ 9 8), .int p564826, .int p564827, .int p564828, .int p564829, .int p564830, .int p564831, .ref (γ 9 15), .ref (γ 9 16), .ref (γ 9 17), .ref (γ 9 18), .ref (γ 9 19), .ref (γ 9 20), .ref (γ 9 21), .ref (γ 9 22), .int p564832, .int p564833, .int p564834, .int p564835, .int p564836, .ref q564824, .ref (γ 9 29), .int p564837, .ref (γ 9 31), .int z564873, .int p564839, .int p564840, .ref q564825]) := e564875
    have hs564878 : rStr γ [] F563965 F564874 := rStr_put hs564821 n564876 htq563966 (by decide)
    refine G_aload_n 0 dr_cX17_feed_93 rfl ?_
    refine Gp_get 32 hm564822 he564877 dr_cX17_feed_94 (gk_X17 D I) (Nat.le_of_ble_eq_true rfl) wr_7_106 rfl ?_
    have hT564879 : RS D I P563964 F564874 γ el := RS_set hT564819 n564876 htq563966 (by decide) ⟨q564824, q564825, p564826, p564827, p564828, p564829, p564830, p564831, p564832, p564833, p564834, p564835, p564836, p564837, z564873, p564839, p564840, he564877, ⟨bp564826, bp564827, (hB564867.2.2.1), (hB564867.2.2.2.1), (hB564867.2.2.2.2.1), (hB564867.2.2.2.2.2.1), (hB564867.2.2.2.2.2.2.1), ⟨by omega, by omega⟩, (hB564867.2.2.2.2.2.2.2.2)⟩, ht564841, ht564842, ht564843, ht564844, ht564845, ht564846, ht564847, ht564848, ht564849, ht564850, ht564851, ht564852, ht564853, ht564854, ht564855, ht564856, ht564857, ht564858, ht564859, ht564860, ht564861, ht564862, ht564863, ht564864, hB564868⟩
    have ac564880 : (fI (F564874 q563966) 9).toInt = p564826.toInt := by rw [he564877]; rfl
    have ac564881 : (fI (F564874 q563966) 10).toInt = p564827.toInt := by rw [he564877]; rfl
    have ac564882 : (fI (F564874 q563966) 32).toInt = z564873.toInt := by rw [he564877]; rfl
    have ac564883 : (fI (F564874 q563966) 30).toInt = p564837.toInt := by rw [he564877]; rfl
    exact G_iretA dr_cX17_feed_97 rfl (Nat.le_of_ble_eq_true rfl) (Nat.le_of_ble_eq_true rfl) ⟨F564874, z564873, rfl, rfl, hT564879, hs564878, (Nat.le_of_ble_eq_true rfl), (Nat.le_of_ble_eq_true rfl), (gB_w bz564873 (by decide) (by decide)), (by omega), (by omega), (by omega)⟩
  · have r564884 : 8192 < z564029.toInt := gj_nle hc564030 (show Int32.toInt 8192 = 8192 by decide)
    have bz564029' : gB z564029 8193 8212 := ⟨by omega, by omega⟩
    refine G_aload_n 0 dr_cX17_feed_18 rfl ?_
    refine G_iconst 1 dr_cX17_feed_19 (by decide +kernel) ?_
    have hT564885 : RS D I P563964 F564024 γ el := RS_set hT n564026 htq563966 (by decide) ⟨q563975, q563976, p563977, p563978, p563979, p563980, p563981, p563982, p563983, p563984, p563985, p563986, p563987, 0, p563989, p563990, p563991, he564027, ⟨bp563977, bp563978, (hB564018.2.2.1), (hB564018.2.2.2.1), (hB564018.2.2.2.2.1), (hB564018.2.2.2.2.2.1), (hB564018.2.2.2.2.2.2.1), bp563989, (hB564018.2.2.2.2.2.2.2.2)⟩, ht563992, ht563993, ht563994, ht563995, ht563996, ht563997, ht563998, ht563999, ht564000, ht564001, ht564002, ht564003, ht564004, ht564005, ht564006, ht564007, ht564008, ht564009, ht564010, ht564011, ht564012, ht564013, ht564014, ht564015, hB564019⟩
    have ac564886 : (fI (F564024 q563966) 9).toInt = p563977.toInt := by rw [he564027]; rfl
    have ac564887 : (fI (F564024 q563966) 10).toInt = p563978.toInt := by rw [he564027]; rfl
    have ac564888 : (fI (F564024 q563966) 32).toInt = p563989.toInt := by rw [he564027]; rfl
    have ac564889 : (fI (F564024 q563966) 30).toInt = 0 := by rw [he564027]; show Int32.toInt 0 = 0; decide
    refine Gw_callV (As := [.int 1]) (gV_ok D I) (ct_563559_SpillForgeModel_no l hl0 D I γ el P563964 F564024 q563966 1 hT564885 htq563966) dr_cX17_feed_20 ⟨wr_7_191, wr_1_14, wr_7_194, by decide, rfl, (Nat.le_of_ble_eq_true rfl), (Nat.le_of_ble_eq_true rfl)⟩ wr_7_193 wr_p_73 hm563973 he564027 rfl (show 0 + 0 ≤ 0 by first | omega | decide) (show 0 + 0 ≤ 0 by first | omega | decide) (Nat.le_of_ble_eq_true rfl) (fun r564893 w564894 dc564890 ds564891 hp564892 => ?_) (fun _ _ _ _ _ z => z.elim)
    obtain ⟨F564899, rfl, rfl, hT564900, hs564901, hdc, hds, x564895, x564896, x564897, x564898⟩ := hp564892
    have hs564902 : rStr γ [] F563965 F564899 := rStr_tr hs564028 hs564901
    rw [show Int32.toInt 1 = 1 from by decide] at x564898
    change G _ _ _ _ _ _ _ (.int 0 :: _) _ _ _
    refine G_widen (cs' := 0) (sl' := 0) (by omega) (by omega) ?_
    have hm564903 : q563966 ∈ P563964 := RS_m hT564900 htq563966 (by decide)
    refine rk10_e (show rk_10 γ (F564899 q563966) from RS_o hT564900 htq563966) (fun q564905 q564906 p564907 p564908 p564909 p564910 p564911 p564912 p564913 p564914 p564915 p564916 p564917 p564918 p564919 p564920 p564921 he564904 hB564948 ht564922 ht564923 ht564924 ht564925 ht564926 ht564927 ht564928 ht564929 ht564930 ht564931 ht564932 ht564933 ht564934 ht564935 ht564936 ht564937 ht564938 ht564939 ht564940 ht564941 ht564942 ht564943 ht564944 ht564945 hB564949 => ?_)
    have ac564950 : (fI (F564899 q563966) 9).toInt = p564907.toInt := by rw [he564904]; rfl
    have bp564907 : gB p564907 0 1 := (hB564948.1)
    have ac564951 : (fI (F564899 q563966) 10).toInt = p564908.toInt := by rw [he564904]; rfl
    have bp564908 : gB p564908 0 1 := (hB564948.2.1)
    have ac564952 : (fI (F564899 q563966) 32).toInt = p564919.toInt := by rw [he564904]; rfl
    have bp564919 : gB p564919 0 8192 := (hB564948.2.2.2.2.2.2.2.1)
    have ac564953 : (fI (F564899 q563966) 30).toInt = p564918.toInt := by rw [he564904]; rfl
    have bp564918 : gB p564918 (-2147483648) 2147483647 := (gB_any p564918)
    have ac564954 : (fI (F564899 q563966) 9).toInt = p564907.toInt := by rw [he564904]; rfl
    have ac564955 : (fI (F564899 q563966) 10).toInt = p564908.toInt := by rw [he564904]; rfl
    have ac564956 : (fI (F564899 q563966) 32).toInt = p564919.toInt := by rw [he564904]; rfl
    have ac564957 : (fI (F564899 q563966) 30).toInt = p564918.toInt := by rw [he564904]; rfl
    exact G_iretA dr_cX17_feed_23 rfl (Nat.le_of_ble_eq_true rfl) (Nat.le_of_ble_eq_true rfl) ⟨F564899, 0, rfl, rfl, hT564900, hs564902, (Nat.le_of_ble_eq_true rfl), (Nat.le_of_ble_eq_true rfl), (gB_w (gBl (show Int32.toInt 0 = 0 by decide)) (by decide) (by decide)), (by have qa0 : Int32.toInt 0 = 0 := (by decide); omega), (by have qa0 : Int32.toInt 0 = 0 := (by decide); omega), (by have qa0 : Int32.toInt 0 = 0 := (by decide); omega)⟩
