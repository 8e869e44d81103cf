abbrev ky_580660_SpillForgeModel_no : gKey := (cX17_no, 2, "SpillForgeModel", (some FieldType.int), [], "no", fun _ _ => True)
def pt_580660_SpillForgeModel_no (D : va_G) (I : FieldType → ClassId) (γ el : Nat → Nat → Nat) (P580656 : List Nat) (F580657 : Nat → va_E) (q580658 : Nat) (p580659 : Int32) : Option Value → va_W → Nat → Nat → Prop := fun r w dc ds => ∃ (F580723 : Nat → va_E), r = some (.int 0) ∧ w = va_pl P580656 F580723 ∧ RS D I P580656 F580723 γ el ∧ rStr γ [] F580657 F580723 ∧ dc ≤ 0 ∧ ds ≤ 0 ∧ (fI (F580723 q580658) 9).toInt = (fI (F580657 q580658) 9).toInt ∧ (fI (F580723 q580658) 10).toInt = (fI (F580657 q580658) 10).toInt ∧ (fI (F580723 q580658) 32).toInt = (fI (F580657 q580658) 32).toInt ∧ (fI (F580723 q580658) 30).toInt = p580659.toInt ∧ tr_RModel_no D I γ el F580657 q580658 p580659 F580723
set_option maxRecDepth 100000 in
set_option maxHeartbeats 4000000 in
theorem ct_580660_SpillForgeModel_no (l : Launch) (hl0 : l.stackTraces = false) (D : va_G) (I : FieldType → ClassId) (γ el : Nat → Nat → Nat) (P580656 : List Nat) (F580657 : Nat → va_E) (q580658 : Nat) (p580659 : Int32) (hT : RS D I P580656 F580657 γ el) (htq580658 : rKd γ q580658 10) : CtA (gV D I) l yX17_no cX17_no 2 (some FieldType.int) 0 0 0 0 [.ref q580658, .int p580659] (va_pl P580656 F580657) (pt_580660_SpillForgeModel_no D I γ el P580656 F580657 q580658 p580659) gNA := by
  refine CtA_of hl0 (by decide) (Nat.le_of_ble_eq_true rfl) ?_
  have bp580659 := gB_any p580659
  have hm580661 : q580658 ∈ P580656 := RS_m hT htq580658 (by decide)
  refine rk10_e (show rk_10 γ (F580657 q580658) from RS_o hT htq580658) (fun q580663 q580664 p580665 p580666 p580667 p580668 p580669 p580670 p580671 p580672 p580673 p580674 p580675 p580676 p580677 p580678 p580679 he580662 hB580706 ht580680 ht580681 ht580682 ht580683 ht580684 ht580685 ht580686 ht580687 ht580688 ht580689 ht580690 ht580691 ht580692 ht580693 ht580694 ht580695 ht580696 ht580697 ht580698 ht580699 ht580700 ht580701 ht580702 ht580703 hB580707 => ?_)
  have ac580708 : (fI (F580657 q580658) 9).toInt = p580665.toInt := by rw [he580662]; rfl
  have bp580665 : gB p580665 0 1 := (hB580706.1)
  have ac580709 : (fI (F580657 q580658) 10).toInt = p580666.toInt := by rw [he580662]; rfl
  have bp580666 : gB p580666 0 1 := (hB580706.2.1)
  have ac580710 : (fI (F580657 q580658) 32).toInt = p580677.toInt := by rw [he580662]; rfl
  have bp580677 : gB p580677 0 8192 := (hB580706.2.2.2.2.2.2.2.1)
  have ac580711 : (fI (F580657 q580658) 30).toInt = p580676.toInt := by rw [he580662]; rfl
  have bp580676 : gB p580676 (-2147483648) 2147483647 := (gB_any p580676)
  refine G_aload_n 0 dr_cX17_no_0 rfl ?_
  refine G_iload_n 1 dr_cX17_no_1 rfl ?_
  refine Gp_put 30 hm580661 he580662 dr_cX17_no_2 (gk_X17 D I) (Nat.le_of_ble_eq_true rfl) wr_7_104 rfl rfl rfl (Nat.le_of_ble_eq_true rfl) (fun F580712 e580713 n580714 => ?_)
  have he580715 : F580712 q580658 = .inr (22, [.ref (γ 9 0), .ref (γ 9 1), .ref (γ 9 2), .ref (γ 9 3), .ref (γ 9 4), .ref (γ 9 5), .ref (γ 9 6), .ref (γ 9 7), .ref (γ 9 8), .int p580665, .int p580666, .int p580667, .int p580668, .int p580669, .int p580670, .ref (γ 9 15), .ref (γ 9 16), .ref (γ 9 17), .ref (γ 9 18), .ref (γ 9 19), .ref (γ 9 20), .ref (γ 9 21), .ref (γ 9 22), .int p580671, .int p580672, .int p580673, .int p580674, .int p580675, .ref q580663, .ref (γ 9 29), .int p580659, .ref (γ 9 31), .int p580677, .int p580678, .int p580679, .ref q580664]) := e580713
  have hs580716 : rStr γ [] F580657 F580712 := rStr_put (rStr_rf (γ := γ) (W := []) (F := F580657)) n580714 htq580658 (by decide)
  have fq580717 : F580712 q580658 = cF (F580657 q580658) 30 (.int p580659) := by rw [he580715, he580662]; rfl
  refine G_iconst 0 dr_cX17_no_5 (by decide +kernel) ?_
  have hT580718 : RS D I P580656 F580712 γ el := RS_set hT n580714 htq580658 (by decide) ⟨q580663, q580664, p580665, p580666, p580667, p580668, p580669, p580670, p580671, p580672, p580673, p580674, p580675, p580659, p580677, p580678, p580679, he580715, ⟨bp580665, bp580666, (hB580706.2.2.1), (hB580706.2.2.2.1), (hB580706.2.2.2.2.1), (hB580706.2.2.2.2.2.1), (hB580706.2.2.2.2.2.2.1), bp580677, (hB580706.2.2.2.2.2.2.2.2)⟩, ht580680, ht580681, ht580682, ht580683, ht580684, ht580685, ht580686, ht580687, ht580688, ht580689, ht580690, ht580691, ht580692, ht580693, ht580694, ht580695, ht580696, ht580697, ht580698, ht580699, ht580700, ht580701, ht580702, ht580703, hB580707⟩
  have ac580719 : (fI (F580712 q580658) 9).toInt = p580665.toInt := by rw [he580715]; rfl
  have ac580720 : (fI (F580712 q580658) 10).toInt = p580666.toInt := by rw [he580715]; rfl
  have ac580721 : (fI (F580712 q580658) 32).toInt = p580677.toInt := by rw [he580715]; rfl
  have ac580722 : (fI (F580712 q580658) 30).toInt = p580659.toInt := by rw [he580715]; rfl
  exact G_iretA dr_cX17_no_6 rfl (Nat.le_of_ble_eq_true rfl) (Nat.le_of_ble_eq_true rfl) ⟨F580712, rfl, rfl, hT580718, hs580716, (Nat.le_of_ble_eq_true rfl), (Nat.le_of_ble_eq_true rfl), (by have qa0 : Int32.toInt 0 = 0 := (by decide); omega), (by have qa0 : Int32.toInt 0 = 0 := (by decide); omega), (by have qa0 : Int32.toInt 0 = 0 := (by decide); omega), (by have qa0 : Int32.toInt 0 = 0 := (by decide); omega), (fun R c1 => c1 F580712 n580714 fq580717)⟩
/- tr_RModel_told: result, F -/
def tr_RModel_told (D : va_G) (I : FieldType → ClassId) (γ el : Nat → Nat → Nat) (P : List Nat) (F : Nat → va_E) (q0 : Nat) (a1 : Int32) (o1 : Int32) (o2 : Nat → va_E) : Prop := ∀ R : (Int32) → (Nat → va_E) → Prop,
  (∀ (x1 : Nat → va_E) (x2 : Int32), (∀ b, b ≠ q0 → x1 b = F b) → x1 q0 = cF (F q0) 30 (.int 0) → a1.toInt = 0 → fI (x1 q0) 23 = x2 → x2.toInt ≠ 0 → R (0 : Int32) x1) →
  (∀ (x1 : Nat → va_E) (x2 : Int32) (x3 : Int32), (∀ b, b ≠ q0 → x1 b = F b) → x1 q0 = cF (F q0) 30 (.int 0) → a1.toInt = 0 → fI (x1 q0) 23 = x2 → x2.toInt = 0 → fI (x1 q0) 24 = x3 → R x3 x1) →
  (∀ (x1 : Nat → va_E) (x2 : Int32), (∀ b, b ≠ q0 → x1 b = F b) → x1 q0 = cF (F q0) 30 (.int 0) → a1.toInt = 1 → fI (x1 q0) 25 = x2 → R x2 x1) →
  (∀ (x1 : Nat → va_E) (x2 : Int32), (∀ b, b ≠ q0 → x1 b = F b) → x1 q0 = cF (F q0) 30 (.int 0) → a1.toInt = 2 → fI (x1 q0) 26 = x2 → R x2 x1) →
  (∀ (x1 : Nat → va_E) (x2 : Int32), (∀ b, b ≠ q0 → x1 b = F b) → x1 q0 = cF (F q0) 30 (.int 0) → a1.toInt = 3 → fI (x1 q0) 27 = x2 → R x2 x1) →
  (∀ (x1 : Nat → va_E) (x2 : Int32), (∀ b, b ≠ q0 → x1 b = F b) → x1 q0 = cF (F q0) 30 (.int 0) → a1.toInt = 4 → fI (x1 q0) 23 = x2 → R x2 x1) →
  (∀ (x1 : Nat → va_E) (x2 : Nat → va_E), (∀ b, b ≠ q0 → x1 b = F b) → x1 q0 = cF (F q0) 30 (.int 0) → a1.toInt ≠ 0 → a1.toInt ≠ 1 → a1.toInt ≠ 2 → a1.toInt ≠ 3 → a1.toInt ≠ 4 → RS D I P x2 γ el → rStr γ [] x1 x2 → (fI (x2 q0) 9).toInt = (fI (x1 q0) 9).toInt → (fI (x2 q0) 10).toInt = (fI (x1 q0) 10).toInt → (fI (x2 q0) 32).toInt = (fI (x1 q0) 32).toInt → (fI (x2 q0) 30).toInt = 1 → tr_RModel_no D I γ el x1 q0 (1 : Int32) x2 → R (0 : Int32) x2) →
  R o1 o2
abbrev ky_580560_SpillForgeModel_told : gKey := (cX17_told, 2, "SpillForgeModel", (some FieldType.int), [], "told", fun _ _ => True)
def pt_580560_SpillForgeModel_told (D : va_G) (I : FieldType → ClassId) (γ el : Nat → Nat → Nat) (P580556 : List Nat) (F580557 : Nat → va_E) (q580558 : Nat) (p580559 : Int32) : Option Value → va_W → Nat → Nat → Prop := fun r w dc ds => ∃ (F580795 : Nat → va_E) (o580794 : Int32), r = some (.int o580794) ∧ w = va_pl P580556 F580795 ∧ RS D I P580556 F580795 γ el ∧ rStr γ [] F580557 F580795 ∧ dc ≤ 0 ∧ ds ≤ 0 ∧ (fI (F580795 q580558) 9).toInt = (fI (F580557 q580558) 9).toInt ∧ (fI (F580795 q580558) 10).toInt = (fI (F580557 q580558) 10).toInt ∧ (fI (F580795 q580558) 32).toInt = (fI (F580557 q580558) 32).toInt ∧ tr_RModel_told D I γ el P580556 F580557 q580558 p580559 o580794 F580795
set_option maxRecDepth 100000 in
set_option maxHeartbeats 4000000 in
theorem ct_580560_SpillForgeModel_told (l : Launch) (hl0 : l.stackTraces = false) (D : va_G) (I : FieldType → ClassId) (γ el : Nat → Nat → Nat) (P580556 : List Nat) (F580557 : Nat → va_E) (q580558 : Nat) (p580559 : Int32) (hT : RS D I P580556 F580557 γ el) (htq580558 : rKd γ q580558 10) : CtA (gV D I) l yX17_told cX17_told 2 (some FieldType.int) 1 21 0 0 [.ref q580558, .int p580559] (va_pl P580556 F580557) (pt_580560_SpillForgeModel_told D I γ el P580556 F580557 q580558 p580559) gNA := by
  refine CtA_of hl0 (by decide) (Nat.le_of_ble_eq_true rfl) ?_
  have bp580559 := gB_any p580559
  have hm580561 : q580558 ∈ P580556 := RS_m hT htq580558 (by decide)
  refine rk10_e (show rk_10 γ (F580557 q580558) from RS_o hT htq580558) (fun q580563 q580564 p580565 p580566 p580567 p580568 p580569 p580570 p580571 p580572 p580573 p580574 p580575 p580576 p580577 p580578 p580579 he580562 hB580606 ht580580 ht580581 ht580582 ht580583 ht580584 ht580585 ht580586 ht580587 ht580588 ht580589 ht580590 ht580591 ht580592 ht580593 ht580594 ht580595 ht580596 ht580597 ht580598 ht580599 ht580600 ht580601 ht580602 ht580603 hB580607 => ?_)
  have ac580608 : (fI (F580557 q580558) 9).toInt = p580565.toInt := by rw [he580562]; rfl
  have bp580565 : gB p580565 0 1 := (hB580606.1)
  have ac580609 : (fI (F580557 q580558) 10).toInt = p580566.toInt := by rw [he580562]; rfl
  have bp580566 : gB p580566 0 1 := (hB580606.2.1)
  have ac580610 : (fI (F580557 q580558) 32).toInt = p580577.toInt := by rw [he580562]; rfl
  have bp580577 : gB p580577 0 8192 := (hB580606.2.2.2.2.2.2.2.1)
  refine G_aload_n 0 dr_cX17_told_0 rfl ?_
  refine G_iconst 0 dr_cX17_told_1 (by decide +kernel) ?_
  refine Gp_put 30 hm580561 he580562 dr_cX17_told_2 (gk_X17 D I) (Nat.le_of_ble_eq_true rfl) wr_7_104 rfl rfl rfl (Nat.le_of_ble_eq_true rfl) (fun F580611 e580612 n580613 => ?_)
  have he580614 : F580611 q580558 = .inr (22, [.ref (γ 9 0), .ref (γ 9 1), .ref (γ 9 2), .ref (γ 9 3), .ref (γ 9 4), .ref (γ 9 5), .ref (γ 9 6), .ref (γ 9 7), .ref (γ 9 8), .int p580565, .int p580566, .int p580567, .int p580568, .int p580569, .int p580570, .ref (γ 9 15), .ref (γ 9 16), .ref (γ 9 17), .ref (γ 9 18), .ref (γ 9 19), .ref (γ 9 20), .ref (γ 9 21), .ref (γ 9 22), .int p580571, .int p580572, .int p580573, .int p580574, .int p580575, .ref q580563, .ref (γ 9 29), .int 0, .ref (γ 9 31), .int p580577, .int p580578, .int p580579, .ref q580564]) := e580612
  have hs580615 : rStr γ [] F580557 F580611 := rStr_put (rStr_rf (γ := γ) (W := []) (F := F580557)) n580613 htq580558 (by decide)
  have fq580616 : F580611 q580558 = cF (F580557 q580558) 30 (.int 0) := by rw [he580614, he580562]; rfl
  refine G_iload_n 1 dr_cX17_told_5 rfl ?_
  by_cases hs580617 : p580559 = 0
  · have ehs580617 : p580559.toInt = 0 := gj_eq hs580617 (show Int32.toInt 0 = 0 by decide)
    have bp580559' : gB p580559 0 0 := ⟨by omega, by omega⟩
    refine G_eqi (y := 0) hs580617 ?_
    refine G_tableIn 40 dr_cX17_told_6 (by decide) (by decide) (by first | rfl | decide) (by decide) ?_
    refine G_aload_n 0 dr_cX17_told_40 rfl ?_
    have fq580618 : fI (F580611 q580558) 23 = p580571 := by rw [he580614]; rfl
    refine Gp_get 23 hm580561 he580614 dr_cX17_told_41 (gk_X17 D I) (Nat.le_of_ble_eq_true rfl) wr_7_97 rfl ?_
    have bp580571 : gB p580571 (-2147483648) 2147483647 := (gB_any p580571)
    refine G_if_ne 54 dr_cX17_told_44 (by decide +kernel) (fun hc580619 => ?_) (fun hc580619 => ?_)
    · have r580620 : p580571.toInt ≠ 0 := gj_neq hc580619 (show Int32.toInt 0 = 0 by decide)
      refine G_iconst 0 dr_cX17_told_54 (by decide +kernel) ?_
      have hT580621 : RS D I P580556 F580611 γ el := RS_set hT n580613 htq580558 (by decide) ⟨q580563, q580564, p580565, p580566, p580567, p580568, p580569, p580570, p580571, p580572, p580573, p580574, p580575, 0, p580577, p580578, p580579, he580614, ⟨bp580565, bp580566, (hB580606.2.2.1), (hB580606.2.2.2.1), (hB580606.2.2.2.2.1), (hB580606.2.2.2.2.2.1), (hB580606.2.2.2.2.2.2.1), bp580577, (hB580606.2.2.2.2.2.2.2.2)⟩, ht580580, ht580581, ht580582, ht580583, ht580584, ht580585, ht580586, ht580587, ht580588, ht580589, ht580590, ht580591, ht580592, ht580593, ht580594, ht580595, ht580596, ht580597, ht580598, ht580599, ht580600, ht580601, ht580602, ht580603, hB580607⟩
      have ac580622 : (fI (F580611 q580558) 9).toInt = p580565.toInt := by rw [he580614]; rfl
      have ac580623 : (fI (F580611 q580558) 10).toInt = p580566.toInt := by rw [he580614]; rfl
      have ac580624 : (fI (F580611 q580558) 32).toInt = p580577.toInt := by rw [he580614]; rfl
      exact G_iretA dr_cX17_told_55 rfl (Nat.le_of_ble_eq_true rfl) (Nat.le_of_ble_eq_true rfl) ⟨F580611, 0, rfl, rfl, hT580621, hs580615, (Nat.le_of_ble_eq_true rfl), (Nat.le_of_ble_eq_true rfl), (by have qa0 : Int32.toInt 0 = 0 := (by decide); omega), (by have qa0 : Int32.toInt 0 = 0 := (by decide); omega), (by have qa0 : Int32.toInt 0 = 0 := (by decide); omega), (fun R c1 c2 c3 c4 c5 c6 c7 => c1 F580611 p580571 n580613 fq580616 ehs580617 fq580618 r580620)⟩
    · have r580625 : p580571.toInt = 0 := gj_eq hc580619 (show Int32.toInt 0 = 0 by decide)
      have bp580571' : gB p580571 0 0 := ⟨by omega, by omega⟩
      refine G_aload_n 0 dr_cX17_told_47 rfl ?_
      have fq580626 : fI (F580611 q580558) 24 = p580572 := by rw [he580614]; rfl
      refine Gp_get 24 hm580561 he580614 dr_cX17_told_48 (gk_X17 D I) (Nat.le_of_ble_eq_true rfl) wr_7_98 rfl ?_
      have bp580572 : gB p580572 (-2147483648) 2147483647 := (gB_any p580572)
      refine G_goto 55 dr_cX17_told_51 (by decide +kernel) ?_
      have hT580627 : RS D I P580556 F580611 γ el := RS_set hT n580613 htq580558 (by decide) ⟨q580563, q580564, p580565, p580566, p580567, p580568, p580569, p580570, p580571, p580572, p580573, p580574, p580575, 0, p580577, p580578, p580579, he580614, ⟨bp580565, bp580566, (hB580606.2.2.1), (hB580606.2.2.2.1), (hB580606.2.2.2.2.1), (hB580606.2.2.2.2.2.1), (hB580606.2.2.2.2.2.2.1), bp580577, (hB580606.2.2.2.2.2.2.2.2)⟩, ht580580, ht580581, ht580582, ht580583, ht580584, ht580585, ht580586, ht580587, ht580588, ht580589, ht580590, ht580591, ht580592, ht580593, ht580594, ht580595, ht580596, ht580597, ht580598, ht580599, ht580600, ht580601, ht580602, ht580603, hB580607⟩
      have ac580628 : (fI (F580611 q580558) 9).toInt = p580565.toInt := by rw [he580614]; rfl
      have ac580629 : (fI (F580611 q580558) 10).toInt = p580566.toInt := by rw [he580614]; rfl
      have ac580630 : (fI (F580611 q580558) 32).toInt = p580577.toInt := by rw [he580614]; rfl
      exact G_iretA dr_cX17_told_55 rfl (Nat.le_of_ble_eq_true rfl) (Nat.le_of_ble_eq_true rfl) ⟨F580611, p580572, rfl, rfl, hT580627, hs580615, (Nat.le_of_ble_eq_true rfl), (Nat.le_of_ble_eq_true rfl), (by omega), (by omega), (by omega), (fun R c1 c2 c3 c4 c5 c6 c7 => c2 F580611 p580571 p580572 n580613 fq580616 ehs580617 fq580618 r580625 fq580626)⟩
  by_cases hs580631 : p580559 = 1
  · have ehs580631 : p580559.toInt = 1 := gj_eq hs580631 (show Int32.toInt 1 = 1 by decide)
    have bp580559' : gB p580559 1 1 := ⟨by omega, by omega⟩
    refine G_eqi (y := 1) hs580631 ?_
    refine G_tableIn 56 dr_cX17_told_6 (by decide) (by decide) (by first | rfl | decide) (by decide) ?_
    refine G_aload_n 0 dr_cX17_told_56 rfl ?_
    have fq580632 : fI (F580611 q580558) 25 = p580573 := by rw [he580614]; rfl
    refine Gp_get 25 hm580561 he580614 dr_cX17_told_57 (gk_X17 D I) (Nat.le_of_ble_eq_true rfl) wr_7_99 rfl ?_
    have bp580573 : gB p580573 0 512 := (hB580606.2.2.2.2.1)
    have hT580633 : RS D I P580556 F580611 γ el := RS_set hT n580613 htq580558 (by decide) ⟨q580563, q580564, p580565, p580566, p580567, p580568, p580569, p580570, p580571, p580572, p580573, p580574, p580575, 0, p580577, p580578, p580579, he580614, ⟨bp580565, bp580566, (hB580606.2.2.1), (hB580606.2.2.2.1), bp580573, (hB580606.2.2.2.2.2.1), (hB580606.2.2.2.2.2.2.1), bp580577, (hB580606.2.2.2.2.2.2.2.2)⟩, ht580580, ht580581, ht580582, ht580583, ht580584, ht580585, ht580586, ht580587, ht580588, ht580589, ht580590, ht580591, ht580592, ht580593, ht580594, ht580595, ht580596, ht580597, ht580598, ht580599, ht580600, ht580601, ht580602, ht580603, hB580607⟩
    have ac580634 : (fI (F580611 q580558) 9).toInt = p580565.toInt := by rw [he580614]; rfl
    have ac580635 : (fI (F580611 q580558) 10).toInt = p580566.toInt := by rw [he580614]; rfl
    have ac580636 : (fI (F580611 q580558) 32).toInt = p580577.toInt := by rw [he580614]; rfl
    exact G_iretA dr_cX17_told_60 rfl (Nat.le_of_ble_eq_true rfl) (Nat.le_of_ble_eq_true rfl) ⟨F580611, p580573, rfl, rfl, hT580633, hs580615, (Nat.le_of_ble_eq_true rfl), (Nat.le_of_ble_eq_true rfl), (by omega), (by omega), (by omega), (fun R c1 c2 c3 c4 c5 c6 c7 => c3 F580611 p580573 n580613 fq580616 ehs580631 fq580632)⟩
  by_cases hs580637 : p580559 = 2
  · have ehs580637 : p580559.toInt = 2 := gj_eq hs580637 (show Int32.toInt 2 = 2 by decide)
    have bp580559' : gB p580559 2 2 := ⟨by omega, by omega⟩
    refine G_eqi (y := 2) hs580637 ?_
    refine G_tableIn 61 dr_cX17_told_6 (by decide) (by decide) (by first | rfl | decide) (by decide) ?_
    refine G_aload_n 0 dr_cX17_told_61 rfl ?_
    have fq580638 : fI (F580611 q580558) 26 = p580574 := by rw [he580614]; rfl
    refine Gp_get 26 hm580561 he580614 dr_cX17_told_62 (gk_X17 D I) (Nat.le_of_ble_eq_true rfl) wr_7_100 rfl ?_
    have bp580574 : gB p580574 0 100000 := (hB580606.2.2.2.2.2.1)
    have hT580639 : RS D I P580556 F580611 γ el := RS_set hT n580613 htq580558 (by decide) ⟨q580563, q580564, p580565, p580566, p580567, p580568, p580569, p580570, p580571, p580572, p580573, p580574, p580575, 0, p580577, p580578, p580579, he580614, ⟨bp580565, bp580566, (hB580606.2.2.1), (hB580606.2.2.2.1), (hB580606.2.2.2.2.1), bp580574, (hB580606.2.2.2.2.2.2.1), bp580577, (hB580606.2.2.2.2.2.2.2.2)⟩, ht580580, ht580581, ht580582, ht580583, ht580584, ht580585, ht580586, ht580587, ht580588, ht580589, ht580590, ht580591, ht580592, ht580593, ht580594, ht580595, ht580596, ht580597, ht580598, ht580599, ht580600, ht580601, ht580602, ht580603, hB580607⟩
    have ac580640 : (fI (F580611 q580558) 9).toInt = p580565.toInt := by rw [he580614]; rfl
    have ac580641 : (fI (F580611 q580558) 10).toInt = p580566.toInt := by rw [he580614]; rfl
    have ac580642 : (fI (F580611 q580558) 32).toInt = p580577.toInt := by rw [he580614]; rfl
    exact G_iretA dr_cX17_told_65 rfl (Nat.le_of_ble_eq_true rfl) (Nat.le_of_ble_eq_true rfl) ⟨F580611, p580574, rfl, rfl, hT580639, hs580615, (Nat.le_of_ble_eq_true rfl), (Nat.le_of_ble_eq_true rfl), (by omega), (by omega), (by omega), (fun R c1 c2 c3 c4 c5 c6 c7 => c4 F580611 p580574 n580613 fq580616 ehs580637 fq580638)⟩
  by_cases hs580643 : p580559 = 3
  · have ehs580643 : p580559.toInt = 3 := gj_eq hs580643 (show Int32.toInt 3 = 3 by decide)
    have bp580559' : gB p580559 3 3 := ⟨by omega, by omega⟩
    refine G_eqi (y := 3) hs580643 ?_
    refine G_tableIn 66 dr_cX17_told_6 (by decide) (by decide) (by first | rfl | decide) (by decide) ?_
    refine G_aload_n 0 dr_cX17_told_66 rfl ?_
    have fq580644 : fI (F580611 q580558) 27 = p580575 := by rw [he580614]; rfl
    refine Gp_get 27 hm580561 he580614 dr_cX17_told_67 (gk_X17 D I) (Nat.le_of_ble_eq_true rfl) wr_7_101 rfl ?_
    have bp580575 : gB p580575 0 2048 := (hB580606.2.2.2.2.2.2.1)
    have hT580645 : RS D I P580556 F580611 γ el := RS_set hT n580613 htq580558 (by decide) ⟨q580563, q580564, p580565, p580566, p580567, p580568, p580569, p580570, p580571, p580572, p580573, p580574, p580575, 0, p580577, p580578, p580579, he580614, ⟨bp580565, bp580566, (hB580606.2.2.1), (hB580606.2.2.2.1), (hB580606.2.2.2.2.1), (hB580606.2.2.2.2.2.1), bp580575, bp580577, (hB580606.2.2.2.2.2.2.2.2)⟩, ht580580, ht580581, ht580582, ht580583, ht580584, ht580585, ht580586, ht580587, ht580588, ht580589, ht580590, ht580591, ht580592, ht580593, ht580594, ht580595, ht580596, ht580597, ht580598, ht580599, ht580600, ht580601, ht580602, ht580603, hB580607⟩
    have ac580646 : (fI (F580611 q580558) 9).toInt = p580565.toInt := by rw [he580614]; rfl
    have ac580647 : (fI (F580611 q580558) 10).toInt = p580566.toInt := by rw [he580614]; rfl
    have ac580648 : (fI (F580611 q580558) 32).toInt = p580577.toInt := by rw [he580614]; rfl
    exact G_iretA dr_cX17_told_70 rfl (Nat.le_of_ble_eq_true rfl) (Nat.le_of_ble_eq_true rfl) ⟨F580611, p580575, rfl, rfl, hT580645, hs580615, (Nat.le_of_ble_eq_true rfl), (Nat.le_of_ble_eq_true rfl), (by omega), (by omega), (by omega), (fun R c1 c2 c3 c4 c5 c6 c7 => c5 F580611 p580575 n580613 fq580616 ehs580643 fq580644)⟩
  by_cases hs580649 : p580559 = 4
  · have ehs580649 : p580559.toInt = 4 := gj_eq hs580649 (show Int32.toInt 4 = 4 by decide)
    have bp580559' : gB p580559 4 4 := ⟨by omega, by omega⟩
    refine G_eqi (y := 4) hs580649 ?_
    refine G_tableIn 71 dr_cX17_told_6 (by decide) (by decide) (by first | rfl | decide) (by decide) ?_
    refine G_aload_n 0 dr_cX17_told_71 rfl ?_
    have fq580650 : fI (F580611 q580558) 23 = p580571 := by rw [he580614]; rfl
    refine Gp_get 23 hm580561 he580614 dr_cX17_told_72 (gk_X17 D I) (Nat.le_of_ble_eq_true rfl) wr_7_97 rfl ?_
    have bp580571 : gB p580571 (-2147483648) 2147483647 := (gB_any p580571)
    have hT580651 : RS D I P580556 F580611 γ el := RS_set hT n580613 htq580558 (by decide) ⟨q580563, q580564, p580565, p580566, p580567, p580568, p580569, p580570, p580571, p580572, p580573, p580574, p580575, 0, p580577, p580578, p580579, he580614, ⟨bp580565, bp580566, (hB580606.2.2.1), (hB580606.2.2.2.1), (hB580606.2.2.2.2.1), (hB580606.2.2.2.2.2.1), (hB580606.2.2.2.2.2.2.1), bp580577, (hB580606.2.2.2.2.2.2.2.2)⟩, ht580580, ht580581, ht580582, ht580583, ht580584, ht580585, ht580586, ht580587, ht580588, ht580589, ht580590, ht580591, ht580592, ht580593, ht580594, ht580595, ht580596, ht580597, ht580598, ht580599, ht580600, ht580601, ht580602, ht580603, hB580607⟩
    have ac580652 : (fI (F580611 q580558) 9).toInt = p580565.toInt := by rw [he580614]; rfl
    have ac580653 : (fI (F580611 q580558) 10).toInt = p580566.toInt := by rw [he580614]; rfl
    have ac580654 : (fI (F580611 q580558) 32).toInt = p580577.toInt := by rw [he580614]; rfl
    exact G_iretA dr_cX17_told_75 rfl (Nat.le_of_ble_eq_true rfl) (Nat.le_of_ble_eq_true rfl) ⟨F580611, p580571, rfl, rfl, hT580651, hs580615, (Nat.le_of_ble_eq_true rfl), (Nat.le_of_ble_eq_true rfl), (by omega), (by omega), (by omega), (fun R c1 c2 c3 c4 c5 c6 c7 => c6 F580611 p580571 n580613 fq580616 ehs580649 fq580650)⟩
  have ehs580617 := lv_neT hs580617 (show Int32.toInt 0 = 0 by decide)
  have ehs580631 := lv_neT hs580631 (show Int32.toInt 1 = 1 by decide)
  have ehs580637 := lv_neT hs580637 (show Int32.toInt 2 = 2 by decide)
  have ehs580643 := lv_neT hs580643 (show Int32.toInt 3 = 3 by decide)
  have ehs580649 := lv_neT hs580649 (show Int32.toInt 4 = 4 by decide)
  refine G_tableOut 76 dr_cX17_told_6 (by omega) (by decide) ?_
  refine G_aload_n 0 dr_cX17_told_76 rfl ?_
  refine G_iconst 1 dr_cX17_told_77 (by decide +kernel) ?_
  have hT580655 : RS D I P580556 F580611 γ el := RS_set hT n580613 htq580558 (by decide) ⟨q580563, q580564, p580565, p580566, p580567, p580568, p580569, p580570, p580571, p580572, p580573, p580574, p580575, 0, p580577, p580578, p580579, he580614, ⟨bp580565, bp580566, (hB580606.2.2.1), (hB580606.2.2.2.1), (hB580606.2.2.2.2.1), (hB580606.2.2.2.2.2.1), (hB580606.2.2.2.2.2.2.1), bp580577, (hB580606.2.2.2.2.2.2.2.2)⟩, ht580580, ht580581, ht580582, ht580583, ht580584, ht580585, ht580586, ht580587, ht580588, ht580589, ht580590, ht580591, ht580592, ht580593, ht580594, ht580595, ht580596, ht580597, ht580598, ht580599, ht580600, ht580601, ht580602, ht580603, hB580607⟩
  have ac580724 : (fI (F580611 q580558) 9).toInt = p580565.toInt := by rw [he580614]; rfl
  have ac580725 : (fI (F580611 q580558) 10).toInt = p580566.toInt := by rw [he580614]; rfl
  have ac580726 : (fI (F580611 q580558) 32).toInt = p580577.toInt := by rw [he580614]; rfl
  refine Gw_callV (As := [.int 1]) (gV_ok D I) (ct_580660_SpillForgeModel_no l hl0 D I γ el P580556 F580611 q580558 1 hT580655 htq580558) dr_cX17_told_78 ⟨wr_7_191, wr_1_14, wr_7_194, by decide, rfl, (Nat.le_of_ble_eq_true rfl), (Nat.le_of_ble_eq_true rfl)⟩ wr_7_193 wr_p_73 hm580561 he580614 rfl (show 0 + 0 ≤ 0 by first | omega | decide) (show 0 + 0 ≤ 0 by first | omega | decide) (Nat.le_of_ble_eq_true rfl) (fun r580730 w580731 dc580727 ds580728 hp580729 => ?_) (fun _ _ _ _ _ z => z.elim)
  obtain ⟨F580737, rfl, rfl, hT580738, hs580739, hdc, hds, x580732, x580733, x580734, x580735, ht580736⟩ := hp580729
  have hs580740 : rStr γ [] F580557 F580737 := rStr_tr hs580615 hs580739
  rw [show Int32.toInt 1 = 1 from by decide] at x580735
  change G _ _ _ _ _ _ _ (.int 0 :: _) _ _ _
  refine G_widen (cs' := 0) (sl' := 0) (by omega) (by omega) ?_
  have hm580741 : q580558 ∈ P580556 := RS_m hT580738 htq580558 (by decide)
  refine rk10_e (show rk_10 γ (F580737 q580558) from RS_o hT580738 htq580558) (fun q580743 q580744 p580745 p580746 p580747 p580748 p580749 p580750 p580751 p580752 p580753 p580754 p580755 p580756 p580757 p580758 p580759 he580742 hB580786 ht580760 ht580761 ht580762 ht580763 ht580764 ht580765 ht580766 ht580767 ht580768 ht580769 ht580770 ht580771 ht580772 ht580773 ht580774 ht580775 ht580776 ht580777 ht580778 ht580779 ht580780 ht580781 ht580782 ht580783 hB580787 => ?_)
  have ac580788 : (fI (F580737 q580558) 9).toInt = p580745.toInt := by rw [he580742]; rfl
  have bp580745 : gB p580745 0 1 := (hB580786.1)
  have ac580789 : (fI (F580737 q580558) 10).toInt = p580746.toInt := by rw [he580742]; rfl
  have bp580746 : gB p580746 0 1 := (hB580786.2.1)
  have ac580790 : (fI (F580737 q580558) 32).toInt = p580757.toInt := by rw [he580742]; rfl
  have bp580757 : gB p580757 0 8192 := (hB580786.2.2.2.2.2.2.2.1)
  have ac580791 : (fI (F580737 q580558) 9).toInt = p580745.toInt := by rw [he580742]; rfl
  have ac580792 : (fI (F580737 q580558) 10).toInt = p580746.toInt := by rw [he580742]; rfl
  have ac580793 : (fI (F580737 q580558) 32).toInt = p580757.toInt := by rw [he580742]; rfl
  exact G_iretA dr_cX17_told_81 rfl (Nat.le_of_ble_eq_true rfl) (Nat.le_of_ble_eq_true rfl) ⟨F580737, 0, rfl, rfl, hT580738, hs580740, (Nat.le_of_ble_eq_true rfl), (Nat.le_of_ble_eq_true rfl), (by have qa0 : Int32.toInt 0 = 0 := (by decide); omega), (by have qa0 : Int32.toInt 0 = 0 := (by decide); omega), (by have qa0 : Int32.toInt 0 = 0 := (by decide); omega), (fun R c1 c2 c3 c4 c5 c6 c7 => c7 F580611 F580737 n580613 fq580616 ehs580617 ehs580631 ehs580637 ehs580643 ehs580649 hT580738 hs580739 x580732 x580733 x580734 x580735 ht580736)⟩
/- tr_RModel_shown: result, F -/
def tr_RModel_shown (D : va_G) (I : FieldType → ClassId) (γ el : Nat → Nat → Nat) (P : List Nat) (F : Nat → va_E) (q0 : Nat) (a1 : Int32) (o1 : Int32) (o2 : Nat → va_E) : Prop := ∀ R : (Int32) → (Nat → va_E) → Prop,
  (∀ (x1 : Nat → va_E) (x2 : Nat → va_E), (∀ b, b ≠ q0 → x1 b = F b) → x1 q0 = cF (F q0) 30 (.int 0) → a1.toInt < 0 → RS D I P x2 γ el → rStr γ [] x1 x2 → (fI (x2 q0) 9).toInt = (fI (x1 q0) 9).toInt → (fI (x2 q0) 10).toInt = (fI (x1 q0) 10).toInt → (fI (x2 q0) 32).toInt = (fI (x1 q0) 32).toInt → (fI (x2 q0) 30).toInt = 1 → tr_RModel_no D I γ el x1 q0 (1 : Int32) x2 → R (0 : Int32) x2) →
  (∀ (x1 : Nat → va_E) (x2 : Int32) (x3 : Nat → va_E), (∀ b, b ≠ q0 → x1 b = F b) → x1 q0 = cF (F q0) 30 (.int 0) → 0 ≤ a1.toInt → fI (x1 q0) 25 = x2 → x2.toInt ≤ a1.toInt → RS D I P x3 γ el → rStr γ [] x1 x3 → (fI (x3 q0) 9).toInt = (fI (x1 q0) 9).toInt → (fI (x3 q0) 10).toInt = (fI (x1 q0) 10).toInt → (fI (x3 q0) 32).toInt = (fI (x1 q0) 32).toInt → (fI (x3 q0) 30).toInt = 1 → tr_RModel_no D I γ el x1 q0 (1 : Int32) x3 → R (0 : Int32) x3) →
  (∀ (x1 : Nat → va_E) (x2 : Int32) (x3 : Nat → Int32) (x4 : Int32), (∀ b, b ≠ q0 → x1 b = F b) → x1 q0 = cF (F q0) 30 (.int 0) → 0 ≤ a1.toInt → fI (x1 q0) 25 = x2 → a1.toInt < x2.toInt → fR (x1 q0) 22 = (γ 9 22) → x1 (γ 9 22) = .inl (I .int, 512, .inl x3) → x4 = x3 a1.toNatClampNeg → R x4 x1) →
  R o1 o2
abbrev ky_580800_SpillForgeModel_shown : gKey := (cX17_shown, 2, "SpillForgeModel", (some FieldType.int), [], "shown", fun _ _ => True)
def pt_580800_SpillForgeModel_shown (D : va_G) (I : FieldType → ClassId) (γ el : Nat → Nat → Nat) (P580796 : List Nat) (F580797 : Nat → va_E) (q580798 : Nat) (p580799 : Int32) : Option Value → va_W → Nat → Nat → Prop := fun r w dc ds => ∃ (F581016 : Nat → va_E) (o581015 : Int32), r = some (.int o581015) ∧ w = va_pl P580796 F581016 ∧ RS D I P580796 F581016 γ el ∧ rStr γ [] F580797 F581016 ∧ dc ≤ 0 ∧ ds ≤ 0 ∧ (fI (F581016 q580798) 9).toInt = (fI (F580797 q580798) 9).toInt ∧ (fI (F581016 q580798) 10).toInt = (fI (F580797 q580798) 10).toInt ∧ (fI (F581016 q580798) 32).toInt = (fI (F580797 q580798) 32).toInt ∧ tr_RModel_shown D I γ el P580796 F580797 q580798 p580799 o581015 F581016
set_option maxRecDepth 100000 in
set_option maxHeartbeats 4000000 in
theorem ct_580800_SpillForgeModel_shown (l : Launch) (hl0 : l.stackTraces = false) (D : va_G) (I : FieldType → ClassId) (γ el : Nat → Nat → Nat) (P580796 : List Nat) (F580797 : Nat → va_E) (q580798 : Nat) (p580799 : Int32) (hT : RS D I P580796 F580797 γ el) (htq580798 : rKd γ q580798 10) : CtA (gV D I) l yX17_shown cX17_shown 2 (some FieldType.int) 1 21 0 0 [.ref q580798, .int p580799] (va_pl P580796 F580797) (pt_580800_SpillForgeModel_shown D I γ el P580796 F580797 q580798 p580799) gNA := by
  refine CtA_of hl0 (by decide) (Nat.le_of_ble_eq_true rfl) ?_
  have bp580799 := gB_any p580799
  have hm580801 : q580798 ∈ P580796 := RS_m hT htq580798 (by decide)
  refine rk10_e (show rk_10 γ (F580797 q580798) from RS_o hT htq580798) (fun q580803 q580804 p580805 p580806 p580807 p580808 p580809 p580810 p580811 p580812 p580813 p580814 p580815 p580816 p580817 p580818 p580819 he580802 hB580846 ht580820 ht580821 ht580822 ht580823 ht580824 ht580825 ht580826 ht580827 ht580828 ht580829 ht580830 ht580831 ht580832 ht580833 ht580834 ht580835 ht580836 ht580837 ht580838 ht580839 ht580840 ht580841 ht580842 ht580843 hB580847 => ?_)
  have ac580848 : (fI (F580797 q580798) 9).toInt = p580805.toInt := by rw [he580802]; rfl
  have bp580805 : gB p580805 0 1 := (hB580846.1)
  have ac580849 : (fI (F580797 q580798) 10).toInt = p580806.toInt := by rw [he580802]; rfl
  have bp580806 : gB p580806 0 1 := (hB580846.2.1)
  have ac580850 : (fI (F580797 q580798) 32).toInt = p580817.toInt := by rw [he580802]; rfl
  have bp580817 : gB p580817 0 8192 := (hB580846.2.2.2.2.2.2.2.1)
  refine G_aload_n 0 dr_cX17_shown_0 rfl ?_
  refine G_iconst 0 dr_cX17_shown_1 (by decide +kernel) ?_
  refine Gp_put 30 hm580801 he580802 dr_cX17_shown_2 (gk_X17 D I) (Nat.le_of_ble_eq_true rfl) wr_7_104 rfl rfl rfl (Nat.le_of_ble_eq_true rfl) (fun F580851 e580852 n580853 => ?_)
  have he580854 : F580851 q580798 = .inr (22, [.ref (γ 9 0), .ref (γ 9 1), .ref (γ 9 2), .ref (γ 9 3), .ref (γ 9 4), .ref (γ 9 5), .ref (γ 9 6), .ref (γ 9 7), .ref (γ 9 8), .int p580805, .int p580806, .int p580807, .int p580808, .int p580809, .int p580810, .ref (γ 9 15), .ref (γ 9 16), .ref (γ 9 17), .ref (γ 9 18), .ref (γ 9 19), .ref (γ 9 20), .ref (γ 9 21), .ref (γ 9 22), .int p580811, .int p580812, .int p580813, .int p580814, .int p580815, .ref q580803, .ref (γ 9 29), .int 0, .ref (γ 9 31), .int p580817, .int p580818, .int p580819, .ref q580804]) := e580852
  have hs580855 : rStr γ [] F580797 F580851 := rStr_put (rStr_rf (γ := γ) (W := []) (F := F580797)) n580853 htq580798 (by decide)
  have fq580856 : F580851 q580798 = cF (F580797 q580798) 30 (.int 0) := by rw [he580854, he580802]; rfl
  refine G_iload_n 1 dr_cX17_shown_5 rfl ?_
  refine G_if_lt 26 dr_cX17_shown_6 (by decide +kernel) (fun hc580857 => ?_) (fun hc580857 => ?_)
  · have r580858 : p580799.toInt < 0 := gj_lt hc580857 (show Int32.toInt 0 = 0 by decide)
    have bp580799' : gB p580799 (-2147483648) (-1) := ⟨by omega, by omega⟩
    refine G_aload_n 0 dr_cX17_shown_26 rfl ?_
    refine G_iconst 1 dr_cX17_shown_27 (by decide +kernel) ?_
    have hT580859 : RS D I P580796 F580851 γ el := RS_set hT n580853 htq580798 (by decide) ⟨q580803, q580804, p580805, p580806, p580807, p580808, p580809, p580810, p580811, p580812, p580813, p580814, p580815, 0, p580817, p580818, p580819, he580854, ⟨bp580805, bp580806, (hB580846.2.2.1), (hB580846.2.2.2.1), (hB580846.2.2.2.2.1), (hB580846.2.2.2.2.2.1), (hB580846.2.2.2.2.2.2.1), bp580817, (hB580846.2.2.2.2.2.2.2.2)⟩, ht580820, ht580821, ht580822, ht580823, ht580824, ht580825, ht580826, ht580827, ht580828, ht580829, ht580830, ht580831, ht580832, ht580833, ht580834, ht580835, ht580836, ht580837, ht580838, ht580839, ht580840, ht580841, ht580842, ht580843, hB580847⟩
    have ac580860 : (fI (F580851 q580798) 9).toInt = p580805.toInt := by rw [he580854]; rfl
    have ac580861 : (fI (F580851 q580798) 10).toInt = p580806.toInt := by rw [he580854]; rfl
    have ac580862 : (fI (F580851 q580798) 32).toInt = p580817.toInt := by rw [he580854]; rfl
    refine Gw_callV (As := [.int 1]) (gV_ok D I) (ct_580660_SpillForgeModel_no l hl0 D I γ el P580796 F580851 q580798 1 hT580859 htq580798) dr_cX17_shown_28 ⟨wr_7_191, wr_1_14, wr_7_194, by decide, rfl, (Nat.le_of_ble_eq_true rfl), (Nat.le_of_ble_eq_true rfl)⟩ wr_7_193 wr_p_73 hm580801 he580854 rfl (show 0 + 0 ≤ 0 by first | omega | decide) (show 0 + 0 ≤ 0 by first | omega | decide) (Nat.le_of_ble_eq_true rfl) (fun r580866 w580867 dc580863 ds580864 hp580865 => ?_) (fun _ _ _ _ _ z => z.elim)
    obtain ⟨F580873, rfl, rfl, hT580874, hs580875, hdc, hds, x580868, x580869, x580870, x580871, ht580872⟩ := hp580865
    have hs580876 : rStr γ [] F580797 F580873 := rStr_tr hs580855 hs580875
    rw [show Int32.toInt 1 = 1 from by decide] at x580871
    change G _ _ _ _ _ _ _ (.int 0 :: _) _ _ _
    refine G_widen (cs' := 0) (sl' := 0) (by omega) (by omega) ?_
    have hm580877 : q580798 ∈ P580796 := RS_m hT580874 htq580798 (by decide)
    refine rk10_e (show rk_10 γ (F580873 q580798) from RS_o hT580874 htq580798) (fun q580879 q580880 p580881 p580882 p580883 p580884 p580885 p580886 p580887 p580888 p580889 p580890 p580891 p580892 p580893 p580894 p580895 he580878 hB580922 ht580896 ht580897 ht580898 ht580899 ht580900 ht580901 ht580902 ht580903 ht580904 ht580905 ht580906 ht580907 ht580908 ht580909 ht580910 ht580911 ht580912 ht580913 ht580914 ht580915 ht580916 ht580917 ht580918 ht580919 hB580923 => ?_)
    have ac580924 : (fI (F580873 q580798) 9).toInt = p580881.toInt := by rw [he580878]; rfl
    have bp580881 : gB p580881 0 1 := (hB580922.1)
    have ac580925 : (fI (F580873 q580798) 10).toInt = p580882.toInt := by rw [he580878]; rfl
    have bp580882 : gB p580882 0 1 := (hB580922.2.1)
    have ac580926 : (fI (F580873 q580798) 32).toInt = p580893.toInt := by rw [he580878]; rfl
    have bp580893 : gB p580893 0 8192 := (hB580922.2.2.2.2.2.2.2.1)
    have ac580927 : (fI (F580873 q580798) 9).toInt = p580881.toInt := by rw [he580878]; rfl
    have ac580928 : (fI (F580873 q580798) 10).toInt = p580882.toInt := by rw [he580878]; rfl
    have ac580929 : (fI (F580873 q580798) 32).toInt = p580893.toInt := by rw [he580878]; rfl
    exact G_iretA dr_cX17_shown_31 rfl (Nat.le_of_ble_eq_true rfl) (Nat.le_of_ble_eq_true rfl) ⟨F580873, 0, rfl, rfl, hT580874, hs580876, (Nat.le_of_ble_eq_true rfl), (Nat.le_of_ble_eq_true rfl), (by have qa0 : Int32.toInt 0 = 0 := (by decide); omega), (by have qa0 : Int32.toInt 0 = 0 := (by decide); omega), (by have qa0 : Int32.toInt 0 = 0 := (by decide); omega), (fun R c1 c2 c3 => c1 F580851 F580873 n580853 fq580856 r580858 hT580874 hs580875 x580868 x580869 x580870 x580871 ht580872)⟩
  · have r580930 : 0 ≤ p580799.toInt := gj_nlt hc580857 (show Int32.toInt 0 = 0 by decide)
    have bp580799' : gB p580799 0 2147483647 := ⟨by omega, by omega⟩
    refine G_iload_n 1 dr_cX17_shown_9 rfl ?_
    refine G_aload_n 0 dr_cX17_shown_10 rfl ?_
    have fq580931 : fI (F580851 q580798) 25 = p580813 := by rw [he580854]; rfl
    refine Gp_get 25 hm580801 he580854 dr_cX17_shown_11 (gk_X17 D I) (Nat.le_of_ble_eq_true rfl) wr_7_99 rfl ?_
    have bp580813 : gB p580813 0 512 := (hB580846.2.2.2.2.1)
    refine G_icmp_ge 26 dr_cX17_shown_14 (by decide +kernel) (fun hc580932 => ?_) (fun hc580932 => ?_)
    · have r580933 : p580813.toInt ≤ p580799.toInt := gC_le hc580932
      refine G_aload_n 0 dr_cX17_shown_26 rfl ?_
      refine G_iconst 1 dr_cX17_shown_27 (by decide +kernel) ?_
      have hT580934 : RS D I P580796 F580851 γ el := RS_set hT n580853 htq580798 (by decide) ⟨q580803, q580804, p580805, p580806, p580807, p580808, p580809, p580810, p580811, p580812, p580813, p580814, p580815, 0, p580817, p580818, p580819, he580854, ⟨bp580805, bp580806, (hB580846.2.2.1), (hB580846.2.2.2.1), bp580813, (hB580846.2.2.2.2.2.1), (hB580846.2.2.2.2.2.2.1), bp580817, (hB580846.2.2.2.2.2.2.2.2)⟩, ht580820, ht580821, ht580822, ht580823, ht580824, ht580825, ht580826, ht580827, ht580828, ht580829, ht580830, ht580831, ht580832, ht580833, ht580834, ht580835, ht580836, ht580837, ht580838, ht580839, ht580840, ht580841, ht580842, ht580843, hB580847⟩
      have ac580935 : (fI (F580851 q580798) 9).toInt = p580805.toInt := by rw [he580854]; rfl
      have ac580936 : (fI (F580851 q580798) 10).toInt = p580806.toInt := by rw [he580854]; rfl
      have ac580937 : (fI (F580851 q580798) 32).toInt = p580817.toInt := by rw [he580854]; rfl
      refine Gw_callV (As := [.int 1]) (gV_ok D I) (ct_580660_SpillForgeModel_no l hl0 D I γ el P580796 F580851 q580798 1 hT580934 htq580798) dr_cX17_shown_28 ⟨wr_7_191, wr_1_14, wr_7_194, by decide, rfl, (Nat.le_of_ble_eq_true rfl), (Nat.le_of_ble_eq_true rfl)⟩ wr_7_193 wr_p_73 hm580801 he580854 rfl (show 0 + 0 ≤ 0 by first | omega | decide) (show 0 + 0 ≤ 0 by first | omega | decide) (Nat.le_of_ble_eq_true rfl) (fun r580941 w580942 dc580938 ds580939 hp580940 => ?_) (fun _ _ _ _ _ z => z.elim)
      obtain ⟨F580948, rfl, rfl, hT580949, hs580950, hdc, hds, x580943, x580944, x580945, x580946, ht580947⟩ := hp580940
      have hs580951 : rStr γ [] F580797 F580948 := rStr_tr hs580855 hs580950
      rw [show Int32.toInt 1 = 1 from by decide] at x580946
      change G _ _ _ _ _ _ _ (.int 0 :: _) _ _ _
      refine G_widen (cs' := 0) (sl' := 0) (by omega) (by omega) ?_
      have hm580952 : q580798 ∈ P580796 := RS_m hT580949 htq580798 (by decide)
      refine rk10_e (show rk_10 γ (F580948 q580798) from RS_o hT580949 htq580798) (fun q580954 q580955 p580956 p580957 p580958 p580959 p580960 p580961 p580962 p580963 p580964 p580965 p580966 p580967 p580968 p580969 p580970 he580953 hB580997 ht580971 ht580972 ht580973 ht580974 ht580975 ht580976 ht580977 ht580978 ht580979 ht580980 ht580981 ht580982 ht580983 ht580984 ht580985 ht580986 ht580987 ht580988 ht580989 ht580990 ht580991 ht580992 ht580993 ht580994 hB580998 => ?_)
      have ac580999 : (fI (F580948 q580798) 9).toInt = p580956.toInt := by rw [he580953]; rfl
      have bp580956 : gB p580956 0 1 := (hB580997.1)
      have ac581000 : (fI (F580948 q580798) 10).toInt = p580957.toInt := by rw [he580953]; rfl
      have bp580957 : gB p580957 0 1 := (hB580997.2.1)
      have ac581001 : (fI (F580948 q580798) 32).toInt = p580968.toInt := by rw [he580953]; rfl
      have bp580968 : gB p580968 0 8192 := (hB580997.2.2.2.2.2.2.2.1)
      have ac581002 : (fI (F580948 q580798) 9).toInt = p580956.toInt := by rw [he580953]; rfl
      have ac581003 : (fI (F580948 q580798) 10).toInt = p580957.toInt := by rw [he580953]; rfl
      have ac581004 : (fI (F580948 q580798) 32).toInt = p580968.toInt := by rw [he580953]; rfl
      exact G_iretA dr_cX17_shown_31 rfl (Nat.le_of_ble_eq_true rfl) (Nat.le_of_ble_eq_true rfl) ⟨F580948, 0, rfl, rfl, hT580949, hs580951, (Nat.le_of_ble_eq_true rfl), (Nat.le_of_ble_eq_true rfl), (by have qa0 : Int32.toInt 0 = 0 := (by decide); omega), (by have qa0 : Int32.toInt 0 = 0 := (by decide); omega), (by have qa0 : Int32.toInt 0 = 0 := (by decide); omega), (fun R c1 c2 c3 => c2 F580851 p580813 F580948 n580853 fq580856 r580930 fq580931 r580933 hT580949 hs580950 x580943 x580944 x580945 x580946 ht580947)⟩
    · have r581005 : p580799.toInt < p580813.toInt := gC_nle hc580932
      have bp580799'' : gB p580799 0 511 := ⟨by omega, by omega⟩
      have bp580813' : gB p580813 1 512 := ⟨by omega, by omega⟩
      refine G_aload_n 0 dr_cX17_shown_17 rfl ?_
      have fq581006 : fR (F580851 q580798) 22 = (γ 9 22) := by rw [he580854]; rfl
      refine Gp_get 22 hm580801 he580854 dr_cX17_shown_18 (gk_X17 D I) (Nat.le_of_ble_eq_true rfl) wr_7_96 rfl ?_
      refine G_iload_n 1 dr_cX17_shown_21 rfl ?_
      have hT581007 : RS D I P580796 F580851 γ el := RS_set hT n580853 htq580798 (by decide) ⟨q580803, q580804, p580805, p580806, p580807, p580808, p580809, p580810, p580811, p580812, p580813, p580814, p580815, 0, p580817, p580818, p580819, he580854, ⟨bp580805, bp580806, (hB580846.2.2.1), (hB580846.2.2.2.1), (gB_w bp580813' (by decide) (by decide)), (hB580846.2.2.2.2.2.1), (hB580846.2.2.2.2.2.2.1), bp580817, (hB580846.2.2.2.2.2.2.2.2)⟩, ht580820, ht580821, ht580822, ht580823, ht580824, ht580825, ht580826, ht580827, ht580828, ht580829, ht580830, ht580831, ht580832, ht580833, ht580834, ht580835, ht580836, ht580837, ht580838, ht580839, ht580840, ht580841, ht580842, ht580843, hB580847⟩
      have hm581008 : (γ 9 22) ∈ P580796 := RS_m hT581007 ht580838 (by decide)
      obtain ⟨f581010, he581009⟩ := show rk_24 I (F580851 (γ 9 22)) from RS_o hT581007 ht580838
      refine Gp_iald 0 hm581008 he581009 dr_cX17_shown_22 rfl (gB_in bp580799'' (by decide) (by decide)) (G_nam fun z581011 hz581011 => ?_)
      have bz581011 : gB z581011 (-2147483648) 2147483647 := gB_any z581011
      refine G_goto 31 dr_cX17_shown_23 (by decide +kernel) ?_
      have ac581012 : (fI (F580851 q580798) 9).toInt = p580805.toInt := by rw [he580854]; rfl
      have ac581013 : (fI (F580851 q580798) 10).toInt = p580806.toInt := by rw [he580854]; rfl
      have ac581014 : (fI (F580851 q580798) 32).toInt = p580817.toInt := by rw [he580854]; rfl
      exact G_iretA dr_cX17_shown_31 rfl (Nat.le_of_ble_eq_true rfl) (Nat.le_of_ble_eq_true rfl) ⟨F580851, z581011, rfl, rfl, hT581007, hs580855, (Nat.le_of_ble_eq_true rfl), (Nat.le_of_ble_eq_true rfl), (by omega), (by omega), (by omega), (fun R c1 c2 c3 => c3 F580851 p580813 f581010 z581011 n580853 fq580856 r580930 fq580931 r581005 fq581006 he581009 hz581011)⟩
/- tr_RModel_thrown: result -/
def tr_RModel_thrown (D : va_G) (I : FieldType → ClassId) (γ el : Nat → Nat → Nat) (F : Nat → va_E) (q0 : Nat) (o1 : Int32) : Prop := ∀ R : (Int32) → Prop,
  (∀ (x1 : Int32), fI (F q0) 30 = x1 → R x1) →
  R o1
abbrev ky_581020_SpillForgeModel_thrown : gKey := (cX17_thrown, 1, "SpillForgeModel", (some FieldType.int), [], "thrown", fun _ _ => True)
def pt_581020_SpillForgeModel_thrown (D : va_G) (I : FieldType → ClassId) (γ el : Nat → Nat → Nat) (P581017 : List Nat) (F581018 : Nat → va_E) (q581019 : Nat) : Option Value → va_W → Nat → Nat → Prop := fun r w dc ds => ∃ (o581071 : Int32), r = some (.int o581071) ∧ w = va_pl P581017 F581018 ∧ dc ≤ 0 ∧ ds ≤ 0 ∧ o581071.toInt = (fI (F581018 q581019) 30).toInt ∧ tr_RModel_thrown D I γ el F581018 q581019 o581071
set_option maxRecDepth 100000 in
set_option maxHeartbeats 4000000 in
theorem ct_581020_SpillForgeModel_thrown (l : Launch) (hl0 : l.stackTraces = false) (D : va_G) (I : FieldType → ClassId) (γ el : Nat → Nat → Nat) (P581017 : List Nat) (F581018 : Nat → va_E) (q581019 : Nat) (hT : RS D I P581017 F581018 γ el) (htq581019 : rKd γ q581019 10) : CtA (gV D I) l yX17_thrown cX17_thrown 1 (some FieldType.int) 0 0 0 0 [.ref q581019] (va_pl P581017 F581018) (pt_581020_SpillForgeModel_thrown D I γ el P581017 F581018 q581019) gNA := by
  refine CtA_of hl0 (by decide) (Nat.le_of_ble_eq_true rfl) ?_
  have hm581021 : q581019 ∈ P581017 := RS_m hT htq581019 (by decide)
  refine rk10_e (show rk_10 γ (F581018 q581019) from RS_o hT htq581019) (fun q581023 q581024 p581025 p581026 p581027 p581028 p581029 p581030 p581031 p581032 p581033 p581034 p581035 p581036 p581037 p581038 p581039 he581022 hB581066 ht581040 ht581041 ht581042 ht581043 ht581044 ht581045 ht581046 ht581047 ht581048 ht581049 ht581050 ht581051 ht581052 ht581053 ht581054 ht581055 ht581056 ht581057 ht581058 ht581059 ht581060 ht581061 ht581062 ht581063 hB581067 => ?_)
  have ac581068 : (fI (F581018 q581019) 30).toInt = p581036.toInt := by rw [he581022]; rfl
  have bp581036 : gB p581036 (-2147483648) 2147483647 := (gB_any p581036)
  refine G_aload_n 0 dr_cX17_thrown_0 rfl ?_
  have fq581069 : fI (F581018 q581019) 30 = p581036 := by rw [he581022]; rfl
  refine Gp_get 30 hm581021 he581022 dr_cX17_thrown_1 (gk_X17 D I) (Nat.le_of_ble_eq_true rfl) wr_7_104 rfl ?_
  have ac581070 : (fI (F581018 q581019) 30).toInt = p581036.toInt := by rw [he581022]; rfl
  exact G_iretA dr_cX17_thrown_4 rfl (Nat.le_of_ble_eq_true rfl) (Nat.le_of_ble_eq_true rfl) ⟨p581036, rfl, rfl, (Nat.le_of_ble_eq_true rfl), (Nat.le_of_ble_eq_true rfl), (by omega), (fun R c1 => c1 p581036 fq581069)⟩
/- tl_RModel_word_2: F, l3; out: F -/
def tl_RModel_word_2 (D : va_G) (I : FieldType → ClassId) (γ el : Nat → Nat → Nat) (P : List Nat) (F : Nat → va_E) (q0 : Nat) (a2 : Int32) (a1 : Int32) (s1 : Nat → va_E) (s2 : Int32) (k : Nat) (e1 : Nat → va_E) : Prop := ∀ R : (Nat → va_E) → (Int32) → Nat → (Nat → va_E) → Prop,
  (∀ (F_1 : Nat → va_E) (l3_1 : Int32), gB l3_1 0 4 → RS D I P F_1 γ el → rStr γ [99] F F_1 → (fI (F_1 q0) 9).toInt = (fI (F q0) 9).toInt → (fI (F_1 q0) 10).toInt = (fI (F q0) 10).toInt → (fI (F_1 q0) 32).toInt = (fI (F q0) 32).toInt → (fI (F_1 q0) 30).toInt = (fI (F q0) 30).toInt → 4 ≤ l3_1.toInt → R F_1 l3_1 31 F_1) →
  (∀ (F_1 : Nat → va_E) (l3_1 : Int32) (x1 : Int32) (x2 : Int32) (x3 : Int32) (x4 : Int32) (x5 : Int32) (x6 : Nat → Int32) (x7 : Nat → Int32) (x8 : Nat → va_E) (x9 : Int32) (k : Nat) (e1 : Nat → va_E), gB l3_1 0 4 → RS D I P F_1 γ el → rStr γ [99] F F_1 → (fI (F_1 q0) 9).toInt = (fI (F q0) 9).toInt → (fI (F_1 q0) 10).toInt = (fI (F q0) 10).toInt → (fI (F_1 q0) 32).toInt = (fI (F q0) 32).toInt → (fI (F_1 q0) 30).toInt = (fI (F q0) 30).toInt → l3_1.toInt < 4 → fR (F_1 q0) 31 = (γ 9 31) → x1.toInt = a2.toInt + l3_1.toInt → x2.toInt = 8 * l3_1.toInt → x3.toInt = 24 - x2.toInt → x4 = a1 >>> (x3 &&& 31) → x5 = x4.toInt8.toInt32 → F_1 (γ 9 31) = .inl (I .byte, 8192, .inl x6) → x7 = upd x6 x1.toNatClampNeg (vp_nar .byte x5) → (∀ b, b ≠ (γ 9 31) → x8 b = F_1 b) → x8 (γ 9 31) = .inl (I .byte, 8192, .inl x7) → x9.toInt = l3_1.toInt + 1 → R x8 x9 k e1 → R F_1 l3_1 k e1) →
  R s1 s2 k e1
/- tr_RModel_word: F -/
def tr_RModel_word (D : va_G) (I : FieldType → ClassId) (γ el : Nat → Nat → Nat) (P : List Nat) (F : Nat → va_E) (q0 : Nat) (a1 : Int32) (a2 : Int32) (o1 : Nat → va_E) : Prop := ∀ R : (Nat → va_E) → Prop,
  (∀ (x1 : Nat → va_E), tl_RModel_word_2 D I γ el P F q0 a2 a1 F (0 : Int32) 31 x1 → R x1) →
  R o1
abbrev ky_581149_SpillForgeModel_word : gKey := (cX17_word, 4, "SpillForgeModel", none, [], "word", fun _ _ => True)
def pt_581149_SpillForgeModel_word (D : va_G) (I : FieldType → ClassId) (γ el : Nat → Nat → Nat) (P581144 : List Nat) (F581145 : Nat → va_E) (q581146 : Nat) (p581147 : Int32) (p581148 : Int32) : Option Value → va_W → Nat → Nat → Prop := fun r w dc ds => ∃ (F581641 : Nat → va_E), r = none ∧ w = va_pl P581144 F581641 ∧ RS D I P581144 F581641 γ el ∧ rStr γ [99] F581145 F581641 ∧ dc ≤ 0 ∧ ds ≤ 0 ∧ (fI (F581641 q581146) 9).toInt = (fI (F581145 q581146) 9).toInt ∧ (fI (F581641 q581146) 10).toInt = (fI (F581145 q581146) 10).toInt ∧ (fI (F581641 q581146) 32).toInt = (fI (F581145 q581146) 32).toInt ∧ (fI (F581641 q581146) 30).toInt = (fI (F581145 q581146) 30).toInt ∧ tr_RModel_word D I γ el P581144 F581145 q581146 p581147 p581148 F581641
set_option maxRecDepth 100000 in
set_option maxHeartbeats 4000000 in
theorem ct_581149_SpillForgeModel_word (l : Launch) (hl0 : l.stackTraces = false) (D : va_G) (I : FieldType → ClassId) (γ el : Nat → Nat → Nat) (P581144 : List Nat) (F581145 : Nat → va_E) (q581146 : Nat) (p581147 : Int32) (p581148 : Int32) (hT : RS D I P581144 F581145 γ el) (htq581146 : rKd γ q581146 10) (bp581148 : gB p581148 0 8188) : CtA (gV D I) l yX17_word cX17_word 4 none 0 0 0 0 [.ref q581146, .int p581147, .int p581148] (va_pl P581144 F581145) (pt_581149_SpillForgeModel_word D I γ el P581144 F581145 q581146 p581147 p581148) gNA := by
  refine CtA_of hl0 (by decide) (Nat.le_of_ble_eq_true rfl) ?_
  have bp581147 := gB_any p581147
  have hm581150 : q581146 ∈ P581144 := RS_m hT htq581146 (by decide)
  refine rk10_e (show rk_10 γ (F581145 q581146) from RS_o hT htq581146) (fun q581152 q581153 p581154 p581155 p581156 p581157 p581158 p581159 p581160 p581161 p581162 p581163 p581164 p581165 p581166 p581167 p581168 he581151 hB581195 ht581169 ht581170 ht581171 ht581172 ht581173 ht581174 ht581175 ht581176 ht581177 ht581178 ht581179 ht581180 ht581181 ht581182 ht581183 ht581184 ht581185 ht581186 ht581187 ht581188 ht581189 ht581190 ht581191 ht581192 hB581196 => ?_)
  have ac581197 : (fI (F581145 q581146) 9).toInt = p581154.toInt := by rw [he581151]; rfl
  have bp581154 : gB p581154 0 1 := (hB581195.1)
  have ac581198 : (fI (F581145 q581146) 10).toInt = p581155.toInt := by rw [he581151]; rfl
  have bp581155 : gB p581155 0 1 := (hB581195.2.1)
  have ac581199 : (fI (F581145 q581146) 32).toInt = p581166.toInt := by rw [he581151]; rfl
  have bp581166 : gB p581166 0 8192 := (hB581195.2.2.2.2.2.2.2.1)
  have ac581200 : (fI (F581145 q581146) 30).toInt = p581165.toInt := by rw [he581151]; rfl
  have bp581165 : gB p581165 (-2147483648) 2147483647 := (gB_any p581165)
  refine G_iconst 0 dr_cX17_word_0 (by decide +kernel) ?_
  refine G_istore_n (L' := [(3, .int 0), (0, .ref q581146), (1, .int p581147), (2, .int p581148)]) dr_cX17_word_1 (Nat.le_of_ble_eq_true rfl) rfl ?_
  have hlp2_581548 : ∀ (n2_581548 : Nat) (F581542 : Nat → va_E) (g581541 : Int32), gB g581541 0 4 → RS D I P581144 F581542 γ el → rStr γ [99] F581145 F581542 → (fI (F581542 q581146) 9).toInt = (fI (F581145 q581146) 9).toInt → (fI (F581542 q581146) 10).toInt = (fI (F581145 q581146) 10).toInt → (fI (F581542 q581146) 32).toInt = (fI (F581145 q581146) 32).toInt → (fI (F581542 q581146) 30).toInt = (fI (F581145 q581146) 30).toInt → (∀ (k : Nat) (e1 : Nat → va_E), tl_RModel_word_2 D I γ el P581144 F581145 q581146 p581148 p581147 F581542 g581541 k e1 → tl_RModel_word_2 D I γ el P581144 F581145 q581146 p581148 p581147 F581145 (0 : Int32) k e1) → ((5 : Int) - g581541.toInt).toNat < n2_581548 → G (gV D I) l (gRm 0 0 0 0) (gMA (gV D I) (pt_581149_SpillForgeModel_word D I γ el P581144 F581145 q581146 p581147 p581148) gNA 0 0) ky_581149_SpillForgeModel_word 2 [(3, .int g581541), (0, .ref q581146), (1, .int p581147), (2, .int p581148)] [] (va_pl P581144 F581542) 0 0 := by
    intro n2_581548
    induction n2_581548 with
    | zero => intro F581542 g581541 bg581541 hT581543 hs581544 x581545 x581546 x581547 x581548 kt2_581549 hm2_581548; exact absurd hm2_581548 (Nat.not_lt_zero _)
    | succ n2_581548 ih2_581548 =>
      intro F581542 g581541 bg581541 hT581543 hs581544 x581545 x581546 x581547 x581548 kt2_581549 hm2_581548
      have hs581550 : rStr γ [99] F581145 F581542 := fun b h0 hb hw => (hs581544 b h0 hb hw).trans ((rStr_rf (γ := γ) (W := [99]) (F := F581145)) b h0 hb hw).symm
      have hs581551 : rStr γ [99] F581145 F581542 := rStr_tr (rStr_rf (γ := γ) (W := [99]) (F := F581145)) hs581550
      have hm581552 : q581146 ∈ P581144 := RS_m hT581543 htq581146 (by decide)
      refine rk10_e (show rk_10 γ (F581542 q581146) from RS_o hT581543 htq581146) (fun q581554 q581555 p581556 p581557 p581558 p581559 p581560 p581561 p581562 p581563 p581564 p581565 p581566 p581567 p581568 p581569 p581570 he581553 hB581597 ht581571 ht581572 ht581573 ht581574 ht581575 ht581576 ht581577 ht581578 ht581579 ht581580 ht581581 ht581582 ht581583 ht581584 ht581585 ht581586 ht581587 ht581588 ht581589 ht581590 ht581591 ht581592 ht581593 ht581594 hB581598 => ?_)
      have ac581599 : (fI (F581542 q581146) 9).toInt = p581556.toInt := by rw [he581553]; rfl
      have bp581556 : gB p581556 0 1 := (hB581597.1)
      have ac581600 : (fI (F581542 q581146) 10).toInt = p581557.toInt := by rw [he581553]; rfl
      have bp581557 : gB p581557 0 1 := (hB581597.2.1)
      have ac581601 : (fI (F581542 q581146) 32).toInt = p581568.toInt := by rw [he581553]; rfl
      have bp581568 : gB p581568 0 8192 := (hB581597.2.2.2.2.2.2.2.1)
      have ac581602 : (fI (F581542 q581146) 30).toInt = p581567.toInt := by rw [he581553]; rfl
      have bp581567 : gB p581567 (-2147483648) 2147483647 := (gB_any p581567)
      have ac581603 : (fI (F581542 q581146) 9).toInt = p581556.toInt := by rw [he581553]; rfl
      have ac581604 : (fI (F581542 q581146) 10).toInt = p581557.toInt := by rw [he581553]; rfl
      have ac581605 : (fI (F581542 q581146) 32).toInt = p581568.toInt := by rw [he581553]; rfl
      have ac581606 : (fI (F581542 q581146) 30).toInt = p581567.toInt := by rw [he581553]; rfl
      refine G_iload_n 0 dr_cX17_word_2 rfl ?_
      refine G_iconst 4 dr_cX17_word_3 (by decide +kernel) ?_
      refine G_icmp_ge 31 dr_cX17_word_4 (by decide +kernel) (fun hc581607 => ?_) (fun hc581607 => ?_)
      · have r581608 : 4 ≤ g581541.toInt := gj_leL hc581607 (show Int32.toInt 4 = 4 by decide)
        have bg581541' : gB g581541 4 4 := ⟨by omega, by omega⟩
        have hx581609 : tl_RModel_word_2 D I γ el P581144 F581145 q581146 p581148 p581147 F581145 (0 : Int32) 31 F581542 := kt2_581549 31 F581542 (fun R c1 c2 => c1 F581542 g581541 bg581541 hT581543 hs581544 x581545 x581546 x581547 x581548 r581608)
        have ac581610 : (fI (F581542 q581146) 9).toInt = p581556.toInt := by rw [he581553]; rfl
        have ac581611 : (fI (F581542 q581146) 10).toInt = p581557.toInt := by rw [he581553]; rfl
        have ac581612 : (fI (F581542 q581146) 32).toInt = p581568.toInt := by rw [he581553]; rfl
        have ac581613 : (fI (F581542 q581146) 30).toInt = p581567.toInt := by rw [he581553]; rfl
        exact G_vretA dr_cX17_word_31 rfl (Nat.le_of_ble_eq_true rfl) (Nat.le_of_ble_eq_true rfl) ⟨F581542, rfl, rfl, hT581543, hs581544, (Nat.le_of_ble_eq_true rfl), (Nat.le_of_ble_eq_true rfl), (by omega), (by omega), (by omega), (by omega), (fun R c1 => c1 F581542 hx581609)⟩
      · have r581614 : g581541.toInt < 4 := gj_nleL hc581607 (show Int32.toInt 4 = 4 by decide)
        have bg581541' : gB g581541 0 3 := ⟨by omega, by omega⟩
        refine G_aload_n 1 dr_cX17_word_7 rfl ?_
        have fq581615 : fR (F581542 q581146) 31 = (γ 9 31) := by rw [he581553]; rfl
        refine Gp_get 31 hm581552 he581553 dr_cX17_word_8 (gk_X17 D I) (Nat.le_of_ble_eq_true rfl) wr_7_105 rfl ?_
        refine G_iload_n 3 dr_cX17_word_11 rfl ?_
        refine G_iload_n 0 dr_cX17_word_12 rfl ?_
        refine G_iadd dr_cX17_word_13 (G_nam fun z581616 hz581616 => ?_)
        have ez581616 : z581616.toInt = p581148.toInt + g581541.toInt := by rw [gI_add hz581616 bp581148 bg581541' (by decide) (by decide)]
        have bz581616 : gB z581616 0 8191 := gB_add (gI_add hz581616 bp581148 bg581541' (by decide) (by decide)) bp581148 bg581541' (by decide) (by decide)
        refine G_iload_n 2 dr_cX17_word_14 rfl ?_
        refine G_bipush 24 dr_cX17_word_15 (by decide +kernel) ?_
        refine G_bipush 8 dr_cX17_word_17 (by decide +kernel) ?_
        refine G_iload_n 0 dr_cX17_word_19 rfl ?_
        refine G_imul dr_cX17_word_20 (G_nam fun z581617 hz581617 => ?_)
        have ez581617 : z581617.toInt = 8 * g581541.toInt := by rw [gI_mul hz581617 (gBl (show Int32.toInt 8 = 8 by decide)) bg581541' (by decide) (by decide) (by decide), show Int32.toInt 8 = 8 from by decide]
        have bz581617 : gB z581617 0 24 := gB_mul hz581617 (gBl (show Int32.toInt 8 = 8 by decide)) bg581541' (by decide) (by decide) (by decide) (by decide)
        refine G_isub dr_cX17_word_21 (G_nam fun z581618 hz581618 => ?_)
        have ez581618 : z581618.toInt = 24 - z581617.toInt := by rw [gI_sub hz581618 (gBl (show Int32.toInt 24 = 24 by decide)) bz581617 (by decide) (by decide), show Int32.toInt 24 = 24 from by decide]
        have bz581618 : gB z581618 0 24 := gB_sub (gI_sub hz581618 (gBl (show Int32.toInt 24 = 24 by decide)) bz581617 (by decide) (by decide)) (gBl (show Int32.toInt 24 = 24 by decide)) bz581617 (by decide) (by decide)
        refine G_ishr dr_cX17_word_22 (G_nam fun z581619 hz581619 => ?_)
        have bz581619 : gB z581619 (-2147483648) 2147483647 := gB_any z581619
        refine G_i2b dr_cX17_word_23 (G_nam fun z581620 hz581620 => ?_)
        have bz581620 : gB z581620 (-128) 127 := gB_i2b hz581620
        have hm581621 : (γ 9 31) ∈ P581144 := RS_m hT581543 ht581591 (by decide)
        obtain ⟨f581623, he581622, bf581623⟩ := show rk_99 I (F581542 (γ 9 31)) from RS_o hT581543 ht581591
        refine Gp_bast 1 hm581621 he581622 dr_cX17_word_24 rfl (gB_in bz581616 (by decide) (by decide)) (fun F581624 e581625 n581626 => ?_)
        obtain ⟨f581627, hf581627⟩ : ∃ z, z = upd f581623 z581616.toNatClampNeg (vp_nar .byte z581620) := ⟨_, rfl⟩
        rw [← hf581627] at e581625
        have he581628 : F581624 q581146 = .inr (22, [.ref (γ 9 0), .ref (γ 9 1), .ref (γ 9 2), .ref (γ 9 3), .ref (γ 9 4), .ref (γ 9 5), .ref (γ 9 6), .ref (γ 9 7), .ref (γ 9 8), .int p581556, .int p581557, .int p581558, .int p581559, .int p581560, .int p581561, .ref (γ 9 15), .ref (γ 9 16), .ref (γ 9 17), .ref (γ 9 18), .ref (γ 9 19), .ref (γ 9 20), .ref (γ 9 21), .ref (γ 9 22), .int p581562, .int p581563, .int p581564, .int p581565, .int p581566, .ref q581554, .ref (γ 9 29), .int p581567, .ref (γ 9 31), .int p581568, .int p581569, .int p581570, .ref q581555]) := (n581626 q581146 (rn_oa he581553 he581622)).trans he581553
        have he581629 : F581624 (γ 9 31) = .inl (I .byte, 8192, .inl f581627) := e581625
        have hs581630 : rStr γ [99] F581145 F581624 := rStr_pu2 hs581544 n581626 ht581591 (by decide)
        have bf581627 : gF f581627 (-128) 127 := gF_upd hf581627 bf581623 gB_byte
        obtain ⟨z581631, hz581631⟩ : ∃ z : Int32, z = g581541 + Int32.ofInt 1 := ⟨_, rfl⟩
        have ez581631 : z581631.toInt = g581541.toInt + 1 := gI_inc hz581631 (by decide) bg581541' (by decide) (by decide)
        have bz581631 : gB z581631 1 4 := ⟨by omega, by omega⟩
        refine G_iinc (L' := [(3, .int z581631), (0, .ref q581146), (1, .int p581147), (2, .int p581148)]) z581631 0 dr_cX17_word_25 rfl hz581631.symm (Nat.le_of_ble_eq_true rfl) rfl ?_
        refine G_goto 2 dr_cX17_word_28 (by decide +kernel) ?_
        have hT581632 : RS D I P581144 F581624 γ el := RS_set hT581543 n581626 ht581591 (by decide) ⟨f581627, he581629, bf581627⟩
        have ac581633 : (fI (F581624 q581146) 9).toInt = p581556.toInt := by rw [he581628]; rfl
        have ac581634 : (fI (F581624 q581146) 10).toInt = p581557.toInt := by rw [he581628]; rfl
        have ac581635 : (fI (F581624 q581146) 32).toInt = p581568.toInt := by rw [he581628]; rfl
        have ac581636 : (fI (F581624 q581146) 30).toInt = p581567.toInt := by rw [he581628]; rfl
        exact ih2_581548 F581624 z581631 (gB_w bz581631 (by decide) (by decide)) hT581632 hs581630 (by omega) (by omega) (by omega) (by omega) (fun k e1 ht => kt2_581549 k e1 (fun R c1 c2 => c2 F581542 g581541 z581616 z581617 z581618 z581619 z581620 f581623 f581627 F581624 z581631 k e1 bg581541 hT581543 hs581544 x581545 x581546 x581547 x581548 r581614 fq581615 ez581616 ez581617 ez581618 hz581619 hz581620 he581622 hf581627 n581626 he581629 ez581631 (ht R c1 c2))) (mz_up ez581631 (Int.le_trans bg581541'.2 (by decide)) hm2_581548)
  have ac581637 : (fI (F581145 q581146) 9).toInt = p581154.toInt := by rw [he581151]; rfl
  have ac581638 : (fI (F581145 q581146) 10).toInt = p581155.toInt := by rw [he581151]; rfl
  have ac581639 : (fI (F581145 q581146) 32).toInt = p581166.toInt := by rw [he581151]; rfl
  have ac581640 : (fI (F581145 q581146) 30).toInt = p581165.toInt := by rw [he581151]; rfl
  exact hlp2_581548 (((5 : Int) - 0).toNat + 1) F581145 0 (gB_w (gBl (show Int32.toInt 0 = 0 by decide)) (by decide) (by decide)) hT (rStr_rf (γ := γ) (W := [99]) (F := F581145)) (by omega) (by omega) (by omega) (by omega) (fun k e1 ht => ht) (Nat.lt_succ_self _)
/- tr_RModel_feed: result, F -/
def tr_RModel_feed (D : va_G) (I : FieldType → ClassId) (γ el : Nat → Nat → Nat) (P : List Nat) (F : Nat → va_E) (q0 : Nat) (a1 : Int32) (a2 : Int32) (a3 : Int32) (a4 : Int32) (a5 : Int32) (o1 : Int32) (o2 : Nat → va_E) : Prop := ∀ R : (Int32) → (Nat → va_E) → Prop,
  (∀ (x1 : Nat → va_E) (x2 : Int32) (x3 : Int32) (x4 : Nat → va_E) (x5 : Int32) (x6 : Int32) (x7 : Nat → va_E) (x8 : Int32) (x9 : Int32) (x10 : Nat → va_E) (x11 : Int32) (x12 : Int32) (x13 : Nat → va_E) (x14 : Int32) (x15 : Int32) (x16 : Nat → va_E) (x17 : Int32) (x18 : Int32) (x19 : Nat → va_E), (∀ b, b ≠ q0 → x1 b = F b) → x1 q0 = cF (F q0) 30 (.int 0) → fI (x1 q0) 32 = x2 → x3.toInt = x2.toInt + 20 → x3.toInt ≤ 8192 → RS D I P x4 γ el → rStr γ [99] x1 x4 → (fI (x4 q0) 9).toInt = (fI (x1 q0) 9).toInt → (fI (x4 q0) 10).toInt = (fI (x1 q0) 10).toInt → (fI (x4 q0) 32).toInt = (fI (x1 q0) 32).toInt → (fI (x4 q0) 30).toInt = (fI (x1 q0) 30).toInt → tr_RModel_word D I γ el P x1 q0 a1 x2 x4 → fI (x4 q0) 32 = x5 → x6.toInt = x5.toInt + 4 → RS D I P x7 γ el → rStr γ [99] x4 x7 → (fI (x7 q0) 9).toInt = (fI (x4 q0) 9).toInt → (fI (x7 q0) 10).toInt = (fI (x4 q0) 10).toInt → (fI (x7 q0) 32).toInt = (fI (x4 q0) 32).toInt → (fI (x7 q0) 30).toInt = (fI (x4 q0) 30).toInt → tr_RModel_word D I γ el P x4 q0 a2 x6 x7 → fI (x7 q0) 32 = x8 → x9.toInt = x8.toInt + 8 → RS D I P x10 γ el → rStr γ [99] x7 x10 → (fI (x10 q0) 9).toInt = (fI (x7 q0) 9).toInt → (fI (x10 q0) 10).toInt = (fI (x7 q0) 10).toInt → (fI (x10 q0) 32).toInt = (fI (x7 q0) 32).toInt → (fI (x10 q0) 30).toInt = (fI (x7 q0) 30).toInt → tr_RModel_word D I γ el P x7 q0 a3 x9 x10 → fI (x10 q0) 32 = x11 → x12.toInt = x11.toInt + 12 → RS D I P x13 γ el → rStr γ [99] x10 x13 → (fI (x13 q0) 9).toInt = (fI (x10 q0) 9).toInt → (fI (x13 q0) 10).toInt = (fI (x10 q0) 10).toInt → (fI (x13 q0) 32).toInt = (fI (x10 q0) 32).toInt → (fI (x13 q0) 30).toInt = (fI (x10 q0) 30).toInt → tr_RModel_word D I γ el P x10 q0 a4 x12 x13 → fI (x13 q0) 32 = x14 → x15.toInt = x14.toInt + 16 → RS D I P x16 γ el → rStr γ [99] x13 x16 → (fI (x16 q0) 9).toInt = (fI (x13 q0) 9).toInt → (fI (x16 q0) 10).toInt = (fI (x13 q0) 10).toInt → (fI (x16 q0) 32).toInt = (fI (x13 q0) 32).toInt → (fI (x16 q0) 30).toInt = (fI (x13 q0) 30).toInt → tr_RModel_word D I γ el P x13 q0 a5 x15 x16 → fI (x16 q0) 32 = x17 → x18.toInt = x17.toInt + 20 → (∀ b, b ≠ q0 → x19 b = x16 b) → x19 q0 = cF (x16 q0) 32 (.int x18) → fI (x19 q0) 32 = x18 → R x18 x19) →
  (∀ (x1 : Nat → va_E) (x2 : Int32) (x3 : Int32) (x4 : Nat → va_E), (∀ b, b ≠ q0 → x1 b = F b) → x1 q0 = cF (F q0) 30 (.int 0) → fI (x1 q0) 32 = x2 → x3.toInt = x2.toInt + 20 → 8192 < x3.toInt → RS D I P x4 γ el → rStr γ [] x1 x4 → (fI (x4 q0) 9).toInt = (fI (x1 q0) 9).toInt → (fI (x4 q0) 10).toInt = (fI (x1 q0) 10).toInt → (fI (x4 q0) 32).toInt = (fI (x1 q0) 32).toInt → (fI (x4 q0) 30).toInt = 1 → tr_RModel_no D I γ el x1 q0 (1 : Int32) x4 → R (0 : Int32) x4) →
  R o1 o2
