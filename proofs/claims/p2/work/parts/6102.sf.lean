abbrev ky_715_Code_rows : gKey := (cX0_rows, 1, yX0_rows.cls, (some FieldType.int), [], yX0_rows.name, fun _ _ => True)
abbrev po_715_Code_rows (I : FieldType → ClassId) (q693 : Nat) (q694 : Nat) (q695 : Nat) (q696 : Nat) (q697 : Nat) (q698 : Nat) (q699 : Nat) (q700 : Nat) (q701 : Nat) (q702 : Nat) (p703 : Int32) (p704 : Int32) (p705 : Int32) (f706 : Nat → Int32) (f707 : Nat → Int32) (f708 : Nat → Int32) (f709 : Nat → Int32) (f710 : Nat → Int32) (f711 : Nat → Int32) (f712 : Nat → Int32) (f713 : Nat → Int32) (f714 : Nat → Int32) : Option Value → va_W → Prop := fun r w => ∃ (o717 : Int32), r = some (.int o717) ∧ w = [(q693, .inr (5, [.ref q694, .ref q695, .ref q696, .ref q697, .ref q698, .ref q699, .ref q700, .ref q701, .ref q702, .int p703, .int p704, .int p705])), (q694, .inl (I .int, 40, .inl f706)), (q695, .inl (I .int, 40, .inl f707)), (q696, .inl (I .int, 40, .inl f708)), (q697, .inl (I .int, 200, .inl f709)), (q698, .inl (I .int, 200, .inl f710)), (q699, .inl (I .int, 200, .inl f711)), (q700, .inl (I .int, 200, .inl f712)), (q701, .inl (I .int, 200, .inl f713)), (q702, .inl (I .int, 200, .inl f714))] ∧ gB o717 (-40) 200
set_option maxRecDepth 100000 in
set_option maxHeartbeats 4000000 in
theorem ct_715_Code_rows (l : Launch) (hl0 : l.stackTraces = false) (D : va_G) (I : FieldType → ClassId) (q693 : Nat) (q694 : Nat) (q695 : Nat) (q696 : Nat) (q697 : Nat) (q698 : Nat) (q699 : Nat) (q700 : Nat) (q701 : Nat) (q702 : Nat) (p703 : Int32) (p704 : Int32) (p705 : Int32) (f706 : Nat → Int32) (f707 : Nat → Int32) (f708 : Nat → Int32) (f709 : Nat → Int32) (f710 : Nat → Int32) (f711 : Nat → Int32) (f712 : Nat → Int32) (f713 : Nat → Int32) (f714 : Nat → Int32) (bp703 : gB p703 0 40) (bp704 : gB p704 0 200) (bp705 : gB p705 0 1) (bf706 : gF f706 0 200) : Ct (gV D I) l yX0_rows cX0_rows 1 (some FieldType.int) 0 0 0 0 [.ref q693] [(q693, .inr (5, [.ref q694, .ref q695, .ref q696, .ref q697, .ref q698, .ref q699, .ref q700, .ref q701, .ref q702, .int p703, .int p704, .int p705])), (q694, .inl (I .int, 40, .inl f706)), (q695, .inl (I .int, 40, .inl f707)), (q696, .inl (I .int, 40, .inl f708)), (q697, .inl (I .int, 200, .inl f709)), (q698, .inl (I .int, 200, .inl f710)), (q699, .inl (I .int, 200, .inl f711)), (q700, .inl (I .int, 200, .inl f712)), (q701, .inl (I .int, 200, .inl f713)), (q702, .inl (I .int, 200, .inl f714))] (po_715_Code_rows I q693 q694 q695 q696 q697 q698 q699 q700 q701 q702 p703 p704 p705 f706 f707 f708 f709 f710 f711 f712 f713 f714) gN := by
  refine Ct_of hl0 (by decide) (Nat.le_of_ble_eq_true rfl) ?_
  refine G_aload_n 0 d_cX0_rows_0 rfl ?_
  refine G_getf 0 10 d_cX0_rows_1 rfl (gk_X0 D I) (Nat.le_of_ble_eq_true rfl) w_1_197 rfl ?_
  refine G_aload_n 0 d_cX0_rows_4 rfl ?_
  refine G_getf 0 9 d_cX0_rows_5 rfl (gk_X0 D I) (Nat.le_of_ble_eq_true rfl) w_1_187 rfl ?_
  refine G_isub d_cX0_rows_8 (G_nam fun z716 hz716 => ?_)
  have ez716 : z716.toInt = p704.toInt - p703.toInt := by rw [gI_sub hz716 bp704 bp703 (by decide) (by decide)]
  have bz716 : gB z716 (-40) 200 := gB_sub (gI_sub hz716 bp704 bp703 (by decide) (by decide)) bp704 bp703 (by decide) (by decide)
  exact G_iret d_cX0_rows_9 rfl (Nat.le_of_ble_eq_true rfl) (Nat.le_of_ble_eq_true rfl) ⟨z716, rfl, rfl, bz716⟩
abbrev ky_741_Code_blockEnd : gKey := (cX0_blockEnd, 2, yX0_blockEnd.cls, (some FieldType.int), [], yX0_blockEnd.name, fun _ _ => True)
abbrev po_741_Code_blockEnd (I : FieldType → ClassId) (q718 : Nat) (q719 : Nat) (q720 : Nat) (q721 : Nat) (q722 : Nat) (q723 : Nat) (q724 : Nat) (q725 : Nat) (q726 : Nat) (q727 : Nat) (p728 : Int32) (p729 : Int32) (p730 : Int32) (p731 : Int32) (f732 : Nat → Int32) (f733 : Nat → Int32) (f734 : Nat → Int32) (f735 : Nat → Int32) (f736 : Nat → Int32) (f737 : Nat → Int32) (f738 : Nat → Int32) (f739 : Nat → Int32) (f740 : Nat → Int32) : Option Value → va_W → Prop := fun r w => (∃ (z742 : Int32), r = some (.int p730) ∧ w = [(q718, .inr (5, [.ref q719, .ref q720, .ref q721, .ref q722, .ref q723, .ref q724, .ref q725, .ref q726, .ref q727, .int p729, .int p730, .int p731])), (q719, .inl (I .int, 40, .inl f732)), (q720, .inl (I .int, 40, .inl f733)), (q721, .inl (I .int, 40, .inl f734)), (q722, .inl (I .int, 200, .inl f735)), (q723, .inl (I .int, 200, .inl f736)), (q724, .inl (I .int, 200, .inl f737)), (q725, .inl (I .int, 200, .inl f738)), (q726, .inl (I .int, 200, .inl f739)), (q727, .inl (I .int, 200, .inl f740))] ∧ z742.toInt = p728.toInt + 1 ∧ p729.toInt ≤ z742.toInt ∧ gB z742 1 40) ∨ (∃ (z747 : Int32) (z742 : Int32) (z746 : Int32), r = some (.int z747) ∧ w = [(q718, .inr (5, [.ref q719, .ref q720, .ref q721, .ref q722, .ref q723, .ref q724, .ref q725, .ref q726, .ref q727, .int p729, .int p730, .int p731])), (q719, .inl (I .int, 40, .inl f732)), (q720, .inl (I .int, 40, .inl f733)), (q721, .inl (I .int, 40, .inl f734)), (q722, .inl (I .int, 200, .inl f735)), (q723, .inl (I .int, 200, .inl f736)), (q724, .inl (I .int, 200, .inl f737)), (q725, .inl (I .int, 200, .inl f738)), (q726, .inl (I .int, 200, .inl f739)), (q727, .inl (I .int, 200, .inl f740))] ∧ z742.toInt = p728.toInt + 1 ∧ z742.toInt < p729.toInt ∧ z746.toInt = p728.toInt + 1 ∧ gB z747 0 200 ∧ gB z742 1 39 ∧ gB z746 1 40)
set_option maxRecDepth 100000 in
set_option maxHeartbeats 4000000 in
theorem ct_741_Code_blockEnd (l : Launch) (hl0 : l.stackTraces = false) (D : va_G) (I : FieldType → ClassId) (q718 : Nat) (q719 : Nat) (q720 : Nat) (q721 : Nat) (q722 : Nat) (q723 : Nat) (q724 : Nat) (q725 : Nat) (q726 : Nat) (q727 : Nat) (p728 : Int32) (p729 : Int32) (p730 : Int32) (p731 : Int32) (f732 : Nat → Int32) (f733 : Nat → Int32) (f734 : Nat → Int32) (f735 : Nat → Int32) (f736 : Nat → Int32) (f737 : Nat → Int32) (f738 : Nat → Int32) (f739 : Nat → Int32) (f740 : Nat → Int32) (bp728 : gB p728 0 39) (bp729 : gB p729 0 40) (bp730 : gB p730 0 200) (bp731 : gB p731 0 1) (bf732 : gF f732 0 200) : Ct (gV D I) l yX0_blockEnd cX0_blockEnd 2 (some FieldType.int) 0 0 0 0 [.ref q718, .int p728] [(q718, .inr (5, [.ref q719, .ref q720, .ref q721, .ref q722, .ref q723, .ref q724, .ref q725, .ref q726, .ref q727, .int p729, .int p730, .int p731])), (q719, .inl (I .int, 40, .inl f732)), (q720, .inl (I .int, 40, .inl f733)), (q721, .inl (I .int, 40, .inl f734)), (q722, .inl (I .int, 200, .inl f735)), (q723, .inl (I .int, 200, .inl f736)), (q724, .inl (I .int, 200, .inl f737)), (q725, .inl (I .int, 200, .inl f738)), (q726, .inl (I .int, 200, .inl f739)), (q727, .inl (I .int, 200, .inl f740))] (po_741_Code_blockEnd I q718 q719 q720 q721 q722 q723 q724 q725 q726 q727 p728 p729 p730 p731 f732 f733 f734 f735 f736 f737 f738 f739 f740) gN := by
  refine Ct_of hl0 (by decide) (Nat.le_of_ble_eq_true rfl) ?_
  refine G_iload_n 1 d_cX0_blockEnd_0 rfl ?_
  refine G_iconst 1 d_cX0_blockEnd_1 (by decide +kernel) ?_
  refine G_iadd d_cX0_blockEnd_2 (G_nam fun z742 hz742 => ?_)
  have ez742 : z742.toInt = p728.toInt + 1 := by rw [gI_add hz742 bp728 (gBl (show Int32.toInt 1 = 1 by decide)) (by decide) (by decide), show Int32.toInt 1 = 1 from by decide]
  have bz742 : gB z742 1 40 := gB_add (gI_add hz742 bp728 (gBl (show Int32.toInt 1 = 1 by decide)) (by decide) (by decide)) bp728 (gBl (show Int32.toInt 1 = 1 by decide)) (by decide) (by decide)
  refine G_aload_n 0 d_cX0_blockEnd_3 rfl ?_
  refine G_getf 0 9 d_cX0_blockEnd_4 rfl (gk_X0 D I) (Nat.le_of_ble_eq_true rfl) w_1_187 rfl ?_
  refine G_icmp_ge 21 d_cX0_blockEnd_7 (by decide +kernel) (fun hc743 => ?_) (fun hc743 => ?_)
  · have r744 : p729.toInt ≤ z742.toInt := gC_le hc743
    refine G_aload_n 0 d_cX0_blockEnd_21 rfl ?_
    refine G_getf 0 10 d_cX0_blockEnd_22 rfl (gk_X0 D I) (Nat.le_of_ble_eq_true rfl) w_1_197 rfl ?_
    exact G_iret d_cX0_blockEnd_25 rfl (Nat.le_of_ble_eq_true rfl) (Nat.le_of_ble_eq_true rfl) (Or.inl ⟨z742, rfl, rfl, ez742, r744, bz742⟩)
  · have r745 : z742.toInt < p729.toInt := gC_nle hc743
    have bz742' : gB z742 1 39 := ⟨by omega, by omega⟩
    have bp729' : gB p729 2 40 := ⟨by omega, by omega⟩
    refine G_aload_n 0 d_cX0_blockEnd_10 rfl ?_
    refine G_getf 0 0 d_cX0_blockEnd_11 rfl (gk_X0 D I) (Nat.le_of_ble_eq_true rfl) w_1_142 rfl ?_
    refine G_iload_n 1 d_cX0_blockEnd_14 rfl ?_
    refine G_iconst 1 d_cX0_blockEnd_15 (by decide +kernel) ?_
    refine G_iadd d_cX0_blockEnd_16 (G_nam fun z746 hz746 => ?_)
    have ez746 : z746.toInt = p728.toInt + 1 := by rw [gI_add hz746 bp728 (gBl (show Int32.toInt 1 = 1 by decide)) (by decide) (by decide), show Int32.toInt 1 = 1 from by decide]
    have bz746 : gB z746 1 40 := gB_add (gI_add hz746 bp728 (gBl (show Int32.toInt 1 = 1 by decide)) (by decide) (by decide)) bp728 (gBl (show Int32.toInt 1 = 1 by decide)) (by decide) (by decide)
    refine G_iald 1 0 d_cX0_blockEnd_17 rfl rfl (gB_inr (by omega) (by omega)) (G_nam fun z747 hz747 => ?_)
    have bz747 : gB z747 0 200 := by rw [hz747]; exact bf732 _
    refine G_goto 25 d_cX0_blockEnd_18 (by decide +kernel) ?_
    exact G_iret d_cX0_blockEnd_25 rfl (Nat.le_of_ble_eq_true rfl) (Nat.le_of_ble_eq_true rfl) (Or.inr (⟨z747, z742, z746, rfl, rfl, ez742, r745, ez746, bz747, bz742', bz746⟩))
abbrev ky_772_Code_goal : gKey := (cX0_goal, 3, yX0_goal.cls, (some FieldType.int), [], yX0_goal.name, fun _ _ => True)
abbrev po_772_Code_goal (I : FieldType → ClassId) (q748 : Nat) (q749 : Nat) (q750 : Nat) (q751 : Nat) (q752 : Nat) (q753 : Nat) (q754 : Nat) (q755 : Nat) (q756 : Nat) (q757 : Nat) (p758 : Int32) (p759 : Int32) (p760 : Int32) (p761 : Int32) (p762 : Int32) (f763 : Nat → Int32) (f764 : Nat → Int32) (f765 : Nat → Int32) (f766 : Nat → Int32) (f767 : Nat → Int32) (f768 : Nat → Int32) (f769 : Nat → Int32) (f770 : Nat → Int32) (f771 : Nat → Int32) : Option Value → va_W → Prop := fun r w => (∃ (z775 : Int32), r = some (.int z775) ∧ w = [(q748, .inr (5, [.ref q749, .ref q750, .ref q751, .ref q752, .ref q753, .ref q754, .ref q755, .ref q756, .ref q757, .int p760, .int p761, .int p762])), (q749, .inl (I .int, 40, .inl f763)), (q750, .inl (I .int, 40, .inl f764)), (q751, .inl (I .int, 40, .inl f765)), (q752, .inl (I .int, 200, .inl f766)), (q753, .inl (I .int, 200, .inl f767)), (q754, .inl (I .int, 200, .inl f768)), (q755, .inl (I .int, 200, .inl f769)), (q756, .inl (I .int, 200, .inl f770)), (q757, .inl (I .int, 200, .inl f771))] ∧ p759.toInt ≠ 0 ∧ gB z775 (-2147483648) 2147483647) ∨ (∃ (z777 : Int32), r = some (.int z777) ∧ w = [(q748, .inr (5, [.ref q749, .ref q750, .ref q751, .ref q752, .ref q753, .ref q754, .ref q755, .ref q756, .ref q757, .int p760, .int p761, .int p762])), (q749, .inl (I .int, 40, .inl f763)), (q750, .inl (I .int, 40, .inl f764)), (q751, .inl (I .int, 40, .inl f765)), (q752, .inl (I .int, 200, .inl f766)), (q753, .inl (I .int, 200, .inl f767)), (q754, .inl (I .int, 200, .inl f768)), (q755, .inl (I .int, 200, .inl f769)), (q756, .inl (I .int, 200, .inl f770)), (q757, .inl (I .int, 200, .inl f771))] ∧ p759.toInt = 0 ∧ gB z777 (-2147483648) 2147483647)
set_option maxRecDepth 100000 in
set_option maxHeartbeats 4000000 in
theorem ct_772_Code_goal (l : Launch) (hl0 : l.stackTraces = false) (D : va_G) (I : FieldType → ClassId) (q748 : Nat) (q749 : Nat) (q750 : Nat) (q751 : Nat) (q752 : Nat) (q753 : Nat) (q754 : Nat) (q755 : Nat) (q756 : Nat) (q757 : Nat) (p758 : Int32) (p759 : Int32) (p760 : Int32) (p761 : Int32) (p762 : Int32) (f763 : Nat → Int32) (f764 : Nat → Int32) (f765 : Nat → Int32) (f766 : Nat → Int32) (f767 : Nat → Int32) (f768 : Nat → Int32) (f769 : Nat → Int32) (f770 : Nat → Int32) (f771 : Nat → Int32) (bp758 : gB p758 0 39) (bp760 : gB p760 0 40) (bp761 : gB p761 0 200) (bp762 : gB p762 0 1) (bf763 : gF f763 0 200) : Ct (gV D I) l yX0_goal cX0_goal 3 (some FieldType.int) 0 0 0 0 [.ref q748, .int p758, .int p759] [(q748, .inr (5, [.ref q749, .ref q750, .ref q751, .ref q752, .ref q753, .ref q754, .ref q755, .ref q756, .ref q757, .int p760, .int p761, .int p762])), (q749, .inl (I .int, 40, .inl f763)), (q750, .inl (I .int, 40, .inl f764)), (q751, .inl (I .int, 40, .inl f765)), (q752, .inl (I .int, 200, .inl f766)), (q753, .inl (I .int, 200, .inl f767)), (q754, .inl (I .int, 200, .inl f768)), (q755, .inl (I .int, 200, .inl f769)), (q756, .inl (I .int, 200, .inl f770)), (q757, .inl (I .int, 200, .inl f771))] (po_772_Code_goal I q748 q749 q750 q751 q752 q753 q754 q755 q756 q757 p758 p759 p760 p761 p762 f763 f764 f765 f766 f767 f768 f769 f770 f771) gN := by
  refine Ct_of hl0 (by decide) (Nat.le_of_ble_eq_true rfl) ?_
  have bp759 := gB_any p759
  refine G_iload_n 2 d_cX0_goal_0 rfl ?_
  refine G_if_ne 13 d_cX0_goal_1 (by decide +kernel) (fun hc773 => ?_) (fun hc773 => ?_)
  · have r774 : p759.toInt ≠ 0 := gj_neq hc773 (show Int32.toInt 0 = 0 by decide)
    refine G_aload_n 0 d_cX0_goal_13 rfl ?_
    refine G_getf 0 2 d_cX0_goal_14 rfl (gk_X0 D I) (Nat.le_of_ble_eq_true rfl) w_1_154 rfl ?_
    refine G_iload_n 1 d_cX0_goal_17 rfl ?_
    refine G_iald 3 0 d_cX0_goal_18 rfl rfl (gB_in bp758 (by decide) (by decide)) (G_nam fun z775 hz775 => ?_)
    have bz775 : gB z775 (-2147483648) 2147483647 := gB_any z775
    exact G_iret d_cX0_goal_19 rfl (Nat.le_of_ble_eq_true rfl) (Nat.le_of_ble_eq_true rfl) (Or.inl ⟨z775, rfl, rfl, r774, bz775⟩)
  · have r776 : p759.toInt = 0 := gj_eq hc773 (show Int32.toInt 0 = 0 by decide)
    have bp759' : gB p759 0 0 := ⟨by omega, by omega⟩
    refine G_aload_n 0 d_cX0_goal_4 rfl ?_
    refine G_getf 0 1 d_cX0_goal_5 rfl (gk_X0 D I) (Nat.le_of_ble_eq_true rfl) w_1_149 rfl ?_
    refine G_iload_n 1 d_cX0_goal_8 rfl ?_
    refine G_iald 2 0 d_cX0_goal_9 rfl rfl (gB_in bp758 (by decide) (by decide)) (G_nam fun z777 hz777 => ?_)
    have bz777 : gB z777 (-2147483648) 2147483647 := gB_any z777
    refine G_goto 19 d_cX0_goal_10 (by decide +kernel) ?_
    exact G_iret d_cX0_goal_19 rfl (Nat.le_of_ble_eq_true rfl) (Nat.le_of_ble_eq_true rfl) (Or.inr (⟨z777, rfl, rfl, r776, bz777⟩))
abbrev ky_800_Code_openBlock : gKey := (cX0_openBlock, 1, yX0_openBlock.cls, (some FieldType.boolean), [], yX0_openBlock.name, fun _ _ => True)
abbrev po_800_Code_openBlock (I : FieldType → ClassId) (q778 : Nat) (q779 : Nat) (q780 : Nat) (q781 : Nat) (q782 : Nat) (q783 : Nat) (q784 : Nat) (q785 : Nat) (q786 : Nat) (q787 : Nat) (p788 : Int32) (p789 : Int32) (p790 : Int32) (f791 : Nat → Int32) (f792 : Nat → Int32) (f793 : Nat → Int32) (f794 : Nat → Int32) (f795 : Nat → Int32) (f796 : Nat → Int32) (f797 : Nat → Int32) (f798 : Nat → Int32) (f799 : Nat → Int32) : Option Value → va_W → Prop := fun r w => ∃ (o812 : Int32) (o808 : Int32) (f809 : Nat → Int32) (f810 : Nat → Int32) (f811 : Nat → Int32), r = some (.int o812) ∧ w = [(q778, .inr (5, [.ref q779, .ref q780, .ref q781, .ref q782, .ref q783, .ref q784, .ref q785, .ref q786, .ref q787, .int o808, .int p789, .int p790])), (q779, .inl (I .int, 40, .inl f809)), (q780, .inl (I .int, 40, .inl f810)), (q781, .inl (I .int, 40, .inl f811)), (q782, .inl (I .int, 200, .inl f794)), (q783, .inl (I .int, 200, .inl f795)), (q784, .inl (I .int, 200, .inl f796)), (q785, .inl (I .int, 200, .inl f797)), (q786, .inl (I .int, 200, .inl f798)), (q787, .inl (I .int, 200, .inl f799))] ∧ gB o812 0 1 ∧ gB o808 1 40 ∧ gF f809 0 200 ∧ gF f810 (-2147483648) 2147483647 ∧ gF f811 (-2147483648) 2147483647
set_option maxRecDepth 100000 in
set_option maxHeartbeats 4000000 in
theorem ct_800_Code_openBlock (l : Launch) (hl0 : l.stackTraces = false) (D : va_G) (I : FieldType → ClassId) (q778 : Nat) (q779 : Nat) (q780 : Nat) (q781 : Nat) (q782 : Nat) (q783 : Nat) (q784 : Nat) (q785 : Nat) (q786 : Nat) (q787 : Nat) (p788 : Int32) (p789 : Int32) (p790 : Int32) (f791 : Nat → Int32) (f792 : Nat → Int32) (f793 : Nat → Int32) (f794 : Nat → Int32) (f795 : Nat → Int32) (f796 : Nat → Int32) (f797 : Nat → Int32) (f798 : Nat → Int32) (f799 : Nat → Int32) (bp788 : gB p788 0 40) (bp789 : gB p789 0 200) (bp790 : gB p790 0 1) (bf791 : gF f791 0 200) : Ct (gV D I) l yX0_openBlock cX0_openBlock 1 (some FieldType.boolean) 0 0 0 0 [.ref q778] [(q778, .inr (5, [.ref q779, .ref q780, .ref q781, .ref q782, .ref q783, .ref q784, .ref q785, .ref q786, .ref q787, .int p788, .int p789, .int p790])), (q779, .inl (I .int, 40, .inl f791)), (q780, .inl (I .int, 40, .inl f792)), (q781, .inl (I .int, 40, .inl f793)), (q782, .inl (I .int, 200, .inl f794)), (q783, .inl (I .int, 200, .inl f795)), (q784, .inl (I .int, 200, .inl f796)), (q785, .inl (I .int, 200, .inl f797)), (q786, .inl (I .int, 200, .inl f798)), (q787, .inl (I .int, 200, .inl f799))] (po_800_Code_openBlock I q778 q779 q780 q781 q782 q783 q784 q785 q786 q787 p788 p789 p790 f791 f792 f793 f794 f795 f796 f797 f798 f799) gN := by
  refine Ct_of hl0 (by decide) (Nat.le_of_ble_eq_true rfl) ?_
  refine G_aload_n 0 d_cX0_openBlock_0 rfl ?_
  refine G_getf 0 9 d_cX0_openBlock_1 rfl (gk_X0 D I) (Nat.le_of_ble_eq_true rfl) w_1_187 rfl ?_
  refine G_bipush 40 d_cX0_openBlock_4 (by decide +kernel) ?_
  refine G_icmp_lt 11 d_cX0_openBlock_6 (by decide +kernel) (fun hc801 => ?_) (fun hc801 => ?_)
  · have r802 : p788.toInt < 40 := gj_lt hc801 (show Int32.toInt 40 = 40 by decide)
    have bp788' : gB p788 0 39 := ⟨by omega, by omega⟩
    refine G_aload_n 0 d_cX0_openBlock_11 rfl ?_
    refine G_getf 0 0 d_cX0_openBlock_12 rfl (gk_X0 D I) (Nat.le_of_ble_eq_true rfl) w_1_142 rfl ?_
    refine G_aload_n 0 d_cX0_openBlock_15 rfl ?_
    refine G_getf 0 9 d_cX0_openBlock_16 rfl (gk_X0 D I) (Nat.le_of_ble_eq_true rfl) w_1_187 rfl ?_
    refine G_aload_n 0 d_cX0_openBlock_19 rfl ?_
    refine G_getf 0 10 d_cX0_openBlock_20 rfl (gk_X0 D I) (Nat.le_of_ble_eq_true rfl) w_1_197 rfl ?_
    refine G_iastN 1 0 d_cX0_openBlock_23 rfl rfl (gB_in bp788' (by decide) (by decide)) (fun f803 hf803 => ?_)
    refine G_ws (ws' := [(q778, .inr (5, [.ref q779, .ref q780, .ref q781, .ref q782, .ref q783, .ref q784, .ref q785, .ref q786, .ref q787, .int p788, .int p789, .int p790])), (q779, .inl (I .int, 40, .inl f803)), (q780, .inl (I .int, 40, .inl f792)), (q781, .inl (I .int, 40, .inl f793)), (q782, .inl (I .int, 200, .inl f794)), (q783, .inl (I .int, 200, .inl f795)), (q784, .inl (I .int, 200, .inl f796)), (q785, .inl (I .int, 200, .inl f797)), (q786, .inl (I .int, 200, .inl f798)), (q787, .inl (I .int, 200, .inl f799))]) (cs' := 0) (sl' := 0) rfl rfl rfl ?_
    have bf803 : gF f803 0 200 := gF_upd hf803 bf791 bp789
    refine G_aload_n 0 d_cX0_openBlock_24 rfl ?_
    refine G_getf 0 1 d_cX0_openBlock_25 rfl (gk_X0 D I) (Nat.le_of_ble_eq_true rfl) w_1_149 rfl ?_
    refine G_aload_n 0 d_cX0_openBlock_28 rfl ?_
    refine G_getf 0 9 d_cX0_openBlock_29 rfl (gk_X0 D I) (Nat.le_of_ble_eq_true rfl) w_1_187 rfl ?_
    refine G_iconst (-1) d_cX0_openBlock_32 (by decide +kernel) ?_
    refine G_iastN 2 0 d_cX0_openBlock_33 rfl rfl (gB_in bp788' (by decide) (by decide)) (fun f804 hf804 => ?_)
    refine G_ws (ws' := [(q778, .inr (5, [.ref q779, .ref q780, .ref q781, .ref q782, .ref q783, .ref q784, .ref q785, .ref q786, .ref q787, .int p788, .int p789, .int p790])), (q779, .inl (I .int, 40, .inl f803)), (q780, .inl (I .int, 40, .inl f804)), (q781, .inl (I .int, 40, .inl f793)), (q782, .inl (I .int, 200, .inl f794)), (q783, .inl (I .int, 200, .inl f795)), (q784, .inl (I .int, 200, .inl f796)), (q785, .inl (I .int, 200, .inl f797)), (q786, .inl (I .int, 200, .inl f798)), (q787, .inl (I .int, 200, .inl f799))]) (cs' := 0) (sl' := 0) rfl rfl rfl ?_
    refine G_aload_n 0 d_cX0_openBlock_34 rfl ?_
    refine G_getf 0 2 d_cX0_openBlock_35 rfl (gk_X0 D I) (Nat.le_of_ble_eq_true rfl) w_1_154 rfl ?_
    refine G_aload_n 0 d_cX0_openBlock_38 rfl ?_
    refine G_getf 0 9 d_cX0_openBlock_39 rfl (gk_X0 D I) (Nat.le_of_ble_eq_true rfl) w_1_187 rfl ?_
    refine G_iconst (-1) d_cX0_openBlock_42 (by decide +kernel) ?_
    refine G_iastN 3 0 d_cX0_openBlock_43 rfl rfl (gB_in bp788' (by decide) (by decide)) (fun f805 hf805 => ?_)
    refine G_ws (ws' := [(q778, .inr (5, [.ref q779, .ref q780, .ref q781, .ref q782, .ref q783, .ref q784, .ref q785, .ref q786, .ref q787, .int p788, .int p789, .int p790])), (q779, .inl (I .int, 40, .inl f803)), (q780, .inl (I .int, 40, .inl f804)), (q781, .inl (I .int, 40, .inl f805)), (q782, .inl (I .int, 200, .inl f794)), (q783, .inl (I .int, 200, .inl f795)), (q784, .inl (I .int, 200, .inl f796)), (q785, .inl (I .int, 200, .inl f797)), (q786, .inl (I .int, 200, .inl f798)), (q787, .inl (I .int, 200, .inl f799))]) (cs' := 0) (sl' := 0) rfl rfl rfl ?_
    refine G_aload_n 0 d_cX0_openBlock_44 rfl ?_
    refine G_dup d_cX0_openBlock_45 rfl ?_
    refine G_getf 0 9 d_cX0_openBlock_46 rfl (gk_X0 D I) (Nat.le_of_ble_eq_true rfl) w_1_187 rfl ?_
    refine G_iconst 1 d_cX0_openBlock_49 (by decide +kernel) ?_
    refine G_iadd d_cX0_openBlock_50 (G_nam fun z806 hz806 => ?_)
    have ez806 : z806.toInt = p788.toInt + 1 := by rw [gI_add hz806 bp788' (gBl (show Int32.toInt 1 = 1 by decide)) (by decide) (by decide), show Int32.toInt 1 = 1 from by decide]
    have bz806 : gB z806 1 40 := gB_add (gI_add hz806 bp788' (gBl (show Int32.toInt 1 = 1 by decide)) (by decide) (by decide)) bp788' (gBl (show Int32.toInt 1 = 1 by decide)) (by decide) (by decide)
    refine G_putf (ws' := [(q778, .inr (5, [.ref q779, .ref q780, .ref q781, .ref q782, .ref q783, .ref q784, .ref q785, .ref q786, .ref q787, .int z806, .int p789, .int p790])), (q779, .inl (I .int, 40, .inl f803)), (q780, .inl (I .int, 40, .inl f804)), (q781, .inl (I .int, 40, .inl f805)), (q782, .inl (I .int, 200, .inl f794)), (q783, .inl (I .int, 200, .inl f795)), (q784, .inl (I .int, 200, .inl f796)), (q785, .inl (I .int, 200, .inl f797)), (q786, .inl (I .int, 200, .inl f798)), (q787, .inl (I .int, 200, .inl f799))]) 0 9 d_cX0_openBlock_51 rfl (gk_X0 D I) (Nat.le_of_ble_eq_true rfl) w_1_187 rfl rfl rfl (Nat.le_of_ble_eq_true rfl) rfl ?_
    refine G_iconst 1 d_cX0_openBlock_54 (by decide +kernel) ?_
    exact G_zret FieldType.boolean d_cX0_openBlock_55 rfl rfl (Nat.le_of_ble_eq_true rfl) (Nat.le_of_ble_eq_true rfl) ⟨1, z806, f803, f804, f805, rfl, rfl, (gB_w (gBl (show Int32.toInt 1 = 1 by decide)) (by decide) (by decide)), bz806, bf803, (gF_any f804), (gF_any f805)⟩
  · have r807 : 40 ≤ p788.toInt := gj_nlt hc801 (show Int32.toInt 40 = 40 by decide)
    have bp788' : gB p788 40 40 := ⟨by omega, by omega⟩
    refine G_iconst 0 d_cX0_openBlock_9 (by decide +kernel) ?_
    exact G_zret FieldType.boolean d_cX0_openBlock_10 rfl rfl (Nat.le_of_ble_eq_true rfl) (Nat.le_of_ble_eq_true rfl) ⟨0, p788, f791, f792, f793, rfl, rfl, (gB_w (gBl (show Int32.toInt 0 = 0 by decide)) (by decide) (by decide)), (gB_w bp788' (by decide) (by decide)), bf791, (gF_any f792), (gF_any f793)⟩
abbrev ky_836_Code_addGoal : gKey := (cX0_addGoal, 5, yX0_addGoal.cls, (some FieldType.int), [], yX0_addGoal.name, fun _ _ => True)
abbrev po_836_Code_addGoal (I : FieldType → ClassId) (q813 : Nat) (q814 : Nat) (q815 : Nat) (q816 : Nat) (q817 : Nat) (q818 : Nat) (q819 : Nat) (q820 : Nat) (q821 : Nat) (q822 : Nat) (p823 : Int32) (p824 : Int32) (p825 : Int32) (p826 : Int32) (f827 : Nat → Int32) (f828 : Nat → Int32) (f829 : Nat → Int32) (f830 : Nat → Int32) (f831 : Nat → Int32) (f832 : Nat → Int32) (f833 : Nat → Int32) (f834 : Nat → Int32) (f835 : Nat → Int32) : Option Value → va_W → Prop := fun r w => ∃ (o852 : Int32) (f850 : Nat → Int32) (f851 : Nat → Int32), r = some (.int o852) ∧ w = [(q813, .inr (5, [.ref q814, .ref q815, .ref q816, .ref q817, .ref q818, .ref q819, .ref q820, .ref q821, .ref q822, .int p824, .int p825, .int p826])), (q814, .inl (I .int, 40, .inl f827)), (q815, .inl (I .int, 40, .inl f850)), (q816, .inl (I .int, 40, .inl f851)), (q817, .inl (I .int, 200, .inl f830)), (q818, .inl (I .int, 200, .inl f831)), (q819, .inl (I .int, 200, .inl f832)), (q820, .inl (I .int, 200, .inl f833)), (q821, .inl (I .int, 200, .inl f834)), (q822, .inl (I .int, 200, .inl f835))] ∧ gB o852 (-1) 79 ∧ gF f850 (-2147483648) 2147483647 ∧ gF f851 (-2147483648) 2147483647
set_option maxRecDepth 100000 in
set_option maxHeartbeats 4000000 in
theorem ct_836_Code_addGoal (l : Launch) (hl0 : l.stackTraces = false) (D : va_G) (I : FieldType → ClassId) (q813 : Nat) (q814 : Nat) (q815 : Nat) (q816 : Nat) (q817 : Nat) (q818 : Nat) (q819 : Nat) (q820 : Nat) (q821 : Nat) (q822 : Nat) (p823 : Int32) (p824 : Int32) (p825 : Int32) (p826 : Int32) (f827 : Nat → Int32) (f828 : Nat → Int32) (f829 : Nat → Int32) (f830 : Nat → Int32) (f831 : Nat → Int32) (f832 : Nat → Int32) (f833 : Nat → Int32) (f834 : Nat → Int32) (f835 : Nat → Int32) (bp824 : gB p824 0 40) (bp825 : gB p825 0 200) (bp826 : gB p826 0 1) (bf827 : gF f827 0 200) : Ct (gV D I) l yX0_addGoal cX0_addGoal 5 (some FieldType.int) 0 0 0 0 [.ref q813, .int p823] [(q813, .inr (5, [.ref q814, .ref q815, .ref q816, .ref q817, .ref q818, .ref q819, .ref q820, .ref q821, .ref q822, .int p824, .int p825, .int p826])), (q814, .inl (I .int, 40, .inl f827)), (q815, .inl (I .int, 40, .inl f828)), (q816, .inl (I .int, 40, .inl f829)), (q817, .inl (I .int, 200, .inl f830)), (q818, .inl (I .int, 200, .inl f831)), (q819, .inl (I .int, 200, .inl f832)), (q820, .inl (I .int, 200, .inl f833)), (q821, .inl (I .int, 200, .inl f834)), (q822, .inl (I .int, 200, .inl f835))] (po_836_Code_addGoal I q813 q814 q815 q816 q817 q818 q819 q820 q821 q822 p823 p824 p825 p826 f827 f828 f829 f830 f831 f832 f833 f834 f835) gN := by
  refine Ct_of hl0 (by decide) (Nat.le_of_ble_eq_true rfl) ?_
  have bp823 := gB_any p823
  refine G_aload_n 0 d_cX0_addGoal_0 rfl ?_
  refine G_getf 0 9 d_cX0_addGoal_1 rfl (gk_X0 D I) (Nat.le_of_ble_eq_true rfl) w_1_187 rfl ?_
  refine G_iconst 1 d_cX0_addGoal_4 (by decide +kernel) ?_
  refine G_isub d_cX0_addGoal_5 (G_nam fun z837 hz837 => ?_)
  have ez837 : z837.toInt = p824.toInt - 1 := by rw [gI_sub hz837 bp824 (gBl (show Int32.toInt 1 = 1 by decide)) (by decide) (by decide), show Int32.toInt 1 = 1 from by decide]
  have bz837 : gB z837 (-1) 39 := gB_sub (gI_sub hz837 bp824 (gBl (show Int32.toInt 1 = 1 by decide)) (by decide) (by decide)) bp824 (gBl (show Int32.toInt 1 = 1 by decide)) (by decide) (by decide)
  refine G_istore_n (L' := [(2, .int z837), (0, .ref q813), (1, .int p823)]) d_cX0_addGoal_6 (Nat.le_of_ble_eq_true rfl) rfl ?_
  refine G_iload_n 0 d_cX0_addGoal_7 rfl ?_
  refine G_if_ge 13 d_cX0_addGoal_8 (by decide +kernel) (fun hc838 => ?_) (fun hc838 => ?_)
  · have r839 : 0 ≤ z837.toInt := gj_leL hc838 (show Int32.toInt 0 = 0 by decide)
    have bz837' : gB z837 0 39 := ⟨by omega, by omega⟩
    refine G_aload_n 1 d_cX0_addGoal_13 rfl ?_
    refine G_getf 0 1 d_cX0_addGoal_14 rfl (gk_X0 D I) (Nat.le_of_ble_eq_true rfl) w_1_149 rfl ?_
    refine G_iload_n 0 d_cX0_addGoal_17 rfl ?_
    refine G_iald 2 0 d_cX0_addGoal_18 rfl rfl (gB_in bz837' (by decide) (by decide)) (G_nam fun z840 hz840 => ?_)
    have bz840 : gB z840 (-2147483648) 2147483647 := gB_any z840
    refine G_iconst (-1) d_cX0_addGoal_19 (by decide +kernel) ?_
    refine G_icmp_eq 27 d_cX0_addGoal_20 (by decide +kernel) (fun hc841 => ?_) (fun hc841 => ?_)
    · have r842 : z840.toInt = (-1) := gj_eq hc841 (show Int32.toInt (-1) = (-1) by decide)
      have bz840' : gB z840 (-1) (-1) := ⟨by omega, by omega⟩
      refine G_iconst 0 d_cX0_addGoal_27 (by decide +kernel) ?_
      refine G_istore_n (L' := [(3, .int 0), (2, .int z837), (0, .ref q813), (1, .int p823)]) d_cX0_addGoal_28 (Nat.le_of_ble_eq_true rfl) rfl ?_
      refine G_iload_n 0 d_cX0_addGoal_29 rfl ?_
      refine G_if_eq 40 d_cX0_addGoal_30 (by decide +kernel) (fun _ => ?_) (fun hc => absurd hc (by decide))
      refine G_aload_n 2 d_cX0_addGoal_40 rfl ?_
      refine G_getf 0 1 d_cX0_addGoal_41 rfl (gk_X0 D I) (Nat.le_of_ble_eq_true rfl) w_1_149 rfl ?_
      refine G_astore (L' := [(4, .ref q815), (3, .int 0), (2, .int z837), (0, .ref q813), (1, .int p823)]) d_cX0_addGoal_44 (Nat.le_of_ble_eq_true rfl) rfl ?_
      refine G_aload 0 d_cX0_addGoal_46 rfl ?_
      refine G_iload_n 2 d_cX0_addGoal_48 rfl ?_
      refine G_iload_n 4 d_cX0_addGoal_49 rfl ?_
      refine G_iastN 2 0 d_cX0_addGoal_50 rfl rfl (gB_in bz837' (by decide) (by decide)) (fun f843 hf843 => ?_)
      refine G_ws (ws' := [(q813, .inr (5, [.ref q814, .ref q815, .ref q816, .ref q817, .ref q818, .ref q819, .ref q820, .ref q821, .ref q822, .int p824, .int p825, .int p826])), (q814, .inl (I .int, 40, .inl f827)), (q815, .inl (I .int, 40, .inl f843)), (q816, .inl (I .int, 40, .inl f829)), (q817, .inl (I .int, 200, .inl f830)), (q818, .inl (I .int, 200, .inl f831)), (q819, .inl (I .int, 200, .inl f832)), (q820, .inl (I .int, 200, .inl f833)), (q821, .inl (I .int, 200, .inl f834)), (q822, .inl (I .int, 200, .inl f835))]) (cs' := 0) (sl' := 0) rfl rfl rfl ?_
      refine G_iload_n 1 d_cX0_addGoal_51 rfl ?_
      refine G_if_eq 63 d_cX0_addGoal_52 (by decide +kernel) (fun _ => ?_) (fun hc => absurd hc (by decide))
      refine G_iconst 2 d_cX0_addGoal_63 (by decide +kernel) ?_
      refine G_iload_n 2 d_cX0_addGoal_64 rfl ?_
      refine G_imul d_cX0_addGoal_65 (G_nam fun z844 hz844 => ?_)
      have ez844 : z844.toInt = 2 * z837.toInt := by rw [gI_mul hz844 (gBl (show Int32.toInt 2 = 2 by decide)) bz837' (by decide) (by decide) (by decide), show Int32.toInt 2 = 2 from by decide]
      have bz844 : gB z844 0 78 := gB_mul hz844 (gBl (show Int32.toInt 2 = 2 by decide)) bz837' (by decide) (by decide) (by decide) (by decide)
      exact G_iret d_cX0_addGoal_66 rfl (Nat.le_of_ble_eq_true rfl) (Nat.le_of_ble_eq_true rfl) ⟨z844, f843, f829, rfl, rfl, (gB_w bz844 (by decide) (by decide)), (gF_any f843), (gF_any f829)⟩
    · have r845 : z840.toInt ≠ (-1) := gj_neq hc841 (show Int32.toInt (-1) = (-1) by decide)
      refine G_iconst 1 d_cX0_addGoal_23 (by decide +kernel) ?_
      refine G_goto 28 d_cX0_addGoal_24 (by decide +kernel) ?_
      refine G_istore_n (L' := [(3, .int 1), (2, .int z837), (0, .ref q813), (1, .int p823)]) d_cX0_addGoal_28 (Nat.le_of_ble_eq_true rfl) rfl ?_
      refine G_iload_n 0 d_cX0_addGoal_29 rfl ?_
      refine G_if_eq 40 d_cX0_addGoal_30 (by decide +kernel) (fun hc => absurd hc (by decide)) (fun _ => ?_)
      refine G_aload_n 2 d_cX0_addGoal_33 rfl ?_
      refine G_getf 0 2 d_cX0_addGoal_34 rfl (gk_X0 D I) (Nat.le_of_ble_eq_true rfl) w_1_154 rfl ?_
      refine G_goto 44 d_cX0_addGoal_37 (by decide +kernel) ?_
      refine G_astore (L' := [(4, .ref q816), (3, .int 1), (2, .int z837), (0, .ref q813), (1, .int p823)]) d_cX0_addGoal_44 (Nat.le_of_ble_eq_true rfl) rfl ?_
      refine G_aload 0 d_cX0_addGoal_46 rfl ?_
      refine G_iload_n 2 d_cX0_addGoal_48 rfl ?_
      refine G_iload_n 4 d_cX0_addGoal_49 rfl ?_
      refine G_iastN 3 0 d_cX0_addGoal_50 rfl rfl (gB_in bz837' (by decide) (by decide)) (fun f846 hf846 => ?_)
      refine G_ws (ws' := [(q813, .inr (5, [.ref q814, .ref q815, .ref q816, .ref q817, .ref q818, .ref q819, .ref q820, .ref q821, .ref q822, .int p824, .int p825, .int p826])), (q814, .inl (I .int, 40, .inl f827)), (q815, .inl (I .int, 40, .inl f828)), (q816, .inl (I .int, 40, .inl f846)), (q817, .inl (I .int, 200, .inl f830)), (q818, .inl (I .int, 200, .inl f831)), (q819, .inl (I .int, 200, .inl f832)), (q820, .inl (I .int, 200, .inl f833)), (q821, .inl (I .int, 200, .inl f834)), (q822, .inl (I .int, 200, .inl f835))]) (cs' := 0) (sl' := 0) rfl rfl rfl ?_
      refine G_iload_n 1 d_cX0_addGoal_51 rfl ?_
      refine G_if_eq 63 d_cX0_addGoal_52 (by decide +kernel) (fun hc => absurd hc (by decide)) (fun _ => ?_)
      refine G_iconst 2 d_cX0_addGoal_55 (by decide +kernel) ?_
      refine G_iload_n 2 d_cX0_addGoal_56 rfl ?_
      refine G_imul d_cX0_addGoal_57 (G_nam fun z847 hz847 => ?_)
      have ez847 : z847.toInt = 2 * z837.toInt := by rw [gI_mul hz847 (gBl (show Int32.toInt 2 = 2 by decide)) bz837' (by decide) (by decide) (by decide), show Int32.toInt 2 = 2 from by decide]
      have bz847 : gB z847 0 78 := gB_mul hz847 (gBl (show Int32.toInt 2 = 2 by decide)) bz837' (by decide) (by decide) (by decide) (by decide)
      refine G_iconst 1 d_cX0_addGoal_58 (by decide +kernel) ?_
      refine G_iadd d_cX0_addGoal_59 (G_nam fun z848 hz848 => ?_)
      have ez848 : z848.toInt = z847.toInt + 1 := by rw [gI_add hz848 bz847 (gBl (show Int32.toInt 1 = 1 by decide)) (by decide) (by decide), show Int32.toInt 1 = 1 from by decide]
      have bz848 : gB z848 1 79 := gB_add (gI_add hz848 bz847 (gBl (show Int32.toInt 1 = 1 by decide)) (by decide) (by decide)) bz847 (gBl (show Int32.toInt 1 = 1 by decide)) (by decide) (by decide)
      refine G_goto 66 d_cX0_addGoal_60 (by decide +kernel) ?_
      exact G_iret d_cX0_addGoal_66 rfl (Nat.le_of_ble_eq_true rfl) (Nat.le_of_ble_eq_true rfl) ⟨z848, f828, f846, rfl, rfl, (gB_w bz848 (by decide) (by decide)), (gF_any f828), (gF_any f846)⟩
  · have r849 : z837.toInt < 0 := gj_nleL hc838 (show Int32.toInt 0 = 0 by decide)
    have bz837' : gB z837 (-1) (-1) := ⟨by omega, by omega⟩
    refine G_iconst (-1) d_cX0_addGoal_11 (by decide +kernel) ?_
    exact G_iret d_cX0_addGoal_12 rfl (Nat.le_of_ble_eq_true rfl) (Nat.le_of_ble_eq_true rfl) ⟨(-1), f828, f829, rfl, rfl, (gB_w (gBl (show Int32.toInt (-1) = (-1) by decide)) (by decide) (by decide)), (gF_any f828), (gF_any f829)⟩
abbrev ky_881_Code_add : gKey := (cX0_add, 7, yX0_add.cls, none, [], yX0_add.name, fun _ _ => True)
abbrev po_881_Code_add (I : FieldType → ClassId) (q853 : Nat) (q854 : Nat) (q855 : Nat) (q856 : Nat) (q857 : Nat) (q858 : Nat) (q859 : Nat) (q860 : Nat) (q861 : Nat) (q862 : Nat) (p863 : Int32) (p864 : Int32) (p865 : Int32) (p866 : Int32) (p867 : Int32) (p868 : Int32) (p869 : Int32) (p870 : Int32) (p871 : Int32) (f872 : Nat → Int32) (f873 : Nat → Int32) (f874 : Nat → Int32) (f875 : Nat → Int32) (f876 : Nat → Int32) (f877 : Nat → Int32) (f878 : Nat → Int32) (f879 : Nat → Int32) (f880 : Nat → Int32) : Option Value → va_W → Prop := fun r w => ∃ (o892 : Int32) (f893 : Nat → Int32) (f894 : Nat → Int32) (f895 : Nat → Int32) (f896 : Nat → Int32) (f897 : Nat → Int32) (f898 : Nat → Int32) (o899 : Int32), r = none ∧ w = [(q853, .inr (5, [.ref q854, .ref q855, .ref q856, .ref q857, .ref q858, .ref q859, .ref q860, .ref q861, .ref q862, .int p869, .int o892, .int o899])), (q854, .inl (I .int, 40, .inl f872)), (q855, .inl (I .int, 40, .inl f873)), (q856, .inl (I .int, 40, .inl f874)), (q857, .inl (I .int, 200, .inl f893)), (q858, .inl (I .int, 200, .inl f894)), (q859, .inl (I .int, 200, .inl f895)), (q860, .inl (I .int, 200, .inl f896)), (q861, .inl (I .int, 200, .inl f897)), (q862, .inl (I .int, 200, .inl f898))] ∧ gB o892 1 200 ∧ gF f893 (-2147483648) 2147483647 ∧ gF f894 (-2147483648) 2147483647 ∧ gF f895 (-2147483648) 2147483647 ∧ gF f896 (-2147483648) 2147483647 ∧ gF f897 (-2147483648) 2147483647 ∧ gF f898 (-2147483648) 2147483647 ∧ gB o899 0 1
set_option maxRecDepth 100000 in
set_option maxHeartbeats 4000000 in
theorem ct_881_Code_add (l : Launch) (hl0 : l.stackTraces = false) (D : va_G) (I : FieldType → ClassId) (q853 : Nat) (q854 : Nat) (q855 : Nat) (q856 : Nat) (q857 : Nat) (q858 : Nat) (q859 : Nat) (q860 : Nat) (q861 : Nat) (q862 : Nat) (p863 : Int32) (p864 : Int32) (p865 : Int32) (p866 : Int32) (p867 : Int32) (p868 : Int32) (p869 : Int32) (p870 : Int32) (p871 : Int32) (f872 : Nat → Int32) (f873 : Nat → Int32) (f874 : Nat → Int32) (f875 : Nat → Int32) (f876 : Nat → Int32) (f877 : Nat → Int32) (f878 : Nat → Int32) (f879 : Nat → Int32) (f880 : Nat → Int32) (bp869 : gB p869 0 40) (bp870 : gB p870 0 200) (bp871 : gB p871 0 1) (bf872 : gF f872 0 200) : Ct (gV D I) l yX0_add cX0_add 7 none 0 0 0 0 [.ref q853, .int p863, .int p864, .int p865, .int p866, .int p867, .int p868] [(q853, .inr (5, [.ref q854, .ref q855, .ref q856, .ref q857, .ref q858, .ref q859, .ref q860, .ref q861, .ref q862, .int p869, .int p870, .int p871])), (q854, .inl (I .int, 40, .inl f872)), (q855, .inl (I .int, 40, .inl f873)), (q856, .inl (I .int, 40, .inl f874)), (q857, .inl (I .int, 200, .inl f875)), (q858, .inl (I .int, 200, .inl f876)), (q859, .inl (I .int, 200, .inl f877)), (q860, .inl (I .int, 200, .inl f878)), (q861, .inl (I .int, 200, .inl f879)), (q862, .inl (I .int, 200, .inl f880))] (po_881_Code_add I q853 q854 q855 q856 q857 q858 q859 q860 q861 q862 p863 p864 p865 p866 p867 p868 p869 p870 p871 f872 f873 f874 f875 f876 f877 f878 f879 f880) gN := by
  refine Ct_of hl0 (by decide) (Nat.le_of_ble_eq_true rfl) ?_
  have bp863 := gB_any p863
  have bp864 := gB_any p864
  have bp865 := gB_any p865
  have bp866 := gB_any p866
  have bp867 := gB_any p867
  have bp868 := gB_any p868
  refine G_aload_n 0 d_cX0_add_0 rfl ?_
  refine G_getf 0 10 d_cX0_add_1 rfl (gk_X0 D I) (Nat.le_of_ble_eq_true rfl) w_1_197 rfl ?_
  refine G_aload_n 0 d_cX0_add_4 rfl ?_
  refine G_getf 0 3 d_cX0_add_5 rfl (gk_X0 D I) (Nat.le_of_ble_eq_true rfl) w_1_159 rfl ?_
  refine G_alen 200 4 0 d_cX0_add_8 rfl rfl rfl ?_
  refine G_icmp_lt 18 d_cX0_add_9 (by decide +kernel) (fun hc882 => ?_) (fun hc882 => ?_)
  · have r883 : p870.toInt < 200 := gj_lt hc882 (show Int32.toInt 200 = 200 by decide)
    have bp870' : gB p870 0 199 := ⟨by omega, by omega⟩
    refine G_aload_n 0 d_cX0_add_18 rfl ?_
    refine G_getf 0 3 d_cX0_add_19 rfl (gk_X0 D I) (Nat.le_of_ble_eq_true rfl) w_1_159 rfl ?_
    refine G_aload_n 0 d_cX0_add_22 rfl ?_
    refine G_getf 0 10 d_cX0_add_23 rfl (gk_X0 D I) (Nat.le_of_ble_eq_true rfl) w_1_197 rfl ?_
    refine G_iload_n 1 d_cX0_add_26 rfl ?_
    refine G_iastN 4 0 d_cX0_add_27 rfl rfl (gB_in bp870' (by decide) (by decide)) (fun f884 hf884 => ?_)
    refine G_ws (ws' := [(q853, .inr (5, [.ref q854, .ref q855, .ref q856, .ref q857, .ref q858, .ref q859, .ref q860, .ref q861, .ref q862, .int p869, .int p870, .int p871])), (q854, .inl (I .int, 40, .inl f872)), (q855, .inl (I .int, 40, .inl f873)), (q856, .inl (I .int, 40, .inl f874)), (q857, .inl (I .int, 200, .inl f884)), (q858, .inl (I .int, 200, .inl f876)), (q859, .inl (I .int, 200, .inl f877)), (q860, .inl (I .int, 200, .inl f878)), (q861, .inl (I .int, 200, .inl f879)), (q862, .inl (I .int, 200, .inl f880))]) (cs' := 0) (sl' := 0) rfl rfl rfl ?_
    refine G_aload_n 0 d_cX0_add_28 rfl ?_
    refine G_getf 0 4 d_cX0_add_29 rfl (gk_X0 D I) (Nat.le_of_ble_eq_true rfl) w_1_163 rfl ?_
    refine G_aload_n 0 d_cX0_add_32 rfl ?_
    refine G_getf 0 10 d_cX0_add_33 rfl (gk_X0 D I) (Nat.le_of_ble_eq_true rfl) w_1_197 rfl ?_
    refine G_iload_n 2 d_cX0_add_36 rfl ?_
    refine G_iastN 5 0 d_cX0_add_37 rfl rfl (gB_in bp870' (by decide) (by decide)) (fun f885 hf885 => ?_)
    refine G_ws (ws' := [(q853, .inr (5, [.ref q854, .ref q855, .ref q856, .ref q857, .ref q858, .ref q859, .ref q860, .ref q861, .ref q862, .int p869, .int p870, .int p871])), (q854, .inl (I .int, 40, .inl f872)), (q855, .inl (I .int, 40, .inl f873)), (q856, .inl (I .int, 40, .inl f874)), (q857, .inl (I .int, 200, .inl f884)), (q858, .inl (I .int, 200, .inl f885)), (q859, .inl (I .int, 200, .inl f877)), (q860, .inl (I .int, 200, .inl f878)), (q861, .inl (I .int, 200, .inl f879)), (q862, .inl (I .int, 200, .inl f880))]) (cs' := 0) (sl' := 0) rfl rfl rfl ?_
    refine G_aload_n 0 d_cX0_add_38 rfl ?_
    refine G_getf 0 5 d_cX0_add_39 rfl (gk_X0 D I) (Nat.le_of_ble_eq_true rfl) w_1_168 rfl ?_
    refine G_aload_n 0 d_cX0_add_42 rfl ?_
    refine G_getf 0 10 d_cX0_add_43 rfl (gk_X0 D I) (Nat.le_of_ble_eq_true rfl) w_1_197 rfl ?_
    refine G_iload_n 3 d_cX0_add_46 rfl ?_
    refine G_iastN 6 0 d_cX0_add_47 rfl rfl (gB_in bp870' (by decide) (by decide)) (fun f886 hf886 => ?_)
    refine G_ws (ws' := [(q853, .inr (5, [.ref q854, .ref q855, .ref q856, .ref q857, .ref q858, .ref q859, .ref q860, .ref q861, .ref q862, .int p869, .int p870, .int p871])), (q854, .inl (I .int, 40, .inl f872)), (q855, .inl (I .int, 40, .inl f873)), (q856, .inl (I .int, 40, .inl f874)), (q857, .inl (I .int, 200, .inl f884)), (q858, .inl (I .int, 200, .inl f885)), (q859, .inl (I .int, 200, .inl f886)), (q860, .inl (I .int, 200, .inl f878)), (q861, .inl (I .int, 200, .inl f879)), (q862, .inl (I .int, 200, .inl f880))]) (cs' := 0) (sl' := 0) rfl rfl rfl ?_
    refine G_aload_n 0 d_cX0_add_48 rfl ?_
    refine G_getf 0 6 d_cX0_add_49 rfl (gk_X0 D I) (Nat.le_of_ble_eq_true rfl) w_1_174 rfl ?_
    refine G_aload_n 0 d_cX0_add_52 rfl ?_
    refine G_getf 0 10 d_cX0_add_53 rfl (gk_X0 D I) (Nat.le_of_ble_eq_true rfl) w_1_197 rfl ?_
    refine G_iload 4 d_cX0_add_56 rfl ?_
    refine G_iastN 7 0 d_cX0_add_58 rfl rfl (gB_in bp870' (by decide) (by decide)) (fun f887 hf887 => ?_)
    refine G_ws (ws' := [(q853, .inr (5, [.ref q854, .ref q855, .ref q856, .ref q857, .ref q858, .ref q859, .ref q860, .ref q861, .ref q862, .int p869, .int p870, .int p871])), (q854, .inl (I .int, 40, .inl f872)), (q855, .inl (I .int, 40, .inl f873)), (q856, .inl (I .int, 40, .inl f874)), (q857, .inl (I .int, 200, .inl f884)), (q858, .inl (I .int, 200, .inl f885)), (q859, .inl (I .int, 200, .inl f886)), (q860, .inl (I .int, 200, .inl f887)), (q861, .inl (I .int, 200, .inl f879)), (q862, .inl (I .int, 200, .inl f880))]) (cs' := 0) (sl' := 0) rfl rfl rfl ?_
    refine G_aload_n 0 d_cX0_add_59 rfl ?_
    refine G_getf 0 7 d_cX0_add_60 rfl (gk_X0 D I) (Nat.le_of_ble_eq_true rfl) w_1_178 rfl ?_
    refine G_aload_n 0 d_cX0_add_63 rfl ?_
    refine G_getf 0 10 d_cX0_add_64 rfl (gk_X0 D I) (Nat.le_of_ble_eq_true rfl) w_1_197 rfl ?_
    refine G_iload 5 d_cX0_add_67 rfl ?_
    refine G_iastN 8 0 d_cX0_add_69 rfl rfl (gB_in bp870' (by decide) (by decide)) (fun f888 hf888 => ?_)
    refine G_ws (ws' := [(q853, .inr (5, [.ref q854, .ref q855, .ref q856, .ref q857, .ref q858, .ref q859, .ref q860, .ref q861, .ref q862, .int p869, .int p870, .int p871])), (q854, .inl (I .int, 40, .inl f872)), (q855, .inl (I .int, 40, .inl f873)), (q856, .inl (I .int, 40, .inl f874)), (q857, .inl (I .int, 200, .inl f884)), (q858, .inl (I .int, 200, .inl f885)), (q859, .inl (I .int, 200, .inl f886)), (q860, .inl (I .int, 200, .inl f887)), (q861, .inl (I .int, 200, .inl f888)), (q862, .inl (I .int, 200, .inl f880))]) (cs' := 0) (sl' := 0) rfl rfl rfl ?_
    refine G_aload_n 0 d_cX0_add_70 rfl ?_
    refine G_getf 0 8 d_cX0_add_71 rfl (gk_X0 D I) (Nat.le_of_ble_eq_true rfl) w_1_183 rfl ?_
    refine G_aload_n 0 d_cX0_add_74 rfl ?_
    refine G_getf 0 10 d_cX0_add_75 rfl (gk_X0 D I) (Nat.le_of_ble_eq_true rfl) w_1_197 rfl ?_
    refine G_iload 6 d_cX0_add_78 rfl ?_
    refine G_iastN 9 0 d_cX0_add_80 rfl rfl (gB_in bp870' (by decide) (by decide)) (fun f889 hf889 => ?_)
    refine G_ws (ws' := [(q853, .inr (5, [.ref q854, .ref q855, .ref q856, .ref q857, .ref q858, .ref q859, .ref q860, .ref q861, .ref q862, .int p869, .int p870, .int p871])), (q854, .inl (I .int, 40, .inl f872)), (q855, .inl (I .int, 40, .inl f873)), (q856, .inl (I .int, 40, .inl f874)), (q857, .inl (I .int, 200, .inl f884)), (q858, .inl (I .int, 200, .inl f885)), (q859, .inl (I .int, 200, .inl f886)), (q860, .inl (I .int, 200, .inl f887)), (q861, .inl (I .int, 200, .inl f888)), (q862, .inl (I .int, 200, .inl f889))]) (cs' := 0) (sl' := 0) rfl rfl rfl ?_
    refine G_aload_n 0 d_cX0_add_81 rfl ?_
    refine G_dup d_cX0_add_82 rfl ?_
    refine G_getf 0 10 d_cX0_add_83 rfl (gk_X0 D I) (Nat.le_of_ble_eq_true rfl) w_1_197 rfl ?_
    refine G_iconst 1 d_cX0_add_86 (by decide +kernel) ?_
    refine G_iadd d_cX0_add_87 (G_nam fun z890 hz890 => ?_)
    have ez890 : z890.toInt = p870.toInt + 1 := by rw [gI_add hz890 bp870' (gBl (show Int32.toInt 1 = 1 by decide)) (by decide) (by decide), show Int32.toInt 1 = 1 from by decide]
    have bz890 : gB z890 1 200 := gB_add (gI_add hz890 bp870' (gBl (show Int32.toInt 1 = 1 by decide)) (by decide) (by decide)) bp870' (gBl (show Int32.toInt 1 = 1 by decide)) (by decide) (by decide)
    refine G_putf (ws' := [(q853, .inr (5, [.ref q854, .ref q855, .ref q856, .ref q857, .ref q858, .ref q859, .ref q860, .ref q861, .ref q862, .int p869, .int z890, .int p871])), (q854, .inl (I .int, 40, .inl f872)), (q855, .inl (I .int, 40, .inl f873)), (q856, .inl (I .int, 40, .inl f874)), (q857, .inl (I .int, 200, .inl f884)), (q858, .inl (I .int, 200, .inl f885)), (q859, .inl (I .int, 200, .inl f886)), (q860, .inl (I .int, 200, .inl f887)), (q861, .inl (I .int, 200, .inl f888)), (q862, .inl (I .int, 200, .inl f889))]) 0 10 d_cX0_add_88 rfl (gk_X0 D I) (Nat.le_of_ble_eq_true rfl) w_1_197 rfl rfl rfl (Nat.le_of_ble_eq_true rfl) rfl ?_
    exact G_vret d_cX0_add_91 rfl (Nat.le_of_ble_eq_true rfl) (Nat.le_of_ble_eq_true rfl) ⟨z890, f884, f885, f886, f887, f888, f889, p871, rfl, rfl, bz890, (gF_any f884), (gF_any f885), (gF_any f886), (gF_any f887), (gF_any f888), (gF_any f889), bp871⟩
  · have r891 : 200 ≤ p870.toInt := gj_nlt hc882 (show Int32.toInt 200 = 200 by decide)
    have bp870' : gB p870 200 200 := ⟨by omega, by omega⟩
    refine G_aload_n 0 d_cX0_add_12 rfl ?_
    refine G_iconst 1 d_cX0_add_13 (by decide +kernel) ?_
    refine G_putf (ws' := [(q853, .inr (5, [.ref q854, .ref q855, .ref q856, .ref q857, .ref q858, .ref q859, .ref q860, .ref q861, .ref q862, .int p869, .int p870, .int 1])), (q854, .inl (I .int, 40, .inl f872)), (q855, .inl (I .int, 40, .inl f873)), (q856, .inl (I .int, 40, .inl f874)), (q857, .inl (I .int, 200, .inl f875)), (q858, .inl (I .int, 200, .inl f876)), (q859, .inl (I .int, 200, .inl f877)), (q860, .inl (I .int, 200, .inl f878)), (q861, .inl (I .int, 200, .inl f879)), (q862, .inl (I .int, 200, .inl f880))]) 0 11 d_cX0_add_14 rfl (gk_X0 D I) (Nat.le_of_ble_eq_true rfl) w_1_200 rfl rfl rfl (Nat.le_of_ble_eq_true rfl) rfl ?_
    exact G_vret d_cX0_add_17 rfl (Nat.le_of_ble_eq_true rfl) (Nat.le_of_ble_eq_true rfl) ⟨p870, f875, f876, f877, f878, f879, f880, 1, rfl, rfl, (gB_w bp870' (by decide) (by decide)), (gF_any f875), (gF_any f876), (gF_any f877), (gF_any f878), (gF_any f879), (gF_any f880), (gB_w (gBl (show Int32.toInt 1 = 1 by decide)) (by decide) (by decide))⟩
abbrev ky_922_Code_openLike : gKey := (cX0_openLike, 3, yX0_openLike.cls, none, [], yX0_openLike.name, fun _ _ => True)
abbrev po_922_Code_openLike (I : FieldType → ClassId) (q900 : Nat) (q901 : Nat) (q902 : Nat) (q903 : Nat) (q904 : Nat) (q905 : Nat) (q906 : Nat) (q907 : Nat) (q908 : Nat) (q909 : Nat) (p910 : Int32) (p911 : Int32) (p912 : Int32) (f913 : Nat → Int32) (f914 : Nat → Int32) (f915 : Nat → Int32) (f916 : Nat → Int32) (f917 : Nat → Int32) (f918 : Nat → Int32) (f919 : Nat → Int32) (f920 : Nat → Int32) (f921 : Nat → Int32) : Option Value → va_W → Prop := fun r w => r = none ∧ w = [(q900, .inr (5, [.ref q901, .ref q902, .ref q903, .ref q904, .ref q905, .ref q906, .ref q907, .ref q908, .ref q909, .int p910, .int p911, .int p912])), (q901, .inl (I .int, 40, .inl f913)), (q902, .inl (I .int, 40, .inl f914)), (q903, .inl (I .int, 40, .inl f915)), (q904, .inl (I .int, 200, .inl f916)), (q905, .inl (I .int, 200, .inl f917)), (q906, .inl (I .int, 200, .inl f918)), (q907, .inl (I .int, 200, .inl f919)), (q908, .inl (I .int, 200, .inl f920)), (q909, .inl (I .int, 200, .inl f921))]
set_option maxRecDepth 100000 in
set_option maxHeartbeats 4000000 in
theorem ct_922_Code_openLike (l : Launch) (hl0 : l.stackTraces = false) (D : va_G) (I : FieldType → ClassId) (q900 : Nat) (q901 : Nat) (q902 : Nat) (q903 : Nat) (q904 : Nat) (q905 : Nat) (q906 : Nat) (q907 : Nat) (q908 : Nat) (q909 : Nat) (p910 : Int32) (p911 : Int32) (p912 : Int32) (f913 : Nat → Int32) (f914 : Nat → Int32) (f915 : Nat → Int32) (f916 : Nat → Int32) (f917 : Nat → Int32) (f918 : Nat → Int32) (f919 : Nat → Int32) (f920 : Nat → Int32) (f921 : Nat → Int32) (bp910 : gB p910 0 40) (bp911 : gB p911 0 200) (bp912 : gB p912 0 1) (bf913 : gF f913 0 200) : Ct (gV D I) l yX0_openLike cX0_openLike 3 none 0 0 0 0 [.ref q900, .ref q900] [(q900, .inr (5, [.ref q901, .ref q902, .ref q903, .ref q904, .ref q905, .ref q906, .ref q907, .ref q908, .ref q909, .int p910, .int p911, .int p912])), (q901, .inl (I .int, 40, .inl f913)), (q902, .inl (I .int, 40, .inl f914)), (q903, .inl (I .int, 40, .inl f915)), (q904, .inl (I .int, 200, .inl f916)), (q905, .inl (I .int, 200, .inl f917)), (q906, .inl (I .int, 200, .inl f918)), (q907, .inl (I .int, 200, .inl f919)), (q908, .inl (I .int, 200, .inl f920)), (q909, .inl (I .int, 200, .inl f921))] (po_922_Code_openLike I q900 q901 q902 q903 q904 q905 q906 q907 q908 q909 p910 p911 p912 f913 f914 f915 f916 f917 f918 f919 f920 f921) gN := by
  refine Ct_of hl0 (by decide) (Nat.le_of_ble_eq_true rfl) ?_
  refine G_aload_n 0 d_cX0_openLike_0 rfl ?_
  refine G_getf 0 9 d_cX0_openLike_1 rfl (gk_X0 D I) (Nat.le_of_ble_eq_true rfl) w_1_187 rfl ?_
  refine G_istore_n (L' := [(2, .int p910), (0, .ref q900), (1, .ref q900)]) d_cX0_openLike_4 (Nat.le_of_ble_eq_true rfl) rfl ?_
  refine G_iload_n 0 d_cX0_openLike_5 rfl ?_
  refine G_aload_n 2 d_cX0_openLike_6 rfl ?_
  refine G_getf 0 9 d_cX0_openLike_7 rfl (gk_X0 D I) (Nat.le_of_ble_eq_true rfl) w_1_187 rfl ?_
  refine G_icmp_ge 44 d_cX0_openLike_10 (by decide +kernel) (fun _ => ?_) (fun hc => absurd (show False by have := gC_nle hc; omega) not_false)
  exact G_vret d_cX0_openLike_44 rfl (Nat.le_of_ble_eq_true rfl) (Nat.le_of_ble_eq_true rfl) ⟨rfl, rfl⟩
abbrev ky_955_Code_nameIn : gKey := (cX0_nameIn, 2, yX0_nameIn.cls, (some FieldType.int), [], yX0_nameIn.name, fun _ _ => True)
abbrev po_955_Code_nameIn (I : FieldType → ClassId) (q952 : Nat) (p953 : Int32) (f954 : Nat → Int32) : Option Value → va_W → Prop := fun r w => (r = some (.int p953) ∧ w = [(q952, .inl (I .int, 720, .inl f954))] ∧ p953.toInt < 0) ∨ (r = some (.int p953) ∧ w = [(q952, .inl (I .int, 720, .inl f954))] ∧ 0 ≤ p953.toInt ∧ 720 ≤ p953.toInt) ∨ (∃ (z962 : Int32), r = some (.int z962) ∧ w = [(q952, .inl (I .int, 720, .inl f954))] ∧ 0 ≤ p953.toInt ∧ p953.toInt < 720 ∧ gB z962 (-2147483648) 2147483647)
set_option maxRecDepth 100000 in
set_option maxHeartbeats 4000000 in
theorem ct_955_Code_nameIn (l : Launch) (hl0 : l.stackTraces = false) (D : va_G) (I : FieldType → ClassId) (q952 : Nat) (p953 : Int32) (f954 : Nat → Int32)  : Ct (gV D I) l yX0_nameIn cX0_nameIn 2 (some FieldType.int) 0 0 0 0 [.ref q952, .int p953] [(q952, .inl (I .int, 720, .inl f954))] (po_955_Code_nameIn I q952 p953 f954) gN := by
  refine Ct_of hl0 (by decide) (Nat.le_of_ble_eq_true rfl) ?_
  have bp953 := gB_any p953
  refine G_iload_n 1 d_cX0_nameIn_0 rfl ?_
  refine G_if_lt 16 d_cX0_nameIn_1 (by decide +kernel) (fun hc956 => ?_) (fun hc956 => ?_)
  · have r957 : p953.toInt < 0 := gj_lt hc956 (show Int32.toInt 0 = 0 by decide)
    have bp953' : gB p953 (-2147483648) (-1) := ⟨by omega, by omega⟩
    refine G_iload_n 1 d_cX0_nameIn_16 rfl ?_
    exact G_iret d_cX0_nameIn_17 rfl (Nat.le_of_ble_eq_true rfl) (Nat.le_of_ble_eq_true rfl) (Or.inl ⟨rfl, rfl, r957⟩)
  · have r958 : 0 ≤ p953.toInt := gj_nlt hc956 (show Int32.toInt 0 = 0 by decide)
    have bp953' : gB p953 0 2147483647 := ⟨by omega, by omega⟩
    refine G_iload_n 1 d_cX0_nameIn_4 rfl ?_
    refine G_aload_n 0 d_cX0_nameIn_5 rfl ?_
    refine G_alen 720 0 0 d_cX0_nameIn_6 rfl rfl rfl ?_
    refine G_icmp_ge 16 d_cX0_nameIn_7 (by decide +kernel) (fun hc959 => ?_) (fun hc959 => ?_)
    · have r960 : 720 ≤ p953.toInt := gj_leL hc959 (show Int32.toInt 720 = 720 by decide)
      have bp953'' : gB p953 720 2147483647 := ⟨by omega, by omega⟩
      refine G_iload_n 1 d_cX0_nameIn_16 rfl ?_
      exact G_iret d_cX0_nameIn_17 rfl (Nat.le_of_ble_eq_true rfl) (Nat.le_of_ble_eq_true rfl) (Or.inr (Or.inl ⟨rfl, rfl, r958, r960⟩))
    · have r961 : p953.toInt < 720 := gj_nleL hc959 (show Int32.toInt 720 = 720 by decide)
      have bp953'' : gB p953 0 719 := ⟨by omega, by omega⟩
      refine G_aload_n 0 d_cX0_nameIn_10 rfl ?_
      refine G_iload_n 1 d_cX0_nameIn_11 rfl ?_
      refine G_iald 0 0 d_cX0_nameIn_12 rfl rfl (gB_in bp953'' (by decide) (by decide)) (G_nam fun z962 hz962 => ?_)
      have bz962 : gB z962 (-2147483648) 2147483647 := gB_any z962
      refine G_goto 17 d_cX0_nameIn_13 (by decide +kernel) ?_
      exact G_iret d_cX0_nameIn_17 rfl (Nat.le_of_ble_eq_true rfl) (Nat.le_of_ble_eq_true rfl) (Or.inr (Or.inr (⟨z962, rfl, rfl, r958, r961, bz962⟩)))
abbrev ky_947_Code_rename : gKey := (cX0_rename, 3, yX0_rename.cls, none, [], yX0_rename.name, fun _ _ => True)
abbrev po_947_Code_rename (I : FieldType → ClassId) (q923 : Nat) (q924 : Nat) (q925 : Nat) (q926 : Nat) (q927 : Nat) (q928 : Nat) (q929 : Nat) (q930 : Nat) (q931 : Nat) (q932 : Nat) (q933 : Nat) (p934 : Int32) (p935 : Int32) (p936 : Int32) (f937 : Nat → Int32) (f938 : Nat → Int32) (f939 : Nat → Int32) (f940 : Nat → Int32) (f941 : Nat → Int32) (f942 : Nat → Int32) (f943 : Nat → Int32) (f944 : Nat → Int32) (f945 : Nat → Int32) (f946 : Nat → Int32) : Option Value → va_W → Prop := fun r w => ∃ (f2167 : Nat → Int32) (f2168 : Nat → Int32) (f2169 : Nat → Int32), r = none ∧ w = [(q923, .inr (5, [.ref q925, .ref q926, .ref q927, .ref q928, .ref q929, .ref q930, .ref q931, .ref q932, .ref q933, .int p934, .int p935, .int p936])), (q924, .inl (I .int, 720, .inl f937)), (q925, .inl (I .int, 40, .inl f938)), (q926, .inl (I .int, 40, .inl f939)), (q927, .inl (I .int, 40, .inl f940)), (q928, .inl (I .int, 200, .inl f941)), (q929, .inl (I .int, 200, .inl f2167)), (q930, .inl (I .int, 200, .inl f2168)), (q931, .inl (I .int, 200, .inl f944)), (q932, .inl (I .int, 200, .inl f2169)), (q933, .inl (I .int, 200, .inl f946))] ∧ gF f2167 (-2147483648) 2147483647 ∧ gF f2168 (-2147483648) 2147483647 ∧ gF f2169 (-2147483648) 2147483647
set_option maxRecDepth 100000 in
set_option maxHeartbeats 4000000 in
theorem ct_947_Code_rename (l : Launch) (hl0 : l.stackTraces = false) (D : va_G) (I : FieldType → ClassId) (q923 : Nat) (q924 : Nat) (q925 : Nat) (q926 : Nat) (q927 : Nat) (q928 : Nat) (q929 : Nat) (q930 : Nat) (q931 : Nat) (q932 : Nat) (q933 : Nat) (p934 : Int32) (p935 : Int32) (p936 : Int32) (f937 : Nat → Int32) (f938 : Nat → Int32) (f939 : Nat → Int32) (f940 : Nat → Int32) (f941 : Nat → Int32) (f942 : Nat → Int32) (f943 : Nat → Int32) (f944 : Nat → Int32) (f945 : Nat → Int32) (f946 : Nat → Int32) (bp934 : gB p934 0 40) (bp935 : gB p935 0 200) (bp936 : gB p936 0 1) (bf938 : gF f938 0 200) : Ct (gV D I) l yX0_rename cX0_rename 3 none 1 21 0 0 [.ref q923, .ref q924] [(q923, .inr (5, [.ref q925, .ref q926, .ref q927, .ref q928, .ref q929, .ref q930, .ref q931, .ref q932, .ref q933, .int p934, .int p935, .int p936])), (q924, .inl (I .int, 720, .inl f937)), (q925, .inl (I .int, 40, .inl f938)), (q926, .inl (I .int, 40, .inl f939)), (q927, .inl (I .int, 40, .inl f940)), (q928, .inl (I .int, 200, .inl f941)), (q929, .inl (I .int, 200, .inl f942)), (q930, .inl (I .int, 200, .inl f943)), (q931, .inl (I .int, 200, .inl f944)), (q932, .inl (I .int, 200, .inl f945)), (q933, .inl (I .int, 200, .inl f946))] (po_947_Code_rename I q923 q924 q925 q926 q927 q928 q929 q930 q931 q932 q933 p934 p935 p936 f937 f938 f939 f940 f941 f942 f943 f944 f945 f946) gN := by
  refine Ct_of hl0 (by decide) (Nat.le_of_ble_eq_true rfl) ?_
  refine G_iconst 0 d_cX0_rename_0 (by decide +kernel) ?_
  refine G_istore_n (L' := [(2, .int 0), (0, .ref q923), (1, .ref q924)]) d_cX0_rename_1 (Nat.le_of_ble_eq_true rfl) rfl ?_
  have hlp2_1993 : ∀ (n2_1993 : Nat) (g1990 : Int32) (f1991 : Nat → Int32) (f1992 : Nat → Int32) (f1993 : Nat → Int32), gB g1990 0 200 → gF f1991 (-2147483648) 2147483647 → gF f1992 (-2147483648) 2147483647 → gF f1993 (-2147483648) 2147483647 → ((201 : Int) - g1990.toInt).toNat < n2_1993 → G (gV D I) l (gRm 1 21 0 0) (gM (gV D I) (po_947_Code_rename I q923 q924 q925 q926 q927 q928 q929 q930 q931 q932 q933 p934 p935 p936 f937 f938 f939 f940 f941 f942 f943 f944 f945 f946) gN 0 0) ky_947_Code_rename 2 [(2, .int g1990), (0, .ref q923), (1, .ref q924)] [] [(q923, .inr (5, [.ref q925, .ref q926, .ref q927, .ref q928, .ref q929, .ref q930, .ref q931, .ref q932, .ref q933, .int p934, .int p935, .int p936])), (q924, .inl (I .int, 720, .inl f937)), (q925, .inl (I .int, 40, .inl f938)), (q926, .inl (I .int, 40, .inl f939)), (q927, .inl (I .int, 40, .inl f940)), (q928, .inl (I .int, 200, .inl f941)), (q929, .inl (I .int, 200, .inl f1991)), (q930, .inl (I .int, 200, .inl f1992)), (q931, .inl (I .int, 200, .inl f944)), (q932, .inl (I .int, 200, .inl f1993)), (q933, .inl (I .int, 200, .inl f946))] 0 0 := by
    intro n2_1993
    induction n2_1993 with
    | zero => intro g1990 f1991 f1992 f1993 bg1990 bf1991 bf1992 bf1993 hm2_1993; exact absurd hm2_1993 (Nat.not_lt_zero _)
    | succ n2_1993 ih2_1993 =>
      intro g1990 f1991 f1992 f1993 bg1990 bf1991 bf1992 bf1993 hm2_1993
      refine G_iload_n 0 d_cX0_rename_2 rfl ?_
      refine G_aload_n 1 d_cX0_rename_3 rfl ?_
      refine G_getf 0 10 d_cX0_rename_4 rfl (gk_X0 D I) (Nat.le_of_ble_eq_true rfl) w_1_197 rfl ?_
      refine G_icmp_ge 64 d_cX0_rename_7 (by decide +kernel) (fun hc1994 => ?_) (fun hc1994 => ?_)
      · have r1995 : p935.toInt ≤ g1990.toInt := gC_le hc1994
        exact G_vret d_cX0_rename_64 rfl (Nat.le_of_ble_eq_true rfl) (Nat.le_of_ble_eq_true rfl) ⟨f1991, f1992, f1993, rfl, rfl, bf1991, bf1992, bf1993⟩
      · have r1996 : g1990.toInt < p935.toInt := gC_nle hc1994
        have bg1990' : gB g1990 0 199 := ⟨by omega, by omega⟩
        have bp935' : gB p935 1 200 := ⟨by omega, by omega⟩
        refine G_aload_n 1 d_cX0_rename_10 rfl ?_
        refine G_getf 0 4 d_cX0_rename_11 rfl (gk_X0 D I) (Nat.le_of_ble_eq_true rfl) w_1_163 rfl ?_
        refine G_iload_n 0 d_cX0_rename_14 rfl ?_
        refine G_aload_n 2 d_cX0_rename_15 rfl ?_
        refine G_aload_n 1 d_cX0_rename_16 rfl ?_
        refine G_getf 0 4 d_cX0_rename_17 rfl (gk_X0 D I) (Nat.le_of_ble_eq_true rfl) w_1_163 rfl ?_
        refine G_iload_n 0 d_cX0_rename_20 rfl ?_
        refine G_iald 6 0 d_cX0_rename_21 rfl rfl (gB_in bg1990' (by decide) (by decide)) (G_nam fun z1997 hz1997 => ?_)
        have bz1997 : gB z1997 (-2147483648) 2147483647 := by rw [hz1997]; exact bf1991 _
        refine G_callS (As := [.ref q924, .int z1997]) (wr := [(q923, .inr (5, [.ref q925, .ref q926, .ref q927, .ref q928, .ref q929, .ref q930, .ref q931, .ref q932, .ref q933, .int p934, .int p935, .int p936])), (q925, .inl (I .int, 40, .inl f938)), (q926, .inl (I .int, 40, .inl f939)), (q927, .inl (I .int, 40, .inl f940)), (q928, .inl (I .int, 200, .inl f941)), (q929, .inl (I .int, 200, .inl f1991)), (q930, .inl (I .int, 200, .inl f1992)), (q931, .inl (I .int, 200, .inl f944)), (q932, .inl (I .int, 200, .inl f1993)), (q933, .inl (I .int, 200, .inl f946))]) (gV_ok D I) (ct_955_Code_nameIn l hl0 D I q924 z1997 f937 ) d_cX0_rename_22 ⟨w_5_154, w_1_5, w_5_156, by decide, rfl, (Nat.le_of_ble_eq_true rfl), (Nat.le_of_ble_eq_true rfl)⟩ w_5_155 [1] [0, 2, 3, 4, 5, 6, 7, 8, 9, 10] rfl rfl rfl rfl (by decide) (Nat.le_of_ble_eq_true rfl) (Nat.le_of_ble_eq_true rfl) (Nat.le_of_ble_eq_true rfl) (fun r w hp => ?_) (fun _ _ _ z => z.elim)
        rcases hp with ⟨rfl, rfl, r1998⟩ | ⟨rfl, rfl, r1999, r2000⟩ | ⟨z2001, rfl, rfl, r2002, r2003, r2004⟩
        · have bz1997' : gB z1997 (-2147483648) (-1) := ⟨by omega, by omega⟩
          change G _ _ _ _ _ _ _ (.int z1997 :: _) _ _ _
          refine G_ws (ws' := [(q923, .inr (5, [.ref q925, .ref q926, .ref q927, .ref q928, .ref q929, .ref q930, .ref q931, .ref q932, .ref q933, .int p934, .int p935, .int p936])), (q925, .inl (I .int, 40, .inl f938)), (q926, .inl (I .int, 40, .inl f939)), (q927, .inl (I .int, 40, .inl f940)), (q928, .inl (I .int, 200, .inl f941)), (q929, .inl (I .int, 200, .inl f1991)), (q930, .inl (I .int, 200, .inl f1992)), (q931, .inl (I .int, 200, .inl f944)), (q932, .inl (I .int, 200, .inl f1993)), (q933, .inl (I .int, 200, .inl f946)), (q924, .inl (I .int, 720, .inl f937))]) (cs' := 0) (sl' := 0) rfl rfl rfl ?_
          refine G_iastN 5 0 d_cX0_rename_25 rfl rfl (gB_in bg1990' (by decide) (by decide)) (fun f2005 hf2005 => ?_)
          refine G_ws (ws' := [(q923, .inr (5, [.ref q925, .ref q926, .ref q927, .ref q928, .ref q929, .ref q930, .ref q931, .ref q932, .ref q933, .int p934, .int p935, .int p936])), (q925, .inl (I .int, 40, .inl f938)), (q926, .inl (I .int, 40, .inl f939)), (q927, .inl (I .int, 40, .inl f940)), (q928, .inl (I .int, 200, .inl f941)), (q929, .inl (I .int, 200, .inl f2005)), (q930, .inl (I .int, 200, .inl f1992)), (q931, .inl (I .int, 200, .inl f944)), (q932, .inl (I .int, 200, .inl f1993)), (q933, .inl (I .int, 200, .inl f946)), (q924, .inl (I .int, 720, .inl f937))]) (cs' := 0) (sl' := 0) rfl rfl rfl ?_
          refine G_aload_n 1 d_cX0_rename_26 rfl ?_
          refine G_getf 0 5 d_cX0_rename_27 rfl (gk_X0 D I) (Nat.le_of_ble_eq_true rfl) w_1_168 rfl ?_
          refine G_iload_n 0 d_cX0_rename_30 rfl ?_
          refine G_aload_n 2 d_cX0_rename_31 rfl ?_
          refine G_aload_n 1 d_cX0_rename_32 rfl ?_
          refine G_getf 0 5 d_cX0_rename_33 rfl (gk_X0 D I) (Nat.le_of_ble_eq_true rfl) w_1_168 rfl ?_
          refine G_iload_n 0 d_cX0_rename_36 rfl ?_
          refine G_iald 6 0 d_cX0_rename_37 rfl rfl (gB_in bg1990' (by decide) (by decide)) (G_nam fun z2006 hz2006 => ?_)
          have bz2006 : gB z2006 (-2147483648) 2147483647 := by rw [hz2006]; exact bf1992 _
          refine G_callS (As := [.ref q924, .int z2006]) (wr := [(q923, .inr (5, [.ref q925, .ref q926, .ref q927, .ref q928, .ref q929, .ref q930, .ref q931, .ref q932, .ref q933, .int p934, .int p935, .int p936])), (q925, .inl (I .int, 40, .inl f938)), (q926, .inl (I .int, 40, .inl f939)), (q927, .inl (I .int, 40, .inl f940)), (q928, .inl (I .int, 200, .inl f941)), (q929, .inl (I .int, 200, .inl f2005)), (q930, .inl (I .int, 200, .inl f1992)), (q931, .inl (I .int, 200, .inl f944)), (q932, .inl (I .int, 200, .inl f1993)), (q933, .inl (I .int, 200, .inl f946))]) (gV_ok D I) (ct_955_Code_nameIn l hl0 D I q924 z2006 f937 ) d_cX0_rename_38 ⟨w_5_154, w_1_5, w_5_156, by decide, rfl, (Nat.le_of_ble_eq_true rfl), (Nat.le_of_ble_eq_true rfl)⟩ w_5_155 [10] [0, 1, 2, 3, 4, 5, 6, 7, 8, 9] rfl rfl rfl rfl (by decide) (Nat.le_of_ble_eq_true rfl) (Nat.le_of_ble_eq_true rfl) (Nat.le_of_ble_eq_true rfl) (fun r w hp => ?_) (fun _ _ _ z => z.elim)
          rcases hp with ⟨rfl, rfl, r2007⟩ | ⟨rfl, rfl, r2008, r2009⟩ | ⟨z2010, rfl, rfl, r2011, r2012, r2013⟩
          · have bz2006' : gB z2006 (-2147483648) (-1) := ⟨by omega, by omega⟩
            change G _ _ _ _ _ _ _ (.int z2006 :: _) _ _ _
            refine G_ws (ws' := [(q923, .inr (5, [.ref q925, .ref q926, .ref q927, .ref q928, .ref q929, .ref q930, .ref q931, .ref q932, .ref q933, .int p934, .int p935, .int p936])), (q925, .inl (I .int, 40, .inl f938)), (q926, .inl (I .int, 40, .inl f939)), (q927, .inl (I .int, 40, .inl f940)), (q928, .inl (I .int, 200, .inl f941)), (q929, .inl (I .int, 200, .inl f2005)), (q930, .inl (I .int, 200, .inl f1992)), (q931, .inl (I .int, 200, .inl f944)), (q932, .inl (I .int, 200, .inl f1993)), (q933, .inl (I .int, 200, .inl f946)), (q924, .inl (I .int, 720, .inl f937))]) (cs' := 0) (sl' := 0) rfl rfl rfl ?_
            refine G_iastN 6 0 d_cX0_rename_41 rfl rfl (gB_in bg1990' (by decide) (by decide)) (fun f2014 hf2014 => ?_)
            refine G_ws (ws' := [(q923, .inr (5, [.ref q925, .ref q926, .ref q927, .ref q928, .ref q929, .ref q930, .ref q931, .ref q932, .ref q933, .int p934, .int p935, .int p936])), (q925, .inl (I .int, 40, .inl f938)), (q926, .inl (I .int, 40, .inl f939)), (q927, .inl (I .int, 40, .inl f940)), (q928, .inl (I .int, 200, .inl f941)), (q929, .inl (I .int, 200, .inl f2005)), (q930, .inl (I .int, 200, .inl f2014)), (q931, .inl (I .int, 200, .inl f944)), (q932, .inl (I .int, 200, .inl f1993)), (q933, .inl (I .int, 200, .inl f946)), (q924, .inl (I .int, 720, .inl f937))]) (cs' := 0) (sl' := 0) rfl rfl rfl ?_
            refine G_aload_n 1 d_cX0_rename_42 rfl ?_
            refine G_getf 0 7 d_cX0_rename_43 rfl (gk_X0 D I) (Nat.le_of_ble_eq_true rfl) w_1_178 rfl ?_
            refine G_iload_n 0 d_cX0_rename_46 rfl ?_
            refine G_aload_n 2 d_cX0_rename_47 rfl ?_
            refine G_aload_n 1 d_cX0_rename_48 rfl ?_
            refine G_getf 0 7 d_cX0_rename_49 rfl (gk_X0 D I) (Nat.le_of_ble_eq_true rfl) w_1_178 rfl ?_
            refine G_iload_n 0 d_cX0_rename_52 rfl ?_
            refine G_iald 8 0 d_cX0_rename_53 rfl rfl (gB_in bg1990' (by decide) (by decide)) (G_nam fun z2015 hz2015 => ?_)
            have bz2015 : gB z2015 (-2147483648) 2147483647 := by rw [hz2015]; exact bf1993 _
            refine G_callS (As := [.ref q924, .int z2015]) (wr := [(q923, .inr (5, [.ref q925, .ref q926, .ref q927, .ref q928, .ref q929, .ref q930, .ref q931, .ref q932, .ref q933, .int p934, .int p935, .int p936])), (q925, .inl (I .int, 40, .inl f938)), (q926, .inl (I .int, 40, .inl f939)), (q927, .inl (I .int, 40, .inl f940)), (q928, .inl (I .int, 200, .inl f941)), (q929, .inl (I .int, 200, .inl f2005)), (q930, .inl (I .int, 200, .inl f2014)), (q931, .inl (I .int, 200, .inl f944)), (q932, .inl (I .int, 200, .inl f1993)), (q933, .inl (I .int, 200, .inl f946))]) (gV_ok D I) (ct_955_Code_nameIn l hl0 D I q924 z2015 f937 ) d_cX0_rename_54 ⟨w_5_154, w_1_5, w_5_156, by decide, rfl, (Nat.le_of_ble_eq_true rfl), (Nat.le_of_ble_eq_true rfl)⟩ w_5_155 [10] [0, 1, 2, 3, 4, 5, 6, 7, 8, 9] rfl rfl rfl rfl (by decide) (Nat.le_of_ble_eq_true rfl) (Nat.le_of_ble_eq_true rfl) (Nat.le_of_ble_eq_true rfl) (fun r w hp => ?_) (fun _ _ _ z => z.elim)
            rcases hp with ⟨rfl, rfl, r2016⟩ | ⟨rfl, rfl, r2017, r2018⟩ | ⟨z2019, rfl, rfl, r2020, r2021, r2022⟩
            · have bz2015' : gB z2015 (-2147483648) (-1) := ⟨by omega, by omega⟩
              change G _ _ _ _ _ _ _ (.int z2015 :: _) _ _ _
              refine G_ws (ws' := [(q923, .inr (5, [.ref q925, .ref q926, .ref q927, .ref q928, .ref q929, .ref q930, .ref q931, .ref q932, .ref q933, .int p934, .int p935, .int p936])), (q925, .inl (I .int, 40, .inl f938)), (q926, .inl (I .int, 40, .inl f939)), (q927, .inl (I .int, 40, .inl f940)), (q928, .inl (I .int, 200, .inl f941)), (q929, .inl (I .int, 200, .inl f2005)), (q930, .inl (I .int, 200, .inl f2014)), (q931, .inl (I .int, 200, .inl f944)), (q932, .inl (I .int, 200, .inl f1993)), (q933, .inl (I .int, 200, .inl f946)), (q924, .inl (I .int, 720, .inl f937))]) (cs' := 0) (sl' := 0) rfl rfl rfl ?_
              refine G_iastN 8 0 d_cX0_rename_57 rfl rfl (gB_in bg1990' (by decide) (by decide)) (fun f2023 hf2023 => ?_)
              refine G_ws (ws' := [(q923, .inr (5, [.ref q925, .ref q926, .ref q927, .ref q928, .ref q929, .ref q930, .ref q931, .ref q932, .ref q933, .int p934, .int p935, .int p936])), (q925, .inl (I .int, 40, .inl f938)), (q926, .inl (I .int, 40, .inl f939)), (q927, .inl (I .int, 40, .inl f940)), (q928, .inl (I .int, 200, .inl f941)), (q929, .inl (I .int, 200, .inl f2005)), (q930, .inl (I .int, 200, .inl f2014)), (q931, .inl (I .int, 200, .inl f944)), (q932, .inl (I .int, 200, .inl f2023)), (q933, .inl (I .int, 200, .inl f946)), (q924, .inl (I .int, 720, .inl f937))]) (cs' := 0) (sl' := 0) rfl rfl rfl ?_
              obtain ⟨z2024, hz2024⟩ : ∃ z : Int32, z = g1990 + Int32.ofInt 1 := ⟨_, rfl⟩
              have ez2024 : z2024.toInt = g1990.toInt + 1 := gI_inc hz2024 (by decide) bg1990' (by decide) (by decide)
              have bz2024 : gB z2024 1 200 := ⟨by omega, by omega⟩
              refine G_iinc (L' := [(2, .int z2024), (0, .ref q923), (1, .ref q924)]) z2024 0 d_cX0_rename_58 rfl hz2024.symm (Nat.le_of_ble_eq_true rfl) rfl ?_
              refine G_goto 2 d_cX0_rename_61 (by decide +kernel) ?_
              refine G_sub (ws' := [(q923, .inr (5, [.ref q925, .ref q926, .ref q927, .ref q928, .ref q929, .ref q930, .ref q931, .ref q932, .ref q933, .int p934, .int p935, .int p936])), (q924, .inl (I .int, 720, .inl f937)), (q925, .inl (I .int, 40, .inl f938)), (q926, .inl (I .int, 40, .inl f939)), (q927, .inl (I .int, 40, .inl f940)), (q928, .inl (I .int, 200, .inl f941)), (q929, .inl (I .int, 200, .inl f2005)), (q930, .inl (I .int, 200, .inl f2014)), (q931, .inl (I .int, 200, .inl f944)), (q932, .inl (I .int, 200, .inl f2023)), (q933, .inl (I .int, 200, .inl f946))]) [0, 10, 1, 2, 3, 4, 5, 6, 7, 8, 9] rfl rfl ?_
              exact ih2_1993 z2024 f2005 f2014 f2023 (gB_w bz2024 (by decide) (by decide)) (gF_any f2005) (gF_any f2014) (gF_any f2023) (by omega)
            · have bz2015' : gB z2015 0 2147483647 := ⟨by omega, by omega⟩
              have bz2015'' : gB z2015 720 2147483647 := ⟨by omega, by omega⟩
              change G _ _ _ _ _ _ _ (.int z2015 :: _) _ _ _
              refine G_ws (ws' := [(q923, .inr (5, [.ref q925, .ref q926, .ref q927, .ref q928, .ref q929, .ref q930, .ref q931, .ref q932, .ref q933, .int p934, .int p935, .int p936])), (q925, .inl (I .int, 40, .inl f938)), (q926, .inl (I .int, 40, .inl f939)), (q927, .inl (I .int, 40, .inl f940)), (q928, .inl (I .int, 200, .inl f941)), (q929, .inl (I .int, 200, .inl f2005)), (q930, .inl (I .int, 200, .inl f2014)), (q931, .inl (I .int, 200, .inl f944)), (q932, .inl (I .int, 200, .inl f1993)), (q933, .inl (I .int, 200, .inl f946)), (q924, .inl (I .int, 720, .inl f937))]) (cs' := 0) (sl' := 0) rfl rfl rfl ?_
              refine G_iastN 8 0 d_cX0_rename_57 rfl rfl (gB_in bg1990' (by decide) (by decide)) (fun f2025 hf2025 => ?_)
              refine G_ws (ws' := [(q923, .inr (5, [.ref q925, .ref q926, .ref q927, .ref q928, .ref q929, .ref q930, .ref q931, .ref q932, .ref q933, .int p934, .int p935, .int p936])), (q925, .inl (I .int, 40, .inl f938)), (q926, .inl (I .int, 40, .inl f939)), (q927, .inl (I .int, 40, .inl f940)), (q928, .inl (I .int, 200, .inl f941)), (q929, .inl (I .int, 200, .inl f2005)), (q930, .inl (I .int, 200, .inl f2014)), (q931, .inl (I .int, 200, .inl f944)), (q932, .inl (I .int, 200, .inl f2025)), (q933, .inl (I .int, 200, .inl f946)), (q924, .inl (I .int, 720, .inl f937))]) (cs' := 0) (sl' := 0) rfl rfl rfl ?_
              obtain ⟨z2026, hz2026⟩ : ∃ z : Int32, z = g1990 + Int32.ofInt 1 := ⟨_, rfl⟩
              have ez2026 : z2026.toInt = g1990.toInt + 1 := gI_inc hz2026 (by decide) bg1990' (by decide) (by decide)
              have bz2026 : gB z2026 1 200 := ⟨by omega, by omega⟩
              refine G_iinc (L' := [(2, .int z2026), (0, .ref q923), (1, .ref q924)]) z2026 0 d_cX0_rename_58 rfl hz2026.symm (Nat.le_of_ble_eq_true rfl) rfl ?_
              refine G_goto 2 d_cX0_rename_61 (by decide +kernel) ?_
              refine G_sub (ws' := [(q923, .inr (5, [.ref q925, .ref q926, .ref q927, .ref q928, .ref q929, .ref q930, .ref q931, .ref q932, .ref q933, .int p934, .int p935, .int p936])), (q924, .inl (I .int, 720, .inl f937)), (q925, .inl (I .int, 40, .inl f938)), (q926, .inl (I .int, 40, .inl f939)), (q927, .inl (I .int, 40, .inl f940)), (q928, .inl (I .int, 200, .inl f941)), (q929, .inl (I .int, 200, .inl f2005)), (q930, .inl (I .int, 200, .inl f2014)), (q931, .inl (I .int, 200, .inl f944)), (q932, .inl (I .int, 200, .inl f2025)), (q933, .inl (I .int, 200, .inl f946))]) [0, 10, 1, 2, 3, 4, 5, 6, 7, 8, 9] rfl rfl ?_
              exact ih2_1993 z2026 f2005 f2014 f2025 (gB_w bz2026 (by decide) (by decide)) (gF_any f2005) (gF_any f2014) (gF_any f2025) (by omega)
            · have bz2015' : gB z2015 0 2147483647 := ⟨by omega, by omega⟩
              have bz2015'' : gB z2015 0 719 := ⟨by omega, by omega⟩
              change G _ _ _ _ _ _ _ (.int z2019 :: _) _ _ _
              refine G_ws (ws' := [(q923, .inr (5, [.ref q925, .ref q926, .ref q927, .ref q928, .ref q929, .ref q930, .ref q931, .ref q932, .ref q933, .int p934, .int p935, .int p936])), (q925, .inl (I .int, 40, .inl f938)), (q926, .inl (I .int, 40, .inl f939)), (q927, .inl (I .int, 40, .inl f940)), (q928, .inl (I .int, 200, .inl f941)), (q929, .inl (I .int, 200, .inl f2005)), (q930, .inl (I .int, 200, .inl f2014)), (q931, .inl (I .int, 200, .inl f944)), (q932, .inl (I .int, 200, .inl f1993)), (q933, .inl (I .int, 200, .inl f946)), (q924, .inl (I .int, 720, .inl f937))]) (cs' := 0) (sl' := 0) rfl rfl rfl ?_
              refine G_iastN 8 0 d_cX0_rename_57 rfl rfl (gB_in bg1990' (by decide) (by decide)) (fun f2027 hf2027 => ?_)
              refine G_ws (ws' := [(q923, .inr (5, [.ref q925, .ref q926, .ref q927, .ref q928, .ref q929, .ref q930, .ref q931, .ref q932, .ref q933, .int p934, .int p935, .int p936])), (q925, .inl (I .int, 40, .inl f938)), (q926, .inl (I .int, 40, .inl f939)), (q927, .inl (I .int, 40, .inl f940)), (q928, .inl (I .int, 200, .inl f941)), (q929, .inl (I .int, 200, .inl f2005)), (q930, .inl (I .int, 200, .inl f2014)), (q931, .inl (I .int, 200, .inl f944)), (q932, .inl (I .int, 200, .inl f2027)), (q933, .inl (I .int, 200, .inl f946)), (q924, .inl (I .int, 720, .inl f937))]) (cs' := 0) (sl' := 0) rfl rfl rfl ?_
              obtain ⟨z2028, hz2028⟩ : ∃ z : Int32, z = g1990 + Int32.ofInt 1 := ⟨_, rfl⟩
              have ez2028 : z2028.toInt = g1990.toInt + 1 := gI_inc hz2028 (by decide) bg1990' (by decide) (by decide)
              have bz2028 : gB z2028 1 200 := ⟨by omega, by omega⟩
              refine G_iinc (L' := [(2, .int z2028), (0, .ref q923), (1, .ref q924)]) z2028 0 d_cX0_rename_58 rfl hz2028.symm (Nat.le_of_ble_eq_true rfl) rfl ?_
              refine G_goto 2 d_cX0_rename_61 (by decide +kernel) ?_
              refine G_sub (ws' := [(q923, .inr (5, [.ref q925, .ref q926, .ref q927, .ref q928, .ref q929, .ref q930, .ref q931, .ref q932, .ref q933, .int p934, .int p935, .int p936])), (q924, .inl (I .int, 720, .inl f937)), (q925, .inl (I .int, 40, .inl f938)), (q926, .inl (I .int, 40, .inl f939)), (q927, .inl (I .int, 40, .inl f940)), (q928, .inl (I .int, 200, .inl f941)), (q929, .inl (I .int, 200, .inl f2005)), (q930, .inl (I .int, 200, .inl f2014)), (q931, .inl (I .int, 200, .inl f944)), (q932, .inl (I .int, 200, .inl f2027)), (q933, .inl (I .int, 200, .inl f946))]) [0, 10, 1, 2, 3, 4, 5, 6, 7, 8, 9] rfl rfl ?_
              exact ih2_1993 z2028 f2005 f2014 f2027 (gB_w bz2028 (by decide) (by decide)) (gF_any f2005) (gF_any f2014) (gF_any f2027) (by omega)
          · have bz2006' : gB z2006 0 2147483647 := ⟨by omega, by omega⟩
            have bz2006'' : gB z2006 720 2147483647 := ⟨by omega, by omega⟩
            change G _ _ _ _ _ _ _ (.int z2006 :: _) _ _ _
            refine G_ws (ws' := [(q923, .inr (5, [.ref q925, .ref q926, .ref q927, .ref q928, .ref q929, .ref q930, .ref q931, .ref q932, .ref q933, .int p934, .int p935, .int p936])), (q925, .inl (I .int, 40, .inl f938)), (q926, .inl (I .int, 40, .inl f939)), (q927, .inl (I .int, 40, .inl f940)), (q928, .inl (I .int, 200, .inl f941)), (q929, .inl (I .int, 200, .inl f2005)), (q930, .inl (I .int, 200, .inl f1992)), (q931, .inl (I .int, 200, .inl f944)), (q932, .inl (I .int, 200, .inl f1993)), (q933, .inl (I .int, 200, .inl f946)), (q924, .inl (I .int, 720, .inl f937))]) (cs' := 0) (sl' := 0) rfl rfl rfl ?_
            refine G_iastN 6 0 d_cX0_rename_41 rfl rfl (gB_in bg1990' (by decide) (by decide)) (fun f2029 hf2029 => ?_)
            refine G_ws (ws' := [(q923, .inr (5, [.ref q925, .ref q926, .ref q927, .ref q928, .ref q929, .ref q930, .ref q931, .ref q932, .ref q933, .int p934, .int p935, .int p936])), (q925, .inl (I .int, 40, .inl f938)), (q926, .inl (I .int, 40, .inl f939)), (q927, .inl (I .int, 40, .inl f940)), (q928, .inl (I .int, 200, .inl f941)), (q929, .inl (I .int, 200, .inl f2005)), (q930, .inl (I .int, 200, .inl f2029)), (q931, .inl (I .int, 200, .inl f944)), (q932, .inl (I .int, 200, .inl f1993)), (q933, .inl (I .int, 200, .inl f946)), (q924, .inl (I .int, 720, .inl f937))]) (cs' := 0) (sl' := 0) rfl rfl rfl ?_
            refine G_aload_n 1 d_cX0_rename_42 rfl ?_
            refine G_getf 0 7 d_cX0_rename_43 rfl (gk_X0 D I) (Nat.le_of_ble_eq_true rfl) w_1_178 rfl ?_
            refine G_iload_n 0 d_cX0_rename_46 rfl ?_
            refine G_aload_n 2 d_cX0_rename_47 rfl ?_
            refine G_aload_n 1 d_cX0_rename_48 rfl ?_
            refine G_getf 0 7 d_cX0_rename_49 rfl (gk_X0 D I) (Nat.le_of_ble_eq_true rfl) w_1_178 rfl ?_
            refine G_iload_n 0 d_cX0_rename_52 rfl ?_
            refine G_iald 8 0 d_cX0_rename_53 rfl rfl (gB_in bg1990' (by decide) (by decide)) (G_nam fun z2030 hz2030 => ?_)
            have bz2030 : gB z2030 (-2147483648) 2147483647 := by rw [hz2030]; exact bf1993 _
            refine G_callS (As := [.ref q924, .int z2030]) (wr := [(q923, .inr (5, [.ref q925, .ref q926, .ref q927, .ref q928, .ref q929, .ref q930, .ref q931, .ref q932, .ref q933, .int p934, .int p935, .int p936])), (q925, .inl (I .int, 40, .inl f938)), (q926, .inl (I .int, 40, .inl f939)), (q927, .inl (I .int, 40, .inl f940)), (q928, .inl (I .int, 200, .inl f941)), (q929, .inl (I .int, 200, .inl f2005)), (q930, .inl (I .int, 200, .inl f2029)), (q931, .inl (I .int, 200, .inl f944)), (q932, .inl (I .int, 200, .inl f1993)), (q933, .inl (I .int, 200, .inl f946))]) (gV_ok D I) (ct_955_Code_nameIn l hl0 D I q924 z2030 f937 ) d_cX0_rename_54 ⟨w_5_154, w_1_5, w_5_156, by decide, rfl, (Nat.le_of_ble_eq_true rfl), (Nat.le_of_ble_eq_true rfl)⟩ w_5_155 [10] [0, 1, 2, 3, 4, 5, 6, 7, 8, 9] rfl rfl rfl rfl (by decide) (Nat.le_of_ble_eq_true rfl) (Nat.le_of_ble_eq_true rfl) (Nat.le_of_ble_eq_true rfl) (fun r w hp => ?_) (fun _ _ _ z => z.elim)
            rcases hp with ⟨rfl, rfl, r2031⟩ | ⟨rfl, rfl, r2032, r2033⟩ | ⟨z2034, rfl, rfl, r2035, r2036, r2037⟩
            · have bz2030' : gB z2030 (-2147483648) (-1) := ⟨by omega, by omega⟩
              change G _ _ _ _ _ _ _ (.int z2030 :: _) _ _ _
              refine G_ws (ws' := [(q923, .inr (5, [.ref q925, .ref q926, .ref q927, .ref q928, .ref q929, .ref q930, .ref q931, .ref q932, .ref q933, .int p934, .int p935, .int p936])), (q925, .inl (I .int, 40, .inl f938)), (q926, .inl (I .int, 40, .inl f939)), (q927, .inl (I .int, 40, .inl f940)), (q928, .inl (I .int, 200, .inl f941)), (q929, .inl (I .int, 200, .inl f2005)), (q930, .inl (I .int, 200, .inl f2029)), (q931, .inl (I .int, 200, .inl f944)), (q932, .inl (I .int, 200, .inl f1993)), (q933, .inl (I .int, 200, .inl f946)), (q924, .inl (I .int, 720, .inl f937))]) (cs' := 0) (sl' := 0) rfl rfl rfl ?_
              refine G_iastN 8 0 d_cX0_rename_57 rfl rfl (gB_in bg1990' (by decide) (by decide)) (fun f2038 hf2038 => ?_)
              refine G_ws (ws' := [(q923, .inr (5, [.ref q925, .ref q926, .ref q927, .ref q928, .ref q929, .ref q930, .ref q931, .ref q932, .ref q933, .int p934, .int p935, .int p936])), (q925, .inl (I .int, 40, .inl f938)), (q926, .inl (I .int, 40, .inl f939)), (q927, .inl (I .int, 40, .inl f940)), (q928, .inl (I .int, 200, .inl f941)), (q929, .inl (I .int, 200, .inl f2005)), (q930, .inl (I .int, 200, .inl f2029)), (q931, .inl (I .int, 200, .inl f944)), (q932, .inl (I .int, 200, .inl f2038)), (q933, .inl (I .int, 200, .inl f946)), (q924, .inl (I .int, 720, .inl f937))]) (cs' := 0) (sl' := 0) rfl rfl rfl ?_
              obtain ⟨z2039, hz2039⟩ : ∃ z : Int32, z = g1990 + Int32.ofInt 1 := ⟨_, rfl⟩
              have ez2039 : z2039.toInt = g1990.toInt + 1 := gI_inc hz2039 (by decide) bg1990' (by decide) (by decide)
              have bz2039 : gB z2039 1 200 := ⟨by omega, by omega⟩
              refine G_iinc (L' := [(2, .int z2039), (0, .ref q923), (1, .ref q924)]) z2039 0 d_cX0_rename_58 rfl hz2039.symm (Nat.le_of_ble_eq_true rfl) rfl ?_
              refine G_goto 2 d_cX0_rename_61 (by decide +kernel) ?_
              refine G_sub (ws' := [(q923, .inr (5, [.ref q925, .ref q926, .ref q927, .ref q928, .ref q929, .ref q930, .ref q931, .ref q932, .ref q933, .int p934, .int p935, .int p936])), (q924, .inl (I .int, 720, .inl f937)), (q925, .inl (I .int, 40, .inl f938)), (q926, .inl (I .int, 40, .inl f939)), (q927, .inl (I .int, 40, .inl f940)), (q928, .inl (I .int, 200, .inl f941)), (q929, .inl (I .int, 200, .inl f2005)), (q930, .inl (I .int, 200, .inl f2029)), (q931, .inl (I .int, 200, .inl f944)), (q932, .inl (I .int, 200, .inl f2038)), (q933, .inl (I .int, 200, .inl f946))]) [0, 10, 1, 2, 3, 4, 5, 6, 7, 8, 9] rfl rfl ?_
              exact ih2_1993 z2039 f2005 f2029 f2038 (gB_w bz2039 (by decide) (by decide)) (gF_any f2005) (gF_any f2029) (gF_any f2038) (by omega)
            · have bz2030' : gB z2030 0 2147483647 := ⟨by omega, by omega⟩
              have bz2030'' : gB z2030 720 2147483647 := ⟨by omega, by omega⟩
              change G _ _ _ _ _ _ _ (.int z2030 :: _) _ _ _
              refine G_ws (ws' := [(q923, .inr (5, [.ref q925, .ref q926, .ref q927, .ref q928, .ref q929, .ref q930, .ref q931, .ref q932, .ref q933, .int p934, .int p935, .int p936])), (q925, .inl (I .int, 40, .inl f938)), (q926, .inl (I .int, 40, .inl f939)), (q927, .inl (I .int, 40, .inl f940)), (q928, .inl (I .int, 200, .inl f941)), (q929, .inl (I .int, 200, .inl f2005)), (q930, .inl (I .int, 200, .inl f2029)), (q931, .inl (I .int, 200, .inl f944)), (q932, .inl (I .int, 200, .inl f1993)), (q933, .inl (I .int, 200, .inl f946)), (q924, .inl (I .int, 720, .inl f937))]) (cs' := 0) (sl' := 0) rfl rfl rfl ?_
              refine G_iastN 8 0 d_cX0_rename_57 rfl rfl (gB_in bg1990' (by decide) (by decide)) (fun f2040 hf2040 => ?_)
              refine G_ws (ws' := [(q923, .inr (5, [.ref q925, .ref q926, .ref q927, .ref q928, .ref q929, .ref q930, .ref q931, .ref q932, .ref q933, .int p934, .int p935, .int p936])), (q925, .inl (I .int, 40, .inl f938)), (q926, .inl (I .int, 40, .inl f939)), (q927, .inl (I .int, 40, .inl f940)), (q928, .inl (I .int, 200, .inl f941)), (q929, .inl (I .int, 200, .inl f2005)), (q930, .inl (I .int, 200, .inl f2029)), (q931, .inl (I .int, 200, .inl f944)), (q932, .inl (I .int, 200, .inl f2040)), (q933, .inl (I .int, 200, .inl f946)), (q924, .inl (I .int, 720, .inl f937))]) (cs' := 0) (sl' := 0) rfl rfl rfl ?_
              obtain ⟨z2041, hz2041⟩ : ∃ z : Int32, z = g1990 + Int32.ofInt 1 := ⟨_, rfl⟩
              have ez2041 : z2041.toInt = g1990.toInt + 1 := gI_inc hz2041 (by decide) bg1990' (by decide) (by decide)
              have bz2041 : gB z2041 1 200 := ⟨by omega, by omega⟩
              refine G_iinc (L' := [(2, .int z2041), (0, .ref q923), (1, .ref q924)]) z2041 0 d_cX0_rename_58 rfl hz2041.symm (Nat.le_of_ble_eq_true rfl) rfl ?_
              refine G_goto 2 d_cX0_rename_61 (by decide +kernel) ?_
              refine G_sub (ws' := [(q923, .inr (5, [.ref q925, .ref q926, .ref q927, .ref q928, .ref q929, .ref q930, .ref q931, .ref q932, .ref q933, .int p934, .int p935, .int p936])), (q924, .inl (I .int, 720, .inl f937)), (q925, .inl (I .int, 40, .inl f938)), (q926, .inl (I .int, 40, .inl f939)), (q927, .inl (I .int, 40, .inl f940)), (q928, .inl (I .int, 200, .inl f941)), (q929, .inl (I .int, 200, .inl f2005)), (q930, .inl (I .int, 200, .inl f2029)), (q931, .inl (I .int, 200, .inl f944)), (q932, .inl (I .int, 200, .inl f2040)), (q933, .inl (I .int, 200, .inl f946))]) [0, 10, 1, 2, 3, 4, 5, 6, 7, 8, 9] rfl rfl ?_
              exact ih2_1993 z2041 f2005 f2029 f2040 (gB_w bz2041 (by decide) (by decide)) (gF_any f2005) (gF_any f2029) (gF_any f2040) (by omega)
            · have bz2030' : gB z2030 0 2147483647 := ⟨by omega, by omega⟩
              have bz2030'' : gB z2030 0 719 := ⟨by omega, by omega⟩
              change G _ _ _ _ _ _ _ (.int z2034 :: _) _ _ _
              refine G_ws (ws' := [(q923, .inr (5, [.ref q925, .ref q926, .ref q927, .ref q928, .ref q929, .ref q930, .ref q931, .ref q932, .ref q933, .int p934, .int p935, .int p936])), (q925, .inl (I .int, 40, .inl f938)), (q926, .inl (I .int, 40, .inl f939)), (q927, .inl (I .int, 40, .inl f940)), (q928, .inl (I .int, 200, .inl f941)), (q929, .inl (I .int, 200, .inl f2005)), (q930, .inl (I .int, 200, .inl f2029)), (q931, .inl (I .int, 200, .inl f944)), (q932, .inl (I .int, 200, .inl f1993)), (q933, .inl (I .int, 200, .inl f946)), (q924, .inl (I .int, 720, .inl f937))]) (cs' := 0) (sl' := 0) rfl rfl rfl ?_
              refine G_iastN 8 0 d_cX0_rename_57 rfl rfl (gB_in bg1990' (by decide) (by decide)) (fun f2042 hf2042 => ?_)
              refine G_ws (ws' := [(q923, .inr (5, [.ref q925, .ref q926, .ref q927, .ref q928, .ref q929, .ref q930, .ref q931, .ref q932, .ref q933, .int p934, .int p935, .int p936])), (q925, .inl (I .int, 40, .inl f938)), (q926, .inl (I .int, 40, .inl f939)), (q927, .inl (I .int, 40, .inl f940)), (q928, .inl (I .int, 200, .inl f941)), (q929, .inl (I .int, 200, .inl f2005)), (q930, .inl (I .int, 200, .inl f2029)), (q931, .inl (I .int, 200, .inl f944)), (q932, .inl (I .int, 200, .inl f2042)), (q933, .inl (I .int, 200, .inl f946)), (q924, .inl (I .int, 720, .inl f937))]) (cs' := 0) (sl' := 0) rfl rfl rfl ?_
              obtain ⟨z2043, hz2043⟩ : ∃ z : Int32, z = g1990 + Int32.ofInt 1 := ⟨_, rfl⟩
              have ez2043 : z2043.toInt = g1990.toInt + 1 := gI_inc hz2043 (by decide) bg1990' (by decide) (by decide)
              have bz2043 : gB z2043 1 200 := ⟨by omega, by omega⟩
              refine G_iinc (L' := [(2, .int z2043), (0, .ref q923), (1, .ref q924)]) z2043 0 d_cX0_rename_58 rfl hz2043.symm (Nat.le_of_ble_eq_true rfl) rfl ?_
              refine G_goto 2 d_cX0_rename_61 (by decide +kernel) ?_
              refine G_sub (ws' := [(q923, .inr (5, [.ref q925, .ref q926, .ref q927, .ref q928, .ref q929, .ref q930, .ref q931, .ref q932, .ref q933, .int p934, .int p935, .int p936])), (q924, .inl (I .int, 720, .inl f937)), (q925, .inl (I .int, 40, .inl f938)), (q926, .inl (I .int, 40, .inl f939)), (q927, .inl (I .int, 40, .inl f940)), (q928, .inl (I .int, 200, .inl f941)), (q929, .inl (I .int, 200, .inl f2005)), (q930, .inl (I .int, 200, .inl f2029)), (q931, .inl (I .int, 200, .inl f944)), (q932, .inl (I .int, 200, .inl f2042)), (q933, .inl (I .int, 200, .inl f946))]) [0, 10, 1, 2, 3, 4, 5, 6, 7, 8, 9] rfl rfl ?_
              exact ih2_1993 z2043 f2005 f2029 f2042 (gB_w bz2043 (by decide) (by decide)) (gF_any f2005) (gF_any f2029) (gF_any f2042) (by omega)
          · have bz2006' : gB z2006 0 2147483647 := ⟨by omega, by omega⟩
            have bz2006'' : gB z2006 0 719 := ⟨by omega, by omega⟩
            change G _ _ _ _ _ _ _ (.int z2010 :: _) _ _ _
            refine G_ws (ws' := [(q923, .inr (5, [.ref q925, .ref q926, .ref q927, .ref q928, .ref q929, .ref q930, .ref q931, .ref q932, .ref q933, .int p934, .int p935, .int p936])), (q925, .inl (I .int, 40, .inl f938)), (q926, .inl (I .int, 40, .inl f939)), (q927, .inl (I .int, 40, .inl f940)), (q928, .inl (I .int, 200, .inl f941)), (q929, .inl (I .int, 200, .inl f2005)), (q930, .inl (I .int, 200, .inl f1992)), (q931, .inl (I .int, 200, .inl f944)), (q932, .inl (I .int, 200, .inl f1993)), (q933, .inl (I .int, 200, .inl f946)), (q924, .inl (I .int, 720, .inl f937))]) (cs' := 0) (sl' := 0) rfl rfl rfl ?_
            refine G_iastN 6 0 d_cX0_rename_41 rfl rfl (gB_in bg1990' (by decide) (by decide)) (fun f2044 hf2044 => ?_)
            refine G_ws (ws' := [(q923, .inr (5, [.ref q925, .ref q926, .ref q927, .ref q928, .ref q929, .ref q930, .ref q931, .ref q932, .ref q933, .int p934, .int p935, .int p936])), (q925, .inl (I .int, 40, .inl f938)), (q926, .inl (I .int, 40, .inl f939)), (q927, .inl (I .int, 40, .inl f940)), (q928, .inl (I .int, 200, .inl f941)), (q929, .inl (I .int, 200, .inl f2005)), (q930, .inl (I .int, 200, .inl f2044)), (q931, .inl (I .int, 200, .inl f944)), (q932, .inl (I .int, 200, .inl f1993)), (q933, .inl (I .int, 200, .inl f946)), (q924, .inl (I .int, 720, .inl f937))]) (cs' := 0) (sl' := 0) rfl rfl rfl ?_
            refine G_aload_n 1 d_cX0_rename_42 rfl ?_
            refine G_getf 0 7 d_cX0_rename_43 rfl (gk_X0 D I) (Nat.le_of_ble_eq_true rfl) w_1_178 rfl ?_
            refine G_iload_n 0 d_cX0_rename_46 rfl ?_
            refine G_aload_n 2 d_cX0_rename_47 rfl ?_
            refine G_aload_n 1 d_cX0_rename_48 rfl ?_
            refine G_getf 0 7 d_cX0_rename_49 rfl (gk_X0 D I) (Nat.le_of_ble_eq_true rfl) w_1_178 rfl ?_
            refine G_iload_n 0 d_cX0_rename_52 rfl ?_
            refine G_iald 8 0 d_cX0_rename_53 rfl rfl (gB_in bg1990' (by decide) (by decide)) (G_nam fun z2045 hz2045 => ?_)
            have bz2045 : gB z2045 (-2147483648) 2147483647 := by rw [hz2045]; exact bf1993 _
            refine G_callS (As := [.ref q924, .int z2045]) (wr := [(q923, .inr (5, [.ref q925, .ref q926, .ref q927, .ref q928, .ref q929, .ref q930, .ref q931, .ref q932, .ref q933, .int p934, .int p935, .int p936])), (q925, .inl (I .int, 40, .inl f938)), (q926, .inl (I .int, 40, .inl f939)), (q927, .inl (I .int, 40, .inl f940)), (q928, .inl (I .int, 200, .inl f941)), (q929, .inl (I .int, 200, .inl f2005)), (q930, .inl (I .int, 200, .inl f2044)), (q931, .inl (I .int, 200, .inl f944)), (q932, .inl (I .int, 200, .inl f1993)), (q933, .inl (I .int, 200, .inl f946))]) (gV_ok D I) (ct_955_Code_nameIn l hl0 D I q924 z2045 f937 ) d_cX0_rename_54 ⟨w_5_154, w_1_5, w_5_156, by decide, rfl, (Nat.le_of_ble_eq_true rfl), (Nat.le_of_ble_eq_true rfl)⟩ w_5_155 [10] [0, 1, 2, 3, 4, 5, 6, 7, 8, 9] rfl rfl rfl rfl (by decide) (Nat.le_of_ble_eq_true rfl) (Nat.le_of_ble_eq_true rfl) (Nat.le_of_ble_eq_true rfl) (fun r w hp => ?_) (fun _ _ _ z => z.elim)
            rcases hp with ⟨rfl, rfl, r2046⟩ | ⟨rfl, rfl, r2047, r2048⟩ | ⟨z2049, rfl, rfl, r2050, r2051, r2052⟩
            · have bz2045' : gB z2045 (-2147483648) (-1) := ⟨by omega, by omega⟩
              change G _ _ _ _ _ _ _ (.int z2045 :: _) _ _ _
              refine G_ws (ws' := [(q923, .inr (5, [.ref q925, .ref q926, .ref q927, .ref q928, .ref q929, .ref q930, .ref q931, .ref q932, .ref q933, .int p934, .int p935, .int p936])), (q925, .inl (I .int, 40, .inl f938)), (q926, .inl (I .int, 40, .inl f939)), (q927, .inl (I .int, 40, .inl f940)), (q928, .inl (I .int, 200, .inl f941)), (q929, .inl (I .int, 200, .inl f2005)), (q930, .inl (I .int, 200, .inl f2044)), (q931, .inl (I .int, 200, .inl f944)), (q932, .inl (I .int, 200, .inl f1993)), (q933, .inl (I .int, 200, .inl f946)), (q924, .inl (I .int, 720, .inl f937))]) (cs' := 0) (sl' := 0) rfl rfl rfl ?_
              refine G_iastN 8 0 d_cX0_rename_57 rfl rfl (gB_in bg1990' (by decide) (by decide)) (fun f2053 hf2053 => ?_)
              refine G_ws (ws' := [(q923, .inr (5, [.ref q925, .ref q926, .ref q927, .ref q928, .ref q929, .ref q930, .ref q931, .ref q932, .ref q933, .int p934, .int p935, .int p936])), (q925, .inl (I .int, 40, .inl f938)), (q926, .inl (I .int, 40, .inl f939)), (q927, .inl (I .int, 40, .inl f940)), (q928, .inl (I .int, 200, .inl f941)), (q929, .inl (I .int, 200, .inl f2005)), (q930, .inl (I .int, 200, .inl f2044)), (q931, .inl (I .int, 200, .inl f944)), (q932, .inl (I .int, 200, .inl f2053)), (q933, .inl (I .int, 200, .inl f946)), (q924, .inl (I .int, 720, .inl f937))]) (cs' := 0) (sl' := 0) rfl rfl rfl ?_
              obtain ⟨z2054, hz2054⟩ : ∃ z : Int32, z = g1990 + Int32.ofInt 1 := ⟨_, rfl⟩
              have ez2054 : z2054.toInt = g1990.toInt + 1 := gI_inc hz2054 (by decide) bg1990' (by decide) (by decide)
              have bz2054 : gB z2054 1 200 := ⟨by omega, by omega⟩
              refine G_iinc (L' := [(2, .int z2054), (0, .ref q923), (1, .ref q924)]) z2054 0 d_cX0_rename_58 rfl hz2054.symm (Nat.le_of_ble_eq_true rfl) rfl ?_
              refine G_goto 2 d_cX0_rename_61 (by decide +kernel) ?_
              refine G_sub (ws' := [(q923, .inr (5, [.ref q925, .ref q926, .ref q927, .ref q928, .ref q929, .ref q930, .ref q931, .ref q932, .ref q933, .int p934, .int p935, .int p936])), (q924, .inl (I .int, 720, .inl f937)), (q925, .inl (I .int, 40, .inl f938)), (q926, .inl (I .int, 40, .inl f939)), (q927, .inl (I .int, 40, .inl f940)), (q928, .inl (I .int, 200, .inl f941)), (q929, .inl (I .int, 200, .inl f2005)), (q930, .inl (I .int, 200, .inl f2044)), (q931, .inl (I .int, 200, .inl f944)), (q932, .inl (I .int, 200, .inl f2053)), (q933, .inl (I .int, 200, .inl f946))]) [0, 10, 1, 2, 3, 4, 5, 6, 7, 8, 9] rfl rfl ?_
              exact ih2_1993 z2054 f2005 f2044 f2053 (gB_w bz2054 (by decide) (by decide)) (gF_any f2005) (gF_any f2044) (gF_any f2053) (by omega)
            · have bz2045' : gB z2045 0 2147483647 := ⟨by omega, by omega⟩
              have bz2045'' : gB z2045 720 2147483647 := ⟨by omega, by omega⟩
              change G _ _ _ _ _ _ _ (.int z2045 :: _) _ _ _
              refine G_ws (ws' := [(q923, .inr (5, [.ref q925, .ref q926, .ref q927, .ref q928, .ref q929, .ref q930, .ref q931, .ref q932, .ref q933, .int p934, .int p935, .int p936])), (q925, .inl (I .int, 40, .inl f938)), (q926, .inl (I .int, 40, .inl f939)), (q927, .inl (I .int, 40, .inl f940)), (q928, .inl (I .int, 200, .inl f941)), (q929, .inl (I .int, 200, .inl f2005)), (q930, .inl (I .int, 200, .inl f2044)), (q931, .inl (I .int, 200, .inl f944)), (q932, .inl (I .int, 200, .inl f1993)), (q933, .inl (I .int, 200, .inl f946)), (q924, .inl (I .int, 720, .inl f937))]) (cs' := 0) (sl' := 0) rfl rfl rfl ?_
              refine G_iastN 8 0 d_cX0_rename_57 rfl rfl (gB_in bg1990' (by decide) (by decide)) (fun f2055 hf2055 => ?_)
              refine G_ws (ws' := [(q923, .inr (5, [.ref q925, .ref q926, .ref q927, .ref q928, .ref q929, .ref q930, .ref q931, .ref q932, .ref q933, .int p934, .int p935, .int p936])), (q925, .inl (I .int, 40, .inl f938)), (q926, .inl (I .int, 40, .inl f939)), (q927, .inl (I .int, 40, .inl f940)), (q928, .inl (I .int, 200, .inl f941)), (q929, .inl (I .int, 200, .inl f2005)), (q930, .inl (I .int, 200, .inl f2044)), (q931, .inl (I .int, 200, .inl f944)), (q932, .inl (I .int, 200, .inl f2055)), (q933, .inl (I .int, 200, .inl f946)), (q924, .inl (I .int, 720, .inl f937))]) (cs' := 0) (sl' := 0) rfl rfl rfl ?_
              obtain ⟨z2056, hz2056⟩ : ∃ z : Int32, z = g1990 + Int32.ofInt 1 := ⟨_, rfl⟩
              have ez2056 : z2056.toInt = g1990.toInt + 1 := gI_inc hz2056 (by decide) bg1990' (by decide) (by decide)
              have bz2056 : gB z2056 1 200 := ⟨by omega, by omega⟩
              refine G_iinc (L' := [(2, .int z2056), (0, .ref q923), (1, .ref q924)]) z2056 0 d_cX0_rename_58 rfl hz2056.symm (Nat.le_of_ble_eq_true rfl) rfl ?_
              refine G_goto 2 d_cX0_rename_61 (by decide +kernel) ?_
              refine G_sub (ws' := [(q923, .inr (5, [.ref q925, .ref q926, .ref q927, .ref q928, .ref q929, .ref q930, .ref q931, .ref q932, .ref q933, .int p934, .int p935, .int p936])), (q924, .inl (I .int, 720, .inl f937)), (q925, .inl (I .int, 40, .inl f938)), (q926, .inl (I .int, 40, .inl f939)), (q927, .inl (I .int, 40, .inl f940)), (q928, .inl (I .int, 200, .inl f941)), (q929, .inl (I .int, 200, .inl f2005)), (q930, .inl (I .int, 200, .inl f2044)), (q931, .inl (I .int, 200, .inl f944)), (q932, .inl (I .int, 200, .inl f2055)), (q933, .inl (I .int, 200, .inl f946))]) [0, 10, 1, 2, 3, 4, 5, 6, 7, 8, 9] rfl rfl ?_
              exact ih2_1993 z2056 f2005 f2044 f2055 (gB_w bz2056 (by decide) (by decide)) (gF_any f2005) (gF_any f2044) (gF_any f2055) (by omega)
            · have bz2045' : gB z2045 0 2147483647 := ⟨by omega, by omega⟩
              have bz2045'' : gB z2045 0 719 := ⟨by omega, by omega⟩
              change G _ _ _ _ _ _ _ (.int z2049 :: _) _ _ _
              refine G_ws (ws' := [(q923, .inr (5, [.ref q925, .ref q926, .ref q927, .ref q928, .ref q929, .ref q930, .ref q931, .ref q932, .ref q933, .int p934, .int p935, .int p936])), (q925, .inl (I .int, 40, .inl f938)), (q926, .inl (I .int, 40, .inl f939)), (q927, .inl (I .int, 40, .inl f940)), (q928, .inl (I .int, 200, .inl f941)), (q929, .inl (I .int, 200, .inl f2005)), (q930, .inl (I .int, 200, .inl f2044)), (q931, .inl (I .int, 200, .inl f944)), (q932, .inl (I .int, 200, .inl f1993)), (q933, .inl (I .int, 200, .inl f946)), (q924, .inl (I .int, 720, .inl f937))]) (cs' := 0) (sl' := 0) rfl rfl rfl ?_
              refine G_iastN 8 0 d_cX0_rename_57 rfl rfl (gB_in bg1990' (by decide) (by decide)) (fun f2057 hf2057 => ?_)
              refine G_ws (ws' := [(q923, .inr (5, [.ref q925, .ref q926, .ref q927, .ref q928, .ref q929, .ref q930, .ref q931, .ref q932, .ref q933, .int p934, .int p935, .int p936])), (q925, .inl (I .int, 40, .inl f938)), (q926, .inl (I .int, 40, .inl f939)), (q927, .inl (I .int, 40, .inl f940)), (q928, .inl (I .int, 200, .inl f941)), (q929, .inl (I .int, 200, .inl f2005)), (q930, .inl (I .int, 200, .inl f2044)), (q931, .inl (I .int, 200, .inl f944)), (q932, .inl (I .int, 200, .inl f2057)), (q933, .inl (I .int, 200, .inl f946)), (q924, .inl (I .int, 720, .inl f937))]) (cs' := 0) (sl' := 0) rfl rfl rfl ?_
              obtain ⟨z2058, hz2058⟩ : ∃ z : Int32, z = g1990 + Int32.ofInt 1 := ⟨_, rfl⟩
              have ez2058 : z2058.toInt = g1990.toInt + 1 := gI_inc hz2058 (by decide) bg1990' (by decide) (by decide)
              have bz2058 : gB z2058 1 200 := ⟨by omega, by omega⟩
              refine G_iinc (L' := [(2, .int z2058), (0, .ref q923), (1, .ref q924)]) z2058 0 d_cX0_rename_58 rfl hz2058.symm (Nat.le_of_ble_eq_true rfl) rfl ?_
              refine G_goto 2 d_cX0_rename_61 (by decide +kernel) ?_
              refine G_sub (ws' := [(q923, .inr (5, [.ref q925, .ref q926, .ref q927, .ref q928, .ref q929, .ref q930, .ref q931, .ref q932, .ref q933, .int p934, .int p935, .int p936])), (q924, .inl (I .int, 720, .inl f937)), (q925, .inl (I .int, 40, .inl f938)), (q926, .inl (I .int, 40, .inl f939)), (q927, .inl (I .int, 40, .inl f940)), (q928, .inl (I .int, 200, .inl f941)), (q929, .inl (I .int, 200, .inl f2005)), (q930, .inl (I .int, 200, .inl f2044)), (q931, .inl (I .int, 200, .inl f944)), (q932, .inl (I .int, 200, .inl f2057)), (q933, .inl (I .int, 200, .inl f946))]) [0, 10, 1, 2, 3, 4, 5, 6, 7, 8, 9] rfl rfl ?_
              exact ih2_1993 z2058 f2005 f2044 f2057 (gB_w bz2058 (by decide) (by decide)) (gF_any f2005) (gF_any f2044) (gF_any f2057) (by omega)
        · have bz1997' : gB z1997 0 2147483647 := ⟨by omega, by omega⟩
          have bz1997'' : gB z1997 720 2147483647 := ⟨by omega, by omega⟩
          change G _ _ _ _ _ _ _ (.int z1997 :: _) _ _ _
          refine G_ws (ws' := [(q923, .inr (5, [.ref q925, .ref q926, .ref q927, .ref q928, .ref q929, .ref q930, .ref q931, .ref q932, .ref q933, .int p934, .int p935, .int p936])), (q925, .inl (I .int, 40, .inl f938)), (q926, .inl (I .int, 40, .inl f939)), (q927, .inl (I .int, 40, .inl f940)), (q928, .inl (I .int, 200, .inl f941)), (q929, .inl (I .int, 200, .inl f1991)), (q930, .inl (I .int, 200, .inl f1992)), (q931, .inl (I .int, 200, .inl f944)), (q932, .inl (I .int, 200, .inl f1993)), (q933, .inl (I .int, 200, .inl f946)), (q924, .inl (I .int, 720, .inl f937))]) (cs' := 0) (sl' := 0) rfl rfl rfl ?_
          refine G_iastN 5 0 d_cX0_rename_25 rfl rfl (gB_in bg1990' (by decide) (by decide)) (fun f2059 hf2059 => ?_)
          refine G_ws (ws' := [(q923, .inr (5, [.ref q925, .ref q926, .ref q927, .ref q928, .ref q929, .ref q930, .ref q931, .ref q932, .ref q933, .int p934, .int p935, .int p936])), (q925, .inl (I .int, 40, .inl f938)), (q926, .inl (I .int, 40, .inl f939)), (q927, .inl (I .int, 40, .inl f940)), (q928, .inl (I .int, 200, .inl f941)), (q929, .inl (I .int, 200, .inl f2059)), (q930, .inl (I .int, 200, .inl f1992)), (q931, .inl (I .int, 200, .inl f944)), (q932, .inl (I .int, 200, .inl f1993)), (q933, .inl (I .int, 200, .inl f946)), (q924, .inl (I .int, 720, .inl f937))]) (cs' := 0) (sl' := 0) rfl rfl rfl ?_
          refine G_aload_n 1 d_cX0_rename_26 rfl ?_
          refine G_getf 0 5 d_cX0_rename_27 rfl (gk_X0 D I) (Nat.le_of_ble_eq_true rfl) w_1_168 rfl ?_
          refine G_iload_n 0 d_cX0_rename_30 rfl ?_
          refine G_aload_n 2 d_cX0_rename_31 rfl ?_
          refine G_aload_n 1 d_cX0_rename_32 rfl ?_
          refine G_getf 0 5 d_cX0_rename_33 rfl (gk_X0 D I) (Nat.le_of_ble_eq_true rfl) w_1_168 rfl ?_
          refine G_iload_n 0 d_cX0_rename_36 rfl ?_
          refine G_iald 6 0 d_cX0_rename_37 rfl rfl (gB_in bg1990' (by decide) (by decide)) (G_nam fun z2060 hz2060 => ?_)
          have bz2060 : gB z2060 (-2147483648) 2147483647 := by rw [hz2060]; exact bf1992 _
          refine G_callS (As := [.ref q924, .int z2060]) (wr := [(q923, .inr (5, [.ref q925, .ref q926, .ref q927, .ref q928, .ref q929, .ref q930, .ref q931, .ref q932, .ref q933, .int p934, .int p935, .int p936])), (q925, .inl (I .int, 40, .inl f938)), (q926, .inl (I .int, 40, .inl f939)), (q927, .inl (I .int, 40, .inl f940)), (q928, .inl (I .int, 200, .inl f941)), (q929, .inl (I .int, 200, .inl f2059)), (q930, .inl (I .int, 200, .inl f1992)), (q931, .inl (I .int, 200, .inl f944)), (q932, .inl (I .int, 200, .inl f1993)), (q933, .inl (I .int, 200, .inl f946))]) (gV_ok D I) (ct_955_Code_nameIn l hl0 D I q924 z2060 f937 ) d_cX0_rename_38 ⟨w_5_154, w_1_5, w_5_156, by decide, rfl, (Nat.le_of_ble_eq_true rfl), (Nat.le_of_ble_eq_true rfl)⟩ w_5_155 [10] [0, 1, 2, 3, 4, 5, 6, 7, 8, 9] rfl rfl rfl rfl (by decide) (Nat.le_of_ble_eq_true rfl) (Nat.le_of_ble_eq_true rfl) (Nat.le_of_ble_eq_true rfl) (fun r w hp => ?_) (fun _ _ _ z => z.elim)
          rcases hp with ⟨rfl, rfl, r2061⟩ | ⟨rfl, rfl, r2062, r2063⟩ | ⟨z2064, rfl, rfl, r2065, r2066, r2067⟩
          · have bz2060' : gB z2060 (-2147483648) (-1) := ⟨by omega, by omega⟩
            change G _ _ _ _ _ _ _ (.int z2060 :: _) _ _ _
            refine G_ws (ws' := [(q923, .inr (5, [.ref q925, .ref q926, .ref q927, .ref q928, .ref q929, .ref q930, .ref q931, .ref q932, .ref q933, .int p934, .int p935, .int p936])), (q925, .inl (I .int, 40, .inl f938)), (q926, .inl (I .int, 40, .inl f939)), (q927, .inl (I .int, 40, .inl f940)), (q928, .inl (I .int, 200, .inl f941)), (q929, .inl (I .int, 200, .inl f2059)), (q930, .inl (I .int, 200, .inl f1992)), (q931, .inl (I .int, 200, .inl f944)), (q932, .inl (I .int, 200, .inl f1993)), (q933, .inl (I .int, 200, .inl f946)), (q924, .inl (I .int, 720, .inl f937))]) (cs' := 0) (sl' := 0) rfl rfl rfl ?_
            refine G_iastN 6 0 d_cX0_rename_41 rfl rfl (gB_in bg1990' (by decide) (by decide)) (fun f2068 hf2068 => ?_)
            refine G_ws (ws' := [(q923, .inr (5, [.ref q925, .ref q926, .ref q927, .ref q928, .ref q929, .ref q930, .ref q931, .ref q932, .ref q933, .int p934, .int p935, .int p936])), (q925, .inl (I .int, 40, .inl f938)), (q926, .inl (I .int, 40, .inl f939)), (q927, .inl (I .int, 40, .inl f940)), (q928, .inl (I .int, 200, .inl f941)), (q929, .inl (I .int, 200, .inl f2059)), (q930, .inl (I .int, 200, .inl f2068)), (q931, .inl (I .int, 200, .inl f944)), (q932, .inl (I .int, 200, .inl f1993)), (q933, .inl (I .int, 200, .inl f946)), (q924, .inl (I .int, 720, .inl f937))]) (cs' := 0) (sl' := 0) rfl rfl rfl ?_
            refine G_aload_n 1 d_cX0_rename_42 rfl ?_
            refine G_getf 0 7 d_cX0_rename_43 rfl (gk_X0 D I) (Nat.le_of_ble_eq_true rfl) w_1_178 rfl ?_
            refine G_iload_n 0 d_cX0_rename_46 rfl ?_
            refine G_aload_n 2 d_cX0_rename_47 rfl ?_
            refine G_aload_n 1 d_cX0_rename_48 rfl ?_
            refine G_getf 0 7 d_cX0_rename_49 rfl (gk_X0 D I) (Nat.le_of_ble_eq_true rfl) w_1_178 rfl ?_
            refine G_iload_n 0 d_cX0_rename_52 rfl ?_
            refine G_iald 8 0 d_cX0_rename_53 rfl rfl (gB_in bg1990' (by decide) (by decide)) (G_nam fun z2069 hz2069 => ?_)
            have bz2069 : gB z2069 (-2147483648) 2147483647 := by rw [hz2069]; exact bf1993 _
            refine G_callS (As := [.ref q924, .int z2069]) (wr := [(q923, .inr (5, [.ref q925, .ref q926, .ref q927, .ref q928, .ref q929, .ref q930, .ref q931, .ref q932, .ref q933, .int p934, .int p935, .int p936])), (q925, .inl (I .int, 40, .inl f938)), (q926, .inl (I .int, 40, .inl f939)), (q927, .inl (I .int, 40, .inl f940)), (q928, .inl (I .int, 200, .inl f941)), (q929, .inl (I .int, 200, .inl f2059)), (q930, .inl (I .int, 200, .inl f2068)), (q931, .inl (I .int, 200, .inl f944)), (q932, .inl (I .int, 200, .inl f1993)), (q933, .inl (I .int, 200, .inl f946))]) (gV_ok D I) (ct_955_Code_nameIn l hl0 D I q924 z2069 f937 ) d_cX0_rename_54 ⟨w_5_154, w_1_5, w_5_156, by decide, rfl, (Nat.le_of_ble_eq_true rfl), (Nat.le_of_ble_eq_true rfl)⟩ w_5_155 [10] [0, 1, 2, 3, 4, 5, 6, 7, 8, 9] rfl rfl rfl rfl (by decide) (Nat.le_of_ble_eq_true rfl) (Nat.le_of_ble_eq_true rfl) (Nat.le_of_ble_eq_true rfl) (fun r w hp => ?_) (fun _ _ _ z => z.elim)
            rcases hp with ⟨rfl, rfl, r2070⟩ | ⟨rfl, rfl, r2071, r2072⟩ | ⟨z2073, rfl, rfl, r2074, r2075, r2076⟩
            · have bz2069' : gB z2069 (-2147483648) (-1) := ⟨by omega, by omega⟩
              change G _ _ _ _ _ _ _ (.int z2069 :: _) _ _ _
              refine G_ws (ws' := [(q923, .inr (5, [.ref q925, .ref q926, .ref q927, .ref q928, .ref q929, .ref q930, .ref q931, .ref q932, .ref q933, .int p934, .int p935, .int p936])), (q925, .inl (I .int, 40, .inl f938)), (q926, .inl (I .int, 40, .inl f939)), (q927, .inl (I .int, 40, .inl f940)), (q928, .inl (I .int, 200, .inl f941)), (q929, .inl (I .int, 200, .inl f2059)), (q930, .inl (I .int, 200, .inl f2068)), (q931, .inl (I .int, 200, .inl f944)), (q932, .inl (I .int, 200, .inl f1993)), (q933, .inl (I .int, 200, .inl f946)), (q924, .inl (I .int, 720, .inl f937))]) (cs' := 0) (sl' := 0) rfl rfl rfl ?_
              refine G_iastN 8 0 d_cX0_rename_57 rfl rfl (gB_in bg1990' (by decide) (by decide)) (fun f2077 hf2077 => ?_)
              refine G_ws (ws' := [(q923, .inr (5, [.ref q925, .ref q926, .ref q927, .ref q928, .ref q929, .ref q930, .ref q931, .ref q932, .ref q933, .int p934, .int p935, .int p936])), (q925, .inl (I .int, 40, .inl f938)), (q926, .inl (I .int, 40, .inl f939)), (q927, .inl (I .int, 40, .inl f940)), (q928, .inl (I .int, 200, .inl f941)), (q929, .inl (I .int, 200, .inl f2059)), (q930, .inl (I .int, 200, .inl f2068)), (q931, .inl (I .int, 200, .inl f944)), (q932, .inl (I .int, 200, .inl f2077)), (q933, .inl (I .int, 200, .inl f946)), (q924, .inl (I .int, 720, .inl f937))]) (cs' := 0) (sl' := 0) rfl rfl rfl ?_
              obtain ⟨z2078, hz2078⟩ : ∃ z : Int32, z = g1990 + Int32.ofInt 1 := ⟨_, rfl⟩
              have ez2078 : z2078.toInt = g1990.toInt + 1 := gI_inc hz2078 (by decide) bg1990' (by decide) (by decide)
              have bz2078 : gB z2078 1 200 := ⟨by omega, by omega⟩
              refine G_iinc (L' := [(2, .int z2078), (0, .ref q923), (1, .ref q924)]) z2078 0 d_cX0_rename_58 rfl hz2078.symm (Nat.le_of_ble_eq_true rfl) rfl ?_
              refine G_goto 2 d_cX0_rename_61 (by decide +kernel) ?_
              refine G_sub (ws' := [(q923, .inr (5, [.ref q925, .ref q926, .ref q927, .ref q928, .ref q929, .ref q930, .ref q931, .ref q932, .ref q933, .int p934, .int p935, .int p936])), (q924, .inl (I .int, 720, .inl f937)), (q925, .inl (I .int, 40, .inl f938)), (q926, .inl (I .int, 40, .inl f939)), (q927, .inl (I .int, 40, .inl f940)), (q928, .inl (I .int, 200, .inl f941)), (q929, .inl (I .int, 200, .inl f2059)), (q930, .inl (I .int, 200, .inl f2068)), (q931, .inl (I .int, 200, .inl f944)), (q932, .inl (I .int, 200, .inl f2077)), (q933, .inl (I .int, 200, .inl f946))]) [0, 10, 1, 2, 3, 4, 5, 6, 7, 8, 9] rfl rfl ?_
              exact ih2_1993 z2078 f2059 f2068 f2077 (gB_w bz2078 (by decide) (by decide)) (gF_any f2059) (gF_any f2068) (gF_any f2077) (by omega)
            · have bz2069' : gB z2069 0 2147483647 := ⟨by omega, by omega⟩
              have bz2069'' : gB z2069 720 2147483647 := ⟨by omega, by omega⟩
              change G _ _ _ _ _ _ _ (.int z2069 :: _) _ _ _
              refine G_ws (ws' := [(q923, .inr (5, [.ref q925, .ref q926, .ref q927, .ref q928, .ref q929, .ref q930, .ref q931, .ref q932, .ref q933, .int p934, .int p935, .int p936])), (q925, .inl (I .int, 40, .inl f938)), (q926, .inl (I .int, 40, .inl f939)), (q927, .inl (I .int, 40, .inl f940)), (q928, .inl (I .int, 200, .inl f941)), (q929, .inl (I .int, 200, .inl f2059)), (q930, .inl (I .int, 200, .inl f2068)), (q931, .inl (I .int, 200, .inl f944)), (q932, .inl (I .int, 200, .inl f1993)), (q933, .inl (I .int, 200, .inl f946)), (q924, .inl (I .int, 720, .inl f937))]) (cs' := 0) (sl' := 0) rfl rfl rfl ?_
              refine G_iastN 8 0 d_cX0_rename_57 rfl rfl (gB_in bg1990' (by decide) (by decide)) (fun f2079 hf2079 => ?_)
              refine G_ws (ws' := [(q923, .inr (5, [.ref q925, .ref q926, .ref q927, .ref q928, .ref q929, .ref q930, .ref q931, .ref q932, .ref q933, .int p934, .int p935, .int p936])), (q925, .inl (I .int, 40, .inl f938)), (q926, .inl (I .int, 40, .inl f939)), (q927, .inl (I .int, 40, .inl f940)), (q928, .inl (I .int, 200, .inl f941)), (q929, .inl (I .int, 200, .inl f2059)), (q930, .inl (I .int, 200, .inl f2068)), (q931, .inl (I .int, 200, .inl f944)), (q932, .inl (I .int, 200, .inl f2079)), (q933, .inl (I .int, 200, .inl f946)), (q924, .inl (I .int, 720, .inl f937))]) (cs' := 0) (sl' := 0) rfl rfl rfl ?_
              obtain ⟨z2080, hz2080⟩ : ∃ z : Int32, z = g1990 + Int32.ofInt 1 := ⟨_, rfl⟩
              have ez2080 : z2080.toInt = g1990.toInt + 1 := gI_inc hz2080 (by decide) bg1990' (by decide) (by decide)
              have bz2080 : gB z2080 1 200 := ⟨by omega, by omega⟩
              refine G_iinc (L' := [(2, .int z2080), (0, .ref q923), (1, .ref q924)]) z2080 0 d_cX0_rename_58 rfl hz2080.symm (Nat.le_of_ble_eq_true rfl) rfl ?_
              refine G_goto 2 d_cX0_rename_61 (by decide +kernel) ?_
              refine G_sub (ws' := [(q923, .inr (5, [.ref q925, .ref q926, .ref q927, .ref q928, .ref q929, .ref q930, .ref q931, .ref q932, .ref q933, .int p934, .int p935, .int p936])), (q924, .inl (I .int, 720, .inl f937)), (q925, .inl (I .int, 40, .inl f938)), (q926, .inl (I .int, 40, .inl f939)), (q927, .inl (I .int, 40, .inl f940)), (q928, .inl (I .int, 200, .inl f941)), (q929, .inl (I .int, 200, .inl f2059)), (q930, .inl (I .int, 200, .inl f2068)), (q931, .inl (I .int, 200, .inl f944)), (q932, .inl (I .int, 200, .inl f2079)), (q933, .inl (I .int, 200, .inl f946))]) [0, 10, 1, 2, 3, 4, 5, 6, 7, 8, 9] rfl rfl ?_
              exact ih2_1993 z2080 f2059 f2068 f2079 (gB_w bz2080 (by decide) (by decide)) (gF_any f2059) (gF_any f2068) (gF_any f2079) (by omega)
            · have bz2069' : gB z2069 0 2147483647 := ⟨by omega, by omega⟩
              have bz2069'' : gB z2069 0 719 := ⟨by omega, by omega⟩
              change G _ _ _ _ _ _ _ (.int z2073 :: _) _ _ _
              refine G_ws (ws' := [(q923, .inr (5, [.ref q925, .ref q926, .ref q927, .ref q928, .ref q929, .ref q930, .ref q931, .ref q932, .ref q933, .int p934, .int p935, .int p936])), (q925, .inl (I .int, 40, .inl f938)), (q926, .inl (I .int, 40, .inl f939)), (q927, .inl (I .int, 40, .inl f940)), (q928, .inl (I .int, 200, .inl f941)), (q929, .inl (I .int, 200, .inl f2059)), (q930, .inl (I .int, 200, .inl f2068)), (q931, .inl (I .int, 200, .inl f944)), (q932, .inl (I .int, 200, .inl f1993)), (q933, .inl (I .int, 200, .inl f946)), (q924, .inl (I .int, 720, .inl f937))]) (cs' := 0) (sl' := 0) rfl rfl rfl ?_
              refine G_iastN 8 0 d_cX0_rename_57 rfl rfl (gB_in bg1990' (by decide) (by decide)) (fun f2081 hf2081 => ?_)
              refine G_ws (ws' := [(q923, .inr (5, [.ref q925, .ref q926, .ref q927, .ref q928, .ref q929, .ref q930, .ref q931, .ref q932, .ref q933, .int p934, .int p935, .int p936])), (q925, .inl (I .int, 40, .inl f938)), (q926, .inl (I .int, 40, .inl f939)), (q927, .inl (I .int, 40, .inl f940)), (q928, .inl (I .int, 200, .inl f941)), (q929, .inl (I .int, 200, .inl f2059)), (q930, .inl (I .int, 200, .inl f2068)), (q931, .inl (I .int, 200, .inl f944)), (q932, .inl (I .int, 200, .inl f2081)), (q933, .inl (I .int, 200, .inl f946)), (q924, .inl (I .int, 720, .inl f937))]) (cs' := 0) (sl' := 0) rfl rfl rfl ?_
              obtain ⟨z2082, hz2082⟩ : ∃ z : Int32, z = g1990 + Int32.ofInt 1 := ⟨_, rfl⟩
              have ez2082 : z2082.toInt = g1990.toInt + 1 := gI_inc hz2082 (by decide) bg1990' (by decide) (by decide)
              have bz2082 : gB z2082 1 200 := ⟨by omega, by omega⟩
              refine G_iinc (L' := [(2, .int z2082), (0, .ref q923), (1, .ref q924)]) z2082 0 d_cX0_rename_58 rfl hz2082.symm (Nat.le_of_ble_eq_true rfl) rfl ?_
              refine G_goto 2 d_cX0_rename_61 (by decide +kernel) ?_
              refine G_sub (ws' := [(q923, .inr (5, [.ref q925, .ref q926, .ref q927, .ref q928, .ref q929, .ref q930, .ref q931, .ref q932, .ref q933, .int p934, .int p935, .int p936])), (q924, .inl (I .int, 720, .inl f937)), (q925, .inl (I .int, 40, .inl f938)), (q926, .inl (I .int, 40, .inl f939)), (q927, .inl (I .int, 40, .inl f940)), (q928, .inl (I .int, 200, .inl f941)), (q929, .inl (I .int, 200, .inl f2059)), (q930, .inl (I .int, 200, .inl f2068)), (q931, .inl (I .int, 200, .inl f944)), (q932, .inl (I .int, 200, .inl f2081)), (q933, .inl (I .int, 200, .inl f946))]) [0, 10, 1, 2, 3, 4, 5, 6, 7, 8, 9] rfl rfl ?_
              exact ih2_1993 z2082 f2059 f2068 f2081 (gB_w bz2082 (by decide) (by decide)) (gF_any f2059) (gF_any f2068) (gF_any f2081) (by omega)
          · have bz2060' : gB z2060 0 2147483647 := ⟨by omega, by omega⟩
            have bz2060'' : gB z2060 720 2147483647 := ⟨by omega, by omega⟩
            change G _ _ _ _ _ _ _ (.int z2060 :: _) _ _ _
            refine G_ws (ws' := [(q923, .inr (5, [.ref q925, .ref q926, .ref q927, .ref q928, .ref q929, .ref q930, .ref q931, .ref q932, .ref q933, .int p934, .int p935, .int p936])), (q925, .inl (I .int, 40, .inl f938)), (q926, .inl (I .int, 40, .inl f939)), (q927, .inl (I .int, 40, .inl f940)), (q928, .inl (I .int, 200, .inl f941)), (q929, .inl (I .int, 200, .inl f2059)), (q930, .inl (I .int, 200, .inl f1992)), (q931, .inl (I .int, 200, .inl f944)), (q932, .inl (I .int, 200, .inl f1993)), (q933, .inl (I .int, 200, .inl f946)), (q924, .inl (I .int, 720, .inl f937))]) (cs' := 0) (sl' := 0) rfl rfl rfl ?_
            refine G_iastN 6 0 d_cX0_rename_41 rfl rfl (gB_in bg1990' (by decide) (by decide)) (fun f2083 hf2083 => ?_)
            refine G_ws (ws' := [(q923, .inr (5, [.ref q925, .ref q926, .ref q927, .ref q928, .ref q929, .ref q930, .ref q931, .ref q932, .ref q933, .int p934, .int p935, .int p936])), (q925, .inl (I .int, 40, .inl f938)), (q926, .inl (I .int, 40, .inl f939)), (q927, .inl (I .int, 40, .inl f940)), (q928, .inl (I .int, 200, .inl f941)), (q929, .inl (I .int, 200, .inl f2059)), (q930, .inl (I .int, 200, .inl f2083)), (q931, .inl (I .int, 200, .inl f944)), (q932, .inl (I .int, 200, .inl f1993)), (q933, .inl (I .int, 200, .inl f946)), (q924, .inl (I .int, 720, .inl f937))]) (cs' := 0) (sl' := 0) rfl rfl rfl ?_
            refine G_aload_n 1 d_cX0_rename_42 rfl ?_
            refine G_getf 0 7 d_cX0_rename_43 rfl (gk_X0 D I) (Nat.le_of_ble_eq_true rfl) w_1_178 rfl ?_
            refine G_iload_n 0 d_cX0_rename_46 rfl ?_
            refine G_aload_n 2 d_cX0_rename_47 rfl ?_
            refine G_aload_n 1 d_cX0_rename_48 rfl ?_
            refine G_getf 0 7 d_cX0_rename_49 rfl (gk_X0 D I) (Nat.le_of_ble_eq_true rfl) w_1_178 rfl ?_
            refine G_iload_n 0 d_cX0_rename_52 rfl ?_
            refine G_iald 8 0 d_cX0_rename_53 rfl rfl (gB_in bg1990' (by decide) (by decide)) (G_nam fun z2084 hz2084 => ?_)
            have bz2084 : gB z2084 (-2147483648) 2147483647 := by rw [hz2084]; exact bf1993 _
            refine G_callS (As := [.ref q924, .int z2084]) (wr := [(q923, .inr (5, [.ref q925, .ref q926, .ref q927, .ref q928, .ref q929, .ref q930, .ref q931, .ref q932, .ref q933, .int p934, .int p935, .int p936])), (q925, .inl (I .int, 40, .inl f938)), (q926, .inl (I .int, 40, .inl f939)), (q927, .inl (I .int, 40, .inl f940)), (q928, .inl (I .int, 200, .inl f941)), (q929, .inl (I .int, 200, .inl f2059)), (q930, .inl (I .int, 200, .inl f2083)), (q931, .inl (I .int, 200, .inl f944)), (q932, .inl (I .int, 200, .inl f1993)), (q933, .inl (I .int, 200, .inl f946))]) (gV_ok D I) (ct_955_Code_nameIn l hl0 D I q924 z2084 f937 ) d_cX0_rename_54 ⟨w_5_154, w_1_5, w_5_156, by decide, rfl, (Nat.le_of_ble_eq_true rfl), (Nat.le_of_ble_eq_true rfl)⟩ w_5_155 [10] [0, 1, 2, 3, 4, 5, 6, 7, 8, 9] rfl rfl rfl rfl (by decide) (Nat.le_of_ble_eq_true rfl) (Nat.le_of_ble_eq_true rfl) (Nat.le_of_ble_eq_true rfl) (fun r w hp => ?_) (fun _ _ _ z => z.elim)
            rcases hp with ⟨rfl, rfl, r2085⟩ | ⟨rfl, rfl, r2086, r2087⟩ | ⟨z2088, rfl, rfl, r2089, r2090, r2091⟩
            · have bz2084' : gB z2084 (-2147483648) (-1) := ⟨by omega, by omega⟩
              change G _ _ _ _ _ _ _ (.int z2084 :: _) _ _ _
              refine G_ws (ws' := [(q923, .inr (5, [.ref q925, .ref q926, .ref q927, .ref q928, .ref q929, .ref q930, .ref q931, .ref q932, .ref q933, .int p934, .int p935, .int p936])), (q925, .inl (I .int, 40, .inl f938)), (q926, .inl (I .int, 40, .inl f939)), (q927, .inl (I .int, 40, .inl f940)), (q928, .inl (I .int, 200, .inl f941)), (q929, .inl (I .int, 200, .inl f2059)), (q930, .inl (I .int, 200, .inl f2083)), (q931, .inl (I .int, 200, .inl f944)), (q932, .inl (I .int, 200, .inl f1993)), (q933, .inl (I .int, 200, .inl f946)), (q924, .inl (I .int, 720, .inl f937))]) (cs' := 0) (sl' := 0) rfl rfl rfl ?_
              refine G_iastN 8 0 d_cX0_rename_57 rfl rfl (gB_in bg1990' (by decide) (by decide)) (fun f2092 hf2092 => ?_)
              refine G_ws (ws' := [(q923, .inr (5, [.ref q925, .ref q926, .ref q927, .ref q928, .ref q929, .ref q930, .ref q931, .ref q932, .ref q933, .int p934, .int p935, .int p936])), (q925, .inl (I .int, 40, .inl f938)), (q926, .inl (I .int, 40, .inl f939)), (q927, .inl (I .int, 40, .inl f940)), (q928, .inl (I .int, 200, .inl f941)), (q929, .inl (I .int, 200, .inl f2059)), (q930, .inl (I .int, 200, .inl f2083)), (q931, .inl (I .int, 200, .inl f944)), (q932, .inl (I .int, 200, .inl f2092)), (q933, .inl (I .int, 200, .inl f946)), (q924, .inl (I .int, 720, .inl f937))]) (cs' := 0) (sl' := 0) rfl rfl rfl ?_
              obtain ⟨z2093, hz2093⟩ : ∃ z : Int32, z = g1990 + Int32.ofInt 1 := ⟨_, rfl⟩
              have ez2093 : z2093.toInt = g1990.toInt + 1 := gI_inc hz2093 (by decide) bg1990' (by decide) (by decide)
              have bz2093 : gB z2093 1 200 := ⟨by omega, by omega⟩
              refine G_iinc (L' := [(2, .int z2093), (0, .ref q923), (1, .ref q924)]) z2093 0 d_cX0_rename_58 rfl hz2093.symm (Nat.le_of_ble_eq_true rfl) rfl ?_
              refine G_goto 2 d_cX0_rename_61 (by decide +kernel) ?_
              refine G_sub (ws' := [(q923, .inr (5, [.ref q925, .ref q926, .ref q927, .ref q928, .ref q929, .ref q930, .ref q931, .ref q932, .ref q933, .int p934, .int p935, .int p936])), (q924, .inl (I .int, 720, .inl f937)), (q925, .inl (I .int, 40, .inl f938)), (q926, .inl (I .int, 40, .inl f939)), (q927, .inl (I .int, 40, .inl f940)), (q928, .inl (I .int, 200, .inl f941)), (q929, .inl (I .int, 200, .inl f2059)), (q930, .inl (I .int, 200, .inl f2083)), (q931, .inl (I .int, 200, .inl f944)), (q932, .inl (I .int, 200, .inl f2092)), (q933, .inl (I .int, 200, .inl f946))]) [0, 10, 1, 2, 3, 4, 5, 6, 7, 8, 9] rfl rfl ?_
              exact ih2_1993 z2093 f2059 f2083 f2092 (gB_w bz2093 (by decide) (by decide)) (gF_any f2059) (gF_any f2083) (gF_any f2092) (by omega)
            · have bz2084' : gB z2084 0 2147483647 := ⟨by omega, by omega⟩
              have bz2084'' : gB z2084 720 2147483647 := ⟨by omega, by omega⟩
              change G _ _ _ _ _ _ _ (.int z2084 :: _) _ _ _
              refine G_ws (ws' := [(q923, .inr (5, [.ref q925, .ref q926, .ref q927, .ref q928, .ref q929, .ref q930, .ref q931, .ref q932, .ref q933, .int p934, .int p935, .int p936])), (q925, .inl (I .int, 40, .inl f938)), (q926, .inl (I .int, 40, .inl f939)), (q927, .inl (I .int, 40, .inl f940)), (q928, .inl (I .int, 200, .inl f941)), (q929, .inl (I .int, 200, .inl f2059)), (q930, .inl (I .int, 200, .inl f2083)), (q931, .inl (I .int, 200, .inl f944)), (q932, .inl (I .int, 200, .inl f1993)), (q933, .inl (I .int, 200, .inl f946)), (q924, .inl (I .int, 720, .inl f937))]) (cs' := 0) (sl' := 0) rfl rfl rfl ?_
              refine G_iastN 8 0 d_cX0_rename_57 rfl rfl (gB_in bg1990' (by decide) (by decide)) (fun f2094 hf2094 => ?_)
              refine G_ws (ws' := [(q923, .inr (5, [.ref q925, .ref q926, .ref q927, .ref q928, .ref q929, .ref q930, .ref q931, .ref q932, .ref q933, .int p934, .int p935, .int p936])), (q925, .inl (I .int, 40, .inl f938)), (q926, .inl (I .int, 40, .inl f939)), (q927, .inl (I .int, 40, .inl f940)), (q928, .inl (I .int, 200, .inl f941)), (q929, .inl (I .int, 200, .inl f2059)), (q930, .inl (I .int, 200, .inl f2083)), (q931, .inl (I .int, 200, .inl f944)), (q932, .inl (I .int, 200, .inl f2094)), (q933, .inl (I .int, 200, .inl f946)), (q924, .inl (I .int, 720, .inl f937))]) (cs' := 0) (sl' := 0) rfl rfl rfl ?_
              obtain ⟨z2095, hz2095⟩ : ∃ z : Int32, z = g1990 + Int32.ofInt 1 := ⟨_, rfl⟩
              have ez2095 : z2095.toInt = g1990.toInt + 1 := gI_inc hz2095 (by decide) bg1990' (by decide) (by decide)
              have bz2095 : gB z2095 1 200 := ⟨by omega, by omega⟩
              refine G_iinc (L' := [(2, .int z2095), (0, .ref q923), (1, .ref q924)]) z2095 0 d_cX0_rename_58 rfl hz2095.symm (Nat.le_of_ble_eq_true rfl) rfl ?_
              refine G_goto 2 d_cX0_rename_61 (by decide +kernel) ?_
              refine G_sub (ws' := [(q923, .inr (5, [.ref q925, .ref q926, .ref q927, .ref q928, .ref q929, .ref q930, .ref q931, .ref q932, .ref q933, .int p934, .int p935, .int p936])), (q924, .inl (I .int, 720, .inl f937)), (q925, .inl (I .int, 40, .inl f938)), (q926, .inl (I .int, 40, .inl f939)), (q927, .inl (I .int, 40, .inl f940)), (q928, .inl (I .int, 200, .inl f941)), (q929, .inl (I .int, 200, .inl f2059)), (q930, .inl (I .int, 200, .inl f2083)), (q931, .inl (I .int, 200, .inl f944)), (q932, .inl (I .int, 200, .inl f2094)), (q933, .inl (I .int, 200, .inl f946))]) [0, 10, 1, 2, 3, 4, 5, 6, 7, 8, 9] rfl rfl ?_
              exact ih2_1993 z2095 f2059 f2083 f2094 (gB_w bz2095 (by decide) (by decide)) (gF_any f2059) (gF_any f2083) (gF_any f2094) (by omega)
            · have bz2084' : gB z2084 0 2147483647 := ⟨by omega, by omega⟩
              have bz2084'' : gB z2084 0 719 := ⟨by omega, by omega⟩
              change G _ _ _ _ _ _ _ (.int z2088 :: _) _ _ _
              refine G_ws (ws' := [(q923, .inr (5, [.ref q925, .ref q926, .ref q927, .ref q928, .ref q929, .ref q930, .ref q931, .ref q932, .ref q933, .int p934, .int p935, .int p936])), (q925, .inl (I .int, 40, .inl f938)), (q926, .inl (I .int, 40, .inl f939)), (q927, .inl (I .int, 40, .inl f940)), (q928, .inl (I .int, 200, .inl f941)), (q929, .inl (I .int, 200, .inl f2059)), (q930, .inl (I .int, 200, .inl f2083)), (q931, .inl (I .int, 200, .inl f944)), (q932, .inl (I .int, 200, .inl f1993)), (q933, .inl (I .int, 200, .inl f946)), (q924, .inl (I .int, 720, .inl f937))]) (cs' := 0) (sl' := 0) rfl rfl rfl ?_
              refine G_iastN 8 0 d_cX0_rename_57 rfl rfl (gB_in bg1990' (by decide) (by decide)) (fun f2096 hf2096 => ?_)
              refine G_ws (ws' := [(q923, .inr (5, [.ref q925, .ref q926, .ref q927, .ref q928, .ref q929, .ref q930, .ref q931, .ref q932, .ref q933, .int p934, .int p935, .int p936])), (q925, .inl (I .int, 40, .inl f938)), (q926, .inl (I .int, 40, .inl f939)), (q927, .inl (I .int, 40, .inl f940)), (q928, .inl (I .int, 200, .inl f941)), (q929, .inl (I .int, 200, .inl f2059)), (q930, .inl (I .int, 200, .inl f2083)), (q931, .inl (I .int, 200, .inl f944)), (q932, .inl (I .int, 200, .inl f2096)), (q933, .inl (I .int, 200, .inl f946)), (q924, .inl (I .int, 720, .inl f937))]) (cs' := 0) (sl' := 0) rfl rfl rfl ?_
              obtain ⟨z2097, hz2097⟩ : ∃ z : Int32, z = g1990 + Int32.ofInt 1 := ⟨_, rfl⟩
              have ez2097 : z2097.toInt = g1990.toInt + 1 := gI_inc hz2097 (by decide) bg1990' (by decide) (by decide)
              have bz2097 : gB z2097 1 200 := ⟨by omega, by omega⟩
              refine G_iinc (L' := [(2, .int z2097), (0, .ref q923), (1, .ref q924)]) z2097 0 d_cX0_rename_58 rfl hz2097.symm (Nat.le_of_ble_eq_true rfl) rfl ?_
              refine G_goto 2 d_cX0_rename_61 (by decide +kernel) ?_
              refine G_sub (ws' := [(q923, .inr (5, [.ref q925, .ref q926, .ref q927, .ref q928, .ref q929, .ref q930, .ref q931, .ref q932, .ref q933, .int p934, .int p935, .int p936])), (q924, .inl (I .int, 720, .inl f937)), (q925, .inl (I .int, 40, .inl f938)), (q926, .inl (I .int, 40, .inl f939)), (q927, .inl (I .int, 40, .inl f940)), (q928, .inl (I .int, 200, .inl f941)), (q929, .inl (I .int, 200, .inl f2059)), (q930, .inl (I .int, 200, .inl f2083)), (q931, .inl (I .int, 200, .inl f944)), (q932, .inl (I .int, 200, .inl f2096)), (q933, .inl (I .int, 200, .inl f946))]) [0, 10, 1, 2, 3, 4, 5, 6, 7, 8, 9] rfl rfl ?_
              exact ih2_1993 z2097 f2059 f2083 f2096 (gB_w bz2097 (by decide) (by decide)) (gF_any f2059) (gF_any f2083) (gF_any f2096) (by omega)
          · have bz2060' : gB z2060 0 2147483647 := ⟨by omega, by omega⟩
            have bz2060'' : gB z2060 0 719 := ⟨by omega, by omega⟩
            change G _ _ _ _ _ _ _ (.int z2064 :: _) _ _ _
            refine G_ws (ws' := [(q923, .inr (5, [.ref q925, .ref q926, .ref q927, .ref q928, .ref q929, .ref q930, .ref q931, .ref q932, .ref q933, .int p934, .int p935, .int p936])), (q925, .inl (I .int, 40, .inl f938)), (q926, .inl (I .int, 40, .inl f939)), (q927, .inl (I .int, 40, .inl f940)), (q928, .inl (I .int, 200, .inl f941)), (q929, .inl (I .int, 200, .inl f2059)), (q930, .inl (I .int, 200, .inl f1992)), (q931, .inl (I .int, 200, .inl f944)), (q932, .inl (I .int, 200, .inl f1993)), (q933, .inl (I .int, 200, .inl f946)), (q924, .inl (I .int, 720, .inl f937))]) (cs' := 0) (sl' := 0) rfl rfl rfl ?_
            refine G_iastN 6 0 d_cX0_rename_41 rfl rfl (gB_in bg1990' (by decide) (by decide)) (fun f2098 hf2098 => ?_)
            refine G_ws (ws' := [(q923, .inr (5, [.ref q925, .ref q926, .ref q927, .ref q928, .ref q929, .ref q930, .ref q931, .ref q932, .ref q933, .int p934, .int p935, .int p936])), (q925, .inl (I .int, 40, .inl f938)), (q926, .inl (I .int, 40, .inl f939)), (q927, .inl (I .int, 40, .inl f940)), (q928, .inl (I .int, 200, .inl f941)), (q929, .inl (I .int, 200, .inl f2059)), (q930, .inl (I .int, 200, .inl f2098)), (q931, .inl (I .int, 200, .inl f944)), (q932, .inl (I .int, 200, .inl f1993)), (q933, .inl (I .int, 200, .inl f946)), (q924, .inl (I .int, 720, .inl f937))]) (cs' := 0) (sl' := 0) rfl rfl rfl ?_
            refine G_aload_n 1 d_cX0_rename_42 rfl ?_
            refine G_getf 0 7 d_cX0_rename_43 rfl (gk_X0 D I) (Nat.le_of_ble_eq_true rfl) w_1_178 rfl ?_
            refine G_iload_n 0 d_cX0_rename_46 rfl ?_
            refine G_aload_n 2 d_cX0_rename_47 rfl ?_
            refine G_aload_n 1 d_cX0_rename_48 rfl ?_
            refine G_getf 0 7 d_cX0_rename_49 rfl (gk_X0 D I) (Nat.le_of_ble_eq_true rfl) w_1_178 rfl ?_
            refine G_iload_n 0 d_cX0_rename_52 rfl ?_
            refine G_iald 8 0 d_cX0_rename_53 rfl rfl (gB_in bg1990' (by decide) (by decide)) (G_nam fun z2099 hz2099 => ?_)
            have bz2099 : gB z2099 (-2147483648) 2147483647 := by rw [hz2099]; exact bf1993 _
            refine G_callS (As := [.ref q924, .int z2099]) (wr := [(q923, .inr (5, [.ref q925, .ref q926, .ref q927, .ref q928, .ref q929, .ref q930, .ref q931, .ref q932, .ref q933, .int p934, .int p935, .int p936])), (q925, .inl (I .int, 40, .inl f938)), (q926, .inl (I .int, 40, .inl f939)), (q927, .inl (I .int, 40, .inl f940)), (q928, .inl (I .int, 200, .inl f941)), (q929, .inl (I .int, 200, .inl f2059)), (q930, .inl (I .int, 200, .inl f2098)), (q931, .inl (I .int, 200, .inl f944)), (q932, .inl (I .int, 200, .inl f1993)), (q933, .inl (I .int, 200, .inl f946))]) (gV_ok D I) (ct_955_Code_nameIn l hl0 D I q924 z2099 f937 ) d_cX0_rename_54 ⟨w_5_154, w_1_5, w_5_156, by decide, rfl, (Nat.le_of_ble_eq_true rfl), (Nat.le_of_ble_eq_true rfl)⟩ w_5_155 [10] [0, 1, 2, 3, 4, 5, 6, 7, 8, 9] rfl rfl rfl rfl (by decide) (Nat.le_of_ble_eq_true rfl) (Nat.le_of_ble_eq_true rfl) (Nat.le_of_ble_eq_true rfl) (fun r w hp => ?_) (fun _ _ _ z => z.elim)
            rcases hp with ⟨rfl, rfl, r2100⟩ | ⟨rfl, rfl, r2101, r2102⟩ | ⟨z2103, rfl, rfl, r2104, r2105, r2106⟩
            · have bz2099' : gB z2099 (-2147483648) (-1) := ⟨by omega, by omega⟩
              change G _ _ _ _ _ _ _ (.int z2099 :: _) _ _ _
              refine G_ws (ws' := [(q923, .inr (5, [.ref q925, .ref q926, .ref q927, .ref q928, .ref q929, .ref q930, .ref q931, .ref q932, .ref q933, .int p934, .int p935, .int p936])), (q925, .inl (I .int, 40, .inl f938)), (q926, .inl (I .int, 40, .inl f939)), (q927, .inl (I .int, 40, .inl f940)), (q928, .inl (I .int, 200, .inl f941)), (q929, .inl (I .int, 200, .inl f2059)), (q930, .inl (I .int, 200, .inl f2098)), (q931, .inl (I .int, 200, .inl f944)), (q932, .inl (I .int, 200, .inl f1993)), (q933, .inl (I .int, 200, .inl f946)), (q924, .inl (I .int, 720, .inl f937))]) (cs' := 0) (sl' := 0) rfl rfl rfl ?_
              refine G_iastN 8 0 d_cX0_rename_57 rfl rfl (gB_in bg1990' (by decide) (by decide)) (fun f2107 hf2107 => ?_)
              refine G_ws (ws' := [(q923, .inr (5, [.ref q925, .ref q926, .ref q927, .ref q928, .ref q929, .ref q930, .ref q931, .ref q932, .ref q933, .int p934, .int p935, .int p936])), (q925, .inl (I .int, 40, .inl f938)), (q926, .inl (I .int, 40, .inl f939)), (q927, .inl (I .int, 40, .inl f940)), (q928, .inl (I .int, 200, .inl f941)), (q929, .inl (I .int, 200, .inl f2059)), (q930, .inl (I .int, 200, .inl f2098)), (q931, .inl (I .int, 200, .inl f944)), (q932, .inl (I .int, 200, .inl f2107)), (q933, .inl (I .int, 200, .inl f946)), (q924, .inl (I .int, 720, .inl f937))]) (cs' := 0) (sl' := 0) rfl rfl rfl ?_
              obtain ⟨z2108, hz2108⟩ : ∃ z : Int32, z = g1990 + Int32.ofInt 1 := ⟨_, rfl⟩
              have ez2108 : z2108.toInt = g1990.toInt + 1 := gI_inc hz2108 (by decide) bg1990' (by decide) (by decide)
              have bz2108 : gB z2108 1 200 := ⟨by omega, by omega⟩
              refine G_iinc (L' := [(2, .int z2108), (0, .ref q923), (1, .ref q924)]) z2108 0 d_cX0_rename_58 rfl hz2108.symm (Nat.le_of_ble_eq_true rfl) rfl ?_
              refine G_goto 2 d_cX0_rename_61 (by decide +kernel) ?_
              refine G_sub (ws' := [(q923, .inr (5, [.ref q925, .ref q926, .ref q927, .ref q928, .ref q929, .ref q930, .ref q931, .ref q932, .ref q933, .int p934, .int p935, .int p936])), (q924, .inl (I .int, 720, .inl f937)), (q925, .inl (I .int, 40, .inl f938)), (q926, .inl (I .int, 40, .inl f939)), (q927, .inl (I .int, 40, .inl f940)), (q928, .inl (I .int, 200, .inl f941)), (q929, .inl (I .int, 200, .inl f2059)), (q930, .inl (I .int, 200, .inl f2098)), (q931, .inl (I .int, 200, .inl f944)), (q932, .inl (I .int, 200, .inl f2107)), (q933, .inl (I .int, 200, .inl f946))]) [0, 10, 1, 2, 3, 4, 5, 6, 7, 8, 9] rfl rfl ?_
              exact ih2_1993 z2108 f2059 f2098 f2107 (gB_w bz2108 (by decide) (by decide)) (gF_any f2059) (gF_any f2098) (gF_any f2107) (by omega)
            · have bz2099' : gB z2099 0 2147483647 := ⟨by omega, by omega⟩
              have bz2099'' : gB z2099 720 2147483647 := ⟨by omega, by omega⟩
              change G _ _ _ _ _ _ _ (.int z2099 :: _) _ _ _
              refine G_ws (ws' := [(q923, .inr (5, [.ref q925, .ref q926, .ref q927, .ref q928, .ref q929, .ref q930, .ref q931, .ref q932, .ref q933, .int p934, .int p935, .int p936])), (q925, .inl (I .int, 40, .inl f938)), (q926, .inl (I .int, 40, .inl f939)), (q927, .inl (I .int, 40, .inl f940)), (q928, .inl (I .int, 200, .inl f941)), (q929, .inl (I .int, 200, .inl f2059)), (q930, .inl (I .int, 200, .inl f2098)), (q931, .inl (I .int, 200, .inl f944)), (q932, .inl (I .int, 200, .inl f1993)), (q933, .inl (I .int, 200, .inl f946)), (q924, .inl (I .int, 720, .inl f937))]) (cs' := 0) (sl' := 0) rfl rfl rfl ?_
              refine G_iastN 8 0 d_cX0_rename_57 rfl rfl (gB_in bg1990' (by decide) (by decide)) (fun f2109 hf2109 => ?_)
              refine G_ws (ws' := [(q923, .inr (5, [.ref q925, .ref q926, .ref q927, .ref q928, .ref q929, .ref q930, .ref q931, .ref q932, .ref q933, .int p934, .int p935, .int p936])), (q925, .inl (I .int, 40, .inl f938)), (q926, .inl (I .int, 40, .inl f939)), (q927, .inl (I .int, 40, .inl f940)), (q928, .inl (I .int, 200, .inl f941)), (q929, .inl (I .int, 200, .inl f2059)), (q930, .inl (I .int, 200, .inl f2098)), (q931, .inl (I .int, 200, .inl f944)), (q932, .inl (I .int, 200, .inl f2109)), (q933, .inl (I .int, 200, .inl f946)), (q924, .inl (I .int, 720, .inl f937))]) (cs' := 0) (sl' := 0) rfl rfl rfl ?_
              obtain ⟨z2110, hz2110⟩ : ∃ z : Int32, z = g1990 + Int32.ofInt 1 := ⟨_, rfl⟩
              have ez2110 : z2110.toInt = g1990.toInt + 1 := gI_inc hz2110 (by decide) bg1990' (by decide) (by decide)
              have bz2110 : gB z2110 1 200 := ⟨by omega, by omega⟩
              refine G_iinc (L' := [(2, .int z2110), (0, .ref q923), (1, .ref q924)]) z2110 0 d_cX0_rename_58 rfl hz2110.symm (Nat.le_of_ble_eq_true rfl) rfl ?_
              refine G_goto 2 d_cX0_rename_61 (by decide +kernel) ?_
              refine G_sub (ws' := [(q923, .inr (5, [.ref q925, .ref q926, .ref q927, .ref q928, .ref q929, .ref q930, .ref q931, .ref q932, .ref q933, .int p934, .int p935, .int p936])), (q924, .inl (I .int, 720, .inl f937)), (q925, .inl (I .int, 40, .inl f938)), (q926, .inl (I .int, 40, .inl f939)), (q927, .inl (I .int, 40, .inl f940)), (q928, .inl (I .int, 200, .inl f941)), (q929, .inl (I .int, 200, .inl f2059)), (q930, .inl (I .int, 200, .inl f2098)), (q931, .inl (I .int, 200, .inl f944)), (q932, .inl (I .int, 200, .inl f2109)), (q933, .inl (I .int, 200, .inl f946))]) [0, 10, 1, 2, 3, 4, 5, 6, 7, 8, 9] rfl rfl ?_
              exact ih2_1993 z2110 f2059 f2098 f2109 (gB_w bz2110 (by decide) (by decide)) (gF_any f2059) (gF_any f2098) (gF_any f2109) (by omega)
            · have bz2099' : gB z2099 0 2147483647 := ⟨by omega, by omega⟩
              have bz2099'' : gB z2099 0 719 := ⟨by omega, by omega⟩
              change G _ _ _ _ _ _ _ (.int z2103 :: _) _ _ _
              refine G_ws (ws' := [(q923, .inr (5, [.ref q925, .ref q926, .ref q927, .ref q928, .ref q929, .ref q930, .ref q931, .ref q932, .ref q933, .int p934, .int p935, .int p936])), (q925, .inl (I .int, 40, .inl f938)), (q926, .inl (I .int, 40, .inl f939)), (q927, .inl (I .int, 40, .inl f940)), (q928, .inl (I .int, 200, .inl f941)), (q929, .inl (I .int, 200, .inl f2059)), (q930, .inl (I .int, 200, .inl f2098)), (q931, .inl (I .int, 200, .inl f944)), (q932, .inl (I .int, 200, .inl f1993)), (q933, .inl (I .int, 200, .inl f946)), (q924, .inl (I .int, 720, .inl f937))]) (cs' := 0) (sl' := 0) rfl rfl rfl ?_
              refine G_iastN 8 0 d_cX0_rename_57 rfl rfl (gB_in bg1990' (by decide) (by decide)) (fun f2111 hf2111 => ?_)
              refine G_ws (ws' := [(q923, .inr (5, [.ref q925, .ref q926, .ref q927, .ref q928, .ref q929, .ref q930, .ref q931, .ref q932, .ref q933, .int p934, .int p935, .int p936])), (q925, .inl (I .int, 40, .inl f938)), (q926, .inl (I .int, 40, .inl f939)), (q927, .inl (I .int, 40, .inl f940)), (q928, .inl (I .int, 200, .inl f941)), (q929, .inl (I .int, 200, .inl f2059)), (q930, .inl (I .int, 200, .inl f2098)), (q931, .inl (I .int, 200, .inl f944)), (q932, .inl (I .int, 200, .inl f2111)), (q933, .inl (I .int, 200, .inl f946)), (q924, .inl (I .int, 720, .inl f937))]) (cs' := 0) (sl' := 0) rfl rfl rfl ?_
              obtain ⟨z2112, hz2112⟩ : ∃ z : Int32, z = g1990 + Int32.ofInt 1 := ⟨_, rfl⟩
              have ez2112 : z2112.toInt = g1990.toInt + 1 := gI_inc hz2112 (by decide) bg1990' (by decide) (by decide)
              have bz2112 : gB z2112 1 200 := ⟨by omega, by omega⟩
              refine G_iinc (L' := [(2, .int z2112), (0, .ref q923), (1, .ref q924)]) z2112 0 d_cX0_rename_58 rfl hz2112.symm (Nat.le_of_ble_eq_true rfl) rfl ?_
              refine G_goto 2 d_cX0_rename_61 (by decide +kernel) ?_
              refine G_sub (ws' := [(q923, .inr (5, [.ref q925, .ref q926, .ref q927, .ref q928, .ref q929, .ref q930, .ref q931, .ref q932, .ref q933, .int p934, .int p935, .int p936])), (q924, .inl (I .int, 720, .inl f937)), (q925, .inl (I .int, 40, .inl f938)), (q926, .inl (I .int, 40, .inl f939)), (q927, .inl (I .int, 40, .inl f940)), (q928, .inl (I .int, 200, .inl f941)), (q929, .inl (I .int, 200, .inl f2059)), (q930, .inl (I .int, 200, .inl f2098)), (q931, .inl (I .int, 200, .inl f944)), (q932, .inl (I .int, 200, .inl f2111)), (q933, .inl (I .int, 200, .inl f946))]) [0, 10, 1, 2, 3, 4, 5, 6, 7, 8, 9] rfl rfl ?_
              exact ih2_1993 z2112 f2059 f2098 f2111 (gB_w bz2112 (by decide) (by decide)) (gF_any f2059) (gF_any f2098) (gF_any f2111) (by omega)
        · have bz1997' : gB z1997 0 2147483647 := ⟨by omega, by omega⟩
          have bz1997'' : gB z1997 0 719 := ⟨by omega, by omega⟩
          change G _ _ _ _ _ _ _ (.int z2001 :: _) _ _ _
          refine G_ws (ws' := [(q923, .inr (5, [.ref q925, .ref q926, .ref q927, .ref q928, .ref q929, .ref q930, .ref q931, .ref q932, .ref q933, .int p934, .int p935, .int p936])), (q925, .inl (I .int, 40, .inl f938)), (q926, .inl (I .int, 40, .inl f939)), (q927, .inl (I .int, 40, .inl f940)), (q928, .inl (I .int, 200, .inl f941)), (q929, .inl (I .int, 200, .inl f1991)), (q930, .inl (I .int, 200, .inl f1992)), (q931, .inl (I .int, 200, .inl f944)), (q932, .inl (I .int, 200, .inl f1993)), (q933, .inl (I .int, 200, .inl f946)), (q924, .inl (I .int, 720, .inl f937))]) (cs' := 0) (sl' := 0) rfl rfl rfl ?_
          refine G_iastN 5 0 d_cX0_rename_25 rfl rfl (gB_in bg1990' (by decide) (by decide)) (fun f2113 hf2113 => ?_)
          refine G_ws (ws' := [(q923, .inr (5, [.ref q925, .ref q926, .ref q927, .ref q928, .ref q929, .ref q930, .ref q931, .ref q932, .ref q933, .int p934, .int p935, .int p936])), (q925, .inl (I .int, 40, .inl f938)), (q926, .inl (I .int, 40, .inl f939)), (q927, .inl (I .int, 40, .inl f940)), (q928, .inl (I .int, 200, .inl f941)), (q929, .inl (I .int, 200, .inl f2113)), (q930, .inl (I .int, 200, .inl f1992)), (q931, .inl (I .int, 200, .inl f944)), (q932, .inl (I .int, 200, .inl f1993)), (q933, .inl (I .int, 200, .inl f946)), (q924, .inl (I .int, 720, .inl f937))]) (cs' := 0) (sl' := 0) rfl rfl rfl ?_
          refine G_aload_n 1 d_cX0_rename_26 rfl ?_
          refine G_getf 0 5 d_cX0_rename_27 rfl (gk_X0 D I) (Nat.le_of_ble_eq_true rfl) w_1_168 rfl ?_
          refine G_iload_n 0 d_cX0_rename_30 rfl ?_
          refine G_aload_n 2 d_cX0_rename_31 rfl ?_
          refine G_aload_n 1 d_cX0_rename_32 rfl ?_
          refine G_getf 0 5 d_cX0_rename_33 rfl (gk_X0 D I) (Nat.le_of_ble_eq_true rfl) w_1_168 rfl ?_
          refine G_iload_n 0 d_cX0_rename_36 rfl ?_
          refine G_iald 6 0 d_cX0_rename_37 rfl rfl (gB_in bg1990' (by decide) (by decide)) (G_nam fun z2114 hz2114 => ?_)
          have bz2114 : gB z2114 (-2147483648) 2147483647 := by rw [hz2114]; exact bf1992 _
          refine G_callS (As := [.ref q924, .int z2114]) (wr := [(q923, .inr (5, [.ref q925, .ref q926, .ref q927, .ref q928, .ref q929, .ref q930, .ref q931, .ref q932, .ref q933, .int p934, .int p935, .int p936])), (q925, .inl (I .int, 40, .inl f938)), (q926, .inl (I .int, 40, .inl f939)), (q927, .inl (I .int, 40, .inl f940)), (q928, .inl (I .int, 200, .inl f941)), (q929, .inl (I .int, 200, .inl f2113)), (q930, .inl (I .int, 200, .inl f1992)), (q931, .inl (I .int, 200, .inl f944)), (q932, .inl (I .int, 200, .inl f1993)), (q933, .inl (I .int, 200, .inl f946))]) (gV_ok D I) (ct_955_Code_nameIn l hl0 D I q924 z2114 f937 ) d_cX0_rename_38 ⟨w_5_154, w_1_5, w_5_156, by decide, rfl, (Nat.le_of_ble_eq_true rfl), (Nat.le_of_ble_eq_true rfl)⟩ w_5_155 [10] [0, 1, 2, 3, 4, 5, 6, 7, 8, 9] rfl rfl rfl rfl (by decide) (Nat.le_of_ble_eq_true rfl) (Nat.le_of_ble_eq_true rfl) (Nat.le_of_ble_eq_true rfl) (fun r w hp => ?_) (fun _ _ _ z => z.elim)
          rcases hp with ⟨rfl, rfl, r2115⟩ | ⟨rfl, rfl, r2116, r2117⟩ | ⟨z2118, rfl, rfl, r2119, r2120, r2121⟩
          · have bz2114' : gB z2114 (-2147483648) (-1) := ⟨by omega, by omega⟩
            change G _ _ _ _ _ _ _ (.int z2114 :: _) _ _ _
            refine G_ws (ws' := [(q923, .inr (5, [.ref q925, .ref q926, .ref q927, .ref q928, .ref q929, .ref q930, .ref q931, .ref q932, .ref q933, .int p934, .int p935, .int p936])), (q925, .inl (I .int, 40, .inl f938)), (q926, .inl (I .int, 40, .inl f939)), (q927, .inl (I .int, 40, .inl f940)), (q928, .inl (I .int, 200, .inl f941)), (q929, .inl (I .int, 200, .inl f2113)), (q930, .inl (I .int, 200, .inl f1992)), (q931, .inl (I .int, 200, .inl f944)), (q932, .inl (I .int, 200, .inl f1993)), (q933, .inl (I .int, 200, .inl f946)), (q924, .inl (I .int, 720, .inl f937))]) (cs' := 0) (sl' := 0) rfl rfl rfl ?_
            refine G_iastN 6 0 d_cX0_rename_41 rfl rfl (gB_in bg1990' (by decide) (by decide)) (fun f2122 hf2122 => ?_)
            refine G_ws (ws' := [(q923, .inr (5, [.ref q925, .ref q926, .ref q927, .ref q928, .ref q929, .ref q930, .ref q931, .ref q932, .ref q933, .int p934, .int p935, .int p936])), (q925, .inl (I .int, 40, .inl f938)), (q926, .inl (I .int, 40, .inl f939)), (q927, .inl (I .int, 40, .inl f940)), (q928, .inl (I .int, 200, .inl f941)), (q929, .inl (I .int, 200, .inl f2113)), (q930, .inl (I .int, 200, .inl f2122)), (q931, .inl (I .int, 200, .inl f944)), (q932, .inl (I .int, 200, .inl f1993)), (q933, .inl (I .int, 200, .inl f946)), (q924, .inl (I .int, 720, .inl f937))]) (cs' := 0) (sl' := 0) rfl rfl rfl ?_
            refine G_aload_n 1 d_cX0_rename_42 rfl ?_
            refine G_getf 0 7 d_cX0_rename_43 rfl (gk_X0 D I) (Nat.le_of_ble_eq_true rfl) w_1_178 rfl ?_
            refine G_iload_n 0 d_cX0_rename_46 rfl ?_
            refine G_aload_n 2 d_cX0_rename_47 rfl ?_
            refine G_aload_n 1 d_cX0_rename_48 rfl ?_
            refine G_getf 0 7 d_cX0_rename_49 rfl (gk_X0 D I) (Nat.le_of_ble_eq_true rfl) w_1_178 rfl ?_
            refine G_iload_n 0 d_cX0_rename_52 rfl ?_
            refine G_iald 8 0 d_cX0_rename_53 rfl rfl (gB_in bg1990' (by decide) (by decide)) (G_nam fun z2123 hz2123 => ?_)
            have bz2123 : gB z2123 (-2147483648) 2147483647 := by rw [hz2123]; exact bf1993 _
            refine G_callS (As := [.ref q924, .int z2123]) (wr := [(q923, .inr (5, [.ref q925, .ref q926, .ref q927, .ref q928, .ref q929, .ref q930, .ref q931, .ref q932, .ref q933, .int p934, .int p935, .int p936])), (q925, .inl (I .int, 40, .inl f938)), (q926, .inl (I .int, 40, .inl f939)), (q927, .inl (I .int, 40, .inl f940)), (q928, .inl (I .int, 200, .inl f941)), (q929, .inl (I .int, 200, .inl f2113)), (q930, .inl (I .int, 200, .inl f2122)), (q931, .inl (I .int, 200, .inl f944)), (q932, .inl (I .int, 200, .inl f1993)), (q933, .inl (I .int, 200, .inl f946))]) (gV_ok D I) (ct_955_Code_nameIn l hl0 D I q924 z2123 f937 ) d_cX0_rename_54 ⟨w_5_154, w_1_5, w_5_156, by decide, rfl, (Nat.le_of_ble_eq_true rfl), (Nat.le_of_ble_eq_true rfl)⟩ w_5_155 [10] [0, 1, 2, 3, 4, 5, 6, 7, 8, 9] rfl rfl rfl rfl (by decide) (Nat.le_of_ble_eq_true rfl) (Nat.le_of_ble_eq_true rfl) (Nat.le_of_ble_eq_true rfl) (fun r w hp => ?_) (fun _ _ _ z => z.elim)
            rcases hp with ⟨rfl, rfl, r2124⟩ | ⟨rfl, rfl, r2125, r2126⟩ | ⟨z2127, rfl, rfl, r2128, r2129, r2130⟩
            · have bz2123' : gB z2123 (-2147483648) (-1) := ⟨by omega, by omega⟩
              change G _ _ _ _ _ _ _ (.int z2123 :: _) _ _ _
              refine G_ws (ws' := [(q923, .inr (5, [.ref q925, .ref q926, .ref q927, .ref q928, .ref q929, .ref q930, .ref q931, .ref q932, .ref q933, .int p934, .int p935, .int p936])), (q925, .inl (I .int, 40, .inl f938)), (q926, .inl (I .int, 40, .inl f939)), (q927, .inl (I .int, 40, .inl f940)), (q928, .inl (I .int, 200, .inl f941)), (q929, .inl (I .int, 200, .inl f2113)), (q930, .inl (I .int, 200, .inl f2122)), (q931, .inl (I .int, 200, .inl f944)), (q932, .inl (I .int, 200, .inl f1993)), (q933, .inl (I .int, 200, .inl f946)), (q924, .inl (I .int, 720, .inl f937))]) (cs' := 0) (sl' := 0) rfl rfl rfl ?_
              refine G_iastN 8 0 d_cX0_rename_57 rfl rfl (gB_in bg1990' (by decide) (by decide)) (fun f2131 hf2131 => ?_)
              refine G_ws (ws' := [(q923, .inr (5, [.ref q925, .ref q926, .ref q927, .ref q928, .ref q929, .ref q930, .ref q931, .ref q932, .ref q933, .int p934, .int p935, .int p936])), (q925, .inl (I .int, 40, .inl f938)), (q926, .inl (I .int, 40, .inl f939)), (q927, .inl (I .int, 40, .inl f940)), (q928, .inl (I .int, 200, .inl f941)), (q929, .inl (I .int, 200, .inl f2113)), (q930, .inl (I .int, 200, .inl f2122)), (q931, .inl (I .int, 200, .inl f944)), (q932, .inl (I .int, 200, .inl f2131)), (q933, .inl (I .int, 200, .inl f946)), (q924, .inl (I .int, 720, .inl f937))]) (cs' := 0) (sl' := 0) rfl rfl rfl ?_
              obtain ⟨z2132, hz2132⟩ : ∃ z : Int32, z = g1990 + Int32.ofInt 1 := ⟨_, rfl⟩
              have ez2132 : z2132.toInt = g1990.toInt + 1 := gI_inc hz2132 (by decide) bg1990' (by decide) (by decide)
              have bz2132 : gB z2132 1 200 := ⟨by omega, by omega⟩
              refine G_iinc (L' := [(2, .int z2132), (0, .ref q923), (1, .ref q924)]) z2132 0 d_cX0_rename_58 rfl hz2132.symm (Nat.le_of_ble_eq_true rfl) rfl ?_
              refine G_goto 2 d_cX0_rename_61 (by decide +kernel) ?_
              refine G_sub (ws' := [(q923, .inr (5, [.ref q925, .ref q926, .ref q927, .ref q928, .ref q929, .ref q930, .ref q931, .ref q932, .ref q933, .int p934, .int p935, .int p936])), (q924, .inl (I .int, 720, .inl f937)), (q925, .inl (I .int, 40, .inl f938)), (q926, .inl (I .int, 40, .inl f939)), (q927, .inl (I .int, 40, .inl f940)), (q928, .inl (I .int, 200, .inl f941)), (q929, .inl (I .int, 200, .inl f2113)), (q930, .inl (I .int, 200, .inl f2122)), (q931, .inl (I .int, 200, .inl f944)), (q932, .inl (I .int, 200, .inl f2131)), (q933, .inl (I .int, 200, .inl f946))]) [0, 10, 1, 2, 3, 4, 5, 6, 7, 8, 9] rfl rfl ?_
              exact ih2_1993 z2132 f2113 f2122 f2131 (gB_w bz2132 (by decide) (by decide)) (gF_any f2113) (gF_any f2122) (gF_any f2131) (by omega)
            · have bz2123' : gB z2123 0 2147483647 := ⟨by omega, by omega⟩
              have bz2123'' : gB z2123 720 2147483647 := ⟨by omega, by omega⟩
              change G _ _ _ _ _ _ _ (.int z2123 :: _) _ _ _
              refine G_ws (ws' := [(q923, .inr (5, [.ref q925, .ref q926, .ref q927, .ref q928, .ref q929, .ref q930, .ref q931, .ref q932, .ref q933, .int p934, .int p935, .int p936])), (q925, .inl (I .int, 40, .inl f938)), (q926, .inl (I .int, 40, .inl f939)), (q927, .inl (I .int, 40, .inl f940)), (q928, .inl (I .int, 200, .inl f941)), (q929, .inl (I .int, 200, .inl f2113)), (q930, .inl (I .int, 200, .inl f2122)), (q931, .inl (I .int, 200, .inl f944)), (q932, .inl (I .int, 200, .inl f1993)), (q933, .inl (I .int, 200, .inl f946)), (q924, .inl (I .int, 720, .inl f937))]) (cs' := 0) (sl' := 0) rfl rfl rfl ?_
              refine G_iastN 8 0 d_cX0_rename_57 rfl rfl (gB_in bg1990' (by decide) (by decide)) (fun f2133 hf2133 => ?_)
              refine G_ws (ws' := [(q923, .inr (5, [.ref q925, .ref q926, .ref q927, .ref q928, .ref q929, .ref q930, .ref q931, .ref q932, .ref q933, .int p934, .int p935, .int p936])), (q925, .inl (I .int, 40, .inl f938)), (q926, .inl (I .int, 40, .inl f939)), (q927, .inl (I .int, 40, .inl f940)), (q928, .inl (I .int, 200, .inl f941)), (q929, .inl (I .int, 200, .inl f2113)), (q930, .inl (I .int, 200, .inl f2122)), (q931, .inl (I .int, 200, .inl f944)), (q932, .inl (I .int, 200, .inl f2133)), (q933, .inl (I .int, 200, .inl f946)), (q924, .inl (I .int, 720, .inl f937))]) (cs' := 0) (sl' := 0) rfl rfl rfl ?_
              obtain ⟨z2134, hz2134⟩ : ∃ z : Int32, z = g1990 + Int32.ofInt 1 := ⟨_, rfl⟩
              have ez2134 : z2134.toInt = g1990.toInt + 1 := gI_inc hz2134 (by decide) bg1990' (by decide) (by decide)
              have bz2134 : gB z2134 1 200 := ⟨by omega, by omega⟩
              refine G_iinc (L' := [(2, .int z2134), (0, .ref q923), (1, .ref q924)]) z2134 0 d_cX0_rename_58 rfl hz2134.symm (Nat.le_of_ble_eq_true rfl) rfl ?_
              refine G_goto 2 d_cX0_rename_61 (by decide +kernel) ?_
              refine G_sub (ws' := [(q923, .inr (5, [.ref q925, .ref q926, .ref q927, .ref q928, .ref q929, .ref q930, .ref q931, .ref q932, .ref q933, .int p934, .int p935, .int p936])), (q924, .inl (I .int, 720, .inl f937)), (q925, .inl (I .int, 40, .inl f938)), (q926, .inl (I .int, 40, .inl f939)), (q927, .inl (I .int, 40, .inl f940)), (q928, .inl (I .int, 200, .inl f941)), (q929, .inl (I .int, 200, .inl f2113)), (q930, .inl (I .int, 200, .inl f2122)), (q931, .inl (I .int, 200, .inl f944)), (q932, .inl (I .int, 200, .inl f2133)), (q933, .inl (I .int, 200, .inl f946))]) [0, 10, 1, 2, 3, 4, 5, 6, 7, 8, 9] rfl rfl ?_
              exact ih2_1993 z2134 f2113 f2122 f2133 (gB_w bz2134 (by decide) (by decide)) (gF_any f2113) (gF_any f2122) (gF_any f2133) (by omega)
            · have bz2123' : gB z2123 0 2147483647 := ⟨by omega, by omega⟩
              have bz2123'' : gB z2123 0 719 := ⟨by omega, by omega⟩
              change G _ _ _ _ _ _ _ (.int z2127 :: _) _ _ _
              refine G_ws (ws' := [(q923, .inr (5, [.ref q925, .ref q926, .ref q927, .ref q928, .ref q929, .ref q930, .ref q931, .ref q932, .ref q933, .int p934, .int p935, .int p936])), (q925, .inl (I .int, 40, .inl f938)), (q926, .inl (I .int, 40, .inl f939)), (q927, .inl (I .int, 40, .inl f940)), (q928, .inl (I .int, 200, .inl f941)), (q929, .inl (I .int, 200, .inl f2113)), (q930, .inl (I .int, 200, .inl f2122)), (q931, .inl (I .int, 200, .inl f944)), (q932, .inl (I .int, 200, .inl f1993)), (q933, .inl (I .int, 200, .inl f946)), (q924, .inl (I .int, 720, .inl f937))]) (cs' := 0) (sl' := 0) rfl rfl rfl ?_
              refine G_iastN 8 0 d_cX0_rename_57 rfl rfl (gB_in bg1990' (by decide) (by decide)) (fun f2135 hf2135 => ?_)
              refine G_ws (ws' := [(q923, .inr (5, [.ref q925, .ref q926, .ref q927, .ref q928, .ref q929, .ref q930, .ref q931, .ref q932, .ref q933, .int p934, .int p935, .int p936])), (q925, .inl (I .int, 40, .inl f938)), (q926, .inl (I .int, 40, .inl f939)), (q927, .inl (I .int, 40, .inl f940)), (q928, .inl (I .int, 200, .inl f941)), (q929, .inl (I .int, 200, .inl f2113)), (q930, .inl (I .int, 200, .inl f2122)), (q931, .inl (I .int, 200, .inl f944)), (q932, .inl (I .int, 200, .inl f2135)), (q933, .inl (I .int, 200, .inl f946)), (q924, .inl (I .int, 720, .inl f937))]) (cs' := 0) (sl' := 0) rfl rfl rfl ?_
              obtain ⟨z2136, hz2136⟩ : ∃ z : Int32, z = g1990 + Int32.ofInt 1 := ⟨_, rfl⟩
              have ez2136 : z2136.toInt = g1990.toInt + 1 := gI_inc hz2136 (by decide) bg1990' (by decide) (by decide)
              have bz2136 : gB z2136 1 200 := ⟨by omega, by omega⟩
              refine G_iinc (L' := [(2, .int z2136), (0, .ref q923), (1, .ref q924)]) z2136 0 d_cX0_rename_58 rfl hz2136.symm (Nat.le_of_ble_eq_true rfl) rfl ?_
              refine G_goto 2 d_cX0_rename_61 (by decide +kernel) ?_
              refine G_sub (ws' := [(q923, .inr (5, [.ref q925, .ref q926, .ref q927, .ref q928, .ref q929, .ref q930, .ref q931, .ref q932, .ref q933, .int p934, .int p935, .int p936])), (q924, .inl (I .int, 720, .inl f937)), (q925, .inl (I .int, 40, .inl f938)), (q926, .inl (I .int, 40, .inl f939)), (q927, .inl (I .int, 40, .inl f940)), (q928, .inl (I .int, 200, .inl f941)), (q929, .inl (I .int, 200, .inl f2113)), (q930, .inl (I .int, 200, .inl f2122)), (q931, .inl (I .int, 200, .inl f944)), (q932, .inl (I .int, 200, .inl f2135)), (q933, .inl (I .int, 200, .inl f946))]) [0, 10, 1, 2, 3, 4, 5, 6, 7, 8, 9] rfl rfl ?_
              exact ih2_1993 z2136 f2113 f2122 f2135 (gB_w bz2136 (by decide) (by decide)) (gF_any f2113) (gF_any f2122) (gF_any f2135) (by omega)
          · have bz2114' : gB z2114 0 2147483647 := ⟨by omega, by omega⟩
            have bz2114'' : gB z2114 720 2147483647 := ⟨by omega, by omega⟩
            change G _ _ _ _ _ _ _ (.int z2114 :: _) _ _ _
            refine G_ws (ws' := [(q923, .inr (5, [.ref q925, .ref q926, .ref q927, .ref q928, .ref q929, .ref q930, .ref q931, .ref q932, .ref q933, .int p934, .int p935, .int p936])), (q925, .inl (I .int, 40, .inl f938)), (q926, .inl (I .int, 40, .inl f939)), (q927, .inl (I .int, 40, .inl f940)), (q928, .inl (I .int, 200, .inl f941)), (q929, .inl (I .int, 200, .inl f2113)), (q930, .inl (I .int, 200, .inl f1992)), (q931, .inl (I .int, 200, .inl f944)), (q932, .inl (I .int, 200, .inl f1993)), (q933, .inl (I .int, 200, .inl f946)), (q924, .inl (I .int, 720, .inl f937))]) (cs' := 0) (sl' := 0) rfl rfl rfl ?_
            refine G_iastN 6 0 d_cX0_rename_41 rfl rfl (gB_in bg1990' (by decide) (by decide)) (fun f2137 hf2137 => ?_)
            refine G_ws (ws' := [(q923, .inr (5, [.ref q925, .ref q926, .ref q927, .ref q928, .ref q929, .ref q930, .ref q931, .ref q932, .ref q933, .int p934, .int p935, .int p936])), (q925, .inl (I .int, 40, .inl f938)), (q926, .inl (I .int, 40, .inl f939)), (q927, .inl (I .int, 40, .inl f940)), (q928, .inl (I .int, 200, .inl f941)), (q929, .inl (I .int, 200, .inl f2113)), (q930, .inl (I .int, 200, .inl f2137)), (q931, .inl (I .int, 200, .inl f944)), (q932, .inl (I .int, 200, .inl f1993)), (q933, .inl (I .int, 200, .inl f946)), (q924, .inl (I .int, 720, .inl f937))]) (cs' := 0) (sl' := 0) rfl rfl rfl ?_
            refine G_aload_n 1 d_cX0_rename_42 rfl ?_
            refine G_getf 0 7 d_cX0_rename_43 rfl (gk_X0 D I) (Nat.le_of_ble_eq_true rfl) w_1_178 rfl ?_
            refine G_iload_n 0 d_cX0_rename_46 rfl ?_
            refine G_aload_n 2 d_cX0_rename_47 rfl ?_
            refine G_aload_n 1 d_cX0_rename_48 rfl ?_
            refine G_getf 0 7 d_cX0_rename_49 rfl (gk_X0 D I) (Nat.le_of_ble_eq_true rfl) w_1_178 rfl ?_
            refine G_iload_n 0 d_cX0_rename_52 rfl ?_
            refine G_iald 8 0 d_cX0_rename_53 rfl rfl (gB_in bg1990' (by decide) (by decide)) (G_nam fun z2138 hz2138 => ?_)
            have bz2138 : gB z2138 (-2147483648) 2147483647 := by rw [hz2138]; exact bf1993 _
            refine G_callS (As := [.ref q924, .int z2138]) (wr := [(q923, .inr (5, [.ref q925, .ref q926, .ref q927, .ref q928, .ref q929, .ref q930, .ref q931, .ref q932, .ref q933, .int p934, .int p935, .int p936])), (q925, .inl (I .int, 40, .inl f938)), (q926, .inl (I .int, 40, .inl f939)), (q927, .inl (I .int, 40, .inl f940)), (q928, .inl (I .int, 200, .inl f941)), (q929, .inl (I .int, 200, .inl f2113)), (q930, .inl (I .int, 200, .inl f2137)), (q931, .inl (I .int, 200, .inl f944)), (q932, .inl (I .int, 200, .inl f1993)), (q933, .inl (I .int, 200, .inl f946))]) (gV_ok D I) (ct_955_Code_nameIn l hl0 D I q924 z2138 f937 ) d_cX0_rename_54 ⟨w_5_154, w_1_5, w_5_156, by decide, rfl, (Nat.le_of_ble_eq_true rfl), (Nat.le_of_ble_eq_true rfl)⟩ w_5_155 [10] [0, 1, 2, 3, 4, 5, 6, 7, 8, 9] rfl rfl rfl rfl (by decide) (Nat.le_of_ble_eq_true rfl) (Nat.le_of_ble_eq_true rfl) (Nat.le_of_ble_eq_true rfl) (fun r w hp => ?_) (fun _ _ _ z => z.elim)
            rcases hp with ⟨rfl, rfl, r2139⟩ | ⟨rfl, rfl, r2140, r2141⟩ | ⟨z2142, rfl, rfl, r2143, r2144, r2145⟩
            · have bz2138' : gB z2138 (-2147483648) (-1) := ⟨by omega, by omega⟩
              change G _ _ _ _ _ _ _ (.int z2138 :: _) _ _ _
              refine G_ws (ws' := [(q923, .inr (5, [.ref q925, .ref q926, .ref q927, .ref q928, .ref q929, .ref q930, .ref q931, .ref q932, .ref q933, .int p934, .int p935, .int p936])), (q925, .inl (I .int, 40, .inl f938)), (q926, .inl (I .int, 40, .inl f939)), (q927, .inl (I .int, 40, .inl f940)), (q928, .inl (I .int, 200, .inl f941)), (q929, .inl (I .int, 200, .inl f2113)), (q930, .inl (I .int, 200, .inl f2137)), (q931, .inl (I .int, 200, .inl f944)), (q932, .inl (I .int, 200, .inl f1993)), (q933, .inl (I .int, 200, .inl f946)), (q924, .inl (I .int, 720, .inl f937))]) (cs' := 0) (sl' := 0) rfl rfl rfl ?_
              refine G_iastN 8 0 d_cX0_rename_57 rfl rfl (gB_in bg1990' (by decide) (by decide)) (fun f2146 hf2146 => ?_)
              refine G_ws (ws' := [(q923, .inr (5, [.ref q925, .ref q926, .ref q927, .ref q928, .ref q929, .ref q930, .ref q931, .ref q932, .ref q933, .int p934, .int p935, .int p936])), (q925, .inl (I .int, 40, .inl f938)), (q926, .inl (I .int, 40, .inl f939)), (q927, .inl (I .int, 40, .inl f940)), (q928, .inl (I .int, 200, .inl f941)), (q929, .inl (I .int, 200, .inl f2113)), (q930, .inl (I .int, 200, .inl f2137)), (q931, .inl (I .int, 200, .inl f944)), (q932, .inl (I .int, 200, .inl f2146)), (q933, .inl (I .int, 200, .inl f946)), (q924, .inl (I .int, 720, .inl f937))]) (cs' := 0) (sl' := 0) rfl rfl rfl ?_
              obtain ⟨z2147, hz2147⟩ : ∃ z : Int32, z = g1990 + Int32.ofInt 1 := ⟨_, rfl⟩
              have ez2147 : z2147.toInt = g1990.toInt + 1 := gI_inc hz2147 (by decide) bg1990' (by decide) (by decide)
              have bz2147 : gB z2147 1 200 := ⟨by omega, by omega⟩
              refine G_iinc (L' := [(2, .int z2147), (0, .ref q923), (1, .ref q924)]) z2147 0 d_cX0_rename_58 rfl hz2147.symm (Nat.le_of_ble_eq_true rfl) rfl ?_
              refine G_goto 2 d_cX0_rename_61 (by decide +kernel) ?_
              refine G_sub (ws' := [(q923, .inr (5, [.ref q925, .ref q926, .ref q927, .ref q928, .ref q929, .ref q930, .ref q931, .ref q932, .ref q933, .int p934, .int p935, .int p936])), (q924, .inl (I .int, 720, .inl f937)), (q925, .inl (I .int, 40, .inl f938)), (q926, .inl (I .int, 40, .inl f939)), (q927, .inl (I .int, 40, .inl f940)), (q928, .inl (I .int, 200, .inl f941)), (q929, .inl (I .int, 200, .inl f2113)), (q930, .inl (I .int, 200, .inl f2137)), (q931, .inl (I .int, 200, .inl f944)), (q932, .inl (I .int, 200, .inl f2146)), (q933, .inl (I .int, 200, .inl f946))]) [0, 10, 1, 2, 3, 4, 5, 6, 7, 8, 9] rfl rfl ?_
              exact ih2_1993 z2147 f2113 f2137 f2146 (gB_w bz2147 (by decide) (by decide)) (gF_any f2113) (gF_any f2137) (gF_any f2146) (by omega)
            · have bz2138' : gB z2138 0 2147483647 := ⟨by omega, by omega⟩
              have bz2138'' : gB z2138 720 2147483647 := ⟨by omega, by omega⟩
              change G _ _ _ _ _ _ _ (.int z2138 :: _) _ _ _
              refine G_ws (ws' := [(q923, .inr (5, [.ref q925, .ref q926, .ref q927, .ref q928, .ref q929, .ref q930, .ref q931, .ref q932, .ref q933, .int p934, .int p935, .int p936])), (q925, .inl (I .int, 40, .inl f938)), (q926, .inl (I .int, 40, .inl f939)), (q927, .inl (I .int, 40, .inl f940)), (q928, .inl (I .int, 200, .inl f941)), (q929, .inl (I .int, 200, .inl f2113)), (q930, .inl (I .int, 200, .inl f2137)), (q931, .inl (I .int, 200, .inl f944)), (q932, .inl (I .int, 200, .inl f1993)), (q933, .inl (I .int, 200, .inl f946)), (q924, .inl (I .int, 720, .inl f937))]) (cs' := 0) (sl' := 0) rfl rfl rfl ?_
              refine G_iastN 8 0 d_cX0_rename_57 rfl rfl (gB_in bg1990' (by decide) (by decide)) (fun f2148 hf2148 => ?_)
              refine G_ws (ws' := [(q923, .inr (5, [.ref q925, .ref q926, .ref q927, .ref q928, .ref q929, .ref q930, .ref q931, .ref q932, .ref q933, .int p934, .int p935, .int p936])), (q925, .inl (I .int, 40, .inl f938)), (q926, .inl (I .int, 40, .inl f939)), (q927, .inl (I .int, 40, .inl f940)), (q928, .inl (I .int, 200, .inl f941)), (q929, .inl (I .int, 200, .inl f2113)), (q930, .inl (I .int, 200, .inl f2137)), (q931, .inl (I .int, 200, .inl f944)), (q932, .inl (I .int, 200, .inl f2148)), (q933, .inl (I .int, 200, .inl f946)), (q924, .inl (I .int, 720, .inl f937))]) (cs' := 0) (sl' := 0) rfl rfl rfl ?_
              obtain ⟨z2149, hz2149⟩ : ∃ z : Int32, z = g1990 + Int32.ofInt 1 := ⟨_, rfl⟩
              have ez2149 : z2149.toInt = g1990.toInt + 1 := gI_inc hz2149 (by decide) bg1990' (by decide) (by decide)
              have bz2149 : gB z2149 1 200 := ⟨by omega, by omega⟩
              refine G_iinc (L' := [(2, .int z2149), (0, .ref q923), (1, .ref q924)]) z2149 0 d_cX0_rename_58 rfl hz2149.symm (Nat.le_of_ble_eq_true rfl) rfl ?_
              refine G_goto 2 d_cX0_rename_61 (by decide +kernel) ?_
              refine G_sub (ws' := [(q923, .inr (5, [.ref q925, .ref q926, .ref q927, .ref q928, .ref q929, .ref q930, .ref q931, .ref q932, .ref q933, .int p934, .int p935, .int p936])), (q924, .inl (I .int, 720, .inl f937)), (q925, .inl (I .int, 40, .inl f938)), (q926, .inl (I .int, 40, .inl f939)), (q927, .inl (I .int, 40, .inl f940)), (q928, .inl (I .int, 200, .inl f941)), (q929, .inl (I .int, 200, .inl f2113)), (q930, .inl (I .int, 200, .inl f2137)), (q931, .inl (I .int, 200, .inl f944)), (q932, .inl (I .int, 200, .inl f2148)), (q933, .inl (I .int, 200, .inl f946))]) [0, 10, 1, 2, 3, 4, 5, 6, 7, 8, 9] rfl rfl ?_
              exact ih2_1993 z2149 f2113 f2137 f2148 (gB_w bz2149 (by decide) (by decide)) (gF_any f2113) (gF_any f2137) (gF_any f2148) (by omega)
            · have bz2138' : gB z2138 0 2147483647 := ⟨by omega, by omega⟩
              have bz2138'' : gB z2138 0 719 := ⟨by omega, by omega⟩
              change G _ _ _ _ _ _ _ (.int z2142 :: _) _ _ _
              refine G_ws (ws' := [(q923, .inr (5, [.ref q925, .ref q926, .ref q927, .ref q928, .ref q929, .ref q930, .ref q931, .ref q932, .ref q933, .int p934, .int p935, .int p936])), (q925, .inl (I .int, 40, .inl f938)), (q926, .inl (I .int, 40, .inl f939)), (q927, .inl (I .int, 40, .inl f940)), (q928, .inl (I .int, 200, .inl f941)), (q929, .inl (I .int, 200, .inl f2113)), (q930, .inl (I .int, 200, .inl f2137)), (q931, .inl (I .int, 200, .inl f944)), (q932, .inl (I .int, 200, .inl f1993)), (q933, .inl (I .int, 200, .inl f946)), (q924, .inl (I .int, 720, .inl f937))]) (cs' := 0) (sl' := 0) rfl rfl rfl ?_
              refine G_iastN 8 0 d_cX0_rename_57 rfl rfl (gB_in bg1990' (by decide) (by decide)) (fun f2150 hf2150 => ?_)
              refine G_ws (ws' := [(q923, .inr (5, [.ref q925, .ref q926, .ref q927, .ref q928, .ref q929, .ref q930, .ref q931, .ref q932, .ref q933, .int p934, .int p935, .int p936])), (q925, .inl (I .int, 40, .inl f938)), (q926, .inl (I .int, 40, .inl f939)), (q927, .inl (I .int, 40, .inl f940)), (q928, .inl (I .int, 200, .inl f941)), (q929, .inl (I .int, 200, .inl f2113)), (q930, .inl (I .int, 200, .inl f2137)), (q931, .inl (I .int, 200, .inl f944)), (q932, .inl (I .int, 200, .inl f2150)), (q933, .inl (I .int, 200, .inl f946)), (q924, .inl (I .int, 720, .inl f937))]) (cs' := 0) (sl' := 0) rfl rfl rfl ?_
              obtain ⟨z2151, hz2151⟩ : ∃ z : Int32, z = g1990 + Int32.ofInt 1 := ⟨_, rfl⟩
              have ez2151 : z2151.toInt = g1990.toInt + 1 := gI_inc hz2151 (by decide) bg1990' (by decide) (by decide)
              have bz2151 : gB z2151 1 200 := ⟨by omega, by omega⟩
              refine G_iinc (L' := [(2, .int z2151), (0, .ref q923), (1, .ref q924)]) z2151 0 d_cX0_rename_58 rfl hz2151.symm (Nat.le_of_ble_eq_true rfl) rfl ?_
              refine G_goto 2 d_cX0_rename_61 (by decide +kernel) ?_
              refine G_sub (ws' := [(q923, .inr (5, [.ref q925, .ref q926, .ref q927, .ref q928, .ref q929, .ref q930, .ref q931, .ref q932, .ref q933, .int p934, .int p935, .int p936])), (q924, .inl (I .int, 720, .inl f937)), (q925, .inl (I .int, 40, .inl f938)), (q926, .inl (I .int, 40, .inl f939)), (q927, .inl (I .int, 40, .inl f940)), (q928, .inl (I .int, 200, .inl f941)), (q929, .inl (I .int, 200, .inl f2113)), (q930, .inl (I .int, 200, .inl f2137)), (q931, .inl (I .int, 200, .inl f944)), (q932, .inl (I .int, 200, .inl f2150)), (q933, .inl (I .int, 200, .inl f946))]) [0, 10, 1, 2, 3, 4, 5, 6, 7, 8, 9] rfl rfl ?_
              exact ih2_1993 z2151 f2113 f2137 f2150 (gB_w bz2151 (by decide) (by decide)) (gF_any f2113) (gF_any f2137) (gF_any f2150) (by omega)
          · have bz2114' : gB z2114 0 2147483647 := ⟨by omega, by omega⟩
            have bz2114'' : gB z2114 0 719 := ⟨by omega, by omega⟩
            change G _ _ _ _ _ _ _ (.int z2118 :: _) _ _ _
            refine G_ws (ws' := [(q923, .inr (5, [.ref q925, .ref q926, .ref q927, .ref q928, .ref q929, .ref q930, .ref q931, .ref q932, .ref q933, .int p934, .int p935, .int p936])), (q925, .inl (I .int, 40, .inl f938)), (q926, .inl (I .int, 40, .inl f939)), (q927, .inl (I .int, 40, .inl f940)), (q928, .inl (I .int, 200, .inl f941)), (q929, .inl (I .int, 200, .inl f2113)), (q930, .inl (I .int, 200, .inl f1992)), (q931, .inl (I .int, 200, .inl f944)), (q932, .inl (I .int, 200, .inl f1993)), (q933, .inl (I .int, 200, .inl f946)), (q924, .inl (I .int, 720, .inl f937))]) (cs' := 0) (sl' := 0) rfl rfl rfl ?_
            refine G_iastN 6 0 d_cX0_rename_41 rfl rfl (gB_in bg1990' (by decide) (by decide)) (fun f2152 hf2152 => ?_)
            refine G_ws (ws' := [(q923, .inr (5, [.ref q925, .ref q926, .ref q927, .ref q928, .ref q929, .ref q930, .ref q931, .ref q932, .ref q933, .int p934, .int p935, .int p936])), (q925, .inl (I .int, 40, .inl f938)), (q926, .inl (I .int, 40, .inl f939)), (q927, .inl (I .int, 40, .inl f940)), (q928, .inl (I .int, 200, .inl f941)), (q929, .inl (I .int, 200, .inl f2113)), (q930, .inl (I .int, 200, .inl f2152)), (q931, .inl (I .int, 200, .inl f944)), (q932, .inl (I .int, 200, .inl f1993)), (q933, .inl (I .int, 200, .inl f946)), (q924, .inl (I .int, 720, .inl f937))]) (cs' := 0) (sl' := 0) rfl rfl rfl ?_
            refine G_aload_n 1 d_cX0_rename_42 rfl ?_
            refine G_getf 0 7 d_cX0_rename_43 rfl (gk_X0 D I) (Nat.le_of_ble_eq_true rfl) w_1_178 rfl ?_
            refine G_iload_n 0 d_cX0_rename_46 rfl ?_
            refine G_aload_n 2 d_cX0_rename_47 rfl ?_
            refine G_aload_n 1 d_cX0_rename_48 rfl ?_
            refine G_getf 0 7 d_cX0_rename_49 rfl (gk_X0 D I) (Nat.le_of_ble_eq_true rfl) w_1_178 rfl ?_
            refine G_iload_n 0 d_cX0_rename_52 rfl ?_
            refine G_iald 8 0 d_cX0_rename_53 rfl rfl (gB_in bg1990' (by decide) (by decide)) (G_nam fun z2153 hz2153 => ?_)
            have bz2153 : gB z2153 (-2147483648) 2147483647 := by rw [hz2153]; exact bf1993 _
            refine G_callS (As := [.ref q924, .int z2153]) (wr := [(q923, .inr (5, [.ref q925, .ref q926, .ref q927, .ref q928, .ref q929, .ref q930, .ref q931, .ref q932, .ref q933, .int p934, .int p935, .int p936])), (q925, .inl (I .int, 40, .inl f938)), (q926, .inl (I .int, 40, .inl f939)), (q927, .inl (I .int, 40, .inl f940)), (q928, .inl (I .int, 200, .inl f941)), (q929, .inl (I .int, 200, .inl f2113)), (q930, .inl (I .int, 200, .inl f2152)), (q931, .inl (I .int, 200, .inl f944)), (q932, .inl (I .int, 200, .inl f1993)), (q933, .inl (I .int, 200, .inl f946))]) (gV_ok D I) (ct_955_Code_nameIn l hl0 D I q924 z2153 f937 ) d_cX0_rename_54 ⟨w_5_154, w_1_5, w_5_156, by decide, rfl, (Nat.le_of_ble_eq_true rfl), (Nat.le_of_ble_eq_true rfl)⟩ w_5_155 [10] [0, 1, 2, 3, 4, 5, 6, 7, 8, 9] rfl rfl rfl rfl (by decide) (Nat.le_of_ble_eq_true rfl) (Nat.le_of_ble_eq_true rfl) (Nat.le_of_ble_eq_true rfl) (fun r w hp => ?_) (fun _ _ _ z => z.elim)
            rcases hp with ⟨rfl, rfl, r2154⟩ | ⟨rfl, rfl, r2155, r2156⟩ | ⟨z2157, rfl, rfl, r2158, r2159, r2160⟩
            · have bz2153' : gB z2153 (-2147483648) (-1) := ⟨by omega, by omega⟩
              change G _ _ _ _ _ _ _ (.int z2153 :: _) _ _ _
              refine G_ws (ws' := [(q923, .inr (5, [.ref q925, .ref q926, .ref q927, .ref q928, .ref q929, .ref q930, .ref q931, .ref q932, .ref q933, .int p934, .int p935, .int p936])), (q925, .inl (I .int, 40, .inl f938)), (q926, .inl (I .int, 40, .inl f939)), (q927, .inl (I .int, 40, .inl f940)), (q928, .inl (I .int, 200, .inl f941)), (q929, .inl (I .int, 200, .inl f2113)), (q930, .inl (I .int, 200, .inl f2152)), (q931, .inl (I .int, 200, .inl f944)), (q932, .inl (I .int, 200, .inl f1993)), (q933, .inl (I .int, 200, .inl f946)), (q924, .inl (I .int, 720, .inl f937))]) (cs' := 0) (sl' := 0) rfl rfl rfl ?_
              refine G_iastN 8 0 d_cX0_rename_57 rfl rfl (gB_in bg1990' (by decide) (by decide)) (fun f2161 hf2161 => ?_)
              refine G_ws (ws' := [(q923, .inr (5, [.ref q925, .ref q926, .ref q927, .ref q928, .ref q929, .ref q930, .ref q931, .ref q932, .ref q933, .int p934, .int p935, .int p936])), (q925, .inl (I .int, 40, .inl f938)), (q926, .inl (I .int, 40, .inl f939)), (q927, .inl (I .int, 40, .inl f940)), (q928, .inl (I .int, 200, .inl f941)), (q929, .inl (I .int, 200, .inl f2113)), (q930, .inl (I .int, 200, .inl f2152)), (q931, .inl (I .int, 200, .inl f944)), (q932, .inl (I .int, 200, .inl f2161)), (q933, .inl (I .int, 200, .inl f946)), (q924, .inl (I .int, 720, .inl f937))]) (cs' := 0) (sl' := 0) rfl rfl rfl ?_
              obtain ⟨z2162, hz2162⟩ : ∃ z : Int32, z = g1990 + Int32.ofInt 1 := ⟨_, rfl⟩
              have ez2162 : z2162.toInt = g1990.toInt + 1 := gI_inc hz2162 (by decide) bg1990' (by decide) (by decide)
              have bz2162 : gB z2162 1 200 := ⟨by omega, by omega⟩
              refine G_iinc (L' := [(2, .int z2162), (0, .ref q923), (1, .ref q924)]) z2162 0 d_cX0_rename_58 rfl hz2162.symm (Nat.le_of_ble_eq_true rfl) rfl ?_
              refine G_goto 2 d_cX0_rename_61 (by decide +kernel) ?_
              refine G_sub (ws' := [(q923, .inr (5, [.ref q925, .ref q926, .ref q927, .ref q928, .ref q929, .ref q930, .ref q931, .ref q932, .ref q933, .int p934, .int p935, .int p936])), (q924, .inl (I .int, 720, .inl f937)), (q925, .inl (I .int, 40, .inl f938)), (q926, .inl (I .int, 40, .inl f939)), (q927, .inl (I .int, 40, .inl f940)), (q928, .inl (I .int, 200, .inl f941)), (q929, .inl (I .int, 200, .inl f2113)), (q930, .inl (I .int, 200, .inl f2152)), (q931, .inl (I .int, 200, .inl f944)), (q932, .inl (I .int, 200, .inl f2161)), (q933, .inl (I .int, 200, .inl f946))]) [0, 10, 1, 2, 3, 4, 5, 6, 7, 8, 9] rfl rfl ?_
              exact ih2_1993 z2162 f2113 f2152 f2161 (gB_w bz2162 (by decide) (by decide)) (gF_any f2113) (gF_any f2152) (gF_any f2161) (by omega)
            · have bz2153' : gB z2153 0 2147483647 := ⟨by omega, by omega⟩
              have bz2153'' : gB z2153 720 2147483647 := ⟨by omega, by omega⟩
              change G _ _ _ _ _ _ _ (.int z2153 :: _) _ _ _
              refine G_ws (ws' := [(q923, .inr (5, [.ref q925, .ref q926, .ref q927, .ref q928, .ref q929, .ref q930, .ref q931, .ref q932, .ref q933, .int p934, .int p935, .int p936])), (q925, .inl (I .int, 40, .inl f938)), (q926, .inl (I .int, 40, .inl f939)), (q927, .inl (I .int, 40, .inl f940)), (q928, .inl (I .int, 200, .inl f941)), (q929, .inl (I .int, 200, .inl f2113)), (q930, .inl (I .int, 200, .inl f2152)), (q931, .inl (I .int, 200, .inl f944)), (q932, .inl (I .int, 200, .inl f1993)), (q933, .inl (I .int, 200, .inl f946)), (q924, .inl (I .int, 720, .inl f937))]) (cs' := 0) (sl' := 0) rfl rfl rfl ?_
              refine G_iastN 8 0 d_cX0_rename_57 rfl rfl (gB_in bg1990' (by decide) (by decide)) (fun f2163 hf2163 => ?_)
              refine G_ws (ws' := [(q923, .inr (5, [.ref q925, .ref q926, .ref q927, .ref q928, .ref q929, .ref q930, .ref q931, .ref q932, .ref q933, .int p934, .int p935, .int p936])), (q925, .inl (I .int, 40, .inl f938)), (q926, .inl (I .int, 40, .inl f939)), (q927, .inl (I .int, 40, .inl f940)), (q928, .inl (I .int, 200, .inl f941)), (q929, .inl (I .int, 200, .inl f2113)), (q930, .inl (I .int, 200, .inl f2152)), (q931, .inl (I .int, 200, .inl f944)), (q932, .inl (I .int, 200, .inl f2163)), (q933, .inl (I .int, 200, .inl f946)), (q924, .inl (I .int, 720, .inl f937))]) (cs' := 0) (sl' := 0) rfl rfl rfl ?_
              obtain ⟨z2164, hz2164⟩ : ∃ z : Int32, z = g1990 + Int32.ofInt 1 := ⟨_, rfl⟩
              have ez2164 : z2164.toInt = g1990.toInt + 1 := gI_inc hz2164 (by decide) bg1990' (by decide) (by decide)
              have bz2164 : gB z2164 1 200 := ⟨by omega, by omega⟩
              refine G_iinc (L' := [(2, .int z2164), (0, .ref q923), (1, .ref q924)]) z2164 0 d_cX0_rename_58 rfl hz2164.symm (Nat.le_of_ble_eq_true rfl) rfl ?_
              refine G_goto 2 d_cX0_rename_61 (by decide +kernel) ?_
              refine G_sub (ws' := [(q923, .inr (5, [.ref q925, .ref q926, .ref q927, .ref q928, .ref q929, .ref q930, .ref q931, .ref q932, .ref q933, .int p934, .int p935, .int p936])), (q924, .inl (I .int, 720, .inl f937)), (q925, .inl (I .int, 40, .inl f938)), (q926, .inl (I .int, 40, .inl f939)), (q927, .inl (I .int, 40, .inl f940)), (q928, .inl (I .int, 200, .inl f941)), (q929, .inl (I .int, 200, .inl f2113)), (q930, .inl (I .int, 200, .inl f2152)), (q931, .inl (I .int, 200, .inl f944)), (q932, .inl (I .int, 200, .inl f2163)), (q933, .inl (I .int, 200, .inl f946))]) [0, 10, 1, 2, 3, 4, 5, 6, 7, 8, 9] rfl rfl ?_
              exact ih2_1993 z2164 f2113 f2152 f2163 (gB_w bz2164 (by decide) (by decide)) (gF_any f2113) (gF_any f2152) (gF_any f2163) (by omega)
            · have bz2153' : gB z2153 0 2147483647 := ⟨by omega, by omega⟩
              have bz2153'' : gB z2153 0 719 := ⟨by omega, by omega⟩
              change G _ _ _ _ _ _ _ (.int z2157 :: _) _ _ _
              refine G_ws (ws' := [(q923, .inr (5, [.ref q925, .ref q926, .ref q927, .ref q928, .ref q929, .ref q930, .ref q931, .ref q932, .ref q933, .int p934, .int p935, .int p936])), (q925, .inl (I .int, 40, .inl f938)), (q926, .inl (I .int, 40, .inl f939)), (q927, .inl (I .int, 40, .inl f940)), (q928, .inl (I .int, 200, .inl f941)), (q929, .inl (I .int, 200, .inl f2113)), (q930, .inl (I .int, 200, .inl f2152)), (q931, .inl (I .int, 200, .inl f944)), (q932, .inl (I .int, 200, .inl f1993)), (q933, .inl (I .int, 200, .inl f946)), (q924, .inl (I .int, 720, .inl f937))]) (cs' := 0) (sl' := 0) rfl rfl rfl ?_
              refine G_iastN 8 0 d_cX0_rename_57 rfl rfl (gB_in bg1990' (by decide) (by decide)) (fun f2165 hf2165 => ?_)
              refine G_ws (ws' := [(q923, .inr (5, [.ref q925, .ref q926, .ref q927, .ref q928, .ref q929, .ref q930, .ref q931, .ref q932, .ref q933, .int p934, .int p935, .int p936])), (q925, .inl (I .int, 40, .inl f938)), (q926, .inl (I .int, 40, .inl f939)), (q927, .inl (I .int, 40, .inl f940)), (q928, .inl (I .int, 200, .inl f941)), (q929, .inl (I .int, 200, .inl f2113)), (q930, .inl (I .int, 200, .inl f2152)), (q931, .inl (I .int, 200, .inl f944)), (q932, .inl (I .int, 200, .inl f2165)), (q933, .inl (I .int, 200, .inl f946)), (q924, .inl (I .int, 720, .inl f937))]) (cs' := 0) (sl' := 0) rfl rfl rfl ?_
              obtain ⟨z2166, hz2166⟩ : ∃ z : Int32, z = g1990 + Int32.ofInt 1 := ⟨_, rfl⟩
              have ez2166 : z2166.toInt = g1990.toInt + 1 := gI_inc hz2166 (by decide) bg1990' (by decide) (by decide)
              have bz2166 : gB z2166 1 200 := ⟨by omega, by omega⟩
              refine G_iinc (L' := [(2, .int z2166), (0, .ref q923), (1, .ref q924)]) z2166 0 d_cX0_rename_58 rfl hz2166.symm (Nat.le_of_ble_eq_true rfl) rfl ?_
              refine G_goto 2 d_cX0_rename_61 (by decide +kernel) ?_
              refine G_sub (ws' := [(q923, .inr (5, [.ref q925, .ref q926, .ref q927, .ref q928, .ref q929, .ref q930, .ref q931, .ref q932, .ref q933, .int p934, .int p935, .int p936])), (q924, .inl (I .int, 720, .inl f937)), (q925, .inl (I .int, 40, .inl f938)), (q926, .inl (I .int, 40, .inl f939)), (q927, .inl (I .int, 40, .inl f940)), (q928, .inl (I .int, 200, .inl f941)), (q929, .inl (I .int, 200, .inl f2113)), (q930, .inl (I .int, 200, .inl f2152)), (q931, .inl (I .int, 200, .inl f944)), (q932, .inl (I .int, 200, .inl f2165)), (q933, .inl (I .int, 200, .inl f946))]) [0, 10, 1, 2, 3, 4, 5, 6, 7, 8, 9] rfl rfl ?_
              exact ih2_1993 z2166 f2113 f2152 f2165 (gB_w bz2166 (by decide) (by decide)) (gF_any f2113) (gF_any f2152) (gF_any f2165) (by omega)
  exact hlp2_1993 (((201 : Int) - 0).toNat + 1) 0 f942 f943 f945 (gB_w (gBl (show Int32.toInt 0 = 0 by decide)) (by decide) (by decide)) (gF_any f942) (gF_any f943) (gF_any f945) (Nat.lt_succ_self _)
