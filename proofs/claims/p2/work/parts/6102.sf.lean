abbrev ky_696_Code_clear : gKey := (cX0_clear, 1, yX0_clear.cls, none, [], yX0_clear.name, fun _ _ => True)
abbrev po_696_Code_clear (I : FieldType → ClassId) (q674 : Nat) (q675 : Nat) (q676 : Nat) (q677 : Nat) (q678 : Nat) (q679 : Nat) (q680 : Nat) (q681 : Nat) (q682 : Nat) (q683 : Nat) (p684 : Int32) (p685 : Int32) (p686 : Int32) (f687 : Nat → Int32) (f688 : Nat → Int32) (f689 : Nat → Int32) (f690 : Nat → Int32) (f691 : Nat → Int32) (f692 : Nat → Int32) (f693 : Nat → Int32) (f694 : Nat → Int32) (f695 : Nat → Int32) : Option Value → va_W → Prop := fun r w => ∃ (o697 : Int32) (o698 : Int32) (o699 : Int32), r = none ∧ w = [(q674, .inr (5, [.ref q675, .ref q676, .ref q677, .ref q678, .ref q679, .ref q680, .ref q681, .ref q682, .ref q683, .int o697, .int o698, .int o699])), (q675, .inl (I .int, 40, .inl f687)), (q676, .inl (I .int, 40, .inl f688)), (q677, .inl (I .int, 40, .inl f689)), (q678, .inl (I .int, 200, .inl f690)), (q679, .inl (I .int, 200, .inl f691)), (q680, .inl (I .int, 200, .inl f692)), (q681, .inl (I .int, 200, .inl f693)), (q682, .inl (I .int, 200, .inl f694)), (q683, .inl (I .int, 200, .inl f695))] ∧ gB o697 0 0 ∧ gB o698 0 0 ∧ gB o699 0 0
set_option maxRecDepth 100000 in
set_option maxHeartbeats 4000000 in
theorem ct_696_Code_clear (l : Launch) (hl0 : l.stackTraces = false) (D : va_G) (I : FieldType → ClassId) (q674 : Nat) (q675 : Nat) (q676 : Nat) (q677 : Nat) (q678 : Nat) (q679 : Nat) (q680 : Nat) (q681 : Nat) (q682 : Nat) (q683 : Nat) (p684 : Int32) (p685 : Int32) (p686 : Int32) (f687 : Nat → Int32) (f688 : Nat → Int32) (f689 : Nat → Int32) (f690 : Nat → Int32) (f691 : Nat → Int32) (f692 : Nat → Int32) (f693 : Nat → Int32) (f694 : Nat → Int32) (f695 : Nat → Int32) (bp684 : gB p684 0 40) (bp685 : gB p685 0 200) (bp686 : gB p686 0 1) (bf687 : gF f687 0 200) (bf690 : gF f690 0 21) : Ct (gV D I) l yX0_clear cX0_clear 1 none 0 0 0 0 [.ref q674] [(q674, .inr (5, [.ref q675, .ref q676, .ref q677, .ref q678, .ref q679, .ref q680, .ref q681, .ref q682, .ref q683, .int p684, .int p685, .int p686])), (q675, .inl (I .int, 40, .inl f687)), (q676, .inl (I .int, 40, .inl f688)), (q677, .inl (I .int, 40, .inl f689)), (q678, .inl (I .int, 200, .inl f690)), (q679, .inl (I .int, 200, .inl f691)), (q680, .inl (I .int, 200, .inl f692)), (q681, .inl (I .int, 200, .inl f693)), (q682, .inl (I .int, 200, .inl f694)), (q683, .inl (I .int, 200, .inl f695))] (po_696_Code_clear I q674 q675 q676 q677 q678 q679 q680 q681 q682 q683 p684 p685 p686 f687 f688 f689 f690 f691 f692 f693 f694 f695) gN := by
  refine Ct_of hl0 (by decide) (Nat.le_of_ble_eq_true rfl) ?_
  refine G_aload_n 0 d_cX0_clear_0 rfl ?_
  refine G_iconst 0 d_cX0_clear_1 (by decide +kernel) ?_
  refine G_putf (ws' := [(q674, .inr (5, [.ref q675, .ref q676, .ref q677, .ref q678, .ref q679, .ref q680, .ref q681, .ref q682, .ref q683, .int 0, .int p685, .int p686])), (q675, .inl (I .int, 40, .inl f687)), (q676, .inl (I .int, 40, .inl f688)), (q677, .inl (I .int, 40, .inl f689)), (q678, .inl (I .int, 200, .inl f690)), (q679, .inl (I .int, 200, .inl f691)), (q680, .inl (I .int, 200, .inl f692)), (q681, .inl (I .int, 200, .inl f693)), (q682, .inl (I .int, 200, .inl f694)), (q683, .inl (I .int, 200, .inl f695))]) 0 9 d_cX0_clear_2 rfl (gk_X0 D I) (Nat.le_of_ble_eq_true rfl) w_1_187 rfl rfl rfl (Nat.le_of_ble_eq_true rfl) rfl ?_
  refine G_aload_n 0 d_cX0_clear_5 rfl ?_
  refine G_iconst 0 d_cX0_clear_6 (by decide +kernel) ?_
  refine G_putf (ws' := [(q674, .inr (5, [.ref q675, .ref q676, .ref q677, .ref q678, .ref q679, .ref q680, .ref q681, .ref q682, .ref q683, .int 0, .int 0, .int p686])), (q675, .inl (I .int, 40, .inl f687)), (q676, .inl (I .int, 40, .inl f688)), (q677, .inl (I .int, 40, .inl f689)), (q678, .inl (I .int, 200, .inl f690)), (q679, .inl (I .int, 200, .inl f691)), (q680, .inl (I .int, 200, .inl f692)), (q681, .inl (I .int, 200, .inl f693)), (q682, .inl (I .int, 200, .inl f694)), (q683, .inl (I .int, 200, .inl f695))]) 0 10 d_cX0_clear_7 rfl (gk_X0 D I) (Nat.le_of_ble_eq_true rfl) w_1_197 rfl rfl rfl (Nat.le_of_ble_eq_true rfl) rfl ?_
  refine G_aload_n 0 d_cX0_clear_10 rfl ?_
  refine G_iconst 0 d_cX0_clear_11 (by decide +kernel) ?_
  refine G_putf (ws' := [(q674, .inr (5, [.ref q675, .ref q676, .ref q677, .ref q678, .ref q679, .ref q680, .ref q681, .ref q682, .ref q683, .int 0, .int 0, .int 0])), (q675, .inl (I .int, 40, .inl f687)), (q676, .inl (I .int, 40, .inl f688)), (q677, .inl (I .int, 40, .inl f689)), (q678, .inl (I .int, 200, .inl f690)), (q679, .inl (I .int, 200, .inl f691)), (q680, .inl (I .int, 200, .inl f692)), (q681, .inl (I .int, 200, .inl f693)), (q682, .inl (I .int, 200, .inl f694)), (q683, .inl (I .int, 200, .inl f695))]) 0 11 d_cX0_clear_12 rfl (gk_X0 D I) (Nat.le_of_ble_eq_true rfl) w_1_200 rfl rfl rfl (Nat.le_of_ble_eq_true rfl) rfl ?_
  exact G_vret d_cX0_clear_15 rfl (Nat.le_of_ble_eq_true rfl) (Nat.le_of_ble_eq_true rfl) ⟨0, 0, 0, rfl, rfl, (gBl (show Int32.toInt 0 = 0 by decide)), (gBl (show Int32.toInt 0 = 0 by decide)), (gBl (show Int32.toInt 0 = 0 by decide))⟩
abbrev ky_722_Code_rows : gKey := (cX0_rows, 1, yX0_rows.cls, (some FieldType.int), [], yX0_rows.name, fun _ _ => True)
abbrev po_722_Code_rows (I : FieldType → ClassId) (q700 : Nat) (q701 : Nat) (q702 : Nat) (q703 : Nat) (q704 : Nat) (q705 : Nat) (q706 : Nat) (q707 : Nat) (q708 : Nat) (q709 : Nat) (p710 : Int32) (p711 : Int32) (p712 : Int32) (f713 : Nat → Int32) (f714 : Nat → Int32) (f715 : Nat → Int32) (f716 : Nat → Int32) (f717 : Nat → Int32) (f718 : Nat → Int32) (f719 : Nat → Int32) (f720 : Nat → Int32) (f721 : Nat → Int32) : Option Value → va_W → Prop := fun r w => ∃ (o724 : Int32), r = some (.int o724) ∧ w = [(q700, .inr (5, [.ref q701, .ref q702, .ref q703, .ref q704, .ref q705, .ref q706, .ref q707, .ref q708, .ref q709, .int p710, .int p711, .int p712])), (q701, .inl (I .int, 40, .inl f713)), (q702, .inl (I .int, 40, .inl f714)), (q703, .inl (I .int, 40, .inl f715)), (q704, .inl (I .int, 200, .inl f716)), (q705, .inl (I .int, 200, .inl f717)), (q706, .inl (I .int, 200, .inl f718)), (q707, .inl (I .int, 200, .inl f719)), (q708, .inl (I .int, 200, .inl f720)), (q709, .inl (I .int, 200, .inl f721))] ∧ gB o724 (-40) 200
set_option maxRecDepth 100000 in
set_option maxHeartbeats 4000000 in
theorem ct_722_Code_rows (l : Launch) (hl0 : l.stackTraces = false) (D : va_G) (I : FieldType → ClassId) (q700 : Nat) (q701 : Nat) (q702 : Nat) (q703 : Nat) (q704 : Nat) (q705 : Nat) (q706 : Nat) (q707 : Nat) (q708 : Nat) (q709 : Nat) (p710 : Int32) (p711 : Int32) (p712 : Int32) (f713 : Nat → Int32) (f714 : Nat → Int32) (f715 : Nat → Int32) (f716 : Nat → Int32) (f717 : Nat → Int32) (f718 : Nat → Int32) (f719 : Nat → Int32) (f720 : Nat → Int32) (f721 : Nat → Int32) (bp710 : gB p710 0 40) (bp711 : gB p711 0 200) (bp712 : gB p712 0 1) (bf713 : gF f713 0 200) (bf716 : gF f716 0 21) : Ct (gV D I) l yX0_rows cX0_rows 1 (some FieldType.int) 0 0 0 0 [.ref q700] [(q700, .inr (5, [.ref q701, .ref q702, .ref q703, .ref q704, .ref q705, .ref q706, .ref q707, .ref q708, .ref q709, .int p710, .int p711, .int p712])), (q701, .inl (I .int, 40, .inl f713)), (q702, .inl (I .int, 40, .inl f714)), (q703, .inl (I .int, 40, .inl f715)), (q704, .inl (I .int, 200, .inl f716)), (q705, .inl (I .int, 200, .inl f717)), (q706, .inl (I .int, 200, .inl f718)), (q707, .inl (I .int, 200, .inl f719)), (q708, .inl (I .int, 200, .inl f720)), (q709, .inl (I .int, 200, .inl f721))] (po_722_Code_rows I q700 q701 q702 q703 q704 q705 q706 q707 q708 q709 p710 p711 p712 f713 f714 f715 f716 f717 f718 f719 f720 f721) gN := by
  refine Ct_of hl0 (by decide) (Nat.le_of_ble_eq_true rfl) ?_
  refine G_aload_n 0 d_cX0_rows_0 rfl ?_
  refine G_getf 0 10 d_cX0_rows_1 rfl (gk_X0 D I) (Nat.le_of_ble_eq_true rfl) w_1_197 rfl ?_
  refine G_aload_n 0 d_cX0_rows_4 rfl ?_
  refine G_getf 0 9 d_cX0_rows_5 rfl (gk_X0 D I) (Nat.le_of_ble_eq_true rfl) w_1_187 rfl ?_
  refine G_isub d_cX0_rows_8 (G_nam fun z723 hz723 => ?_)
  have ez723 : z723.toInt = p711.toInt - p710.toInt := by rw [gI_sub hz723 bp711 bp710 (by decide) (by decide)]
  have bz723 : gB z723 (-40) 200 := gB_sub (gI_sub hz723 bp711 bp710 (by decide) (by decide)) bp711 bp710 (by decide) (by decide)
  exact G_iret d_cX0_rows_9 rfl (Nat.le_of_ble_eq_true rfl) (Nat.le_of_ble_eq_true rfl) ⟨z723, rfl, rfl, bz723⟩
abbrev ky_748_Code_blockEnd : gKey := (cX0_blockEnd, 2, yX0_blockEnd.cls, (some FieldType.int), [], yX0_blockEnd.name, fun _ _ => True)
abbrev po_748_Code_blockEnd (I : FieldType → ClassId) (q725 : Nat) (q726 : Nat) (q727 : Nat) (q728 : Nat) (q729 : Nat) (q730 : Nat) (q731 : Nat) (q732 : Nat) (q733 : Nat) (q734 : Nat) (p735 : Int32) (p736 : Int32) (p737 : Int32) (p738 : Int32) (f739 : Nat → Int32) (f740 : Nat → Int32) (f741 : Nat → Int32) (f742 : Nat → Int32) (f743 : Nat → Int32) (f744 : Nat → Int32) (f745 : Nat → Int32) (f746 : Nat → Int32) (f747 : Nat → Int32) : Option Value → va_W → Prop := fun r w => (∃ (z749 : Int32), r = some (.int p737) ∧ w = [(q725, .inr (5, [.ref q726, .ref q727, .ref q728, .ref q729, .ref q730, .ref q731, .ref q732, .ref q733, .ref q734, .int p736, .int p737, .int p738])), (q726, .inl (I .int, 40, .inl f739)), (q727, .inl (I .int, 40, .inl f740)), (q728, .inl (I .int, 40, .inl f741)), (q729, .inl (I .int, 200, .inl f742)), (q730, .inl (I .int, 200, .inl f743)), (q731, .inl (I .int, 200, .inl f744)), (q732, .inl (I .int, 200, .inl f745)), (q733, .inl (I .int, 200, .inl f746)), (q734, .inl (I .int, 200, .inl f747))] ∧ z749.toInt = p735.toInt + 1 ∧ p736.toInt ≤ z749.toInt ∧ gB z749 1 40) ∨ (∃ (z754 : Int32) (z749 : Int32) (z753 : Int32), r = some (.int z754) ∧ w = [(q725, .inr (5, [.ref q726, .ref q727, .ref q728, .ref q729, .ref q730, .ref q731, .ref q732, .ref q733, .ref q734, .int p736, .int p737, .int p738])), (q726, .inl (I .int, 40, .inl f739)), (q727, .inl (I .int, 40, .inl f740)), (q728, .inl (I .int, 40, .inl f741)), (q729, .inl (I .int, 200, .inl f742)), (q730, .inl (I .int, 200, .inl f743)), (q731, .inl (I .int, 200, .inl f744)), (q732, .inl (I .int, 200, .inl f745)), (q733, .inl (I .int, 200, .inl f746)), (q734, .inl (I .int, 200, .inl f747))] ∧ z749.toInt = p735.toInt + 1 ∧ z749.toInt < p736.toInt ∧ z753.toInt = p735.toInt + 1 ∧ gB z754 0 200 ∧ gB z749 1 39 ∧ gB z753 1 40)
set_option maxRecDepth 100000 in
set_option maxHeartbeats 4000000 in
theorem ct_748_Code_blockEnd (l : Launch) (hl0 : l.stackTraces = false) (D : va_G) (I : FieldType → ClassId) (q725 : Nat) (q726 : Nat) (q727 : Nat) (q728 : Nat) (q729 : Nat) (q730 : Nat) (q731 : Nat) (q732 : Nat) (q733 : Nat) (q734 : Nat) (p735 : Int32) (p736 : Int32) (p737 : Int32) (p738 : Int32) (f739 : Nat → Int32) (f740 : Nat → Int32) (f741 : Nat → Int32) (f742 : Nat → Int32) (f743 : Nat → Int32) (f744 : Nat → Int32) (f745 : Nat → Int32) (f746 : Nat → Int32) (f747 : Nat → Int32) (bp735 : gB p735 0 39) (bp736 : gB p736 0 40) (bp737 : gB p737 0 200) (bp738 : gB p738 0 1) (bf739 : gF f739 0 200) (bf742 : gF f742 0 21) : Ct (gV D I) l yX0_blockEnd cX0_blockEnd 2 (some FieldType.int) 0 0 0 0 [.ref q725, .int p735] [(q725, .inr (5, [.ref q726, .ref q727, .ref q728, .ref q729, .ref q730, .ref q731, .ref q732, .ref q733, .ref q734, .int p736, .int p737, .int p738])), (q726, .inl (I .int, 40, .inl f739)), (q727, .inl (I .int, 40, .inl f740)), (q728, .inl (I .int, 40, .inl f741)), (q729, .inl (I .int, 200, .inl f742)), (q730, .inl (I .int, 200, .inl f743)), (q731, .inl (I .int, 200, .inl f744)), (q732, .inl (I .int, 200, .inl f745)), (q733, .inl (I .int, 200, .inl f746)), (q734, .inl (I .int, 200, .inl f747))] (po_748_Code_blockEnd I q725 q726 q727 q728 q729 q730 q731 q732 q733 q734 p735 p736 p737 p738 f739 f740 f741 f742 f743 f744 f745 f746 f747) gN := by
  refine Ct_of hl0 (by decide) (Nat.le_of_ble_eq_true rfl) ?_
  refine G_iload_n 1 d_cX0_blockEnd_0 rfl ?_
  refine G_iconst 1 d_cX0_blockEnd_1 (by decide +kernel) ?_
  refine G_iadd d_cX0_blockEnd_2 (G_nam fun z749 hz749 => ?_)
  have ez749 : z749.toInt = p735.toInt + 1 := by rw [gI_add hz749 bp735 (gBl (show Int32.toInt 1 = 1 by decide)) (by decide) (by decide), show Int32.toInt 1 = 1 from by decide]
  have bz749 : gB z749 1 40 := gB_add (gI_add hz749 bp735 (gBl (show Int32.toInt 1 = 1 by decide)) (by decide) (by decide)) bp735 (gBl (show Int32.toInt 1 = 1 by decide)) (by decide) (by decide)
  refine G_aload_n 0 d_cX0_blockEnd_3 rfl ?_
  refine G_getf 0 9 d_cX0_blockEnd_4 rfl (gk_X0 D I) (Nat.le_of_ble_eq_true rfl) w_1_187 rfl ?_
  refine G_icmp_ge 21 d_cX0_blockEnd_7 (by decide +kernel) (fun hc750 => ?_) (fun hc750 => ?_)
  · have r751 : p736.toInt ≤ z749.toInt := gC_le hc750
    refine G_aload_n 0 d_cX0_blockEnd_21 rfl ?_
    refine G_getf 0 10 d_cX0_blockEnd_22 rfl (gk_X0 D I) (Nat.le_of_ble_eq_true rfl) w_1_197 rfl ?_
    exact G_iret d_cX0_blockEnd_25 rfl (Nat.le_of_ble_eq_true rfl) (Nat.le_of_ble_eq_true rfl) (Or.inl ⟨z749, rfl, rfl, ez749, r751, bz749⟩)
  · have r752 : z749.toInt < p736.toInt := gC_nle hc750
    have bz749' : gB z749 1 39 := ⟨by omega, by omega⟩
    have bp736' : gB p736 2 40 := ⟨by omega, by omega⟩
    refine G_aload_n 0 d_cX0_blockEnd_10 rfl ?_
    refine G_getf 0 0 d_cX0_blockEnd_11 rfl (gk_X0 D I) (Nat.le_of_ble_eq_true rfl) w_1_142 rfl ?_
    refine G_iload_n 1 d_cX0_blockEnd_14 rfl ?_
    refine G_iconst 1 d_cX0_blockEnd_15 (by decide +kernel) ?_
    refine G_iadd d_cX0_blockEnd_16 (G_nam fun z753 hz753 => ?_)
    have ez753 : z753.toInt = p735.toInt + 1 := by rw [gI_add hz753 bp735 (gBl (show Int32.toInt 1 = 1 by decide)) (by decide) (by decide), show Int32.toInt 1 = 1 from by decide]
    have bz753 : gB z753 1 40 := gB_add (gI_add hz753 bp735 (gBl (show Int32.toInt 1 = 1 by decide)) (by decide) (by decide)) bp735 (gBl (show Int32.toInt 1 = 1 by decide)) (by decide) (by decide)
    refine G_iald 1 0 d_cX0_blockEnd_17 rfl rfl (gB_inr (by omega) (by omega)) (G_nam fun z754 hz754 => ?_)
    have bz754 : gB z754 0 200 := by rw [hz754]; exact bf739 _
    refine G_goto 25 d_cX0_blockEnd_18 (by decide +kernel) ?_
    exact G_iret d_cX0_blockEnd_25 rfl (Nat.le_of_ble_eq_true rfl) (Nat.le_of_ble_eq_true rfl) (Or.inr (⟨z754, z749, z753, rfl, rfl, ez749, r752, ez753, bz754, bz749', bz753⟩))
abbrev ky_779_Code_goal : gKey := (cX0_goal, 3, yX0_goal.cls, (some FieldType.int), [], yX0_goal.name, fun _ _ => True)
abbrev po_779_Code_goal (I : FieldType → ClassId) (q755 : Nat) (q756 : Nat) (q757 : Nat) (q758 : Nat) (q759 : Nat) (q760 : Nat) (q761 : Nat) (q762 : Nat) (q763 : Nat) (q764 : Nat) (p765 : Int32) (p766 : Int32) (p767 : Int32) (p768 : Int32) (p769 : Int32) (f770 : Nat → Int32) (f771 : Nat → Int32) (f772 : Nat → Int32) (f773 : Nat → Int32) (f774 : Nat → Int32) (f775 : Nat → Int32) (f776 : Nat → Int32) (f777 : Nat → Int32) (f778 : Nat → Int32) : Option Value → va_W → Prop := fun r w => (∃ (z782 : Int32), r = some (.int z782) ∧ w = [(q755, .inr (5, [.ref q756, .ref q757, .ref q758, .ref q759, .ref q760, .ref q761, .ref q762, .ref q763, .ref q764, .int p767, .int p768, .int p769])), (q756, .inl (I .int, 40, .inl f770)), (q757, .inl (I .int, 40, .inl f771)), (q758, .inl (I .int, 40, .inl f772)), (q759, .inl (I .int, 200, .inl f773)), (q760, .inl (I .int, 200, .inl f774)), (q761, .inl (I .int, 200, .inl f775)), (q762, .inl (I .int, 200, .inl f776)), (q763, .inl (I .int, 200, .inl f777)), (q764, .inl (I .int, 200, .inl f778))] ∧ p766.toInt ≠ 0 ∧ gB z782 (-2147483648) 2147483647) ∨ (∃ (z784 : Int32), r = some (.int z784) ∧ w = [(q755, .inr (5, [.ref q756, .ref q757, .ref q758, .ref q759, .ref q760, .ref q761, .ref q762, .ref q763, .ref q764, .int p767, .int p768, .int p769])), (q756, .inl (I .int, 40, .inl f770)), (q757, .inl (I .int, 40, .inl f771)), (q758, .inl (I .int, 40, .inl f772)), (q759, .inl (I .int, 200, .inl f773)), (q760, .inl (I .int, 200, .inl f774)), (q761, .inl (I .int, 200, .inl f775)), (q762, .inl (I .int, 200, .inl f776)), (q763, .inl (I .int, 200, .inl f777)), (q764, .inl (I .int, 200, .inl f778))] ∧ p766.toInt = 0 ∧ gB z784 (-2147483648) 2147483647)
set_option maxRecDepth 100000 in
set_option maxHeartbeats 4000000 in
theorem ct_779_Code_goal (l : Launch) (hl0 : l.stackTraces = false) (D : va_G) (I : FieldType → ClassId) (q755 : Nat) (q756 : Nat) (q757 : Nat) (q758 : Nat) (q759 : Nat) (q760 : Nat) (q761 : Nat) (q762 : Nat) (q763 : Nat) (q764 : Nat) (p765 : Int32) (p766 : Int32) (p767 : Int32) (p768 : Int32) (p769 : Int32) (f770 : Nat → Int32) (f771 : Nat → Int32) (f772 : Nat → Int32) (f773 : Nat → Int32) (f774 : Nat → Int32) (f775 : Nat → Int32) (f776 : Nat → Int32) (f777 : Nat → Int32) (f778 : Nat → Int32) (bp765 : gB p765 0 39) (bp767 : gB p767 0 40) (bp768 : gB p768 0 200) (bp769 : gB p769 0 1) (bf770 : gF f770 0 200) (bf773 : gF f773 0 21) : Ct (gV D I) l yX0_goal cX0_goal 3 (some FieldType.int) 0 0 0 0 [.ref q755, .int p765, .int p766] [(q755, .inr (5, [.ref q756, .ref q757, .ref q758, .ref q759, .ref q760, .ref q761, .ref q762, .ref q763, .ref q764, .int p767, .int p768, .int p769])), (q756, .inl (I .int, 40, .inl f770)), (q757, .inl (I .int, 40, .inl f771)), (q758, .inl (I .int, 40, .inl f772)), (q759, .inl (I .int, 200, .inl f773)), (q760, .inl (I .int, 200, .inl f774)), (q761, .inl (I .int, 200, .inl f775)), (q762, .inl (I .int, 200, .inl f776)), (q763, .inl (I .int, 200, .inl f777)), (q764, .inl (I .int, 200, .inl f778))] (po_779_Code_goal I q755 q756 q757 q758 q759 q760 q761 q762 q763 q764 p765 p766 p767 p768 p769 f770 f771 f772 f773 f774 f775 f776 f777 f778) gN := by
  refine Ct_of hl0 (by decide) (Nat.le_of_ble_eq_true rfl) ?_
  have bp766 := gB_any p766
  refine G_iload_n 2 d_cX0_goal_0 rfl ?_
  refine G_if_ne 13 d_cX0_goal_1 (by decide +kernel) (fun hc780 => ?_) (fun hc780 => ?_)
  · have r781 : p766.toInt ≠ 0 := gj_neq hc780 (show Int32.toInt 0 = 0 by decide)
    refine G_aload_n 0 d_cX0_goal_13 rfl ?_
    refine G_getf 0 2 d_cX0_goal_14 rfl (gk_X0 D I) (Nat.le_of_ble_eq_true rfl) w_1_154 rfl ?_
    refine G_iload_n 1 d_cX0_goal_17 rfl ?_
    refine G_iald 3 0 d_cX0_goal_18 rfl rfl (gB_in bp765 (by decide) (by decide)) (G_nam fun z782 hz782 => ?_)
    have bz782 : gB z782 (-2147483648) 2147483647 := gB_any z782
    exact G_iret d_cX0_goal_19 rfl (Nat.le_of_ble_eq_true rfl) (Nat.le_of_ble_eq_true rfl) (Or.inl ⟨z782, rfl, rfl, r781, bz782⟩)
  · have r783 : p766.toInt = 0 := gj_eq hc780 (show Int32.toInt 0 = 0 by decide)
    have bp766' : gB p766 0 0 := ⟨by omega, by omega⟩
    refine G_aload_n 0 d_cX0_goal_4 rfl ?_
    refine G_getf 0 1 d_cX0_goal_5 rfl (gk_X0 D I) (Nat.le_of_ble_eq_true rfl) w_1_149 rfl ?_
    refine G_iload_n 1 d_cX0_goal_8 rfl ?_
    refine G_iald 2 0 d_cX0_goal_9 rfl rfl (gB_in bp765 (by decide) (by decide)) (G_nam fun z784 hz784 => ?_)
    have bz784 : gB z784 (-2147483648) 2147483647 := gB_any z784
    refine G_goto 19 d_cX0_goal_10 (by decide +kernel) ?_
    exact G_iret d_cX0_goal_19 rfl (Nat.le_of_ble_eq_true rfl) (Nat.le_of_ble_eq_true rfl) (Or.inr (⟨z784, rfl, rfl, r783, bz784⟩))
abbrev ky_807_Code_openBlock : gKey := (cX0_openBlock, 1, yX0_openBlock.cls, (some FieldType.boolean), [], yX0_openBlock.name, fun _ _ => True)
abbrev po_807_Code_openBlock (I : FieldType → ClassId) (q785 : Nat) (q786 : Nat) (q787 : Nat) (q788 : Nat) (q789 : Nat) (q790 : Nat) (q791 : Nat) (q792 : Nat) (q793 : Nat) (q794 : Nat) (p795 : Int32) (p796 : Int32) (p797 : Int32) (f798 : Nat → Int32) (f799 : Nat → Int32) (f800 : Nat → Int32) (f801 : Nat → Int32) (f802 : Nat → Int32) (f803 : Nat → Int32) (f804 : Nat → Int32) (f805 : Nat → Int32) (f806 : Nat → Int32) : Option Value → va_W → Prop := fun r w => ∃ (o819 : Int32) (o815 : Int32) (f816 : Nat → Int32) (f817 : Nat → Int32) (f818 : Nat → Int32), r = some (.int o819) ∧ w = [(q785, .inr (5, [.ref q786, .ref q787, .ref q788, .ref q789, .ref q790, .ref q791, .ref q792, .ref q793, .ref q794, .int o815, .int p796, .int p797])), (q786, .inl (I .int, 40, .inl f816)), (q787, .inl (I .int, 40, .inl f817)), (q788, .inl (I .int, 40, .inl f818)), (q789, .inl (I .int, 200, .inl f801)), (q790, .inl (I .int, 200, .inl f802)), (q791, .inl (I .int, 200, .inl f803)), (q792, .inl (I .int, 200, .inl f804)), (q793, .inl (I .int, 200, .inl f805)), (q794, .inl (I .int, 200, .inl f806))] ∧ gB o819 0 1 ∧ gB o815 1 40 ∧ gF f816 0 200 ∧ gF f817 (-2147483648) 2147483647 ∧ gF f818 (-2147483648) 2147483647
set_option maxRecDepth 100000 in
set_option maxHeartbeats 4000000 in
theorem ct_807_Code_openBlock (l : Launch) (hl0 : l.stackTraces = false) (D : va_G) (I : FieldType → ClassId) (q785 : Nat) (q786 : Nat) (q787 : Nat) (q788 : Nat) (q789 : Nat) (q790 : Nat) (q791 : Nat) (q792 : Nat) (q793 : Nat) (q794 : Nat) (p795 : Int32) (p796 : Int32) (p797 : Int32) (f798 : Nat → Int32) (f799 : Nat → Int32) (f800 : Nat → Int32) (f801 : Nat → Int32) (f802 : Nat → Int32) (f803 : Nat → Int32) (f804 : Nat → Int32) (f805 : Nat → Int32) (f806 : Nat → Int32) (bp795 : gB p795 0 40) (bp796 : gB p796 0 200) (bp797 : gB p797 0 1) (bf798 : gF f798 0 200) (bf801 : gF f801 0 21) : Ct (gV D I) l yX0_openBlock cX0_openBlock 1 (some FieldType.boolean) 0 0 0 0 [.ref q785] [(q785, .inr (5, [.ref q786, .ref q787, .ref q788, .ref q789, .ref q790, .ref q791, .ref q792, .ref q793, .ref q794, .int p795, .int p796, .int p797])), (q786, .inl (I .int, 40, .inl f798)), (q787, .inl (I .int, 40, .inl f799)), (q788, .inl (I .int, 40, .inl f800)), (q789, .inl (I .int, 200, .inl f801)), (q790, .inl (I .int, 200, .inl f802)), (q791, .inl (I .int, 200, .inl f803)), (q792, .inl (I .int, 200, .inl f804)), (q793, .inl (I .int, 200, .inl f805)), (q794, .inl (I .int, 200, .inl f806))] (po_807_Code_openBlock I q785 q786 q787 q788 q789 q790 q791 q792 q793 q794 p795 p796 p797 f798 f799 f800 f801 f802 f803 f804 f805 f806) gN := by
  refine Ct_of hl0 (by decide) (Nat.le_of_ble_eq_true rfl) ?_
  refine G_aload_n 0 d_cX0_openBlock_0 rfl ?_
  refine G_getf 0 9 d_cX0_openBlock_1 rfl (gk_X0 D I) (Nat.le_of_ble_eq_true rfl) w_1_187 rfl ?_
  refine G_bipush 40 d_cX0_openBlock_4 (by decide +kernel) ?_
  refine G_icmp_lt 11 d_cX0_openBlock_6 (by decide +kernel) (fun hc808 => ?_) (fun hc808 => ?_)
  · have r809 : p795.toInt < 40 := gj_lt hc808 (show Int32.toInt 40 = 40 by decide)
    have bp795' : gB p795 0 39 := ⟨by omega, by omega⟩
    refine G_aload_n 0 d_cX0_openBlock_11 rfl ?_
    refine G_getf 0 0 d_cX0_openBlock_12 rfl (gk_X0 D I) (Nat.le_of_ble_eq_true rfl) w_1_142 rfl ?_
    refine G_aload_n 0 d_cX0_openBlock_15 rfl ?_
    refine G_getf 0 9 d_cX0_openBlock_16 rfl (gk_X0 D I) (Nat.le_of_ble_eq_true rfl) w_1_187 rfl ?_
    refine G_aload_n 0 d_cX0_openBlock_19 rfl ?_
    refine G_getf 0 10 d_cX0_openBlock_20 rfl (gk_X0 D I) (Nat.le_of_ble_eq_true rfl) w_1_197 rfl ?_
    refine G_iastN 1 0 d_cX0_openBlock_23 rfl rfl (gB_in bp795' (by decide) (by decide)) (fun f810 hf810 => ?_)
    refine G_ws (ws' := [(q785, .inr (5, [.ref q786, .ref q787, .ref q788, .ref q789, .ref q790, .ref q791, .ref q792, .ref q793, .ref q794, .int p795, .int p796, .int p797])), (q786, .inl (I .int, 40, .inl f810)), (q787, .inl (I .int, 40, .inl f799)), (q788, .inl (I .int, 40, .inl f800)), (q789, .inl (I .int, 200, .inl f801)), (q790, .inl (I .int, 200, .inl f802)), (q791, .inl (I .int, 200, .inl f803)), (q792, .inl (I .int, 200, .inl f804)), (q793, .inl (I .int, 200, .inl f805)), (q794, .inl (I .int, 200, .inl f806))]) (cs' := 0) (sl' := 0) rfl rfl rfl ?_
    have bf810 : gF f810 0 200 := gF_upd hf810 bf798 bp796
    refine G_aload_n 0 d_cX0_openBlock_24 rfl ?_
    refine G_getf 0 1 d_cX0_openBlock_25 rfl (gk_X0 D I) (Nat.le_of_ble_eq_true rfl) w_1_149 rfl ?_
    refine G_aload_n 0 d_cX0_openBlock_28 rfl ?_
    refine G_getf 0 9 d_cX0_openBlock_29 rfl (gk_X0 D I) (Nat.le_of_ble_eq_true rfl) w_1_187 rfl ?_
    refine G_iconst (-1) d_cX0_openBlock_32 (by decide +kernel) ?_
    refine G_iastN 2 0 d_cX0_openBlock_33 rfl rfl (gB_in bp795' (by decide) (by decide)) (fun f811 hf811 => ?_)
    refine G_ws (ws' := [(q785, .inr (5, [.ref q786, .ref q787, .ref q788, .ref q789, .ref q790, .ref q791, .ref q792, .ref q793, .ref q794, .int p795, .int p796, .int p797])), (q786, .inl (I .int, 40, .inl f810)), (q787, .inl (I .int, 40, .inl f811)), (q788, .inl (I .int, 40, .inl f800)), (q789, .inl (I .int, 200, .inl f801)), (q790, .inl (I .int, 200, .inl f802)), (q791, .inl (I .int, 200, .inl f803)), (q792, .inl (I .int, 200, .inl f804)), (q793, .inl (I .int, 200, .inl f805)), (q794, .inl (I .int, 200, .inl f806))]) (cs' := 0) (sl' := 0) rfl rfl rfl ?_
    refine G_aload_n 0 d_cX0_openBlock_34 rfl ?_
    refine G_getf 0 2 d_cX0_openBlock_35 rfl (gk_X0 D I) (Nat.le_of_ble_eq_true rfl) w_1_154 rfl ?_
    refine G_aload_n 0 d_cX0_openBlock_38 rfl ?_
    refine G_getf 0 9 d_cX0_openBlock_39 rfl (gk_X0 D I) (Nat.le_of_ble_eq_true rfl) w_1_187 rfl ?_
    refine G_iconst (-1) d_cX0_openBlock_42 (by decide +kernel) ?_
    refine G_iastN 3 0 d_cX0_openBlock_43 rfl rfl (gB_in bp795' (by decide) (by decide)) (fun f812 hf812 => ?_)
    refine G_ws (ws' := [(q785, .inr (5, [.ref q786, .ref q787, .ref q788, .ref q789, .ref q790, .ref q791, .ref q792, .ref q793, .ref q794, .int p795, .int p796, .int p797])), (q786, .inl (I .int, 40, .inl f810)), (q787, .inl (I .int, 40, .inl f811)), (q788, .inl (I .int, 40, .inl f812)), (q789, .inl (I .int, 200, .inl f801)), (q790, .inl (I .int, 200, .inl f802)), (q791, .inl (I .int, 200, .inl f803)), (q792, .inl (I .int, 200, .inl f804)), (q793, .inl (I .int, 200, .inl f805)), (q794, .inl (I .int, 200, .inl f806))]) (cs' := 0) (sl' := 0) rfl rfl rfl ?_
    refine G_aload_n 0 d_cX0_openBlock_44 rfl ?_
    refine G_dup d_cX0_openBlock_45 rfl ?_
    refine G_getf 0 9 d_cX0_openBlock_46 rfl (gk_X0 D I) (Nat.le_of_ble_eq_true rfl) w_1_187 rfl ?_
    refine G_iconst 1 d_cX0_openBlock_49 (by decide +kernel) ?_
    refine G_iadd d_cX0_openBlock_50 (G_nam fun z813 hz813 => ?_)
    have ez813 : z813.toInt = p795.toInt + 1 := by rw [gI_add hz813 bp795' (gBl (show Int32.toInt 1 = 1 by decide)) (by decide) (by decide), show Int32.toInt 1 = 1 from by decide]
    have bz813 : gB z813 1 40 := gB_add (gI_add hz813 bp795' (gBl (show Int32.toInt 1 = 1 by decide)) (by decide) (by decide)) bp795' (gBl (show Int32.toInt 1 = 1 by decide)) (by decide) (by decide)
    refine G_putf (ws' := [(q785, .inr (5, [.ref q786, .ref q787, .ref q788, .ref q789, .ref q790, .ref q791, .ref q792, .ref q793, .ref q794, .int z813, .int p796, .int p797])), (q786, .inl (I .int, 40, .inl f810)), (q787, .inl (I .int, 40, .inl f811)), (q788, .inl (I .int, 40, .inl f812)), (q789, .inl (I .int, 200, .inl f801)), (q790, .inl (I .int, 200, .inl f802)), (q791, .inl (I .int, 200, .inl f803)), (q792, .inl (I .int, 200, .inl f804)), (q793, .inl (I .int, 200, .inl f805)), (q794, .inl (I .int, 200, .inl f806))]) 0 9 d_cX0_openBlock_51 rfl (gk_X0 D I) (Nat.le_of_ble_eq_true rfl) w_1_187 rfl rfl rfl (Nat.le_of_ble_eq_true rfl) rfl ?_
    refine G_iconst 1 d_cX0_openBlock_54 (by decide +kernel) ?_
    exact G_zret FieldType.boolean d_cX0_openBlock_55 rfl rfl (Nat.le_of_ble_eq_true rfl) (Nat.le_of_ble_eq_true rfl) ⟨1, z813, f810, f811, f812, rfl, rfl, (gB_w (gBl (show Int32.toInt 1 = 1 by decide)) (by decide) (by decide)), bz813, bf810, (gF_any f811), (gF_any f812)⟩
  · have r814 : 40 ≤ p795.toInt := gj_nlt hc808 (show Int32.toInt 40 = 40 by decide)
    have bp795' : gB p795 40 40 := ⟨by omega, by omega⟩
    refine G_iconst 0 d_cX0_openBlock_9 (by decide +kernel) ?_
    exact G_zret FieldType.boolean d_cX0_openBlock_10 rfl rfl (Nat.le_of_ble_eq_true rfl) (Nat.le_of_ble_eq_true rfl) ⟨0, p795, f798, f799, f800, rfl, rfl, (gB_w (gBl (show Int32.toInt 0 = 0 by decide)) (by decide) (by decide)), (gB_w bp795' (by decide) (by decide)), bf798, (gF_any f799), (gF_any f800)⟩
abbrev ky_843_Code_addGoal : gKey := (cX0_addGoal, 5, yX0_addGoal.cls, (some FieldType.int), [], yX0_addGoal.name, fun _ _ => True)
abbrev po_843_Code_addGoal (I : FieldType → ClassId) (q820 : Nat) (q821 : Nat) (q822 : Nat) (q823 : Nat) (q824 : Nat) (q825 : Nat) (q826 : Nat) (q827 : Nat) (q828 : Nat) (q829 : Nat) (p830 : Int32) (p831 : Int32) (p832 : Int32) (p833 : Int32) (f834 : Nat → Int32) (f835 : Nat → Int32) (f836 : Nat → Int32) (f837 : Nat → Int32) (f838 : Nat → Int32) (f839 : Nat → Int32) (f840 : Nat → Int32) (f841 : Nat → Int32) (f842 : Nat → Int32) : Option Value → va_W → Prop := fun r w => ∃ (o859 : Int32) (f857 : Nat → Int32) (f858 : Nat → Int32), r = some (.int o859) ∧ w = [(q820, .inr (5, [.ref q821, .ref q822, .ref q823, .ref q824, .ref q825, .ref q826, .ref q827, .ref q828, .ref q829, .int p831, .int p832, .int p833])), (q821, .inl (I .int, 40, .inl f834)), (q822, .inl (I .int, 40, .inl f857)), (q823, .inl (I .int, 40, .inl f858)), (q824, .inl (I .int, 200, .inl f837)), (q825, .inl (I .int, 200, .inl f838)), (q826, .inl (I .int, 200, .inl f839)), (q827, .inl (I .int, 200, .inl f840)), (q828, .inl (I .int, 200, .inl f841)), (q829, .inl (I .int, 200, .inl f842))] ∧ gB o859 (-1) 79 ∧ gF f857 (-2147483648) 2147483647 ∧ gF f858 (-2147483648) 2147483647
set_option maxRecDepth 100000 in
set_option maxHeartbeats 4000000 in
theorem ct_843_Code_addGoal (l : Launch) (hl0 : l.stackTraces = false) (D : va_G) (I : FieldType → ClassId) (q820 : Nat) (q821 : Nat) (q822 : Nat) (q823 : Nat) (q824 : Nat) (q825 : Nat) (q826 : Nat) (q827 : Nat) (q828 : Nat) (q829 : Nat) (p830 : Int32) (p831 : Int32) (p832 : Int32) (p833 : Int32) (f834 : Nat → Int32) (f835 : Nat → Int32) (f836 : Nat → Int32) (f837 : Nat → Int32) (f838 : Nat → Int32) (f839 : Nat → Int32) (f840 : Nat → Int32) (f841 : Nat → Int32) (f842 : Nat → Int32) (bp831 : gB p831 0 40) (bp832 : gB p832 0 200) (bp833 : gB p833 0 1) (bf834 : gF f834 0 200) (bf837 : gF f837 0 21) : Ct (gV D I) l yX0_addGoal cX0_addGoal 5 (some FieldType.int) 0 0 0 0 [.ref q820, .int p830] [(q820, .inr (5, [.ref q821, .ref q822, .ref q823, .ref q824, .ref q825, .ref q826, .ref q827, .ref q828, .ref q829, .int p831, .int p832, .int p833])), (q821, .inl (I .int, 40, .inl f834)), (q822, .inl (I .int, 40, .inl f835)), (q823, .inl (I .int, 40, .inl f836)), (q824, .inl (I .int, 200, .inl f837)), (q825, .inl (I .int, 200, .inl f838)), (q826, .inl (I .int, 200, .inl f839)), (q827, .inl (I .int, 200, .inl f840)), (q828, .inl (I .int, 200, .inl f841)), (q829, .inl (I .int, 200, .inl f842))] (po_843_Code_addGoal I q820 q821 q822 q823 q824 q825 q826 q827 q828 q829 p830 p831 p832 p833 f834 f835 f836 f837 f838 f839 f840 f841 f842) gN := by
  refine Ct_of hl0 (by decide) (Nat.le_of_ble_eq_true rfl) ?_
  have bp830 := gB_any p830
  refine G_aload_n 0 d_cX0_addGoal_0 rfl ?_
  refine G_getf 0 9 d_cX0_addGoal_1 rfl (gk_X0 D I) (Nat.le_of_ble_eq_true rfl) w_1_187 rfl ?_
  refine G_iconst 1 d_cX0_addGoal_4 (by decide +kernel) ?_
  refine G_isub d_cX0_addGoal_5 (G_nam fun z844 hz844 => ?_)
  have ez844 : z844.toInt = p831.toInt - 1 := by rw [gI_sub hz844 bp831 (gBl (show Int32.toInt 1 = 1 by decide)) (by decide) (by decide), show Int32.toInt 1 = 1 from by decide]
  have bz844 : gB z844 (-1) 39 := gB_sub (gI_sub hz844 bp831 (gBl (show Int32.toInt 1 = 1 by decide)) (by decide) (by decide)) bp831 (gBl (show Int32.toInt 1 = 1 by decide)) (by decide) (by decide)
  refine G_istore_n (L' := [(2, .int z844), (0, .ref q820), (1, .int p830)]) d_cX0_addGoal_6 (Nat.le_of_ble_eq_true rfl) rfl ?_
  refine G_iload_n 0 d_cX0_addGoal_7 rfl ?_
  refine G_if_ge 13 d_cX0_addGoal_8 (by decide +kernel) (fun hc845 => ?_) (fun hc845 => ?_)
  · have r846 : 0 ≤ z844.toInt := gj_leL hc845 (show Int32.toInt 0 = 0 by decide)
    have bz844' : gB z844 0 39 := ⟨by omega, by omega⟩
    refine G_aload_n 1 d_cX0_addGoal_13 rfl ?_
    refine G_getf 0 1 d_cX0_addGoal_14 rfl (gk_X0 D I) (Nat.le_of_ble_eq_true rfl) w_1_149 rfl ?_
    refine G_iload_n 0 d_cX0_addGoal_17 rfl ?_
    refine G_iald 2 0 d_cX0_addGoal_18 rfl rfl (gB_in bz844' (by decide) (by decide)) (G_nam fun z847 hz847 => ?_)
    have bz847 : gB z847 (-2147483648) 2147483647 := gB_any z847
    refine G_iconst (-1) d_cX0_addGoal_19 (by decide +kernel) ?_
    refine G_icmp_eq 27 d_cX0_addGoal_20 (by decide +kernel) (fun hc848 => ?_) (fun hc848 => ?_)
    · have r849 : z847.toInt = (-1) := gj_eq hc848 (show Int32.toInt (-1) = (-1) by decide)
      have bz847' : gB z847 (-1) (-1) := ⟨by omega, by omega⟩
      refine G_iconst 0 d_cX0_addGoal_27 (by decide +kernel) ?_
      refine G_istore_n (L' := [(3, .int 0), (2, .int z844), (0, .ref q820), (1, .int p830)]) d_cX0_addGoal_28 (Nat.le_of_ble_eq_true rfl) rfl ?_
      refine G_iload_n 0 d_cX0_addGoal_29 rfl ?_
      refine G_if_eq 40 d_cX0_addGoal_30 (by decide +kernel) (fun _ => ?_) (fun hc => absurd hc (by decide))
      refine G_aload_n 2 d_cX0_addGoal_40 rfl ?_
      refine G_getf 0 1 d_cX0_addGoal_41 rfl (gk_X0 D I) (Nat.le_of_ble_eq_true rfl) w_1_149 rfl ?_
      refine G_astore (L' := [(4, .ref q822), (3, .int 0), (2, .int z844), (0, .ref q820), (1, .int p830)]) d_cX0_addGoal_44 (Nat.le_of_ble_eq_true rfl) rfl ?_
      refine G_aload 0 d_cX0_addGoal_46 rfl ?_
      refine G_iload_n 2 d_cX0_addGoal_48 rfl ?_
      refine G_iload_n 4 d_cX0_addGoal_49 rfl ?_
      refine G_iastN 2 0 d_cX0_addGoal_50 rfl rfl (gB_in bz844' (by decide) (by decide)) (fun f850 hf850 => ?_)
      refine G_ws (ws' := [(q820, .inr (5, [.ref q821, .ref q822, .ref q823, .ref q824, .ref q825, .ref q826, .ref q827, .ref q828, .ref q829, .int p831, .int p832, .int p833])), (q821, .inl (I .int, 40, .inl f834)), (q822, .inl (I .int, 40, .inl f850)), (q823, .inl (I .int, 40, .inl f836)), (q824, .inl (I .int, 200, .inl f837)), (q825, .inl (I .int, 200, .inl f838)), (q826, .inl (I .int, 200, .inl f839)), (q827, .inl (I .int, 200, .inl f840)), (q828, .inl (I .int, 200, .inl f841)), (q829, .inl (I .int, 200, .inl f842))]) (cs' := 0) (sl' := 0) rfl rfl rfl ?_
      refine G_iload_n 1 d_cX0_addGoal_51 rfl ?_
      refine G_if_eq 63 d_cX0_addGoal_52 (by decide +kernel) (fun _ => ?_) (fun hc => absurd hc (by decide))
      refine G_iconst 2 d_cX0_addGoal_63 (by decide +kernel) ?_
      refine G_iload_n 2 d_cX0_addGoal_64 rfl ?_
      refine G_imul d_cX0_addGoal_65 (G_nam fun z851 hz851 => ?_)
      have ez851 : z851.toInt = 2 * z844.toInt := by rw [gI_mul hz851 (gBl (show Int32.toInt 2 = 2 by decide)) bz844' (by decide) (by decide) (by decide), show Int32.toInt 2 = 2 from by decide]
      have bz851 : gB z851 0 78 := gB_mul hz851 (gBl (show Int32.toInt 2 = 2 by decide)) bz844' (by decide) (by decide) (by decide) (by decide)
      exact G_iret d_cX0_addGoal_66 rfl (Nat.le_of_ble_eq_true rfl) (Nat.le_of_ble_eq_true rfl) ⟨z851, f850, f836, rfl, rfl, (gB_w bz851 (by decide) (by decide)), (gF_any f850), (gF_any f836)⟩
    · have r852 : z847.toInt ≠ (-1) := gj_neq hc848 (show Int32.toInt (-1) = (-1) by decide)
      refine G_iconst 1 d_cX0_addGoal_23 (by decide +kernel) ?_
      refine G_goto 28 d_cX0_addGoal_24 (by decide +kernel) ?_
      refine G_istore_n (L' := [(3, .int 1), (2, .int z844), (0, .ref q820), (1, .int p830)]) d_cX0_addGoal_28 (Nat.le_of_ble_eq_true rfl) rfl ?_
      refine G_iload_n 0 d_cX0_addGoal_29 rfl ?_
      refine G_if_eq 40 d_cX0_addGoal_30 (by decide +kernel) (fun hc => absurd hc (by decide)) (fun _ => ?_)
      refine G_aload_n 2 d_cX0_addGoal_33 rfl ?_
      refine G_getf 0 2 d_cX0_addGoal_34 rfl (gk_X0 D I) (Nat.le_of_ble_eq_true rfl) w_1_154 rfl ?_
      refine G_goto 44 d_cX0_addGoal_37 (by decide +kernel) ?_
      refine G_astore (L' := [(4, .ref q823), (3, .int 1), (2, .int z844), (0, .ref q820), (1, .int p830)]) d_cX0_addGoal_44 (Nat.le_of_ble_eq_true rfl) rfl ?_
      refine G_aload 0 d_cX0_addGoal_46 rfl ?_
      refine G_iload_n 2 d_cX0_addGoal_48 rfl ?_
      refine G_iload_n 4 d_cX0_addGoal_49 rfl ?_
      refine G_iastN 3 0 d_cX0_addGoal_50 rfl rfl (gB_in bz844' (by decide) (by decide)) (fun f853 hf853 => ?_)
      refine G_ws (ws' := [(q820, .inr (5, [.ref q821, .ref q822, .ref q823, .ref q824, .ref q825, .ref q826, .ref q827, .ref q828, .ref q829, .int p831, .int p832, .int p833])), (q821, .inl (I .int, 40, .inl f834)), (q822, .inl (I .int, 40, .inl f835)), (q823, .inl (I .int, 40, .inl f853)), (q824, .inl (I .int, 200, .inl f837)), (q825, .inl (I .int, 200, .inl f838)), (q826, .inl (I .int, 200, .inl f839)), (q827, .inl (I .int, 200, .inl f840)), (q828, .inl (I .int, 200, .inl f841)), (q829, .inl (I .int, 200, .inl f842))]) (cs' := 0) (sl' := 0) rfl rfl rfl ?_
      refine G_iload_n 1 d_cX0_addGoal_51 rfl ?_
      refine G_if_eq 63 d_cX0_addGoal_52 (by decide +kernel) (fun hc => absurd hc (by decide)) (fun _ => ?_)
      refine G_iconst 2 d_cX0_addGoal_55 (by decide +kernel) ?_
      refine G_iload_n 2 d_cX0_addGoal_56 rfl ?_
      refine G_imul d_cX0_addGoal_57 (G_nam fun z854 hz854 => ?_)
      have ez854 : z854.toInt = 2 * z844.toInt := by rw [gI_mul hz854 (gBl (show Int32.toInt 2 = 2 by decide)) bz844' (by decide) (by decide) (by decide), show Int32.toInt 2 = 2 from by decide]
      have bz854 : gB z854 0 78 := gB_mul hz854 (gBl (show Int32.toInt 2 = 2 by decide)) bz844' (by decide) (by decide) (by decide) (by decide)
      refine G_iconst 1 d_cX0_addGoal_58 (by decide +kernel) ?_
      refine G_iadd d_cX0_addGoal_59 (G_nam fun z855 hz855 => ?_)
      have ez855 : z855.toInt = z854.toInt + 1 := by rw [gI_add hz855 bz854 (gBl (show Int32.toInt 1 = 1 by decide)) (by decide) (by decide), show Int32.toInt 1 = 1 from by decide]
      have bz855 : gB z855 1 79 := gB_add (gI_add hz855 bz854 (gBl (show Int32.toInt 1 = 1 by decide)) (by decide) (by decide)) bz854 (gBl (show Int32.toInt 1 = 1 by decide)) (by decide) (by decide)
      refine G_goto 66 d_cX0_addGoal_60 (by decide +kernel) ?_
      exact G_iret d_cX0_addGoal_66 rfl (Nat.le_of_ble_eq_true rfl) (Nat.le_of_ble_eq_true rfl) ⟨z855, f835, f853, rfl, rfl, (gB_w bz855 (by decide) (by decide)), (gF_any f835), (gF_any f853)⟩
  · have r856 : z844.toInt < 0 := gj_nleL hc845 (show Int32.toInt 0 = 0 by decide)
    have bz844' : gB z844 (-1) (-1) := ⟨by omega, by omega⟩
    refine G_iconst (-1) d_cX0_addGoal_11 (by decide +kernel) ?_
    exact G_iret d_cX0_addGoal_12 rfl (Nat.le_of_ble_eq_true rfl) (Nat.le_of_ble_eq_true rfl) ⟨(-1), f835, f836, rfl, rfl, (gB_w (gBl (show Int32.toInt (-1) = (-1) by decide)) (by decide) (by decide)), (gF_any f835), (gF_any f836)⟩
abbrev ky_888_Code_add : gKey := (cX0_add, 7, yX0_add.cls, none, [], yX0_add.name, fun _ _ => True)
abbrev po_888_Code_add (I : FieldType → ClassId) (q860 : Nat) (q861 : Nat) (q862 : Nat) (q863 : Nat) (q864 : Nat) (q865 : Nat) (q866 : Nat) (q867 : Nat) (q868 : Nat) (q869 : Nat) (p870 : Int32) (p871 : Int32) (p872 : Int32) (p873 : Int32) (p874 : Int32) (p875 : Int32) (p876 : Int32) (p877 : Int32) (p878 : Int32) (f879 : Nat → Int32) (f880 : Nat → Int32) (f881 : Nat → Int32) (f882 : Nat → Int32) (f883 : Nat → Int32) (f884 : Nat → Int32) (f885 : Nat → Int32) (f886 : Nat → Int32) (f887 : Nat → Int32) : Option Value → va_W → Prop := fun r w => ∃ (o899 : Int32) (f900 : Nat → Int32) (f901 : Nat → Int32) (f902 : Nat → Int32) (f903 : Nat → Int32) (f904 : Nat → Int32) (f905 : Nat → Int32) (o906 : Int32), r = none ∧ w = [(q860, .inr (5, [.ref q861, .ref q862, .ref q863, .ref q864, .ref q865, .ref q866, .ref q867, .ref q868, .ref q869, .int p876, .int o899, .int o906])), (q861, .inl (I .int, 40, .inl f879)), (q862, .inl (I .int, 40, .inl f880)), (q863, .inl (I .int, 40, .inl f881)), (q864, .inl (I .int, 200, .inl f900)), (q865, .inl (I .int, 200, .inl f901)), (q866, .inl (I .int, 200, .inl f902)), (q867, .inl (I .int, 200, .inl f903)), (q868, .inl (I .int, 200, .inl f904)), (q869, .inl (I .int, 200, .inl f905))] ∧ gB o899 1 200 ∧ gF f900 0 21 ∧ gF f901 (-2147483648) 2147483647 ∧ gF f902 (-2147483648) 2147483647 ∧ gF f903 (-2147483648) 2147483647 ∧ gF f904 (-2147483648) 2147483647 ∧ gF f905 (-2147483648) 2147483647 ∧ gB o906 0 1
set_option maxRecDepth 100000 in
set_option maxHeartbeats 4000000 in
theorem ct_888_Code_add (l : Launch) (hl0 : l.stackTraces = false) (D : va_G) (I : FieldType → ClassId) (q860 : Nat) (q861 : Nat) (q862 : Nat) (q863 : Nat) (q864 : Nat) (q865 : Nat) (q866 : Nat) (q867 : Nat) (q868 : Nat) (q869 : Nat) (p870 : Int32) (p871 : Int32) (p872 : Int32) (p873 : Int32) (p874 : Int32) (p875 : Int32) (p876 : Int32) (p877 : Int32) (p878 : Int32) (f879 : Nat → Int32) (f880 : Nat → Int32) (f881 : Nat → Int32) (f882 : Nat → Int32) (f883 : Nat → Int32) (f884 : Nat → Int32) (f885 : Nat → Int32) (f886 : Nat → Int32) (f887 : Nat → Int32) (bp870 : gB p870 0 21) (bp876 : gB p876 0 40) (bp877 : gB p877 0 200) (bp878 : gB p878 0 1) (bf879 : gF f879 0 200) (bf882 : gF f882 0 21) : Ct (gV D I) l yX0_add cX0_add 7 none 0 0 0 0 [.ref q860, .int p870, .int p871, .int p872, .int p873, .int p874, .int p875] [(q860, .inr (5, [.ref q861, .ref q862, .ref q863, .ref q864, .ref q865, .ref q866, .ref q867, .ref q868, .ref q869, .int p876, .int p877, .int p878])), (q861, .inl (I .int, 40, .inl f879)), (q862, .inl (I .int, 40, .inl f880)), (q863, .inl (I .int, 40, .inl f881)), (q864, .inl (I .int, 200, .inl f882)), (q865, .inl (I .int, 200, .inl f883)), (q866, .inl (I .int, 200, .inl f884)), (q867, .inl (I .int, 200, .inl f885)), (q868, .inl (I .int, 200, .inl f886)), (q869, .inl (I .int, 200, .inl f887))] (po_888_Code_add I q860 q861 q862 q863 q864 q865 q866 q867 q868 q869 p870 p871 p872 p873 p874 p875 p876 p877 p878 f879 f880 f881 f882 f883 f884 f885 f886 f887) gN := by
  refine Ct_of hl0 (by decide) (Nat.le_of_ble_eq_true rfl) ?_
  have bp871 := gB_any p871
  have bp872 := gB_any p872
  have bp873 := gB_any p873
  have bp874 := gB_any p874
  have bp875 := gB_any p875
  refine G_aload_n 0 d_cX0_add_0 rfl ?_
  refine G_getf 0 10 d_cX0_add_1 rfl (gk_X0 D I) (Nat.le_of_ble_eq_true rfl) w_1_197 rfl ?_
  refine G_aload_n 0 d_cX0_add_4 rfl ?_
  refine G_getf 0 3 d_cX0_add_5 rfl (gk_X0 D I) (Nat.le_of_ble_eq_true rfl) w_1_159 rfl ?_
  refine G_alen 200 4 0 d_cX0_add_8 rfl rfl rfl ?_
  refine G_icmp_lt 18 d_cX0_add_9 (by decide +kernel) (fun hc889 => ?_) (fun hc889 => ?_)
  · have r890 : p877.toInt < 200 := gj_lt hc889 (show Int32.toInt 200 = 200 by decide)
    have bp877' : gB p877 0 199 := ⟨by omega, by omega⟩
    refine G_aload_n 0 d_cX0_add_18 rfl ?_
    refine G_getf 0 3 d_cX0_add_19 rfl (gk_X0 D I) (Nat.le_of_ble_eq_true rfl) w_1_159 rfl ?_
    refine G_aload_n 0 d_cX0_add_22 rfl ?_
    refine G_getf 0 10 d_cX0_add_23 rfl (gk_X0 D I) (Nat.le_of_ble_eq_true rfl) w_1_197 rfl ?_
    refine G_iload_n 1 d_cX0_add_26 rfl ?_
    refine G_iastN 4 0 d_cX0_add_27 rfl rfl (gB_in bp877' (by decide) (by decide)) (fun f891 hf891 => ?_)
    refine G_ws (ws' := [(q860, .inr (5, [.ref q861, .ref q862, .ref q863, .ref q864, .ref q865, .ref q866, .ref q867, .ref q868, .ref q869, .int p876, .int p877, .int p878])), (q861, .inl (I .int, 40, .inl f879)), (q862, .inl (I .int, 40, .inl f880)), (q863, .inl (I .int, 40, .inl f881)), (q864, .inl (I .int, 200, .inl f891)), (q865, .inl (I .int, 200, .inl f883)), (q866, .inl (I .int, 200, .inl f884)), (q867, .inl (I .int, 200, .inl f885)), (q868, .inl (I .int, 200, .inl f886)), (q869, .inl (I .int, 200, .inl f887))]) (cs' := 0) (sl' := 0) rfl rfl rfl ?_
    have bf891 : gF f891 0 21 := gF_upd hf891 bf882 bp870
    refine G_aload_n 0 d_cX0_add_28 rfl ?_
    refine G_getf 0 4 d_cX0_add_29 rfl (gk_X0 D I) (Nat.le_of_ble_eq_true rfl) w_1_163 rfl ?_
    refine G_aload_n 0 d_cX0_add_32 rfl ?_
    refine G_getf 0 10 d_cX0_add_33 rfl (gk_X0 D I) (Nat.le_of_ble_eq_true rfl) w_1_197 rfl ?_
    refine G_iload_n 2 d_cX0_add_36 rfl ?_
    refine G_iastN 5 0 d_cX0_add_37 rfl rfl (gB_in bp877' (by decide) (by decide)) (fun f892 hf892 => ?_)
    refine G_ws (ws' := [(q860, .inr (5, [.ref q861, .ref q862, .ref q863, .ref q864, .ref q865, .ref q866, .ref q867, .ref q868, .ref q869, .int p876, .int p877, .int p878])), (q861, .inl (I .int, 40, .inl f879)), (q862, .inl (I .int, 40, .inl f880)), (q863, .inl (I .int, 40, .inl f881)), (q864, .inl (I .int, 200, .inl f891)), (q865, .inl (I .int, 200, .inl f892)), (q866, .inl (I .int, 200, .inl f884)), (q867, .inl (I .int, 200, .inl f885)), (q868, .inl (I .int, 200, .inl f886)), (q869, .inl (I .int, 200, .inl f887))]) (cs' := 0) (sl' := 0) rfl rfl rfl ?_
    refine G_aload_n 0 d_cX0_add_38 rfl ?_
    refine G_getf 0 5 d_cX0_add_39 rfl (gk_X0 D I) (Nat.le_of_ble_eq_true rfl) w_1_168 rfl ?_
    refine G_aload_n 0 d_cX0_add_42 rfl ?_
    refine G_getf 0 10 d_cX0_add_43 rfl (gk_X0 D I) (Nat.le_of_ble_eq_true rfl) w_1_197 rfl ?_
    refine G_iload_n 3 d_cX0_add_46 rfl ?_
    refine G_iastN 6 0 d_cX0_add_47 rfl rfl (gB_in bp877' (by decide) (by decide)) (fun f893 hf893 => ?_)
    refine G_ws (ws' := [(q860, .inr (5, [.ref q861, .ref q862, .ref q863, .ref q864, .ref q865, .ref q866, .ref q867, .ref q868, .ref q869, .int p876, .int p877, .int p878])), (q861, .inl (I .int, 40, .inl f879)), (q862, .inl (I .int, 40, .inl f880)), (q863, .inl (I .int, 40, .inl f881)), (q864, .inl (I .int, 200, .inl f891)), (q865, .inl (I .int, 200, .inl f892)), (q866, .inl (I .int, 200, .inl f893)), (q867, .inl (I .int, 200, .inl f885)), (q868, .inl (I .int, 200, .inl f886)), (q869, .inl (I .int, 200, .inl f887))]) (cs' := 0) (sl' := 0) rfl rfl rfl ?_
    refine G_aload_n 0 d_cX0_add_48 rfl ?_
    refine G_getf 0 6 d_cX0_add_49 rfl (gk_X0 D I) (Nat.le_of_ble_eq_true rfl) w_1_174 rfl ?_
    refine G_aload_n 0 d_cX0_add_52 rfl ?_
    refine G_getf 0 10 d_cX0_add_53 rfl (gk_X0 D I) (Nat.le_of_ble_eq_true rfl) w_1_197 rfl ?_
    refine G_iload 4 d_cX0_add_56 rfl ?_
    refine G_iastN 7 0 d_cX0_add_58 rfl rfl (gB_in bp877' (by decide) (by decide)) (fun f894 hf894 => ?_)
    refine G_ws (ws' := [(q860, .inr (5, [.ref q861, .ref q862, .ref q863, .ref q864, .ref q865, .ref q866, .ref q867, .ref q868, .ref q869, .int p876, .int p877, .int p878])), (q861, .inl (I .int, 40, .inl f879)), (q862, .inl (I .int, 40, .inl f880)), (q863, .inl (I .int, 40, .inl f881)), (q864, .inl (I .int, 200, .inl f891)), (q865, .inl (I .int, 200, .inl f892)), (q866, .inl (I .int, 200, .inl f893)), (q867, .inl (I .int, 200, .inl f894)), (q868, .inl (I .int, 200, .inl f886)), (q869, .inl (I .int, 200, .inl f887))]) (cs' := 0) (sl' := 0) rfl rfl rfl ?_
    refine G_aload_n 0 d_cX0_add_59 rfl ?_
    refine G_getf 0 7 d_cX0_add_60 rfl (gk_X0 D I) (Nat.le_of_ble_eq_true rfl) w_1_178 rfl ?_
    refine G_aload_n 0 d_cX0_add_63 rfl ?_
    refine G_getf 0 10 d_cX0_add_64 rfl (gk_X0 D I) (Nat.le_of_ble_eq_true rfl) w_1_197 rfl ?_
    refine G_iload 5 d_cX0_add_67 rfl ?_
    refine G_iastN 8 0 d_cX0_add_69 rfl rfl (gB_in bp877' (by decide) (by decide)) (fun f895 hf895 => ?_)
    refine G_ws (ws' := [(q860, .inr (5, [.ref q861, .ref q862, .ref q863, .ref q864, .ref q865, .ref q866, .ref q867, .ref q868, .ref q869, .int p876, .int p877, .int p878])), (q861, .inl (I .int, 40, .inl f879)), (q862, .inl (I .int, 40, .inl f880)), (q863, .inl (I .int, 40, .inl f881)), (q864, .inl (I .int, 200, .inl f891)), (q865, .inl (I .int, 200, .inl f892)), (q866, .inl (I .int, 200, .inl f893)), (q867, .inl (I .int, 200, .inl f894)), (q868, .inl (I .int, 200, .inl f895)), (q869, .inl (I .int, 200, .inl f887))]) (cs' := 0) (sl' := 0) rfl rfl rfl ?_
    refine G_aload_n 0 d_cX0_add_70 rfl ?_
    refine G_getf 0 8 d_cX0_add_71 rfl (gk_X0 D I) (Nat.le_of_ble_eq_true rfl) w_1_183 rfl ?_
    refine G_aload_n 0 d_cX0_add_74 rfl ?_
    refine G_getf 0 10 d_cX0_add_75 rfl (gk_X0 D I) (Nat.le_of_ble_eq_true rfl) w_1_197 rfl ?_
    refine G_iload 6 d_cX0_add_78 rfl ?_
    refine G_iastN 9 0 d_cX0_add_80 rfl rfl (gB_in bp877' (by decide) (by decide)) (fun f896 hf896 => ?_)
    refine G_ws (ws' := [(q860, .inr (5, [.ref q861, .ref q862, .ref q863, .ref q864, .ref q865, .ref q866, .ref q867, .ref q868, .ref q869, .int p876, .int p877, .int p878])), (q861, .inl (I .int, 40, .inl f879)), (q862, .inl (I .int, 40, .inl f880)), (q863, .inl (I .int, 40, .inl f881)), (q864, .inl (I .int, 200, .inl f891)), (q865, .inl (I .int, 200, .inl f892)), (q866, .inl (I .int, 200, .inl f893)), (q867, .inl (I .int, 200, .inl f894)), (q868, .inl (I .int, 200, .inl f895)), (q869, .inl (I .int, 200, .inl f896))]) (cs' := 0) (sl' := 0) rfl rfl rfl ?_
    refine G_aload_n 0 d_cX0_add_81 rfl ?_
    refine G_dup d_cX0_add_82 rfl ?_
    refine G_getf 0 10 d_cX0_add_83 rfl (gk_X0 D I) (Nat.le_of_ble_eq_true rfl) w_1_197 rfl ?_
    refine G_iconst 1 d_cX0_add_86 (by decide +kernel) ?_
    refine G_iadd d_cX0_add_87 (G_nam fun z897 hz897 => ?_)
    have ez897 : z897.toInt = p877.toInt + 1 := by rw [gI_add hz897 bp877' (gBl (show Int32.toInt 1 = 1 by decide)) (by decide) (by decide), show Int32.toInt 1 = 1 from by decide]
    have bz897 : gB z897 1 200 := gB_add (gI_add hz897 bp877' (gBl (show Int32.toInt 1 = 1 by decide)) (by decide) (by decide)) bp877' (gBl (show Int32.toInt 1 = 1 by decide)) (by decide) (by decide)
    refine G_putf (ws' := [(q860, .inr (5, [.ref q861, .ref q862, .ref q863, .ref q864, .ref q865, .ref q866, .ref q867, .ref q868, .ref q869, .int p876, .int z897, .int p878])), (q861, .inl (I .int, 40, .inl f879)), (q862, .inl (I .int, 40, .inl f880)), (q863, .inl (I .int, 40, .inl f881)), (q864, .inl (I .int, 200, .inl f891)), (q865, .inl (I .int, 200, .inl f892)), (q866, .inl (I .int, 200, .inl f893)), (q867, .inl (I .int, 200, .inl f894)), (q868, .inl (I .int, 200, .inl f895)), (q869, .inl (I .int, 200, .inl f896))]) 0 10 d_cX0_add_88 rfl (gk_X0 D I) (Nat.le_of_ble_eq_true rfl) w_1_197 rfl rfl rfl (Nat.le_of_ble_eq_true rfl) rfl ?_
    exact G_vret d_cX0_add_91 rfl (Nat.le_of_ble_eq_true rfl) (Nat.le_of_ble_eq_true rfl) ⟨z897, f891, f892, f893, f894, f895, f896, p878, rfl, rfl, bz897, bf891, (gF_any f892), (gF_any f893), (gF_any f894), (gF_any f895), (gF_any f896), bp878⟩
  · have r898 : 200 ≤ p877.toInt := gj_nlt hc889 (show Int32.toInt 200 = 200 by decide)
    have bp877' : gB p877 200 200 := ⟨by omega, by omega⟩
    refine G_aload_n 0 d_cX0_add_12 rfl ?_
    refine G_iconst 1 d_cX0_add_13 (by decide +kernel) ?_
    refine G_putf (ws' := [(q860, .inr (5, [.ref q861, .ref q862, .ref q863, .ref q864, .ref q865, .ref q866, .ref q867, .ref q868, .ref q869, .int p876, .int p877, .int 1])), (q861, .inl (I .int, 40, .inl f879)), (q862, .inl (I .int, 40, .inl f880)), (q863, .inl (I .int, 40, .inl f881)), (q864, .inl (I .int, 200, .inl f882)), (q865, .inl (I .int, 200, .inl f883)), (q866, .inl (I .int, 200, .inl f884)), (q867, .inl (I .int, 200, .inl f885)), (q868, .inl (I .int, 200, .inl f886)), (q869, .inl (I .int, 200, .inl f887))]) 0 11 d_cX0_add_14 rfl (gk_X0 D I) (Nat.le_of_ble_eq_true rfl) w_1_200 rfl rfl rfl (Nat.le_of_ble_eq_true rfl) rfl ?_
    exact G_vret d_cX0_add_17 rfl (Nat.le_of_ble_eq_true rfl) (Nat.le_of_ble_eq_true rfl) ⟨p877, f882, f883, f884, f885, f886, f887, 1, rfl, rfl, (gB_w bp877' (by decide) (by decide)), bf882, (gF_any f883), (gF_any f884), (gF_any f885), (gF_any f886), (gF_any f887), (gB_w (gBl (show Int32.toInt 1 = 1 by decide)) (by decide) (by decide))⟩
abbrev ky_929_Code_openLike : gKey := (cX0_openLike, 3, yX0_openLike.cls, none, [], yX0_openLike.name, fun _ _ => True)
abbrev po_929_Code_openLike (I : FieldType → ClassId) (q907 : Nat) (q908 : Nat) (q909 : Nat) (q910 : Nat) (q911 : Nat) (q912 : Nat) (q913 : Nat) (q914 : Nat) (q915 : Nat) (q916 : Nat) (p917 : Int32) (p918 : Int32) (p919 : Int32) (f920 : Nat → Int32) (f921 : Nat → Int32) (f922 : Nat → Int32) (f923 : Nat → Int32) (f924 : Nat → Int32) (f925 : Nat → Int32) (f926 : Nat → Int32) (f927 : Nat → Int32) (f928 : Nat → Int32) : Option Value → va_W → Prop := fun r w => r = none ∧ w = [(q907, .inr (5, [.ref q908, .ref q909, .ref q910, .ref q911, .ref q912, .ref q913, .ref q914, .ref q915, .ref q916, .int p917, .int p918, .int p919])), (q908, .inl (I .int, 40, .inl f920)), (q909, .inl (I .int, 40, .inl f921)), (q910, .inl (I .int, 40, .inl f922)), (q911, .inl (I .int, 200, .inl f923)), (q912, .inl (I .int, 200, .inl f924)), (q913, .inl (I .int, 200, .inl f925)), (q914, .inl (I .int, 200, .inl f926)), (q915, .inl (I .int, 200, .inl f927)), (q916, .inl (I .int, 200, .inl f928))]
set_option maxRecDepth 100000 in
set_option maxHeartbeats 4000000 in
theorem ct_929_Code_openLike (l : Launch) (hl0 : l.stackTraces = false) (D : va_G) (I : FieldType → ClassId) (q907 : Nat) (q908 : Nat) (q909 : Nat) (q910 : Nat) (q911 : Nat) (q912 : Nat) (q913 : Nat) (q914 : Nat) (q915 : Nat) (q916 : Nat) (p917 : Int32) (p918 : Int32) (p919 : Int32) (f920 : Nat → Int32) (f921 : Nat → Int32) (f922 : Nat → Int32) (f923 : Nat → Int32) (f924 : Nat → Int32) (f925 : Nat → Int32) (f926 : Nat → Int32) (f927 : Nat → Int32) (f928 : Nat → Int32) (bp917 : gB p917 0 40) (bp918 : gB p918 0 200) (bp919 : gB p919 0 1) (bf920 : gF f920 0 200) (bf923 : gF f923 0 21) : Ct (gV D I) l yX0_openLike cX0_openLike 3 none 0 0 0 0 [.ref q907, .ref q907] [(q907, .inr (5, [.ref q908, .ref q909, .ref q910, .ref q911, .ref q912, .ref q913, .ref q914, .ref q915, .ref q916, .int p917, .int p918, .int p919])), (q908, .inl (I .int, 40, .inl f920)), (q909, .inl (I .int, 40, .inl f921)), (q910, .inl (I .int, 40, .inl f922)), (q911, .inl (I .int, 200, .inl f923)), (q912, .inl (I .int, 200, .inl f924)), (q913, .inl (I .int, 200, .inl f925)), (q914, .inl (I .int, 200, .inl f926)), (q915, .inl (I .int, 200, .inl f927)), (q916, .inl (I .int, 200, .inl f928))] (po_929_Code_openLike I q907 q908 q909 q910 q911 q912 q913 q914 q915 q916 p917 p918 p919 f920 f921 f922 f923 f924 f925 f926 f927 f928) gN := by
  refine Ct_of hl0 (by decide) (Nat.le_of_ble_eq_true rfl) ?_
  refine G_aload_n 0 d_cX0_openLike_0 rfl ?_
  refine G_getf 0 9 d_cX0_openLike_1 rfl (gk_X0 D I) (Nat.le_of_ble_eq_true rfl) w_1_187 rfl ?_
  refine G_istore_n (L' := [(2, .int p917), (0, .ref q907), (1, .ref q907)]) d_cX0_openLike_4 (Nat.le_of_ble_eq_true rfl) rfl ?_
  refine G_iload_n 0 d_cX0_openLike_5 rfl ?_
  refine G_aload_n 2 d_cX0_openLike_6 rfl ?_
  refine G_getf 0 9 d_cX0_openLike_7 rfl (gk_X0 D I) (Nat.le_of_ble_eq_true rfl) w_1_187 rfl ?_
  refine G_icmp_ge 44 d_cX0_openLike_10 (by decide +kernel) (fun _ => ?_) (fun hc => absurd (show False by have := gC_nle hc; omega) not_false)
  exact G_vret d_cX0_openLike_44 rfl (Nat.le_of_ble_eq_true rfl) (Nat.le_of_ble_eq_true rfl) ⟨rfl, rfl⟩
abbrev ky_962_Code_nameIn : gKey := (cX0_nameIn, 2, yX0_nameIn.cls, (some FieldType.int), [], yX0_nameIn.name, fun _ _ => True)
abbrev po_962_Code_nameIn (I : FieldType → ClassId) (q959 : Nat) (p960 : Int32) (f961 : Nat → Int32) : Option Value → va_W → Prop := fun r w => (r = some (.int p960) ∧ w = [(q959, .inl (I .int, 720, .inl f961))] ∧ p960.toInt < 0) ∨ (r = some (.int p960) ∧ w = [(q959, .inl (I .int, 720, .inl f961))] ∧ 0 ≤ p960.toInt ∧ 720 ≤ p960.toInt) ∨ (∃ (z969 : Int32), r = some (.int z969) ∧ w = [(q959, .inl (I .int, 720, .inl f961))] ∧ 0 ≤ p960.toInt ∧ p960.toInt < 720 ∧ gB z969 (-2147483648) 2147483647)
set_option maxRecDepth 100000 in
set_option maxHeartbeats 4000000 in
theorem ct_962_Code_nameIn (l : Launch) (hl0 : l.stackTraces = false) (D : va_G) (I : FieldType → ClassId) (q959 : Nat) (p960 : Int32) (f961 : Nat → Int32)  : Ct (gV D I) l yX0_nameIn cX0_nameIn 2 (some FieldType.int) 0 0 0 0 [.ref q959, .int p960] [(q959, .inl (I .int, 720, .inl f961))] (po_962_Code_nameIn I q959 p960 f961) gN := by
  refine Ct_of hl0 (by decide) (Nat.le_of_ble_eq_true rfl) ?_
  have bp960 := gB_any p960
  refine G_iload_n 1 d_cX0_nameIn_0 rfl ?_
  refine G_if_lt 16 d_cX0_nameIn_1 (by decide +kernel) (fun hc963 => ?_) (fun hc963 => ?_)
  · have r964 : p960.toInt < 0 := gj_lt hc963 (show Int32.toInt 0 = 0 by decide)
    have bp960' : gB p960 (-2147483648) (-1) := ⟨by omega, by omega⟩
    refine G_iload_n 1 d_cX0_nameIn_16 rfl ?_
    exact G_iret d_cX0_nameIn_17 rfl (Nat.le_of_ble_eq_true rfl) (Nat.le_of_ble_eq_true rfl) (Or.inl ⟨rfl, rfl, r964⟩)
  · have r965 : 0 ≤ p960.toInt := gj_nlt hc963 (show Int32.toInt 0 = 0 by decide)
    have bp960' : gB p960 0 2147483647 := ⟨by omega, by omega⟩
    refine G_iload_n 1 d_cX0_nameIn_4 rfl ?_
    refine G_aload_n 0 d_cX0_nameIn_5 rfl ?_
    refine G_alen 720 0 0 d_cX0_nameIn_6 rfl rfl rfl ?_
    refine G_icmp_ge 16 d_cX0_nameIn_7 (by decide +kernel) (fun hc966 => ?_) (fun hc966 => ?_)
    · have r967 : 720 ≤ p960.toInt := gj_leL hc966 (show Int32.toInt 720 = 720 by decide)
      have bp960'' : gB p960 720 2147483647 := ⟨by omega, by omega⟩
      refine G_iload_n 1 d_cX0_nameIn_16 rfl ?_
      exact G_iret d_cX0_nameIn_17 rfl (Nat.le_of_ble_eq_true rfl) (Nat.le_of_ble_eq_true rfl) (Or.inr (Or.inl ⟨rfl, rfl, r965, r967⟩))
    · have r968 : p960.toInt < 720 := gj_nleL hc966 (show Int32.toInt 720 = 720 by decide)
      have bp960'' : gB p960 0 719 := ⟨by omega, by omega⟩
      refine G_aload_n 0 d_cX0_nameIn_10 rfl ?_
      refine G_iload_n 1 d_cX0_nameIn_11 rfl ?_
      refine G_iald 0 0 d_cX0_nameIn_12 rfl rfl (gB_in bp960'' (by decide) (by decide)) (G_nam fun z969 hz969 => ?_)
      have bz969 : gB z969 (-2147483648) 2147483647 := gB_any z969
      refine G_goto 17 d_cX0_nameIn_13 (by decide +kernel) ?_
      exact G_iret d_cX0_nameIn_17 rfl (Nat.le_of_ble_eq_true rfl) (Nat.le_of_ble_eq_true rfl) (Or.inr (Or.inr (⟨z969, rfl, rfl, r965, r968, bz969⟩)))
abbrev ky_954_Code_rename : gKey := (cX0_rename, 3, yX0_rename.cls, none, [], yX0_rename.name, fun _ _ => True)
abbrev po_954_Code_rename (I : FieldType → ClassId) (q930 : Nat) (q931 : Nat) (q932 : Nat) (q933 : Nat) (q934 : Nat) (q935 : Nat) (q936 : Nat) (q937 : Nat) (q938 : Nat) (q939 : Nat) (q940 : Nat) (p941 : Int32) (p942 : Int32) (p943 : Int32) (f944 : Nat → Int32) (f945 : Nat → Int32) (f946 : Nat → Int32) (f947 : Nat → Int32) (f948 : Nat → Int32) (f949 : Nat → Int32) (f950 : Nat → Int32) (f951 : Nat → Int32) (f952 : Nat → Int32) (f953 : Nat → Int32) : Option Value → va_W → Prop := fun r w => ∃ (f2174 : Nat → Int32) (f2175 : Nat → Int32) (f2176 : Nat → Int32), r = none ∧ w = [(q930, .inr (5, [.ref q932, .ref q933, .ref q934, .ref q935, .ref q936, .ref q937, .ref q938, .ref q939, .ref q940, .int p941, .int p942, .int p943])), (q931, .inl (I .int, 720, .inl f944)), (q932, .inl (I .int, 40, .inl f945)), (q933, .inl (I .int, 40, .inl f946)), (q934, .inl (I .int, 40, .inl f947)), (q935, .inl (I .int, 200, .inl f948)), (q936, .inl (I .int, 200, .inl f2174)), (q937, .inl (I .int, 200, .inl f2175)), (q938, .inl (I .int, 200, .inl f951)), (q939, .inl (I .int, 200, .inl f2176)), (q940, .inl (I .int, 200, .inl f953))] ∧ gF f2174 (-2147483648) 2147483647 ∧ gF f2175 (-2147483648) 2147483647 ∧ gF f2176 (-2147483648) 2147483647
set_option maxRecDepth 100000 in
set_option maxHeartbeats 4000000 in
theorem ct_954_Code_rename (l : Launch) (hl0 : l.stackTraces = false) (D : va_G) (I : FieldType → ClassId) (q930 : Nat) (q931 : Nat) (q932 : Nat) (q933 : Nat) (q934 : Nat) (q935 : Nat) (q936 : Nat) (q937 : Nat) (q938 : Nat) (q939 : Nat) (q940 : Nat) (p941 : Int32) (p942 : Int32) (p943 : Int32) (f944 : Nat → Int32) (f945 : Nat → Int32) (f946 : Nat → Int32) (f947 : Nat → Int32) (f948 : Nat → Int32) (f949 : Nat → Int32) (f950 : Nat → Int32) (f951 : Nat → Int32) (f952 : Nat → Int32) (f953 : Nat → Int32) (bp941 : gB p941 0 40) (bp942 : gB p942 0 200) (bp943 : gB p943 0 1) (bf945 : gF f945 0 200) (bf948 : gF f948 0 21) : Ct (gV D I) l yX0_rename cX0_rename 3 none 1 21 0 0 [.ref q930, .ref q931] [(q930, .inr (5, [.ref q932, .ref q933, .ref q934, .ref q935, .ref q936, .ref q937, .ref q938, .ref q939, .ref q940, .int p941, .int p942, .int p943])), (q931, .inl (I .int, 720, .inl f944)), (q932, .inl (I .int, 40, .inl f945)), (q933, .inl (I .int, 40, .inl f946)), (q934, .inl (I .int, 40, .inl f947)), (q935, .inl (I .int, 200, .inl f948)), (q936, .inl (I .int, 200, .inl f949)), (q937, .inl (I .int, 200, .inl f950)), (q938, .inl (I .int, 200, .inl f951)), (q939, .inl (I .int, 200, .inl f952)), (q940, .inl (I .int, 200, .inl f953))] (po_954_Code_rename I q930 q931 q932 q933 q934 q935 q936 q937 q938 q939 q940 p941 p942 p943 f944 f945 f946 f947 f948 f949 f950 f951 f952 f953) gN := by
  refine Ct_of hl0 (by decide) (Nat.le_of_ble_eq_true rfl) ?_
  refine G_iconst 0 d_cX0_rename_0 (by decide +kernel) ?_
  refine G_istore_n (L' := [(2, .int 0), (0, .ref q930), (1, .ref q931)]) d_cX0_rename_1 (Nat.le_of_ble_eq_true rfl) rfl ?_
  have hlp2_2000 : ∀ (n2_2000 : Nat) (g1997 : Int32) (f1998 : Nat → Int32) (f1999 : Nat → Int32) (f2000 : Nat → Int32), gB g1997 0 200 → gF f1998 (-2147483648) 2147483647 → gF f1999 (-2147483648) 2147483647 → gF f2000 (-2147483648) 2147483647 → ((201 : Int) - g1997.toInt).toNat < n2_2000 → G (gV D I) l (gRm 1 21 0 0) (gM (gV D I) (po_954_Code_rename I q930 q931 q932 q933 q934 q935 q936 q937 q938 q939 q940 p941 p942 p943 f944 f945 f946 f947 f948 f949 f950 f951 f952 f953) gN 0 0) ky_954_Code_rename 2 [(2, .int g1997), (0, .ref q930), (1, .ref q931)] [] [(q930, .inr (5, [.ref q932, .ref q933, .ref q934, .ref q935, .ref q936, .ref q937, .ref q938, .ref q939, .ref q940, .int p941, .int p942, .int p943])), (q931, .inl (I .int, 720, .inl f944)), (q932, .inl (I .int, 40, .inl f945)), (q933, .inl (I .int, 40, .inl f946)), (q934, .inl (I .int, 40, .inl f947)), (q935, .inl (I .int, 200, .inl f948)), (q936, .inl (I .int, 200, .inl f1998)), (q937, .inl (I .int, 200, .inl f1999)), (q938, .inl (I .int, 200, .inl f951)), (q939, .inl (I .int, 200, .inl f2000)), (q940, .inl (I .int, 200, .inl f953))] 0 0 := by
    intro n2_2000
    induction n2_2000 with
    | zero => intro g1997 f1998 f1999 f2000 bg1997 bf1998 bf1999 bf2000 hm2_2000; exact absurd hm2_2000 (Nat.not_lt_zero _)
    | succ n2_2000 ih2_2000 =>
      intro g1997 f1998 f1999 f2000 bg1997 bf1998 bf1999 bf2000 hm2_2000
      refine G_iload_n 0 d_cX0_rename_2 rfl ?_
      refine G_aload_n 1 d_cX0_rename_3 rfl ?_
      refine G_getf 0 10 d_cX0_rename_4 rfl (gk_X0 D I) (Nat.le_of_ble_eq_true rfl) w_1_197 rfl ?_
      refine G_icmp_ge 64 d_cX0_rename_7 (by decide +kernel) (fun hc2001 => ?_) (fun hc2001 => ?_)
      · have r2002 : p942.toInt ≤ g1997.toInt := gC_le hc2001
        exact G_vret d_cX0_rename_64 rfl (Nat.le_of_ble_eq_true rfl) (Nat.le_of_ble_eq_true rfl) ⟨f1998, f1999, f2000, rfl, rfl, bf1998, bf1999, bf2000⟩
      · have r2003 : g1997.toInt < p942.toInt := gC_nle hc2001
        have bg1997' : gB g1997 0 199 := ⟨by omega, by omega⟩
        have bp942' : gB p942 1 200 := ⟨by omega, by omega⟩
        refine G_aload_n 1 d_cX0_rename_10 rfl ?_
        refine G_getf 0 4 d_cX0_rename_11 rfl (gk_X0 D I) (Nat.le_of_ble_eq_true rfl) w_1_163 rfl ?_
        refine G_iload_n 0 d_cX0_rename_14 rfl ?_
        refine G_aload_n 2 d_cX0_rename_15 rfl ?_
        refine G_aload_n 1 d_cX0_rename_16 rfl ?_
        refine G_getf 0 4 d_cX0_rename_17 rfl (gk_X0 D I) (Nat.le_of_ble_eq_true rfl) w_1_163 rfl ?_
        refine G_iload_n 0 d_cX0_rename_20 rfl ?_
        refine G_iald 6 0 d_cX0_rename_21 rfl rfl (gB_in bg1997' (by decide) (by decide)) (G_nam fun z2004 hz2004 => ?_)
        have bz2004 : gB z2004 (-2147483648) 2147483647 := by rw [hz2004]; exact bf1998 _
        refine G_callS (As := [.ref q931, .int z2004]) (wr := [(q930, .inr (5, [.ref q932, .ref q933, .ref q934, .ref q935, .ref q936, .ref q937, .ref q938, .ref q939, .ref q940, .int p941, .int p942, .int p943])), (q932, .inl (I .int, 40, .inl f945)), (q933, .inl (I .int, 40, .inl f946)), (q934, .inl (I .int, 40, .inl f947)), (q935, .inl (I .int, 200, .inl f948)), (q936, .inl (I .int, 200, .inl f1998)), (q937, .inl (I .int, 200, .inl f1999)), (q938, .inl (I .int, 200, .inl f951)), (q939, .inl (I .int, 200, .inl f2000)), (q940, .inl (I .int, 200, .inl f953))]) (gV_ok D I) (ct_962_Code_nameIn l hl0 D I q931 z2004 f944 ) d_cX0_rename_22 ⟨w_5_154, w_1_5, w_5_156, by decide, rfl, (Nat.le_of_ble_eq_true rfl), (Nat.le_of_ble_eq_true rfl)⟩ w_5_155 [1] [0, 2, 3, 4, 5, 6, 7, 8, 9, 10] rfl rfl rfl rfl (by decide) (Nat.le_of_ble_eq_true rfl) (Nat.le_of_ble_eq_true rfl) (Nat.le_of_ble_eq_true rfl) (fun r w hp => ?_) (fun _ _ _ z => z.elim)
        rcases hp with ⟨rfl, rfl, r2005⟩ | ⟨rfl, rfl, r2006, r2007⟩ | ⟨z2008, rfl, rfl, r2009, r2010, r2011⟩
        · have bz2004' : gB z2004 (-2147483648) (-1) := ⟨by omega, by omega⟩
          change G _ _ _ _ _ _ _ (.int z2004 :: _) _ _ _
          refine G_ws (ws' := [(q930, .inr (5, [.ref q932, .ref q933, .ref q934, .ref q935, .ref q936, .ref q937, .ref q938, .ref q939, .ref q940, .int p941, .int p942, .int p943])), (q932, .inl (I .int, 40, .inl f945)), (q933, .inl (I .int, 40, .inl f946)), (q934, .inl (I .int, 40, .inl f947)), (q935, .inl (I .int, 200, .inl f948)), (q936, .inl (I .int, 200, .inl f1998)), (q937, .inl (I .int, 200, .inl f1999)), (q938, .inl (I .int, 200, .inl f951)), (q939, .inl (I .int, 200, .inl f2000)), (q940, .inl (I .int, 200, .inl f953)), (q931, .inl (I .int, 720, .inl f944))]) (cs' := 0) (sl' := 0) rfl rfl rfl ?_
          refine G_iastN 5 0 d_cX0_rename_25 rfl rfl (gB_in bg1997' (by decide) (by decide)) (fun f2012 hf2012 => ?_)
          refine G_ws (ws' := [(q930, .inr (5, [.ref q932, .ref q933, .ref q934, .ref q935, .ref q936, .ref q937, .ref q938, .ref q939, .ref q940, .int p941, .int p942, .int p943])), (q932, .inl (I .int, 40, .inl f945)), (q933, .inl (I .int, 40, .inl f946)), (q934, .inl (I .int, 40, .inl f947)), (q935, .inl (I .int, 200, .inl f948)), (q936, .inl (I .int, 200, .inl f2012)), (q937, .inl (I .int, 200, .inl f1999)), (q938, .inl (I .int, 200, .inl f951)), (q939, .inl (I .int, 200, .inl f2000)), (q940, .inl (I .int, 200, .inl f953)), (q931, .inl (I .int, 720, .inl f944))]) (cs' := 0) (sl' := 0) rfl rfl rfl ?_
          refine G_aload_n 1 d_cX0_rename_26 rfl ?_
          refine G_getf 0 5 d_cX0_rename_27 rfl (gk_X0 D I) (Nat.le_of_ble_eq_true rfl) w_1_168 rfl ?_
          refine G_iload_n 0 d_cX0_rename_30 rfl ?_
          refine G_aload_n 2 d_cX0_rename_31 rfl ?_
          refine G_aload_n 1 d_cX0_rename_32 rfl ?_
          refine G_getf 0 5 d_cX0_rename_33 rfl (gk_X0 D I) (Nat.le_of_ble_eq_true rfl) w_1_168 rfl ?_
          refine G_iload_n 0 d_cX0_rename_36 rfl ?_
          refine G_iald 6 0 d_cX0_rename_37 rfl rfl (gB_in bg1997' (by decide) (by decide)) (G_nam fun z2013 hz2013 => ?_)
          have bz2013 : gB z2013 (-2147483648) 2147483647 := by rw [hz2013]; exact bf1999 _
          refine G_callS (As := [.ref q931, .int z2013]) (wr := [(q930, .inr (5, [.ref q932, .ref q933, .ref q934, .ref q935, .ref q936, .ref q937, .ref q938, .ref q939, .ref q940, .int p941, .int p942, .int p943])), (q932, .inl (I .int, 40, .inl f945)), (q933, .inl (I .int, 40, .inl f946)), (q934, .inl (I .int, 40, .inl f947)), (q935, .inl (I .int, 200, .inl f948)), (q936, .inl (I .int, 200, .inl f2012)), (q937, .inl (I .int, 200, .inl f1999)), (q938, .inl (I .int, 200, .inl f951)), (q939, .inl (I .int, 200, .inl f2000)), (q940, .inl (I .int, 200, .inl f953))]) (gV_ok D I) (ct_962_Code_nameIn l hl0 D I q931 z2013 f944 ) d_cX0_rename_38 ⟨w_5_154, w_1_5, w_5_156, by decide, rfl, (Nat.le_of_ble_eq_true rfl), (Nat.le_of_ble_eq_true rfl)⟩ w_5_155 [10] [0, 1, 2, 3, 4, 5, 6, 7, 8, 9] rfl rfl rfl rfl (by decide) (Nat.le_of_ble_eq_true rfl) (Nat.le_of_ble_eq_true rfl) (Nat.le_of_ble_eq_true rfl) (fun r w hp => ?_) (fun _ _ _ z => z.elim)
          rcases hp with ⟨rfl, rfl, r2014⟩ | ⟨rfl, rfl, r2015, r2016⟩ | ⟨z2017, rfl, rfl, r2018, r2019, r2020⟩
          · have bz2013' : gB z2013 (-2147483648) (-1) := ⟨by omega, by omega⟩
            change G _ _ _ _ _ _ _ (.int z2013 :: _) _ _ _
            refine G_ws (ws' := [(q930, .inr (5, [.ref q932, .ref q933, .ref q934, .ref q935, .ref q936, .ref q937, .ref q938, .ref q939, .ref q940, .int p941, .int p942, .int p943])), (q932, .inl (I .int, 40, .inl f945)), (q933, .inl (I .int, 40, .inl f946)), (q934, .inl (I .int, 40, .inl f947)), (q935, .inl (I .int, 200, .inl f948)), (q936, .inl (I .int, 200, .inl f2012)), (q937, .inl (I .int, 200, .inl f1999)), (q938, .inl (I .int, 200, .inl f951)), (q939, .inl (I .int, 200, .inl f2000)), (q940, .inl (I .int, 200, .inl f953)), (q931, .inl (I .int, 720, .inl f944))]) (cs' := 0) (sl' := 0) rfl rfl rfl ?_
            refine G_iastN 6 0 d_cX0_rename_41 rfl rfl (gB_in bg1997' (by decide) (by decide)) (fun f2021 hf2021 => ?_)
            refine G_ws (ws' := [(q930, .inr (5, [.ref q932, .ref q933, .ref q934, .ref q935, .ref q936, .ref q937, .ref q938, .ref q939, .ref q940, .int p941, .int p942, .int p943])), (q932, .inl (I .int, 40, .inl f945)), (q933, .inl (I .int, 40, .inl f946)), (q934, .inl (I .int, 40, .inl f947)), (q935, .inl (I .int, 200, .inl f948)), (q936, .inl (I .int, 200, .inl f2012)), (q937, .inl (I .int, 200, .inl f2021)), (q938, .inl (I .int, 200, .inl f951)), (q939, .inl (I .int, 200, .inl f2000)), (q940, .inl (I .int, 200, .inl f953)), (q931, .inl (I .int, 720, .inl f944))]) (cs' := 0) (sl' := 0) rfl rfl rfl ?_
            refine G_aload_n 1 d_cX0_rename_42 rfl ?_
            refine G_getf 0 7 d_cX0_rename_43 rfl (gk_X0 D I) (Nat.le_of_ble_eq_true rfl) w_1_178 rfl ?_
            refine G_iload_n 0 d_cX0_rename_46 rfl ?_
            refine G_aload_n 2 d_cX0_rename_47 rfl ?_
            refine G_aload_n 1 d_cX0_rename_48 rfl ?_
            refine G_getf 0 7 d_cX0_rename_49 rfl (gk_X0 D I) (Nat.le_of_ble_eq_true rfl) w_1_178 rfl ?_
            refine G_iload_n 0 d_cX0_rename_52 rfl ?_
            refine G_iald 8 0 d_cX0_rename_53 rfl rfl (gB_in bg1997' (by decide) (by decide)) (G_nam fun z2022 hz2022 => ?_)
            have bz2022 : gB z2022 (-2147483648) 2147483647 := by rw [hz2022]; exact bf2000 _
            refine G_callS (As := [.ref q931, .int z2022]) (wr := [(q930, .inr (5, [.ref q932, .ref q933, .ref q934, .ref q935, .ref q936, .ref q937, .ref q938, .ref q939, .ref q940, .int p941, .int p942, .int p943])), (q932, .inl (I .int, 40, .inl f945)), (q933, .inl (I .int, 40, .inl f946)), (q934, .inl (I .int, 40, .inl f947)), (q935, .inl (I .int, 200, .inl f948)), (q936, .inl (I .int, 200, .inl f2012)), (q937, .inl (I .int, 200, .inl f2021)), (q938, .inl (I .int, 200, .inl f951)), (q939, .inl (I .int, 200, .inl f2000)), (q940, .inl (I .int, 200, .inl f953))]) (gV_ok D I) (ct_962_Code_nameIn l hl0 D I q931 z2022 f944 ) d_cX0_rename_54 ⟨w_5_154, w_1_5, w_5_156, by decide, rfl, (Nat.le_of_ble_eq_true rfl), (Nat.le_of_ble_eq_true rfl)⟩ w_5_155 [10] [0, 1, 2, 3, 4, 5, 6, 7, 8, 9] rfl rfl rfl rfl (by decide) (Nat.le_of_ble_eq_true rfl) (Nat.le_of_ble_eq_true rfl) (Nat.le_of_ble_eq_true rfl) (fun r w hp => ?_) (fun _ _ _ z => z.elim)
            rcases hp with ⟨rfl, rfl, r2023⟩ | ⟨rfl, rfl, r2024, r2025⟩ | ⟨z2026, rfl, rfl, r2027, r2028, r2029⟩
            · have bz2022' : gB z2022 (-2147483648) (-1) := ⟨by omega, by omega⟩
              change G _ _ _ _ _ _ _ (.int z2022 :: _) _ _ _
              refine G_ws (ws' := [(q930, .inr (5, [.ref q932, .ref q933, .ref q934, .ref q935, .ref q936, .ref q937, .ref q938, .ref q939, .ref q940, .int p941, .int p942, .int p943])), (q932, .inl (I .int, 40, .inl f945)), (q933, .inl (I .int, 40, .inl f946)), (q934, .inl (I .int, 40, .inl f947)), (q935, .inl (I .int, 200, .inl f948)), (q936, .inl (I .int, 200, .inl f2012)), (q937, .inl (I .int, 200, .inl f2021)), (q938, .inl (I .int, 200, .inl f951)), (q939, .inl (I .int, 200, .inl f2000)), (q940, .inl (I .int, 200, .inl f953)), (q931, .inl (I .int, 720, .inl f944))]) (cs' := 0) (sl' := 0) rfl rfl rfl ?_
              refine G_iastN 8 0 d_cX0_rename_57 rfl rfl (gB_in bg1997' (by decide) (by decide)) (fun f2030 hf2030 => ?_)
              refine G_ws (ws' := [(q930, .inr (5, [.ref q932, .ref q933, .ref q934, .ref q935, .ref q936, .ref q937, .ref q938, .ref q939, .ref q940, .int p941, .int p942, .int p943])), (q932, .inl (I .int, 40, .inl f945)), (q933, .inl (I .int, 40, .inl f946)), (q934, .inl (I .int, 40, .inl f947)), (q935, .inl (I .int, 200, .inl f948)), (q936, .inl (I .int, 200, .inl f2012)), (q937, .inl (I .int, 200, .inl f2021)), (q938, .inl (I .int, 200, .inl f951)), (q939, .inl (I .int, 200, .inl f2030)), (q940, .inl (I .int, 200, .inl f953)), (q931, .inl (I .int, 720, .inl f944))]) (cs' := 0) (sl' := 0) rfl rfl rfl ?_
              obtain ⟨z2031, hz2031⟩ : ∃ z : Int32, z = g1997 + Int32.ofInt 1 := ⟨_, rfl⟩
              have ez2031 : z2031.toInt = g1997.toInt + 1 := gI_inc hz2031 (by decide) bg1997' (by decide) (by decide)
              have bz2031 : gB z2031 1 200 := ⟨by omega, by omega⟩
              refine G_iinc (L' := [(2, .int z2031), (0, .ref q930), (1, .ref q931)]) z2031 0 d_cX0_rename_58 rfl hz2031.symm (Nat.le_of_ble_eq_true rfl) rfl ?_
              refine G_goto 2 d_cX0_rename_61 (by decide +kernel) ?_
              refine G_sub (ws' := [(q930, .inr (5, [.ref q932, .ref q933, .ref q934, .ref q935, .ref q936, .ref q937, .ref q938, .ref q939, .ref q940, .int p941, .int p942, .int p943])), (q931, .inl (I .int, 720, .inl f944)), (q932, .inl (I .int, 40, .inl f945)), (q933, .inl (I .int, 40, .inl f946)), (q934, .inl (I .int, 40, .inl f947)), (q935, .inl (I .int, 200, .inl f948)), (q936, .inl (I .int, 200, .inl f2012)), (q937, .inl (I .int, 200, .inl f2021)), (q938, .inl (I .int, 200, .inl f951)), (q939, .inl (I .int, 200, .inl f2030)), (q940, .inl (I .int, 200, .inl f953))]) [0, 10, 1, 2, 3, 4, 5, 6, 7, 8, 9] rfl rfl ?_
              exact ih2_2000 z2031 f2012 f2021 f2030 (gB_w bz2031 (by decide) (by decide)) (gF_any f2012) (gF_any f2021) (gF_any f2030) (by omega)
            · have bz2022' : gB z2022 0 2147483647 := ⟨by omega, by omega⟩
              have bz2022'' : gB z2022 720 2147483647 := ⟨by omega, by omega⟩
              change G _ _ _ _ _ _ _ (.int z2022 :: _) _ _ _
              refine G_ws (ws' := [(q930, .inr (5, [.ref q932, .ref q933, .ref q934, .ref q935, .ref q936, .ref q937, .ref q938, .ref q939, .ref q940, .int p941, .int p942, .int p943])), (q932, .inl (I .int, 40, .inl f945)), (q933, .inl (I .int, 40, .inl f946)), (q934, .inl (I .int, 40, .inl f947)), (q935, .inl (I .int, 200, .inl f948)), (q936, .inl (I .int, 200, .inl f2012)), (q937, .inl (I .int, 200, .inl f2021)), (q938, .inl (I .int, 200, .inl f951)), (q939, .inl (I .int, 200, .inl f2000)), (q940, .inl (I .int, 200, .inl f953)), (q931, .inl (I .int, 720, .inl f944))]) (cs' := 0) (sl' := 0) rfl rfl rfl ?_
              refine G_iastN 8 0 d_cX0_rename_57 rfl rfl (gB_in bg1997' (by decide) (by decide)) (fun f2032 hf2032 => ?_)
              refine G_ws (ws' := [(q930, .inr (5, [.ref q932, .ref q933, .ref q934, .ref q935, .ref q936, .ref q937, .ref q938, .ref q939, .ref q940, .int p941, .int p942, .int p943])), (q932, .inl (I .int, 40, .inl f945)), (q933, .inl (I .int, 40, .inl f946)), (q934, .inl (I .int, 40, .inl f947)), (q935, .inl (I .int, 200, .inl f948)), (q936, .inl (I .int, 200, .inl f2012)), (q937, .inl (I .int, 200, .inl f2021)), (q938, .inl (I .int, 200, .inl f951)), (q939, .inl (I .int, 200, .inl f2032)), (q940, .inl (I .int, 200, .inl f953)), (q931, .inl (I .int, 720, .inl f944))]) (cs' := 0) (sl' := 0) rfl rfl rfl ?_
              obtain ⟨z2033, hz2033⟩ : ∃ z : Int32, z = g1997 + Int32.ofInt 1 := ⟨_, rfl⟩
              have ez2033 : z2033.toInt = g1997.toInt + 1 := gI_inc hz2033 (by decide) bg1997' (by decide) (by decide)
              have bz2033 : gB z2033 1 200 := ⟨by omega, by omega⟩
              refine G_iinc (L' := [(2, .int z2033), (0, .ref q930), (1, .ref q931)]) z2033 0 d_cX0_rename_58 rfl hz2033.symm (Nat.le_of_ble_eq_true rfl) rfl ?_
              refine G_goto 2 d_cX0_rename_61 (by decide +kernel) ?_
              refine G_sub (ws' := [(q930, .inr (5, [.ref q932, .ref q933, .ref q934, .ref q935, .ref q936, .ref q937, .ref q938, .ref q939, .ref q940, .int p941, .int p942, .int p943])), (q931, .inl (I .int, 720, .inl f944)), (q932, .inl (I .int, 40, .inl f945)), (q933, .inl (I .int, 40, .inl f946)), (q934, .inl (I .int, 40, .inl f947)), (q935, .inl (I .int, 200, .inl f948)), (q936, .inl (I .int, 200, .inl f2012)), (q937, .inl (I .int, 200, .inl f2021)), (q938, .inl (I .int, 200, .inl f951)), (q939, .inl (I .int, 200, .inl f2032)), (q940, .inl (I .int, 200, .inl f953))]) [0, 10, 1, 2, 3, 4, 5, 6, 7, 8, 9] rfl rfl ?_
              exact ih2_2000 z2033 f2012 f2021 f2032 (gB_w bz2033 (by decide) (by decide)) (gF_any f2012) (gF_any f2021) (gF_any f2032) (by omega)
            · have bz2022' : gB z2022 0 2147483647 := ⟨by omega, by omega⟩
              have bz2022'' : gB z2022 0 719 := ⟨by omega, by omega⟩
              change G _ _ _ _ _ _ _ (.int z2026 :: _) _ _ _
              refine G_ws (ws' := [(q930, .inr (5, [.ref q932, .ref q933, .ref q934, .ref q935, .ref q936, .ref q937, .ref q938, .ref q939, .ref q940, .int p941, .int p942, .int p943])), (q932, .inl (I .int, 40, .inl f945)), (q933, .inl (I .int, 40, .inl f946)), (q934, .inl (I .int, 40, .inl f947)), (q935, .inl (I .int, 200, .inl f948)), (q936, .inl (I .int, 200, .inl f2012)), (q937, .inl (I .int, 200, .inl f2021)), (q938, .inl (I .int, 200, .inl f951)), (q939, .inl (I .int, 200, .inl f2000)), (q940, .inl (I .int, 200, .inl f953)), (q931, .inl (I .int, 720, .inl f944))]) (cs' := 0) (sl' := 0) rfl rfl rfl ?_
              refine G_iastN 8 0 d_cX0_rename_57 rfl rfl (gB_in bg1997' (by decide) (by decide)) (fun f2034 hf2034 => ?_)
              refine G_ws (ws' := [(q930, .inr (5, [.ref q932, .ref q933, .ref q934, .ref q935, .ref q936, .ref q937, .ref q938, .ref q939, .ref q940, .int p941, .int p942, .int p943])), (q932, .inl (I .int, 40, .inl f945)), (q933, .inl (I .int, 40, .inl f946)), (q934, .inl (I .int, 40, .inl f947)), (q935, .inl (I .int, 200, .inl f948)), (q936, .inl (I .int, 200, .inl f2012)), (q937, .inl (I .int, 200, .inl f2021)), (q938, .inl (I .int, 200, .inl f951)), (q939, .inl (I .int, 200, .inl f2034)), (q940, .inl (I .int, 200, .inl f953)), (q931, .inl (I .int, 720, .inl f944))]) (cs' := 0) (sl' := 0) rfl rfl rfl ?_
              obtain ⟨z2035, hz2035⟩ : ∃ z : Int32, z = g1997 + Int32.ofInt 1 := ⟨_, rfl⟩
              have ez2035 : z2035.toInt = g1997.toInt + 1 := gI_inc hz2035 (by decide) bg1997' (by decide) (by decide)
              have bz2035 : gB z2035 1 200 := ⟨by omega, by omega⟩
              refine G_iinc (L' := [(2, .int z2035), (0, .ref q930), (1, .ref q931)]) z2035 0 d_cX0_rename_58 rfl hz2035.symm (Nat.le_of_ble_eq_true rfl) rfl ?_
              refine G_goto 2 d_cX0_rename_61 (by decide +kernel) ?_
              refine G_sub (ws' := [(q930, .inr (5, [.ref q932, .ref q933, .ref q934, .ref q935, .ref q936, .ref q937, .ref q938, .ref q939, .ref q940, .int p941, .int p942, .int p943])), (q931, .inl (I .int, 720, .inl f944)), (q932, .inl (I .int, 40, .inl f945)), (q933, .inl (I .int, 40, .inl f946)), (q934, .inl (I .int, 40, .inl f947)), (q935, .inl (I .int, 200, .inl f948)), (q936, .inl (I .int, 200, .inl f2012)), (q937, .inl (I .int, 200, .inl f2021)), (q938, .inl (I .int, 200, .inl f951)), (q939, .inl (I .int, 200, .inl f2034)), (q940, .inl (I .int, 200, .inl f953))]) [0, 10, 1, 2, 3, 4, 5, 6, 7, 8, 9] rfl rfl ?_
              exact ih2_2000 z2035 f2012 f2021 f2034 (gB_w bz2035 (by decide) (by decide)) (gF_any f2012) (gF_any f2021) (gF_any f2034) (by omega)
          · have bz2013' : gB z2013 0 2147483647 := ⟨by omega, by omega⟩
            have bz2013'' : gB z2013 720 2147483647 := ⟨by omega, by omega⟩
            change G _ _ _ _ _ _ _ (.int z2013 :: _) _ _ _
            refine G_ws (ws' := [(q930, .inr (5, [.ref q932, .ref q933, .ref q934, .ref q935, .ref q936, .ref q937, .ref q938, .ref q939, .ref q940, .int p941, .int p942, .int p943])), (q932, .inl (I .int, 40, .inl f945)), (q933, .inl (I .int, 40, .inl f946)), (q934, .inl (I .int, 40, .inl f947)), (q935, .inl (I .int, 200, .inl f948)), (q936, .inl (I .int, 200, .inl f2012)), (q937, .inl (I .int, 200, .inl f1999)), (q938, .inl (I .int, 200, .inl f951)), (q939, .inl (I .int, 200, .inl f2000)), (q940, .inl (I .int, 200, .inl f953)), (q931, .inl (I .int, 720, .inl f944))]) (cs' := 0) (sl' := 0) rfl rfl rfl ?_
            refine G_iastN 6 0 d_cX0_rename_41 rfl rfl (gB_in bg1997' (by decide) (by decide)) (fun f2036 hf2036 => ?_)
            refine G_ws (ws' := [(q930, .inr (5, [.ref q932, .ref q933, .ref q934, .ref q935, .ref q936, .ref q937, .ref q938, .ref q939, .ref q940, .int p941, .int p942, .int p943])), (q932, .inl (I .int, 40, .inl f945)), (q933, .inl (I .int, 40, .inl f946)), (q934, .inl (I .int, 40, .inl f947)), (q935, .inl (I .int, 200, .inl f948)), (q936, .inl (I .int, 200, .inl f2012)), (q937, .inl (I .int, 200, .inl f2036)), (q938, .inl (I .int, 200, .inl f951)), (q939, .inl (I .int, 200, .inl f2000)), (q940, .inl (I .int, 200, .inl f953)), (q931, .inl (I .int, 720, .inl f944))]) (cs' := 0) (sl' := 0) rfl rfl rfl ?_
            refine G_aload_n 1 d_cX0_rename_42 rfl ?_
            refine G_getf 0 7 d_cX0_rename_43 rfl (gk_X0 D I) (Nat.le_of_ble_eq_true rfl) w_1_178 rfl ?_
            refine G_iload_n 0 d_cX0_rename_46 rfl ?_
            refine G_aload_n 2 d_cX0_rename_47 rfl ?_
            refine G_aload_n 1 d_cX0_rename_48 rfl ?_
            refine G_getf 0 7 d_cX0_rename_49 rfl (gk_X0 D I) (Nat.le_of_ble_eq_true rfl) w_1_178 rfl ?_
            refine G_iload_n 0 d_cX0_rename_52 rfl ?_
            refine G_iald 8 0 d_cX0_rename_53 rfl rfl (gB_in bg1997' (by decide) (by decide)) (G_nam fun z2037 hz2037 => ?_)
            have bz2037 : gB z2037 (-2147483648) 2147483647 := by rw [hz2037]; exact bf2000 _
            refine G_callS (As := [.ref q931, .int z2037]) (wr := [(q930, .inr (5, [.ref q932, .ref q933, .ref q934, .ref q935, .ref q936, .ref q937, .ref q938, .ref q939, .ref q940, .int p941, .int p942, .int p943])), (q932, .inl (I .int, 40, .inl f945)), (q933, .inl (I .int, 40, .inl f946)), (q934, .inl (I .int, 40, .inl f947)), (q935, .inl (I .int, 200, .inl f948)), (q936, .inl (I .int, 200, .inl f2012)), (q937, .inl (I .int, 200, .inl f2036)), (q938, .inl (I .int, 200, .inl f951)), (q939, .inl (I .int, 200, .inl f2000)), (q940, .inl (I .int, 200, .inl f953))]) (gV_ok D I) (ct_962_Code_nameIn l hl0 D I q931 z2037 f944 ) d_cX0_rename_54 ⟨w_5_154, w_1_5, w_5_156, by decide, rfl, (Nat.le_of_ble_eq_true rfl), (Nat.le_of_ble_eq_true rfl)⟩ w_5_155 [10] [0, 1, 2, 3, 4, 5, 6, 7, 8, 9] rfl rfl rfl rfl (by decide) (Nat.le_of_ble_eq_true rfl) (Nat.le_of_ble_eq_true rfl) (Nat.le_of_ble_eq_true rfl) (fun r w hp => ?_) (fun _ _ _ z => z.elim)
            rcases hp with ⟨rfl, rfl, r2038⟩ | ⟨rfl, rfl, r2039, r2040⟩ | ⟨z2041, rfl, rfl, r2042, r2043, r2044⟩
            · have bz2037' : gB z2037 (-2147483648) (-1) := ⟨by omega, by omega⟩
              change G _ _ _ _ _ _ _ (.int z2037 :: _) _ _ _
              refine G_ws (ws' := [(q930, .inr (5, [.ref q932, .ref q933, .ref q934, .ref q935, .ref q936, .ref q937, .ref q938, .ref q939, .ref q940, .int p941, .int p942, .int p943])), (q932, .inl (I .int, 40, .inl f945)), (q933, .inl (I .int, 40, .inl f946)), (q934, .inl (I .int, 40, .inl f947)), (q935, .inl (I .int, 200, .inl f948)), (q936, .inl (I .int, 200, .inl f2012)), (q937, .inl (I .int, 200, .inl f2036)), (q938, .inl (I .int, 200, .inl f951)), (q939, .inl (I .int, 200, .inl f2000)), (q940, .inl (I .int, 200, .inl f953)), (q931, .inl (I .int, 720, .inl f944))]) (cs' := 0) (sl' := 0) rfl rfl rfl ?_
              refine G_iastN 8 0 d_cX0_rename_57 rfl rfl (gB_in bg1997' (by decide) (by decide)) (fun f2045 hf2045 => ?_)
              refine G_ws (ws' := [(q930, .inr (5, [.ref q932, .ref q933, .ref q934, .ref q935, .ref q936, .ref q937, .ref q938, .ref q939, .ref q940, .int p941, .int p942, .int p943])), (q932, .inl (I .int, 40, .inl f945)), (q933, .inl (I .int, 40, .inl f946)), (q934, .inl (I .int, 40, .inl f947)), (q935, .inl (I .int, 200, .inl f948)), (q936, .inl (I .int, 200, .inl f2012)), (q937, .inl (I .int, 200, .inl f2036)), (q938, .inl (I .int, 200, .inl f951)), (q939, .inl (I .int, 200, .inl f2045)), (q940, .inl (I .int, 200, .inl f953)), (q931, .inl (I .int, 720, .inl f944))]) (cs' := 0) (sl' := 0) rfl rfl rfl ?_
              obtain ⟨z2046, hz2046⟩ : ∃ z : Int32, z = g1997 + Int32.ofInt 1 := ⟨_, rfl⟩
              have ez2046 : z2046.toInt = g1997.toInt + 1 := gI_inc hz2046 (by decide) bg1997' (by decide) (by decide)
              have bz2046 : gB z2046 1 200 := ⟨by omega, by omega⟩
              refine G_iinc (L' := [(2, .int z2046), (0, .ref q930), (1, .ref q931)]) z2046 0 d_cX0_rename_58 rfl hz2046.symm (Nat.le_of_ble_eq_true rfl) rfl ?_
              refine G_goto 2 d_cX0_rename_61 (by decide +kernel) ?_
              refine G_sub (ws' := [(q930, .inr (5, [.ref q932, .ref q933, .ref q934, .ref q935, .ref q936, .ref q937, .ref q938, .ref q939, .ref q940, .int p941, .int p942, .int p943])), (q931, .inl (I .int, 720, .inl f944)), (q932, .inl (I .int, 40, .inl f945)), (q933, .inl (I .int, 40, .inl f946)), (q934, .inl (I .int, 40, .inl f947)), (q935, .inl (I .int, 200, .inl f948)), (q936, .inl (I .int, 200, .inl f2012)), (q937, .inl (I .int, 200, .inl f2036)), (q938, .inl (I .int, 200, .inl f951)), (q939, .inl (I .int, 200, .inl f2045)), (q940, .inl (I .int, 200, .inl f953))]) [0, 10, 1, 2, 3, 4, 5, 6, 7, 8, 9] rfl rfl ?_
              exact ih2_2000 z2046 f2012 f2036 f2045 (gB_w bz2046 (by decide) (by decide)) (gF_any f2012) (gF_any f2036) (gF_any f2045) (by omega)
            · have bz2037' : gB z2037 0 2147483647 := ⟨by omega, by omega⟩
              have bz2037'' : gB z2037 720 2147483647 := ⟨by omega, by omega⟩
              change G _ _ _ _ _ _ _ (.int z2037 :: _) _ _ _
              refine G_ws (ws' := [(q930, .inr (5, [.ref q932, .ref q933, .ref q934, .ref q935, .ref q936, .ref q937, .ref q938, .ref q939, .ref q940, .int p941, .int p942, .int p943])), (q932, .inl (I .int, 40, .inl f945)), (q933, .inl (I .int, 40, .inl f946)), (q934, .inl (I .int, 40, .inl f947)), (q935, .inl (I .int, 200, .inl f948)), (q936, .inl (I .int, 200, .inl f2012)), (q937, .inl (I .int, 200, .inl f2036)), (q938, .inl (I .int, 200, .inl f951)), (q939, .inl (I .int, 200, .inl f2000)), (q940, .inl (I .int, 200, .inl f953)), (q931, .inl (I .int, 720, .inl f944))]) (cs' := 0) (sl' := 0) rfl rfl rfl ?_
              refine G_iastN 8 0 d_cX0_rename_57 rfl rfl (gB_in bg1997' (by decide) (by decide)) (fun f2047 hf2047 => ?_)
              refine G_ws (ws' := [(q930, .inr (5, [.ref q932, .ref q933, .ref q934, .ref q935, .ref q936, .ref q937, .ref q938, .ref q939, .ref q940, .int p941, .int p942, .int p943])), (q932, .inl (I .int, 40, .inl f945)), (q933, .inl (I .int, 40, .inl f946)), (q934, .inl (I .int, 40, .inl f947)), (q935, .inl (I .int, 200, .inl f948)), (q936, .inl (I .int, 200, .inl f2012)), (q937, .inl (I .int, 200, .inl f2036)), (q938, .inl (I .int, 200, .inl f951)), (q939, .inl (I .int, 200, .inl f2047)), (q940, .inl (I .int, 200, .inl f953)), (q931, .inl (I .int, 720, .inl f944))]) (cs' := 0) (sl' := 0) rfl rfl rfl ?_
              obtain ⟨z2048, hz2048⟩ : ∃ z : Int32, z = g1997 + Int32.ofInt 1 := ⟨_, rfl⟩
              have ez2048 : z2048.toInt = g1997.toInt + 1 := gI_inc hz2048 (by decide) bg1997' (by decide) (by decide)
              have bz2048 : gB z2048 1 200 := ⟨by omega, by omega⟩
              refine G_iinc (L' := [(2, .int z2048), (0, .ref q930), (1, .ref q931)]) z2048 0 d_cX0_rename_58 rfl hz2048.symm (Nat.le_of_ble_eq_true rfl) rfl ?_
              refine G_goto 2 d_cX0_rename_61 (by decide +kernel) ?_
              refine G_sub (ws' := [(q930, .inr (5, [.ref q932, .ref q933, .ref q934, .ref q935, .ref q936, .ref q937, .ref q938, .ref q939, .ref q940, .int p941, .int p942, .int p943])), (q931, .inl (I .int, 720, .inl f944)), (q932, .inl (I .int, 40, .inl f945)), (q933, .inl (I .int, 40, .inl f946)), (q934, .inl (I .int, 40, .inl f947)), (q935, .inl (I .int, 200, .inl f948)), (q936, .inl (I .int, 200, .inl f2012)), (q937, .inl (I .int, 200, .inl f2036)), (q938, .inl (I .int, 200, .inl f951)), (q939, .inl (I .int, 200, .inl f2047)), (q940, .inl (I .int, 200, .inl f953))]) [0, 10, 1, 2, 3, 4, 5, 6, 7, 8, 9] rfl rfl ?_
              exact ih2_2000 z2048 f2012 f2036 f2047 (gB_w bz2048 (by decide) (by decide)) (gF_any f2012) (gF_any f2036) (gF_any f2047) (by omega)
            · have bz2037' : gB z2037 0 2147483647 := ⟨by omega, by omega⟩
              have bz2037'' : gB z2037 0 719 := ⟨by omega, by omega⟩
              change G _ _ _ _ _ _ _ (.int z2041 :: _) _ _ _
              refine G_ws (ws' := [(q930, .inr (5, [.ref q932, .ref q933, .ref q934, .ref q935, .ref q936, .ref q937, .ref q938, .ref q939, .ref q940, .int p941, .int p942, .int p943])), (q932, .inl (I .int, 40, .inl f945)), (q933, .inl (I .int, 40, .inl f946)), (q934, .inl (I .int, 40, .inl f947)), (q935, .inl (I .int, 200, .inl f948)), (q936, .inl (I .int, 200, .inl f2012)), (q937, .inl (I .int, 200, .inl f2036)), (q938, .inl (I .int, 200, .inl f951)), (q939, .inl (I .int, 200, .inl f2000)), (q940, .inl (I .int, 200, .inl f953)), (q931, .inl (I .int, 720, .inl f944))]) (cs' := 0) (sl' := 0) rfl rfl rfl ?_
              refine G_iastN 8 0 d_cX0_rename_57 rfl rfl (gB_in bg1997' (by decide) (by decide)) (fun f2049 hf2049 => ?_)
              refine G_ws (ws' := [(q930, .inr (5, [.ref q932, .ref q933, .ref q934, .ref q935, .ref q936, .ref q937, .ref q938, .ref q939, .ref q940, .int p941, .int p942, .int p943])), (q932, .inl (I .int, 40, .inl f945)), (q933, .inl (I .int, 40, .inl f946)), (q934, .inl (I .int, 40, .inl f947)), (q935, .inl (I .int, 200, .inl f948)), (q936, .inl (I .int, 200, .inl f2012)), (q937, .inl (I .int, 200, .inl f2036)), (q938, .inl (I .int, 200, .inl f951)), (q939, .inl (I .int, 200, .inl f2049)), (q940, .inl (I .int, 200, .inl f953)), (q931, .inl (I .int, 720, .inl f944))]) (cs' := 0) (sl' := 0) rfl rfl rfl ?_
              obtain ⟨z2050, hz2050⟩ : ∃ z : Int32, z = g1997 + Int32.ofInt 1 := ⟨_, rfl⟩
              have ez2050 : z2050.toInt = g1997.toInt + 1 := gI_inc hz2050 (by decide) bg1997' (by decide) (by decide)
              have bz2050 : gB z2050 1 200 := ⟨by omega, by omega⟩
              refine G_iinc (L' := [(2, .int z2050), (0, .ref q930), (1, .ref q931)]) z2050 0 d_cX0_rename_58 rfl hz2050.symm (Nat.le_of_ble_eq_true rfl) rfl ?_
              refine G_goto 2 d_cX0_rename_61 (by decide +kernel) ?_
              refine G_sub (ws' := [(q930, .inr (5, [.ref q932, .ref q933, .ref q934, .ref q935, .ref q936, .ref q937, .ref q938, .ref q939, .ref q940, .int p941, .int p942, .int p943])), (q931, .inl (I .int, 720, .inl f944)), (q932, .inl (I .int, 40, .inl f945)), (q933, .inl (I .int, 40, .inl f946)), (q934, .inl (I .int, 40, .inl f947)), (q935, .inl (I .int, 200, .inl f948)), (q936, .inl (I .int, 200, .inl f2012)), (q937, .inl (I .int, 200, .inl f2036)), (q938, .inl (I .int, 200, .inl f951)), (q939, .inl (I .int, 200, .inl f2049)), (q940, .inl (I .int, 200, .inl f953))]) [0, 10, 1, 2, 3, 4, 5, 6, 7, 8, 9] rfl rfl ?_
              exact ih2_2000 z2050 f2012 f2036 f2049 (gB_w bz2050 (by decide) (by decide)) (gF_any f2012) (gF_any f2036) (gF_any f2049) (by omega)
          · have bz2013' : gB z2013 0 2147483647 := ⟨by omega, by omega⟩
            have bz2013'' : gB z2013 0 719 := ⟨by omega, by omega⟩
            change G _ _ _ _ _ _ _ (.int z2017 :: _) _ _ _
            refine G_ws (ws' := [(q930, .inr (5, [.ref q932, .ref q933, .ref q934, .ref q935, .ref q936, .ref q937, .ref q938, .ref q939, .ref q940, .int p941, .int p942, .int p943])), (q932, .inl (I .int, 40, .inl f945)), (q933, .inl (I .int, 40, .inl f946)), (q934, .inl (I .int, 40, .inl f947)), (q935, .inl (I .int, 200, .inl f948)), (q936, .inl (I .int, 200, .inl f2012)), (q937, .inl (I .int, 200, .inl f1999)), (q938, .inl (I .int, 200, .inl f951)), (q939, .inl (I .int, 200, .inl f2000)), (q940, .inl (I .int, 200, .inl f953)), (q931, .inl (I .int, 720, .inl f944))]) (cs' := 0) (sl' := 0) rfl rfl rfl ?_
            refine G_iastN 6 0 d_cX0_rename_41 rfl rfl (gB_in bg1997' (by decide) (by decide)) (fun f2051 hf2051 => ?_)
            refine G_ws (ws' := [(q930, .inr (5, [.ref q932, .ref q933, .ref q934, .ref q935, .ref q936, .ref q937, .ref q938, .ref q939, .ref q940, .int p941, .int p942, .int p943])), (q932, .inl (I .int, 40, .inl f945)), (q933, .inl (I .int, 40, .inl f946)), (q934, .inl (I .int, 40, .inl f947)), (q935, .inl (I .int, 200, .inl f948)), (q936, .inl (I .int, 200, .inl f2012)), (q937, .inl (I .int, 200, .inl f2051)), (q938, .inl (I .int, 200, .inl f951)), (q939, .inl (I .int, 200, .inl f2000)), (q940, .inl (I .int, 200, .inl f953)), (q931, .inl (I .int, 720, .inl f944))]) (cs' := 0) (sl' := 0) rfl rfl rfl ?_
            refine G_aload_n 1 d_cX0_rename_42 rfl ?_
            refine G_getf 0 7 d_cX0_rename_43 rfl (gk_X0 D I) (Nat.le_of_ble_eq_true rfl) w_1_178 rfl ?_
            refine G_iload_n 0 d_cX0_rename_46 rfl ?_
            refine G_aload_n 2 d_cX0_rename_47 rfl ?_
            refine G_aload_n 1 d_cX0_rename_48 rfl ?_
            refine G_getf 0 7 d_cX0_rename_49 rfl (gk_X0 D I) (Nat.le_of_ble_eq_true rfl) w_1_178 rfl ?_
            refine G_iload_n 0 d_cX0_rename_52 rfl ?_
            refine G_iald 8 0 d_cX0_rename_53 rfl rfl (gB_in bg1997' (by decide) (by decide)) (G_nam fun z2052 hz2052 => ?_)
            have bz2052 : gB z2052 (-2147483648) 2147483647 := by rw [hz2052]; exact bf2000 _
            refine G_callS (As := [.ref q931, .int z2052]) (wr := [(q930, .inr (5, [.ref q932, .ref q933, .ref q934, .ref q935, .ref q936, .ref q937, .ref q938, .ref q939, .ref q940, .int p941, .int p942, .int p943])), (q932, .inl (I .int, 40, .inl f945)), (q933, .inl (I .int, 40, .inl f946)), (q934, .inl (I .int, 40, .inl f947)), (q935, .inl (I .int, 200, .inl f948)), (q936, .inl (I .int, 200, .inl f2012)), (q937, .inl (I .int, 200, .inl f2051)), (q938, .inl (I .int, 200, .inl f951)), (q939, .inl (I .int, 200, .inl f2000)), (q940, .inl (I .int, 200, .inl f953))]) (gV_ok D I) (ct_962_Code_nameIn l hl0 D I q931 z2052 f944 ) d_cX0_rename_54 ⟨w_5_154, w_1_5, w_5_156, by decide, rfl, (Nat.le_of_ble_eq_true rfl), (Nat.le_of_ble_eq_true rfl)⟩ w_5_155 [10] [0, 1, 2, 3, 4, 5, 6, 7, 8, 9] rfl rfl rfl rfl (by decide) (Nat.le_of_ble_eq_true rfl) (Nat.le_of_ble_eq_true rfl) (Nat.le_of_ble_eq_true rfl) (fun r w hp => ?_) (fun _ _ _ z => z.elim)
            rcases hp with ⟨rfl, rfl, r2053⟩ | ⟨rfl, rfl, r2054, r2055⟩ | ⟨z2056, rfl, rfl, r2057, r2058, r2059⟩
            · have bz2052' : gB z2052 (-2147483648) (-1) := ⟨by omega, by omega⟩
              change G _ _ _ _ _ _ _ (.int z2052 :: _) _ _ _
              refine G_ws (ws' := [(q930, .inr (5, [.ref q932, .ref q933, .ref q934, .ref q935, .ref q936, .ref q937, .ref q938, .ref q939, .ref q940, .int p941, .int p942, .int p943])), (q932, .inl (I .int, 40, .inl f945)), (q933, .inl (I .int, 40, .inl f946)), (q934, .inl (I .int, 40, .inl f947)), (q935, .inl (I .int, 200, .inl f948)), (q936, .inl (I .int, 200, .inl f2012)), (q937, .inl (I .int, 200, .inl f2051)), (q938, .inl (I .int, 200, .inl f951)), (q939, .inl (I .int, 200, .inl f2000)), (q940, .inl (I .int, 200, .inl f953)), (q931, .inl (I .int, 720, .inl f944))]) (cs' := 0) (sl' := 0) rfl rfl rfl ?_
              refine G_iastN 8 0 d_cX0_rename_57 rfl rfl (gB_in bg1997' (by decide) (by decide)) (fun f2060 hf2060 => ?_)
              refine G_ws (ws' := [(q930, .inr (5, [.ref q932, .ref q933, .ref q934, .ref q935, .ref q936, .ref q937, .ref q938, .ref q939, .ref q940, .int p941, .int p942, .int p943])), (q932, .inl (I .int, 40, .inl f945)), (q933, .inl (I .int, 40, .inl f946)), (q934, .inl (I .int, 40, .inl f947)), (q935, .inl (I .int, 200, .inl f948)), (q936, .inl (I .int, 200, .inl f2012)), (q937, .inl (I .int, 200, .inl f2051)), (q938, .inl (I .int, 200, .inl f951)), (q939, .inl (I .int, 200, .inl f2060)), (q940, .inl (I .int, 200, .inl f953)), (q931, .inl (I .int, 720, .inl f944))]) (cs' := 0) (sl' := 0) rfl rfl rfl ?_
              obtain ⟨z2061, hz2061⟩ : ∃ z : Int32, z = g1997 + Int32.ofInt 1 := ⟨_, rfl⟩
              have ez2061 : z2061.toInt = g1997.toInt + 1 := gI_inc hz2061 (by decide) bg1997' (by decide) (by decide)
              have bz2061 : gB z2061 1 200 := ⟨by omega, by omega⟩
              refine G_iinc (L' := [(2, .int z2061), (0, .ref q930), (1, .ref q931)]) z2061 0 d_cX0_rename_58 rfl hz2061.symm (Nat.le_of_ble_eq_true rfl) rfl ?_
              refine G_goto 2 d_cX0_rename_61 (by decide +kernel) ?_
              refine G_sub (ws' := [(q930, .inr (5, [.ref q932, .ref q933, .ref q934, .ref q935, .ref q936, .ref q937, .ref q938, .ref q939, .ref q940, .int p941, .int p942, .int p943])), (q931, .inl (I .int, 720, .inl f944)), (q932, .inl (I .int, 40, .inl f945)), (q933, .inl (I .int, 40, .inl f946)), (q934, .inl (I .int, 40, .inl f947)), (q935, .inl (I .int, 200, .inl f948)), (q936, .inl (I .int, 200, .inl f2012)), (q937, .inl (I .int, 200, .inl f2051)), (q938, .inl (I .int, 200, .inl f951)), (q939, .inl (I .int, 200, .inl f2060)), (q940, .inl (I .int, 200, .inl f953))]) [0, 10, 1, 2, 3, 4, 5, 6, 7, 8, 9] rfl rfl ?_
              exact ih2_2000 z2061 f2012 f2051 f2060 (gB_w bz2061 (by decide) (by decide)) (gF_any f2012) (gF_any f2051) (gF_any f2060) (by omega)
            · have bz2052' : gB z2052 0 2147483647 := ⟨by omega, by omega⟩
              have bz2052'' : gB z2052 720 2147483647 := ⟨by omega, by omega⟩
              change G _ _ _ _ _ _ _ (.int z2052 :: _) _ _ _
              refine G_ws (ws' := [(q930, .inr (5, [.ref q932, .ref q933, .ref q934, .ref q935, .ref q936, .ref q937, .ref q938, .ref q939, .ref q940, .int p941, .int p942, .int p943])), (q932, .inl (I .int, 40, .inl f945)), (q933, .inl (I .int, 40, .inl f946)), (q934, .inl (I .int, 40, .inl f947)), (q935, .inl (I .int, 200, .inl f948)), (q936, .inl (I .int, 200, .inl f2012)), (q937, .inl (I .int, 200, .inl f2051)), (q938, .inl (I .int, 200, .inl f951)), (q939, .inl (I .int, 200, .inl f2000)), (q940, .inl (I .int, 200, .inl f953)), (q931, .inl (I .int, 720, .inl f944))]) (cs' := 0) (sl' := 0) rfl rfl rfl ?_
              refine G_iastN 8 0 d_cX0_rename_57 rfl rfl (gB_in bg1997' (by decide) (by decide)) (fun f2062 hf2062 => ?_)
              refine G_ws (ws' := [(q930, .inr (5, [.ref q932, .ref q933, .ref q934, .ref q935, .ref q936, .ref q937, .ref q938, .ref q939, .ref q940, .int p941, .int p942, .int p943])), (q932, .inl (I .int, 40, .inl f945)), (q933, .inl (I .int, 40, .inl f946)), (q934, .inl (I .int, 40, .inl f947)), (q935, .inl (I .int, 200, .inl f948)), (q936, .inl (I .int, 200, .inl f2012)), (q937, .inl (I .int, 200, .inl f2051)), (q938, .inl (I .int, 200, .inl f951)), (q939, .inl (I .int, 200, .inl f2062)), (q940, .inl (I .int, 200, .inl f953)), (q931, .inl (I .int, 720, .inl f944))]) (cs' := 0) (sl' := 0) rfl rfl rfl ?_
              obtain ⟨z2063, hz2063⟩ : ∃ z : Int32, z = g1997 + Int32.ofInt 1 := ⟨_, rfl⟩
              have ez2063 : z2063.toInt = g1997.toInt + 1 := gI_inc hz2063 (by decide) bg1997' (by decide) (by decide)
              have bz2063 : gB z2063 1 200 := ⟨by omega, by omega⟩
              refine G_iinc (L' := [(2, .int z2063), (0, .ref q930), (1, .ref q931)]) z2063 0 d_cX0_rename_58 rfl hz2063.symm (Nat.le_of_ble_eq_true rfl) rfl ?_
              refine G_goto 2 d_cX0_rename_61 (by decide +kernel) ?_
              refine G_sub (ws' := [(q930, .inr (5, [.ref q932, .ref q933, .ref q934, .ref q935, .ref q936, .ref q937, .ref q938, .ref q939, .ref q940, .int p941, .int p942, .int p943])), (q931, .inl (I .int, 720, .inl f944)), (q932, .inl (I .int, 40, .inl f945)), (q933, .inl (I .int, 40, .inl f946)), (q934, .inl (I .int, 40, .inl f947)), (q935, .inl (I .int, 200, .inl f948)), (q936, .inl (I .int, 200, .inl f2012)), (q937, .inl (I .int, 200, .inl f2051)), (q938, .inl (I .int, 200, .inl f951)), (q939, .inl (I .int, 200, .inl f2062)), (q940, .inl (I .int, 200, .inl f953))]) [0, 10, 1, 2, 3, 4, 5, 6, 7, 8, 9] rfl rfl ?_
              exact ih2_2000 z2063 f2012 f2051 f2062 (gB_w bz2063 (by decide) (by decide)) (gF_any f2012) (gF_any f2051) (gF_any f2062) (by omega)
            · have bz2052' : gB z2052 0 2147483647 := ⟨by omega, by omega⟩
              have bz2052'' : gB z2052 0 719 := ⟨by omega, by omega⟩
              change G _ _ _ _ _ _ _ (.int z2056 :: _) _ _ _
              refine G_ws (ws' := [(q930, .inr (5, [.ref q932, .ref q933, .ref q934, .ref q935, .ref q936, .ref q937, .ref q938, .ref q939, .ref q940, .int p941, .int p942, .int p943])), (q932, .inl (I .int, 40, .inl f945)), (q933, .inl (I .int, 40, .inl f946)), (q934, .inl (I .int, 40, .inl f947)), (q935, .inl (I .int, 200, .inl f948)), (q936, .inl (I .int, 200, .inl f2012)), (q937, .inl (I .int, 200, .inl f2051)), (q938, .inl (I .int, 200, .inl f951)), (q939, .inl (I .int, 200, .inl f2000)), (q940, .inl (I .int, 200, .inl f953)), (q931, .inl (I .int, 720, .inl f944))]) (cs' := 0) (sl' := 0) rfl rfl rfl ?_
              refine G_iastN 8 0 d_cX0_rename_57 rfl rfl (gB_in bg1997' (by decide) (by decide)) (fun f2064 hf2064 => ?_)
              refine G_ws (ws' := [(q930, .inr (5, [.ref q932, .ref q933, .ref q934, .ref q935, .ref q936, .ref q937, .ref q938, .ref q939, .ref q940, .int p941, .int p942, .int p943])), (q932, .inl (I .int, 40, .inl f945)), (q933, .inl (I .int, 40, .inl f946)), (q934, .inl (I .int, 40, .inl f947)), (q935, .inl (I .int, 200, .inl f948)), (q936, .inl (I .int, 200, .inl f2012)), (q937, .inl (I .int, 200, .inl f2051)), (q938, .inl (I .int, 200, .inl f951)), (q939, .inl (I .int, 200, .inl f2064)), (q940, .inl (I .int, 200, .inl f953)), (q931, .inl (I .int, 720, .inl f944))]) (cs' := 0) (sl' := 0) rfl rfl rfl ?_
              obtain ⟨z2065, hz2065⟩ : ∃ z : Int32, z = g1997 + Int32.ofInt 1 := ⟨_, rfl⟩
              have ez2065 : z2065.toInt = g1997.toInt + 1 := gI_inc hz2065 (by decide) bg1997' (by decide) (by decide)
              have bz2065 : gB z2065 1 200 := ⟨by omega, by omega⟩
              refine G_iinc (L' := [(2, .int z2065), (0, .ref q930), (1, .ref q931)]) z2065 0 d_cX0_rename_58 rfl hz2065.symm (Nat.le_of_ble_eq_true rfl) rfl ?_
              refine G_goto 2 d_cX0_rename_61 (by decide +kernel) ?_
              refine G_sub (ws' := [(q930, .inr (5, [.ref q932, .ref q933, .ref q934, .ref q935, .ref q936, .ref q937, .ref q938, .ref q939, .ref q940, .int p941, .int p942, .int p943])), (q931, .inl (I .int, 720, .inl f944)), (q932, .inl (I .int, 40, .inl f945)), (q933, .inl (I .int, 40, .inl f946)), (q934, .inl (I .int, 40, .inl f947)), (q935, .inl (I .int, 200, .inl f948)), (q936, .inl (I .int, 200, .inl f2012)), (q937, .inl (I .int, 200, .inl f2051)), (q938, .inl (I .int, 200, .inl f951)), (q939, .inl (I .int, 200, .inl f2064)), (q940, .inl (I .int, 200, .inl f953))]) [0, 10, 1, 2, 3, 4, 5, 6, 7, 8, 9] rfl rfl ?_
              exact ih2_2000 z2065 f2012 f2051 f2064 (gB_w bz2065 (by decide) (by decide)) (gF_any f2012) (gF_any f2051) (gF_any f2064) (by omega)
        · have bz2004' : gB z2004 0 2147483647 := ⟨by omega, by omega⟩
          have bz2004'' : gB z2004 720 2147483647 := ⟨by omega, by omega⟩
          change G _ _ _ _ _ _ _ (.int z2004 :: _) _ _ _
          refine G_ws (ws' := [(q930, .inr (5, [.ref q932, .ref q933, .ref q934, .ref q935, .ref q936, .ref q937, .ref q938, .ref q939, .ref q940, .int p941, .int p942, .int p943])), (q932, .inl (I .int, 40, .inl f945)), (q933, .inl (I .int, 40, .inl f946)), (q934, .inl (I .int, 40, .inl f947)), (q935, .inl (I .int, 200, .inl f948)), (q936, .inl (I .int, 200, .inl f1998)), (q937, .inl (I .int, 200, .inl f1999)), (q938, .inl (I .int, 200, .inl f951)), (q939, .inl (I .int, 200, .inl f2000)), (q940, .inl (I .int, 200, .inl f953)), (q931, .inl (I .int, 720, .inl f944))]) (cs' := 0) (sl' := 0) rfl rfl rfl ?_
          refine G_iastN 5 0 d_cX0_rename_25 rfl rfl (gB_in bg1997' (by decide) (by decide)) (fun f2066 hf2066 => ?_)
          refine G_ws (ws' := [(q930, .inr (5, [.ref q932, .ref q933, .ref q934, .ref q935, .ref q936, .ref q937, .ref q938, .ref q939, .ref q940, .int p941, .int p942, .int p943])), (q932, .inl (I .int, 40, .inl f945)), (q933, .inl (I .int, 40, .inl f946)), (q934, .inl (I .int, 40, .inl f947)), (q935, .inl (I .int, 200, .inl f948)), (q936, .inl (I .int, 200, .inl f2066)), (q937, .inl (I .int, 200, .inl f1999)), (q938, .inl (I .int, 200, .inl f951)), (q939, .inl (I .int, 200, .inl f2000)), (q940, .inl (I .int, 200, .inl f953)), (q931, .inl (I .int, 720, .inl f944))]) (cs' := 0) (sl' := 0) rfl rfl rfl ?_
          refine G_aload_n 1 d_cX0_rename_26 rfl ?_
          refine G_getf 0 5 d_cX0_rename_27 rfl (gk_X0 D I) (Nat.le_of_ble_eq_true rfl) w_1_168 rfl ?_
          refine G_iload_n 0 d_cX0_rename_30 rfl ?_
          refine G_aload_n 2 d_cX0_rename_31 rfl ?_
          refine G_aload_n 1 d_cX0_rename_32 rfl ?_
          refine G_getf 0 5 d_cX0_rename_33 rfl (gk_X0 D I) (Nat.le_of_ble_eq_true rfl) w_1_168 rfl ?_
          refine G_iload_n 0 d_cX0_rename_36 rfl ?_
          refine G_iald 6 0 d_cX0_rename_37 rfl rfl (gB_in bg1997' (by decide) (by decide)) (G_nam fun z2067 hz2067 => ?_)
          have bz2067 : gB z2067 (-2147483648) 2147483647 := by rw [hz2067]; exact bf1999 _
          refine G_callS (As := [.ref q931, .int z2067]) (wr := [(q930, .inr (5, [.ref q932, .ref q933, .ref q934, .ref q935, .ref q936, .ref q937, .ref q938, .ref q939, .ref q940, .int p941, .int p942, .int p943])), (q932, .inl (I .int, 40, .inl f945)), (q933, .inl (I .int, 40, .inl f946)), (q934, .inl (I .int, 40, .inl f947)), (q935, .inl (I .int, 200, .inl f948)), (q936, .inl (I .int, 200, .inl f2066)), (q937, .inl (I .int, 200, .inl f1999)), (q938, .inl (I .int, 200, .inl f951)), (q939, .inl (I .int, 200, .inl f2000)), (q940, .inl (I .int, 200, .inl f953))]) (gV_ok D I) (ct_962_Code_nameIn l hl0 D I q931 z2067 f944 ) d_cX0_rename_38 ⟨w_5_154, w_1_5, w_5_156, by decide, rfl, (Nat.le_of_ble_eq_true rfl), (Nat.le_of_ble_eq_true rfl)⟩ w_5_155 [10] [0, 1, 2, 3, 4, 5, 6, 7, 8, 9] rfl rfl rfl rfl (by decide) (Nat.le_of_ble_eq_true rfl) (Nat.le_of_ble_eq_true rfl) (Nat.le_of_ble_eq_true rfl) (fun r w hp => ?_) (fun _ _ _ z => z.elim)
          rcases hp with ⟨rfl, rfl, r2068⟩ | ⟨rfl, rfl, r2069, r2070⟩ | ⟨z2071, rfl, rfl, r2072, r2073, r2074⟩
          · have bz2067' : gB z2067 (-2147483648) (-1) := ⟨by omega, by omega⟩
            change G _ _ _ _ _ _ _ (.int z2067 :: _) _ _ _
            refine G_ws (ws' := [(q930, .inr (5, [.ref q932, .ref q933, .ref q934, .ref q935, .ref q936, .ref q937, .ref q938, .ref q939, .ref q940, .int p941, .int p942, .int p943])), (q932, .inl (I .int, 40, .inl f945)), (q933, .inl (I .int, 40, .inl f946)), (q934, .inl (I .int, 40, .inl f947)), (q935, .inl (I .int, 200, .inl f948)), (q936, .inl (I .int, 200, .inl f2066)), (q937, .inl (I .int, 200, .inl f1999)), (q938, .inl (I .int, 200, .inl f951)), (q939, .inl (I .int, 200, .inl f2000)), (q940, .inl (I .int, 200, .inl f953)), (q931, .inl (I .int, 720, .inl f944))]) (cs' := 0) (sl' := 0) rfl rfl rfl ?_
            refine G_iastN 6 0 d_cX0_rename_41 rfl rfl (gB_in bg1997' (by decide) (by decide)) (fun f2075 hf2075 => ?_)
            refine G_ws (ws' := [(q930, .inr (5, [.ref q932, .ref q933, .ref q934, .ref q935, .ref q936, .ref q937, .ref q938, .ref q939, .ref q940, .int p941, .int p942, .int p943])), (q932, .inl (I .int, 40, .inl f945)), (q933, .inl (I .int, 40, .inl f946)), (q934, .inl (I .int, 40, .inl f947)), (q935, .inl (I .int, 200, .inl f948)), (q936, .inl (I .int, 200, .inl f2066)), (q937, .inl (I .int, 200, .inl f2075)), (q938, .inl (I .int, 200, .inl f951)), (q939, .inl (I .int, 200, .inl f2000)), (q940, .inl (I .int, 200, .inl f953)), (q931, .inl (I .int, 720, .inl f944))]) (cs' := 0) (sl' := 0) rfl rfl rfl ?_
            refine G_aload_n 1 d_cX0_rename_42 rfl ?_
            refine G_getf 0 7 d_cX0_rename_43 rfl (gk_X0 D I) (Nat.le_of_ble_eq_true rfl) w_1_178 rfl ?_
            refine G_iload_n 0 d_cX0_rename_46 rfl ?_
            refine G_aload_n 2 d_cX0_rename_47 rfl ?_
            refine G_aload_n 1 d_cX0_rename_48 rfl ?_
            refine G_getf 0 7 d_cX0_rename_49 rfl (gk_X0 D I) (Nat.le_of_ble_eq_true rfl) w_1_178 rfl ?_
            refine G_iload_n 0 d_cX0_rename_52 rfl ?_
            refine G_iald 8 0 d_cX0_rename_53 rfl rfl (gB_in bg1997' (by decide) (by decide)) (G_nam fun z2076 hz2076 => ?_)
            have bz2076 : gB z2076 (-2147483648) 2147483647 := by rw [hz2076]; exact bf2000 _
            refine G_callS (As := [.ref q931, .int z2076]) (wr := [(q930, .inr (5, [.ref q932, .ref q933, .ref q934, .ref q935, .ref q936, .ref q937, .ref q938, .ref q939, .ref q940, .int p941, .int p942, .int p943])), (q932, .inl (I .int, 40, .inl f945)), (q933, .inl (I .int, 40, .inl f946)), (q934, .inl (I .int, 40, .inl f947)), (q935, .inl (I .int, 200, .inl f948)), (q936, .inl (I .int, 200, .inl f2066)), (q937, .inl (I .int, 200, .inl f2075)), (q938, .inl (I .int, 200, .inl f951)), (q939, .inl (I .int, 200, .inl f2000)), (q940, .inl (I .int, 200, .inl f953))]) (gV_ok D I) (ct_962_Code_nameIn l hl0 D I q931 z2076 f944 ) d_cX0_rename_54 ⟨w_5_154, w_1_5, w_5_156, by decide, rfl, (Nat.le_of_ble_eq_true rfl), (Nat.le_of_ble_eq_true rfl)⟩ w_5_155 [10] [0, 1, 2, 3, 4, 5, 6, 7, 8, 9] rfl rfl rfl rfl (by decide) (Nat.le_of_ble_eq_true rfl) (Nat.le_of_ble_eq_true rfl) (Nat.le_of_ble_eq_true rfl) (fun r w hp => ?_) (fun _ _ _ z => z.elim)
            rcases hp with ⟨rfl, rfl, r2077⟩ | ⟨rfl, rfl, r2078, r2079⟩ | ⟨z2080, rfl, rfl, r2081, r2082, r2083⟩
            · have bz2076' : gB z2076 (-2147483648) (-1) := ⟨by omega, by omega⟩
              change G _ _ _ _ _ _ _ (.int z2076 :: _) _ _ _
              refine G_ws (ws' := [(q930, .inr (5, [.ref q932, .ref q933, .ref q934, .ref q935, .ref q936, .ref q937, .ref q938, .ref q939, .ref q940, .int p941, .int p942, .int p943])), (q932, .inl (I .int, 40, .inl f945)), (q933, .inl (I .int, 40, .inl f946)), (q934, .inl (I .int, 40, .inl f947)), (q935, .inl (I .int, 200, .inl f948)), (q936, .inl (I .int, 200, .inl f2066)), (q937, .inl (I .int, 200, .inl f2075)), (q938, .inl (I .int, 200, .inl f951)), (q939, .inl (I .int, 200, .inl f2000)), (q940, .inl (I .int, 200, .inl f953)), (q931, .inl (I .int, 720, .inl f944))]) (cs' := 0) (sl' := 0) rfl rfl rfl ?_
              refine G_iastN 8 0 d_cX0_rename_57 rfl rfl (gB_in bg1997' (by decide) (by decide)) (fun f2084 hf2084 => ?_)
              refine G_ws (ws' := [(q930, .inr (5, [.ref q932, .ref q933, .ref q934, .ref q935, .ref q936, .ref q937, .ref q938, .ref q939, .ref q940, .int p941, .int p942, .int p943])), (q932, .inl (I .int, 40, .inl f945)), (q933, .inl (I .int, 40, .inl f946)), (q934, .inl (I .int, 40, .inl f947)), (q935, .inl (I .int, 200, .inl f948)), (q936, .inl (I .int, 200, .inl f2066)), (q937, .inl (I .int, 200, .inl f2075)), (q938, .inl (I .int, 200, .inl f951)), (q939, .inl (I .int, 200, .inl f2084)), (q940, .inl (I .int, 200, .inl f953)), (q931, .inl (I .int, 720, .inl f944))]) (cs' := 0) (sl' := 0) rfl rfl rfl ?_
              obtain ⟨z2085, hz2085⟩ : ∃ z : Int32, z = g1997 + Int32.ofInt 1 := ⟨_, rfl⟩
              have ez2085 : z2085.toInt = g1997.toInt + 1 := gI_inc hz2085 (by decide) bg1997' (by decide) (by decide)
              have bz2085 : gB z2085 1 200 := ⟨by omega, by omega⟩
              refine G_iinc (L' := [(2, .int z2085), (0, .ref q930), (1, .ref q931)]) z2085 0 d_cX0_rename_58 rfl hz2085.symm (Nat.le_of_ble_eq_true rfl) rfl ?_
              refine G_goto 2 d_cX0_rename_61 (by decide +kernel) ?_
              refine G_sub (ws' := [(q930, .inr (5, [.ref q932, .ref q933, .ref q934, .ref q935, .ref q936, .ref q937, .ref q938, .ref q939, .ref q940, .int p941, .int p942, .int p943])), (q931, .inl (I .int, 720, .inl f944)), (q932, .inl (I .int, 40, .inl f945)), (q933, .inl (I .int, 40, .inl f946)), (q934, .inl (I .int, 40, .inl f947)), (q935, .inl (I .int, 200, .inl f948)), (q936, .inl (I .int, 200, .inl f2066)), (q937, .inl (I .int, 200, .inl f2075)), (q938, .inl (I .int, 200, .inl f951)), (q939, .inl (I .int, 200, .inl f2084)), (q940, .inl (I .int, 200, .inl f953))]) [0, 10, 1, 2, 3, 4, 5, 6, 7, 8, 9] rfl rfl ?_
              exact ih2_2000 z2085 f2066 f2075 f2084 (gB_w bz2085 (by decide) (by decide)) (gF_any f2066) (gF_any f2075) (gF_any f2084) (by omega)
            · have bz2076' : gB z2076 0 2147483647 := ⟨by omega, by omega⟩
              have bz2076'' : gB z2076 720 2147483647 := ⟨by omega, by omega⟩
              change G _ _ _ _ _ _ _ (.int z2076 :: _) _ _ _
              refine G_ws (ws' := [(q930, .inr (5, [.ref q932, .ref q933, .ref q934, .ref q935, .ref q936, .ref q937, .ref q938, .ref q939, .ref q940, .int p941, .int p942, .int p943])), (q932, .inl (I .int, 40, .inl f945)), (q933, .inl (I .int, 40, .inl f946)), (q934, .inl (I .int, 40, .inl f947)), (q935, .inl (I .int, 200, .inl f948)), (q936, .inl (I .int, 200, .inl f2066)), (q937, .inl (I .int, 200, .inl f2075)), (q938, .inl (I .int, 200, .inl f951)), (q939, .inl (I .int, 200, .inl f2000)), (q940, .inl (I .int, 200, .inl f953)), (q931, .inl (I .int, 720, .inl f944))]) (cs' := 0) (sl' := 0) rfl rfl rfl ?_
              refine G_iastN 8 0 d_cX0_rename_57 rfl rfl (gB_in bg1997' (by decide) (by decide)) (fun f2086 hf2086 => ?_)
              refine G_ws (ws' := [(q930, .inr (5, [.ref q932, .ref q933, .ref q934, .ref q935, .ref q936, .ref q937, .ref q938, .ref q939, .ref q940, .int p941, .int p942, .int p943])), (q932, .inl (I .int, 40, .inl f945)), (q933, .inl (I .int, 40, .inl f946)), (q934, .inl (I .int, 40, .inl f947)), (q935, .inl (I .int, 200, .inl f948)), (q936, .inl (I .int, 200, .inl f2066)), (q937, .inl (I .int, 200, .inl f2075)), (q938, .inl (I .int, 200, .inl f951)), (q939, .inl (I .int, 200, .inl f2086)), (q940, .inl (I .int, 200, .inl f953)), (q931, .inl (I .int, 720, .inl f944))]) (cs' := 0) (sl' := 0) rfl rfl rfl ?_
              obtain ⟨z2087, hz2087⟩ : ∃ z : Int32, z = g1997 + Int32.ofInt 1 := ⟨_, rfl⟩
              have ez2087 : z2087.toInt = g1997.toInt + 1 := gI_inc hz2087 (by decide) bg1997' (by decide) (by decide)
              have bz2087 : gB z2087 1 200 := ⟨by omega, by omega⟩
              refine G_iinc (L' := [(2, .int z2087), (0, .ref q930), (1, .ref q931)]) z2087 0 d_cX0_rename_58 rfl hz2087.symm (Nat.le_of_ble_eq_true rfl) rfl ?_
              refine G_goto 2 d_cX0_rename_61 (by decide +kernel) ?_
              refine G_sub (ws' := [(q930, .inr (5, [.ref q932, .ref q933, .ref q934, .ref q935, .ref q936, .ref q937, .ref q938, .ref q939, .ref q940, .int p941, .int p942, .int p943])), (q931, .inl (I .int, 720, .inl f944)), (q932, .inl (I .int, 40, .inl f945)), (q933, .inl (I .int, 40, .inl f946)), (q934, .inl (I .int, 40, .inl f947)), (q935, .inl (I .int, 200, .inl f948)), (q936, .inl (I .int, 200, .inl f2066)), (q937, .inl (I .int, 200, .inl f2075)), (q938, .inl (I .int, 200, .inl f951)), (q939, .inl (I .int, 200, .inl f2086)), (q940, .inl (I .int, 200, .inl f953))]) [0, 10, 1, 2, 3, 4, 5, 6, 7, 8, 9] rfl rfl ?_
              exact ih2_2000 z2087 f2066 f2075 f2086 (gB_w bz2087 (by decide) (by decide)) (gF_any f2066) (gF_any f2075) (gF_any f2086) (by omega)
            · have bz2076' : gB z2076 0 2147483647 := ⟨by omega, by omega⟩
              have bz2076'' : gB z2076 0 719 := ⟨by omega, by omega⟩
              change G _ _ _ _ _ _ _ (.int z2080 :: _) _ _ _
              refine G_ws (ws' := [(q930, .inr (5, [.ref q932, .ref q933, .ref q934, .ref q935, .ref q936, .ref q937, .ref q938, .ref q939, .ref q940, .int p941, .int p942, .int p943])), (q932, .inl (I .int, 40, .inl f945)), (q933, .inl (I .int, 40, .inl f946)), (q934, .inl (I .int, 40, .inl f947)), (q935, .inl (I .int, 200, .inl f948)), (q936, .inl (I .int, 200, .inl f2066)), (q937, .inl (I .int, 200, .inl f2075)), (q938, .inl (I .int, 200, .inl f951)), (q939, .inl (I .int, 200, .inl f2000)), (q940, .inl (I .int, 200, .inl f953)), (q931, .inl (I .int, 720, .inl f944))]) (cs' := 0) (sl' := 0) rfl rfl rfl ?_
              refine G_iastN 8 0 d_cX0_rename_57 rfl rfl (gB_in bg1997' (by decide) (by decide)) (fun f2088 hf2088 => ?_)
              refine G_ws (ws' := [(q930, .inr (5, [.ref q932, .ref q933, .ref q934, .ref q935, .ref q936, .ref q937, .ref q938, .ref q939, .ref q940, .int p941, .int p942, .int p943])), (q932, .inl (I .int, 40, .inl f945)), (q933, .inl (I .int, 40, .inl f946)), (q934, .inl (I .int, 40, .inl f947)), (q935, .inl (I .int, 200, .inl f948)), (q936, .inl (I .int, 200, .inl f2066)), (q937, .inl (I .int, 200, .inl f2075)), (q938, .inl (I .int, 200, .inl f951)), (q939, .inl (I .int, 200, .inl f2088)), (q940, .inl (I .int, 200, .inl f953)), (q931, .inl (I .int, 720, .inl f944))]) (cs' := 0) (sl' := 0) rfl rfl rfl ?_
              obtain ⟨z2089, hz2089⟩ : ∃ z : Int32, z = g1997 + Int32.ofInt 1 := ⟨_, rfl⟩
              have ez2089 : z2089.toInt = g1997.toInt + 1 := gI_inc hz2089 (by decide) bg1997' (by decide) (by decide)
              have bz2089 : gB z2089 1 200 := ⟨by omega, by omega⟩
              refine G_iinc (L' := [(2, .int z2089), (0, .ref q930), (1, .ref q931)]) z2089 0 d_cX0_rename_58 rfl hz2089.symm (Nat.le_of_ble_eq_true rfl) rfl ?_
              refine G_goto 2 d_cX0_rename_61 (by decide +kernel) ?_
              refine G_sub (ws' := [(q930, .inr (5, [.ref q932, .ref q933, .ref q934, .ref q935, .ref q936, .ref q937, .ref q938, .ref q939, .ref q940, .int p941, .int p942, .int p943])), (q931, .inl (I .int, 720, .inl f944)), (q932, .inl (I .int, 40, .inl f945)), (q933, .inl (I .int, 40, .inl f946)), (q934, .inl (I .int, 40, .inl f947)), (q935, .inl (I .int, 200, .inl f948)), (q936, .inl (I .int, 200, .inl f2066)), (q937, .inl (I .int, 200, .inl f2075)), (q938, .inl (I .int, 200, .inl f951)), (q939, .inl (I .int, 200, .inl f2088)), (q940, .inl (I .int, 200, .inl f953))]) [0, 10, 1, 2, 3, 4, 5, 6, 7, 8, 9] rfl rfl ?_
              exact ih2_2000 z2089 f2066 f2075 f2088 (gB_w bz2089 (by decide) (by decide)) (gF_any f2066) (gF_any f2075) (gF_any f2088) (by omega)
          · have bz2067' : gB z2067 0 2147483647 := ⟨by omega, by omega⟩
            have bz2067'' : gB z2067 720 2147483647 := ⟨by omega, by omega⟩
            change G _ _ _ _ _ _ _ (.int z2067 :: _) _ _ _
            refine G_ws (ws' := [(q930, .inr (5, [.ref q932, .ref q933, .ref q934, .ref q935, .ref q936, .ref q937, .ref q938, .ref q939, .ref q940, .int p941, .int p942, .int p943])), (q932, .inl (I .int, 40, .inl f945)), (q933, .inl (I .int, 40, .inl f946)), (q934, .inl (I .int, 40, .inl f947)), (q935, .inl (I .int, 200, .inl f948)), (q936, .inl (I .int, 200, .inl f2066)), (q937, .inl (I .int, 200, .inl f1999)), (q938, .inl (I .int, 200, .inl f951)), (q939, .inl (I .int, 200, .inl f2000)), (q940, .inl (I .int, 200, .inl f953)), (q931, .inl (I .int, 720, .inl f944))]) (cs' := 0) (sl' := 0) rfl rfl rfl ?_
            refine G_iastN 6 0 d_cX0_rename_41 rfl rfl (gB_in bg1997' (by decide) (by decide)) (fun f2090 hf2090 => ?_)
            refine G_ws (ws' := [(q930, .inr (5, [.ref q932, .ref q933, .ref q934, .ref q935, .ref q936, .ref q937, .ref q938, .ref q939, .ref q940, .int p941, .int p942, .int p943])), (q932, .inl (I .int, 40, .inl f945)), (q933, .inl (I .int, 40, .inl f946)), (q934, .inl (I .int, 40, .inl f947)), (q935, .inl (I .int, 200, .inl f948)), (q936, .inl (I .int, 200, .inl f2066)), (q937, .inl (I .int, 200, .inl f2090)), (q938, .inl (I .int, 200, .inl f951)), (q939, .inl (I .int, 200, .inl f2000)), (q940, .inl (I .int, 200, .inl f953)), (q931, .inl (I .int, 720, .inl f944))]) (cs' := 0) (sl' := 0) rfl rfl rfl ?_
            refine G_aload_n 1 d_cX0_rename_42 rfl ?_
            refine G_getf 0 7 d_cX0_rename_43 rfl (gk_X0 D I) (Nat.le_of_ble_eq_true rfl) w_1_178 rfl ?_
            refine G_iload_n 0 d_cX0_rename_46 rfl ?_
            refine G_aload_n 2 d_cX0_rename_47 rfl ?_
            refine G_aload_n 1 d_cX0_rename_48 rfl ?_
            refine G_getf 0 7 d_cX0_rename_49 rfl (gk_X0 D I) (Nat.le_of_ble_eq_true rfl) w_1_178 rfl ?_
            refine G_iload_n 0 d_cX0_rename_52 rfl ?_
            refine G_iald 8 0 d_cX0_rename_53 rfl rfl (gB_in bg1997' (by decide) (by decide)) (G_nam fun z2091 hz2091 => ?_)
            have bz2091 : gB z2091 (-2147483648) 2147483647 := by rw [hz2091]; exact bf2000 _
            refine G_callS (As := [.ref q931, .int z2091]) (wr := [(q930, .inr (5, [.ref q932, .ref q933, .ref q934, .ref q935, .ref q936, .ref q937, .ref q938, .ref q939, .ref q940, .int p941, .int p942, .int p943])), (q932, .inl (I .int, 40, .inl f945)), (q933, .inl (I .int, 40, .inl f946)), (q934, .inl (I .int, 40, .inl f947)), (q935, .inl (I .int, 200, .inl f948)), (q936, .inl (I .int, 200, .inl f2066)), (q937, .inl (I .int, 200, .inl f2090)), (q938, .inl (I .int, 200, .inl f951)), (q939, .inl (I .int, 200, .inl f2000)), (q940, .inl (I .int, 200, .inl f953))]) (gV_ok D I) (ct_962_Code_nameIn l hl0 D I q931 z2091 f944 ) d_cX0_rename_54 ⟨w_5_154, w_1_5, w_5_156, by decide, rfl, (Nat.le_of_ble_eq_true rfl), (Nat.le_of_ble_eq_true rfl)⟩ w_5_155 [10] [0, 1, 2, 3, 4, 5, 6, 7, 8, 9] rfl rfl rfl rfl (by decide) (Nat.le_of_ble_eq_true rfl) (Nat.le_of_ble_eq_true rfl) (Nat.le_of_ble_eq_true rfl) (fun r w hp => ?_) (fun _ _ _ z => z.elim)
            rcases hp with ⟨rfl, rfl, r2092⟩ | ⟨rfl, rfl, r2093, r2094⟩ | ⟨z2095, rfl, rfl, r2096, r2097, r2098⟩
            · have bz2091' : gB z2091 (-2147483648) (-1) := ⟨by omega, by omega⟩
              change G _ _ _ _ _ _ _ (.int z2091 :: _) _ _ _
              refine G_ws (ws' := [(q930, .inr (5, [.ref q932, .ref q933, .ref q934, .ref q935, .ref q936, .ref q937, .ref q938, .ref q939, .ref q940, .int p941, .int p942, .int p943])), (q932, .inl (I .int, 40, .inl f945)), (q933, .inl (I .int, 40, .inl f946)), (q934, .inl (I .int, 40, .inl f947)), (q935, .inl (I .int, 200, .inl f948)), (q936, .inl (I .int, 200, .inl f2066)), (q937, .inl (I .int, 200, .inl f2090)), (q938, .inl (I .int, 200, .inl f951)), (q939, .inl (I .int, 200, .inl f2000)), (q940, .inl (I .int, 200, .inl f953)), (q931, .inl (I .int, 720, .inl f944))]) (cs' := 0) (sl' := 0) rfl rfl rfl ?_
              refine G_iastN 8 0 d_cX0_rename_57 rfl rfl (gB_in bg1997' (by decide) (by decide)) (fun f2099 hf2099 => ?_)
              refine G_ws (ws' := [(q930, .inr (5, [.ref q932, .ref q933, .ref q934, .ref q935, .ref q936, .ref q937, .ref q938, .ref q939, .ref q940, .int p941, .int p942, .int p943])), (q932, .inl (I .int, 40, .inl f945)), (q933, .inl (I .int, 40, .inl f946)), (q934, .inl (I .int, 40, .inl f947)), (q935, .inl (I .int, 200, .inl f948)), (q936, .inl (I .int, 200, .inl f2066)), (q937, .inl (I .int, 200, .inl f2090)), (q938, .inl (I .int, 200, .inl f951)), (q939, .inl (I .int, 200, .inl f2099)), (q940, .inl (I .int, 200, .inl f953)), (q931, .inl (I .int, 720, .inl f944))]) (cs' := 0) (sl' := 0) rfl rfl rfl ?_
              obtain ⟨z2100, hz2100⟩ : ∃ z : Int32, z = g1997 + Int32.ofInt 1 := ⟨_, rfl⟩
              have ez2100 : z2100.toInt = g1997.toInt + 1 := gI_inc hz2100 (by decide) bg1997' (by decide) (by decide)
              have bz2100 : gB z2100 1 200 := ⟨by omega, by omega⟩
              refine G_iinc (L' := [(2, .int z2100), (0, .ref q930), (1, .ref q931)]) z2100 0 d_cX0_rename_58 rfl hz2100.symm (Nat.le_of_ble_eq_true rfl) rfl ?_
              refine G_goto 2 d_cX0_rename_61 (by decide +kernel) ?_
              refine G_sub (ws' := [(q930, .inr (5, [.ref q932, .ref q933, .ref q934, .ref q935, .ref q936, .ref q937, .ref q938, .ref q939, .ref q940, .int p941, .int p942, .int p943])), (q931, .inl (I .int, 720, .inl f944)), (q932, .inl (I .int, 40, .inl f945)), (q933, .inl (I .int, 40, .inl f946)), (q934, .inl (I .int, 40, .inl f947)), (q935, .inl (I .int, 200, .inl f948)), (q936, .inl (I .int, 200, .inl f2066)), (q937, .inl (I .int, 200, .inl f2090)), (q938, .inl (I .int, 200, .inl f951)), (q939, .inl (I .int, 200, .inl f2099)), (q940, .inl (I .int, 200, .inl f953))]) [0, 10, 1, 2, 3, 4, 5, 6, 7, 8, 9] rfl rfl ?_
              exact ih2_2000 z2100 f2066 f2090 f2099 (gB_w bz2100 (by decide) (by decide)) (gF_any f2066) (gF_any f2090) (gF_any f2099) (by omega)
            · have bz2091' : gB z2091 0 2147483647 := ⟨by omega, by omega⟩
              have bz2091'' : gB z2091 720 2147483647 := ⟨by omega, by omega⟩
              change G _ _ _ _ _ _ _ (.int z2091 :: _) _ _ _
              refine G_ws (ws' := [(q930, .inr (5, [.ref q932, .ref q933, .ref q934, .ref q935, .ref q936, .ref q937, .ref q938, .ref q939, .ref q940, .int p941, .int p942, .int p943])), (q932, .inl (I .int, 40, .inl f945)), (q933, .inl (I .int, 40, .inl f946)), (q934, .inl (I .int, 40, .inl f947)), (q935, .inl (I .int, 200, .inl f948)), (q936, .inl (I .int, 200, .inl f2066)), (q937, .inl (I .int, 200, .inl f2090)), (q938, .inl (I .int, 200, .inl f951)), (q939, .inl (I .int, 200, .inl f2000)), (q940, .inl (I .int, 200, .inl f953)), (q931, .inl (I .int, 720, .inl f944))]) (cs' := 0) (sl' := 0) rfl rfl rfl ?_
              refine G_iastN 8 0 d_cX0_rename_57 rfl rfl (gB_in bg1997' (by decide) (by decide)) (fun f2101 hf2101 => ?_)
              refine G_ws (ws' := [(q930, .inr (5, [.ref q932, .ref q933, .ref q934, .ref q935, .ref q936, .ref q937, .ref q938, .ref q939, .ref q940, .int p941, .int p942, .int p943])), (q932, .inl (I .int, 40, .inl f945)), (q933, .inl (I .int, 40, .inl f946)), (q934, .inl (I .int, 40, .inl f947)), (q935, .inl (I .int, 200, .inl f948)), (q936, .inl (I .int, 200, .inl f2066)), (q937, .inl (I .int, 200, .inl f2090)), (q938, .inl (I .int, 200, .inl f951)), (q939, .inl (I .int, 200, .inl f2101)), (q940, .inl (I .int, 200, .inl f953)), (q931, .inl (I .int, 720, .inl f944))]) (cs' := 0) (sl' := 0) rfl rfl rfl ?_
              obtain ⟨z2102, hz2102⟩ : ∃ z : Int32, z = g1997 + Int32.ofInt 1 := ⟨_, rfl⟩
              have ez2102 : z2102.toInt = g1997.toInt + 1 := gI_inc hz2102 (by decide) bg1997' (by decide) (by decide)
              have bz2102 : gB z2102 1 200 := ⟨by omega, by omega⟩
              refine G_iinc (L' := [(2, .int z2102), (0, .ref q930), (1, .ref q931)]) z2102 0 d_cX0_rename_58 rfl hz2102.symm (Nat.le_of_ble_eq_true rfl) rfl ?_
              refine G_goto 2 d_cX0_rename_61 (by decide +kernel) ?_
              refine G_sub (ws' := [(q930, .inr (5, [.ref q932, .ref q933, .ref q934, .ref q935, .ref q936, .ref q937, .ref q938, .ref q939, .ref q940, .int p941, .int p942, .int p943])), (q931, .inl (I .int, 720, .inl f944)), (q932, .inl (I .int, 40, .inl f945)), (q933, .inl (I .int, 40, .inl f946)), (q934, .inl (I .int, 40, .inl f947)), (q935, .inl (I .int, 200, .inl f948)), (q936, .inl (I .int, 200, .inl f2066)), (q937, .inl (I .int, 200, .inl f2090)), (q938, .inl (I .int, 200, .inl f951)), (q939, .inl (I .int, 200, .inl f2101)), (q940, .inl (I .int, 200, .inl f953))]) [0, 10, 1, 2, 3, 4, 5, 6, 7, 8, 9] rfl rfl ?_
              exact ih2_2000 z2102 f2066 f2090 f2101 (gB_w bz2102 (by decide) (by decide)) (gF_any f2066) (gF_any f2090) (gF_any f2101) (by omega)
            · have bz2091' : gB z2091 0 2147483647 := ⟨by omega, by omega⟩
              have bz2091'' : gB z2091 0 719 := ⟨by omega, by omega⟩
              change G _ _ _ _ _ _ _ (.int z2095 :: _) _ _ _
              refine G_ws (ws' := [(q930, .inr (5, [.ref q932, .ref q933, .ref q934, .ref q935, .ref q936, .ref q937, .ref q938, .ref q939, .ref q940, .int p941, .int p942, .int p943])), (q932, .inl (I .int, 40, .inl f945)), (q933, .inl (I .int, 40, .inl f946)), (q934, .inl (I .int, 40, .inl f947)), (q935, .inl (I .int, 200, .inl f948)), (q936, .inl (I .int, 200, .inl f2066)), (q937, .inl (I .int, 200, .inl f2090)), (q938, .inl (I .int, 200, .inl f951)), (q939, .inl (I .int, 200, .inl f2000)), (q940, .inl (I .int, 200, .inl f953)), (q931, .inl (I .int, 720, .inl f944))]) (cs' := 0) (sl' := 0) rfl rfl rfl ?_
              refine G_iastN 8 0 d_cX0_rename_57 rfl rfl (gB_in bg1997' (by decide) (by decide)) (fun f2103 hf2103 => ?_)
              refine G_ws (ws' := [(q930, .inr (5, [.ref q932, .ref q933, .ref q934, .ref q935, .ref q936, .ref q937, .ref q938, .ref q939, .ref q940, .int p941, .int p942, .int p943])), (q932, .inl (I .int, 40, .inl f945)), (q933, .inl (I .int, 40, .inl f946)), (q934, .inl (I .int, 40, .inl f947)), (q935, .inl (I .int, 200, .inl f948)), (q936, .inl (I .int, 200, .inl f2066)), (q937, .inl (I .int, 200, .inl f2090)), (q938, .inl (I .int, 200, .inl f951)), (q939, .inl (I .int, 200, .inl f2103)), (q940, .inl (I .int, 200, .inl f953)), (q931, .inl (I .int, 720, .inl f944))]) (cs' := 0) (sl' := 0) rfl rfl rfl ?_
              obtain ⟨z2104, hz2104⟩ : ∃ z : Int32, z = g1997 + Int32.ofInt 1 := ⟨_, rfl⟩
              have ez2104 : z2104.toInt = g1997.toInt + 1 := gI_inc hz2104 (by decide) bg1997' (by decide) (by decide)
              have bz2104 : gB z2104 1 200 := ⟨by omega, by omega⟩
              refine G_iinc (L' := [(2, .int z2104), (0, .ref q930), (1, .ref q931)]) z2104 0 d_cX0_rename_58 rfl hz2104.symm (Nat.le_of_ble_eq_true rfl) rfl ?_
              refine G_goto 2 d_cX0_rename_61 (by decide +kernel) ?_
              refine G_sub (ws' := [(q930, .inr (5, [.ref q932, .ref q933, .ref q934, .ref q935, .ref q936, .ref q937, .ref q938, .ref q939, .ref q940, .int p941, .int p942, .int p943])), (q931, .inl (I .int, 720, .inl f944)), (q932, .inl (I .int, 40, .inl f945)), (q933, .inl (I .int, 40, .inl f946)), (q934, .inl (I .int, 40, .inl f947)), (q935, .inl (I .int, 200, .inl f948)), (q936, .inl (I .int, 200, .inl f2066)), (q937, .inl (I .int, 200, .inl f2090)), (q938, .inl (I .int, 200, .inl f951)), (q939, .inl (I .int, 200, .inl f2103)), (q940, .inl (I .int, 200, .inl f953))]) [0, 10, 1, 2, 3, 4, 5, 6, 7, 8, 9] rfl rfl ?_
              exact ih2_2000 z2104 f2066 f2090 f2103 (gB_w bz2104 (by decide) (by decide)) (gF_any f2066) (gF_any f2090) (gF_any f2103) (by omega)
          · have bz2067' : gB z2067 0 2147483647 := ⟨by omega, by omega⟩
            have bz2067'' : gB z2067 0 719 := ⟨by omega, by omega⟩
            change G _ _ _ _ _ _ _ (.int z2071 :: _) _ _ _
            refine G_ws (ws' := [(q930, .inr (5, [.ref q932, .ref q933, .ref q934, .ref q935, .ref q936, .ref q937, .ref q938, .ref q939, .ref q940, .int p941, .int p942, .int p943])), (q932, .inl (I .int, 40, .inl f945)), (q933, .inl (I .int, 40, .inl f946)), (q934, .inl (I .int, 40, .inl f947)), (q935, .inl (I .int, 200, .inl f948)), (q936, .inl (I .int, 200, .inl f2066)), (q937, .inl (I .int, 200, .inl f1999)), (q938, .inl (I .int, 200, .inl f951)), (q939, .inl (I .int, 200, .inl f2000)), (q940, .inl (I .int, 200, .inl f953)), (q931, .inl (I .int, 720, .inl f944))]) (cs' := 0) (sl' := 0) rfl rfl rfl ?_
            refine G_iastN 6 0 d_cX0_rename_41 rfl rfl (gB_in bg1997' (by decide) (by decide)) (fun f2105 hf2105 => ?_)
            refine G_ws (ws' := [(q930, .inr (5, [.ref q932, .ref q933, .ref q934, .ref q935, .ref q936, .ref q937, .ref q938, .ref q939, .ref q940, .int p941, .int p942, .int p943])), (q932, .inl (I .int, 40, .inl f945)), (q933, .inl (I .int, 40, .inl f946)), (q934, .inl (I .int, 40, .inl f947)), (q935, .inl (I .int, 200, .inl f948)), (q936, .inl (I .int, 200, .inl f2066)), (q937, .inl (I .int, 200, .inl f2105)), (q938, .inl (I .int, 200, .inl f951)), (q939, .inl (I .int, 200, .inl f2000)), (q940, .inl (I .int, 200, .inl f953)), (q931, .inl (I .int, 720, .inl f944))]) (cs' := 0) (sl' := 0) rfl rfl rfl ?_
            refine G_aload_n 1 d_cX0_rename_42 rfl ?_
            refine G_getf 0 7 d_cX0_rename_43 rfl (gk_X0 D I) (Nat.le_of_ble_eq_true rfl) w_1_178 rfl ?_
            refine G_iload_n 0 d_cX0_rename_46 rfl ?_
            refine G_aload_n 2 d_cX0_rename_47 rfl ?_
            refine G_aload_n 1 d_cX0_rename_48 rfl ?_
            refine G_getf 0 7 d_cX0_rename_49 rfl (gk_X0 D I) (Nat.le_of_ble_eq_true rfl) w_1_178 rfl ?_
            refine G_iload_n 0 d_cX0_rename_52 rfl ?_
            refine G_iald 8 0 d_cX0_rename_53 rfl rfl (gB_in bg1997' (by decide) (by decide)) (G_nam fun z2106 hz2106 => ?_)
            have bz2106 : gB z2106 (-2147483648) 2147483647 := by rw [hz2106]; exact bf2000 _
            refine G_callS (As := [.ref q931, .int z2106]) (wr := [(q930, .inr (5, [.ref q932, .ref q933, .ref q934, .ref q935, .ref q936, .ref q937, .ref q938, .ref q939, .ref q940, .int p941, .int p942, .int p943])), (q932, .inl (I .int, 40, .inl f945)), (q933, .inl (I .int, 40, .inl f946)), (q934, .inl (I .int, 40, .inl f947)), (q935, .inl (I .int, 200, .inl f948)), (q936, .inl (I .int, 200, .inl f2066)), (q937, .inl (I .int, 200, .inl f2105)), (q938, .inl (I .int, 200, .inl f951)), (q939, .inl (I .int, 200, .inl f2000)), (q940, .inl (I .int, 200, .inl f953))]) (gV_ok D I) (ct_962_Code_nameIn l hl0 D I q931 z2106 f944 ) d_cX0_rename_54 ⟨w_5_154, w_1_5, w_5_156, by decide, rfl, (Nat.le_of_ble_eq_true rfl), (Nat.le_of_ble_eq_true rfl)⟩ w_5_155 [10] [0, 1, 2, 3, 4, 5, 6, 7, 8, 9] rfl rfl rfl rfl (by decide) (Nat.le_of_ble_eq_true rfl) (Nat.le_of_ble_eq_true rfl) (Nat.le_of_ble_eq_true rfl) (fun r w hp => ?_) (fun _ _ _ z => z.elim)
            rcases hp with ⟨rfl, rfl, r2107⟩ | ⟨rfl, rfl, r2108, r2109⟩ | ⟨z2110, rfl, rfl, r2111, r2112, r2113⟩
            · have bz2106' : gB z2106 (-2147483648) (-1) := ⟨by omega, by omega⟩
              change G _ _ _ _ _ _ _ (.int z2106 :: _) _ _ _
              refine G_ws (ws' := [(q930, .inr (5, [.ref q932, .ref q933, .ref q934, .ref q935, .ref q936, .ref q937, .ref q938, .ref q939, .ref q940, .int p941, .int p942, .int p943])), (q932, .inl (I .int, 40, .inl f945)), (q933, .inl (I .int, 40, .inl f946)), (q934, .inl (I .int, 40, .inl f947)), (q935, .inl (I .int, 200, .inl f948)), (q936, .inl (I .int, 200, .inl f2066)), (q937, .inl (I .int, 200, .inl f2105)), (q938, .inl (I .int, 200, .inl f951)), (q939, .inl (I .int, 200, .inl f2000)), (q940, .inl (I .int, 200, .inl f953)), (q931, .inl (I .int, 720, .inl f944))]) (cs' := 0) (sl' := 0) rfl rfl rfl ?_
              refine G_iastN 8 0 d_cX0_rename_57 rfl rfl (gB_in bg1997' (by decide) (by decide)) (fun f2114 hf2114 => ?_)
              refine G_ws (ws' := [(q930, .inr (5, [.ref q932, .ref q933, .ref q934, .ref q935, .ref q936, .ref q937, .ref q938, .ref q939, .ref q940, .int p941, .int p942, .int p943])), (q932, .inl (I .int, 40, .inl f945)), (q933, .inl (I .int, 40, .inl f946)), (q934, .inl (I .int, 40, .inl f947)), (q935, .inl (I .int, 200, .inl f948)), (q936, .inl (I .int, 200, .inl f2066)), (q937, .inl (I .int, 200, .inl f2105)), (q938, .inl (I .int, 200, .inl f951)), (q939, .inl (I .int, 200, .inl f2114)), (q940, .inl (I .int, 200, .inl f953)), (q931, .inl (I .int, 720, .inl f944))]) (cs' := 0) (sl' := 0) rfl rfl rfl ?_
              obtain ⟨z2115, hz2115⟩ : ∃ z : Int32, z = g1997 + Int32.ofInt 1 := ⟨_, rfl⟩
              have ez2115 : z2115.toInt = g1997.toInt + 1 := gI_inc hz2115 (by decide) bg1997' (by decide) (by decide)
              have bz2115 : gB z2115 1 200 := ⟨by omega, by omega⟩
              refine G_iinc (L' := [(2, .int z2115), (0, .ref q930), (1, .ref q931)]) z2115 0 d_cX0_rename_58 rfl hz2115.symm (Nat.le_of_ble_eq_true rfl) rfl ?_
              refine G_goto 2 d_cX0_rename_61 (by decide +kernel) ?_
              refine G_sub (ws' := [(q930, .inr (5, [.ref q932, .ref q933, .ref q934, .ref q935, .ref q936, .ref q937, .ref q938, .ref q939, .ref q940, .int p941, .int p942, .int p943])), (q931, .inl (I .int, 720, .inl f944)), (q932, .inl (I .int, 40, .inl f945)), (q933, .inl (I .int, 40, .inl f946)), (q934, .inl (I .int, 40, .inl f947)), (q935, .inl (I .int, 200, .inl f948)), (q936, .inl (I .int, 200, .inl f2066)), (q937, .inl (I .int, 200, .inl f2105)), (q938, .inl (I .int, 200, .inl f951)), (q939, .inl (I .int, 200, .inl f2114)), (q940, .inl (I .int, 200, .inl f953))]) [0, 10, 1, 2, 3, 4, 5, 6, 7, 8, 9] rfl rfl ?_
              exact ih2_2000 z2115 f2066 f2105 f2114 (gB_w bz2115 (by decide) (by decide)) (gF_any f2066) (gF_any f2105) (gF_any f2114) (by omega)
            · have bz2106' : gB z2106 0 2147483647 := ⟨by omega, by omega⟩
              have bz2106'' : gB z2106 720 2147483647 := ⟨by omega, by omega⟩
              change G _ _ _ _ _ _ _ (.int z2106 :: _) _ _ _
              refine G_ws (ws' := [(q930, .inr (5, [.ref q932, .ref q933, .ref q934, .ref q935, .ref q936, .ref q937, .ref q938, .ref q939, .ref q940, .int p941, .int p942, .int p943])), (q932, .inl (I .int, 40, .inl f945)), (q933, .inl (I .int, 40, .inl f946)), (q934, .inl (I .int, 40, .inl f947)), (q935, .inl (I .int, 200, .inl f948)), (q936, .inl (I .int, 200, .inl f2066)), (q937, .inl (I .int, 200, .inl f2105)), (q938, .inl (I .int, 200, .inl f951)), (q939, .inl (I .int, 200, .inl f2000)), (q940, .inl (I .int, 200, .inl f953)), (q931, .inl (I .int, 720, .inl f944))]) (cs' := 0) (sl' := 0) rfl rfl rfl ?_
              refine G_iastN 8 0 d_cX0_rename_57 rfl rfl (gB_in bg1997' (by decide) (by decide)) (fun f2116 hf2116 => ?_)
              refine G_ws (ws' := [(q930, .inr (5, [.ref q932, .ref q933, .ref q934, .ref q935, .ref q936, .ref q937, .ref q938, .ref q939, .ref q940, .int p941, .int p942, .int p943])), (q932, .inl (I .int, 40, .inl f945)), (q933, .inl (I .int, 40, .inl f946)), (q934, .inl (I .int, 40, .inl f947)), (q935, .inl (I .int, 200, .inl f948)), (q936, .inl (I .int, 200, .inl f2066)), (q937, .inl (I .int, 200, .inl f2105)), (q938, .inl (I .int, 200, .inl f951)), (q939, .inl (I .int, 200, .inl f2116)), (q940, .inl (I .int, 200, .inl f953)), (q931, .inl (I .int, 720, .inl f944))]) (cs' := 0) (sl' := 0) rfl rfl rfl ?_
              obtain ⟨z2117, hz2117⟩ : ∃ z : Int32, z = g1997 + Int32.ofInt 1 := ⟨_, rfl⟩
              have ez2117 : z2117.toInt = g1997.toInt + 1 := gI_inc hz2117 (by decide) bg1997' (by decide) (by decide)
              have bz2117 : gB z2117 1 200 := ⟨by omega, by omega⟩
              refine G_iinc (L' := [(2, .int z2117), (0, .ref q930), (1, .ref q931)]) z2117 0 d_cX0_rename_58 rfl hz2117.symm (Nat.le_of_ble_eq_true rfl) rfl ?_
              refine G_goto 2 d_cX0_rename_61 (by decide +kernel) ?_
              refine G_sub (ws' := [(q930, .inr (5, [.ref q932, .ref q933, .ref q934, .ref q935, .ref q936, .ref q937, .ref q938, .ref q939, .ref q940, .int p941, .int p942, .int p943])), (q931, .inl (I .int, 720, .inl f944)), (q932, .inl (I .int, 40, .inl f945)), (q933, .inl (I .int, 40, .inl f946)), (q934, .inl (I .int, 40, .inl f947)), (q935, .inl (I .int, 200, .inl f948)), (q936, .inl (I .int, 200, .inl f2066)), (q937, .inl (I .int, 200, .inl f2105)), (q938, .inl (I .int, 200, .inl f951)), (q939, .inl (I .int, 200, .inl f2116)), (q940, .inl (I .int, 200, .inl f953))]) [0, 10, 1, 2, 3, 4, 5, 6, 7, 8, 9] rfl rfl ?_
              exact ih2_2000 z2117 f2066 f2105 f2116 (gB_w bz2117 (by decide) (by decide)) (gF_any f2066) (gF_any f2105) (gF_any f2116) (by omega)
            · have bz2106' : gB z2106 0 2147483647 := ⟨by omega, by omega⟩
              have bz2106'' : gB z2106 0 719 := ⟨by omega, by omega⟩
              change G _ _ _ _ _ _ _ (.int z2110 :: _) _ _ _
              refine G_ws (ws' := [(q930, .inr (5, [.ref q932, .ref q933, .ref q934, .ref q935, .ref q936, .ref q937, .ref q938, .ref q939, .ref q940, .int p941, .int p942, .int p943])), (q932, .inl (I .int, 40, .inl f945)), (q933, .inl (I .int, 40, .inl f946)), (q934, .inl (I .int, 40, .inl f947)), (q935, .inl (I .int, 200, .inl f948)), (q936, .inl (I .int, 200, .inl f2066)), (q937, .inl (I .int, 200, .inl f2105)), (q938, .inl (I .int, 200, .inl f951)), (q939, .inl (I .int, 200, .inl f2000)), (q940, .inl (I .int, 200, .inl f953)), (q931, .inl (I .int, 720, .inl f944))]) (cs' := 0) (sl' := 0) rfl rfl rfl ?_
              refine G_iastN 8 0 d_cX0_rename_57 rfl rfl (gB_in bg1997' (by decide) (by decide)) (fun f2118 hf2118 => ?_)
              refine G_ws (ws' := [(q930, .inr (5, [.ref q932, .ref q933, .ref q934, .ref q935, .ref q936, .ref q937, .ref q938, .ref q939, .ref q940, .int p941, .int p942, .int p943])), (q932, .inl (I .int, 40, .inl f945)), (q933, .inl (I .int, 40, .inl f946)), (q934, .inl (I .int, 40, .inl f947)), (q935, .inl (I .int, 200, .inl f948)), (q936, .inl (I .int, 200, .inl f2066)), (q937, .inl (I .int, 200, .inl f2105)), (q938, .inl (I .int, 200, .inl f951)), (q939, .inl (I .int, 200, .inl f2118)), (q940, .inl (I .int, 200, .inl f953)), (q931, .inl (I .int, 720, .inl f944))]) (cs' := 0) (sl' := 0) rfl rfl rfl ?_
              obtain ⟨z2119, hz2119⟩ : ∃ z : Int32, z = g1997 + Int32.ofInt 1 := ⟨_, rfl⟩
              have ez2119 : z2119.toInt = g1997.toInt + 1 := gI_inc hz2119 (by decide) bg1997' (by decide) (by decide)
              have bz2119 : gB z2119 1 200 := ⟨by omega, by omega⟩
              refine G_iinc (L' := [(2, .int z2119), (0, .ref q930), (1, .ref q931)]) z2119 0 d_cX0_rename_58 rfl hz2119.symm (Nat.le_of_ble_eq_true rfl) rfl ?_
              refine G_goto 2 d_cX0_rename_61 (by decide +kernel) ?_
              refine G_sub (ws' := [(q930, .inr (5, [.ref q932, .ref q933, .ref q934, .ref q935, .ref q936, .ref q937, .ref q938, .ref q939, .ref q940, .int p941, .int p942, .int p943])), (q931, .inl (I .int, 720, .inl f944)), (q932, .inl (I .int, 40, .inl f945)), (q933, .inl (I .int, 40, .inl f946)), (q934, .inl (I .int, 40, .inl f947)), (q935, .inl (I .int, 200, .inl f948)), (q936, .inl (I .int, 200, .inl f2066)), (q937, .inl (I .int, 200, .inl f2105)), (q938, .inl (I .int, 200, .inl f951)), (q939, .inl (I .int, 200, .inl f2118)), (q940, .inl (I .int, 200, .inl f953))]) [0, 10, 1, 2, 3, 4, 5, 6, 7, 8, 9] rfl rfl ?_
              exact ih2_2000 z2119 f2066 f2105 f2118 (gB_w bz2119 (by decide) (by decide)) (gF_any f2066) (gF_any f2105) (gF_any f2118) (by omega)
        · have bz2004' : gB z2004 0 2147483647 := ⟨by omega, by omega⟩
          have bz2004'' : gB z2004 0 719 := ⟨by omega, by omega⟩
          change G _ _ _ _ _ _ _ (.int z2008 :: _) _ _ _
          refine G_ws (ws' := [(q930, .inr (5, [.ref q932, .ref q933, .ref q934, .ref q935, .ref q936, .ref q937, .ref q938, .ref q939, .ref q940, .int p941, .int p942, .int p943])), (q932, .inl (I .int, 40, .inl f945)), (q933, .inl (I .int, 40, .inl f946)), (q934, .inl (I .int, 40, .inl f947)), (q935, .inl (I .int, 200, .inl f948)), (q936, .inl (I .int, 200, .inl f1998)), (q937, .inl (I .int, 200, .inl f1999)), (q938, .inl (I .int, 200, .inl f951)), (q939, .inl (I .int, 200, .inl f2000)), (q940, .inl (I .int, 200, .inl f953)), (q931, .inl (I .int, 720, .inl f944))]) (cs' := 0) (sl' := 0) rfl rfl rfl ?_
          refine G_iastN 5 0 d_cX0_rename_25 rfl rfl (gB_in bg1997' (by decide) (by decide)) (fun f2120 hf2120 => ?_)
          refine G_ws (ws' := [(q930, .inr (5, [.ref q932, .ref q933, .ref q934, .ref q935, .ref q936, .ref q937, .ref q938, .ref q939, .ref q940, .int p941, .int p942, .int p943])), (q932, .inl (I .int, 40, .inl f945)), (q933, .inl (I .int, 40, .inl f946)), (q934, .inl (I .int, 40, .inl f947)), (q935, .inl (I .int, 200, .inl f948)), (q936, .inl (I .int, 200, .inl f2120)), (q937, .inl (I .int, 200, .inl f1999)), (q938, .inl (I .int, 200, .inl f951)), (q939, .inl (I .int, 200, .inl f2000)), (q940, .inl (I .int, 200, .inl f953)), (q931, .inl (I .int, 720, .inl f944))]) (cs' := 0) (sl' := 0) rfl rfl rfl ?_
          refine G_aload_n 1 d_cX0_rename_26 rfl ?_
          refine G_getf 0 5 d_cX0_rename_27 rfl (gk_X0 D I) (Nat.le_of_ble_eq_true rfl) w_1_168 rfl ?_
          refine G_iload_n 0 d_cX0_rename_30 rfl ?_
          refine G_aload_n 2 d_cX0_rename_31 rfl ?_
          refine G_aload_n 1 d_cX0_rename_32 rfl ?_
          refine G_getf 0 5 d_cX0_rename_33 rfl (gk_X0 D I) (Nat.le_of_ble_eq_true rfl) w_1_168 rfl ?_
          refine G_iload_n 0 d_cX0_rename_36 rfl ?_
          refine G_iald 6 0 d_cX0_rename_37 rfl rfl (gB_in bg1997' (by decide) (by decide)) (G_nam fun z2121 hz2121 => ?_)
          have bz2121 : gB z2121 (-2147483648) 2147483647 := by rw [hz2121]; exact bf1999 _
          refine G_callS (As := [.ref q931, .int z2121]) (wr := [(q930, .inr (5, [.ref q932, .ref q933, .ref q934, .ref q935, .ref q936, .ref q937, .ref q938, .ref q939, .ref q940, .int p941, .int p942, .int p943])), (q932, .inl (I .int, 40, .inl f945)), (q933, .inl (I .int, 40, .inl f946)), (q934, .inl (I .int, 40, .inl f947)), (q935, .inl (I .int, 200, .inl f948)), (q936, .inl (I .int, 200, .inl f2120)), (q937, .inl (I .int, 200, .inl f1999)), (q938, .inl (I .int, 200, .inl f951)), (q939, .inl (I .int, 200, .inl f2000)), (q940, .inl (I .int, 200, .inl f953))]) (gV_ok D I) (ct_962_Code_nameIn l hl0 D I q931 z2121 f944 ) d_cX0_rename_38 ⟨w_5_154, w_1_5, w_5_156, by decide, rfl, (Nat.le_of_ble_eq_true rfl), (Nat.le_of_ble_eq_true rfl)⟩ w_5_155 [10] [0, 1, 2, 3, 4, 5, 6, 7, 8, 9] rfl rfl rfl rfl (by decide) (Nat.le_of_ble_eq_true rfl) (Nat.le_of_ble_eq_true rfl) (Nat.le_of_ble_eq_true rfl) (fun r w hp => ?_) (fun _ _ _ z => z.elim)
          rcases hp with ⟨rfl, rfl, r2122⟩ | ⟨rfl, rfl, r2123, r2124⟩ | ⟨z2125, rfl, rfl, r2126, r2127, r2128⟩
          · have bz2121' : gB z2121 (-2147483648) (-1) := ⟨by omega, by omega⟩
            change G _ _ _ _ _ _ _ (.int z2121 :: _) _ _ _
            refine G_ws (ws' := [(q930, .inr (5, [.ref q932, .ref q933, .ref q934, .ref q935, .ref q936, .ref q937, .ref q938, .ref q939, .ref q940, .int p941, .int p942, .int p943])), (q932, .inl (I .int, 40, .inl f945)), (q933, .inl (I .int, 40, .inl f946)), (q934, .inl (I .int, 40, .inl f947)), (q935, .inl (I .int, 200, .inl f948)), (q936, .inl (I .int, 200, .inl f2120)), (q937, .inl (I .int, 200, .inl f1999)), (q938, .inl (I .int, 200, .inl f951)), (q939, .inl (I .int, 200, .inl f2000)), (q940, .inl (I .int, 200, .inl f953)), (q931, .inl (I .int, 720, .inl f944))]) (cs' := 0) (sl' := 0) rfl rfl rfl ?_
            refine G_iastN 6 0 d_cX0_rename_41 rfl rfl (gB_in bg1997' (by decide) (by decide)) (fun f2129 hf2129 => ?_)
            refine G_ws (ws' := [(q930, .inr (5, [.ref q932, .ref q933, .ref q934, .ref q935, .ref q936, .ref q937, .ref q938, .ref q939, .ref q940, .int p941, .int p942, .int p943])), (q932, .inl (I .int, 40, .inl f945)), (q933, .inl (I .int, 40, .inl f946)), (q934, .inl (I .int, 40, .inl f947)), (q935, .inl (I .int, 200, .inl f948)), (q936, .inl (I .int, 200, .inl f2120)), (q937, .inl (I .int, 200, .inl f2129)), (q938, .inl (I .int, 200, .inl f951)), (q939, .inl (I .int, 200, .inl f2000)), (q940, .inl (I .int, 200, .inl f953)), (q931, .inl (I .int, 720, .inl f944))]) (cs' := 0) (sl' := 0) rfl rfl rfl ?_
            refine G_aload_n 1 d_cX0_rename_42 rfl ?_
            refine G_getf 0 7 d_cX0_rename_43 rfl (gk_X0 D I) (Nat.le_of_ble_eq_true rfl) w_1_178 rfl ?_
            refine G_iload_n 0 d_cX0_rename_46 rfl ?_
            refine G_aload_n 2 d_cX0_rename_47 rfl ?_
            refine G_aload_n 1 d_cX0_rename_48 rfl ?_
            refine G_getf 0 7 d_cX0_rename_49 rfl (gk_X0 D I) (Nat.le_of_ble_eq_true rfl) w_1_178 rfl ?_
            refine G_iload_n 0 d_cX0_rename_52 rfl ?_
            refine G_iald 8 0 d_cX0_rename_53 rfl rfl (gB_in bg1997' (by decide) (by decide)) (G_nam fun z2130 hz2130 => ?_)
            have bz2130 : gB z2130 (-2147483648) 2147483647 := by rw [hz2130]; exact bf2000 _
            refine G_callS (As := [.ref q931, .int z2130]) (wr := [(q930, .inr (5, [.ref q932, .ref q933, .ref q934, .ref q935, .ref q936, .ref q937, .ref q938, .ref q939, .ref q940, .int p941, .int p942, .int p943])), (q932, .inl (I .int, 40, .inl f945)), (q933, .inl (I .int, 40, .inl f946)), (q934, .inl (I .int, 40, .inl f947)), (q935, .inl (I .int, 200, .inl f948)), (q936, .inl (I .int, 200, .inl f2120)), (q937, .inl (I .int, 200, .inl f2129)), (q938, .inl (I .int, 200, .inl f951)), (q939, .inl (I .int, 200, .inl f2000)), (q940, .inl (I .int, 200, .inl f953))]) (gV_ok D I) (ct_962_Code_nameIn l hl0 D I q931 z2130 f944 ) d_cX0_rename_54 ⟨w_5_154, w_1_5, w_5_156, by decide, rfl, (Nat.le_of_ble_eq_true rfl), (Nat.le_of_ble_eq_true rfl)⟩ w_5_155 [10] [0, 1, 2, 3, 4, 5, 6, 7, 8, 9] rfl rfl rfl rfl (by decide) (Nat.le_of_ble_eq_true rfl) (Nat.le_of_ble_eq_true rfl) (Nat.le_of_ble_eq_true rfl) (fun r w hp => ?_) (fun _ _ _ z => z.elim)
            rcases hp with ⟨rfl, rfl, r2131⟩ | ⟨rfl, rfl, r2132, r2133⟩ | ⟨z2134, rfl, rfl, r2135, r2136, r2137⟩
            · have bz2130' : gB z2130 (-2147483648) (-1) := ⟨by omega, by omega⟩
              change G _ _ _ _ _ _ _ (.int z2130 :: _) _ _ _
              refine G_ws (ws' := [(q930, .inr (5, [.ref q932, .ref q933, .ref q934, .ref q935, .ref q936, .ref q937, .ref q938, .ref q939, .ref q940, .int p941, .int p942, .int p943])), (q932, .inl (I .int, 40, .inl f945)), (q933, .inl (I .int, 40, .inl f946)), (q934, .inl (I .int, 40, .inl f947)), (q935, .inl (I .int, 200, .inl f948)), (q936, .inl (I .int, 200, .inl f2120)), (q937, .inl (I .int, 200, .inl f2129)), (q938, .inl (I .int, 200, .inl f951)), (q939, .inl (I .int, 200, .inl f2000)), (q940, .inl (I .int, 200, .inl f953)), (q931, .inl (I .int, 720, .inl f944))]) (cs' := 0) (sl' := 0) rfl rfl rfl ?_
              refine G_iastN 8 0 d_cX0_rename_57 rfl rfl (gB_in bg1997' (by decide) (by decide)) (fun f2138 hf2138 => ?_)
              refine G_ws (ws' := [(q930, .inr (5, [.ref q932, .ref q933, .ref q934, .ref q935, .ref q936, .ref q937, .ref q938, .ref q939, .ref q940, .int p941, .int p942, .int p943])), (q932, .inl (I .int, 40, .inl f945)), (q933, .inl (I .int, 40, .inl f946)), (q934, .inl (I .int, 40, .inl f947)), (q935, .inl (I .int, 200, .inl f948)), (q936, .inl (I .int, 200, .inl f2120)), (q937, .inl (I .int, 200, .inl f2129)), (q938, .inl (I .int, 200, .inl f951)), (q939, .inl (I .int, 200, .inl f2138)), (q940, .inl (I .int, 200, .inl f953)), (q931, .inl (I .int, 720, .inl f944))]) (cs' := 0) (sl' := 0) rfl rfl rfl ?_
              obtain ⟨z2139, hz2139⟩ : ∃ z : Int32, z = g1997 + Int32.ofInt 1 := ⟨_, rfl⟩
              have ez2139 : z2139.toInt = g1997.toInt + 1 := gI_inc hz2139 (by decide) bg1997' (by decide) (by decide)
              have bz2139 : gB z2139 1 200 := ⟨by omega, by omega⟩
              refine G_iinc (L' := [(2, .int z2139), (0, .ref q930), (1, .ref q931)]) z2139 0 d_cX0_rename_58 rfl hz2139.symm (Nat.le_of_ble_eq_true rfl) rfl ?_
              refine G_goto 2 d_cX0_rename_61 (by decide +kernel) ?_
              refine G_sub (ws' := [(q930, .inr (5, [.ref q932, .ref q933, .ref q934, .ref q935, .ref q936, .ref q937, .ref q938, .ref q939, .ref q940, .int p941, .int p942, .int p943])), (q931, .inl (I .int, 720, .inl f944)), (q932, .inl (I .int, 40, .inl f945)), (q933, .inl (I .int, 40, .inl f946)), (q934, .inl (I .int, 40, .inl f947)), (q935, .inl (I .int, 200, .inl f948)), (q936, .inl (I .int, 200, .inl f2120)), (q937, .inl (I .int, 200, .inl f2129)), (q938, .inl (I .int, 200, .inl f951)), (q939, .inl (I .int, 200, .inl f2138)), (q940, .inl (I .int, 200, .inl f953))]) [0, 10, 1, 2, 3, 4, 5, 6, 7, 8, 9] rfl rfl ?_
              exact ih2_2000 z2139 f2120 f2129 f2138 (gB_w bz2139 (by decide) (by decide)) (gF_any f2120) (gF_any f2129) (gF_any f2138) (by omega)
            · have bz2130' : gB z2130 0 2147483647 := ⟨by omega, by omega⟩
              have bz2130'' : gB z2130 720 2147483647 := ⟨by omega, by omega⟩
              change G _ _ _ _ _ _ _ (.int z2130 :: _) _ _ _
              refine G_ws (ws' := [(q930, .inr (5, [.ref q932, .ref q933, .ref q934, .ref q935, .ref q936, .ref q937, .ref q938, .ref q939, .ref q940, .int p941, .int p942, .int p943])), (q932, .inl (I .int, 40, .inl f945)), (q933, .inl (I .int, 40, .inl f946)), (q934, .inl (I .int, 40, .inl f947)), (q935, .inl (I .int, 200, .inl f948)), (q936, .inl (I .int, 200, .inl f2120)), (q937, .inl (I .int, 200, .inl f2129)), (q938, .inl (I .int, 200, .inl f951)), (q939, .inl (I .int, 200, .inl f2000)), (q940, .inl (I .int, 200, .inl f953)), (q931, .inl (I .int, 720, .inl f944))]) (cs' := 0) (sl' := 0) rfl rfl rfl ?_
              refine G_iastN 8 0 d_cX0_rename_57 rfl rfl (gB_in bg1997' (by decide) (by decide)) (fun f2140 hf2140 => ?_)
              refine G_ws (ws' := [(q930, .inr (5, [.ref q932, .ref q933, .ref q934, .ref q935, .ref q936, .ref q937, .ref q938, .ref q939, .ref q940, .int p941, .int p942, .int p943])), (q932, .inl (I .int, 40, .inl f945)), (q933, .inl (I .int, 40, .inl f946)), (q934, .inl (I .int, 40, .inl f947)), (q935, .inl (I .int, 200, .inl f948)), (q936, .inl (I .int, 200, .inl f2120)), (q937, .inl (I .int, 200, .inl f2129)), (q938, .inl (I .int, 200, .inl f951)), (q939, .inl (I .int, 200, .inl f2140)), (q940, .inl (I .int, 200, .inl f953)), (q931, .inl (I .int, 720, .inl f944))]) (cs' := 0) (sl' := 0) rfl rfl rfl ?_
              obtain ⟨z2141, hz2141⟩ : ∃ z : Int32, z = g1997 + Int32.ofInt 1 := ⟨_, rfl⟩
              have ez2141 : z2141.toInt = g1997.toInt + 1 := gI_inc hz2141 (by decide) bg1997' (by decide) (by decide)
              have bz2141 : gB z2141 1 200 := ⟨by omega, by omega⟩
              refine G_iinc (L' := [(2, .int z2141), (0, .ref q930), (1, .ref q931)]) z2141 0 d_cX0_rename_58 rfl hz2141.symm (Nat.le_of_ble_eq_true rfl) rfl ?_
              refine G_goto 2 d_cX0_rename_61 (by decide +kernel) ?_
              refine G_sub (ws' := [(q930, .inr (5, [.ref q932, .ref q933, .ref q934, .ref q935, .ref q936, .ref q937, .ref q938, .ref q939, .ref q940, .int p941, .int p942, .int p943])), (q931, .inl (I .int, 720, .inl f944)), (q932, .inl (I .int, 40, .inl f945)), (q933, .inl (I .int, 40, .inl f946)), (q934, .inl (I .int, 40, .inl f947)), (q935, .inl (I .int, 200, .inl f948)), (q936, .inl (I .int, 200, .inl f2120)), (q937, .inl (I .int, 200, .inl f2129)), (q938, .inl (I .int, 200, .inl f951)), (q939, .inl (I .int, 200, .inl f2140)), (q940, .inl (I .int, 200, .inl f953))]) [0, 10, 1, 2, 3, 4, 5, 6, 7, 8, 9] rfl rfl ?_
              exact ih2_2000 z2141 f2120 f2129 f2140 (gB_w bz2141 (by decide) (by decide)) (gF_any f2120) (gF_any f2129) (gF_any f2140) (by omega)
            · have bz2130' : gB z2130 0 2147483647 := ⟨by omega, by omega⟩
              have bz2130'' : gB z2130 0 719 := ⟨by omega, by omega⟩
              change G _ _ _ _ _ _ _ (.int z2134 :: _) _ _ _
              refine G_ws (ws' := [(q930, .inr (5, [.ref q932, .ref q933, .ref q934, .ref q935, .ref q936, .ref q937, .ref q938, .ref q939, .ref q940, .int p941, .int p942, .int p943])), (q932, .inl (I .int, 40, .inl f945)), (q933, .inl (I .int, 40, .inl f946)), (q934, .inl (I .int, 40, .inl f947)), (q935, .inl (I .int, 200, .inl f948)), (q936, .inl (I .int, 200, .inl f2120)), (q937, .inl (I .int, 200, .inl f2129)), (q938, .inl (I .int, 200, .inl f951)), (q939, .inl (I .int, 200, .inl f2000)), (q940, .inl (I .int, 200, .inl f953)), (q931, .inl (I .int, 720, .inl f944))]) (cs' := 0) (sl' := 0) rfl rfl rfl ?_
              refine G_iastN 8 0 d_cX0_rename_57 rfl rfl (gB_in bg1997' (by decide) (by decide)) (fun f2142 hf2142 => ?_)
              refine G_ws (ws' := [(q930, .inr (5, [.ref q932, .ref q933, .ref q934, .ref q935, .ref q936, .ref q937, .ref q938, .ref q939, .ref q940, .int p941, .int p942, .int p943])), (q932, .inl (I .int, 40, .inl f945)), (q933, .inl (I .int, 40, .inl f946)), (q934, .inl (I .int, 40, .inl f947)), (q935, .inl (I .int, 200, .inl f948)), (q936, .inl (I .int, 200, .inl f2120)), (q937, .inl (I .int, 200, .inl f2129)), (q938, .inl (I .int, 200, .inl f951)), (q939, .inl (I .int, 200, .inl f2142)), (q940, .inl (I .int, 200, .inl f953)), (q931, .inl (I .int, 720, .inl f944))]) (cs' := 0) (sl' := 0) rfl rfl rfl ?_
              obtain ⟨z2143, hz2143⟩ : ∃ z : Int32, z = g1997 + Int32.ofInt 1 := ⟨_, rfl⟩
              have ez2143 : z2143.toInt = g1997.toInt + 1 := gI_inc hz2143 (by decide) bg1997' (by decide) (by decide)
              have bz2143 : gB z2143 1 200 := ⟨by omega, by omega⟩
              refine G_iinc (L' := [(2, .int z2143), (0, .ref q930), (1, .ref q931)]) z2143 0 d_cX0_rename_58 rfl hz2143.symm (Nat.le_of_ble_eq_true rfl) rfl ?_
              refine G_goto 2 d_cX0_rename_61 (by decide +kernel) ?_
              refine G_sub (ws' := [(q930, .inr (5, [.ref q932, .ref q933, .ref q934, .ref q935, .ref q936, .ref q937, .ref q938, .ref q939, .ref q940, .int p941, .int p942, .int p943])), (q931, .inl (I .int, 720, .inl f944)), (q932, .inl (I .int, 40, .inl f945)), (q933, .inl (I .int, 40, .inl f946)), (q934, .inl (I .int, 40, .inl f947)), (q935, .inl (I .int, 200, .inl f948)), (q936, .inl (I .int, 200, .inl f2120)), (q937, .inl (I .int, 200, .inl f2129)), (q938, .inl (I .int, 200, .inl f951)), (q939, .inl (I .int, 200, .inl f2142)), (q940, .inl (I .int, 200, .inl f953))]) [0, 10, 1, 2, 3, 4, 5, 6, 7, 8, 9] rfl rfl ?_
              exact ih2_2000 z2143 f2120 f2129 f2142 (gB_w bz2143 (by decide) (by decide)) (gF_any f2120) (gF_any f2129) (gF_any f2142) (by omega)
          · have bz2121' : gB z2121 0 2147483647 := ⟨by omega, by omega⟩
            have bz2121'' : gB z2121 720 2147483647 := ⟨by omega, by omega⟩
            change G _ _ _ _ _ _ _ (.int z2121 :: _) _ _ _
            refine G_ws (ws' := [(q930, .inr (5, [.ref q932, .ref q933, .ref q934, .ref q935, .ref q936, .ref q937, .ref q938, .ref q939, .ref q940, .int p941, .int p942, .int p943])), (q932, .inl (I .int, 40, .inl f945)), (q933, .inl (I .int, 40, .inl f946)), (q934, .inl (I .int, 40, .inl f947)), (q935, .inl (I .int, 200, .inl f948)), (q936, .inl (I .int, 200, .inl f2120)), (q937, .inl (I .int, 200, .inl f1999)), (q938, .inl (I .int, 200, .inl f951)), (q939, .inl (I .int, 200, .inl f2000)), (q940, .inl (I .int, 200, .inl f953)), (q931, .inl (I .int, 720, .inl f944))]) (cs' := 0) (sl' := 0) rfl rfl rfl ?_
            refine G_iastN 6 0 d_cX0_rename_41 rfl rfl (gB_in bg1997' (by decide) (by decide)) (fun f2144 hf2144 => ?_)
            refine G_ws (ws' := [(q930, .inr (5, [.ref q932, .ref q933, .ref q934, .ref q935, .ref q936, .ref q937, .ref q938, .ref q939, .ref q940, .int p941, .int p942, .int p943])), (q932, .inl (I .int, 40, .inl f945)), (q933, .inl (I .int, 40, .inl f946)), (q934, .inl (I .int, 40, .inl f947)), (q935, .inl (I .int, 200, .inl f948)), (q936, .inl (I .int, 200, .inl f2120)), (q937, .inl (I .int, 200, .inl f2144)), (q938, .inl (I .int, 200, .inl f951)), (q939, .inl (I .int, 200, .inl f2000)), (q940, .inl (I .int, 200, .inl f953)), (q931, .inl (I .int, 720, .inl f944))]) (cs' := 0) (sl' := 0) rfl rfl rfl ?_
            refine G_aload_n 1 d_cX0_rename_42 rfl ?_
            refine G_getf 0 7 d_cX0_rename_43 rfl (gk_X0 D I) (Nat.le_of_ble_eq_true rfl) w_1_178 rfl ?_
            refine G_iload_n 0 d_cX0_rename_46 rfl ?_
            refine G_aload_n 2 d_cX0_rename_47 rfl ?_
            refine G_aload_n 1 d_cX0_rename_48 rfl ?_
            refine G_getf 0 7 d_cX0_rename_49 rfl (gk_X0 D I) (Nat.le_of_ble_eq_true rfl) w_1_178 rfl ?_
            refine G_iload_n 0 d_cX0_rename_52 rfl ?_
            refine G_iald 8 0 d_cX0_rename_53 rfl rfl (gB_in bg1997' (by decide) (by decide)) (G_nam fun z2145 hz2145 => ?_)
            have bz2145 : gB z2145 (-2147483648) 2147483647 := by rw [hz2145]; exact bf2000 _
            refine G_callS (As := [.ref q931, .int z2145]) (wr := [(q930, .inr (5, [.ref q932, .ref q933, .ref q934, .ref q935, .ref q936, .ref q937, .ref q938, .ref q939, .ref q940, .int p941, .int p942, .int p943])), (q932, .inl (I .int, 40, .inl f945)), (q933, .inl (I .int, 40, .inl f946)), (q934, .inl (I .int, 40, .inl f947)), (q935, .inl (I .int, 200, .inl f948)), (q936, .inl (I .int, 200, .inl f2120)), (q937, .inl (I .int, 200, .inl f2144)), (q938, .inl (I .int, 200, .inl f951)), (q939, .inl (I .int, 200, .inl f2000)), (q940, .inl (I .int, 200, .inl f953))]) (gV_ok D I) (ct_962_Code_nameIn l hl0 D I q931 z2145 f944 ) d_cX0_rename_54 ⟨w_5_154, w_1_5, w_5_156, by decide, rfl, (Nat.le_of_ble_eq_true rfl), (Nat.le_of_ble_eq_true rfl)⟩ w_5_155 [10] [0, 1, 2, 3, 4, 5, 6, 7, 8, 9] rfl rfl rfl rfl (by decide) (Nat.le_of_ble_eq_true rfl) (Nat.le_of_ble_eq_true rfl) (Nat.le_of_ble_eq_true rfl) (fun r w hp => ?_) (fun _ _ _ z => z.elim)
            rcases hp with ⟨rfl, rfl, r2146⟩ | ⟨rfl, rfl, r2147, r2148⟩ | ⟨z2149, rfl, rfl, r2150, r2151, r2152⟩
            · have bz2145' : gB z2145 (-2147483648) (-1) := ⟨by omega, by omega⟩
              change G _ _ _ _ _ _ _ (.int z2145 :: _) _ _ _
              refine G_ws (ws' := [(q930, .inr (5, [.ref q932, .ref q933, .ref q934, .ref q935, .ref q936, .ref q937, .ref q938, .ref q939, .ref q940, .int p941, .int p942, .int p943])), (q932, .inl (I .int, 40, .inl f945)), (q933, .inl (I .int, 40, .inl f946)), (q934, .inl (I .int, 40, .inl f947)), (q935, .inl (I .int, 200, .inl f948)), (q936, .inl (I .int, 200, .inl f2120)), (q937, .inl (I .int, 200, .inl f2144)), (q938, .inl (I .int, 200, .inl f951)), (q939, .inl (I .int, 200, .inl f2000)), (q940, .inl (I .int, 200, .inl f953)), (q931, .inl (I .int, 720, .inl f944))]) (cs' := 0) (sl' := 0) rfl rfl rfl ?_
              refine G_iastN 8 0 d_cX0_rename_57 rfl rfl (gB_in bg1997' (by decide) (by decide)) (fun f2153 hf2153 => ?_)
              refine G_ws (ws' := [(q930, .inr (5, [.ref q932, .ref q933, .ref q934, .ref q935, .ref q936, .ref q937, .ref q938, .ref q939, .ref q940, .int p941, .int p942, .int p943])), (q932, .inl (I .int, 40, .inl f945)), (q933, .inl (I .int, 40, .inl f946)), (q934, .inl (I .int, 40, .inl f947)), (q935, .inl (I .int, 200, .inl f948)), (q936, .inl (I .int, 200, .inl f2120)), (q937, .inl (I .int, 200, .inl f2144)), (q938, .inl (I .int, 200, .inl f951)), (q939, .inl (I .int, 200, .inl f2153)), (q940, .inl (I .int, 200, .inl f953)), (q931, .inl (I .int, 720, .inl f944))]) (cs' := 0) (sl' := 0) rfl rfl rfl ?_
              obtain ⟨z2154, hz2154⟩ : ∃ z : Int32, z = g1997 + Int32.ofInt 1 := ⟨_, rfl⟩
              have ez2154 : z2154.toInt = g1997.toInt + 1 := gI_inc hz2154 (by decide) bg1997' (by decide) (by decide)
              have bz2154 : gB z2154 1 200 := ⟨by omega, by omega⟩
              refine G_iinc (L' := [(2, .int z2154), (0, .ref q930), (1, .ref q931)]) z2154 0 d_cX0_rename_58 rfl hz2154.symm (Nat.le_of_ble_eq_true rfl) rfl ?_
              refine G_goto 2 d_cX0_rename_61 (by decide +kernel) ?_
              refine G_sub (ws' := [(q930, .inr (5, [.ref q932, .ref q933, .ref q934, .ref q935, .ref q936, .ref q937, .ref q938, .ref q939, .ref q940, .int p941, .int p942, .int p943])), (q931, .inl (I .int, 720, .inl f944)), (q932, .inl (I .int, 40, .inl f945)), (q933, .inl (I .int, 40, .inl f946)), (q934, .inl (I .int, 40, .inl f947)), (q935, .inl (I .int, 200, .inl f948)), (q936, .inl (I .int, 200, .inl f2120)), (q937, .inl (I .int, 200, .inl f2144)), (q938, .inl (I .int, 200, .inl f951)), (q939, .inl (I .int, 200, .inl f2153)), (q940, .inl (I .int, 200, .inl f953))]) [0, 10, 1, 2, 3, 4, 5, 6, 7, 8, 9] rfl rfl ?_
              exact ih2_2000 z2154 f2120 f2144 f2153 (gB_w bz2154 (by decide) (by decide)) (gF_any f2120) (gF_any f2144) (gF_any f2153) (by omega)
            · have bz2145' : gB z2145 0 2147483647 := ⟨by omega, by omega⟩
              have bz2145'' : gB z2145 720 2147483647 := ⟨by omega, by omega⟩
              change G _ _ _ _ _ _ _ (.int z2145 :: _) _ _ _
              refine G_ws (ws' := [(q930, .inr (5, [.ref q932, .ref q933, .ref q934, .ref q935, .ref q936, .ref q937, .ref q938, .ref q939, .ref q940, .int p941, .int p942, .int p943])), (q932, .inl (I .int, 40, .inl f945)), (q933, .inl (I .int, 40, .inl f946)), (q934, .inl (I .int, 40, .inl f947)), (q935, .inl (I .int, 200, .inl f948)), (q936, .inl (I .int, 200, .inl f2120)), (q937, .inl (I .int, 200, .inl f2144)), (q938, .inl (I .int, 200, .inl f951)), (q939, .inl (I .int, 200, .inl f2000)), (q940, .inl (I .int, 200, .inl f953)), (q931, .inl (I .int, 720, .inl f944))]) (cs' := 0) (sl' := 0) rfl rfl rfl ?_
              refine G_iastN 8 0 d_cX0_rename_57 rfl rfl (gB_in bg1997' (by decide) (by decide)) (fun f2155 hf2155 => ?_)
              refine G_ws (ws' := [(q930, .inr (5, [.ref q932, .ref q933, .ref q934, .ref q935, .ref q936, .ref q937, .ref q938, .ref q939, .ref q940, .int p941, .int p942, .int p943])), (q932, .inl (I .int, 40, .inl f945)), (q933, .inl (I .int, 40, .inl f946)), (q934, .inl (I .int, 40, .inl f947)), (q935, .inl (I .int, 200, .inl f948)), (q936, .inl (I .int, 200, .inl f2120)), (q937, .inl (I .int, 200, .inl f2144)), (q938, .inl (I .int, 200, .inl f951)), (q939, .inl (I .int, 200, .inl f2155)), (q940, .inl (I .int, 200, .inl f953)), (q931, .inl (I .int, 720, .inl f944))]) (cs' := 0) (sl' := 0) rfl rfl rfl ?_
              obtain ⟨z2156, hz2156⟩ : ∃ z : Int32, z = g1997 + Int32.ofInt 1 := ⟨_, rfl⟩
              have ez2156 : z2156.toInt = g1997.toInt + 1 := gI_inc hz2156 (by decide) bg1997' (by decide) (by decide)
              have bz2156 : gB z2156 1 200 := ⟨by omega, by omega⟩
              refine G_iinc (L' := [(2, .int z2156), (0, .ref q930), (1, .ref q931)]) z2156 0 d_cX0_rename_58 rfl hz2156.symm (Nat.le_of_ble_eq_true rfl) rfl ?_
              refine G_goto 2 d_cX0_rename_61 (by decide +kernel) ?_
              refine G_sub (ws' := [(q930, .inr (5, [.ref q932, .ref q933, .ref q934, .ref q935, .ref q936, .ref q937, .ref q938, .ref q939, .ref q940, .int p941, .int p942, .int p943])), (q931, .inl (I .int, 720, .inl f944)), (q932, .inl (I .int, 40, .inl f945)), (q933, .inl (I .int, 40, .inl f946)), (q934, .inl (I .int, 40, .inl f947)), (q935, .inl (I .int, 200, .inl f948)), (q936, .inl (I .int, 200, .inl f2120)), (q937, .inl (I .int, 200, .inl f2144)), (q938, .inl (I .int, 200, .inl f951)), (q939, .inl (I .int, 200, .inl f2155)), (q940, .inl (I .int, 200, .inl f953))]) [0, 10, 1, 2, 3, 4, 5, 6, 7, 8, 9] rfl rfl ?_
              exact ih2_2000 z2156 f2120 f2144 f2155 (gB_w bz2156 (by decide) (by decide)) (gF_any f2120) (gF_any f2144) (gF_any f2155) (by omega)
            · have bz2145' : gB z2145 0 2147483647 := ⟨by omega, by omega⟩
              have bz2145'' : gB z2145 0 719 := ⟨by omega, by omega⟩
              change G _ _ _ _ _ _ _ (.int z2149 :: _) _ _ _
              refine G_ws (ws' := [(q930, .inr (5, [.ref q932, .ref q933, .ref q934, .ref q935, .ref q936, .ref q937, .ref q938, .ref q939, .ref q940, .int p941, .int p942, .int p943])), (q932, .inl (I .int, 40, .inl f945)), (q933, .inl (I .int, 40, .inl f946)), (q934, .inl (I .int, 40, .inl f947)), (q935, .inl (I .int, 200, .inl f948)), (q936, .inl (I .int, 200, .inl f2120)), (q937, .inl (I .int, 200, .inl f2144)), (q938, .inl (I .int, 200, .inl f951)), (q939, .inl (I .int, 200, .inl f2000)), (q940, .inl (I .int, 200, .inl f953)), (q931, .inl (I .int, 720, .inl f944))]) (cs' := 0) (sl' := 0) rfl rfl rfl ?_
              refine G_iastN 8 0 d_cX0_rename_57 rfl rfl (gB_in bg1997' (by decide) (by decide)) (fun f2157 hf2157 => ?_)
              refine G_ws (ws' := [(q930, .inr (5, [.ref q932, .ref q933, .ref q934, .ref q935, .ref q936, .ref q937, .ref q938, .ref q939, .ref q940, .int p941, .int p942, .int p943])), (q932, .inl (I .int, 40, .inl f945)), (q933, .inl (I .int, 40, .inl f946)), (q934, .inl (I .int, 40, .inl f947)), (q935, .inl (I .int, 200, .inl f948)), (q936, .inl (I .int, 200, .inl f2120)), (q937, .inl (I .int, 200, .inl f2144)), (q938, .inl (I .int, 200, .inl f951)), (q939, .inl (I .int, 200, .inl f2157)), (q940, .inl (I .int, 200, .inl f953)), (q931, .inl (I .int, 720, .inl f944))]) (cs' := 0) (sl' := 0) rfl rfl rfl ?_
              obtain ⟨z2158, hz2158⟩ : ∃ z : Int32, z = g1997 + Int32.ofInt 1 := ⟨_, rfl⟩
              have ez2158 : z2158.toInt = g1997.toInt + 1 := gI_inc hz2158 (by decide) bg1997' (by decide) (by decide)
              have bz2158 : gB z2158 1 200 := ⟨by omega, by omega⟩
              refine G_iinc (L' := [(2, .int z2158), (0, .ref q930), (1, .ref q931)]) z2158 0 d_cX0_rename_58 rfl hz2158.symm (Nat.le_of_ble_eq_true rfl) rfl ?_
              refine G_goto 2 d_cX0_rename_61 (by decide +kernel) ?_
              refine G_sub (ws' := [(q930, .inr (5, [.ref q932, .ref q933, .ref q934, .ref q935, .ref q936, .ref q937, .ref q938, .ref q939, .ref q940, .int p941, .int p942, .int p943])), (q931, .inl (I .int, 720, .inl f944)), (q932, .inl (I .int, 40, .inl f945)), (q933, .inl (I .int, 40, .inl f946)), (q934, .inl (I .int, 40, .inl f947)), (q935, .inl (I .int, 200, .inl f948)), (q936, .inl (I .int, 200, .inl f2120)), (q937, .inl (I .int, 200, .inl f2144)), (q938, .inl (I .int, 200, .inl f951)), (q939, .inl (I .int, 200, .inl f2157)), (q940, .inl (I .int, 200, .inl f953))]) [0, 10, 1, 2, 3, 4, 5, 6, 7, 8, 9] rfl rfl ?_
              exact ih2_2000 z2158 f2120 f2144 f2157 (gB_w bz2158 (by decide) (by decide)) (gF_any f2120) (gF_any f2144) (gF_any f2157) (by omega)
          · have bz2121' : gB z2121 0 2147483647 := ⟨by omega, by omega⟩
            have bz2121'' : gB z2121 0 719 := ⟨by omega, by omega⟩
            change G _ _ _ _ _ _ _ (.int z2125 :: _) _ _ _
            refine G_ws (ws' := [(q930, .inr (5, [.ref q932, .ref q933, .ref q934, .ref q935, .ref q936, .ref q937, .ref q938, .ref q939, .ref q940, .int p941, .int p942, .int p943])), (q932, .inl (I .int, 40, .inl f945)), (q933, .inl (I .int, 40, .inl f946)), (q934, .inl (I .int, 40, .inl f947)), (q935, .inl (I .int, 200, .inl f948)), (q936, .inl (I .int, 200, .inl f2120)), (q937, .inl (I .int, 200, .inl f1999)), (q938, .inl (I .int, 200, .inl f951)), (q939, .inl (I .int, 200, .inl f2000)), (q940, .inl (I .int, 200, .inl f953)), (q931, .inl (I .int, 720, .inl f944))]) (cs' := 0) (sl' := 0) rfl rfl rfl ?_
            refine G_iastN 6 0 d_cX0_rename_41 rfl rfl (gB_in bg1997' (by decide) (by decide)) (fun f2159 hf2159 => ?_)
            refine G_ws (ws' := [(q930, .inr (5, [.ref q932, .ref q933, .ref q934, .ref q935, .ref q936, .ref q937, .ref q938, .ref q939, .ref q940, .int p941, .int p942, .int p943])), (q932, .inl (I .int, 40, .inl f945)), (q933, .inl (I .int, 40, .inl f946)), (q934, .inl (I .int, 40, .inl f947)), (q935, .inl (I .int, 200, .inl f948)), (q936, .inl (I .int, 200, .inl f2120)), (q937, .inl (I .int, 200, .inl f2159)), (q938, .inl (I .int, 200, .inl f951)), (q939, .inl (I .int, 200, .inl f2000)), (q940, .inl (I .int, 200, .inl f953)), (q931, .inl (I .int, 720, .inl f944))]) (cs' := 0) (sl' := 0) rfl rfl rfl ?_
            refine G_aload_n 1 d_cX0_rename_42 rfl ?_
            refine G_getf 0 7 d_cX0_rename_43 rfl (gk_X0 D I) (Nat.le_of_ble_eq_true rfl) w_1_178 rfl ?_
            refine G_iload_n 0 d_cX0_rename_46 rfl ?_
            refine G_aload_n 2 d_cX0_rename_47 rfl ?_
            refine G_aload_n 1 d_cX0_rename_48 rfl ?_
            refine G_getf 0 7 d_cX0_rename_49 rfl (gk_X0 D I) (Nat.le_of_ble_eq_true rfl) w_1_178 rfl ?_
            refine G_iload_n 0 d_cX0_rename_52 rfl ?_
            refine G_iald 8 0 d_cX0_rename_53 rfl rfl (gB_in bg1997' (by decide) (by decide)) (G_nam fun z2160 hz2160 => ?_)
            have bz2160 : gB z2160 (-2147483648) 2147483647 := by rw [hz2160]; exact bf2000 _
            refine G_callS (As := [.ref q931, .int z2160]) (wr := [(q930, .inr (5, [.ref q932, .ref q933, .ref q934, .ref q935, .ref q936, .ref q937, .ref q938, .ref q939, .ref q940, .int p941, .int p942, .int p943])), (q932, .inl (I .int, 40, .inl f945)), (q933, .inl (I .int, 40, .inl f946)), (q934, .inl (I .int, 40, .inl f947)), (q935, .inl (I .int, 200, .inl f948)), (q936, .inl (I .int, 200, .inl f2120)), (q937, .inl (I .int, 200, .inl f2159)), (q938, .inl (I .int, 200, .inl f951)), (q939, .inl (I .int, 200, .inl f2000)), (q940, .inl (I .int, 200, .inl f953))]) (gV_ok D I) (ct_962_Code_nameIn l hl0 D I q931 z2160 f944 ) d_cX0_rename_54 ⟨w_5_154, w_1_5, w_5_156, by decide, rfl, (Nat.le_of_ble_eq_true rfl), (Nat.le_of_ble_eq_true rfl)⟩ w_5_155 [10] [0, 1, 2, 3, 4, 5, 6, 7, 8, 9] rfl rfl rfl rfl (by decide) (Nat.le_of_ble_eq_true rfl) (Nat.le_of_ble_eq_true rfl) (Nat.le_of_ble_eq_true rfl) (fun r w hp => ?_) (fun _ _ _ z => z.elim)
            rcases hp with ⟨rfl, rfl, r2161⟩ | ⟨rfl, rfl, r2162, r2163⟩ | ⟨z2164, rfl, rfl, r2165, r2166, r2167⟩
            · have bz2160' : gB z2160 (-2147483648) (-1) := ⟨by omega, by omega⟩
              change G _ _ _ _ _ _ _ (.int z2160 :: _) _ _ _
              refine G_ws (ws' := [(q930, .inr (5, [.ref q932, .ref q933, .ref q934, .ref q935, .ref q936, .ref q937, .ref q938, .ref q939, .ref q940, .int p941, .int p942, .int p943])), (q932, .inl (I .int, 40, .inl f945)), (q933, .inl (I .int, 40, .inl f946)), (q934, .inl (I .int, 40, .inl f947)), (q935, .inl (I .int, 200, .inl f948)), (q936, .inl (I .int, 200, .inl f2120)), (q937, .inl (I .int, 200, .inl f2159)), (q938, .inl (I .int, 200, .inl f951)), (q939, .inl (I .int, 200, .inl f2000)), (q940, .inl (I .int, 200, .inl f953)), (q931, .inl (I .int, 720, .inl f944))]) (cs' := 0) (sl' := 0) rfl rfl rfl ?_
              refine G_iastN 8 0 d_cX0_rename_57 rfl rfl (gB_in bg1997' (by decide) (by decide)) (fun f2168 hf2168 => ?_)
              refine G_ws (ws' := [(q930, .inr (5, [.ref q932, .ref q933, .ref q934, .ref q935, .ref q936, .ref q937, .ref q938, .ref q939, .ref q940, .int p941, .int p942, .int p943])), (q932, .inl (I .int, 40, .inl f945)), (q933, .inl (I .int, 40, .inl f946)), (q934, .inl (I .int, 40, .inl f947)), (q935, .inl (I .int, 200, .inl f948)), (q936, .inl (I .int, 200, .inl f2120)), (q937, .inl (I .int, 200, .inl f2159)), (q938, .inl (I .int, 200, .inl f951)), (q939, .inl (I .int, 200, .inl f2168)), (q940, .inl (I .int, 200, .inl f953)), (q931, .inl (I .int, 720, .inl f944))]) (cs' := 0) (sl' := 0) rfl rfl rfl ?_
              obtain ⟨z2169, hz2169⟩ : ∃ z : Int32, z = g1997 + Int32.ofInt 1 := ⟨_, rfl⟩
              have ez2169 : z2169.toInt = g1997.toInt + 1 := gI_inc hz2169 (by decide) bg1997' (by decide) (by decide)
              have bz2169 : gB z2169 1 200 := ⟨by omega, by omega⟩
              refine G_iinc (L' := [(2, .int z2169), (0, .ref q930), (1, .ref q931)]) z2169 0 d_cX0_rename_58 rfl hz2169.symm (Nat.le_of_ble_eq_true rfl) rfl ?_
              refine G_goto 2 d_cX0_rename_61 (by decide +kernel) ?_
              refine G_sub (ws' := [(q930, .inr (5, [.ref q932, .ref q933, .ref q934, .ref q935, .ref q936, .ref q937, .ref q938, .ref q939, .ref q940, .int p941, .int p942, .int p943])), (q931, .inl (I .int, 720, .inl f944)), (q932, .inl (I .int, 40, .inl f945)), (q933, .inl (I .int, 40, .inl f946)), (q934, .inl (I .int, 40, .inl f947)), (q935, .inl (I .int, 200, .inl f948)), (q936, .inl (I .int, 200, .inl f2120)), (q937, .inl (I .int, 200, .inl f2159)), (q938, .inl (I .int, 200, .inl f951)), (q939, .inl (I .int, 200, .inl f2168)), (q940, .inl (I .int, 200, .inl f953))]) [0, 10, 1, 2, 3, 4, 5, 6, 7, 8, 9] rfl rfl ?_
              exact ih2_2000 z2169 f2120 f2159 f2168 (gB_w bz2169 (by decide) (by decide)) (gF_any f2120) (gF_any f2159) (gF_any f2168) (by omega)
            · have bz2160' : gB z2160 0 2147483647 := ⟨by omega, by omega⟩
              have bz2160'' : gB z2160 720 2147483647 := ⟨by omega, by omega⟩
              change G _ _ _ _ _ _ _ (.int z2160 :: _) _ _ _
              refine G_ws (ws' := [(q930, .inr (5, [.ref q932, .ref q933, .ref q934, .ref q935, .ref q936, .ref q937, .ref q938, .ref q939, .ref q940, .int p941, .int p942, .int p943])), (q932, .inl (I .int, 40, .inl f945)), (q933, .inl (I .int, 40, .inl f946)), (q934, .inl (I .int, 40, .inl f947)), (q935, .inl (I .int, 200, .inl f948)), (q936, .inl (I .int, 200, .inl f2120)), (q937, .inl (I .int, 200, .inl f2159)), (q938, .inl (I .int, 200, .inl f951)), (q939, .inl (I .int, 200, .inl f2000)), (q940, .inl (I .int, 200, .inl f953)), (q931, .inl (I .int, 720, .inl f944))]) (cs' := 0) (sl' := 0) rfl rfl rfl ?_
              refine G_iastN 8 0 d_cX0_rename_57 rfl rfl (gB_in bg1997' (by decide) (by decide)) (fun f2170 hf2170 => ?_)
              refine G_ws (ws' := [(q930, .inr (5, [.ref q932, .ref q933, .ref q934, .ref q935, .ref q936, .ref q937, .ref q938, .ref q939, .ref q940, .int p941, .int p942, .int p943])), (q932, .inl (I .int, 40, .inl f945)), (q933, .inl (I .int, 40, .inl f946)), (q934, .inl (I .int, 40, .inl f947)), (q935, .inl (I .int, 200, .inl f948)), (q936, .inl (I .int, 200, .inl f2120)), (q937, .inl (I .int, 200, .inl f2159)), (q938, .inl (I .int, 200, .inl f951)), (q939, .inl (I .int, 200, .inl f2170)), (q940, .inl (I .int, 200, .inl f953)), (q931, .inl (I .int, 720, .inl f944))]) (cs' := 0) (sl' := 0) rfl rfl rfl ?_
              obtain ⟨z2171, hz2171⟩ : ∃ z : Int32, z = g1997 + Int32.ofInt 1 := ⟨_, rfl⟩
              have ez2171 : z2171.toInt = g1997.toInt + 1 := gI_inc hz2171 (by decide) bg1997' (by decide) (by decide)
              have bz2171 : gB z2171 1 200 := ⟨by omega, by omega⟩
              refine G_iinc (L' := [(2, .int z2171), (0, .ref q930), (1, .ref q931)]) z2171 0 d_cX0_rename_58 rfl hz2171.symm (Nat.le_of_ble_eq_true rfl) rfl ?_
              refine G_goto 2 d_cX0_rename_61 (by decide +kernel) ?_
              refine G_sub (ws' := [(q930, .inr (5, [.ref q932, .ref q933, .ref q934, .ref q935, .ref q936, .ref q937, .ref q938, .ref q939, .ref q940, .int p941, .int p942, .int p943])), (q931, .inl (I .int, 720, .inl f944)), (q932, .inl (I .int, 40, .inl f945)), (q933, .inl (I .int, 40, .inl f946)), (q934, .inl (I .int, 40, .inl f947)), (q935, .inl (I .int, 200, .inl f948)), (q936, .inl (I .int, 200, .inl f2120)), (q937, .inl (I .int, 200, .inl f2159)), (q938, .inl (I .int, 200, .inl f951)), (q939, .inl (I .int, 200, .inl f2170)), (q940, .inl (I .int, 200, .inl f953))]) [0, 10, 1, 2, 3, 4, 5, 6, 7, 8, 9] rfl rfl ?_
              exact ih2_2000 z2171 f2120 f2159 f2170 (gB_w bz2171 (by decide) (by decide)) (gF_any f2120) (gF_any f2159) (gF_any f2170) (by omega)
            · have bz2160' : gB z2160 0 2147483647 := ⟨by omega, by omega⟩
              have bz2160'' : gB z2160 0 719 := ⟨by omega, by omega⟩
              change G _ _ _ _ _ _ _ (.int z2164 :: _) _ _ _
              refine G_ws (ws' := [(q930, .inr (5, [.ref q932, .ref q933, .ref q934, .ref q935, .ref q936, .ref q937, .ref q938, .ref q939, .ref q940, .int p941, .int p942, .int p943])), (q932, .inl (I .int, 40, .inl f945)), (q933, .inl (I .int, 40, .inl f946)), (q934, .inl (I .int, 40, .inl f947)), (q935, .inl (I .int, 200, .inl f948)), (q936, .inl (I .int, 200, .inl f2120)), (q937, .inl (I .int, 200, .inl f2159)), (q938, .inl (I .int, 200, .inl f951)), (q939, .inl (I .int, 200, .inl f2000)), (q940, .inl (I .int, 200, .inl f953)), (q931, .inl (I .int, 720, .inl f944))]) (cs' := 0) (sl' := 0) rfl rfl rfl ?_
              refine G_iastN 8 0 d_cX0_rename_57 rfl rfl (gB_in bg1997' (by decide) (by decide)) (fun f2172 hf2172 => ?_)
              refine G_ws (ws' := [(q930, .inr (5, [.ref q932, .ref q933, .ref q934, .ref q935, .ref q936, .ref q937, .ref q938, .ref q939, .ref q940, .int p941, .int p942, .int p943])), (q932, .inl (I .int, 40, .inl f945)), (q933, .inl (I .int, 40, .inl f946)), (q934, .inl (I .int, 40, .inl f947)), (q935, .inl (I .int, 200, .inl f948)), (q936, .inl (I .int, 200, .inl f2120)), (q937, .inl (I .int, 200, .inl f2159)), (q938, .inl (I .int, 200, .inl f951)), (q939, .inl (I .int, 200, .inl f2172)), (q940, .inl (I .int, 200, .inl f953)), (q931, .inl (I .int, 720, .inl f944))]) (cs' := 0) (sl' := 0) rfl rfl rfl ?_
              obtain ⟨z2173, hz2173⟩ : ∃ z : Int32, z = g1997 + Int32.ofInt 1 := ⟨_, rfl⟩
              have ez2173 : z2173.toInt = g1997.toInt + 1 := gI_inc hz2173 (by decide) bg1997' (by decide) (by decide)
              have bz2173 : gB z2173 1 200 := ⟨by omega, by omega⟩
              refine G_iinc (L' := [(2, .int z2173), (0, .ref q930), (1, .ref q931)]) z2173 0 d_cX0_rename_58 rfl hz2173.symm (Nat.le_of_ble_eq_true rfl) rfl ?_
              refine G_goto 2 d_cX0_rename_61 (by decide +kernel) ?_
              refine G_sub (ws' := [(q930, .inr (5, [.ref q932, .ref q933, .ref q934, .ref q935, .ref q936, .ref q937, .ref q938, .ref q939, .ref q940, .int p941, .int p942, .int p943])), (q931, .inl (I .int, 720, .inl f944)), (q932, .inl (I .int, 40, .inl f945)), (q933, .inl (I .int, 40, .inl f946)), (q934, .inl (I .int, 40, .inl f947)), (q935, .inl (I .int, 200, .inl f948)), (q936, .inl (I .int, 200, .inl f2120)), (q937, .inl (I .int, 200, .inl f2159)), (q938, .inl (I .int, 200, .inl f951)), (q939, .inl (I .int, 200, .inl f2172)), (q940, .inl (I .int, 200, .inl f953))]) [0, 10, 1, 2, 3, 4, 5, 6, 7, 8, 9] rfl rfl ?_
              exact ih2_2000 z2173 f2120 f2159 f2172 (gB_w bz2173 (by decide) (by decide)) (gF_any f2120) (gF_any f2159) (gF_any f2172) (by omega)
  exact hlp2_2000 (((201 : Int) - 0).toNat + 1) 0 f949 f950 f952 (gB_w (gBl (show Int32.toInt 0 = 0 by decide)) (by decide) (by decide)) (gF_any f949) (gF_any f950) (gF_any f952) (Nat.lt_succ_self _)
