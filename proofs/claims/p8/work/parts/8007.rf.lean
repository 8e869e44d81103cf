abbrev ky_581081_SpillForgeModel_feed : gKey := (cX17_feed, 6, "SpillForgeModel", (some FieldType.int), [], "feed", fun _ _ => True)
def pt_581081_SpillForgeModel_feed (D : va_G) (I : FieldType → ClassId) (γ el : Nat → Nat → Nat) (P581073 : List Nat) (F581074 : Nat → va_E) (q581075 : Nat) (p581076 : Int32) (p581077 : Int32) (p581078 : Int32) (p581079 : Int32) (p581080 : Int32) : Option Value → va_W → Nat → Nat → Prop := fun r w dc ds => ∃ (F582085 : Nat → va_E) (o582084 : Int32), r = some (.int o582084) ∧ w = va_pl P581073 F582085 ∧ RS D I P581073 F582085 γ el ∧ rStr γ [99] F581074 F582085 ∧ dc ≤ 0 ∧ ds ≤ 0 ∧ gB o582084 0 8212 ∧ (((fI (F581074 q581075) 32).toInt ≤ 8172 ∧ o582084.toInt = (fI (F581074 q581075) 32).toInt + 20 ∧ (fI (F582085 q581075) 32).toInt = (fI (F581074 q581075) 32).toInt + 20 ∧ (fI (F582085 q581075) 30).toInt = 0) ∨ (8172 < (fI (F581074 q581075) 32).toInt ∧ (fI (F582085 q581075) 30).toInt = 1 ∧ (fI (F582085 q581075) 32).toInt = (fI (F581074 q581075) 32).toInt)) ∧ (fI (F582085 q581075) 9).toInt = (fI (F581074 q581075) 9).toInt ∧ (fI (F582085 q581075) 10).toInt = (fI (F581074 q581075) 10).toInt ∧ tr_RModel_feed D I γ el P581073 F581074 q581075 p581076 p581077 p581078 p581079 p581080 o582084 F582085
set_option maxRecDepth 100000 in
set_option maxHeartbeats 4000000 in
theorem ct_581081_SpillForgeModel_feed (l : Launch) (hl0 : l.stackTraces = false) (D : va_G) (I : FieldType → ClassId) (γ el : Nat → Nat → Nat) (P581073 : List Nat) (F581074 : Nat → va_E) (q581075 : Nat) (p581076 : Int32) (p581077 : Int32) (p581078 : Int32) (p581079 : Int32) (p581080 : Int32) (hT : RS D I P581073 F581074 γ el) (htq581075 : rKd γ q581075 10) : CtA (gV D I) l yX17_feed cX17_feed 6 (some FieldType.int) 1 23 0 0 [.ref q581075, .int p581076, .int p581077, .int p581078, .int p581079, .int p581080] (va_pl P581073 F581074) (pt_581081_SpillForgeModel_feed D I γ el P581073 F581074 q581075 p581076 p581077 p581078 p581079 p581080) gNA := by
  refine CtA_of hl0 (by decide) (Nat.le_of_ble_eq_true rfl) ?_
  have bp581076 := gB_any p581076
  have bp581077 := gB_any p581077
  have bp581078 := gB_any p581078
  have bp581079 := gB_any p581079
  have bp581080 := gB_any p581080
  have hm581082 : q581075 ∈ P581073 := RS_m hT htq581075 (by decide)
  refine rk10_e (show rk_10 γ (F581074 q581075) from RS_o hT htq581075) (fun q581084 q581085 p581086 p581087 p581088 p581089 p581090 p581091 p581092 p581093 p581094 p581095 p581096 p581097 p581098 p581099 p581100 he581083 hB581127 ht581101 ht581102 ht581103 ht581104 ht581105 ht581106 ht581107 ht581108 ht581109 ht581110 ht581111 ht581112 ht581113 ht581114 ht581115 ht581116 ht581117 ht581118 ht581119 ht581120 ht581121 ht581122 ht581123 ht581124 hB581128 => ?_)
  have ac581129 : (fI (F581074 q581075) 9).toInt = p581086.toInt := by rw [he581083]; rfl
  have bp581086 : gB p581086 0 1 := (hB581127.1)
  have ac581130 : (fI (F581074 q581075) 10).toInt = p581087.toInt := by rw [he581083]; rfl
  have bp581087 : gB p581087 0 1 := (hB581127.2.1)
  have ac581131 : (fI (F581074 q581075) 32).toInt = p581098.toInt := by rw [he581083]; rfl
  have bp581098 : gB p581098 0 8192 := (hB581127.2.2.2.2.2.2.2.1)
  have ac581132 : (fI (F581074 q581075) 30).toInt = p581097.toInt := by rw [he581083]; rfl
  have bp581097 : gB p581097 (-2147483648) 2147483647 := (gB_any p581097)
  refine G_aload_n 0 dr_cX17_feed_0 rfl ?_
  refine G_iconst 0 dr_cX17_feed_1 (by decide +kernel) ?_
  refine Gp_put 30 hm581082 he581083 dr_cX17_feed_2 (gk_X17 D I) (Nat.le_of_ble_eq_true rfl) wr_7_104 rfl rfl rfl (Nat.le_of_ble_eq_true rfl) (fun F581133 e581134 n581135 => ?_)
  have he581136 : F581133 q581075 = .inr (22, [.ref (γ 9 0), .ref (γ 9 1), .ref (γ 9 2), .ref (γ 9 3), .ref (γ 9 4), .ref (γ 9 5), .ref (γ 9 6), .ref (γ 9 7), .ref (γ 9 8), .int p581086, .int p581087, .int p581088, .int p581089, .int p581090, .int p581091, .ref (γ 9 15), .ref (γ 9 16), .ref (γ 9 17), .ref (γ 9 18), .ref (γ 9 19), .ref (γ 9 20), .ref (γ 9 21), .ref (γ 9 22), .int p581092, .int p581093, .int p581094, .int p581095, .int p581096, .ref q581084, .ref (γ 9 29), .int 0, .ref (γ 9 31), .int p581098, .int p581099, .int p581100, .ref q581085]) := e581134
  have hs581137 : rStr γ [99] F581074 F581133 := rStr_put (rStr_rf (γ := γ) (W := [99]) (F := F581074)) n581135 htq581075 (by decide)
  have fq581138 : F581133 q581075 = cF (F581074 q581075) 30 (.int 0) := by rw [he581136, he581083]; rfl
  refine G_aload_n 0 dr_cX17_feed_5 rfl ?_
  have fq581139 : fI (F581133 q581075) 32 = p581098 := by rw [he581136]; rfl
  refine Gp_get 32 hm581082 he581136 dr_cX17_feed_6 (gk_X17 D I) (Nat.le_of_ble_eq_true rfl) wr_7_106 rfl ?_
  refine G_bipush 20 dr_cX17_feed_9 (by decide +kernel) ?_
  refine G_iadd dr_cX17_feed_11 (G_nam fun z581140 hz581140 => ?_)
  have ez581140 : z581140.toInt = p581098.toInt + 20 := by rw [gI_add hz581140 bp581098 (gBl (show Int32.toInt 20 = 20 by decide)) (by decide) (by decide), show Int32.toInt 20 = 20 from by decide]
  have bz581140 : gB z581140 20 8212 := gB_add (gI_add hz581140 bp581098 (gBl (show Int32.toInt 20 = 20 by decide)) (by decide) (by decide)) bp581098 (gBl (show Int32.toInt 20 = 20 by decide)) (by decide) (by decide)
  refine G_sipush 8192 dr_cX17_feed_12 (by decide +kernel) ?_
  refine G_icmp_le 24 dr_cX17_feed_15 (by decide +kernel) (fun hc581141 => ?_) (fun hc581141 => ?_)
  · have r581142 : z581140.toInt ≤ 8192 := gj_le hc581141 (show Int32.toInt 8192 = 8192 by decide)
    have bz581140' : gB z581140 20 8192 := ⟨by omega, by omega⟩
    refine G_aload_n 0 dr_cX17_feed_24 rfl ?_
    refine G_iload_n 1 dr_cX17_feed_25 rfl ?_
    refine G_aload_n 0 dr_cX17_feed_26 rfl ?_
    refine Gp_get 32 hm581082 he581136 dr_cX17_feed_27 (gk_X17 D I) (Nat.le_of_ble_eq_true rfl) wr_7_106 rfl ?_
    have hT581143 : RS D I P581073 F581133 γ el := RS_set hT n581135 htq581075 (by decide) ⟨q581084, q581085, p581086, p581087, p581088, p581089, p581090, p581091, p581092, p581093, p581094, p581095, p581096, 0, p581098, p581099, p581100, he581136, ⟨bp581086, bp581087, (hB581127.2.2.1), (hB581127.2.2.2.1), (hB581127.2.2.2.2.1), (hB581127.2.2.2.2.2.1), (hB581127.2.2.2.2.2.2.1), bp581098, (hB581127.2.2.2.2.2.2.2.2)⟩, ht581101, ht581102, ht581103, ht581104, ht581105, ht581106, ht581107, ht581108, ht581109, ht581110, ht581111, ht581112, ht581113, ht581114, ht581115, ht581116, ht581117, ht581118, ht581119, ht581120, ht581121, ht581122, ht581123, ht581124, hB581128⟩
    have ac581642 : (fI (F581133 q581075) 9).toInt = p581086.toInt := by rw [he581136]; rfl
    have ac581643 : (fI (F581133 q581075) 10).toInt = p581087.toInt := by rw [he581136]; rfl
    have ac581644 : (fI (F581133 q581075) 32).toInt = p581098.toInt := by rw [he581136]; rfl
    have ac581645 : (fI (F581133 q581075) 30).toInt = 0 := by rw [he581136]; show Int32.toInt 0 = 0; decide
    refine Gw_callV (As := [.int p581076, .int p581098]) (gV_ok D I) (ct_581149_SpillForgeModel_word l hl0 D I γ el P581073 F581133 q581075 p581076 p581098 hT581143 htq581075 ⟨by omega, by omega⟩) dr_cX17_feed_30 ⟨wr_7_195, wr_1_14, wr_7_198, by decide, rfl, (Nat.le_of_ble_eq_true rfl), (Nat.le_of_ble_eq_true rfl)⟩ wr_7_197 wr_p_74 hm581082 he581136 rfl (show 0 + 0 ≤ 0 by first | omega | decide) (show 0 + 0 ≤ 0 by first | omega | decide) (Nat.le_of_ble_eq_true rfl) (fun r581649 w581650 dc581646 ds581647 hp581648 => ?_) (fun _ _ _ _ _ z => z.elim)
    obtain ⟨F581656, rfl, rfl, hT581657, hs581658, hdc, hds, x581651, x581652, x581653, x581654, ht581655⟩ := hp581648
    have hs581659 : rStr γ [99] F581074 F581656 := rStr_tr hs581137 hs581658
    change G _ _ _ _ _ _ _ _ _ _ _
    refine G_widen (cs' := 0) (sl' := 0) (by omega) (by omega) ?_
    refine G_aload_n 0 dr_cX17_feed_33 rfl ?_
    refine G_iload_n 2 dr_cX17_feed_34 rfl ?_
    refine G_aload_n 0 dr_cX17_feed_35 rfl ?_
    have hm581660 : q581075 ∈ P581073 := RS_m hT581657 htq581075 (by decide)
    refine rk10_e (show rk_10 γ (F581656 q581075) from RS_o hT581657 htq581075) (fun q581662 q581663 p581664 p581665 p581666 p581667 p581668 p581669 p581670 p581671 p581672 p581673 p581674 p581675 p581676 p581677 p581678 he581661 hB581705 ht581679 ht581680 ht581681 ht581682 ht581683 ht581684 ht581685 ht581686 ht581687 ht581688 ht581689 ht581690 ht581691 ht581692 ht581693 ht581694 ht581695 ht581696 ht581697 ht581698 ht581699 ht581700 ht581701 ht581702 hB581706 => ?_)
    have ac581707 : (fI (F581656 q581075) 9).toInt = p581664.toInt := by rw [he581661]; rfl
    have bp581664 : gB p581664 0 1 := (hB581705.1)
    have ac581708 : (fI (F581656 q581075) 10).toInt = p581665.toInt := by rw [he581661]; rfl
    have bp581665 : gB p581665 0 1 := (hB581705.2.1)
    have ac581709 : (fI (F581656 q581075) 32).toInt = p581676.toInt := by rw [he581661]; rfl
    have bp581676 : gB p581676 0 8192 := (hB581705.2.2.2.2.2.2.2.1)
    have ac581710 : (fI (F581656 q581075) 30).toInt = p581675.toInt := by rw [he581661]; rfl
    have bp581675 : gB p581675 (-2147483648) 2147483647 := (gB_any p581675)
    have fq581711 : fI (F581656 q581075) 32 = p581676 := by rw [he581661]; rfl
    refine Gp_get 32 hm581660 he581661 dr_cX17_feed_36 (gk_X17 D I) (Nat.le_of_ble_eq_true rfl) wr_7_106 rfl ?_
    refine G_iconst 4 dr_cX17_feed_39 (by decide +kernel) ?_
    refine G_iadd dr_cX17_feed_40 (G_nam fun z581712 hz581712 => ?_)
    have ez581712 : z581712.toInt = p581676.toInt + 4 := by rw [gI_add hz581712 bp581676 (gBl (show Int32.toInt 4 = 4 by decide)) (by decide) (by decide), show Int32.toInt 4 = 4 from by decide]
    have bz581712 : gB z581712 4 8196 := gB_add (gI_add hz581712 bp581676 (gBl (show Int32.toInt 4 = 4 by decide)) (by decide) (by decide)) bp581676 (gBl (show Int32.toInt 4 = 4 by decide)) (by decide) (by decide)
    have ac581713 : (fI (F581656 q581075) 9).toInt = p581664.toInt := by rw [he581661]; rfl
    have ac581714 : (fI (F581656 q581075) 10).toInt = p581665.toInt := by rw [he581661]; rfl
    have ac581715 : (fI (F581656 q581075) 32).toInt = p581676.toInt := by rw [he581661]; rfl
    have ac581716 : (fI (F581656 q581075) 30).toInt = p581675.toInt := by rw [he581661]; rfl
    refine Gw_callV (As := [.int p581077, .int z581712]) (gV_ok D I) (ct_581149_SpillForgeModel_word l hl0 D I γ el P581073 F581656 q581075 p581077 z581712 hT581657 htq581075 ⟨by omega, by omega⟩) dr_cX17_feed_41 ⟨wr_7_195, wr_1_14, wr_7_198, by decide, rfl, (Nat.le_of_ble_eq_true rfl), (Nat.le_of_ble_eq_true rfl)⟩ wr_7_197 wr_p_74 hm581660 he581661 rfl (show 0 + 0 ≤ 0 by first | omega | decide) (show 0 + 0 ≤ 0 by first | omega | decide) (Nat.le_of_ble_eq_true rfl) (fun r581720 w581721 dc581717 ds581718 hp581719 => ?_) (fun _ _ _ _ _ z => z.elim)
    obtain ⟨F581727, rfl, rfl, hT581728, hs581729, hdc, hds, x581722, x581723, x581724, x581725, ht581726⟩ := hp581719
    have hs581730 : rStr γ [99] F581074 F581727 := rStr_tr hs581659 hs581729
    change G _ _ _ _ _ _ _ _ _ _ _
    refine G_widen (cs' := 0) (sl' := 0) (by omega) (by omega) ?_
    refine G_aload_n 0 dr_cX17_feed_44 rfl ?_
    refine G_iload_n 3 dr_cX17_feed_45 rfl ?_
    refine G_aload_n 0 dr_cX17_feed_46 rfl ?_
    have hm581731 : q581075 ∈ P581073 := RS_m hT581728 htq581075 (by decide)
    refine rk10_e (show rk_10 γ (F581727 q581075) from RS_o hT581728 htq581075) (fun q581733 q581734 p581735 p581736 p581737 p581738 p581739 p581740 p581741 p581742 p581743 p581744 p581745 p581746 p581747 p581748 p581749 he581732 hB581776 ht581750 ht581751 ht581752 ht581753 ht581754 ht581755 ht581756 ht581757 ht581758 ht581759 ht581760 ht581761 ht581762 ht581763 ht581764 ht581765 ht581766 ht581767 ht581768 ht581769 ht581770 ht581771 ht581772 ht581773 hB581777 => ?_)
    have ac581778 : (fI (F581727 q581075) 9).toInt = p581735.toInt := by rw [he581732]; rfl
    have bp581735 : gB p581735 0 1 := (hB581776.1)
    have ac581779 : (fI (F581727 q581075) 10).toInt = p581736.toInt := by rw [he581732]; rfl
    have bp581736 : gB p581736 0 1 := (hB581776.2.1)
    have ac581780 : (fI (F581727 q581075) 32).toInt = p581747.toInt := by rw [he581732]; rfl
    have bp581747 : gB p581747 0 8192 := (hB581776.2.2.2.2.2.2.2.1)
    have ac581781 : (fI (F581727 q581075) 30).toInt = p581746.toInt := by rw [he581732]; rfl
    have bp581746 : gB p581746 (-2147483648) 2147483647 := (gB_any p581746)
    have fq581782 : fI (F581727 q581075) 32 = p581747 := by rw [he581732]; rfl
    refine Gp_get 32 hm581731 he581732 dr_cX17_feed_47 (gk_X17 D I) (Nat.le_of_ble_eq_true rfl) wr_7_106 rfl ?_
    refine G_bipush 8 dr_cX17_feed_50 (by decide +kernel) ?_
    refine G_iadd dr_cX17_feed_52 (G_nam fun z581783 hz581783 => ?_)
    have ez581783 : z581783.toInt = p581747.toInt + 8 := by rw [gI_add hz581783 bp581747 (gBl (show Int32.toInt 8 = 8 by decide)) (by decide) (by decide), show Int32.toInt 8 = 8 from by decide]
    have bz581783 : gB z581783 8 8200 := gB_add (gI_add hz581783 bp581747 (gBl (show Int32.toInt 8 = 8 by decide)) (by decide) (by decide)) bp581747 (gBl (show Int32.toInt 8 = 8 by decide)) (by decide) (by decide)
    have ac581784 : (fI (F581727 q581075) 9).toInt = p581735.toInt := by rw [he581732]; rfl
    have ac581785 : (fI (F581727 q581075) 10).toInt = p581736.toInt := by rw [he581732]; rfl
    have ac581786 : (fI (F581727 q581075) 32).toInt = p581747.toInt := by rw [he581732]; rfl
    have ac581787 : (fI (F581727 q581075) 30).toInt = p581746.toInt := by rw [he581732]; rfl
    refine Gw_callV (As := [.int p581078, .int z581783]) (gV_ok D I) (ct_581149_SpillForgeModel_word l hl0 D I γ el P581073 F581727 q581075 p581078 z581783 hT581728 htq581075 ⟨by omega, by omega⟩) dr_cX17_feed_53 ⟨wr_7_195, wr_1_14, wr_7_198, by decide, rfl, (Nat.le_of_ble_eq_true rfl), (Nat.le_of_ble_eq_true rfl)⟩ wr_7_197 wr_p_74 hm581731 he581732 rfl (show 0 + 0 ≤ 0 by first | omega | decide) (show 0 + 0 ≤ 0 by first | omega | decide) (Nat.le_of_ble_eq_true rfl) (fun r581791 w581792 dc581788 ds581789 hp581790 => ?_) (fun _ _ _ _ _ z => z.elim)
    obtain ⟨F581798, rfl, rfl, hT581799, hs581800, hdc, hds, x581793, x581794, x581795, x581796, ht581797⟩ := hp581790
    have hs581801 : rStr γ [99] F581074 F581798 := rStr_tr hs581730 hs581800
    change G _ _ _ _ _ _ _ _ _ _ _
    refine G_widen (cs' := 0) (sl' := 0) (by omega) (by omega) ?_
    refine G_aload_n 0 dr_cX17_feed_56 rfl ?_
    refine G_iload 4 dr_cX17_feed_57 rfl ?_
    refine G_aload_n 0 dr_cX17_feed_59 rfl ?_
    have hm581802 : q581075 ∈ P581073 := RS_m hT581799 htq581075 (by decide)
    refine rk10_e (show rk_10 γ (F581798 q581075) from RS_o hT581799 htq581075) (fun q581804 q581805 p581806 p581807 p581808 p581809 p581810 p581811 p581812 p581813 p581814 p581815 p581816 p581817 p581818 p581819 p581820 he581803 hB581847 ht581821 ht581822 ht581823 ht581824 ht581825 ht581826 ht581827 ht581828 ht581829 ht581830 ht581831 ht581832 ht581833 ht581834 ht581835 ht581836 ht581837 ht581838 ht581839 ht581840 ht581841 ht581842 ht581843 ht581844 hB581848 => ?_)
    have ac581849 : (fI (F581798 q581075) 9).toInt = p581806.toInt := by rw [he581803]; rfl
    have bp581806 : gB p581806 0 1 := (hB581847.1)
    have ac581850 : (fI (F581798 q581075) 10).toInt = p581807.toInt := by rw [he581803]; rfl
    have bp581807 : gB p581807 0 1 := (hB581847.2.1)
    have ac581851 : (fI (F581798 q581075) 32).toInt = p581818.toInt := by rw [he581803]; rfl
    have bp581818 : gB p581818 0 8192 := (hB581847.2.2.2.2.2.2.2.1)
    have ac581852 : (fI (F581798 q581075) 30).toInt = p581817.toInt := by rw [he581803]; rfl
    have bp581817 : gB p581817 (-2147483648) 2147483647 := (gB_any p581817)
    have fq581853 : fI (F581798 q581075) 32 = p581818 := by rw [he581803]; rfl
    refine Gp_get 32 hm581802 he581803 dr_cX17_feed_60 (gk_X17 D I) (Nat.le_of_ble_eq_true rfl) wr_7_106 rfl ?_
    refine G_bipush 12 dr_cX17_feed_63 (by decide +kernel) ?_
    refine G_iadd dr_cX17_feed_65 (G_nam fun z581854 hz581854 => ?_)
    have ez581854 : z581854.toInt = p581818.toInt + 12 := by rw [gI_add hz581854 bp581818 (gBl (show Int32.toInt 12 = 12 by decide)) (by decide) (by decide), show Int32.toInt 12 = 12 from by decide]
    have bz581854 : gB z581854 12 8204 := gB_add (gI_add hz581854 bp581818 (gBl (show Int32.toInt 12 = 12 by decide)) (by decide) (by decide)) bp581818 (gBl (show Int32.toInt 12 = 12 by decide)) (by decide) (by decide)
    have ac581855 : (fI (F581798 q581075) 9).toInt = p581806.toInt := by rw [he581803]; rfl
    have ac581856 : (fI (F581798 q581075) 10).toInt = p581807.toInt := by rw [he581803]; rfl
    have ac581857 : (fI (F581798 q581075) 32).toInt = p581818.toInt := by rw [he581803]; rfl
    have ac581858 : (fI (F581798 q581075) 30).toInt = p581817.toInt := by rw [he581803]; rfl
    refine Gw_callV (As := [.int p581079, .int z581854]) (gV_ok D I) (ct_581149_SpillForgeModel_word l hl0 D I γ el P581073 F581798 q581075 p581079 z581854 hT581799 htq581075 ⟨by omega, by omega⟩) dr_cX17_feed_66 ⟨wr_7_195, wr_1_14, wr_7_198, by decide, rfl, (Nat.le_of_ble_eq_true rfl), (Nat.le_of_ble_eq_true rfl)⟩ wr_7_197 wr_p_74 hm581802 he581803 rfl (show 0 + 0 ≤ 0 by first | omega | decide) (show 0 + 0 ≤ 0 by first | omega | decide) (Nat.le_of_ble_eq_true rfl) (fun r581862 w581863 dc581859 ds581860 hp581861 => ?_) (fun _ _ _ _ _ z => z.elim)
    obtain ⟨F581869, rfl, rfl, hT581870, hs581871, hdc, hds, x581864, x581865, x581866, x581867, ht581868⟩ := hp581861
    have hs581872 : rStr γ [99] F581074 F581869 := rStr_tr hs581801 hs581871
    change G _ _ _ _ _ _ _ _ _ _ _
    refine G_widen (cs' := 0) (sl' := 0) (by omega) (by omega) ?_
    refine G_aload_n 0 dr_cX17_feed_69 rfl ?_
    refine G_iload 5 dr_cX17_feed_70 rfl ?_
    refine G_aload_n 0 dr_cX17_feed_72 rfl ?_
    have hm581873 : q581075 ∈ P581073 := RS_m hT581870 htq581075 (by decide)
    refine rk10_e (show rk_10 γ (F581869 q581075) from RS_o hT581870 htq581075) (fun q581875 q581876 p581877 p581878 p581879 p581880 p581881 p581882 p581883 p581884 p581885 p581886 p581887 p581888 p581889 p581890 p581891 he581874 hB581918 ht581892 ht581893 ht581894 ht581895 ht581896 ht581897 ht581898 ht581899 ht581900 ht581901 ht581902 ht581903 ht581904 ht581905 ht581906 ht581907 ht581908 ht581909 ht581910 ht581911 ht581912 ht581913 ht581914 ht581915 hB581919 => ?_)
    have ac581920 : (fI (F581869 q581075) 9).toInt = p581877.toInt := by rw [he581874]; rfl
    have bp581877 : gB p581877 0 1 := (hB581918.1)
    have ac581921 : (fI (F581869 q581075) 10).toInt = p581878.toInt := by rw [he581874]; rfl
    have bp581878 : gB p581878 0 1 := (hB581918.2.1)
    have ac581922 : (fI (F581869 q581075) 32).toInt = p581889.toInt := by rw [he581874]; rfl
    have bp581889 : gB p581889 0 8192 := (hB581918.2.2.2.2.2.2.2.1)
    have ac581923 : (fI (F581869 q581075) 30).toInt = p581888.toInt := by rw [he581874]; rfl
    have bp581888 : gB p581888 (-2147483648) 2147483647 := (gB_any p581888)
    have fq581924 : fI (F581869 q581075) 32 = p581889 := by rw [he581874]; rfl
    refine Gp_get 32 hm581873 he581874 dr_cX17_feed_73 (gk_X17 D I) (Nat.le_of_ble_eq_true rfl) wr_7_106 rfl ?_
    refine G_bipush 16 dr_cX17_feed_76 (by decide +kernel) ?_
    refine G_iadd dr_cX17_feed_78 (G_nam fun z581925 hz581925 => ?_)
    have ez581925 : z581925.toInt = p581889.toInt + 16 := by rw [gI_add hz581925 bp581889 (gBl (show Int32.toInt 16 = 16 by decide)) (by decide) (by decide), show Int32.toInt 16 = 16 from by decide]
    have bz581925 : gB z581925 16 8208 := gB_add (gI_add hz581925 bp581889 (gBl (show Int32.toInt 16 = 16 by decide)) (by decide) (by decide)) bp581889 (gBl (show Int32.toInt 16 = 16 by decide)) (by decide) (by decide)
    have ac581926 : (fI (F581869 q581075) 9).toInt = p581877.toInt := by rw [he581874]; rfl
    have ac581927 : (fI (F581869 q581075) 10).toInt = p581878.toInt := by rw [he581874]; rfl
    have ac581928 : (fI (F581869 q581075) 32).toInt = p581889.toInt := by rw [he581874]; rfl
    have ac581929 : (fI (F581869 q581075) 30).toInt = p581888.toInt := by rw [he581874]; rfl
    refine Gw_callV (As := [.int p581080, .int z581925]) (gV_ok D I) (ct_581149_SpillForgeModel_word l hl0 D I γ el P581073 F581869 q581075 p581080 z581925 hT581870 htq581075 ⟨by omega, by omega⟩) dr_cX17_feed_79 ⟨wr_7_195, wr_1_14, wr_7_198, by decide, rfl, (Nat.le_of_ble_eq_true rfl), (Nat.le_of_ble_eq_true rfl)⟩ wr_7_197 wr_p_74 hm581873 he581874 rfl (show 0 + 0 ≤ 0 by first | omega | decide) (show 0 + 0 ≤ 0 by first | omega | decide) (Nat.le_of_ble_eq_true rfl) (fun r581933 w581934 dc581930 ds581931 hp581932 => ?_) (fun _ _ _ _ _ z => z.elim)
    obtain ⟨F581940, rfl, rfl, hT581941, hs581942, hdc, hds, x581935, x581936, x581937, x581938, ht581939⟩ := hp581932
    have hs581943 : rStr γ [99] F581074 F581940 := rStr_tr hs581872 hs581942
    change G _ _ _ _ _ _ _ _ _ _ _
    refine G_widen (cs' := 0) (sl' := 0) (by omega) (by omega) ?_
    refine G_aload_n 0 dr_cX17_feed_82 rfl ?_
    refine G_dup dr_cX17_feed_83 rfl ?_
    have hm581944 : q581075 ∈ P581073 := RS_m hT581941 htq581075 (by decide)
    refine rk10_e (show rk_10 γ (F581940 q581075) from RS_o hT581941 htq581075) (fun q581946 q581947 p581948 p581949 p581950 p581951 p581952 p581953 p581954 p581955 p581956 p581957 p581958 p581959 p581960 p581961 p581962 he581945 hB581989 ht581963 ht581964 ht581965 ht581966 ht581967 ht581968 ht581969 ht581970 ht581971 ht581972 ht581973 ht581974 ht581975 ht581976 ht581977 ht581978 ht581979 ht581980 ht581981 ht581982 ht581983 ht581984 ht581985 ht581986 hB581990 => ?_)
    have ac581991 : (fI (F581940 q581075) 9).toInt = p581948.toInt := by rw [he581945]; rfl
    have bp581948 : gB p581948 0 1 := (hB581989.1)
    have ac581992 : (fI (F581940 q581075) 10).toInt = p581949.toInt := by rw [he581945]; rfl
    have bp581949 : gB p581949 0 1 := (hB581989.2.1)
    have ac581993 : (fI (F581940 q581075) 32).toInt = p581960.toInt := by rw [he581945]; rfl
    have bp581960 : gB p581960 0 8192 := (hB581989.2.2.2.2.2.2.2.1)
    have ac581994 : (fI (F581940 q581075) 30).toInt = p581959.toInt := by rw [he581945]; rfl
    have bp581959 : gB p581959 (-2147483648) 2147483647 := (gB_any p581959)
    have fq581995 : fI (F581940 q581075) 32 = p581960 := by rw [he581945]; rfl
    refine Gp_get 32 hm581944 he581945 dr_cX17_feed_84 (gk_X17 D I) (Nat.le_of_ble_eq_true rfl) wr_7_106 rfl ?_
    refine G_bipush 20 dr_cX17_feed_87 (by decide +kernel) ?_
    refine G_iadd dr_cX17_feed_89 (G_nam fun z581996 hz581996 => ?_)
    have ez581996 : z581996.toInt = p581960.toInt + 20 := by rw [gI_add hz581996 bp581960 (gBl (show Int32.toInt 20 = 20 by decide)) (by decide) (by decide), show Int32.toInt 20 = 20 from by decide]
    have bz581996 : gB z581996 20 8212 := gB_add (gI_add hz581996 bp581960 (gBl (show Int32.toInt 20 = 20 by decide)) (by decide) (by decide)) bp581960 (gBl (show Int32.toInt 20 = 20 by decide)) (by decide) (by decide)
    refine Gp_put 32 hm581944 he581945 dr_cX17_feed_90 (gk_X17 D I) (Nat.le_of_ble_eq_true rfl) wr_7_106 rfl rfl rfl (Nat.le_of_ble_eq_true rfl) (fun F581997 e581998 n581999 => ?_)
    have he582000 : F581997 q581075 = .inr (22, [.ref (γ 9 0), .ref (γ 9 1), .ref (γ 9 2), .ref (γ 9 3), .ref (γ 9 4), .ref (γ 9 5), .ref (γ 9 6), .ref (γ 9 7), .ref (γ 9 8), .int p581948, .int p581949, .int p581950, .int p581951, .int p581952, .int p581953, .ref (γ 9 15), .ref (γ 9 16), .ref (γ 9 17), .ref (γ 9 18), .ref (γ 9 19), .ref (γ 9 20), .ref (γ 9 21), .ref (γ 9 22), .int p581954, .int p581955, .int p581956, .int p581957, .int p581958, .ref q581946, .ref (γ 9 29), .int p581959, .ref (γ 9 31), .int z581996, .int p581961, .int p581962, .ref q581947]) := e581998
    have hs582001 : rStr γ [99] F581074 F581997 := rStr_put hs581943 n581999 htq581075 (by decide)
    have fq582002 : F581997 q581075 = cF (F581940 q581075) 32 (.int z581996) := by rw [he582000, he581945]; rfl
    refine G_aload_n 0 dr_cX17_feed_93 rfl ?_
    have fq582003 : fI (F581997 q581075) 32 = z581996 := by rw [he582000]; rfl
    refine Gp_get 32 hm581944 he582000 dr_cX17_feed_94 (gk_X17 D I) (Nat.le_of_ble_eq_true rfl) wr_7_106 rfl ?_
    have hT582004 : RS D I P581073 F581997 γ el := RS_set hT581941 n581999 htq581075 (by decide) ⟨q581946, q581947, p581948, p581949, p581950, p581951, p581952, p581953, p581954, p581955, p581956, p581957, p581958, p581959, z581996, p581961, p581962, he582000, ⟨bp581948, bp581949, (hB581989.2.2.1), (hB581989.2.2.2.1), (hB581989.2.2.2.2.1), (hB581989.2.2.2.2.2.1), (hB581989.2.2.2.2.2.2.1), ⟨by omega, by omega⟩, (hB581989.2.2.2.2.2.2.2.2)⟩, ht581963, ht581964, ht581965, ht581966, ht581967, ht581968, ht581969, ht581970, ht581971, ht581972, ht581973, ht581974, ht581975, ht581976, ht581977, ht581978, ht581979, ht581980, ht581981, ht581982, ht581983, ht581984, ht581985, ht581986, hB581990⟩
    have ac582005 : (fI (F581997 q581075) 9).toInt = p581948.toInt := by rw [he582000]; rfl
    have ac582006 : (fI (F581997 q581075) 10).toInt = p581949.toInt := by rw [he582000]; rfl
    have ac582007 : (fI (F581997 q581075) 32).toInt = z581996.toInt := by rw [he582000]; rfl
    have ac582008 : (fI (F581997 q581075) 30).toInt = p581959.toInt := by rw [he582000]; rfl
    exact G_iretA dr_cX17_feed_97 rfl (Nat.le_of_ble_eq_true rfl) (Nat.le_of_ble_eq_true rfl) ⟨F581997, z581996, rfl, rfl, hT582004, hs582001, (Nat.le_of_ble_eq_true rfl), (Nat.le_of_ble_eq_true rfl), (gB_w bz581996 (by decide) (by decide)), (by omega), (by omega), (by omega), (fun R c1 c2 => c1 F581133 p581098 z581140 F581656 p581676 z581712 F581727 p581747 z581783 F581798 p581818 z581854 F581869 p581889 z581925 F581940 p581960 z581996 F581997 n581135 fq581138 fq581139 ez581140 r581142 hT581657 hs581658 x581651 x581652 x581653 x581654 ht581655 fq581711 ez581712 hT581728 hs581729 x581722 x581723 x581724 x581725 ht581726 fq581782 ez581783 hT581799 hs581800 x581793 x581794 x581795 x581796 ht581797 fq581853 ez581854 hT581870 hs581871 x581864 x581865 x581866 x581867 ht581868 fq581924 ez581925 hT581941 hs581942 x581935 x581936 x581937 x581938 ht581939 fq581995 ez581996 n581999 fq582002 fq582003)⟩
  · have r582009 : 8192 < z581140.toInt := gj_nle hc581141 (show Int32.toInt 8192 = 8192 by decide)
    have bz581140' : gB z581140 8193 8212 := ⟨by omega, by omega⟩
    refine G_aload_n 0 dr_cX17_feed_18 rfl ?_
    refine G_iconst 1 dr_cX17_feed_19 (by decide +kernel) ?_
    have hT582010 : RS D I P581073 F581133 γ el := RS_set hT n581135 htq581075 (by decide) ⟨q581084, q581085, p581086, p581087, p581088, p581089, p581090, p581091, p581092, p581093, p581094, p581095, p581096, 0, p581098, p581099, p581100, he581136, ⟨bp581086, bp581087, (hB581127.2.2.1), (hB581127.2.2.2.1), (hB581127.2.2.2.2.1), (hB581127.2.2.2.2.2.1), (hB581127.2.2.2.2.2.2.1), bp581098, (hB581127.2.2.2.2.2.2.2.2)⟩, ht581101, ht581102, ht581103, ht581104, ht581105, ht581106, ht581107, ht581108, ht581109, ht581110, ht581111, ht581112, ht581113, ht581114, ht581115, ht581116, ht581117, ht581118, ht581119, ht581120, ht581121, ht581122, ht581123, ht581124, hB581128⟩
    have ac582011 : (fI (F581133 q581075) 9).toInt = p581086.toInt := by rw [he581136]; rfl
    have ac582012 : (fI (F581133 q581075) 10).toInt = p581087.toInt := by rw [he581136]; rfl
    have ac582013 : (fI (F581133 q581075) 32).toInt = p581098.toInt := by rw [he581136]; rfl
    have ac582014 : (fI (F581133 q581075) 30).toInt = 0 := by rw [he581136]; show Int32.toInt 0 = 0; decide
    refine Gw_callV (As := [.int 1]) (gV_ok D I) (ct_580660_SpillForgeModel_no l hl0 D I γ el P581073 F581133 q581075 1 hT582010 htq581075) dr_cX17_feed_20 ⟨wr_7_191, wr_1_14, wr_7_194, by decide, rfl, (Nat.le_of_ble_eq_true rfl), (Nat.le_of_ble_eq_true rfl)⟩ wr_7_193 wr_p_73 hm581082 he581136 rfl (show 0 + 0 ≤ 0 by first | omega | decide) (show 0 + 0 ≤ 0 by first | omega | decide) (Nat.le_of_ble_eq_true rfl) (fun r582018 w582019 dc582015 ds582016 hp582017 => ?_) (fun _ _ _ _ _ z => z.elim)
    obtain ⟨F582025, rfl, rfl, hT582026, hs582027, hdc, hds, x582020, x582021, x582022, x582023, ht582024⟩ := hp582017
    have hs582028 : rStr γ [99] F581074 F582025 := rStr_tr hs581137 (rStr_w hs582027 (by decide))
    rw [show Int32.toInt 1 = 1 from by decide] at x582023
    change G _ _ _ _ _ _ _ (.int 0 :: _) _ _ _
    refine G_widen (cs' := 0) (sl' := 0) (by omega) (by omega) ?_
    have hm582029 : q581075 ∈ P581073 := RS_m hT582026 htq581075 (by decide)
    refine rk10_e (show rk_10 γ (F582025 q581075) from RS_o hT582026 htq581075) (fun q582031 q582032 p582033 p582034 p582035 p582036 p582037 p582038 p582039 p582040 p582041 p582042 p582043 p582044 p582045 p582046 p582047 he582030 hB582074 ht582048 ht582049 ht582050 ht582051 ht582052 ht582053 ht582054 ht582055 ht582056 ht582057 ht582058 ht582059 ht582060 ht582061 ht582062 ht582063 ht582064 ht582065 ht582066 ht582067 ht582068 ht582069 ht582070 ht582071 hB582075 => ?_)
    have ac582076 : (fI (F582025 q581075) 9).toInt = p582033.toInt := by rw [he582030]; rfl
    have bp582033 : gB p582033 0 1 := (hB582074.1)
    have ac582077 : (fI (F582025 q581075) 10).toInt = p582034.toInt := by rw [he582030]; rfl
    have bp582034 : gB p582034 0 1 := (hB582074.2.1)
    have ac582078 : (fI (F582025 q581075) 32).toInt = p582045.toInt := by rw [he582030]; rfl
    have bp582045 : gB p582045 0 8192 := (hB582074.2.2.2.2.2.2.2.1)
    have ac582079 : (fI (F582025 q581075) 30).toInt = p582044.toInt := by rw [he582030]; rfl
    have bp582044 : gB p582044 (-2147483648) 2147483647 := (gB_any p582044)
    have ac582080 : (fI (F582025 q581075) 9).toInt = p582033.toInt := by rw [he582030]; rfl
    have ac582081 : (fI (F582025 q581075) 10).toInt = p582034.toInt := by rw [he582030]; rfl
    have ac582082 : (fI (F582025 q581075) 32).toInt = p582045.toInt := by rw [he582030]; rfl
    have ac582083 : (fI (F582025 q581075) 30).toInt = p582044.toInt := by rw [he582030]; rfl
    exact G_iretA dr_cX17_feed_23 rfl (Nat.le_of_ble_eq_true rfl) (Nat.le_of_ble_eq_true rfl) ⟨F582025, 0, rfl, rfl, hT582026, hs582028, (Nat.le_of_ble_eq_true rfl), (Nat.le_of_ble_eq_true rfl), (gB_w (gBl (show Int32.toInt 0 = 0 by decide)) (by decide) (by decide)), (by have qa0 : Int32.toInt 0 = 0 := (by decide); omega), (by have qa0 : Int32.toInt 0 = 0 := (by decide); omega), (by have qa0 : Int32.toInt 0 = 0 := (by decide); omega), (fun R c1 c2 => c2 F581133 p581098 z581140 F582025 n581135 fq581138 fq581139 ez581140 r582009 hT582026 hs582027 x582020 x582021 x582022 x582023 ht582024)⟩
/- tr_RModel_end: result, F -/
def tr_RModel_end (D : va_G) (I : FieldType → ClassId) (γ el : Nat → Nat → Nat) (P : List Nat) (F : Nat → va_E) (q0 : Nat) (a1 : Int32) (o1 : Int32) (o2 : Nat → va_E) : Prop := ∀ R : (Int32) → (Nat → va_E) → Prop,
  (∀ (x1 : Nat → va_E) (x2 : Nat → va_E), (∀ b, b ≠ q0 → x1 b = F b) → x1 q0 = cF (F q0) 30 (.int 0) → a1.toInt < 0 → RS D I P x2 γ el → rStr γ [] x1 x2 → (fI (x2 q0) 9).toInt = (fI (x1 q0) 9).toInt → (fI (x2 q0) 10).toInt = (fI (x1 q0) 10).toInt → (fI (x2 q0) 32).toInt = (fI (x1 q0) 32).toInt → (fI (x2 q0) 30).toInt = 1 → tr_RModel_no D I γ el x1 q0 (1 : Int32) x2 → R (0 : Int32) x2) →
  (∀ (x1 : Nat → va_E) (x2 : Int32) (x3 : Nat → va_E), (∀ b, b ≠ q0 → x1 b = F b) → x1 q0 = cF (F q0) 30 (.int 0) → 0 ≤ a1.toInt → fI (x1 q0) 32 = x2 → a1.toInt ≤ x2.toInt → (∀ b, b ≠ q0 → x3 b = x1 b) → x3 q0 = cF (x1 q0) 32 (.int a1) → R a1 x3) →
  (∀ (x1 : Nat → va_E) (x2 : Int32) (x3 : Nat → va_E), (∀ b, b ≠ q0 → x1 b = F b) → x1 q0 = cF (F q0) 30 (.int 0) → 0 ≤ a1.toInt → fI (x1 q0) 32 = x2 → x2.toInt < a1.toInt → RS D I P x3 γ el → rStr γ [] x1 x3 → (fI (x3 q0) 9).toInt = (fI (x1 q0) 9).toInt → (fI (x3 q0) 10).toInt = (fI (x1 q0) 10).toInt → (fI (x3 q0) 32).toInt = (fI (x1 q0) 32).toInt → (fI (x3 q0) 30).toInt = 1 → tr_RModel_no D I γ el x1 q0 (1 : Int32) x3 → R (0 : Int32) x3) →
  R o1 o2
abbrev ky_582090_SpillForgeModel_end : gKey := (cX17_end, 2, "SpillForgeModel", (some FieldType.int), [], "end", fun _ _ => True)
def pt_582090_SpillForgeModel_end (D : va_G) (I : FieldType → ClassId) (γ el : Nat → Nat → Nat) (P582086 : List Nat) (F582087 : Nat → va_E) (q582088 : Nat) (p582089 : Int32) : Option Value → va_W → Nat → Nat → Prop := fun r w dc ds => ∃ (F582316 : Nat → va_E) (o582315 : Int32), r = some (.int o582315) ∧ w = va_pl P582086 F582316 ∧ RS D I P582086 F582316 γ el ∧ rStr γ [] F582087 F582316 ∧ dc ≤ 0 ∧ ds ≤ 0 ∧ gB o582315 0 8192 ∧ ((0 ≤ p582089.toInt ∧ p582089.toInt ≤ (fI (F582087 q582088) 32).toInt ∧ o582315.toInt = p582089.toInt ∧ (fI (F582316 q582088) 32).toInt = p582089.toInt ∧ (fI (F582316 q582088) 30).toInt = 0) ∨ ((p582089.toInt < 0 ∨ (fI (F582087 q582088) 32).toInt < p582089.toInt) ∧ (fI (F582316 q582088) 30).toInt = 1 ∧ (fI (F582316 q582088) 32).toInt = (fI (F582087 q582088) 32).toInt)) ∧ (fI (F582316 q582088) 9).toInt = (fI (F582087 q582088) 9).toInt ∧ (fI (F582316 q582088) 10).toInt = (fI (F582087 q582088) 10).toInt ∧ tr_RModel_end D I γ el P582086 F582087 q582088 p582089 o582315 F582316
set_option maxRecDepth 100000 in
set_option maxHeartbeats 4000000 in
theorem ct_582090_SpillForgeModel_end (l : Launch) (hl0 : l.stackTraces = false) (D : va_G) (I : FieldType → ClassId) (γ el : Nat → Nat → Nat) (P582086 : List Nat) (F582087 : Nat → va_E) (q582088 : Nat) (p582089 : Int32) (hT : RS D I P582086 F582087 γ el) (htq582088 : rKd γ q582088 10) : CtA (gV D I) l yX17_end cX17_end 2 (some FieldType.int) 1 21 0 0 [.ref q582088, .int p582089] (va_pl P582086 F582087) (pt_582090_SpillForgeModel_end D I γ el P582086 F582087 q582088 p582089) gNA := by
  refine CtA_of hl0 (by decide) (Nat.le_of_ble_eq_true rfl) ?_
  have bp582089 := gB_any p582089
  have hm582091 : q582088 ∈ P582086 := RS_m hT htq582088 (by decide)
  refine rk10_e (show rk_10 γ (F582087 q582088) from RS_o hT htq582088) (fun q582093 q582094 p582095 p582096 p582097 p582098 p582099 p582100 p582101 p582102 p582103 p582104 p582105 p582106 p582107 p582108 p582109 he582092 hB582136 ht582110 ht582111 ht582112 ht582113 ht582114 ht582115 ht582116 ht582117 ht582118 ht582119 ht582120 ht582121 ht582122 ht582123 ht582124 ht582125 ht582126 ht582127 ht582128 ht582129 ht582130 ht582131 ht582132 ht582133 hB582137 => ?_)
  have ac582138 : (fI (F582087 q582088) 9).toInt = p582095.toInt := by rw [he582092]; rfl
  have bp582095 : gB p582095 0 1 := (hB582136.1)
  have ac582139 : (fI (F582087 q582088) 10).toInt = p582096.toInt := by rw [he582092]; rfl
  have bp582096 : gB p582096 0 1 := (hB582136.2.1)
  have ac582140 : (fI (F582087 q582088) 32).toInt = p582107.toInt := by rw [he582092]; rfl
  have bp582107 : gB p582107 0 8192 := (hB582136.2.2.2.2.2.2.2.1)
  have ac582141 : (fI (F582087 q582088) 30).toInt = p582106.toInt := by rw [he582092]; rfl
  have bp582106 : gB p582106 (-2147483648) 2147483647 := (gB_any p582106)
  refine G_aload_n 0 dr_cX17_end_0 rfl ?_
  refine G_iconst 0 dr_cX17_end_1 (by decide +kernel) ?_
  refine Gp_put 30 hm582091 he582092 dr_cX17_end_2 (gk_X17 D I) (Nat.le_of_ble_eq_true rfl) wr_7_104 rfl rfl rfl (Nat.le_of_ble_eq_true rfl) (fun F582142 e582143 n582144 => ?_)
  have he582145 : F582142 q582088 = .inr (22, [.ref (γ 9 0), .ref (γ 9 1), .ref (γ 9 2), .ref (γ 9 3), .ref (γ 9 4), .ref (γ 9 5), .ref (γ 9 6), .ref (γ 9 7), .ref (γ 9 8), .int p582095, .int p582096, .int p582097, .int p582098, .int p582099, .int p582100, .ref (γ 9 15), .ref (γ 9 16), .ref (γ 9 17), .ref (γ 9 18), .ref (γ 9 19), .ref (γ 9 20), .ref (γ 9 21), .ref (γ 9 22), .int p582101, .int p582102, .int p582103, .int p582104, .int p582105, .ref q582093, .ref (γ 9 29), .int 0, .ref (γ 9 31), .int p582107, .int p582108, .int p582109, .ref q582094]) := e582143
  have hs582146 : rStr γ [] F582087 F582142 := rStr_put (rStr_rf (γ := γ) (W := []) (F := F582087)) n582144 htq582088 (by decide)
  have fq582147 : F582142 q582088 = cF (F582087 q582088) 30 (.int 0) := by rw [he582145, he582092]; rfl
  refine G_iload_n 1 dr_cX17_end_5 rfl ?_
  refine G_if_lt 17 dr_cX17_end_6 (by decide +kernel) (fun hc582148 => ?_) (fun hc582148 => ?_)
  · have r582149 : p582089.toInt < 0 := gj_lt hc582148 (show Int32.toInt 0 = 0 by decide)
    have bp582089' : gB p582089 (-2147483648) (-1) := ⟨by omega, by omega⟩
    refine G_aload_n 0 dr_cX17_end_17 rfl ?_
    refine G_iconst 1 dr_cX17_end_18 (by decide +kernel) ?_
    have hT582150 : RS D I P582086 F582142 γ el := RS_set hT n582144 htq582088 (by decide) ⟨q582093, q582094, p582095, p582096, p582097, p582098, p582099, p582100, p582101, p582102, p582103, p582104, p582105, 0, p582107, p582108, p582109, he582145, ⟨bp582095, bp582096, (hB582136.2.2.1), (hB582136.2.2.2.1), (hB582136.2.2.2.2.1), (hB582136.2.2.2.2.2.1), (hB582136.2.2.2.2.2.2.1), bp582107, (hB582136.2.2.2.2.2.2.2.2)⟩, ht582110, ht582111, ht582112, ht582113, ht582114, ht582115, ht582116, ht582117, ht582118, ht582119, ht582120, ht582121, ht582122, ht582123, ht582124, ht582125, ht582126, ht582127, ht582128, ht582129, ht582130, ht582131, ht582132, ht582133, hB582137⟩
    have ac582151 : (fI (F582142 q582088) 9).toInt = p582095.toInt := by rw [he582145]; rfl
    have ac582152 : (fI (F582142 q582088) 10).toInt = p582096.toInt := by rw [he582145]; rfl
    have ac582153 : (fI (F582142 q582088) 32).toInt = p582107.toInt := by rw [he582145]; rfl
    have ac582154 : (fI (F582142 q582088) 30).toInt = 0 := by rw [he582145]; show Int32.toInt 0 = 0; decide
    refine Gw_callV (As := [.int 1]) (gV_ok D I) (ct_580660_SpillForgeModel_no l hl0 D I γ el P582086 F582142 q582088 1 hT582150 htq582088) dr_cX17_end_19 ⟨wr_7_191, wr_1_14, wr_7_194, by decide, rfl, (Nat.le_of_ble_eq_true rfl), (Nat.le_of_ble_eq_true rfl)⟩ wr_7_193 wr_p_73 hm582091 he582145 rfl (show 0 + 0 ≤ 0 by first | omega | decide) (show 0 + 0 ≤ 0 by first | omega | decide) (Nat.le_of_ble_eq_true rfl) (fun r582158 w582159 dc582155 ds582156 hp582157 => ?_) (fun _ _ _ _ _ z => z.elim)
    obtain ⟨F582165, rfl, rfl, hT582166, hs582167, hdc, hds, x582160, x582161, x582162, x582163, ht582164⟩ := hp582157
    have hs582168 : rStr γ [] F582087 F582165 := rStr_tr hs582146 hs582167
    rw [show Int32.toInt 1 = 1 from by decide] at x582163
    change G _ _ _ _ _ _ _ (.int 0 :: _) _ _ _
    refine G_widen (cs' := 0) (sl' := 0) (by omega) (by omega) ?_
    have hm582169 : q582088 ∈ P582086 := RS_m hT582166 htq582088 (by decide)
    refine rk10_e (show rk_10 γ (F582165 q582088) from RS_o hT582166 htq582088) (fun q582171 q582172 p582173 p582174 p582175 p582176 p582177 p582178 p582179 p582180 p582181 p582182 p582183 p582184 p582185 p582186 p582187 he582170 hB582214 ht582188 ht582189 ht582190 ht582191 ht582192 ht582193 ht582194 ht582195 ht582196 ht582197 ht582198 ht582199 ht582200 ht582201 ht582202 ht582203 ht582204 ht582205 ht582206 ht582207 ht582208 ht582209 ht582210 ht582211 hB582215 => ?_)
    have ac582216 : (fI (F582165 q582088) 9).toInt = p582173.toInt := by rw [he582170]; rfl
    have bp582173 : gB p582173 0 1 := (hB582214.1)
    have ac582217 : (fI (F582165 q582088) 10).toInt = p582174.toInt := by rw [he582170]; rfl
    have bp582174 : gB p582174 0 1 := (hB582214.2.1)
    have ac582218 : (fI (F582165 q582088) 32).toInt = p582185.toInt := by rw [he582170]; rfl
    have bp582185 : gB p582185 0 8192 := (hB582214.2.2.2.2.2.2.2.1)
    have ac582219 : (fI (F582165 q582088) 30).toInt = p582184.toInt := by rw [he582170]; rfl
    have bp582184 : gB p582184 (-2147483648) 2147483647 := (gB_any p582184)
    have ac582220 : (fI (F582165 q582088) 9).toInt = p582173.toInt := by rw [he582170]; rfl
    have ac582221 : (fI (F582165 q582088) 10).toInt = p582174.toInt := by rw [he582170]; rfl
    have ac582222 : (fI (F582165 q582088) 32).toInt = p582185.toInt := by rw [he582170]; rfl
    have ac582223 : (fI (F582165 q582088) 30).toInt = p582184.toInt := by rw [he582170]; rfl
    exact G_iretA dr_cX17_end_22 rfl (Nat.le_of_ble_eq_true rfl) (Nat.le_of_ble_eq_true rfl) ⟨F582165, 0, rfl, rfl, hT582166, hs582168, (Nat.le_of_ble_eq_true rfl), (Nat.le_of_ble_eq_true rfl), (gB_w (gBl (show Int32.toInt 0 = 0 by decide)) (by decide) (by decide)), (by have qa0 : Int32.toInt 0 = 0 := (by decide); omega), (by have qa0 : Int32.toInt 0 = 0 := (by decide); omega), (by have qa0 : Int32.toInt 0 = 0 := (by decide); omega), (fun R c1 c2 c3 => c1 F582142 F582165 n582144 fq582147 r582149 hT582166 hs582167 x582160 x582161 x582162 x582163 ht582164)⟩
  · have r582224 : 0 ≤ p582089.toInt := gj_nlt hc582148 (show Int32.toInt 0 = 0 by decide)
    have bp582089' : gB p582089 0 2147483647 := ⟨by omega, by omega⟩
    refine G_iload_n 1 dr_cX17_end_9 rfl ?_
    refine G_aload_n 0 dr_cX17_end_10 rfl ?_
    have fq582225 : fI (F582142 q582088) 32 = p582107 := by rw [he582145]; rfl
    refine Gp_get 32 hm582091 he582145 dr_cX17_end_11 (gk_X17 D I) (Nat.le_of_ble_eq_true rfl) wr_7_106 rfl ?_
    refine G_icmp_le 23 dr_cX17_end_14 (by decide +kernel) (fun hc582226 => ?_) (fun hc582226 => ?_)
    · have r582227 : p582089.toInt ≤ p582107.toInt := gC_le hc582226
      have bp582089'' : gB p582089 0 8192 := ⟨by omega, by omega⟩
      refine G_aload_n 0 dr_cX17_end_23 rfl ?_
      refine G_iload_n 1 dr_cX17_end_24 rfl ?_
      refine Gp_put 32 hm582091 he582145 dr_cX17_end_25 (gk_X17 D I) (Nat.le_of_ble_eq_true rfl) wr_7_106 rfl rfl rfl (Nat.le_of_ble_eq_true rfl) (fun F582228 e582229 n582230 => ?_)
      have he582231 : F582228 q582088 = .inr (22, [.ref (γ 9 0), .ref (γ 9 1), .ref (γ 9 2), .ref (γ 9 3), .ref (γ 9 4), .ref (γ 9 5), .ref (γ 9 6), .ref (γ 9 7), .ref (γ 9 8), .int p582095, .int p582096, .int p582097, .int p582098, .int p582099, .int p582100, .ref (γ 9 15), .ref (γ 9 16), .ref (γ 9 17), .ref (γ 9 18), .ref (γ 9 19), .ref (γ 9 20), .ref (γ 9 21), .ref (γ 9 22), .int p582101, .int p582102, .int p582103, .int p582104, .int p582105, .ref q582093, .ref (γ 9 29), .int 0, .ref (γ 9 31), .int p582089, .int p582108, .int p582109, .ref q582094]) := e582229
      have hs582232 : rStr γ [] F582087 F582228 := rStr_put hs582146 n582230 htq582088 (by decide)
      have n582233 : ∀ b, b ≠ q582088 → F582228 b = F582087 b := fun b hb => (n582230 b hb).trans (n582144 b hb)
      have fq582234 : F582228 q582088 = cF (F582142 q582088) 32 (.int p582089) := by rw [he582231, he582145]; rfl
      refine G_iload_n 1 dr_cX17_end_28 rfl ?_
      have hT582235 : RS D I P582086 F582228 γ el := RS_set hT n582233 htq582088 (by decide) ⟨q582093, q582094, p582095, p582096, p582097, p582098, p582099, p582100, p582101, p582102, p582103, p582104, p582105, 0, p582089, p582108, p582109, he582231, ⟨bp582095, bp582096, (hB582136.2.2.1), (hB582136.2.2.2.1), (hB582136.2.2.2.2.1), (hB582136.2.2.2.2.2.1), (hB582136.2.2.2.2.2.2.1), bp582089'', (hB582136.2.2.2.2.2.2.2.2)⟩, ht582110, ht582111, ht582112, ht582113, ht582114, ht582115, ht582116, ht582117, ht582118, ht582119, ht582120, ht582121, ht582122, ht582123, ht582124, ht582125, ht582126, ht582127, ht582128, ht582129, ht582130, ht582131, ht582132, ht582133, hB582137⟩
      have ac582236 : (fI (F582228 q582088) 9).toInt = p582095.toInt := by rw [he582231]; rfl
      have ac582237 : (fI (F582228 q582088) 10).toInt = p582096.toInt := by rw [he582231]; rfl
      have ac582238 : (fI (F582228 q582088) 32).toInt = p582089.toInt := by rw [he582231]; rfl
      have ac582239 : (fI (F582228 q582088) 30).toInt = 0 := by rw [he582231]; show Int32.toInt 0 = 0; decide
      exact G_iretA dr_cX17_end_29 rfl (Nat.le_of_ble_eq_true rfl) (Nat.le_of_ble_eq_true rfl) ⟨F582228, p582089, rfl, rfl, hT582235, hs582232, (Nat.le_of_ble_eq_true rfl), (Nat.le_of_ble_eq_true rfl), bp582089'', (by omega), (by omega), (by omega), (fun R c1 c2 c3 => c2 F582142 p582107 F582228 n582144 fq582147 r582224 fq582225 r582227 n582230 fq582234)⟩
    · have r582240 : p582107.toInt < p582089.toInt := gC_nle hc582226
      have bp582089'' : gB p582089 1 2147483647 := ⟨by omega, by omega⟩
      refine G_aload_n 0 dr_cX17_end_17 rfl ?_
      refine G_iconst 1 dr_cX17_end_18 (by decide +kernel) ?_
      have hT582241 : RS D I P582086 F582142 γ el := RS_set hT n582144 htq582088 (by decide) ⟨q582093, q582094, p582095, p582096, p582097, p582098, p582099, p582100, p582101, p582102, p582103, p582104, p582105, 0, p582107, p582108, p582109, he582145, ⟨bp582095, bp582096, (hB582136.2.2.1), (hB582136.2.2.2.1), (hB582136.2.2.2.2.1), (hB582136.2.2.2.2.2.1), (hB582136.2.2.2.2.2.2.1), bp582107, (hB582136.2.2.2.2.2.2.2.2)⟩, ht582110, ht582111, ht582112, ht582113, ht582114, ht582115, ht582116, ht582117, ht582118, ht582119, ht582120, ht582121, ht582122, ht582123, ht582124, ht582125, ht582126, ht582127, ht582128, ht582129, ht582130, ht582131, ht582132, ht582133, hB582137⟩
      have ac582242 : (fI (F582142 q582088) 9).toInt = p582095.toInt := by rw [he582145]; rfl
      have ac582243 : (fI (F582142 q582088) 10).toInt = p582096.toInt := by rw [he582145]; rfl
      have ac582244 : (fI (F582142 q582088) 32).toInt = p582107.toInt := by rw [he582145]; rfl
      have ac582245 : (fI (F582142 q582088) 30).toInt = 0 := by rw [he582145]; show Int32.toInt 0 = 0; decide
      refine Gw_callV (As := [.int 1]) (gV_ok D I) (ct_580660_SpillForgeModel_no l hl0 D I γ el P582086 F582142 q582088 1 hT582241 htq582088) dr_cX17_end_19 ⟨wr_7_191, wr_1_14, wr_7_194, by decide, rfl, (Nat.le_of_ble_eq_true rfl), (Nat.le_of_ble_eq_true rfl)⟩ wr_7_193 wr_p_73 hm582091 he582145 rfl (show 0 + 0 ≤ 0 by first | omega | decide) (show 0 + 0 ≤ 0 by first | omega | decide) (Nat.le_of_ble_eq_true rfl) (fun r582249 w582250 dc582246 ds582247 hp582248 => ?_) (fun _ _ _ _ _ z => z.elim)
      obtain ⟨F582256, rfl, rfl, hT582257, hs582258, hdc, hds, x582251, x582252, x582253, x582254, ht582255⟩ := hp582248
      have hs582259 : rStr γ [] F582087 F582256 := rStr_tr hs582146 hs582258
      rw [show Int32.toInt 1 = 1 from by decide] at x582254
      change G _ _ _ _ _ _ _ (.int 0 :: _) _ _ _
      refine G_widen (cs' := 0) (sl' := 0) (by omega) (by omega) ?_
      have hm582260 : q582088 ∈ P582086 := RS_m hT582257 htq582088 (by decide)
      refine rk10_e (show rk_10 γ (F582256 q582088) from RS_o hT582257 htq582088) (fun q582262 q582263 p582264 p582265 p582266 p582267 p582268 p582269 p582270 p582271 p582272 p582273 p582274 p582275 p582276 p582277 p582278 he582261 hB582305 ht582279 ht582280 ht582281 ht582282 ht582283 ht582284 ht582285 ht582286 ht582287 ht582288 ht582289 ht582290 ht582291 ht582292 ht582293 ht582294 ht582295 ht582296 ht582297 ht582298 ht582299 ht582300 ht582301 ht582302 hB582306 => ?_)
      have ac582307 : (fI (F582256 q582088) 9).toInt = p582264.toInt := by rw [he582261]; rfl
      have bp582264 : gB p582264 0 1 := (hB582305.1)
      have ac582308 : (fI (F582256 q582088) 10).toInt = p582265.toInt := by rw [he582261]; rfl
      have bp582265 : gB p582265 0 1 := (hB582305.2.1)
      have ac582309 : (fI (F582256 q582088) 32).toInt = p582276.toInt := by rw [he582261]; rfl
      have bp582276 : gB p582276 0 8192 := (hB582305.2.2.2.2.2.2.2.1)
      have ac582310 : (fI (F582256 q582088) 30).toInt = p582275.toInt := by rw [he582261]; rfl
      have bp582275 : gB p582275 (-2147483648) 2147483647 := (gB_any p582275)
      have ac582311 : (fI (F582256 q582088) 9).toInt = p582264.toInt := by rw [he582261]; rfl
      have ac582312 : (fI (F582256 q582088) 10).toInt = p582265.toInt := by rw [he582261]; rfl
      have ac582313 : (fI (F582256 q582088) 32).toInt = p582276.toInt := by rw [he582261]; rfl
      have ac582314 : (fI (F582256 q582088) 30).toInt = p582275.toInt := by rw [he582261]; rfl
      exact G_iretA dr_cX17_end_22 rfl (Nat.le_of_ble_eq_true rfl) (Nat.le_of_ble_eq_true rfl) ⟨F582256, 0, rfl, rfl, hT582257, hs582259, (Nat.le_of_ble_eq_true rfl), (Nat.le_of_ble_eq_true rfl), (gB_w (gBl (show Int32.toInt 0 = 0 by decide)) (by decide) (by decide)), (by have qa0 : Int32.toInt 0 = 0 := (by decide); omega), (by have qa0 : Int32.toInt 0 = 0 := (by decide); omega), (by have qa0 : Int32.toInt 0 = 0 := (by decide); omega), (fun R c1 c2 c3 => c3 F582142 p582107 F582256 n582144 fq582147 r582224 fq582225 r582240 hT582257 hs582258 x582251 x582252 x582253 x582254 ht582255)⟩
abbrev ky_583103_SpillForgeModel_step : gKey := (cX17_step, 4, "SpillForgeModel", (some FieldType.int), [], "step", fun _ _ => True)
def pt_583103_SpillForgeModel_step (D : va_G) (I : FieldType → ClassId) (γ el : Nat → Nat → Nat) (P583099 : List Nat) (F583100 : Nat → va_E) (q583101 : Nat) (q583102 : Nat) : Option Value → va_W → Nat → Nat → Prop := fun r w dc ds => ∃ (F583394 : Nat → va_E) (o583393 : Int32), r = some (.int o583393) ∧ w = va_pl P583099 F583394 ∧ RS D I P583099 F583394 γ el ∧ rStr γ [] F583100 F583394 ∧ dc ≤ 0 ∧ ds ≤ 0 ∧ gB o583393 (-1) 5 ∧ (fI (F583394 q583101) 26).toInt = (fI (F583100 q583101) 26).toInt ∧ (fI (F583394 q583101) 9).toInt = (fI (F583100 q583101) 9).toInt ∧ (fI (F583394 q583101) 10).toInt = (fI (F583100 q583101) 10).toInt ∧ (fI (F583394 q583101) 32).toInt = (fI (F583100 q583101) 32).toInt
set_option maxRecDepth 100000 in
set_option maxHeartbeats 4000000 in
theorem ct_583103_SpillForgeModel_step (l : Launch) (hl0 : l.stackTraces = false) (D : va_G) (I : FieldType → ClassId) (γ el : Nat → Nat → Nat) (P583099 : List Nat) (F583100 : Nat → va_E) (q583101 : Nat) (q583102 : Nat) (hT : RS D I P583099 F583100 γ el) (htq583101 : rKd γ q583101 10) (htq583102 : rKd γ q583102 1) : CtA (gV D I) l yX17_step cX17_step 4 (some FieldType.int) 1 23 0 0 [.ref q583101, .ref q583102] (va_pl P583099 F583100) (pt_583103_SpillForgeModel_step D I γ el P583099 F583100 q583101 q583102) gNA := by
  refine CtA_of hl0 (by decide) (Nat.le_of_ble_eq_true rfl) ?_
  have hm583104 : q583101 ∈ P583099 := RS_m hT htq583101 (by decide)
  refine rk10_e (show rk_10 γ (F583100 q583101) from RS_o hT htq583101) (fun q583106 q583107 p583108 p583109 p583110 p583111 p583112 p583113 p583114 p583115 p583116 p583117 p583118 p583119 p583120 p583121 p583122 he583105 hB583149 ht583123 ht583124 ht583125 ht583126 ht583127 ht583128 ht583129 ht583130 ht583131 ht583132 ht583133 ht583134 ht583135 ht583136 ht583137 ht583138 ht583139 ht583140 ht583141 ht583142 ht583143 ht583144 ht583145 ht583146 hB583150 => ?_)
  have ac583151 : (fI (F583100 q583101) 26).toInt = p583117.toInt := by rw [he583105]; rfl
  have bp583117 : gB p583117 0 100000 := (hB583149.2.2.2.2.2.1)
  have ac583152 : (fI (F583100 q583101) 9).toInt = p583108.toInt := by rw [he583105]; rfl
  have bp583108 : gB p583108 0 1 := (hB583149.1)
  have ac583153 : (fI (F583100 q583101) 10).toInt = p583109.toInt := by rw [he583105]; rfl
  have bp583109 : gB p583109 0 1 := (hB583149.2.1)
  have ac583154 : (fI (F583100 q583101) 32).toInt = p583120.toInt := by rw [he583105]; rfl
  have bp583120 : gB p583120 0 8192 := (hB583149.2.2.2.2.2.2.2.1)
  refine G_aload_n 1 dr_cX17_step_0 rfl ?_
  have hm583155 : q583102 ∈ P583099 := RS_m hT htq583102 (by decide)
  obtain ⟨p583157, p583158, p583159, p583160, p583161, p583162, p583163, he583156, bp583157, bp583158, bp583161, bp583162, bp583163, r583164, r583165, r583166, r583167, r583168⟩ := show rk_1 γ q583102 (F583100 q583102) from RS_o hT htq583102
  have bp583159 := gB_any p583159
  have bp583160 := gB_any p583160
  refine Gp_get 0 hm583155 he583156 dr_cX17_step_1 (gk_X15 D I) (Nat.le_of_ble_eq_true rfl) wr_9_177 rfl ?_
  by_cases hs583169 : p583157 = 0
  · have ehs583169 : p583157.toInt = 0 := gj_eq hs583169 (show Int32.toInt 0 = 0 by decide)
    have bp583157' : gB p583157 0 0 := ⟨by omega, by omega⟩
    refine G_eqi (y := 0) hs583169 ?_
    refine G_lookup 198 dr_cX17_step_4 (by decide) (by first | rfl | decide) (by decide) ?_
    refine G_aload_n 0 dr_cX17_step_198 rfl ?_
    refine Gp_get 20 hm583104 he583105 dr_cX17_step_199 (gk_X17 D I) (Nat.le_of_ble_eq_true rfl) wr_7_94 rfl ?_
    refine G_aload_n 1 dr_cX17_step_202 rfl ?_
    refine Gp_get 1 hm583155 he583156 dr_cX17_step_203 (gk_X15 D I) (Nat.le_of_ble_eq_true rfl) wr_9_182 rfl ?_
    refine G_aload_n 0 dr_cX17_step_206 rfl ?_
    refine G_aload_n 1 dr_cX17_step_207 rfl ?_
    refine Gp_get 5 hm583155 he583156 dr_cX17_step_208 (gk_X15 D I) (Nat.le_of_ble_eq_true rfl) wr_9_197 rfl ?_
    refine G_aload_n 1 dr_cX17_step_211 rfl ?_
    refine Gp_get 2 hm583155 he583156 dr_cX17_step_212 (gk_X15 D I) (Nat.le_of_ble_eq_true rfl) wr_9_186 rfl ?_
    refine Gw_callV (As := [.int p583162, .int p583159]) (gV_ok D I) (ct_7532_SpillForgeModel_value l hl0 D I γ el P583099 F583100 q583101 p583162 p583159 hT htq583101 bp583162 (by omega)) dr_cX17_step_215 ⟨wr_11_100, wr_1_14, wr_11_103, by decide, rfl, (Nat.le_of_ble_eq_true rfl), (Nat.le_of_ble_eq_true rfl)⟩ wr_11_102 wr_p_115 hm583104 he583105 rfl (show 0 + 0 ≤ 0 by first | omega | decide) (show 0 + 0 ≤ 0 by first | omega | decide) (Nat.le_of_ble_eq_true rfl) (fun r583173 w583174 dc583170 ds583171 hp583172 => ?_) (fun _ _ _ _ _ z => z.elim)
    obtain ⟨o583175, rfl, rfl, hdc, hds, ht583176⟩ := hp583172
    have bo583175 := gB_any o583175
    change G _ _ _ _ _ _ _ (.int o583175 :: _) _ _ _
    refine G_widen (cs' := 0) (sl' := 0) (by omega) (by omega) ?_
    have hm583177 : (γ 9 20) ∈ P583099 := RS_m hT ht583139 (by decide)
    obtain ⟨f583179, he583178⟩ := show rk_22 I (F583100 (γ 9 20)) from RS_o hT ht583139
    refine Gp_iast 0 hm583177 he583178 dr_cX17_step_218 rfl (gB_in bp583158 (by decide) (by decide)) (fun F583180 e583181 n583182 => ?_)
    obtain ⟨f583183, hf583183⟩ : ∃ z, z = upd f583179 p583158.toNatClampNeg o583175 := ⟨_, rfl⟩
    rw [← hf583183] at e583181
    have he583184 : F583180 q583101 = .inr (22, [.ref (γ 9 0), .ref (γ 9 1), .ref (γ 9 2), .ref (γ 9 3), .ref (γ 9 4), .ref (γ 9 5), .ref (γ 9 6), .ref (γ 9 7), .ref (γ 9 8), .int p583108, .int p583109, .int p583110, .int p583111, .int p583112, .int p583113, .ref (γ 9 15), .ref (γ 9 16), .ref (γ 9 17), .ref (γ 9 18), .ref (γ 9 19), .ref (γ 9 20), .ref (γ 9 21), .ref (γ 9 22), .int p583114, .int p583115, .int p583116, .int p583117, .int p583118, .ref q583106, .ref (γ 9 29), .int p583119, .ref (γ 9 31), .int p583120, .int p583121, .int p583122, .ref q583107]) := (n583182 q583101 (rn_oa he583105 he583178)).trans he583105
    have he583185 : F583180 q583102 = .inr (20, [.int p583157, .int p583158, .int p583159, .int p583160, .int p583161, .int p583162, .int p583163]) := (n583182 q583102 (rn_oa he583156 he583178)).trans he583156
    have he583186 : F583180 (γ 9 20) = .inl (I .int, 2000, .inl f583183) := e583181
    have hs583187 : rStr γ [] F583100 F583180 := rStr_put (rStr_rf (γ := γ) (W := []) (F := F583100)) n583182 ht583139 (by decide)
    refine G_iconst (-1) dr_cX17_step_219 (by decide +kernel) ?_
    have hT583188 : RS D I P583099 F583180 γ el := RS_set hT n583182 ht583139 (by decide) ⟨f583183, he583186⟩
    have ac583189 : (fI (F583180 q583101) 26).toInt = p583117.toInt := by rw [he583184]; rfl
    have ac583190 : (fI (F583180 q583101) 9).toInt = p583108.toInt := by rw [he583184]; rfl
    have ac583191 : (fI (F583180 q583101) 10).toInt = p583109.toInt := by rw [he583184]; rfl
    have ac583192 : (fI (F583180 q583101) 32).toInt = p583120.toInt := by rw [he583184]; rfl
    exact G_iretA dr_cX17_step_220 rfl (Nat.le_of_ble_eq_true rfl) (Nat.le_of_ble_eq_true rfl) ⟨F583180, (-1), rfl, rfl, hT583188, hs583187, (Nat.le_of_ble_eq_true rfl), (Nat.le_of_ble_eq_true rfl), (gB_w (gBl (show Int32.toInt (-1) = (-1) by decide)) (by decide) (by decide)), (by have qa0 : Int32.toInt (-1) = (-1) := (by decide); omega), (by have qa0 : Int32.toInt (-1) = (-1) := (by decide); omega), (by have qa0 : Int32.toInt (-1) = (-1) := (by decide); omega), (by have qa0 : Int32.toInt (-1) = (-1) := (by decide); omega)⟩
  by_cases hs583193 : p583157 = 20
  · have ehs583193 : p583157.toInt = 20 := gj_eq hs583193 (show Int32.toInt 20 = 20 by decide)
    have bp583157' : gB p583157 20 20 := ⟨by omega, by omega⟩
    refine G_eqi (y := 20) hs583193 ?_
    refine G_lookup 56 dr_cX17_step_4 (by decide) (by first | rfl | decide) (by decide) ?_
    refine G_aload_n 0 dr_cX17_step_56 rfl ?_
    refine Gp_get 20 hm583104 he583105 dr_cX17_step_57 (gk_X17 D I) (Nat.le_of_ble_eq_true rfl) wr_7_94 rfl ?_
    refine G_aload_n 1 dr_cX17_step_60 rfl ?_
    refine Gp_get 1 hm583155 he583156 dr_cX17_step_61 (gk_X15 D I) (Nat.le_of_ble_eq_true rfl) wr_9_182 rfl ?_
    refine G_aload_n 0 dr_cX17_step_64 rfl ?_
    refine Gp_get 27 hm583104 he583105 dr_cX17_step_65 (gk_X17 D I) (Nat.le_of_ble_eq_true rfl) wr_7_101 rfl ?_
    have bp583118 : gB p583118 0 2048 := (hB583149.2.2.2.2.2.2.1)
    refine G_aload_n 0 dr_cX17_step_68 rfl ?_
    refine Gp_get 28 hm583104 he583105 dr_cX17_step_69 (gk_X17 D I) (Nat.le_of_ble_eq_true rfl) wr_7_102 rfl ?_
    have hm583194 : q583106 ∈ P583099 := RS_m hT ht583123 (by decide)
    obtain ⟨n583197, f583196, he583195, hn583197⟩ := show rk_26 I (F583100 q583106) from RS_o hT ht583123
    refine Gp_alen (Int32.ofNat n583197) 0 hm583194 he583195 dr_cX17_step_72 rfl rfl (G_nam fun z583198 hz583198 => ?_)
    have ez583198 : z583198.toInt = (n583197 : Nat) := gI_ofM hz583198 (by omega)
    have bz583198 : gB z583198 0 16777216 := ⟨by omega, by omega⟩
    refine G_icmp_ge 88 dr_cX17_step_73 (by decide +kernel) (fun hc583199 => ?_) (fun hc583199 => ?_)
    · have r583200 : z583198.toInt ≤ p583118.toInt := gC_le hc583199
      have bz583198' : gB z583198 0 2048 := ⟨by omega, by omega⟩
      refine G_iconst 0 dr_cX17_step_88 (by decide +kernel) ?_
      have hm583201 : (γ 9 20) ∈ P583099 := RS_m hT ht583139 (by decide)
      obtain ⟨f583203, he583202⟩ := show rk_22 I (F583100 (γ 9 20)) from RS_o hT ht583139
      refine Gp_iast 0 hm583201 he583202 dr_cX17_step_89 rfl (gB_in bp583158 (by decide) (by decide)) (fun F583204 e583205 n583206 => ?_)
      obtain ⟨f583207, hf583207⟩ : ∃ z, z = upd f583203 p583158.toNatClampNeg 0 := ⟨_, rfl⟩
      rw [← hf583207] at e583205
      have he583208 : F583204 q583101 = .inr (22, [.ref (γ 9 0), .ref (γ 9 1), .ref (γ 9 2), .ref (γ 9 3), .ref (γ 9 4), .ref (γ 9 5), .ref (γ 9 6), .ref (γ 9 7), .ref (γ 9 8), .int p583108, .int p583109, .int p583110, .int p583111, .int p583112, .int p583113, .ref (γ 9 15), .ref (γ 9 16), .ref (γ 9 17), .ref (γ 9 18), .ref (γ 9 19), .ref (γ 9 20), .ref (γ 9 21), .ref (γ 9 22), .int p583114, .int p583115, .int p583116, .int p583117, .int p583118, .ref q583106, .ref (γ 9 29), .int p583119, .ref (γ 9 31), .int p583120, .int p583121, .int p583122, .ref q583107]) := (n583206 q583101 (rn_oa he583105 he583202)).trans he583105
      have he583209 : F583204 q583102 = .inr (20, [.int p583157, .int p583158, .int p583159, .int p583160, .int p583161, .int p583162, .int p583163]) := (n583206 q583102 (rn_oa he583156 he583202)).trans he583156
      have he583210 : F583204 q583106 = .inl (I .int, n583197, .inl f583196) := (n583206 q583106 (rn_ty ht583123 ht583139 (by decide))).trans he583195
      have he583211 : F583204 (γ 9 20) = .inl (I .int, 2000, .inl f583207) := e583205
      have hs583212 : rStr γ [] F583100 F583204 := rStr_put (rStr_rf (γ := γ) (W := []) (F := F583100)) n583206 ht583139 (by decide)
      refine G_aload_n 0 dr_cX17_step_90 rfl ?_
      refine G_aload_n 0 dr_cX17_step_91 rfl ?_
      refine Gp_get 27 hm583104 he583208 dr_cX17_step_92 (gk_X17 D I) (Nat.le_of_ble_eq_true rfl) wr_7_101 rfl ?_
      refine G_iconst 1 dr_cX17_step_95 (by decide +kernel) ?_
      refine G_iadd dr_cX17_step_96 (G_nam fun z583213 hz583213 => ?_)
      have ez583213 : z583213.toInt = p583118.toInt + 1 := by rw [gI_add hz583213 bp583118 (gBl (show Int32.toInt 1 = 1 by decide)) (by decide) (by decide), show Int32.toInt 1 = 1 from by decide]
      have bz583213 : gB z583213 1 2049 := gB_add (gI_add hz583213 bp583118 (gBl (show Int32.toInt 1 = 1 by decide)) (by decide) (by decide)) bp583118 (gBl (show Int32.toInt 1 = 1 by decide)) (by decide) (by decide)
      refine G_aload_n 0 dr_cX17_step_97 rfl ?_
      refine Gp_get 28 hm583104 he583208 dr_cX17_step_98 (gk_X17 D I) (Nat.le_of_ble_eq_true rfl) wr_7_102 rfl ?_
      refine Gp_alen (Int32.ofNat n583197) 0 hm583194 he583210 dr_cX17_step_101 rfl rfl (G_nam fun z583214 hz583214 => ?_)
      have ez583214 : z583214.toInt = (n583197 : Nat) := gI_ofM hz583214 (by omega)
      have bz583214 : gB z583214 0 16777216 := ⟨by omega, by omega⟩
      refine G_mmin dr_cX17_step_102 wr_11_20 wr_3_227 wr_1_6 wr_3_228 (Nat.le_of_ble_eq_true rfl) (Nat.le_of_ble_eq_true rfl) (show 0 ≤ 0 by first | omega | decide) (show 0 ≤ 0 by first | omega | decide) (G_nam fun z583215 hz583215 => ?_)
      have ez583215 : z583213.toInt ≥ z583215.toInt ∧ z583214.toInt ≥ z583215.toInt ∧ (z583215.toInt = z583213.toInt ∨ z583215.toInt = z583214.toInt) := by have := gI_min hz583215; omega
      have bz583215 : gB z583215 0 2049 := ⟨by omega, by omega⟩
      have hT583216 : RS D I P583099 F583204 γ el := RS_set hT n583206 ht583139 (by decide) ⟨f583207, he583211⟩
      refine Gp_put 27 hm583104 he583208 dr_cX17_step_105 (gk_X17 D I) (Nat.le_of_ble_eq_true rfl) wr_7_101 rfl rfl rfl (Nat.le_of_ble_eq_true rfl) (fun F583217 e583218 n583219 => ?_)
      have he583220 : F583217 q583102 = .inr (20, [.int p583157, .int p583158, .int p583159, .int p583160, .int p583161, .int p583162, .int p583163]) := (n583219 q583102 (rn_oo he583209 he583208 (by decide))).trans he583209
      have he583221 : F583217 q583106 = .inl (I .int, n583197, .inl f583196) := (n583219 q583106 (rn_ao he583210 he583208)).trans he583210
      have he583222 : F583217 (γ 9 20) = .inl (I .int, 2000, .inl f583207) := (n583219 (γ 9 20) (rn_ao he583211 he583208)).trans he583211
      have he583223 : F583217 q583101 = .inr (22, [.ref (γ 9 0), .ref (γ 9 1), .ref (γ 9 2), .ref (γ 9 3), .ref (γ 9 4), .ref (γ 9 5), .ref (γ 9 6), .ref (γ 9 7), .ref (γ 9 8), .int p583108, .int p583109, .int p583110, .int p583111, .int p583112, .int p583113, .ref (γ 9 15), .ref (γ 9 16), .ref (γ 9 17), .ref (γ 9 18), .ref (γ 9 19), .ref (γ 9 20), .ref (γ 9 21), .ref (γ 9 22), .int p583114, .int p583115, .int p583116, .int p583117, .int z583215, .ref q583106, .ref (γ 9 29), .int p583119, .ref (γ 9 31), .int p583120, .int p583121, .int p583122, .ref q583107]) := e583218
      have hs583224 : rStr γ [] F583100 F583217 := rStr_put hs583212 n583219 htq583101 (by decide)
      refine G_iconst (-1) dr_cX17_step_108 (by decide +kernel) ?_
      have hT583225 : RS D I P583099 F583217 γ el := RS_set hT583216 n583219 htq583101 (by decide) ⟨q583106, q583107, p583108, p583109, p583110, p583111, p583112, p583113, p583114, p583115, p583116, p583117, z583215, p583119, p583120, p583121, p583122, he583223, ⟨bp583108, bp583109, (hB583149.2.2.1), (hB583149.2.2.2.1), (hB583149.2.2.2.2.1), bp583117, ⟨by omega, by omega⟩, bp583120, (hB583149.2.2.2.2.2.2.2.2)⟩, ht583123, ht583124, ht583125, ht583126, ht583127, ht583128, ht583129, ht583130, ht583131, ht583132, ht583133, ht583134, ht583135, ht583136, ht583137, ht583138, ht583139, ht583140, ht583141, ht583142, ht583143, ht583144, ht583145, ht583146, hB583150⟩
      have ac583226 : (fI (F583217 q583101) 26).toInt = p583117.toInt := by rw [he583223]; rfl
      have ac583227 : (fI (F583217 q583101) 9).toInt = p583108.toInt := by rw [he583223]; rfl
      have ac583228 : (fI (F583217 q583101) 10).toInt = p583109.toInt := by rw [he583223]; rfl
      have ac583229 : (fI (F583217 q583101) 32).toInt = p583120.toInt := by rw [he583223]; rfl
      exact G_iretA dr_cX17_step_109 rfl (Nat.le_of_ble_eq_true rfl) (Nat.le_of_ble_eq_true rfl) ⟨F583217, (-1), rfl, rfl, hT583225, hs583224, (Nat.le_of_ble_eq_true rfl), (Nat.le_of_ble_eq_true rfl), (gB_w (gBl (show Int32.toInt (-1) = (-1) by decide)) (by decide) (by decide)), (by have qa0 : Int32.toInt (-1) = (-1) := (by decide); omega), (by have qa0 : Int32.toInt (-1) = (-1) := (by decide); omega), (by have qa0 : Int32.toInt (-1) = (-1) := (by decide); omega), (by have qa0 : Int32.toInt (-1) = (-1) := (by decide); omega)⟩
    · have r583230 : p583118.toInt < z583198.toInt := gC_nle hc583199
      have bz583198' : gB z583198 1 16777216 := ⟨by omega, by omega⟩
      refine G_aload_n 0 dr_cX17_step_76 rfl ?_
      refine Gp_get 28 hm583104 he583105 dr_cX17_step_77 (gk_X17 D I) (Nat.le_of_ble_eq_true rfl) wr_7_102 rfl ?_
      refine G_aload_n 0 dr_cX17_step_80 rfl ?_
      refine Gp_get 27 hm583104 he583105 dr_cX17_step_81 (gk_X17 D I) (Nat.le_of_ble_eq_true rfl) wr_7_101 rfl ?_
      refine Gp_iald 0 hm583194 he583195 dr_cX17_step_84 rfl (gB_inr (by omega) (by omega)) (G_nam fun z583231 hz583231 => ?_)
      have bz583231 : gB z583231 (-2147483648) 2147483647 := gB_any z583231
      refine G_goto 89 dr_cX17_step_85 (by decide +kernel) ?_
      have hm583232 : (γ 9 20) ∈ P583099 := RS_m hT ht583139 (by decide)
      obtain ⟨f583234, he583233⟩ := show rk_22 I (F583100 (γ 9 20)) from RS_o hT ht583139
      refine Gp_iast 0 hm583232 he583233 dr_cX17_step_89 rfl (gB_in bp583158 (by decide) (by decide)) (fun F583235 e583236 n583237 => ?_)
      obtain ⟨f583238, hf583238⟩ : ∃ z, z = upd f583234 p583158.toNatClampNeg z583231 := ⟨_, rfl⟩
      rw [← hf583238] at e583236
      have he583239 : F583235 q583101 = .inr (22, [.ref (γ 9 0), .ref (γ 9 1), .ref (γ 9 2), .ref (γ 9 3), .ref (γ 9 4), .ref (γ 9 5), .ref (γ 9 6), .ref (γ 9 7), .ref (γ 9 8), .int p583108, .int p583109, .int p583110, .int p583111, .int p583112, .int p583113, .ref (γ 9 15), .ref (γ 9 16), .ref (γ 9 17), .ref (γ 9 18), .ref (γ 9 19), .ref (γ 9 20), .ref (γ 9 21), .ref (γ 9 22), .int p583114, .int p583115, .int p583116, .int p583117, .int p583118, .ref q583106, .ref (γ 9 29), .int p583119, .ref (γ 9 31), .int p583120, .int p583121, .int p583122, .ref q583107]) := (n583237 q583101 (rn_oa he583105 he583233)).trans he583105
      have he583240 : F583235 q583102 = .inr (20, [.int p583157, .int p583158, .int p583159, .int p583160, .int p583161, .int p583162, .int p583163]) := (n583237 q583102 (rn_oa he583156 he583233)).trans he583156
      have he583241 : F583235 q583106 = .inl (I .int, n583197, .inl f583196) := (n583237 q583106 (rn_ty ht583123 ht583139 (by decide))).trans he583195
      have he583242 : F583235 (γ 9 20) = .inl (I .int, 2000, .inl f583238) := e583236
      have hs583243 : rStr γ [] F583100 F583235 := rStr_put (rStr_rf (γ := γ) (W := []) (F := F583100)) n583237 ht583139 (by decide)
      refine G_aload_n 0 dr_cX17_step_90 rfl ?_
      refine G_aload_n 0 dr_cX17_step_91 rfl ?_
      refine Gp_get 27 hm583104 he583239 dr_cX17_step_92 (gk_X17 D I) (Nat.le_of_ble_eq_true rfl) wr_7_101 rfl ?_
      refine G_iconst 1 dr_cX17_step_95 (by decide +kernel) ?_
      refine G_iadd dr_cX17_step_96 (G_nam fun z583244 hz583244 => ?_)
      have ez583244 : z583244.toInt = p583118.toInt + 1 := by rw [gI_add hz583244 bp583118 (gBl (show Int32.toInt 1 = 1 by decide)) (by decide) (by decide), show Int32.toInt 1 = 1 from by decide]
      have bz583244 : gB z583244 1 2049 := gB_add (gI_add hz583244 bp583118 (gBl (show Int32.toInt 1 = 1 by decide)) (by decide) (by decide)) bp583118 (gBl (show Int32.toInt 1 = 1 by decide)) (by decide) (by decide)
      refine G_aload_n 0 dr_cX17_step_97 rfl ?_
      refine Gp_get 28 hm583104 he583239 dr_cX17_step_98 (gk_X17 D I) (Nat.le_of_ble_eq_true rfl) wr_7_102 rfl ?_
      refine Gp_alen (Int32.ofNat n583197) 0 hm583194 he583241 dr_cX17_step_101 rfl rfl (G_nam fun z583245 hz583245 => ?_)
      have ez583245 : z583245.toInt = (n583197 : Nat) := gI_ofM hz583245 (by omega)
      have bz583245 : gB z583245 0 16777216 := ⟨by omega, by omega⟩
      refine G_mmin dr_cX17_step_102 wr_11_20 wr_3_227 wr_1_6 wr_3_228 (Nat.le_of_ble_eq_true rfl) (Nat.le_of_ble_eq_true rfl) (show 0 ≤ 0 by first | omega | decide) (show 0 ≤ 0 by first | omega | decide) (G_nam fun z583246 hz583246 => ?_)
      have ez583246 : z583244.toInt ≥ z583246.toInt ∧ z583245.toInt ≥ z583246.toInt ∧ (z583246.toInt = z583244.toInt ∨ z583246.toInt = z583245.toInt) := by have := gI_min hz583246; omega
      have bz583246 : gB z583246 0 2049 := ⟨by omega, by omega⟩
      have hT583247 : RS D I P583099 F583235 γ el := RS_set hT n583237 ht583139 (by decide) ⟨f583238, he583242⟩
      refine Gp_put 27 hm583104 he583239 dr_cX17_step_105 (gk_X17 D I) (Nat.le_of_ble_eq_true rfl) wr_7_101 rfl rfl rfl (Nat.le_of_ble_eq_true rfl) (fun F583248 e583249 n583250 => ?_)
      have he583251 : F583248 q583102 = .inr (20, [.int p583157, .int p583158, .int p583159, .int p583160, .int p583161, .int p583162, .int p583163]) := (n583250 q583102 (rn_oo he583240 he583239 (by decide))).trans he583240
      have he583252 : F583248 q583106 = .inl (I .int, n583197, .inl f583196) := (n583250 q583106 (rn_ao he583241 he583239)).trans he583241
      have he583253 : F583248 (γ 9 20) = .inl (I .int, 2000, .inl f583238) := (n583250 (γ 9 20) (rn_ao he583242 he583239)).trans he583242
      have he583254 : F583248 q583101 = .inr (22, [.ref (γ 9 0), .ref (γ 9 1), .ref (γ 9 2), .ref (γ 9 3), .ref (γ 9 4), .ref (γ 9 5), .ref (γ 9 6), .ref (γ 9 7), .ref (γ 9 8), .int p583108, .int p583109, .int p583110, .int p583111, .int p583112, .int p583113, .ref (γ 9 15), .ref (γ 9 16), .ref (γ 9 17), .ref (γ 9 18), .ref (γ 9 19), .ref (γ 9 20), .ref (γ 9 21), .ref (γ 9 22), .int p583114, .int p583115, .int p583116, .int p583117, .int z583246, .ref q583106, .ref (γ 9 29), .int p583119, .ref (γ 9 31), .int p583120, .int p583121, .int p583122, .ref q583107]) := e583249
      have hs583255 : rStr γ [] F583100 F583248 := rStr_put hs583243 n583250 htq583101 (by decide)
      refine G_iconst (-1) dr_cX17_step_108 (by decide +kernel) ?_
      have hT583256 : RS D I P583099 F583248 γ el := RS_set hT583247 n583250 htq583101 (by decide) ⟨q583106, q583107, p583108, p583109, p583110, p583111, p583112, p583113, p583114, p583115, p583116, p583117, z583246, p583119, p583120, p583121, p583122, he583254, ⟨bp583108, bp583109, (hB583149.2.2.1), (hB583149.2.2.2.1), (hB583149.2.2.2.2.1), bp583117, ⟨by omega, by omega⟩, bp583120, (hB583149.2.2.2.2.2.2.2.2)⟩, ht583123, ht583124, ht583125, ht583126, ht583127, ht583128, ht583129, ht583130, ht583131, ht583132, ht583133, ht583134, ht583135, ht583136, ht583137, ht583138, ht583139, ht583140, ht583141, ht583142, ht583143, ht583144, ht583145, ht583146, hB583150⟩
      have ac583257 : (fI (F583248 q583101) 26).toInt = p583117.toInt := by rw [he583254]; rfl
      have ac583258 : (fI (F583248 q583101) 9).toInt = p583108.toInt := by rw [he583254]; rfl
      have ac583259 : (fI (F583248 q583101) 10).toInt = p583109.toInt := by rw [he583254]; rfl
      have ac583260 : (fI (F583248 q583101) 32).toInt = p583120.toInt := by rw [he583254]; rfl
      exact G_iretA dr_cX17_step_109 rfl (Nat.le_of_ble_eq_true rfl) (Nat.le_of_ble_eq_true rfl) ⟨F583248, (-1), rfl, rfl, hT583256, hs583255, (Nat.le_of_ble_eq_true rfl), (Nat.le_of_ble_eq_true rfl), (gB_w (gBl (show Int32.toInt (-1) = (-1) by decide)) (by decide) (by decide)), (by have qa0 : Int32.toInt (-1) = (-1) := (by decide); omega), (by have qa0 : Int32.toInt (-1) = (-1) := (by decide); omega), (by have qa0 : Int32.toInt (-1) = (-1) := (by decide); omega), (by have qa0 : Int32.toInt (-1) = (-1) := (by decide); omega)⟩
  by_cases hs583261 : p583157 = 21
  · have ehs583261 : p583157.toInt = 21 := gj_eq hs583261 (show Int32.toInt 21 = 21 by decide)
    have bp583157' : gB p583157 21 21 := ⟨by omega, by omega⟩
    refine G_eqi (y := 21) hs583261 ?_
    refine G_lookup 155 dr_cX17_step_4 (by decide) (by first | rfl | decide) (by decide) ?_
    refine G_aload_n 0 dr_cX17_step_155 rfl ?_
    refine Gp_get 20 hm583104 he583105 dr_cX17_step_156 (gk_X17 D I) (Nat.le_of_ble_eq_true rfl) wr_7_94 rfl ?_
    refine G_aload_n 1 dr_cX17_step_159 rfl ?_
    refine Gp_get 1 hm583155 he583156 dr_cX17_step_160 (gk_X15 D I) (Nat.le_of_ble_eq_true rfl) wr_9_182 rfl ?_
    refine G_aload_n 0 dr_cX17_step_163 rfl ?_
    refine Gp_get 21 hm583104 he583105 dr_cX17_step_164 (gk_X17 D I) (Nat.le_of_ble_eq_true rfl) wr_7_95 rfl ?_
    refine G_aload_n 1 dr_cX17_step_167 rfl ?_
    refine Gp_get 4 hm583155 he583156 dr_cX17_step_168 (gk_X15 D I) (Nat.le_of_ble_eq_true rfl) wr_9_193 rfl ?_
    have hm583262 : (γ 9 21) ∈ P583099 := RS_m hT ht583140 (by decide)
    obtain ⟨f583264, he583263⟩ := show rk_23 I (F583100 (γ 9 21)) from RS_o hT ht583140
    refine Gp_iald 0 hm583262 he583263 dr_cX17_step_171 rfl (gB_in bp583161 (by decide) (by decide)) (G_nam fun z583265 hz583265 => ?_)
    have bz583265 : gB z583265 (-2147483648) 2147483647 := gB_any z583265
    have hm583266 : (γ 9 20) ∈ P583099 := RS_m hT ht583139 (by decide)
    obtain ⟨f583268, he583267⟩ := show rk_22 I (F583100 (γ 9 20)) from RS_o hT ht583139
    refine Gp_iast 0 hm583266 he583267 dr_cX17_step_172 rfl (gB_in bp583158 (by decide) (by decide)) (fun F583269 e583270 n583271 => ?_)
    obtain ⟨f583272, hf583272⟩ : ∃ z, z = upd f583268 p583158.toNatClampNeg z583265 := ⟨_, rfl⟩
    rw [← hf583272] at e583270
    have he583273 : F583269 q583101 = .inr (22, [.ref (γ 9 0), .ref (γ 9 1), .ref (γ 9 2), .ref (γ 9 3), .ref (γ 9 4), .ref (γ 9 5), .ref (γ 9 6), .ref (γ 9 7), .ref (γ 9 8), .int p583108, .int p583109, .int p583110, .int p583111, .int p583112, .int p583113, .ref (γ 9 15), .ref (γ 9 16), .ref (γ 9 17), .ref (γ 9 18), .ref (γ 9 19), .ref (γ 9 20), .ref (γ 9 21), .ref (γ 9 22), .int p583114, .int p583115, .int p583116, .int p583117, .int p583118, .ref q583106, .ref (γ 9 29), .int p583119, .ref (γ 9 31), .int p583120, .int p583121, .int p583122, .ref q583107]) := (n583271 q583101 (rn_oa he583105 he583267)).trans he583105
    have he583274 : F583269 q583102 = .inr (20, [.int p583157, .int p583158, .int p583159, .int p583160, .int p583161, .int p583162, .int p583163]) := (n583271 q583102 (rn_oa he583156 he583267)).trans he583156
    have he583275 : F583269 (γ 9 21) = .inl (I .int, 2000, .inl f583264) := (n583271 (γ 9 21) (rn_ty ht583140 ht583139 (by decide))).trans he583263
    have he583276 : F583269 (γ 9 20) = .inl (I .int, 2000, .inl f583272) := e583270
    have hs583277 : rStr γ [] F583100 F583269 := rStr_put (rStr_rf (γ := γ) (W := []) (F := F583100)) n583271 ht583139 (by decide)
    refine G_iconst (-1) dr_cX17_step_173 (by decide +kernel) ?_
    have hT583278 : RS D I P583099 F583269 γ el := RS_set hT n583271 ht583139 (by decide) ⟨f583272, he583276⟩
    have ac583279 : (fI (F583269 q583101) 26).toInt = p583117.toInt := by rw [he583273]; rfl
    have ac583280 : (fI (F583269 q583101) 9).toInt = p583108.toInt := by rw [he583273]; rfl
    have ac583281 : (fI (F583269 q583101) 10).toInt = p583109.toInt := by rw [he583273]; rfl
    have ac583282 : (fI (F583269 q583101) 32).toInt = p583120.toInt := by rw [he583273]; rfl
    exact G_iretA dr_cX17_step_174 rfl (Nat.le_of_ble_eq_true rfl) (Nat.le_of_ble_eq_true rfl) ⟨F583269, (-1), rfl, rfl, hT583278, hs583277, (Nat.le_of_ble_eq_true rfl), (Nat.le_of_ble_eq_true rfl), (gB_w (gBl (show Int32.toInt (-1) = (-1) by decide)) (by decide) (by decide)), (by have qa0 : Int32.toInt (-1) = (-1) := (by decide); omega), (by have qa0 : Int32.toInt (-1) = (-1) := (by decide); omega), (by have qa0 : Int32.toInt (-1) = (-1) := (by decide); omega), (by have qa0 : Int32.toInt (-1) = (-1) := (by decide); omega)⟩
  by_cases hs583283 : p583157 = 22
  · have ehs583283 : p583157.toInt = 22 := gj_eq hs583283 (show Int32.toInt 22 = 22 by decide)
    have bp583157' : gB p583157 22 22 := ⟨by omega, by omega⟩
    refine G_eqi (y := 22) hs583283 ?_
    refine G_lookup 110 dr_cX17_step_4 (by decide) (by first | rfl | decide) (by decide) ?_
    refine G_aload_n 0 dr_cX17_step_110 rfl ?_
    refine Gp_get 25 hm583104 he583105 dr_cX17_step_111 (gk_X17 D I) (Nat.le_of_ble_eq_true rfl) wr_7_99 rfl ?_
    have bp583116 : gB p583116 0 512 := (hB583149.2.2.2.2.1)
    refine G_sipush 512 dr_cX17_step_114 (by decide +kernel) ?_
    refine G_icmp_ne 122 dr_cX17_step_117 (by decide +kernel) (fun hc583284 => ?_) (fun hc583284 => ?_)
    · have r583285 : p583116.toInt ≠ 512 := gj_neq hc583284 (show Int32.toInt 512 = 512 by decide)
      have bp583116' : gB p583116 0 511 := ⟨by omega, by omega⟩
      refine G_aload_n 0 dr_cX17_step_122 rfl ?_
      refine Gp_get 22 hm583104 he583105 dr_cX17_step_123 (gk_X17 D I) (Nat.le_of_ble_eq_true rfl) wr_7_96 rfl ?_
      refine G_aload_n 0 dr_cX17_step_126 rfl ?_
      refine Gp_get 25 hm583104 he583105 dr_cX17_step_127 (gk_X17 D I) (Nat.le_of_ble_eq_true rfl) wr_7_99 rfl ?_
      refine G_aload_n 0 dr_cX17_step_130 rfl ?_
      refine G_aload_n 1 dr_cX17_step_131 rfl ?_
      refine Gp_get 5 hm583155 he583156 dr_cX17_step_132 (gk_X15 D I) (Nat.le_of_ble_eq_true rfl) wr_9_197 rfl ?_
      refine G_aload_n 1 dr_cX17_step_135 rfl ?_
      refine Gp_get 2 hm583155 he583156 dr_cX17_step_136 (gk_X15 D I) (Nat.le_of_ble_eq_true rfl) wr_9_186 rfl ?_
      refine Gw_callV (As := [.int p583162, .int p583159]) (gV_ok D I) (ct_7532_SpillForgeModel_value l hl0 D I γ el P583099 F583100 q583101 p583162 p583159 hT htq583101 bp583162 (by omega)) dr_cX17_step_139 ⟨wr_11_100, wr_1_14, wr_11_103, by decide, rfl, (Nat.le_of_ble_eq_true rfl), (Nat.le_of_ble_eq_true rfl)⟩ wr_11_102 wr_p_115 hm583104 he583105 rfl (show 0 + 0 ≤ 0 by first | omega | decide) (show 0 + 0 ≤ 0 by first | omega | decide) (Nat.le_of_ble_eq_true rfl) (fun r583289 w583290 dc583286 ds583287 hp583288 => ?_) (fun _ _ _ _ _ z => z.elim)
      obtain ⟨o583291, rfl, rfl, hdc, hds, ht583292⟩ := hp583288
      have bo583291 := gB_any o583291
      change G _ _ _ _ _ _ _ (.int o583291 :: _) _ _ _
      refine G_widen (cs' := 0) (sl' := 0) (by omega) (by omega) ?_
      have hm583293 : (γ 9 22) ∈ P583099 := RS_m hT ht583141 (by decide)
      obtain ⟨f583295, he583294⟩ := show rk_24 I (F583100 (γ 9 22)) from RS_o hT ht583141
      refine Gp_iast 0 hm583293 he583294 dr_cX17_step_142 rfl (gB_in bp583116' (by decide) (by decide)) (fun F583296 e583297 n583298 => ?_)
      obtain ⟨f583299, hf583299⟩ : ∃ z, z = upd f583295 p583116.toNatClampNeg o583291 := ⟨_, rfl⟩
      rw [← hf583299] at e583297
      have he583300 : F583296 q583101 = .inr (22, [.ref (γ 9 0), .ref (γ 9 1), .ref (γ 9 2), .ref (γ 9 3), .ref (γ 9 4), .ref (γ 9 5), .ref (γ 9 6), .ref (γ 9 7), .ref (γ 9 8), .int p583108, .int p583109, .int p583110, .int p583111, .int p583112, .int p583113, .ref (γ 9 15), .ref (γ 9 16), .ref (γ 9 17), .ref (γ 9 18), .ref (γ 9 19), .ref (γ 9 20), .ref (γ 9 21), .ref (γ 9 22), .int p583114, .int p583115, .int p583116, .int p583117, .int p583118, .ref q583106, .ref (γ 9 29), .int p583119, .ref (γ 9 31), .int p583120, .int p583121, .int p583122, .ref q583107]) := (n583298 q583101 (rn_oa he583105 he583294)).trans he583105
      have he583301 : F583296 q583102 = .inr (20, [.int p583157, .int p583158, .int p583159, .int p583160, .int p583161, .int p583162, .int p583163]) := (n583298 q583102 (rn_oa he583156 he583294)).trans he583156
      have he583302 : F583296 (γ 9 22) = .inl (I .int, 512, .inl f583299) := e583297
      have hs583303 : rStr γ [] F583100 F583296 := rStr_put (rStr_rf (γ := γ) (W := []) (F := F583100)) n583298 ht583141 (by decide)
      refine G_aload_n 0 dr_cX17_step_143 rfl ?_
      refine G_dup dr_cX17_step_144 rfl ?_
      refine Gp_get 25 hm583104 he583300 dr_cX17_step_145 (gk_X17 D I) (Nat.le_of_ble_eq_true rfl) wr_7_99 rfl ?_
      refine G_iconst 1 dr_cX17_step_148 (by decide +kernel) ?_
      refine G_iadd dr_cX17_step_149 (G_nam fun z583304 hz583304 => ?_)
      have ez583304 : z583304.toInt = p583116.toInt + 1 := by rw [gI_add hz583304 bp583116' (gBl (show Int32.toInt 1 = 1 by decide)) (by decide) (by decide), show Int32.toInt 1 = 1 from by decide]
      have bz583304 : gB z583304 1 512 := gB_add (gI_add hz583304 bp583116' (gBl (show Int32.toInt 1 = 1 by decide)) (by decide) (by decide)) bp583116' (gBl (show Int32.toInt 1 = 1 by decide)) (by decide) (by decide)
      have hT583305 : RS D I P583099 F583296 γ el := RS_set hT n583298 ht583141 (by decide) ⟨f583299, he583302⟩
      refine Gp_put 25 hm583104 he583300 dr_cX17_step_150 (gk_X17 D I) (Nat.le_of_ble_eq_true rfl) wr_7_99 rfl rfl rfl (Nat.le_of_ble_eq_true rfl) (fun F583306 e583307 n583308 => ?_)
      have he583309 : F583306 q583102 = .inr (20, [.int p583157, .int p583158, .int p583159, .int p583160, .int p583161, .int p583162, .int p583163]) := (n583308 q583102 (rn_oo he583301 he583300 (by decide))).trans he583301
      have he583310 : F583306 (γ 9 22) = .inl (I .int, 512, .inl f583299) := (n583308 (γ 9 22) (rn_ao he583302 he583300)).trans he583302
      have he583311 : F583306 q583101 = .inr (22, [.ref (γ 9 0), .ref (γ 9 1), .ref (γ 9 2), .ref (γ 9 3), .ref (γ 9 4), .ref (γ 9 5), .ref (γ 9 6), .ref (γ 9 7), .ref (γ 9 8), .int p583108, .int p583109, .int p583110, .int p583111, .int p583112, .int p583113, .ref (γ 9 15), .ref (γ 9 16), .ref (γ 9 17), .ref (γ 9 18), .ref (γ 9 19), .ref (γ 9 20), .ref (γ 9 21), .ref (γ 9 22), .int p583114, .int p583115, .int z583304, .int p583117, .int p583118, .ref q583106, .ref (γ 9 29), .int p583119, .ref (γ 9 31), .int p583120, .int p583121, .int p583122, .ref q583107]) := e583307
      have hs583312 : rStr γ [] F583100 F583306 := rStr_put hs583303 n583308 htq583101 (by decide)
      refine G_iconst (-1) dr_cX17_step_153 (by decide +kernel) ?_
      have hT583313 : RS D I P583099 F583306 γ el := RS_set hT583305 n583308 htq583101 (by decide) ⟨q583106, q583107, p583108, p583109, p583110, p583111, p583112, p583113, p583114, p583115, z583304, p583117, p583118, p583119, p583120, p583121, p583122, he583311, ⟨bp583108, bp583109, (hB583149.2.2.1), (hB583149.2.2.2.1), (gB_w bz583304 (by decide) (by decide)), bp583117, (hB583149.2.2.2.2.2.2.1), bp583120, (hB583149.2.2.2.2.2.2.2.2)⟩, ht583123, ht583124, ht583125, ht583126, ht583127, ht583128, ht583129, ht583130, ht583131, ht583132, ht583133, ht583134, ht583135, ht583136, ht583137, ht583138, ht583139, ht583140, ht583141, ht583142, ht583143, ht583144, ht583145, ht583146, hB583150⟩
      have ac583314 : (fI (F583306 q583101) 26).toInt = p583117.toInt := by rw [he583311]; rfl
      have ac583315 : (fI (F583306 q583101) 9).toInt = p583108.toInt := by rw [he583311]; rfl
      have ac583316 : (fI (F583306 q583101) 10).toInt = p583109.toInt := by rw [he583311]; rfl
      have ac583317 : (fI (F583306 q583101) 32).toInt = p583120.toInt := by rw [he583311]; rfl
      exact G_iretA dr_cX17_step_154 rfl (Nat.le_of_ble_eq_true rfl) (Nat.le_of_ble_eq_true rfl) ⟨F583306, (-1), rfl, rfl, hT583313, hs583312, (Nat.le_of_ble_eq_true rfl), (Nat.le_of_ble_eq_true rfl), (gB_w (gBl (show Int32.toInt (-1) = (-1) by decide)) (by decide) (by decide)), (by have qa0 : Int32.toInt (-1) = (-1) := (by decide); omega), (by have qa0 : Int32.toInt (-1) = (-1) := (by decide); omega), (by have qa0 : Int32.toInt (-1) = (-1) := (by decide); omega), (by have qa0 : Int32.toInt (-1) = (-1) := (by decide); omega)⟩
    · have r583318 : p583116.toInt = 512 := gj_eq hc583284 (show Int32.toInt 512 = 512 by decide)
      have bp583116' : gB p583116 512 512 := ⟨by omega, by omega⟩
      refine G_iconst 5 dr_cX17_step_120 (by decide +kernel) ?_
      have ac583319 : (fI (F583100 q583101) 26).toInt = p583117.toInt := by rw [he583105]; rfl
      have ac583320 : (fI (F583100 q583101) 9).toInt = p583108.toInt := by rw [he583105]; rfl
      have ac583321 : (fI (F583100 q583101) 10).toInt = p583109.toInt := by rw [he583105]; rfl
      have ac583322 : (fI (F583100 q583101) 32).toInt = p583120.toInt := by rw [he583105]; rfl
      exact G_iretA dr_cX17_step_121 rfl (Nat.le_of_ble_eq_true rfl) (Nat.le_of_ble_eq_true rfl) ⟨F583100, 5, rfl, rfl, hT, (rStr_rf (γ := γ) (W := []) (F := F583100)), (Nat.le_of_ble_eq_true rfl), (Nat.le_of_ble_eq_true rfl), (gB_w (gBl (show Int32.toInt 5 = 5 by decide)) (by decide) (by decide)), (by have qa0 : Int32.toInt 5 = 5 := (by decide); omega), (by have qa0 : Int32.toInt 5 = 5 := (by decide); omega), (by have qa0 : Int32.toInt 5 = 5 := (by decide); omega), (by have qa0 : Int32.toInt 5 = 5 := (by decide); omega)⟩
  by_cases hs583323 : p583157 = 23
  · have ehs583323 : p583157.toInt = 23 := gj_eq hs583323 (show Int32.toInt 23 = 23 by decide)
    have bp583157' : gB p583157 23 23 := ⟨by omega, by omega⟩
    refine G_eqi (y := 23) hs583323 ?_
    refine G_lookup 175 dr_cX17_step_4 (by decide) (by first | rfl | decide) (by decide) ?_
    refine G_aload_n 0 dr_cX17_step_175 rfl ?_
    refine Gp_get 21 hm583104 he583105 dr_cX17_step_176 (gk_X17 D I) (Nat.le_of_ble_eq_true rfl) wr_7_95 rfl ?_
    refine G_aload_n 1 dr_cX17_step_179 rfl ?_
    refine Gp_get 4 hm583155 he583156 dr_cX17_step_180 (gk_X15 D I) (Nat.le_of_ble_eq_true rfl) wr_9_193 rfl ?_
    refine G_aload_n 0 dr_cX17_step_183 rfl ?_
    refine G_aload_n 1 dr_cX17_step_184 rfl ?_
    refine Gp_get 5 hm583155 he583156 dr_cX17_step_185 (gk_X15 D I) (Nat.le_of_ble_eq_true rfl) wr_9_197 rfl ?_
    refine G_aload_n 1 dr_cX17_step_188 rfl ?_
    refine Gp_get 2 hm583155 he583156 dr_cX17_step_189 (gk_X15 D I) (Nat.le_of_ble_eq_true rfl) wr_9_186 rfl ?_
    refine Gw_callV (As := [.int p583162, .int p583159]) (gV_ok D I) (ct_7532_SpillForgeModel_value l hl0 D I γ el P583099 F583100 q583101 p583162 p583159 hT htq583101 bp583162 (by omega)) dr_cX17_step_192 ⟨wr_11_100, wr_1_14, wr_11_103, by decide, rfl, (Nat.le_of_ble_eq_true rfl), (Nat.le_of_ble_eq_true rfl)⟩ wr_11_102 wr_p_115 hm583104 he583105 rfl (show 0 + 0 ≤ 0 by first | omega | decide) (show 0 + 0 ≤ 0 by first | omega | decide) (Nat.le_of_ble_eq_true rfl) (fun r583327 w583328 dc583324 ds583325 hp583326 => ?_) (fun _ _ _ _ _ z => z.elim)
    obtain ⟨o583329, rfl, rfl, hdc, hds, ht583330⟩ := hp583326
    have bo583329 := gB_any o583329
    change G _ _ _ _ _ _ _ (.int o583329 :: _) _ _ _
    refine G_widen (cs' := 0) (sl' := 0) (by omega) (by omega) ?_
    have hm583331 : (γ 9 21) ∈ P583099 := RS_m hT ht583140 (by decide)
    obtain ⟨f583333, he583332⟩ := show rk_23 I (F583100 (γ 9 21)) from RS_o hT ht583140
    refine Gp_iast 0 hm583331 he583332 dr_cX17_step_195 rfl (gB_in bp583161 (by decide) (by decide)) (fun F583334 e583335 n583336 => ?_)
    obtain ⟨f583337, hf583337⟩ : ∃ z, z = upd f583333 p583161.toNatClampNeg o583329 := ⟨_, rfl⟩
    rw [← hf583337] at e583335
    have he583338 : F583334 q583101 = .inr (22, [.ref (γ 9 0), .ref (γ 9 1), .ref (γ 9 2), .ref (γ 9 3), .ref (γ 9 4), .ref (γ 9 5), .ref (γ 9 6), .ref (γ 9 7), .ref (γ 9 8), .int p583108, .int p583109, .int p583110, .int p583111, .int p583112, .int p583113, .ref (γ 9 15), .ref (γ 9 16), .ref (γ 9 17), .ref (γ 9 18), .ref (γ 9 19), .ref (γ 9 20), .ref (γ 9 21), .ref (γ 9 22), .int p583114, .int p583115, .int p583116, .int p583117, .int p583118, .ref q583106, .ref (γ 9 29), .int p583119, .ref (γ 9 31), .int p583120, .int p583121, .int p583122, .ref q583107]) := (n583336 q583101 (rn_oa he583105 he583332)).trans he583105
    have he583339 : F583334 q583102 = .inr (20, [.int p583157, .int p583158, .int p583159, .int p583160, .int p583161, .int p583162, .int p583163]) := (n583336 q583102 (rn_oa he583156 he583332)).trans he583156
    have he583340 : F583334 (γ 9 21) = .inl (I .int, 2000, .inl f583337) := e583335
    have hs583341 : rStr γ [] F583100 F583334 := rStr_put (rStr_rf (γ := γ) (W := []) (F := F583100)) n583336 ht583140 (by decide)
    refine G_iconst (-1) dr_cX17_step_196 (by decide +kernel) ?_
    have hT583342 : RS D I P583099 F583334 γ el := RS_set hT n583336 ht583140 (by decide) ⟨f583337, he583340⟩
    have ac583343 : (fI (F583334 q583101) 26).toInt = p583117.toInt := by rw [he583338]; rfl
    have ac583344 : (fI (F583334 q583101) 9).toInt = p583108.toInt := by rw [he583338]; rfl
    have ac583345 : (fI (F583334 q583101) 10).toInt = p583109.toInt := by rw [he583338]; rfl
    have ac583346 : (fI (F583334 q583101) 32).toInt = p583120.toInt := by rw [he583338]; rfl
    exact G_iretA dr_cX17_step_197 rfl (Nat.le_of_ble_eq_true rfl) (Nat.le_of_ble_eq_true rfl) ⟨F583334, (-1), rfl, rfl, hT583342, hs583341, (Nat.le_of_ble_eq_true rfl), (Nat.le_of_ble_eq_true rfl), (gB_w (gBl (show Int32.toInt (-1) = (-1) by decide)) (by decide) (by decide)), (by have qa0 : Int32.toInt (-1) = (-1) := (by decide); omega), (by have qa0 : Int32.toInt (-1) = (-1) := (by decide); omega), (by have qa0 : Int32.toInt (-1) = (-1) := (by decide); omega), (by have qa0 : Int32.toInt (-1) = (-1) := (by decide); omega)⟩
  have ehs583169 := lv_neT hs583169 (show Int32.toInt 0 = 0 by decide)
  have ehs583193 := lv_neT hs583193 (show Int32.toInt 20 = 20 by decide)
  have ehs583261 := lv_neT hs583261 (show Int32.toInt 21 = 21 by decide)
  have ehs583283 := lv_neT hs583283 (show Int32.toInt 22 = 22 by decide)
  have ehs583323 := lv_neT hs583323 (show Int32.toInt 23 = 23 by decide)
  refine G_lookup 221 dr_cX17_step_4 (by decide) (by show Op.lookupswitch.offset [(0, 194), (20, 52), (21, 151), (22, 106), (23, 171)] _ _ = 217; rw [lv_osw hs583169 (show Int32.toInt 0 = 0 by decide), lv_osw hs583193 (show Int32.toInt 20 = 20 by decide), lv_osw hs583261 (show Int32.toInt 21 = 21 by decide), lv_osw hs583283 (show Int32.toInt 22 = 22 by decide), lv_osw hs583323 (show Int32.toInt 23 = 23 by decide)]; first | done | rfl) (by decide) ?_
  refine G_aload_n 1 dr_cX17_step_221 rfl ?_
  refine Gp_get 0 hm583155 he583156 dr_cX17_step_222 (gk_X15 D I) (Nat.le_of_ble_eq_true rfl) wr_9_177 rfl ?_
  refine G_aload_n 0 dr_cX17_step_225 rfl ?_
  refine G_aload_n 1 dr_cX17_step_226 rfl ?_
  refine Gp_get 5 hm583155 he583156 dr_cX17_step_227 (gk_X15 D I) (Nat.le_of_ble_eq_true rfl) wr_9_197 rfl ?_
  refine G_aload_n 1 dr_cX17_step_230 rfl ?_
  refine Gp_get 2 hm583155 he583156 dr_cX17_step_231 (gk_X15 D I) (Nat.le_of_ble_eq_true rfl) wr_9_186 rfl ?_
  refine Gw_callV (As := [.int p583162, .int p583159]) (gV_ok D I) (ct_7532_SpillForgeModel_value l hl0 D I γ el P583099 F583100 q583101 p583162 p583159 hT htq583101 bp583162 (by omega)) dr_cX17_step_234 ⟨wr_11_100, wr_1_14, wr_11_103, by decide, rfl, (Nat.le_of_ble_eq_true rfl), (Nat.le_of_ble_eq_true rfl)⟩ wr_11_102 wr_p_115 hm583104 he583105 rfl (show 0 + 0 ≤ 0 by first | omega | decide) (show 0 + 0 ≤ 0 by first | omega | decide) (Nat.le_of_ble_eq_true rfl) (fun r583350 w583351 dc583347 ds583348 hp583349 => ?_) (fun _ _ _ _ _ z => z.elim)
  obtain ⟨o583352, rfl, rfl, hdc, hds, ht583353⟩ := hp583349
  have bo583352 := gB_any o583352
  change G _ _ _ _ _ _ _ (.int o583352 :: _) _ _ _
  refine G_widen (cs' := 0) (sl' := 0) (by omega) (by omega) ?_
  refine G_aload_n 0 dr_cX17_step_237 rfl ?_
  refine G_aload_n 1 dr_cX17_step_238 rfl ?_
  refine Gp_get 6 hm583155 he583156 dr_cX17_step_239 (gk_X15 D I) (Nat.le_of_ble_eq_true rfl) wr_9_202 rfl ?_
  refine G_aload_n 1 dr_cX17_step_242 rfl ?_
  refine Gp_get 3 hm583155 he583156 dr_cX17_step_243 (gk_X15 D I) (Nat.le_of_ble_eq_true rfl) wr_9_190 rfl ?_
  refine Gw_callV (As := [.int p583163, .int p583160]) (gV_ok D I) (ct_7532_SpillForgeModel_value l hl0 D I γ el P583099 F583100 q583101 p583163 p583160 hT htq583101 bp583163 (by omega)) dr_cX17_step_246 ⟨wr_11_100, wr_1_14, wr_11_103, by decide, rfl, (Nat.le_of_ble_eq_true rfl), (Nat.le_of_ble_eq_true rfl)⟩ wr_11_102 wr_p_115 hm583104 he583105 rfl (show 0 + 0 ≤ 0 by first | omega | decide) (show 0 + 0 ≤ 0 by first | omega | decide) (Nat.le_of_ble_eq_true rfl) (fun r583357 w583358 dc583354 ds583355 hp583356 => ?_) (fun _ _ _ _ _ z => z.elim)
  obtain ⟨o583359, rfl, rfl, hdc, hds, ht583360⟩ := hp583356
  have bo583359 := gB_any o583359
  change G _ _ _ _ _ _ _ (.int o583359 :: _) _ _ _
  refine G_widen (cs' := 0) (sl' := 0) (by omega) (by omega) ?_
  refine Gw_callS (As := [.int p583157, .int o583352, .int o583359]) (gV_ok D I) (cp_2035_SpillForgeModel_result l hl0 D I P583099 F583100 p583157 o583352 o583359 ) dr_cX17_step_249 ⟨wr_11_104, wr_1_14, wr_11_106, by decide, rfl, (Nat.le_of_ble_eq_true rfl), (Nat.le_of_ble_eq_true rfl)⟩ wr_11_105 (show 0 + 0 ≤ 0 by first | omega | decide) (show 0 + 0 ≤ 0 by first | omega | decide) (Nat.le_of_ble_eq_true rfl) (fun r583364 w583365 dc583361 ds583362 hp583363 => ?_) (fun _ _ _ _ _ z => z.elim)
  obtain ⟨ol583366, rfl, rfl, hdc, hds, ht583367⟩ := hp583363
  change G _ _ _ _ _ _ _ (.long ol583366 :: _) _ _ _
  refine G_widen (cs' := 0) (sl' := 0) (by omega) (by omega) ?_
  refine G_lstore_n (L' := [(2, .long ol583366), (0, .ref q583101), (1, .ref q583102)]) dr_cX17_step_252 (Nat.le_of_ble_eq_true rfl) rfl ?_
  refine G_lload_n 0 dr_cX17_step_253 rfl ?_
  refine G_ldc2 4294967296 dr_cX17_step_254 wr_11_107 ?_
  refine G_lcmp dr_cX17_step_257 (G_nam fun z583368 hz583368 => ?_)
  have bz583368 : gB z583368 (-1) 1 := gB_cmp hz583368
  refine G_if_ne 263 dr_cX17_step_258 (by decide +kernel) (fun hc583369 => ?_) (fun hc583369 => ?_)
  · have r583370 : z583368.toInt ≠ 0 := gj_neq hc583369 (show Int32.toInt 0 = 0 by decide)
    have lhc583369 := gC_cmpN hz583368 hc583369
    refine G_aload_n 1 dr_cX17_step_263 rfl ?_
    refine Gp_get 20 hm583104 he583105 dr_cX17_step_264 (gk_X17 D I) (Nat.le_of_ble_eq_true rfl) wr_7_94 rfl ?_
    refine G_aload_n 2 dr_cX17_step_267 rfl ?_
    refine Gp_get 1 hm583155 he583156 dr_cX17_step_268 (gk_X15 D I) (Nat.le_of_ble_eq_true rfl) wr_9_182 rfl ?_
    refine G_lload_n 0 dr_cX17_step_271 rfl ?_
    refine G_l2i dr_cX17_step_272 (G_nam fun z583371 hz583371 => ?_)
    have bz583371 : gB z583371 (-2147483648) 2147483647 := gB_any z583371
    have hm583372 : (γ 9 20) ∈ P583099 := RS_m hT ht583139 (by decide)
    obtain ⟨f583374, he583373⟩ := show rk_22 I (F583100 (γ 9 20)) from RS_o hT ht583139
    refine Gp_iast 0 hm583372 he583373 dr_cX17_step_273 rfl (gB_in bp583158 (by decide) (by decide)) (fun F583375 e583376 n583377 => ?_)
    obtain ⟨f583378, hf583378⟩ : ∃ z, z = upd f583374 p583158.toNatClampNeg z583371 := ⟨_, rfl⟩
    rw [← hf583378] at e583376
    have he583379 : F583375 q583101 = .inr (22, [.ref (γ 9 0), .ref (γ 9 1), .ref (γ 9 2), .ref (γ 9 3), .ref (γ 9 4), .ref (γ 9 5), .ref (γ 9 6), .ref (γ 9 7), .ref (γ 9 8), .int p583108, .int p583109, .int p583110, .int p583111, .int p583112, .int p583113, .ref (γ 9 15), .ref (γ 9 16), .ref (γ 9 17), .ref (γ 9 18), .ref (γ 9 19), .ref (γ 9 20), .ref (γ 9 21), .ref (γ 9 22), .int p583114, .int p583115, .int p583116, .int p583117, .int p583118, .ref q583106, .ref (γ 9 29), .int p583119, .ref (γ 9 31), .int p583120, .int p583121, .int p583122, .ref q583107]) := (n583377 q583101 (rn_oa he583105 he583373)).trans he583105
    have he583380 : F583375 q583102 = .inr (20, [.int p583157, .int p583158, .int p583159, .int p583160, .int p583161, .int p583162, .int p583163]) := (n583377 q583102 (rn_oa he583156 he583373)).trans he583156
    have he583381 : F583375 (γ 9 20) = .inl (I .int, 2000, .inl f583378) := e583376
    have hs583382 : rStr γ [] F583100 F583375 := rStr_put (rStr_rf (γ := γ) (W := []) (F := F583100)) n583377 ht583139 (by decide)
    refine G_iconst (-1) dr_cX17_step_274 (by decide +kernel) ?_
    have hT583383 : RS D I P583099 F583375 γ el := RS_set hT n583377 ht583139 (by decide) ⟨f583378, he583381⟩
    have ac583384 : (fI (F583375 q583101) 26).toInt = p583117.toInt := by rw [he583379]; rfl
    have ac583385 : (fI (F583375 q583101) 9).toInt = p583108.toInt := by rw [he583379]; rfl
    have ac583386 : (fI (F583375 q583101) 10).toInt = p583109.toInt := by rw [he583379]; rfl
    have ac583387 : (fI (F583375 q583101) 32).toInt = p583120.toInt := by rw [he583379]; rfl
    exact G_iretA dr_cX17_step_275 rfl (Nat.le_of_ble_eq_true rfl) (Nat.le_of_ble_eq_true rfl) ⟨F583375, (-1), rfl, rfl, hT583383, hs583382, (Nat.le_of_ble_eq_true rfl), (Nat.le_of_ble_eq_true rfl), (gB_w (gBl (show Int32.toInt (-1) = (-1) by decide)) (by decide) (by decide)), (by have qa0 : Int32.toInt (-1) = (-1) := (by decide); omega), (by have qa0 : Int32.toInt (-1) = (-1) := (by decide); omega), (by have qa0 : Int32.toInt (-1) = (-1) := (by decide); omega), (by have qa0 : Int32.toInt (-1) = (-1) := (by decide); omega)⟩
  · have r583388 : z583368.toInt = 0 := gj_eq hc583369 (show Int32.toInt 0 = 0 by decide)
    have bz583368' : gB z583368 0 0 := ⟨by omega, by omega⟩
    have lhc583369 := gC_cmpE hz583368 hc583369
    refine G_iconst 1 dr_cX17_step_261 (by decide +kernel) ?_
    have ac583389 : (fI (F583100 q583101) 26).toInt = p583117.toInt := by rw [he583105]; rfl
    have ac583390 : (fI (F583100 q583101) 9).toInt = p583108.toInt := by rw [he583105]; rfl
    have ac583391 : (fI (F583100 q583101) 10).toInt = p583109.toInt := by rw [he583105]; rfl
    have ac583392 : (fI (F583100 q583101) 32).toInt = p583120.toInt := by rw [he583105]; rfl
    exact G_iretA dr_cX17_step_262 rfl (Nat.le_of_ble_eq_true rfl) (Nat.le_of_ble_eq_true rfl) ⟨F583100, 1, rfl, rfl, hT, (rStr_rf (γ := γ) (W := []) (F := F583100)), (Nat.le_of_ble_eq_true rfl), (Nat.le_of_ble_eq_true rfl), (gB_w (gBl (show Int32.toInt 1 = 1 by decide)) (by decide) (by decide)), (by have qa0 : Int32.toInt 1 = 1 := (by decide); omega), (by have qa0 : Int32.toInt 1 = 1 := (by decide); omega), (by have qa0 : Int32.toInt 1 = 1 := (by decide); omega), (by have qa0 : Int32.toInt 1 = 1 := (by decide); omega)⟩
