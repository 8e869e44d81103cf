abbrev ky_578755_SpillForgeModel_no : gKey := (cX17_no, 2, "SpillForgeModel", (some FieldType.int), [], "no", fun _ _ => True)
def pt_578755_SpillForgeModel_no (D : va_G) (I : FieldType → ClassId) (γ el : Nat → Nat → Nat) (P578751 : List Nat) (F578752 : Nat → va_E) (q578753 : Nat) (p578754 : Int32) : Option Value → va_W → Nat → Nat → Prop := fun r w dc ds => ∃ (F578817 : Nat → va_E), r = some (.int 0) ∧ w = va_pl P578751 F578817 ∧ RS D I P578751 F578817 γ el ∧ rStr γ [] F578752 F578817 ∧ dc ≤ 0 ∧ ds ≤ 0 ∧ (fI (F578817 q578753) 9).toInt = (fI (F578752 q578753) 9).toInt ∧ (fI (F578817 q578753) 10).toInt = (fI (F578752 q578753) 10).toInt ∧ (fI (F578817 q578753) 32).toInt = (fI (F578752 q578753) 32).toInt ∧ (fI (F578817 q578753) 30).toInt = p578754.toInt
set_option maxRecDepth 100000 in
set_option maxHeartbeats 4000000 in
theorem ct_578755_SpillForgeModel_no (l : Launch) (hl0 : l.stackTraces = false) (D : va_G) (I : FieldType → ClassId) (γ el : Nat → Nat → Nat) (P578751 : List Nat) (F578752 : Nat → va_E) (q578753 : Nat) (p578754 : Int32) (hT : RS D I P578751 F578752 γ el) (htq578753 : rKd γ q578753 10) : CtA (gV D I) l yX17_no cX17_no 2 (some FieldType.int) 0 0 0 0 [.ref q578753, .int p578754] (va_pl P578751 F578752) (pt_578755_SpillForgeModel_no D I γ el P578751 F578752 q578753 p578754) gNA := by
  refine CtA_of hl0 (by decide) (Nat.le_of_ble_eq_true rfl) ?_
  have bp578754 := gB_any p578754
  have hm578756 : q578753 ∈ P578751 := RS_m hT htq578753 (by decide)
  refine rk10_e (show rk_10 γ (F578752 q578753) from RS_o hT htq578753) (fun q578758 q578759 p578760 p578761 p578762 p578763 p578764 p578765 p578766 p578767 p578768 p578769 p578770 p578771 p578772 p578773 p578774 he578757 hB578801 ht578775 ht578776 ht578777 ht578778 ht578779 ht578780 ht578781 ht578782 ht578783 ht578784 ht578785 ht578786 ht578787 ht578788 ht578789 ht578790 ht578791 ht578792 ht578793 ht578794 ht578795 ht578796 ht578797 ht578798 hB578802 => ?_)
  have ac578803 : (fI (F578752 q578753) 9).toInt = p578760.toInt := by rw [he578757]; rfl
  have bp578760 : gB p578760 0 1 := (hB578801.1)
  have ac578804 : (fI (F578752 q578753) 10).toInt = p578761.toInt := by rw [he578757]; rfl
  have bp578761 : gB p578761 0 1 := (hB578801.2.1)
  have ac578805 : (fI (F578752 q578753) 32).toInt = p578772.toInt := by rw [he578757]; rfl
  have bp578772 : gB p578772 0 8192 := (hB578801.2.2.2.2.2.2.2.1)
  have ac578806 : (fI (F578752 q578753) 30).toInt = p578771.toInt := by rw [he578757]; rfl
  have bp578771 : gB p578771 (-2147483648) 2147483647 := (gB_any p578771)
  refine G_aload_n 0 dr_cX17_no_0 rfl ?_
  refine G_iload_n 1 dr_cX17_no_1 rfl ?_
  refine Gp_put 30 hm578756 he578757 dr_cX17_no_2 (gk_X17 D I) (Nat.le_of_ble_eq_true rfl) wr_7_104 rfl rfl rfl (Nat.le_of_ble_eq_true rfl) (fun F578807 e578808 n578809 => ?_)
  have he578810 : F578807 q578753 = .inr (22, [.ref (γ 9 0), .ref (γ 9 1), .ref (γ 9 2), .ref (γ 9 3), .ref (γ 9 4), .ref (γ 9 5), .ref (γ 9 6), .ref (γ 9 7), .ref (γ 9 8), .int p578760, .int p578761, .int p578762, .int p578763, .int p578764, .int p578765, .ref (γ 9 15), .ref (γ 9 16), .ref (γ 9 17), .ref (γ 9 18), .ref (γ 9 19), .ref (γ 9 20), .ref (γ 9 21), .ref (γ 9 22), .int p578766, .int p578767, .int p578768, .int p578769, .int p578770, .ref q578758, .ref (γ 9 29), .int p578754, .ref (γ 9 31), .int p578772, .int p578773, .int p578774, .ref q578759]) := e578808
  have hs578811 : rStr γ [] F578752 F578807 := rStr_put (rStr_rf (γ := γ) (W := []) (F := F578752)) n578809 htq578753 (by decide)
  refine G_iconst 0 dr_cX17_no_5 (by decide +kernel) ?_
  have hT578812 : RS D I P578751 F578807 γ el := RS_set hT n578809 htq578753 (by decide) ⟨q578758, q578759, p578760, p578761, p578762, p578763, p578764, p578765, p578766, p578767, p578768, p578769, p578770, p578754, p578772, p578773, p578774, he578810, ⟨bp578760, bp578761, (hB578801.2.2.1), (hB578801.2.2.2.1), (hB578801.2.2.2.2.1), (hB578801.2.2.2.2.2.1), (hB578801.2.2.2.2.2.2.1), bp578772, (hB578801.2.2.2.2.2.2.2.2)⟩, ht578775, ht578776, ht578777, ht578778, ht578779, ht578780, ht578781, ht578782, ht578783, ht578784, ht578785, ht578786, ht578787, ht578788, ht578789, ht578790, ht578791, ht578792, ht578793, ht578794, ht578795, ht578796, ht578797, ht578798, hB578802⟩
  have ac578813 : (fI (F578807 q578753) 9).toInt = p578760.toInt := by rw [he578810]; rfl
  have ac578814 : (fI (F578807 q578753) 10).toInt = p578761.toInt := by rw [he578810]; rfl
  have ac578815 : (fI (F578807 q578753) 32).toInt = p578772.toInt := by rw [he578810]; rfl
  have ac578816 : (fI (F578807 q578753) 30).toInt = p578754.toInt := by rw [he578810]; rfl
  exact G_iretA dr_cX17_no_6 rfl (Nat.le_of_ble_eq_true rfl) (Nat.le_of_ble_eq_true rfl) ⟨F578807, rfl, rfl, hT578812, hs578811, (Nat.le_of_ble_eq_true rfl), (Nat.le_of_ble_eq_true rfl), (by have qa0 : Int32.toInt 0 = 0 := (by decide); omega), (by have qa0 : Int32.toInt 0 = 0 := (by decide); omega), (by have qa0 : Int32.toInt 0 = 0 := (by decide); omega), (by have qa0 : Int32.toInt 0 = 0 := (by decide); omega)⟩
abbrev ky_578662_SpillForgeModel_told : gKey := (cX17_told, 2, "SpillForgeModel", (some FieldType.int), [], "told", fun _ _ => True)
def pt_578662_SpillForgeModel_told (D : va_G) (I : FieldType → ClassId) (γ el : Nat → Nat → Nat) (P578658 : List Nat) (F578659 : Nat → va_E) (q578660 : Nat) (p578661 : Int32) : Option Value → va_W → Nat → Nat → Prop := fun r w dc ds => ∃ (F578888 : Nat → va_E) (o578887 : Int32), r = some (.int o578887) ∧ w = va_pl P578658 F578888 ∧ RS D I P578658 F578888 γ el ∧ rStr γ [] F578659 F578888 ∧ dc ≤ 0 ∧ ds ≤ 0 ∧ (fI (F578888 q578660) 9).toInt = (fI (F578659 q578660) 9).toInt ∧ (fI (F578888 q578660) 10).toInt = (fI (F578659 q578660) 10).toInt ∧ (fI (F578888 q578660) 32).toInt = (fI (F578659 q578660) 32).toInt
set_option maxRecDepth 100000 in
set_option maxHeartbeats 4000000 in
theorem ct_578662_SpillForgeModel_told (l : Launch) (hl0 : l.stackTraces = false) (D : va_G) (I : FieldType → ClassId) (γ el : Nat → Nat → Nat) (P578658 : List Nat) (F578659 : Nat → va_E) (q578660 : Nat) (p578661 : Int32) (hT : RS D I P578658 F578659 γ el) (htq578660 : rKd γ q578660 10) : CtA (gV D I) l yX17_told cX17_told 2 (some FieldType.int) 1 21 0 0 [.ref q578660, .int p578661] (va_pl P578658 F578659) (pt_578662_SpillForgeModel_told D I γ el P578658 F578659 q578660 p578661) gNA := by
  refine CtA_of hl0 (by decide) (Nat.le_of_ble_eq_true rfl) ?_
  have bp578661 := gB_any p578661
  have hm578663 : q578660 ∈ P578658 := RS_m hT htq578660 (by decide)
  refine rk10_e (show rk_10 γ (F578659 q578660) from RS_o hT htq578660) (fun q578665 q578666 p578667 p578668 p578669 p578670 p578671 p578672 p578673 p578674 p578675 p578676 p578677 p578678 p578679 p578680 p578681 he578664 hB578708 ht578682 ht578683 ht578684 ht578685 ht578686 ht578687 ht578688 ht578689 ht578690 ht578691 ht578692 ht578693 ht578694 ht578695 ht578696 ht578697 ht578698 ht578699 ht578700 ht578701 ht578702 ht578703 ht578704 ht578705 hB578709 => ?_)
  have ac578710 : (fI (F578659 q578660) 9).toInt = p578667.toInt := by rw [he578664]; rfl
  have bp578667 : gB p578667 0 1 := (hB578708.1)
  have ac578711 : (fI (F578659 q578660) 10).toInt = p578668.toInt := by rw [he578664]; rfl
  have bp578668 : gB p578668 0 1 := (hB578708.2.1)
  have ac578712 : (fI (F578659 q578660) 32).toInt = p578679.toInt := by rw [he578664]; rfl
  have bp578679 : gB p578679 0 8192 := (hB578708.2.2.2.2.2.2.2.1)
  refine G_aload_n 0 dr_cX17_told_0 rfl ?_
  refine G_iconst 0 dr_cX17_told_1 (by decide +kernel) ?_
  refine Gp_put 30 hm578663 he578664 dr_cX17_told_2 (gk_X17 D I) (Nat.le_of_ble_eq_true rfl) wr_7_104 rfl rfl rfl (Nat.le_of_ble_eq_true rfl) (fun F578713 e578714 n578715 => ?_)
  have he578716 : F578713 q578660 = .inr (22, [.ref (γ 9 0), .ref (γ 9 1), .ref (γ 9 2), .ref (γ 9 3), .ref (γ 9 4), .ref (γ 9 5), .ref (γ 9 6), .ref (γ 9 7), .ref (γ 9 8), .int p578667, .int p578668, .int p578669, .int p578670, .int p578671, .int p578672, .ref (γ 9 15), .ref (γ 9 16), .ref (γ 9 17), .ref (γ 9 18), .ref (γ 9 19), .ref (γ 9 20), .ref (γ 9 21), .ref (γ 9 22), .int p578673, .int p578674, .int p578675, .int p578676, .int p578677, .ref q578665, .ref (γ 9 29), .int 0, .ref (γ 9 31), .int p578679, .int p578680, .int p578681, .ref q578666]) := e578714
  have hs578717 : rStr γ [] F578659 F578713 := rStr_put (rStr_rf (γ := γ) (W := []) (F := F578659)) n578715 htq578660 (by decide)
  refine G_iload_n 1 dr_cX17_told_5 rfl ?_
  by_cases hs578718 : p578661 = 0
  · have ehs578718 : p578661.toInt = 0 := gj_eq hs578718 (show Int32.toInt 0 = 0 by decide)
    have bp578661' : gB p578661 0 0 := ⟨by omega, by omega⟩
    refine G_eqi (y := 0) hs578718 ?_
    refine G_tableIn 40 dr_cX17_told_6 (by decide) (by decide) (by first | rfl | decide) (by decide) ?_
    refine G_aload_n 0 dr_cX17_told_40 rfl ?_
    refine Gp_get 23 hm578663 he578716 dr_cX17_told_41 (gk_X17 D I) (Nat.le_of_ble_eq_true rfl) wr_7_97 rfl ?_
    have bp578673 : gB p578673 (-2147483648) 2147483647 := (gB_any p578673)
    refine G_if_ne 54 dr_cX17_told_44 (by decide +kernel) (fun hc578719 => ?_) (fun hc578719 => ?_)
    · have r578720 : p578673.toInt ≠ 0 := gj_neq hc578719 (show Int32.toInt 0 = 0 by decide)
      refine G_iconst 0 dr_cX17_told_54 (by decide +kernel) ?_
      have hT578721 : RS D I P578658 F578713 γ el := RS_set hT n578715 htq578660 (by decide) ⟨q578665, q578666, p578667, p578668, p578669, p578670, p578671, p578672, p578673, p578674, p578675, p578676, p578677, 0, p578679, p578680, p578681, he578716, ⟨bp578667, bp578668, (hB578708.2.2.1), (hB578708.2.2.2.1), (hB578708.2.2.2.2.1), (hB578708.2.2.2.2.2.1), (hB578708.2.2.2.2.2.2.1), bp578679, (hB578708.2.2.2.2.2.2.2.2)⟩, ht578682, ht578683, ht578684, ht578685, ht578686, ht578687, ht578688, ht578689, ht578690, ht578691, ht578692, ht578693, ht578694, ht578695, ht578696, ht578697, ht578698, ht578699, ht578700, ht578701, ht578702, ht578703, ht578704, ht578705, hB578709⟩
      have ac578722 : (fI (F578713 q578660) 9).toInt = p578667.toInt := by rw [he578716]; rfl
      have ac578723 : (fI (F578713 q578660) 10).toInt = p578668.toInt := by rw [he578716]; rfl
      have ac578724 : (fI (F578713 q578660) 32).toInt = p578679.toInt := by rw [he578716]; rfl
      exact G_iretA dr_cX17_told_55 rfl (Nat.le_of_ble_eq_true rfl) (Nat.le_of_ble_eq_true rfl) ⟨F578713, 0, rfl, rfl, hT578721, hs578717, (Nat.le_of_ble_eq_true rfl), (Nat.le_of_ble_eq_true rfl), (by have qa0 : Int32.toInt 0 = 0 := (by decide); omega), (by have qa0 : Int32.toInt 0 = 0 := (by decide); omega), (by have qa0 : Int32.toInt 0 = 0 := (by decide); omega)⟩
    · have r578725 : p578673.toInt = 0 := gj_eq hc578719 (show Int32.toInt 0 = 0 by decide)
      have bp578673' : gB p578673 0 0 := ⟨by omega, by omega⟩
      refine G_aload_n 0 dr_cX17_told_47 rfl ?_
      refine Gp_get 24 hm578663 he578716 dr_cX17_told_48 (gk_X17 D I) (Nat.le_of_ble_eq_true rfl) wr_7_98 rfl ?_
      have bp578674 : gB p578674 (-2147483648) 2147483647 := (gB_any p578674)
      refine G_goto 55 dr_cX17_told_51 (by decide +kernel) ?_
      have hT578726 : RS D I P578658 F578713 γ el := RS_set hT n578715 htq578660 (by decide) ⟨q578665, q578666, p578667, p578668, p578669, p578670, p578671, p578672, p578673, p578674, p578675, p578676, p578677, 0, p578679, p578680, p578681, he578716, ⟨bp578667, bp578668, (hB578708.2.2.1), (hB578708.2.2.2.1), (hB578708.2.2.2.2.1), (hB578708.2.2.2.2.2.1), (hB578708.2.2.2.2.2.2.1), bp578679, (hB578708.2.2.2.2.2.2.2.2)⟩, ht578682, ht578683, ht578684, ht578685, ht578686, ht578687, ht578688, ht578689, ht578690, ht578691, ht578692, ht578693, ht578694, ht578695, ht578696, ht578697, ht578698, ht578699, ht578700, ht578701, ht578702, ht578703, ht578704, ht578705, hB578709⟩
      have ac578727 : (fI (F578713 q578660) 9).toInt = p578667.toInt := by rw [he578716]; rfl
      have ac578728 : (fI (F578713 q578660) 10).toInt = p578668.toInt := by rw [he578716]; rfl
      have ac578729 : (fI (F578713 q578660) 32).toInt = p578679.toInt := by rw [he578716]; rfl
      exact G_iretA dr_cX17_told_55 rfl (Nat.le_of_ble_eq_true rfl) (Nat.le_of_ble_eq_true rfl) ⟨F578713, p578674, rfl, rfl, hT578726, hs578717, (Nat.le_of_ble_eq_true rfl), (Nat.le_of_ble_eq_true rfl), (by omega), (by omega), (by omega)⟩
  by_cases hs578730 : p578661 = 1
  · have ehs578730 : p578661.toInt = 1 := gj_eq hs578730 (show Int32.toInt 1 = 1 by decide)
    have bp578661' : gB p578661 1 1 := ⟨by omega, by omega⟩
    refine G_eqi (y := 1) hs578730 ?_
    refine G_tableIn 56 dr_cX17_told_6 (by decide) (by decide) (by first | rfl | decide) (by decide) ?_
    refine G_aload_n 0 dr_cX17_told_56 rfl ?_
    refine Gp_get 25 hm578663 he578716 dr_cX17_told_57 (gk_X17 D I) (Nat.le_of_ble_eq_true rfl) wr_7_99 rfl ?_
    have bp578675 : gB p578675 0 512 := (hB578708.2.2.2.2.1)
    have hT578731 : RS D I P578658 F578713 γ el := RS_set hT n578715 htq578660 (by decide) ⟨q578665, q578666, p578667, p578668, p578669, p578670, p578671, p578672, p578673, p578674, p578675, p578676, p578677, 0, p578679, p578680, p578681, he578716, ⟨bp578667, bp578668, (hB578708.2.2.1), (hB578708.2.2.2.1), bp578675, (hB578708.2.2.2.2.2.1), (hB578708.2.2.2.2.2.2.1), bp578679, (hB578708.2.2.2.2.2.2.2.2)⟩, ht578682, ht578683, ht578684, ht578685, ht578686, ht578687, ht578688, ht578689, ht578690, ht578691, ht578692, ht578693, ht578694, ht578695, ht578696, ht578697, ht578698, ht578699, ht578700, ht578701, ht578702, ht578703, ht578704, ht578705, hB578709⟩
    have ac578732 : (fI (F578713 q578660) 9).toInt = p578667.toInt := by rw [he578716]; rfl
    have ac578733 : (fI (F578713 q578660) 10).toInt = p578668.toInt := by rw [he578716]; rfl
    have ac578734 : (fI (F578713 q578660) 32).toInt = p578679.toInt := by rw [he578716]; rfl
    exact G_iretA dr_cX17_told_60 rfl (Nat.le_of_ble_eq_true rfl) (Nat.le_of_ble_eq_true rfl) ⟨F578713, p578675, rfl, rfl, hT578731, hs578717, (Nat.le_of_ble_eq_true rfl), (Nat.le_of_ble_eq_true rfl), (by omega), (by omega), (by omega)⟩
  by_cases hs578735 : p578661 = 2
  · have ehs578735 : p578661.toInt = 2 := gj_eq hs578735 (show Int32.toInt 2 = 2 by decide)
    have bp578661' : gB p578661 2 2 := ⟨by omega, by omega⟩
    refine G_eqi (y := 2) hs578735 ?_
    refine G_tableIn 61 dr_cX17_told_6 (by decide) (by decide) (by first | rfl | decide) (by decide) ?_
    refine G_aload_n 0 dr_cX17_told_61 rfl ?_
    refine Gp_get 26 hm578663 he578716 dr_cX17_told_62 (gk_X17 D I) (Nat.le_of_ble_eq_true rfl) wr_7_100 rfl ?_
    have bp578676 : gB p578676 0 100000 := (hB578708.2.2.2.2.2.1)
    have hT578736 : RS D I P578658 F578713 γ el := RS_set hT n578715 htq578660 (by decide) ⟨q578665, q578666, p578667, p578668, p578669, p578670, p578671, p578672, p578673, p578674, p578675, p578676, p578677, 0, p578679, p578680, p578681, he578716, ⟨bp578667, bp578668, (hB578708.2.2.1), (hB578708.2.2.2.1), (hB578708.2.2.2.2.1), bp578676, (hB578708.2.2.2.2.2.2.1), bp578679, (hB578708.2.2.2.2.2.2.2.2)⟩, ht578682, ht578683, ht578684, ht578685, ht578686, ht578687, ht578688, ht578689, ht578690, ht578691, ht578692, ht578693, ht578694, ht578695, ht578696, ht578697, ht578698, ht578699, ht578700, ht578701, ht578702, ht578703, ht578704, ht578705, hB578709⟩
    have ac578737 : (fI (F578713 q578660) 9).toInt = p578667.toInt := by rw [he578716]; rfl
    have ac578738 : (fI (F578713 q578660) 10).toInt = p578668.toInt := by rw [he578716]; rfl
    have ac578739 : (fI (F578713 q578660) 32).toInt = p578679.toInt := by rw [he578716]; rfl
    exact G_iretA dr_cX17_told_65 rfl (Nat.le_of_ble_eq_true rfl) (Nat.le_of_ble_eq_true rfl) ⟨F578713, p578676, rfl, rfl, hT578736, hs578717, (Nat.le_of_ble_eq_true rfl), (Nat.le_of_ble_eq_true rfl), (by omega), (by omega), (by omega)⟩
  by_cases hs578740 : p578661 = 3
  · have ehs578740 : p578661.toInt = 3 := gj_eq hs578740 (show Int32.toInt 3 = 3 by decide)
    have bp578661' : gB p578661 3 3 := ⟨by omega, by omega⟩
    refine G_eqi (y := 3) hs578740 ?_
    refine G_tableIn 66 dr_cX17_told_6 (by decide) (by decide) (by first | rfl | decide) (by decide) ?_
    refine G_aload_n 0 dr_cX17_told_66 rfl ?_
    refine Gp_get 27 hm578663 he578716 dr_cX17_told_67 (gk_X17 D I) (Nat.le_of_ble_eq_true rfl) wr_7_101 rfl ?_
    have bp578677 : gB p578677 0 2048 := (hB578708.2.2.2.2.2.2.1)
    have hT578741 : RS D I P578658 F578713 γ el := RS_set hT n578715 htq578660 (by decide) ⟨q578665, q578666, p578667, p578668, p578669, p578670, p578671, p578672, p578673, p578674, p578675, p578676, p578677, 0, p578679, p578680, p578681, he578716, ⟨bp578667, bp578668, (hB578708.2.2.1), (hB578708.2.2.2.1), (hB578708.2.2.2.2.1), (hB578708.2.2.2.2.2.1), bp578677, bp578679, (hB578708.2.2.2.2.2.2.2.2)⟩, ht578682, ht578683, ht578684, ht578685, ht578686, ht578687, ht578688, ht578689, ht578690, ht578691, ht578692, ht578693, ht578694, ht578695, ht578696, ht578697, ht578698, ht578699, ht578700, ht578701, ht578702, ht578703, ht578704, ht578705, hB578709⟩
    have ac578742 : (fI (F578713 q578660) 9).toInt = p578667.toInt := by rw [he578716]; rfl
    have ac578743 : (fI (F578713 q578660) 10).toInt = p578668.toInt := by rw [he578716]; rfl
    have ac578744 : (fI (F578713 q578660) 32).toInt = p578679.toInt := by rw [he578716]; rfl
    exact G_iretA dr_cX17_told_70 rfl (Nat.le_of_ble_eq_true rfl) (Nat.le_of_ble_eq_true rfl) ⟨F578713, p578677, rfl, rfl, hT578741, hs578717, (Nat.le_of_ble_eq_true rfl), (Nat.le_of_ble_eq_true rfl), (by omega), (by omega), (by omega)⟩
  by_cases hs578745 : p578661 = 4
  · have ehs578745 : p578661.toInt = 4 := gj_eq hs578745 (show Int32.toInt 4 = 4 by decide)
    have bp578661' : gB p578661 4 4 := ⟨by omega, by omega⟩
    refine G_eqi (y := 4) hs578745 ?_
    refine G_tableIn 71 dr_cX17_told_6 (by decide) (by decide) (by first | rfl | decide) (by decide) ?_
    refine G_aload_n 0 dr_cX17_told_71 rfl ?_
    refine Gp_get 23 hm578663 he578716 dr_cX17_told_72 (gk_X17 D I) (Nat.le_of_ble_eq_true rfl) wr_7_97 rfl ?_
    have bp578673 : gB p578673 (-2147483648) 2147483647 := (gB_any p578673)
    have hT578746 : RS D I P578658 F578713 γ el := RS_set hT n578715 htq578660 (by decide) ⟨q578665, q578666, p578667, p578668, p578669, p578670, p578671, p578672, p578673, p578674, p578675, p578676, p578677, 0, p578679, p578680, p578681, he578716, ⟨bp578667, bp578668, (hB578708.2.2.1), (hB578708.2.2.2.1), (hB578708.2.2.2.2.1), (hB578708.2.2.2.2.2.1), (hB578708.2.2.2.2.2.2.1), bp578679, (hB578708.2.2.2.2.2.2.2.2)⟩, ht578682, ht578683, ht578684, ht578685, ht578686, ht578687, ht578688, ht578689, ht578690, ht578691, ht578692, ht578693, ht578694, ht578695, ht578696, ht578697, ht578698, ht578699, ht578700, ht578701, ht578702, ht578703, ht578704, ht578705, hB578709⟩
    have ac578747 : (fI (F578713 q578660) 9).toInt = p578667.toInt := by rw [he578716]; rfl
    have ac578748 : (fI (F578713 q578660) 10).toInt = p578668.toInt := by rw [he578716]; rfl
    have ac578749 : (fI (F578713 q578660) 32).toInt = p578679.toInt := by rw [he578716]; rfl
    exact G_iretA dr_cX17_told_75 rfl (Nat.le_of_ble_eq_true rfl) (Nat.le_of_ble_eq_true rfl) ⟨F578713, p578673, rfl, rfl, hT578746, hs578717, (Nat.le_of_ble_eq_true rfl), (Nat.le_of_ble_eq_true rfl), (by omega), (by omega), (by omega)⟩
  have ehs578718 := lv_neT hs578718 (show Int32.toInt 0 = 0 by decide)
  have ehs578730 := lv_neT hs578730 (show Int32.toInt 1 = 1 by decide)
  have ehs578735 := lv_neT hs578735 (show Int32.toInt 2 = 2 by decide)
  have ehs578740 := lv_neT hs578740 (show Int32.toInt 3 = 3 by decide)
  have ehs578745 := lv_neT hs578745 (show Int32.toInt 4 = 4 by decide)
  refine G_tableOut 76 dr_cX17_told_6 (by omega) (by decide) ?_
  refine G_aload_n 0 dr_cX17_told_76 rfl ?_
  refine G_iconst 1 dr_cX17_told_77 (by decide +kernel) ?_
  have hT578750 : RS D I P578658 F578713 γ el := RS_set hT n578715 htq578660 (by decide) ⟨q578665, q578666, p578667, p578668, p578669, p578670, p578671, p578672, p578673, p578674, p578675, p578676, p578677, 0, p578679, p578680, p578681, he578716, ⟨bp578667, bp578668, (hB578708.2.2.1), (hB578708.2.2.2.1), (hB578708.2.2.2.2.1), (hB578708.2.2.2.2.2.1), (hB578708.2.2.2.2.2.2.1), bp578679, (hB578708.2.2.2.2.2.2.2.2)⟩, ht578682, ht578683, ht578684, ht578685, ht578686, ht578687, ht578688, ht578689, ht578690, ht578691, ht578692, ht578693, ht578694, ht578695, ht578696, ht578697, ht578698, ht578699, ht578700, ht578701, ht578702, ht578703, ht578704, ht578705, hB578709⟩
  have ac578818 : (fI (F578713 q578660) 9).toInt = p578667.toInt := by rw [he578716]; rfl
  have ac578819 : (fI (F578713 q578660) 10).toInt = p578668.toInt := by rw [he578716]; rfl
  have ac578820 : (fI (F578713 q578660) 32).toInt = p578679.toInt := by rw [he578716]; rfl
  refine Gw_callV (As := [.int 1]) (gV_ok D I) (ct_578755_SpillForgeModel_no l hl0 D I γ el P578658 F578713 q578660 1 hT578750 htq578660) dr_cX17_told_78 ⟨wr_7_191, wr_1_14, wr_7_194, by decide, rfl, (Nat.le_of_ble_eq_true rfl), (Nat.le_of_ble_eq_true rfl)⟩ wr_7_193 wr_p_73 hm578663 he578716 rfl (show 0 + 0 ≤ 0 by first | omega | decide) (show 0 + 0 ≤ 0 by first | omega | decide) (Nat.le_of_ble_eq_true rfl) (fun r578824 w578825 dc578821 ds578822 hp578823 => ?_) (fun _ _ _ _ _ z => z.elim)
  obtain ⟨F578830, rfl, rfl, hT578831, hs578832, hdc, hds, x578826, x578827, x578828, x578829⟩ := hp578823
  have hs578833 : rStr γ [] F578659 F578830 := rStr_tr hs578717 hs578832
  rw [show Int32.toInt 1 = 1 from by decide] at x578829
  change G _ _ _ _ _ _ _ (.int 0 :: _) _ _ _
  refine G_widen (cs' := 0) (sl' := 0) (by omega) (by omega) ?_
  have hm578834 : q578660 ∈ P578658 := RS_m hT578831 htq578660 (by decide)
  refine rk10_e (show rk_10 γ (F578830 q578660) from RS_o hT578831 htq578660) (fun q578836 q578837 p578838 p578839 p578840 p578841 p578842 p578843 p578844 p578845 p578846 p578847 p578848 p578849 p578850 p578851 p578852 he578835 hB578879 ht578853 ht578854 ht578855 ht578856 ht578857 ht578858 ht578859 ht578860 ht578861 ht578862 ht578863 ht578864 ht578865 ht578866 ht578867 ht578868 ht578869 ht578870 ht578871 ht578872 ht578873 ht578874 ht578875 ht578876 hB578880 => ?_)
  have ac578881 : (fI (F578830 q578660) 9).toInt = p578838.toInt := by rw [he578835]; rfl
  have bp578838 : gB p578838 0 1 := (hB578879.1)
  have ac578882 : (fI (F578830 q578660) 10).toInt = p578839.toInt := by rw [he578835]; rfl
  have bp578839 : gB p578839 0 1 := (hB578879.2.1)
  have ac578883 : (fI (F578830 q578660) 32).toInt = p578850.toInt := by rw [he578835]; rfl
  have bp578850 : gB p578850 0 8192 := (hB578879.2.2.2.2.2.2.2.1)
  have ac578884 : (fI (F578830 q578660) 9).toInt = p578838.toInt := by rw [he578835]; rfl
  have ac578885 : (fI (F578830 q578660) 10).toInt = p578839.toInt := by rw [he578835]; rfl
  have ac578886 : (fI (F578830 q578660) 32).toInt = p578850.toInt := by rw [he578835]; rfl
  exact G_iretA dr_cX17_told_81 rfl (Nat.le_of_ble_eq_true rfl) (Nat.le_of_ble_eq_true rfl) ⟨F578830, 0, rfl, rfl, hT578831, hs578833, (Nat.le_of_ble_eq_true rfl), (Nat.le_of_ble_eq_true rfl), (by have qa0 : Int32.toInt 0 = 0 := (by decide); omega), (by have qa0 : Int32.toInt 0 = 0 := (by decide); omega), (by have qa0 : Int32.toInt 0 = 0 := (by decide); omega)⟩
abbrev ky_578893_SpillForgeModel_shown : gKey := (cX17_shown, 2, "SpillForgeModel", (some FieldType.int), [], "shown", fun _ _ => True)
def pt_578893_SpillForgeModel_shown (D : va_G) (I : FieldType → ClassId) (γ el : Nat → Nat → Nat) (P578889 : List Nat) (F578890 : Nat → va_E) (q578891 : Nat) (p578892 : Int32) : Option Value → va_W → Nat → Nat → Prop := fun r w dc ds => ∃ (F579104 : Nat → va_E) (o579103 : Int32), r = some (.int o579103) ∧ w = va_pl P578889 F579104 ∧ RS D I P578889 F579104 γ el ∧ rStr γ [] F578890 F579104 ∧ dc ≤ 0 ∧ ds ≤ 0 ∧ (fI (F579104 q578891) 9).toInt = (fI (F578890 q578891) 9).toInt ∧ (fI (F579104 q578891) 10).toInt = (fI (F578890 q578891) 10).toInt ∧ (fI (F579104 q578891) 32).toInt = (fI (F578890 q578891) 32).toInt
set_option maxRecDepth 100000 in
set_option maxHeartbeats 4000000 in
theorem ct_578893_SpillForgeModel_shown (l : Launch) (hl0 : l.stackTraces = false) (D : va_G) (I : FieldType → ClassId) (γ el : Nat → Nat → Nat) (P578889 : List Nat) (F578890 : Nat → va_E) (q578891 : Nat) (p578892 : Int32) (hT : RS D I P578889 F578890 γ el) (htq578891 : rKd γ q578891 10) : CtA (gV D I) l yX17_shown cX17_shown 2 (some FieldType.int) 1 21 0 0 [.ref q578891, .int p578892] (va_pl P578889 F578890) (pt_578893_SpillForgeModel_shown D I γ el P578889 F578890 q578891 p578892) gNA := by
  refine CtA_of hl0 (by decide) (Nat.le_of_ble_eq_true rfl) ?_
  have bp578892 := gB_any p578892
  have hm578894 : q578891 ∈ P578889 := RS_m hT htq578891 (by decide)
  refine rk10_e (show rk_10 γ (F578890 q578891) from RS_o hT htq578891) (fun q578896 q578897 p578898 p578899 p578900 p578901 p578902 p578903 p578904 p578905 p578906 p578907 p578908 p578909 p578910 p578911 p578912 he578895 hB578939 ht578913 ht578914 ht578915 ht578916 ht578917 ht578918 ht578919 ht578920 ht578921 ht578922 ht578923 ht578924 ht578925 ht578926 ht578927 ht578928 ht578929 ht578930 ht578931 ht578932 ht578933 ht578934 ht578935 ht578936 hB578940 => ?_)
  have ac578941 : (fI (F578890 q578891) 9).toInt = p578898.toInt := by rw [he578895]; rfl
  have bp578898 : gB p578898 0 1 := (hB578939.1)
  have ac578942 : (fI (F578890 q578891) 10).toInt = p578899.toInt := by rw [he578895]; rfl
  have bp578899 : gB p578899 0 1 := (hB578939.2.1)
  have ac578943 : (fI (F578890 q578891) 32).toInt = p578910.toInt := by rw [he578895]; rfl
  have bp578910 : gB p578910 0 8192 := (hB578939.2.2.2.2.2.2.2.1)
  refine G_aload_n 0 dr_cX17_shown_0 rfl ?_
  refine G_iconst 0 dr_cX17_shown_1 (by decide +kernel) ?_
  refine Gp_put 30 hm578894 he578895 dr_cX17_shown_2 (gk_X17 D I) (Nat.le_of_ble_eq_true rfl) wr_7_104 rfl rfl rfl (Nat.le_of_ble_eq_true rfl) (fun F578944 e578945 n578946 => ?_)
  have he578947 : F578944 q578891 = .inr (22, [.ref (γ 9 0), .ref (γ 9 1), .ref (γ 9 2), .ref (γ 9 3), .ref (γ 9 4), .ref (γ 9 5), .ref (γ 9 6), .ref (γ 9 7), .ref (γ 9 8), .int p578898, .int p578899, .int p578900, .int p578901, .int p578902, .int p578903, .ref (γ 9 15), .ref (γ 9 16), .ref (γ 9 17), .ref (γ 9 18), .ref (γ 9 19), .ref (γ 9 20), .ref (γ 9 21), .ref (γ 9 22), .int p578904, .int p578905, .int p578906, .int p578907, .int p578908, .ref q578896, .ref (γ 9 29), .int 0, .ref (γ 9 31), .int p578910, .int p578911, .int p578912, .ref q578897]) := e578945
  have hs578948 : rStr γ [] F578890 F578944 := rStr_put (rStr_rf (γ := γ) (W := []) (F := F578890)) n578946 htq578891 (by decide)
  refine G_iload_n 1 dr_cX17_shown_5 rfl ?_
  refine G_if_lt 26 dr_cX17_shown_6 (by decide +kernel) (fun hc578949 => ?_) (fun hc578949 => ?_)
  · have r578950 : p578892.toInt < 0 := gj_lt hc578949 (show Int32.toInt 0 = 0 by decide)
    have bp578892' : gB p578892 (-2147483648) (-1) := ⟨by omega, by omega⟩
    refine G_aload_n 0 dr_cX17_shown_26 rfl ?_
    refine G_iconst 1 dr_cX17_shown_27 (by decide +kernel) ?_
    have hT578951 : RS D I P578889 F578944 γ el := RS_set hT n578946 htq578891 (by decide) ⟨q578896, q578897, p578898, p578899, p578900, p578901, p578902, p578903, p578904, p578905, p578906, p578907, p578908, 0, p578910, p578911, p578912, he578947, ⟨bp578898, bp578899, (hB578939.2.2.1), (hB578939.2.2.2.1), (hB578939.2.2.2.2.1), (hB578939.2.2.2.2.2.1), (hB578939.2.2.2.2.2.2.1), bp578910, (hB578939.2.2.2.2.2.2.2.2)⟩, ht578913, ht578914, ht578915, ht578916, ht578917, ht578918, ht578919, ht578920, ht578921, ht578922, ht578923, ht578924, ht578925, ht578926, ht578927, ht578928, ht578929, ht578930, ht578931, ht578932, ht578933, ht578934, ht578935, ht578936, hB578940⟩
    have ac578952 : (fI (F578944 q578891) 9).toInt = p578898.toInt := by rw [he578947]; rfl
    have ac578953 : (fI (F578944 q578891) 10).toInt = p578899.toInt := by rw [he578947]; rfl
    have ac578954 : (fI (F578944 q578891) 32).toInt = p578910.toInt := by rw [he578947]; rfl
    refine Gw_callV (As := [.int 1]) (gV_ok D I) (ct_578755_SpillForgeModel_no l hl0 D I γ el P578889 F578944 q578891 1 hT578951 htq578891) dr_cX17_shown_28 ⟨wr_7_191, wr_1_14, wr_7_194, by decide, rfl, (Nat.le_of_ble_eq_true rfl), (Nat.le_of_ble_eq_true rfl)⟩ wr_7_193 wr_p_73 hm578894 he578947 rfl (show 0 + 0 ≤ 0 by first | omega | decide) (show 0 + 0 ≤ 0 by first | omega | decide) (Nat.le_of_ble_eq_true rfl) (fun r578958 w578959 dc578955 ds578956 hp578957 => ?_) (fun _ _ _ _ _ z => z.elim)
    obtain ⟨F578964, rfl, rfl, hT578965, hs578966, hdc, hds, x578960, x578961, x578962, x578963⟩ := hp578957
    have hs578967 : rStr γ [] F578890 F578964 := rStr_tr hs578948 hs578966
    rw [show Int32.toInt 1 = 1 from by decide] at x578963
    change G _ _ _ _ _ _ _ (.int 0 :: _) _ _ _
    refine G_widen (cs' := 0) (sl' := 0) (by omega) (by omega) ?_
    have hm578968 : q578891 ∈ P578889 := RS_m hT578965 htq578891 (by decide)
    refine rk10_e (show rk_10 γ (F578964 q578891) from RS_o hT578965 htq578891) (fun q578970 q578971 p578972 p578973 p578974 p578975 p578976 p578977 p578978 p578979 p578980 p578981 p578982 p578983 p578984 p578985 p578986 he578969 hB579013 ht578987 ht578988 ht578989 ht578990 ht578991 ht578992 ht578993 ht578994 ht578995 ht578996 ht578997 ht578998 ht578999 ht579000 ht579001 ht579002 ht579003 ht579004 ht579005 ht579006 ht579007 ht579008 ht579009 ht579010 hB579014 => ?_)
    have ac579015 : (fI (F578964 q578891) 9).toInt = p578972.toInt := by rw [he578969]; rfl
    have bp578972 : gB p578972 0 1 := (hB579013.1)
    have ac579016 : (fI (F578964 q578891) 10).toInt = p578973.toInt := by rw [he578969]; rfl
    have bp578973 : gB p578973 0 1 := (hB579013.2.1)
    have ac579017 : (fI (F578964 q578891) 32).toInt = p578984.toInt := by rw [he578969]; rfl
    have bp578984 : gB p578984 0 8192 := (hB579013.2.2.2.2.2.2.2.1)
    have ac579018 : (fI (F578964 q578891) 9).toInt = p578972.toInt := by rw [he578969]; rfl
    have ac579019 : (fI (F578964 q578891) 10).toInt = p578973.toInt := by rw [he578969]; rfl
    have ac579020 : (fI (F578964 q578891) 32).toInt = p578984.toInt := by rw [he578969]; rfl
    exact G_iretA dr_cX17_shown_31 rfl (Nat.le_of_ble_eq_true rfl) (Nat.le_of_ble_eq_true rfl) ⟨F578964, 0, rfl, rfl, hT578965, hs578967, (Nat.le_of_ble_eq_true rfl), (Nat.le_of_ble_eq_true rfl), (by have qa0 : Int32.toInt 0 = 0 := (by decide); omega), (by have qa0 : Int32.toInt 0 = 0 := (by decide); omega), (by have qa0 : Int32.toInt 0 = 0 := (by decide); omega)⟩
  · have r579021 : 0 ≤ p578892.toInt := gj_nlt hc578949 (show Int32.toInt 0 = 0 by decide)
    have bp578892' : gB p578892 0 2147483647 := ⟨by omega, by omega⟩
    refine G_iload_n 1 dr_cX17_shown_9 rfl ?_
    refine G_aload_n 0 dr_cX17_shown_10 rfl ?_
    refine Gp_get 25 hm578894 he578947 dr_cX17_shown_11 (gk_X17 D I) (Nat.le_of_ble_eq_true rfl) wr_7_99 rfl ?_
    have bp578906 : gB p578906 0 512 := (hB578939.2.2.2.2.1)
    refine G_icmp_ge 26 dr_cX17_shown_14 (by decide +kernel) (fun hc579022 => ?_) (fun hc579022 => ?_)
    · have r579023 : p578906.toInt ≤ p578892.toInt := gC_le hc579022
      refine G_aload_n 0 dr_cX17_shown_26 rfl ?_
      refine G_iconst 1 dr_cX17_shown_27 (by decide +kernel) ?_
      have hT579024 : RS D I P578889 F578944 γ el := RS_set hT n578946 htq578891 (by decide) ⟨q578896, q578897, p578898, p578899, p578900, p578901, p578902, p578903, p578904, p578905, p578906, p578907, p578908, 0, p578910, p578911, p578912, he578947, ⟨bp578898, bp578899, (hB578939.2.2.1), (hB578939.2.2.2.1), bp578906, (hB578939.2.2.2.2.2.1), (hB578939.2.2.2.2.2.2.1), bp578910, (hB578939.2.2.2.2.2.2.2.2)⟩, ht578913, ht578914, ht578915, ht578916, ht578917, ht578918, ht578919, ht578920, ht578921, ht578922, ht578923, ht578924, ht578925, ht578926, ht578927, ht578928, ht578929, ht578930, ht578931, ht578932, ht578933, ht578934, ht578935, ht578936, hB578940⟩
      have ac579025 : (fI (F578944 q578891) 9).toInt = p578898.toInt := by rw [he578947]; rfl
      have ac579026 : (fI (F578944 q578891) 10).toInt = p578899.toInt := by rw [he578947]; rfl
      have ac579027 : (fI (F578944 q578891) 32).toInt = p578910.toInt := by rw [he578947]; rfl
      refine Gw_callV (As := [.int 1]) (gV_ok D I) (ct_578755_SpillForgeModel_no l hl0 D I γ el P578889 F578944 q578891 1 hT579024 htq578891) dr_cX17_shown_28 ⟨wr_7_191, wr_1_14, wr_7_194, by decide, rfl, (Nat.le_of_ble_eq_true rfl), (Nat.le_of_ble_eq_true rfl)⟩ wr_7_193 wr_p_73 hm578894 he578947 rfl (show 0 + 0 ≤ 0 by first | omega | decide) (show 0 + 0 ≤ 0 by first | omega | decide) (Nat.le_of_ble_eq_true rfl) (fun r579031 w579032 dc579028 ds579029 hp579030 => ?_) (fun _ _ _ _ _ z => z.elim)
      obtain ⟨F579037, rfl, rfl, hT579038, hs579039, hdc, hds, x579033, x579034, x579035, x579036⟩ := hp579030
      have hs579040 : rStr γ [] F578890 F579037 := rStr_tr hs578948 hs579039
      rw [show Int32.toInt 1 = 1 from by decide] at x579036
      change G _ _ _ _ _ _ _ (.int 0 :: _) _ _ _
      refine G_widen (cs' := 0) (sl' := 0) (by omega) (by omega) ?_
      have hm579041 : q578891 ∈ P578889 := RS_m hT579038 htq578891 (by decide)
      refine rk10_e (show rk_10 γ (F579037 q578891) from RS_o hT579038 htq578891) (fun q579043 q579044 p579045 p579046 p579047 p579048 p579049 p579050 p579051 p579052 p579053 p579054 p579055 p579056 p579057 p579058 p579059 he579042 hB579086 ht579060 ht579061 ht579062 ht579063 ht579064 ht579065 ht579066 ht579067 ht579068 ht579069 ht579070 ht579071 ht579072 ht579073 ht579074 ht579075 ht579076 ht579077 ht579078 ht579079 ht579080 ht579081 ht579082 ht579083 hB579087 => ?_)
      have ac579088 : (fI (F579037 q578891) 9).toInt = p579045.toInt := by rw [he579042]; rfl
      have bp579045 : gB p579045 0 1 := (hB579086.1)
      have ac579089 : (fI (F579037 q578891) 10).toInt = p579046.toInt := by rw [he579042]; rfl
      have bp579046 : gB p579046 0 1 := (hB579086.2.1)
      have ac579090 : (fI (F579037 q578891) 32).toInt = p579057.toInt := by rw [he579042]; rfl
      have bp579057 : gB p579057 0 8192 := (hB579086.2.2.2.2.2.2.2.1)
      have ac579091 : (fI (F579037 q578891) 9).toInt = p579045.toInt := by rw [he579042]; rfl
      have ac579092 : (fI (F579037 q578891) 10).toInt = p579046.toInt := by rw [he579042]; rfl
      have ac579093 : (fI (F579037 q578891) 32).toInt = p579057.toInt := by rw [he579042]; rfl
      exact G_iretA dr_cX17_shown_31 rfl (Nat.le_of_ble_eq_true rfl) (Nat.le_of_ble_eq_true rfl) ⟨F579037, 0, rfl, rfl, hT579038, hs579040, (Nat.le_of_ble_eq_true rfl), (Nat.le_of_ble_eq_true rfl), (by have qa0 : Int32.toInt 0 = 0 := (by decide); omega), (by have qa0 : Int32.toInt 0 = 0 := (by decide); omega), (by have qa0 : Int32.toInt 0 = 0 := (by decide); omega)⟩
    · have r579094 : p578892.toInt < p578906.toInt := gC_nle hc579022
      have bp578892'' : gB p578892 0 511 := ⟨by omega, by omega⟩
      have bp578906' : gB p578906 1 512 := ⟨by omega, by omega⟩
      refine G_aload_n 0 dr_cX17_shown_17 rfl ?_
      refine Gp_get 22 hm578894 he578947 dr_cX17_shown_18 (gk_X17 D I) (Nat.le_of_ble_eq_true rfl) wr_7_96 rfl ?_
      refine G_iload_n 1 dr_cX17_shown_21 rfl ?_
      have hT579095 : RS D I P578889 F578944 γ el := RS_set hT n578946 htq578891 (by decide) ⟨q578896, q578897, p578898, p578899, p578900, p578901, p578902, p578903, p578904, p578905, p578906, p578907, p578908, 0, p578910, p578911, p578912, he578947, ⟨bp578898, bp578899, (hB578939.2.2.1), (hB578939.2.2.2.1), (gB_w bp578906' (by decide) (by decide)), (hB578939.2.2.2.2.2.1), (hB578939.2.2.2.2.2.2.1), bp578910, (hB578939.2.2.2.2.2.2.2.2)⟩, ht578913, ht578914, ht578915, ht578916, ht578917, ht578918, ht578919, ht578920, ht578921, ht578922, ht578923, ht578924, ht578925, ht578926, ht578927, ht578928, ht578929, ht578930, ht578931, ht578932, ht578933, ht578934, ht578935, ht578936, hB578940⟩
      have hm579096 : (γ 9 22) ∈ P578889 := RS_m hT579095 ht578931 (by decide)
      obtain ⟨f579098, he579097⟩ := show rk_24 I (F578944 (γ 9 22)) from RS_o hT579095 ht578931
      refine Gp_iald 0 hm579096 he579097 dr_cX17_shown_22 rfl (gB_in bp578892'' (by decide) (by decide)) (G_nam fun z579099 hz579099 => ?_)
      have bz579099 : gB z579099 (-2147483648) 2147483647 := gB_any z579099
      refine G_goto 31 dr_cX17_shown_23 (by decide +kernel) ?_
      have ac579100 : (fI (F578944 q578891) 9).toInt = p578898.toInt := by rw [he578947]; rfl
      have ac579101 : (fI (F578944 q578891) 10).toInt = p578899.toInt := by rw [he578947]; rfl
      have ac579102 : (fI (F578944 q578891) 32).toInt = p578910.toInt := by rw [he578947]; rfl
      exact G_iretA dr_cX17_shown_31 rfl (Nat.le_of_ble_eq_true rfl) (Nat.le_of_ble_eq_true rfl) ⟨F578944, z579099, rfl, rfl, hT579095, hs578948, (Nat.le_of_ble_eq_true rfl), (Nat.le_of_ble_eq_true rfl), (by omega), (by omega), (by omega)⟩
abbrev ky_579108_SpillForgeModel_thrown : gKey := (cX17_thrown, 1, "SpillForgeModel", (some FieldType.int), [], "thrown", fun _ _ => True)
def pt_579108_SpillForgeModel_thrown (D : va_G) (I : FieldType → ClassId) (γ el : Nat → Nat → Nat) (P579105 : List Nat) (F579106 : Nat → va_E) (q579107 : Nat) : Option Value → va_W → Nat → Nat → Prop := fun r w dc ds => ∃ (o579158 : Int32), r = some (.int o579158) ∧ w = va_pl P579105 F579106 ∧ dc ≤ 0 ∧ ds ≤ 0 ∧ o579158.toInt = (fI (F579106 q579107) 30).toInt
set_option maxRecDepth 100000 in
set_option maxHeartbeats 4000000 in
theorem ct_579108_SpillForgeModel_thrown (l : Launch) (hl0 : l.stackTraces = false) (D : va_G) (I : FieldType → ClassId) (γ el : Nat → Nat → Nat) (P579105 : List Nat) (F579106 : Nat → va_E) (q579107 : Nat) (hT : RS D I P579105 F579106 γ el) (htq579107 : rKd γ q579107 10) : CtA (gV D I) l yX17_thrown cX17_thrown 1 (some FieldType.int) 0 0 0 0 [.ref q579107] (va_pl P579105 F579106) (pt_579108_SpillForgeModel_thrown D I γ el P579105 F579106 q579107) gNA := by
  refine CtA_of hl0 (by decide) (Nat.le_of_ble_eq_true rfl) ?_
  have hm579109 : q579107 ∈ P579105 := RS_m hT htq579107 (by decide)
  refine rk10_e (show rk_10 γ (F579106 q579107) from RS_o hT htq579107) (fun q579111 q579112 p579113 p579114 p579115 p579116 p579117 p579118 p579119 p579120 p579121 p579122 p579123 p579124 p579125 p579126 p579127 he579110 hB579154 ht579128 ht579129 ht579130 ht579131 ht579132 ht579133 ht579134 ht579135 ht579136 ht579137 ht579138 ht579139 ht579140 ht579141 ht579142 ht579143 ht579144 ht579145 ht579146 ht579147 ht579148 ht579149 ht579150 ht579151 hB579155 => ?_)
  have ac579156 : (fI (F579106 q579107) 30).toInt = p579124.toInt := by rw [he579110]; rfl
  have bp579124 : gB p579124 (-2147483648) 2147483647 := (gB_any p579124)
  refine G_aload_n 0 dr_cX17_thrown_0 rfl ?_
  refine Gp_get 30 hm579109 he579110 dr_cX17_thrown_1 (gk_X17 D I) (Nat.le_of_ble_eq_true rfl) wr_7_104 rfl ?_
  have ac579157 : (fI (F579106 q579107) 30).toInt = p579124.toInt := by rw [he579110]; rfl
  exact G_iretA dr_cX17_thrown_4 rfl (Nat.le_of_ble_eq_true rfl) (Nat.le_of_ble_eq_true rfl) ⟨p579124, rfl, rfl, (Nat.le_of_ble_eq_true rfl), (Nat.le_of_ble_eq_true rfl), (by omega)⟩
abbrev ky_579234_SpillForgeModel_word : gKey := (cX17_word, 4, "SpillForgeModel", none, [], "word", fun _ _ => True)
def pt_579234_SpillForgeModel_word (D : va_G) (I : FieldType → ClassId) (γ el : Nat → Nat → Nat) (P579229 : List Nat) (F579230 : Nat → va_E) (q579231 : Nat) (p579232 : Int32) (p579233 : Int32) : Option Value → va_W → Nat → Nat → Prop := fun r w dc ds => ∃ (F579724 : Nat → va_E), r = none ∧ w = va_pl P579229 F579724 ∧ RS D I P579229 F579724 γ el ∧ rStr γ [] F579230 F579724 ∧ dc ≤ 0 ∧ ds ≤ 0 ∧ (fI (F579724 q579231) 9).toInt = (fI (F579230 q579231) 9).toInt ∧ (fI (F579724 q579231) 10).toInt = (fI (F579230 q579231) 10).toInt ∧ (fI (F579724 q579231) 32).toInt = (fI (F579230 q579231) 32).toInt ∧ (fI (F579724 q579231) 30).toInt = (fI (F579230 q579231) 30).toInt
set_option maxRecDepth 100000 in
set_option maxHeartbeats 4000000 in
theorem ct_579234_SpillForgeModel_word (l : Launch) (hl0 : l.stackTraces = false) (D : va_G) (I : FieldType → ClassId) (γ el : Nat → Nat → Nat) (P579229 : List Nat) (F579230 : Nat → va_E) (q579231 : Nat) (p579232 : Int32) (p579233 : Int32) (hT : RS D I P579229 F579230 γ el) (htq579231 : rKd γ q579231 10) (bp579233 : gB p579233 0 8188) : CtA (gV D I) l yX17_word cX17_word 4 none 0 0 0 0 [.ref q579231, .int p579232, .int p579233] (va_pl P579229 F579230) (pt_579234_SpillForgeModel_word D I γ el P579229 F579230 q579231 p579232 p579233) gNA := by
  refine CtA_of hl0 (by decide) (Nat.le_of_ble_eq_true rfl) ?_
  have bp579232 := gB_any p579232
  have hm579235 : q579231 ∈ P579229 := RS_m hT htq579231 (by decide)
  refine rk10_e (show rk_10 γ (F579230 q579231) from RS_o hT htq579231) (fun q579237 q579238 p579239 p579240 p579241 p579242 p579243 p579244 p579245 p579246 p579247 p579248 p579249 p579250 p579251 p579252 p579253 he579236 hB579280 ht579254 ht579255 ht579256 ht579257 ht579258 ht579259 ht579260 ht579261 ht579262 ht579263 ht579264 ht579265 ht579266 ht579267 ht579268 ht579269 ht579270 ht579271 ht579272 ht579273 ht579274 ht579275 ht579276 ht579277 hB579281 => ?_)
  have ac579282 : (fI (F579230 q579231) 9).toInt = p579239.toInt := by rw [he579236]; rfl
  have bp579239 : gB p579239 0 1 := (hB579280.1)
  have ac579283 : (fI (F579230 q579231) 10).toInt = p579240.toInt := by rw [he579236]; rfl
  have bp579240 : gB p579240 0 1 := (hB579280.2.1)
  have ac579284 : (fI (F579230 q579231) 32).toInt = p579251.toInt := by rw [he579236]; rfl
  have bp579251 : gB p579251 0 8192 := (hB579280.2.2.2.2.2.2.2.1)
  have ac579285 : (fI (F579230 q579231) 30).toInt = p579250.toInt := by rw [he579236]; rfl
  have bp579250 : gB p579250 (-2147483648) 2147483647 := (gB_any p579250)
  refine G_iconst 0 dr_cX17_word_0 (by decide +kernel) ?_
  refine G_istore_n (L' := [(3, .int 0), (0, .ref q579231), (1, .int p579232), (2, .int p579233)]) dr_cX17_word_1 (Nat.le_of_ble_eq_true rfl) rfl ?_
  have hlp2_579633 : ∀ (n2_579633 : Nat) (F579627 : Nat → va_E) (g579626 : Int32), gB g579626 0 4 → RS D I P579229 F579627 γ el → rStr γ [] F579230 F579627 → (fI (F579627 q579231) 9).toInt = (fI (F579230 q579231) 9).toInt → (fI (F579627 q579231) 10).toInt = (fI (F579230 q579231) 10).toInt → (fI (F579627 q579231) 32).toInt = (fI (F579230 q579231) 32).toInt → (fI (F579627 q579231) 30).toInt = (fI (F579230 q579231) 30).toInt → ((5 : Int) - g579626.toInt).toNat < n2_579633 → G (gV D I) l (gRm 0 0 0 0) (gMA (gV D I) (pt_579234_SpillForgeModel_word D I γ el P579229 F579230 q579231 p579232 p579233) gNA 0 0) ky_579234_SpillForgeModel_word 2 [(3, .int g579626), (0, .ref q579231), (1, .int p579232), (2, .int p579233)] [] (va_pl P579229 F579627) 0 0 := by
    intro n2_579633
    induction n2_579633 with
    | zero => intro F579627 g579626 bg579626 hT579628 hs579629 x579630 x579631 x579632 x579633 hm2_579633; exact absurd hm2_579633 (Nat.not_lt_zero _)
    | succ n2_579633 ih2_579633 =>
      intro F579627 g579626 bg579626 hT579628 hs579629 x579630 x579631 x579632 x579633 hm2_579633
      have hs579635 : rStr γ [] F579230 F579627 := fun b h0 hb hw => (hs579629 b h0 hb hw).trans ((rStr_rf (γ := γ) (W := []) (F := F579230)) b h0 hb hw).symm
      have hs579636 : rStr γ [] F579230 F579627 := rStr_tr (rStr_rf (γ := γ) (W := []) (F := F579230)) hs579635
      have hm579637 : q579231 ∈ P579229 := RS_m hT579628 htq579231 (by decide)
      refine rk10_e (show rk_10 γ (F579627 q579231) from RS_o hT579628 htq579231) (fun q579639 q579640 p579641 p579642 p579643 p579644 p579645 p579646 p579647 p579648 p579649 p579650 p579651 p579652 p579653 p579654 p579655 he579638 hB579682 ht579656 ht579657 ht579658 ht579659 ht579660 ht579661 ht579662 ht579663 ht579664 ht579665 ht579666 ht579667 ht579668 ht579669 ht579670 ht579671 ht579672 ht579673 ht579674 ht579675 ht579676 ht579677 ht579678 ht579679 hB579683 => ?_)
      have ac579684 : (fI (F579627 q579231) 9).toInt = p579641.toInt := by rw [he579638]; rfl
      have bp579641 : gB p579641 0 1 := (hB579682.1)
      have ac579685 : (fI (F579627 q579231) 10).toInt = p579642.toInt := by rw [he579638]; rfl
      have bp579642 : gB p579642 0 1 := (hB579682.2.1)
      have ac579686 : (fI (F579627 q579231) 32).toInt = p579653.toInt := by rw [he579638]; rfl
      have bp579653 : gB p579653 0 8192 := (hB579682.2.2.2.2.2.2.2.1)
      have ac579687 : (fI (F579627 q579231) 30).toInt = p579652.toInt := by rw [he579638]; rfl
      have bp579652 : gB p579652 (-2147483648) 2147483647 := (gB_any p579652)
      have ac579688 : (fI (F579627 q579231) 9).toInt = p579641.toInt := by rw [he579638]; rfl
      have ac579689 : (fI (F579627 q579231) 10).toInt = p579642.toInt := by rw [he579638]; rfl
      have ac579690 : (fI (F579627 q579231) 32).toInt = p579653.toInt := by rw [he579638]; rfl
      have ac579691 : (fI (F579627 q579231) 30).toInt = p579652.toInt := by rw [he579638]; rfl
      refine G_iload_n 0 dr_cX17_word_2 rfl ?_
      refine G_iconst 4 dr_cX17_word_3 (by decide +kernel) ?_
      refine G_icmp_ge 31 dr_cX17_word_4 (by decide +kernel) (fun hc579692 => ?_) (fun hc579692 => ?_)
      · have r579693 : 4 ≤ g579626.toInt := gj_leL hc579692 (show Int32.toInt 4 = 4 by decide)
        have bg579626' : gB g579626 4 4 := ⟨by omega, by omega⟩
        have ac579694 : (fI (F579627 q579231) 9).toInt = p579641.toInt := by rw [he579638]; rfl
        have ac579695 : (fI (F579627 q579231) 10).toInt = p579642.toInt := by rw [he579638]; rfl
        have ac579696 : (fI (F579627 q579231) 32).toInt = p579653.toInt := by rw [he579638]; rfl
        have ac579697 : (fI (F579627 q579231) 30).toInt = p579652.toInt := by rw [he579638]; rfl
        exact G_vretA dr_cX17_word_31 rfl (Nat.le_of_ble_eq_true rfl) (Nat.le_of_ble_eq_true rfl) ⟨F579627, rfl, rfl, hT579628, hs579629, (Nat.le_of_ble_eq_true rfl), (Nat.le_of_ble_eq_true rfl), (by omega), (by omega), (by omega), (by omega)⟩
      · have r579698 : g579626.toInt < 4 := gj_nleL hc579692 (show Int32.toInt 4 = 4 by decide)
        have bg579626' : gB g579626 0 3 := ⟨by omega, by omega⟩
        refine G_aload_n 1 dr_cX17_word_7 rfl ?_
        refine Gp_get 31 hm579637 he579638 dr_cX17_word_8 (gk_X17 D I) (Nat.le_of_ble_eq_true rfl) wr_7_105 rfl ?_
        refine G_iload_n 3 dr_cX17_word_11 rfl ?_
        refine G_iload_n 0 dr_cX17_word_12 rfl ?_
        refine G_iadd dr_cX17_word_13 (G_nam fun z579699 hz579699 => ?_)
        have ez579699 : z579699.toInt = p579233.toInt + g579626.toInt := by rw [gI_add hz579699 bp579233 bg579626' (by decide) (by decide)]
        have bz579699 : gB z579699 0 8191 := gB_add (gI_add hz579699 bp579233 bg579626' (by decide) (by decide)) bp579233 bg579626' (by decide) (by decide)
        refine G_iload_n 2 dr_cX17_word_14 rfl ?_
        refine G_bipush 24 dr_cX17_word_15 (by decide +kernel) ?_
        refine G_bipush 8 dr_cX17_word_17 (by decide +kernel) ?_
        refine G_iload_n 0 dr_cX17_word_19 rfl ?_
        refine G_imul dr_cX17_word_20 (G_nam fun z579700 hz579700 => ?_)
        have ez579700 : z579700.toInt = 8 * g579626.toInt := by rw [gI_mul hz579700 (gBl (show Int32.toInt 8 = 8 by decide)) bg579626' (by decide) (by decide) (by decide), show Int32.toInt 8 = 8 from by decide]
        have bz579700 : gB z579700 0 24 := gB_mul hz579700 (gBl (show Int32.toInt 8 = 8 by decide)) bg579626' (by decide) (by decide) (by decide) (by decide)
        refine G_isub dr_cX17_word_21 (G_nam fun z579701 hz579701 => ?_)
        have ez579701 : z579701.toInt = 24 - z579700.toInt := by rw [gI_sub hz579701 (gBl (show Int32.toInt 24 = 24 by decide)) bz579700 (by decide) (by decide), show Int32.toInt 24 = 24 from by decide]
        have bz579701 : gB z579701 0 24 := gB_sub (gI_sub hz579701 (gBl (show Int32.toInt 24 = 24 by decide)) bz579700 (by decide) (by decide)) (gBl (show Int32.toInt 24 = 24 by decide)) bz579700 (by decide) (by decide)
        refine G_ishr dr_cX17_word_22 (G_nam fun z579702 hz579702 => ?_)
        have bz579702 : gB z579702 (-2147483648) 2147483647 := gB_any z579702
        refine G_i2b dr_cX17_word_23 (G_nam fun z579703 hz579703 => ?_)
        have bz579703 : gB z579703 (-128) 127 := gB_i2b hz579703
        have hm579704 : (γ 9 31) ∈ P579229 := RS_m hT579628 ht579676 (by decide)
        obtain ⟨f579706, he579705, bf579706⟩ := show rk_25 I (F579627 (γ 9 31)) from RS_o hT579628 ht579676
        refine Gp_bast 1 hm579704 he579705 dr_cX17_word_24 rfl (gB_in bz579699 (by decide) (by decide)) (fun F579707 e579708 n579709 => ?_)
        obtain ⟨f579710, hf579710⟩ : ∃ z, z = upd f579706 z579699.toNatClampNeg (vp_nar .byte z579703) := ⟨_, rfl⟩
        rw [← hf579710] at e579708
        have he579711 : F579707 q579231 = .inr (22, [.ref (γ 9 0), .ref (γ 9 1), .ref (γ 9 2), .ref (γ 9 3), .ref (γ 9 4), .ref (γ 9 5), .ref (γ 9 6), .ref (γ 9 7), .ref (γ 9 8), .int p579641, .int p579642, .int p579643, .int p579644, .int p579645, .int p579646, .ref (γ 9 15), .ref (γ 9 16), .ref (γ 9 17), .ref (γ 9 18), .ref (γ 9 19), .ref (γ 9 20), .ref (γ 9 21), .ref (γ 9 22), .int p579647, .int p579648, .int p579649, .int p579650, .int p579651, .ref q579639, .ref (γ 9 29), .int p579652, .ref (γ 9 31), .int p579653, .int p579654, .int p579655, .ref q579640]) := (n579709 q579231 (rn_oa he579638 he579705)).trans he579638
        have he579712 : F579707 (γ 9 31) = .inl (I .byte, 8192, .inl f579710) := e579708
        have hs579713 : rStr γ [] F579230 F579707 := rStr_put hs579629 n579709 ht579676 (by decide)
        have bf579710 : gF f579710 (-128) 127 := gF_upd hf579710 bf579706 gB_byte
        obtain ⟨z579714, hz579714⟩ : ∃ z : Int32, z = g579626 + Int32.ofInt 1 := ⟨_, rfl⟩
        have ez579714 : z579714.toInt = g579626.toInt + 1 := gI_inc hz579714 (by decide) bg579626' (by decide) (by decide)
        have bz579714 : gB z579714 1 4 := ⟨by omega, by omega⟩
        refine G_iinc (L' := [(3, .int z579714), (0, .ref q579231), (1, .int p579232), (2, .int p579233)]) z579714 0 dr_cX17_word_25 rfl hz579714.symm (Nat.le_of_ble_eq_true rfl) rfl ?_
        refine G_goto 2 dr_cX17_word_28 (by decide +kernel) ?_
        have hT579715 : RS D I P579229 F579707 γ el := RS_set hT579628 n579709 ht579676 (by decide) ⟨f579710, he579712, bf579710⟩
        have ac579716 : (fI (F579707 q579231) 9).toInt = p579641.toInt := by rw [he579711]; rfl
        have ac579717 : (fI (F579707 q579231) 10).toInt = p579642.toInt := by rw [he579711]; rfl
        have ac579718 : (fI (F579707 q579231) 32).toInt = p579653.toInt := by rw [he579711]; rfl
        have ac579719 : (fI (F579707 q579231) 30).toInt = p579652.toInt := by rw [he579711]; rfl
        exact ih2_579633 F579707 z579714 (gB_w bz579714 (by decide) (by decide)) hT579715 hs579713 (by omega) (by omega) (by omega) (by omega) (mz_up ez579714 (Int.le_trans bg579626'.2 (by decide)) hm2_579633)
  have ac579720 : (fI (F579230 q579231) 9).toInt = p579239.toInt := by rw [he579236]; rfl
  have ac579721 : (fI (F579230 q579231) 10).toInt = p579240.toInt := by rw [he579236]; rfl
  have ac579722 : (fI (F579230 q579231) 32).toInt = p579251.toInt := by rw [he579236]; rfl
  have ac579723 : (fI (F579230 q579231) 30).toInt = p579250.toInt := by rw [he579236]; rfl
  exact hlp2_579633 (((5 : Int) - 0).toNat + 1) F579230 0 (gB_w (gBl (show Int32.toInt 0 = 0 by decide)) (by decide) (by decide)) hT (rStr_rf (γ := γ) (W := []) (F := F579230)) (by omega) (by omega) (by omega) (by omega) (Nat.lt_succ_self _)
abbrev ky_579168_SpillForgeModel_feed : gKey := (cX17_feed, 6, "SpillForgeModel", (some FieldType.int), [], "feed", fun _ _ => True)
def pt_579168_SpillForgeModel_feed (D : va_G) (I : FieldType → ClassId) (γ el : Nat → Nat → Nat) (P579160 : List Nat) (F579161 : Nat → va_E) (q579162 : Nat) (p579163 : Int32) (p579164 : Int32) (p579165 : Int32) (p579166 : Int32) (p579167 : Int32) : Option Value → va_W → Nat → Nat → Prop := fun r w dc ds => ∃ (F580155 : Nat → va_E) (o580154 : Int32), r = some (.int o580154) ∧ w = va_pl P579160 F580155 ∧ RS D I P579160 F580155 γ el ∧ rStr γ [] F579161 F580155 ∧ dc ≤ 0 ∧ ds ≤ 0 ∧ gB o580154 0 8212 ∧ (((fI (F579161 q579162) 32).toInt ≤ 8172 ∧ o580154.toInt = (fI (F579161 q579162) 32).toInt + 20 ∧ (fI (F580155 q579162) 32).toInt = (fI (F579161 q579162) 32).toInt + 20 ∧ (fI (F580155 q579162) 30).toInt = 0) ∨ (8172 < (fI (F579161 q579162) 32).toInt ∧ (fI (F580155 q579162) 30).toInt = 1 ∧ (fI (F580155 q579162) 32).toInt = (fI (F579161 q579162) 32).toInt)) ∧ (fI (F580155 q579162) 9).toInt = (fI (F579161 q579162) 9).toInt ∧ (fI (F580155 q579162) 10).toInt = (fI (F579161 q579162) 10).toInt
set_option maxRecDepth 100000 in
set_option maxHeartbeats 4000000 in
theorem ct_579168_SpillForgeModel_feed (l : Launch) (hl0 : l.stackTraces = false) (D : va_G) (I : FieldType → ClassId) (γ el : Nat → Nat → Nat) (P579160 : List Nat) (F579161 : Nat → va_E) (q579162 : Nat) (p579163 : Int32) (p579164 : Int32) (p579165 : Int32) (p579166 : Int32) (p579167 : Int32) (hT : RS D I P579160 F579161 γ el) (htq579162 : rKd γ q579162 10) : CtA (gV D I) l yX17_feed cX17_feed 6 (some FieldType.int) 1 23 0 0 [.ref q579162, .int p579163, .int p579164, .int p579165, .int p579166, .int p579167] (va_pl P579160 F579161) (pt_579168_SpillForgeModel_feed D I γ el P579160 F579161 q579162 p579163 p579164 p579165 p579166 p579167) gNA := by
  refine CtA_of hl0 (by decide) (Nat.le_of_ble_eq_true rfl) ?_
  have bp579163 := gB_any p579163
  have bp579164 := gB_any p579164
  have bp579165 := gB_any p579165
  have bp579166 := gB_any p579166
  have bp579167 := gB_any p579167
  have hm579169 : q579162 ∈ P579160 := RS_m hT htq579162 (by decide)
  refine rk10_e (show rk_10 γ (F579161 q579162) from RS_o hT htq579162) (fun q579171 q579172 p579173 p579174 p579175 p579176 p579177 p579178 p579179 p579180 p579181 p579182 p579183 p579184 p579185 p579186 p579187 he579170 hB579214 ht579188 ht579189 ht579190 ht579191 ht579192 ht579193 ht579194 ht579195 ht579196 ht579197 ht579198 ht579199 ht579200 ht579201 ht579202 ht579203 ht579204 ht579205 ht579206 ht579207 ht579208 ht579209 ht579210 ht579211 hB579215 => ?_)
  have ac579216 : (fI (F579161 q579162) 9).toInt = p579173.toInt := by rw [he579170]; rfl
  have bp579173 : gB p579173 0 1 := (hB579214.1)
  have ac579217 : (fI (F579161 q579162) 10).toInt = p579174.toInt := by rw [he579170]; rfl
  have bp579174 : gB p579174 0 1 := (hB579214.2.1)
  have ac579218 : (fI (F579161 q579162) 32).toInt = p579185.toInt := by rw [he579170]; rfl
  have bp579185 : gB p579185 0 8192 := (hB579214.2.2.2.2.2.2.2.1)
  have ac579219 : (fI (F579161 q579162) 30).toInt = p579184.toInt := by rw [he579170]; rfl
  have bp579184 : gB p579184 (-2147483648) 2147483647 := (gB_any p579184)
  refine G_aload_n 0 dr_cX17_feed_0 rfl ?_
  refine G_iconst 0 dr_cX17_feed_1 (by decide +kernel) ?_
  refine Gp_put 30 hm579169 he579170 dr_cX17_feed_2 (gk_X17 D I) (Nat.le_of_ble_eq_true rfl) wr_7_104 rfl rfl rfl (Nat.le_of_ble_eq_true rfl) (fun F579220 e579221 n579222 => ?_)
  have he579223 : F579220 q579162 = .inr (22, [.ref (γ 9 0), .ref (γ 9 1), .ref (γ 9 2), .ref (γ 9 3), .ref (γ 9 4), .ref (γ 9 5), .ref (γ 9 6), .ref (γ 9 7), .ref (γ 9 8), .int p579173, .int p579174, .int p579175, .int p579176, .int p579177, .int p579178, .ref (γ 9 15), .ref (γ 9 16), .ref (γ 9 17), .ref (γ 9 18), .ref (γ 9 19), .ref (γ 9 20), .ref (γ 9 21), .ref (γ 9 22), .int p579179, .int p579180, .int p579181, .int p579182, .int p579183, .ref q579171, .ref (γ 9 29), .int 0, .ref (γ 9 31), .int p579185, .int p579186, .int p579187, .ref q579172]) := e579221
  have hs579224 : rStr γ [] F579161 F579220 := rStr_put (rStr_rf (γ := γ) (W := []) (F := F579161)) n579222 htq579162 (by decide)
  refine G_aload_n 0 dr_cX17_feed_5 rfl ?_
  refine Gp_get 32 hm579169 he579223 dr_cX17_feed_6 (gk_X17 D I) (Nat.le_of_ble_eq_true rfl) wr_7_106 rfl ?_
  refine G_bipush 20 dr_cX17_feed_9 (by decide +kernel) ?_
  refine G_iadd dr_cX17_feed_11 (G_nam fun z579225 hz579225 => ?_)
  have ez579225 : z579225.toInt = p579185.toInt + 20 := by rw [gI_add hz579225 bp579185 (gBl (show Int32.toInt 20 = 20 by decide)) (by decide) (by decide), show Int32.toInt 20 = 20 from by decide]
  have bz579225 : gB z579225 20 8212 := gB_add (gI_add hz579225 bp579185 (gBl (show Int32.toInt 20 = 20 by decide)) (by decide) (by decide)) bp579185 (gBl (show Int32.toInt 20 = 20 by decide)) (by decide) (by decide)
  refine G_sipush 8192 dr_cX17_feed_12 (by decide +kernel) ?_
  refine G_icmp_le 24 dr_cX17_feed_15 (by decide +kernel) (fun hc579226 => ?_) (fun hc579226 => ?_)
  · have r579227 : z579225.toInt ≤ 8192 := gj_le hc579226 (show Int32.toInt 8192 = 8192 by decide)
    have bz579225' : gB z579225 20 8192 := ⟨by omega, by omega⟩
    refine G_aload_n 0 dr_cX17_feed_24 rfl ?_
    refine G_iload_n 1 dr_cX17_feed_25 rfl ?_
    refine G_aload_n 0 dr_cX17_feed_26 rfl ?_
    refine Gp_get 32 hm579169 he579223 dr_cX17_feed_27 (gk_X17 D I) (Nat.le_of_ble_eq_true rfl) wr_7_106 rfl ?_
    have hT579228 : RS D I P579160 F579220 γ el := RS_set hT n579222 htq579162 (by decide) ⟨q579171, q579172, p579173, p579174, p579175, p579176, p579177, p579178, p579179, p579180, p579181, p579182, p579183, 0, p579185, p579186, p579187, he579223, ⟨bp579173, bp579174, (hB579214.2.2.1), (hB579214.2.2.2.1), (hB579214.2.2.2.2.1), (hB579214.2.2.2.2.2.1), (hB579214.2.2.2.2.2.2.1), bp579185, (hB579214.2.2.2.2.2.2.2.2)⟩, ht579188, ht579189, ht579190, ht579191, ht579192, ht579193, ht579194, ht579195, ht579196, ht579197, ht579198, ht579199, ht579200, ht579201, ht579202, ht579203, ht579204, ht579205, ht579206, ht579207, ht579208, ht579209, ht579210, ht579211, hB579215⟩
    have ac579725 : (fI (F579220 q579162) 9).toInt = p579173.toInt := by rw [he579223]; rfl
    have ac579726 : (fI (F579220 q579162) 10).toInt = p579174.toInt := by rw [he579223]; rfl
    have ac579727 : (fI (F579220 q579162) 32).toInt = p579185.toInt := by rw [he579223]; rfl
    have ac579728 : (fI (F579220 q579162) 30).toInt = 0 := by rw [he579223]; show Int32.toInt 0 = 0; decide
    refine Gw_callV (As := [.int p579163, .int p579185]) (gV_ok D I) (ct_579234_SpillForgeModel_word l hl0 D I γ el P579160 F579220 q579162 p579163 p579185 hT579228 htq579162 ⟨by omega, by omega⟩) dr_cX17_feed_30 ⟨wr_7_195, wr_1_14, wr_7_198, by decide, rfl, (Nat.le_of_ble_eq_true rfl), (Nat.le_of_ble_eq_true rfl)⟩ wr_7_197 wr_p_74 hm579169 he579223 rfl (show 0 + 0 ≤ 0 by first | omega | decide) (show 0 + 0 ≤ 0 by first | omega | decide) (Nat.le_of_ble_eq_true rfl) (fun r579732 w579733 dc579729 ds579730 hp579731 => ?_) (fun _ _ _ _ _ z => z.elim)
    obtain ⟨F579738, rfl, rfl, hT579739, hs579740, hdc, hds, x579734, x579735, x579736, x579737⟩ := hp579731
    have hs579741 : rStr γ [] F579161 F579738 := rStr_tr hs579224 hs579740
    change G _ _ _ _ _ _ _ _ _ _ _
    refine G_widen (cs' := 0) (sl' := 0) (by omega) (by omega) ?_
    refine G_aload_n 0 dr_cX17_feed_33 rfl ?_
    refine G_iload_n 2 dr_cX17_feed_34 rfl ?_
    refine G_aload_n 0 dr_cX17_feed_35 rfl ?_
    have hm579742 : q579162 ∈ P579160 := RS_m hT579739 htq579162 (by decide)
    refine rk10_e (show rk_10 γ (F579738 q579162) from RS_o hT579739 htq579162) (fun q579744 q579745 p579746 p579747 p579748 p579749 p579750 p579751 p579752 p579753 p579754 p579755 p579756 p579757 p579758 p579759 p579760 he579743 hB579787 ht579761 ht579762 ht579763 ht579764 ht579765 ht579766 ht579767 ht579768 ht579769 ht579770 ht579771 ht579772 ht579773 ht579774 ht579775 ht579776 ht579777 ht579778 ht579779 ht579780 ht579781 ht579782 ht579783 ht579784 hB579788 => ?_)
    have ac579789 : (fI (F579738 q579162) 9).toInt = p579746.toInt := by rw [he579743]; rfl
    have bp579746 : gB p579746 0 1 := (hB579787.1)
    have ac579790 : (fI (F579738 q579162) 10).toInt = p579747.toInt := by rw [he579743]; rfl
    have bp579747 : gB p579747 0 1 := (hB579787.2.1)
    have ac579791 : (fI (F579738 q579162) 32).toInt = p579758.toInt := by rw [he579743]; rfl
    have bp579758 : gB p579758 0 8192 := (hB579787.2.2.2.2.2.2.2.1)
    have ac579792 : (fI (F579738 q579162) 30).toInt = p579757.toInt := by rw [he579743]; rfl
    have bp579757 : gB p579757 (-2147483648) 2147483647 := (gB_any p579757)
    refine Gp_get 32 hm579742 he579743 dr_cX17_feed_36 (gk_X17 D I) (Nat.le_of_ble_eq_true rfl) wr_7_106 rfl ?_
    refine G_iconst 4 dr_cX17_feed_39 (by decide +kernel) ?_
    refine G_iadd dr_cX17_feed_40 (G_nam fun z579793 hz579793 => ?_)
    have ez579793 : z579793.toInt = p579758.toInt + 4 := by rw [gI_add hz579793 bp579758 (gBl (show Int32.toInt 4 = 4 by decide)) (by decide) (by decide), show Int32.toInt 4 = 4 from by decide]
    have bz579793 : gB z579793 4 8196 := gB_add (gI_add hz579793 bp579758 (gBl (show Int32.toInt 4 = 4 by decide)) (by decide) (by decide)) bp579758 (gBl (show Int32.toInt 4 = 4 by decide)) (by decide) (by decide)
    have ac579794 : (fI (F579738 q579162) 9).toInt = p579746.toInt := by rw [he579743]; rfl
    have ac579795 : (fI (F579738 q579162) 10).toInt = p579747.toInt := by rw [he579743]; rfl
    have ac579796 : (fI (F579738 q579162) 32).toInt = p579758.toInt := by rw [he579743]; rfl
    have ac579797 : (fI (F579738 q579162) 30).toInt = p579757.toInt := by rw [he579743]; rfl
    refine Gw_callV (As := [.int p579164, .int z579793]) (gV_ok D I) (ct_579234_SpillForgeModel_word l hl0 D I γ el P579160 F579738 q579162 p579164 z579793 hT579739 htq579162 ⟨by omega, by omega⟩) dr_cX17_feed_41 ⟨wr_7_195, wr_1_14, wr_7_198, by decide, rfl, (Nat.le_of_ble_eq_true rfl), (Nat.le_of_ble_eq_true rfl)⟩ wr_7_197 wr_p_74 hm579742 he579743 rfl (show 0 + 0 ≤ 0 by first | omega | decide) (show 0 + 0 ≤ 0 by first | omega | decide) (Nat.le_of_ble_eq_true rfl) (fun r579801 w579802 dc579798 ds579799 hp579800 => ?_) (fun _ _ _ _ _ z => z.elim)
    obtain ⟨F579807, rfl, rfl, hT579808, hs579809, hdc, hds, x579803, x579804, x579805, x579806⟩ := hp579800
    have hs579810 : rStr γ [] F579161 F579807 := rStr_tr hs579741 hs579809
    change G _ _ _ _ _ _ _ _ _ _ _
    refine G_widen (cs' := 0) (sl' := 0) (by omega) (by omega) ?_
    refine G_aload_n 0 dr_cX17_feed_44 rfl ?_
    refine G_iload_n 3 dr_cX17_feed_45 rfl ?_
    refine G_aload_n 0 dr_cX17_feed_46 rfl ?_
    have hm579811 : q579162 ∈ P579160 := RS_m hT579808 htq579162 (by decide)
    refine rk10_e (show rk_10 γ (F579807 q579162) from RS_o hT579808 htq579162) (fun q579813 q579814 p579815 p579816 p579817 p579818 p579819 p579820 p579821 p579822 p579823 p579824 p579825 p579826 p579827 p579828 p579829 he579812 hB579856 ht579830 ht579831 ht579832 ht579833 ht579834 ht579835 ht579836 ht579837 ht579838 ht579839 ht579840 ht579841 ht579842 ht579843 ht579844 ht579845 ht579846 ht579847 ht579848 ht579849 ht579850 ht579851 ht579852 ht579853 hB579857 => ?_)
    have ac579858 : (fI (F579807 q579162) 9).toInt = p579815.toInt := by rw [he579812]; rfl
    have bp579815 : gB p579815 0 1 := (hB579856.1)
    have ac579859 : (fI (F579807 q579162) 10).toInt = p579816.toInt := by rw [he579812]; rfl
    have bp579816 : gB p579816 0 1 := (hB579856.2.1)
    have ac579860 : (fI (F579807 q579162) 32).toInt = p579827.toInt := by rw [he579812]; rfl
    have bp579827 : gB p579827 0 8192 := (hB579856.2.2.2.2.2.2.2.1)
    have ac579861 : (fI (F579807 q579162) 30).toInt = p579826.toInt := by rw [he579812]; rfl
    have bp579826 : gB p579826 (-2147483648) 2147483647 := (gB_any p579826)
    refine Gp_get 32 hm579811 he579812 dr_cX17_feed_47 (gk_X17 D I) (Nat.le_of_ble_eq_true rfl) wr_7_106 rfl ?_
    refine G_bipush 8 dr_cX17_feed_50 (by decide +kernel) ?_
    refine G_iadd dr_cX17_feed_52 (G_nam fun z579862 hz579862 => ?_)
    have ez579862 : z579862.toInt = p579827.toInt + 8 := by rw [gI_add hz579862 bp579827 (gBl (show Int32.toInt 8 = 8 by decide)) (by decide) (by decide), show Int32.toInt 8 = 8 from by decide]
    have bz579862 : gB z579862 8 8200 := gB_add (gI_add hz579862 bp579827 (gBl (show Int32.toInt 8 = 8 by decide)) (by decide) (by decide)) bp579827 (gBl (show Int32.toInt 8 = 8 by decide)) (by decide) (by decide)
    have ac579863 : (fI (F579807 q579162) 9).toInt = p579815.toInt := by rw [he579812]; rfl
    have ac579864 : (fI (F579807 q579162) 10).toInt = p579816.toInt := by rw [he579812]; rfl
    have ac579865 : (fI (F579807 q579162) 32).toInt = p579827.toInt := by rw [he579812]; rfl
    have ac579866 : (fI (F579807 q579162) 30).toInt = p579826.toInt := by rw [he579812]; rfl
    refine Gw_callV (As := [.int p579165, .int z579862]) (gV_ok D I) (ct_579234_SpillForgeModel_word l hl0 D I γ el P579160 F579807 q579162 p579165 z579862 hT579808 htq579162 ⟨by omega, by omega⟩) dr_cX17_feed_53 ⟨wr_7_195, wr_1_14, wr_7_198, by decide, rfl, (Nat.le_of_ble_eq_true rfl), (Nat.le_of_ble_eq_true rfl)⟩ wr_7_197 wr_p_74 hm579811 he579812 rfl (show 0 + 0 ≤ 0 by first | omega | decide) (show 0 + 0 ≤ 0 by first | omega | decide) (Nat.le_of_ble_eq_true rfl) (fun r579870 w579871 dc579867 ds579868 hp579869 => ?_) (fun _ _ _ _ _ z => z.elim)
    obtain ⟨F579876, rfl, rfl, hT579877, hs579878, hdc, hds, x579872, x579873, x579874, x579875⟩ := hp579869
    have hs579879 : rStr γ [] F579161 F579876 := rStr_tr hs579810 hs579878
    change G _ _ _ _ _ _ _ _ _ _ _
    refine G_widen (cs' := 0) (sl' := 0) (by omega) (by omega) ?_
    refine G_aload_n 0 dr_cX17_feed_56 rfl ?_
    refine G_iload 4 dr_cX17_feed_57 rfl ?_
    refine G_aload_n 0 dr_cX17_feed_59 rfl ?_
    have hm579880 : q579162 ∈ P579160 := RS_m hT579877 htq579162 (by decide)
    refine rk10_e (show rk_10 γ (F579876 q579162) from RS_o hT579877 htq579162) (fun q579882 q579883 p579884 p579885 p579886 p579887 p579888 p579889 p579890 p579891 p579892 p579893 p579894 p579895 p579896 p579897 p579898 he579881 hB579925 ht579899 ht579900 ht579901 ht579902 ht579903 ht579904 ht579905 ht579906 ht579907 ht579908 ht579909 ht579910 ht579911 ht579912 ht579913 ht579914 ht579915 ht579916 ht579917 ht579918 ht579919 ht579920 ht579921 ht579922 hB579926 => ?_)
    have ac579927 : (fI (F579876 q579162) 9).toInt = p579884.toInt := by rw [he579881]; rfl
    have bp579884 : gB p579884 0 1 := (hB579925.1)
    have ac579928 : (fI (F579876 q579162) 10).toInt = p579885.toInt := by rw [he579881]; rfl
    have bp579885 : gB p579885 0 1 := (hB579925.2.1)
    have ac579929 : (fI (F579876 q579162) 32).toInt = p579896.toInt := by rw [he579881]; rfl
    have bp579896 : gB p579896 0 8192 := (hB579925.2.2.2.2.2.2.2.1)
    have ac579930 : (fI (F579876 q579162) 30).toInt = p579895.toInt := by rw [he579881]; rfl
    have bp579895 : gB p579895 (-2147483648) 2147483647 := (gB_any p579895)
    refine Gp_get 32 hm579880 he579881 dr_cX17_feed_60 (gk_X17 D I) (Nat.le_of_ble_eq_true rfl) wr_7_106 rfl ?_
    refine G_bipush 12 dr_cX17_feed_63 (by decide +kernel) ?_
    refine G_iadd dr_cX17_feed_65 (G_nam fun z579931 hz579931 => ?_)
    have ez579931 : z579931.toInt = p579896.toInt + 12 := by rw [gI_add hz579931 bp579896 (gBl (show Int32.toInt 12 = 12 by decide)) (by decide) (by decide), show Int32.toInt 12 = 12 from by decide]
    have bz579931 : gB z579931 12 8204 := gB_add (gI_add hz579931 bp579896 (gBl (show Int32.toInt 12 = 12 by decide)) (by decide) (by decide)) bp579896 (gBl (show Int32.toInt 12 = 12 by decide)) (by decide) (by decide)
    have ac579932 : (fI (F579876 q579162) 9).toInt = p579884.toInt := by rw [he579881]; rfl
    have ac579933 : (fI (F579876 q579162) 10).toInt = p579885.toInt := by rw [he579881]; rfl
    have ac579934 : (fI (F579876 q579162) 32).toInt = p579896.toInt := by rw [he579881]; rfl
    have ac579935 : (fI (F579876 q579162) 30).toInt = p579895.toInt := by rw [he579881]; rfl
    refine Gw_callV (As := [.int p579166, .int z579931]) (gV_ok D I) (ct_579234_SpillForgeModel_word l hl0 D I γ el P579160 F579876 q579162 p579166 z579931 hT579877 htq579162 ⟨by omega, by omega⟩) dr_cX17_feed_66 ⟨wr_7_195, wr_1_14, wr_7_198, by decide, rfl, (Nat.le_of_ble_eq_true rfl), (Nat.le_of_ble_eq_true rfl)⟩ wr_7_197 wr_p_74 hm579880 he579881 rfl (show 0 + 0 ≤ 0 by first | omega | decide) (show 0 + 0 ≤ 0 by first | omega | decide) (Nat.le_of_ble_eq_true rfl) (fun r579939 w579940 dc579936 ds579937 hp579938 => ?_) (fun _ _ _ _ _ z => z.elim)
    obtain ⟨F579945, rfl, rfl, hT579946, hs579947, hdc, hds, x579941, x579942, x579943, x579944⟩ := hp579938
    have hs579948 : rStr γ [] F579161 F579945 := rStr_tr hs579879 hs579947
    change G _ _ _ _ _ _ _ _ _ _ _
    refine G_widen (cs' := 0) (sl' := 0) (by omega) (by omega) ?_
    refine G_aload_n 0 dr_cX17_feed_69 rfl ?_
    refine G_iload 5 dr_cX17_feed_70 rfl ?_
    refine G_aload_n 0 dr_cX17_feed_72 rfl ?_
    have hm579949 : q579162 ∈ P579160 := RS_m hT579946 htq579162 (by decide)
    refine rk10_e (show rk_10 γ (F579945 q579162) from RS_o hT579946 htq579162) (fun q579951 q579952 p579953 p579954 p579955 p579956 p579957 p579958 p579959 p579960 p579961 p579962 p579963 p579964 p579965 p579966 p579967 he579950 hB579994 ht579968 ht579969 ht579970 ht579971 ht579972 ht579973 ht579974 ht579975 ht579976 ht579977 ht579978 ht579979 ht579980 ht579981 ht579982 ht579983 ht579984 ht579985 ht579986 ht579987 ht579988 ht579989 ht579990 ht579991 hB579995 => ?_)
    have ac579996 : (fI (F579945 q579162) 9).toInt = p579953.toInt := by rw [he579950]; rfl
    have bp579953 : gB p579953 0 1 := (hB579994.1)
    have ac579997 : (fI (F579945 q579162) 10).toInt = p579954.toInt := by rw [he579950]; rfl
    have bp579954 : gB p579954 0 1 := (hB579994.2.1)
    have ac579998 : (fI (F579945 q579162) 32).toInt = p579965.toInt := by rw [he579950]; rfl
    have bp579965 : gB p579965 0 8192 := (hB579994.2.2.2.2.2.2.2.1)
    have ac579999 : (fI (F579945 q579162) 30).toInt = p579964.toInt := by rw [he579950]; rfl
    have bp579964 : gB p579964 (-2147483648) 2147483647 := (gB_any p579964)
    refine Gp_get 32 hm579949 he579950 dr_cX17_feed_73 (gk_X17 D I) (Nat.le_of_ble_eq_true rfl) wr_7_106 rfl ?_
    refine G_bipush 16 dr_cX17_feed_76 (by decide +kernel) ?_
    refine G_iadd dr_cX17_feed_78 (G_nam fun z580000 hz580000 => ?_)
    have ez580000 : z580000.toInt = p579965.toInt + 16 := by rw [gI_add hz580000 bp579965 (gBl (show Int32.toInt 16 = 16 by decide)) (by decide) (by decide), show Int32.toInt 16 = 16 from by decide]
    have bz580000 : gB z580000 16 8208 := gB_add (gI_add hz580000 bp579965 (gBl (show Int32.toInt 16 = 16 by decide)) (by decide) (by decide)) bp579965 (gBl (show Int32.toInt 16 = 16 by decide)) (by decide) (by decide)
    have ac580001 : (fI (F579945 q579162) 9).toInt = p579953.toInt := by rw [he579950]; rfl
    have ac580002 : (fI (F579945 q579162) 10).toInt = p579954.toInt := by rw [he579950]; rfl
    have ac580003 : (fI (F579945 q579162) 32).toInt = p579965.toInt := by rw [he579950]; rfl
    have ac580004 : (fI (F579945 q579162) 30).toInt = p579964.toInt := by rw [he579950]; rfl
    refine Gw_callV (As := [.int p579167, .int z580000]) (gV_ok D I) (ct_579234_SpillForgeModel_word l hl0 D I γ el P579160 F579945 q579162 p579167 z580000 hT579946 htq579162 ⟨by omega, by omega⟩) dr_cX17_feed_79 ⟨wr_7_195, wr_1_14, wr_7_198, by decide, rfl, (Nat.le_of_ble_eq_true rfl), (Nat.le_of_ble_eq_true rfl)⟩ wr_7_197 wr_p_74 hm579949 he579950 rfl (show 0 + 0 ≤ 0 by first | omega | decide) (show 0 + 0 ≤ 0 by first | omega | decide) (Nat.le_of_ble_eq_true rfl) (fun r580008 w580009 dc580005 ds580006 hp580007 => ?_) (fun _ _ _ _ _ z => z.elim)
    obtain ⟨F580014, rfl, rfl, hT580015, hs580016, hdc, hds, x580010, x580011, x580012, x580013⟩ := hp580007
    have hs580017 : rStr γ [] F579161 F580014 := rStr_tr hs579948 hs580016
    change G _ _ _ _ _ _ _ _ _ _ _
    refine G_widen (cs' := 0) (sl' := 0) (by omega) (by omega) ?_
    refine G_aload_n 0 dr_cX17_feed_82 rfl ?_
    refine G_dup dr_cX17_feed_83 rfl ?_
    have hm580018 : q579162 ∈ P579160 := RS_m hT580015 htq579162 (by decide)
    refine rk10_e (show rk_10 γ (F580014 q579162) from RS_o hT580015 htq579162) (fun q580020 q580021 p580022 p580023 p580024 p580025 p580026 p580027 p580028 p580029 p580030 p580031 p580032 p580033 p580034 p580035 p580036 he580019 hB580063 ht580037 ht580038 ht580039 ht580040 ht580041 ht580042 ht580043 ht580044 ht580045 ht580046 ht580047 ht580048 ht580049 ht580050 ht580051 ht580052 ht580053 ht580054 ht580055 ht580056 ht580057 ht580058 ht580059 ht580060 hB580064 => ?_)
    have ac580065 : (fI (F580014 q579162) 9).toInt = p580022.toInt := by rw [he580019]; rfl
    have bp580022 : gB p580022 0 1 := (hB580063.1)
    have ac580066 : (fI (F580014 q579162) 10).toInt = p580023.toInt := by rw [he580019]; rfl
    have bp580023 : gB p580023 0 1 := (hB580063.2.1)
    have ac580067 : (fI (F580014 q579162) 32).toInt = p580034.toInt := by rw [he580019]; rfl
    have bp580034 : gB p580034 0 8192 := (hB580063.2.2.2.2.2.2.2.1)
    have ac580068 : (fI (F580014 q579162) 30).toInt = p580033.toInt := by rw [he580019]; rfl
    have bp580033 : gB p580033 (-2147483648) 2147483647 := (gB_any p580033)
    refine Gp_get 32 hm580018 he580019 dr_cX17_feed_84 (gk_X17 D I) (Nat.le_of_ble_eq_true rfl) wr_7_106 rfl ?_
    refine G_bipush 20 dr_cX17_feed_87 (by decide +kernel) ?_
    refine G_iadd dr_cX17_feed_89 (G_nam fun z580069 hz580069 => ?_)
    have ez580069 : z580069.toInt = p580034.toInt + 20 := by rw [gI_add hz580069 bp580034 (gBl (show Int32.toInt 20 = 20 by decide)) (by decide) (by decide), show Int32.toInt 20 = 20 from by decide]
    have bz580069 : gB z580069 20 8212 := gB_add (gI_add hz580069 bp580034 (gBl (show Int32.toInt 20 = 20 by decide)) (by decide) (by decide)) bp580034 (gBl (show Int32.toInt 20 = 20 by decide)) (by decide) (by decide)
    refine Gp_put 32 hm580018 he580019 dr_cX17_feed_90 (gk_X17 D I) (Nat.le_of_ble_eq_true rfl) wr_7_106 rfl rfl rfl (Nat.le_of_ble_eq_true rfl) (fun F580070 e580071 n580072 => ?_)
    have he580073 : F580070 q579162 = .inr (22, [.ref (γ 9 0), .ref (γ 9 1), .ref (γ 9 2), .ref (γ 9 3), .ref (γ 9 4), .ref (γ 9 5), .ref (γ 9 6), .ref (γ 9 7), .ref (γ 9 8), .int p580022, .int p580023, .int p580024, .int p580025, .int p580026, .int p580027, .ref (γ 9 15), .ref (γ 9 16), .ref (γ 9 17), .ref (γ 9 18), .ref (γ 9 19), .ref (γ 9 20), .ref (γ 9 21), .ref (γ 9 22), .int p580028, .int p580029, .int p580030, .int p580031, .int p580032, .ref q580020, .ref (γ 9 29), .int p580033, .ref (γ 9 31), .int z580069, .int p580035, .int p580036, .ref q580021]) := e580071
    have hs580074 : rStr γ [] F579161 F580070 := rStr_put hs580017 n580072 htq579162 (by decide)
    refine G_aload_n 0 dr_cX17_feed_93 rfl ?_
    refine Gp_get 32 hm580018 he580073 dr_cX17_feed_94 (gk_X17 D I) (Nat.le_of_ble_eq_true rfl) wr_7_106 rfl ?_
    have hT580075 : RS D I P579160 F580070 γ el := RS_set hT580015 n580072 htq579162 (by decide) ⟨q580020, q580021, p580022, p580023, p580024, p580025, p580026, p580027, p580028, p580029, p580030, p580031, p580032, p580033, z580069, p580035, p580036, he580073, ⟨bp580022, bp580023, (hB580063.2.2.1), (hB580063.2.2.2.1), (hB580063.2.2.2.2.1), (hB580063.2.2.2.2.2.1), (hB580063.2.2.2.2.2.2.1), ⟨by omega, by omega⟩, (hB580063.2.2.2.2.2.2.2.2)⟩, ht580037, ht580038, ht580039, ht580040, ht580041, ht580042, ht580043, ht580044, ht580045, ht580046, ht580047, ht580048, ht580049, ht580050, ht580051, ht580052, ht580053, ht580054, ht580055, ht580056, ht580057, ht580058, ht580059, ht580060, hB580064⟩
    have ac580076 : (fI (F580070 q579162) 9).toInt = p580022.toInt := by rw [he580073]; rfl
    have ac580077 : (fI (F580070 q579162) 10).toInt = p580023.toInt := by rw [he580073]; rfl
    have ac580078 : (fI (F580070 q579162) 32).toInt = z580069.toInt := by rw [he580073]; rfl
    have ac580079 : (fI (F580070 q579162) 30).toInt = p580033.toInt := by rw [he580073]; rfl
    exact G_iretA dr_cX17_feed_97 rfl (Nat.le_of_ble_eq_true rfl) (Nat.le_of_ble_eq_true rfl) ⟨F580070, z580069, rfl, rfl, hT580075, hs580074, (Nat.le_of_ble_eq_true rfl), (Nat.le_of_ble_eq_true rfl), (gB_w bz580069 (by decide) (by decide)), (by omega), (by omega), (by omega)⟩
  · have r580080 : 8192 < z579225.toInt := gj_nle hc579226 (show Int32.toInt 8192 = 8192 by decide)
    have bz579225' : gB z579225 8193 8212 := ⟨by omega, by omega⟩
    refine G_aload_n 0 dr_cX17_feed_18 rfl ?_
    refine G_iconst 1 dr_cX17_feed_19 (by decide +kernel) ?_
    have hT580081 : RS D I P579160 F579220 γ el := RS_set hT n579222 htq579162 (by decide) ⟨q579171, q579172, p579173, p579174, p579175, p579176, p579177, p579178, p579179, p579180, p579181, p579182, p579183, 0, p579185, p579186, p579187, he579223, ⟨bp579173, bp579174, (hB579214.2.2.1), (hB579214.2.2.2.1), (hB579214.2.2.2.2.1), (hB579214.2.2.2.2.2.1), (hB579214.2.2.2.2.2.2.1), bp579185, (hB579214.2.2.2.2.2.2.2.2)⟩, ht579188, ht579189, ht579190, ht579191, ht579192, ht579193, ht579194, ht579195, ht579196, ht579197, ht579198, ht579199, ht579200, ht579201, ht579202, ht579203, ht579204, ht579205, ht579206, ht579207, ht579208, ht579209, ht579210, ht579211, hB579215⟩
    have ac580082 : (fI (F579220 q579162) 9).toInt = p579173.toInt := by rw [he579223]; rfl
    have ac580083 : (fI (F579220 q579162) 10).toInt = p579174.toInt := by rw [he579223]; rfl
    have ac580084 : (fI (F579220 q579162) 32).toInt = p579185.toInt := by rw [he579223]; rfl
    have ac580085 : (fI (F579220 q579162) 30).toInt = 0 := by rw [he579223]; show Int32.toInt 0 = 0; decide
    refine Gw_callV (As := [.int 1]) (gV_ok D I) (ct_578755_SpillForgeModel_no l hl0 D I γ el P579160 F579220 q579162 1 hT580081 htq579162) dr_cX17_feed_20 ⟨wr_7_191, wr_1_14, wr_7_194, by decide, rfl, (Nat.le_of_ble_eq_true rfl), (Nat.le_of_ble_eq_true rfl)⟩ wr_7_193 wr_p_73 hm579169 he579223 rfl (show 0 + 0 ≤ 0 by first | omega | decide) (show 0 + 0 ≤ 0 by first | omega | decide) (Nat.le_of_ble_eq_true rfl) (fun r580089 w580090 dc580086 ds580087 hp580088 => ?_) (fun _ _ _ _ _ z => z.elim)
    obtain ⟨F580095, rfl, rfl, hT580096, hs580097, hdc, hds, x580091, x580092, x580093, x580094⟩ := hp580088
    have hs580098 : rStr γ [] F579161 F580095 := rStr_tr hs579224 hs580097
    rw [show Int32.toInt 1 = 1 from by decide] at x580094
    change G _ _ _ _ _ _ _ (.int 0 :: _) _ _ _
    refine G_widen (cs' := 0) (sl' := 0) (by omega) (by omega) ?_
    have hm580099 : q579162 ∈ P579160 := RS_m hT580096 htq579162 (by decide)
    refine rk10_e (show rk_10 γ (F580095 q579162) from RS_o hT580096 htq579162) (fun q580101 q580102 p580103 p580104 p580105 p580106 p580107 p580108 p580109 p580110 p580111 p580112 p580113 p580114 p580115 p580116 p580117 he580100 hB580144 ht580118 ht580119 ht580120 ht580121 ht580122 ht580123 ht580124 ht580125 ht580126 ht580127 ht580128 ht580129 ht580130 ht580131 ht580132 ht580133 ht580134 ht580135 ht580136 ht580137 ht580138 ht580139 ht580140 ht580141 hB580145 => ?_)
    have ac580146 : (fI (F580095 q579162) 9).toInt = p580103.toInt := by rw [he580100]; rfl
    have bp580103 : gB p580103 0 1 := (hB580144.1)
    have ac580147 : (fI (F580095 q579162) 10).toInt = p580104.toInt := by rw [he580100]; rfl
    have bp580104 : gB p580104 0 1 := (hB580144.2.1)
    have ac580148 : (fI (F580095 q579162) 32).toInt = p580115.toInt := by rw [he580100]; rfl
    have bp580115 : gB p580115 0 8192 := (hB580144.2.2.2.2.2.2.2.1)
    have ac580149 : (fI (F580095 q579162) 30).toInt = p580114.toInt := by rw [he580100]; rfl
    have bp580114 : gB p580114 (-2147483648) 2147483647 := (gB_any p580114)
    have ac580150 : (fI (F580095 q579162) 9).toInt = p580103.toInt := by rw [he580100]; rfl
    have ac580151 : (fI (F580095 q579162) 10).toInt = p580104.toInt := by rw [he580100]; rfl
    have ac580152 : (fI (F580095 q579162) 32).toInt = p580115.toInt := by rw [he580100]; rfl
    have ac580153 : (fI (F580095 q579162) 30).toInt = p580114.toInt := by rw [he580100]; rfl
    exact G_iretA dr_cX17_feed_23 rfl (Nat.le_of_ble_eq_true rfl) (Nat.le_of_ble_eq_true rfl) ⟨F580095, 0, rfl, rfl, hT580096, hs580098, (Nat.le_of_ble_eq_true rfl), (Nat.le_of_ble_eq_true rfl), (gB_w (gBl (show Int32.toInt 0 = 0 by decide)) (by decide) (by decide)), (by have qa0 : Int32.toInt 0 = 0 := (by decide); omega), (by have qa0 : Int32.toInt 0 = 0 := (by decide); omega), (by have qa0 : Int32.toInt 0 = 0 := (by decide); omega)⟩
