theorem dr_cX17_shown_0 : decode cX17_shown 0 = .ok (.aload_n 0, 1) := by decide +kernel
theorem dr_cX17_shown_1 : decode cX17_shown 1 = .ok (.iconst 0, 1) := by decide +kernel
theorem dr_cX17_shown_2 : decode cX17_shown 2 = .ok (.putfield 380, 3) := by decide +kernel
theorem dr_cX17_shown_5 : decode cX17_shown 5 = .ok (.iload_n 1, 1) := by decide +kernel
theorem dr_cX17_shown_6 : decode cX17_shown 6 = .ok (.ifCond .lt 20, 3) := by decide +kernel
theorem dr_cX17_shown_26 : decode cX17_shown 26 = .ok (.aload_n 0, 1) := by decide +kernel
theorem dr_cX17_shown_27 : decode cX17_shown 27 = .ok (.iconst 1, 1) := by decide +kernel
theorem dr_cX17_shown_28 : decode cX17_shown 28 = .ok (.invokevirtual 385, 3) := by decide +kernel
theorem dr_cX17_shown_31 : decode cX17_shown 31 = .ok (.ireturn, 1) := by decide +kernel
theorem dr_cX17_shown_9 : decode cX17_shown 9 = .ok (.iload_n 1, 1) := by decide +kernel
theorem dr_cX17_shown_10 : decode cX17_shown 10 = .ok (.aload_n 0, 1) := by decide +kernel
theorem dr_cX17_shown_11 : decode cX17_shown 11 = .ok (.getfield 280, 3) := by decide +kernel
theorem dr_cX17_shown_14 : decode cX17_shown 14 = .ok (.if_icmp .ge 12, 3) := by decide +kernel
theorem dr_cX17_shown_17 : decode cX17_shown 17 = .ok (.aload_n 0, 1) := by decide +kernel
theorem dr_cX17_shown_18 : decode cX17_shown 18 = .ok (.getfield 306, 3) := by decide +kernel
theorem dr_cX17_shown_21 : decode cX17_shown 21 = .ok (.iload_n 1, 1) := by decide +kernel
theorem dr_cX17_shown_22 : decode cX17_shown 22 = .ok (.iaload, 1) := by decide +kernel
theorem dr_cX17_shown_23 : decode cX17_shown 23 = .ok (.goto 8, 3) := by decide +kernel
theorem dr_cX17_thrown_0 : decode cX17_thrown 0 = .ok (.aload_n 0, 1) := by decide +kernel
theorem dr_cX17_thrown_1 : decode cX17_thrown 1 = .ok (.getfield 380, 3) := by decide +kernel
theorem dr_cX17_thrown_4 : decode cX17_thrown 4 = .ok (.ireturn, 1) := by decide +kernel
theorem dr_cX17_word_0 : decode cX17_word 0 = .ok (.iconst 0, 1) := by decide +kernel
theorem dr_cX17_word_1 : decode cX17_word 1 = .ok (.istore_n 3, 1) := by decide +kernel
theorem dr_cX17_word_2 : decode cX17_word 2 = .ok (.iload_n 3, 1) := by decide +kernel
theorem dr_cX17_word_3 : decode cX17_word 3 = .ok (.iconst 4, 1) := by decide +kernel
theorem dr_cX17_word_4 : decode cX17_word 4 = .ok (.if_icmp .ge 27, 3) := by decide +kernel
theorem dr_cX17_word_31 : decode cX17_word 31 = .ok (.return_, 1) := by decide +kernel
theorem dr_cX17_word_7 : decode cX17_word 7 = .ok (.aload_n 0, 1) := by decide +kernel
theorem dr_cX17_word_8 : decode cX17_word 8 = .ok (.getfield 374, 3) := by decide +kernel
theorem wr_7_105 : (Jvm.Cond.fieldLink "SpillForgeModel" (374 : Nat) "SpillForgeModel" "tape" "[B") ∈ gw := gw_7 105 rfl rfl
theorem dr_cX17_word_11 : decode cX17_word 11 = .ok (.iload_n 2, 1) := by decide +kernel
theorem dr_cX17_word_12 : decode cX17_word 12 = .ok (.iload_n 3, 1) := by decide +kernel
theorem dr_cX17_word_13 : decode cX17_word 13 = .ok (.iadd, 1) := by decide +kernel
theorem dr_cX17_word_14 : decode cX17_word 14 = .ok (.iload_n 1, 1) := by decide +kernel
theorem dr_cX17_word_15 : decode cX17_word 15 = .ok (.bipush 24, 2) := by decide +kernel
theorem dr_cX17_word_17 : decode cX17_word 17 = .ok (.bipush 8, 2) := by decide +kernel
theorem dr_cX17_word_19 : decode cX17_word 19 = .ok (.iload_n 3, 1) := by decide +kernel
theorem dr_cX17_word_20 : decode cX17_word 20 = .ok (.imul, 1) := by decide +kernel
theorem dr_cX17_word_21 : decode cX17_word 21 = .ok (.isub, 1) := by decide +kernel
theorem dr_cX17_word_22 : decode cX17_word 22 = .ok (.ishr, 1) := by decide +kernel
theorem dr_cX17_word_23 : decode cX17_word 23 = .ok (.i2b, 1) := by decide +kernel
theorem dr_cX17_word_24 : decode cX17_word 24 = .ok (.bastore, 1) := by decide +kernel
theorem dr_cX17_word_25 : decode cX17_word 25 = .ok (.iinc 3 1, 3) := by decide +kernel
theorem dr_cX17_word_28 : decode cX17_word 28 = .ok (.goto (-26), 3) := by decide +kernel
theorem dr_cX17_feed_0 : decode cX17_feed 0 = .ok (.aload_n 0, 1) := by decide +kernel
theorem dr_cX17_feed_1 : decode cX17_feed 1 = .ok (.iconst 0, 1) := by decide +kernel
theorem dr_cX17_feed_2 : decode cX17_feed 2 = .ok (.putfield 380, 3) := by decide +kernel
theorem dr_cX17_feed_5 : decode cX17_feed 5 = .ok (.aload_n 0, 1) := by decide +kernel
theorem dr_cX17_feed_6 : decode cX17_feed 6 = .ok (.getfield 383, 3) := by decide +kernel
theorem wr_7_106 : (Jvm.Cond.fieldLink "SpillForgeModel" (383 : Nat) "SpillForgeModel" "size" "I") ∈ gw := gw_7 106 rfl rfl
theorem dr_cX17_feed_9 : decode cX17_feed 9 = .ok (.bipush 20, 2) := by decide +kernel
theorem dr_cX17_feed_11 : decode cX17_feed 11 = .ok (.iadd, 1) := by decide +kernel
theorem dr_cX17_feed_12 : decode cX17_feed 12 = .ok (.sipush 8192, 3) := by decide +kernel
theorem dr_cX17_feed_15 : decode cX17_feed 15 = .ok (.if_icmp .le 9, 3) := by decide +kernel
theorem dr_cX17_feed_24 : decode cX17_feed 24 = .ok (.aload_n 0, 1) := by decide +kernel
theorem dr_cX17_feed_25 : decode cX17_feed 25 = .ok (.iload_n 1, 1) := by decide +kernel
theorem dr_cX17_feed_26 : decode cX17_feed 26 = .ok (.aload_n 0, 1) := by decide +kernel
theorem dr_cX17_feed_27 : decode cX17_feed 27 = .ok (.getfield 383, 3) := by decide +kernel
theorem dr_cX17_feed_30 : decode cX17_feed 30 = .ok (.invokevirtual 388, 3) := by decide +kernel
theorem wr_7_195 : (Jvm.Cond.methodLink "SpillForgeModel" (388 : Nat) ({ cls := "SpillForgeModel", name := "word", desc := "(II)V" } : Jvm.MethodName)) ∈ gw := gw_7 195 rfl rfl
theorem wr_7_198 : (Jvm.Cond.code ({ cls := "SpillForgeModel", name := "word", desc := "(II)V" } : Jvm.MethodName) prog_14_method_39_code (4 : Nat) (Option.none : Option Jvm.ClassFile.FieldType)) ∈ gw := gw_7 198 rfl rfl
theorem wr_7_197 : (Jvm.Cond.instanceMethod ({ cls := "SpillForgeModel", name := "word", desc := "(II)V" } : Jvm.MethodName)) ∈ gw := gw_7 197 rfl rfl
theorem wr_p_74 : Cond.selects "SpillForgeModel" ⟨"SpillForgeModel", "word", "(II)V"⟩ ⟨"SpillForgeModel", "word", "(II)V"⟩ ∈ gw := gw_p _ 74 rfl rfl rfl
theorem dr_cX17_feed_33 : decode cX17_feed 33 = .ok (.aload_n 0, 1) := by decide +kernel
theorem dr_cX17_feed_34 : decode cX17_feed 34 = .ok (.iload_n 2, 1) := by decide +kernel
theorem dr_cX17_feed_35 : decode cX17_feed 35 = .ok (.aload_n 0, 1) := by decide +kernel
theorem dr_cX17_feed_36 : decode cX17_feed 36 = .ok (.getfield 383, 3) := by decide +kernel
theorem dr_cX17_feed_39 : decode cX17_feed 39 = .ok (.iconst 4, 1) := by decide +kernel
theorem dr_cX17_feed_40 : decode cX17_feed 40 = .ok (.iadd, 1) := by decide +kernel
theorem dr_cX17_feed_41 : decode cX17_feed 41 = .ok (.invokevirtual 388, 3) := by decide +kernel
theorem dr_cX17_feed_44 : decode cX17_feed 44 = .ok (.aload_n 0, 1) := by decide +kernel
theorem dr_cX17_feed_45 : decode cX17_feed 45 = .ok (.iload_n 3, 1) := by decide +kernel
theorem dr_cX17_feed_46 : decode cX17_feed 46 = .ok (.aload_n 0, 1) := by decide +kernel
theorem dr_cX17_feed_47 : decode cX17_feed 47 = .ok (.getfield 383, 3) := by decide +kernel
theorem dr_cX17_feed_50 : decode cX17_feed 50 = .ok (.bipush 8, 2) := by decide +kernel
theorem dr_cX17_feed_52 : decode cX17_feed 52 = .ok (.iadd, 1) := by decide +kernel
theorem dr_cX17_feed_53 : decode cX17_feed 53 = .ok (.invokevirtual 388, 3) := by decide +kernel
theorem dr_cX17_feed_56 : decode cX17_feed 56 = .ok (.aload_n 0, 1) := by decide +kernel
theorem dr_cX17_feed_57 : decode cX17_feed 57 = .ok (.iload 4, 2) := by decide +kernel
theorem dr_cX17_feed_59 : decode cX17_feed 59 = .ok (.aload_n 0, 1) := by decide +kernel
theorem dr_cX17_feed_60 : decode cX17_feed 60 = .ok (.getfield 383, 3) := by decide +kernel
theorem dr_cX17_feed_63 : decode cX17_feed 63 = .ok (.bipush 12, 2) := by decide +kernel
theorem dr_cX17_feed_65 : decode cX17_feed 65 = .ok (.iadd, 1) := by decide +kernel
theorem dr_cX17_feed_66 : decode cX17_feed 66 = .ok (.invokevirtual 388, 3) := by decide +kernel
theorem dr_cX17_feed_69 : decode cX17_feed 69 = .ok (.aload_n 0, 1) := by decide +kernel
theorem dr_cX17_feed_70 : decode cX17_feed 70 = .ok (.iload 5, 2) := by decide +kernel
theorem dr_cX17_feed_72 : decode cX17_feed 72 = .ok (.aload_n 0, 1) := by decide +kernel
theorem dr_cX17_feed_73 : decode cX17_feed 73 = .ok (.getfield 383, 3) := by decide +kernel
theorem dr_cX17_feed_76 : decode cX17_feed 76 = .ok (.bipush 16, 2) := by decide +kernel
theorem dr_cX17_feed_78 : decode cX17_feed 78 = .ok (.iadd, 1) := by decide +kernel
theorem dr_cX17_feed_79 : decode cX17_feed 79 = .ok (.invokevirtual 388, 3) := by decide +kernel
theorem dr_cX17_feed_82 : decode cX17_feed 82 = .ok (.aload_n 0, 1) := by decide +kernel
theorem dr_cX17_feed_83 : decode cX17_feed 83 = .ok (.dup, 1) := by decide +kernel
theorem dr_cX17_feed_84 : decode cX17_feed 84 = .ok (.getfield 383, 3) := by decide +kernel
theorem dr_cX17_feed_87 : decode cX17_feed 87 = .ok (.bipush 20, 2) := by decide +kernel
theorem dr_cX17_feed_89 : decode cX17_feed 89 = .ok (.iadd, 1) := by decide +kernel
theorem dr_cX17_feed_90 : decode cX17_feed 90 = .ok (.putfield 383, 3) := by decide +kernel
theorem dr_cX17_feed_93 : decode cX17_feed 93 = .ok (.aload_n 0, 1) := by decide +kernel
theorem dr_cX17_feed_94 : decode cX17_feed 94 = .ok (.getfield 383, 3) := by decide +kernel
theorem dr_cX17_feed_97 : decode cX17_feed 97 = .ok (.ireturn, 1) := by decide +kernel
theorem dr_cX17_feed_18 : decode cX17_feed 18 = .ok (.aload_n 0, 1) := by decide +kernel
theorem dr_cX17_feed_19 : decode cX17_feed 19 = .ok (.iconst 1, 1) := by decide +kernel
theorem dr_cX17_feed_20 : decode cX17_feed 20 = .ok (.invokevirtual 385, 3) := by decide +kernel
theorem dr_cX17_feed_23 : decode cX17_feed 23 = .ok (.ireturn, 1) := by decide +kernel
theorem dr_cX17_end_0 : decode cX17_end 0 = .ok (.aload_n 0, 1) := by decide +kernel
theorem dr_cX17_end_1 : decode cX17_end 1 = .ok (.iconst 0, 1) := by decide +kernel
theorem dr_cX17_end_2 : decode cX17_end 2 = .ok (.putfield 380, 3) := by decide +kernel
theorem dr_cX17_end_5 : decode cX17_end 5 = .ok (.iload_n 1, 1) := by decide +kernel
theorem dr_cX17_end_6 : decode cX17_end 6 = .ok (.ifCond .lt 11, 3) := by decide +kernel
theorem dr_cX17_end_17 : decode cX17_end 17 = .ok (.aload_n 0, 1) := by decide +kernel
theorem dr_cX17_end_18 : decode cX17_end 18 = .ok (.iconst 1, 1) := by decide +kernel
theorem dr_cX17_end_19 : decode cX17_end 19 = .ok (.invokevirtual 385, 3) := by decide +kernel
theorem dr_cX17_end_22 : decode cX17_end 22 = .ok (.ireturn, 1) := by decide +kernel
theorem dr_cX17_end_9 : decode cX17_end 9 = .ok (.iload_n 1, 1) := by decide +kernel
theorem dr_cX17_end_10 : decode cX17_end 10 = .ok (.aload_n 0, 1) := by decide +kernel
theorem dr_cX17_end_11 : decode cX17_end 11 = .ok (.getfield 383, 3) := by decide +kernel
theorem dr_cX17_end_14 : decode cX17_end 14 = .ok (.if_icmp .le 9, 3) := by decide +kernel
theorem dr_cX17_end_23 : decode cX17_end 23 = .ok (.aload_n 0, 1) := by decide +kernel
theorem dr_cX17_end_24 : decode cX17_end 24 = .ok (.iload_n 1, 1) := by decide +kernel
theorem dr_cX17_end_25 : decode cX17_end 25 = .ok (.putfield 383, 3) := by decide +kernel
theorem dr_cX17_end_28 : decode cX17_end 28 = .ok (.iload_n 1, 1) := by decide +kernel
theorem dr_cX17_end_29 : decode cX17_end 29 = .ok (.ireturn, 1) := by decide +kernel
abbrev ky_153627_SpillForgeModel_shown : gKey := (cX17_shown, 2, "SpillForgeModel", (some FieldType.int), [], "shown", fun _ _ => True)
def pt_153627_SpillForgeModel_shown (D : va_G) (I : FieldType → ClassId) (γ el : Nat → Nat → Nat) (P153623 : List Nat) (F153624 : Nat → va_E) (q153625 : Nat) (p153626 : Int32) : Option Value → va_W → Nat → Nat → Prop := fun r w dc ds => ∃ (F153818 : Nat → va_E) (o153817 : Int32), r = some (.int o153817) ∧ w = va_pl P153623 F153818 ∧ RS D I P153623 F153818 γ el ∧ rStr γ F153624 F153818 ∧ dc ≤ 0 ∧ ds ≤ 0 ∧ (fI (F153818 q153625) 32).toInt = (fI (F153624 q153625) 32).toInt
set_option maxRecDepth 100000 in
set_option maxHeartbeats 4000000 in
theorem ct_153627_SpillForgeModel_shown (l : Launch) (hl0 : l.stackTraces = false) (D : va_G) (I : FieldType → ClassId) (γ el : Nat → Nat → Nat) (P153623 : List Nat) (F153624 : Nat → va_E) (q153625 : Nat) (p153626 : Int32) (hT : RS D I P153623 F153624 γ el) (htq153625 : rKd γ q153625 10) : CtA (gV D I) l yX17_shown cX17_shown 2 (some FieldType.int) 1 21 0 0 [.ref q153625, .int p153626] (va_pl P153623 F153624) (pt_153627_SpillForgeModel_shown D I γ el P153623 F153624 q153625 p153626) gNA := by
  refine CtA_of hl0 (by decide) (Nat.le_of_ble_eq_true rfl) ?_
  have bp153626 := gB_any p153626
  have hm153628 : q153625 ∈ P153623 := RS_m hT htq153625 (by decide)
  obtain ⟨q153630, q153631, p153632, p153633, p153634, p153635, p153636, p153637, p153638, p153639, p153640, p153641, p153642, p153643, p153644, p153645, p153646, he153629, hB153673, ht153647, ht153648, ht153649, ht153650, ht153651, ht153652, ht153653, ht153654, ht153655, ht153656, ht153657, ht153658, ht153659, ht153660, ht153661, ht153662, ht153663, ht153664, ht153665, ht153666, ht153667, ht153668, ht153669, ht153670, hB153674⟩ := show rk_10 γ (F153624 q153625) from RS_o hT htq153625
  have ac153675 : (fI (F153624 q153625) 32).toInt = p153644.toInt := by rw [he153629]; rfl
  have bp153644 : gB p153644 0 8192 := (hB153673.2.2.2.2.2.2.2.1)
  refine G_aload_n 0 dr_cX17_shown_0 rfl ?_
  refine G_iconst 0 dr_cX17_shown_1 (by decide +kernel) ?_
  refine Gp_put 30 hm153628 he153629 dr_cX17_shown_2 (gk_X17 D I) (Nat.le_of_ble_eq_true rfl) wr_7_104 rfl rfl rfl (Nat.le_of_ble_eq_true rfl) (fun F153676 e153677 n153678 => ?_)
  have he153679 : F153676 q153625 = .inr (22, [.ref (γ 9 0), .ref (γ 9 1), .ref (γ 9 2), .ref (γ 9 3), .ref (γ 9 4), .ref (γ 9 5), .ref (γ 9 6), .ref (γ 9 7), .ref (γ 9 8), .int p153632, .int p153633, .int p153634, .int p153635, .int p153636, .int p153637, .ref (γ 9 15), .ref (γ 9 16), .ref (γ 9 17), .ref (γ 9 18), .ref (γ 9 19), .ref (γ 9 20), .ref (γ 9 21), .ref (γ 9 22), .int p153638, .int p153639, .int p153640, .int p153641, .int p153642, .ref q153630, .ref (γ 9 29), .int 0, .ref (γ 9 31), .int p153644, .int p153645, .int p153646, .ref q153631]) := e153677
  have hs153680 : rStr γ F153624 F153676 := rStr_put (rStr_rf (γ := γ) (F := F153624)) n153678 htq153625 (by decide)
  refine G_iload_n 1 dr_cX17_shown_5 rfl ?_
  refine G_if_lt 26 dr_cX17_shown_6 (by decide +kernel) (fun hc153681 => ?_) (fun hc153681 => ?_)
  · have r153682 : p153626.toInt < 0 := gj_lt hc153681 (show Int32.toInt 0 = 0 by decide)
    have bp153626' : gB p153626 (-2147483648) (-1) := ⟨by omega, by omega⟩
    refine G_aload_n 0 dr_cX17_shown_26 rfl ?_
    refine G_iconst 1 dr_cX17_shown_27 (by decide +kernel) ?_
    have hT153683 : RS D I P153623 F153676 γ el := RS_set hT n153678 htq153625 (by decide) ⟨q153630, q153631, p153632, p153633, p153634, p153635, p153636, p153637, p153638, p153639, p153640, p153641, p153642, 0, p153644, p153645, p153646, he153679, ⟨(hB153673.1), (hB153673.2.1), (hB153673.2.2.1), (hB153673.2.2.2.1), (hB153673.2.2.2.2.1), (hB153673.2.2.2.2.2.1), (hB153673.2.2.2.2.2.2.1), bp153644, (hB153673.2.2.2.2.2.2.2.2)⟩, ht153647, ht153648, ht153649, ht153650, ht153651, ht153652, ht153653, ht153654, ht153655, ht153656, ht153657, ht153658, ht153659, ht153660, ht153661, ht153662, ht153663, ht153664, ht153665, ht153666, ht153667, ht153668, ht153669, ht153670, hB153674⟩
    have ac153684 : (fI (F153676 q153625) 32).toInt = p153644.toInt := by rw [he153679]; rfl
    refine Gw_callV (As := [.int 1]) (gV_ok D I) (ct_153505_SpillForgeModel_no l hl0 D I γ el P153623 F153676 q153625 1 hT153683 htq153625) dr_cX17_shown_28 ⟨wr_7_191, wr_1_14, wr_7_194, by decide, rfl, (Nat.le_of_ble_eq_true rfl), (Nat.le_of_ble_eq_true rfl)⟩ wr_7_193 wr_p_73 hm153628 he153679 rfl (show 0 + 0 ≤ 0 by first | omega | decide) (show 0 + 0 ≤ 0 by first | omega | decide) (Nat.le_of_ble_eq_true rfl) (fun r153688 w153689 dc153685 ds153686 hp153687 => ?_) (fun _ _ _ _ _ z => z.elim)
    obtain ⟨F153692, rfl, rfl, hT153693, hs153694, hdc, hds, x153690, x153691⟩ := hp153687
    have hs153695 : rStr γ F153624 F153692 := rStr_tr hs153680 hs153694
    rw [show Int32.toInt 1 = 1 from by decide] at x153691
    change G _ _ _ _ _ _ _ (.int 0 :: _) _ _ _
    refine G_widen (cs' := 0) (sl' := 0) (by omega) (by omega) ?_
    have hm153696 : q153625 ∈ P153623 := RS_m hT153693 htq153625 (by decide)
    obtain ⟨q153698, q153699, p153700, p153701, p153702, p153703, p153704, p153705, p153706, p153707, p153708, p153709, p153710, p153711, p153712, p153713, p153714, he153697, hB153741, ht153715, ht153716, ht153717, ht153718, ht153719, ht153720, ht153721, ht153722, ht153723, ht153724, ht153725, ht153726, ht153727, ht153728, ht153729, ht153730, ht153731, ht153732, ht153733, ht153734, ht153735, ht153736, ht153737, ht153738, hB153742⟩ := show rk_10 γ (F153692 q153625) from RS_o hT153693 htq153625
    have ac153743 : (fI (F153692 q153625) 32).toInt = p153712.toInt := by rw [he153697]; rfl
    have bp153712 : gB p153712 0 8192 := (hB153741.2.2.2.2.2.2.2.1)
    have ac153744 : (fI (F153692 q153625) 32).toInt = p153712.toInt := by rw [he153697]; rfl
    exact G_iretA dr_cX17_shown_31 rfl (Nat.le_of_ble_eq_true rfl) (Nat.le_of_ble_eq_true rfl) ⟨F153692, 0, rfl, rfl, hT153693, hs153695, (Nat.le_of_ble_eq_true rfl), (Nat.le_of_ble_eq_true rfl), (by have qa0 : Int32.toInt 0 = 0 := (by decide); omega)⟩
  · have r153745 : 0 ≤ p153626.toInt := gj_nlt hc153681 (show Int32.toInt 0 = 0 by decide)
    have bp153626' : gB p153626 0 2147483647 := ⟨by omega, by omega⟩
    refine G_iload_n 1 dr_cX17_shown_9 rfl ?_
    refine G_aload_n 0 dr_cX17_shown_10 rfl ?_
    refine Gp_get 25 hm153628 he153679 dr_cX17_shown_11 (gk_X17 D I) (Nat.le_of_ble_eq_true rfl) wr_7_99 rfl ?_
    have bp153640 : gB p153640 0 512 := (hB153673.2.2.2.2.1)
    refine G_icmp_ge 26 dr_cX17_shown_14 (by decide +kernel) (fun hc153746 => ?_) (fun hc153746 => ?_)
    · have r153747 : p153640.toInt ≤ p153626.toInt := gC_le hc153746
      refine G_aload_n 0 dr_cX17_shown_26 rfl ?_
      refine G_iconst 1 dr_cX17_shown_27 (by decide +kernel) ?_
      have hT153748 : RS D I P153623 F153676 γ el := RS_set hT n153678 htq153625 (by decide) ⟨q153630, q153631, p153632, p153633, p153634, p153635, p153636, p153637, p153638, p153639, p153640, p153641, p153642, 0, p153644, p153645, p153646, he153679, ⟨(hB153673.1), (hB153673.2.1), (hB153673.2.2.1), (hB153673.2.2.2.1), bp153640, (hB153673.2.2.2.2.2.1), (hB153673.2.2.2.2.2.2.1), bp153644, (hB153673.2.2.2.2.2.2.2.2)⟩, ht153647, ht153648, ht153649, ht153650, ht153651, ht153652, ht153653, ht153654, ht153655, ht153656, ht153657, ht153658, ht153659, ht153660, ht153661, ht153662, ht153663, ht153664, ht153665, ht153666, ht153667, ht153668, ht153669, ht153670, hB153674⟩
      have ac153749 : (fI (F153676 q153625) 32).toInt = p153644.toInt := by rw [he153679]; rfl
      refine Gw_callV (As := [.int 1]) (gV_ok D I) (ct_153505_SpillForgeModel_no l hl0 D I γ el P153623 F153676 q153625 1 hT153748 htq153625) dr_cX17_shown_28 ⟨wr_7_191, wr_1_14, wr_7_194, by decide, rfl, (Nat.le_of_ble_eq_true rfl), (Nat.le_of_ble_eq_true rfl)⟩ wr_7_193 wr_p_73 hm153628 he153679 rfl (show 0 + 0 ≤ 0 by first | omega | decide) (show 0 + 0 ≤ 0 by first | omega | decide) (Nat.le_of_ble_eq_true rfl) (fun r153753 w153754 dc153750 ds153751 hp153752 => ?_) (fun _ _ _ _ _ z => z.elim)
      obtain ⟨F153757, rfl, rfl, hT153758, hs153759, hdc, hds, x153755, x153756⟩ := hp153752
      have hs153760 : rStr γ F153624 F153757 := rStr_tr hs153680 hs153759
      rw [show Int32.toInt 1 = 1 from by decide] at x153756
      change G _ _ _ _ _ _ _ (.int 0 :: _) _ _ _
      refine G_widen (cs' := 0) (sl' := 0) (by omega) (by omega) ?_
      have hm153761 : q153625 ∈ P153623 := RS_m hT153758 htq153625 (by decide)
      obtain ⟨q153763, q153764, p153765, p153766, p153767, p153768, p153769, p153770, p153771, p153772, p153773, p153774, p153775, p153776, p153777, p153778, p153779, he153762, hB153806, ht153780, ht153781, ht153782, ht153783, ht153784, ht153785, ht153786, ht153787, ht153788, ht153789, ht153790, ht153791, ht153792, ht153793, ht153794, ht153795, ht153796, ht153797, ht153798, ht153799, ht153800, ht153801, ht153802, ht153803, hB153807⟩ := show rk_10 γ (F153757 q153625) from RS_o hT153758 htq153625
      have ac153808 : (fI (F153757 q153625) 32).toInt = p153777.toInt := by rw [he153762]; rfl
      have bp153777 : gB p153777 0 8192 := (hB153806.2.2.2.2.2.2.2.1)
      have ac153809 : (fI (F153757 q153625) 32).toInt = p153777.toInt := by rw [he153762]; rfl
      exact G_iretA dr_cX17_shown_31 rfl (Nat.le_of_ble_eq_true rfl) (Nat.le_of_ble_eq_true rfl) ⟨F153757, 0, rfl, rfl, hT153758, hs153760, (Nat.le_of_ble_eq_true rfl), (Nat.le_of_ble_eq_true rfl), (by have qa0 : Int32.toInt 0 = 0 := (by decide); omega)⟩
    · have r153810 : p153626.toInt < p153640.toInt := gC_nle hc153746
      have bp153626'' : gB p153626 0 511 := ⟨by omega, by omega⟩
      have bp153640' : gB p153640 1 512 := ⟨by omega, by omega⟩
      refine G_aload_n 0 dr_cX17_shown_17 rfl ?_
      refine Gp_get 22 hm153628 he153679 dr_cX17_shown_18 (gk_X17 D I) (Nat.le_of_ble_eq_true rfl) wr_7_96 rfl ?_
      refine G_iload_n 1 dr_cX17_shown_21 rfl ?_
      have hT153811 : RS D I P153623 F153676 γ el := RS_set hT n153678 htq153625 (by decide) ⟨q153630, q153631, p153632, p153633, p153634, p153635, p153636, p153637, p153638, p153639, p153640, p153641, p153642, 0, p153644, p153645, p153646, he153679, ⟨(hB153673.1), (hB153673.2.1), (hB153673.2.2.1), (hB153673.2.2.2.1), (gB_w bp153640' (by decide) (by decide)), (hB153673.2.2.2.2.2.1), (hB153673.2.2.2.2.2.2.1), bp153644, (hB153673.2.2.2.2.2.2.2.2)⟩, ht153647, ht153648, ht153649, ht153650, ht153651, ht153652, ht153653, ht153654, ht153655, ht153656, ht153657, ht153658, ht153659, ht153660, ht153661, ht153662, ht153663, ht153664, ht153665, ht153666, ht153667, ht153668, ht153669, ht153670, hB153674⟩
      have hm153812 : (γ 9 22) ∈ P153623 := RS_m hT153811 ht153665 (by decide)
      obtain ⟨f153814, he153813⟩ := show rk_24 I (F153676 (γ 9 22)) from RS_o hT153811 ht153665
      refine Gp_iald 0 hm153812 he153813 dr_cX17_shown_22 rfl (gB_in bp153626'' (by decide) (by decide)) (G_nam fun z153815 hz153815 => ?_)
      have bz153815 : gB z153815 (-2147483648) 2147483647 := gB_any z153815
      refine G_goto 31 dr_cX17_shown_23 (by decide +kernel) ?_
      have ac153816 : (fI (F153676 q153625) 32).toInt = p153644.toInt := by rw [he153679]; rfl
      exact G_iretA dr_cX17_shown_31 rfl (Nat.le_of_ble_eq_true rfl) (Nat.le_of_ble_eq_true rfl) ⟨F153676, z153815, rfl, rfl, hT153811, hs153680, (Nat.le_of_ble_eq_true rfl), (Nat.le_of_ble_eq_true rfl), (by omega)⟩
abbrev ky_153822_SpillForgeModel_thrown : gKey := (cX17_thrown, 1, "SpillForgeModel", (some FieldType.int), [], "thrown", fun _ _ => True)
def pt_153822_SpillForgeModel_thrown (D : va_G) (I : FieldType → ClassId) (γ el : Nat → Nat → Nat) (P153819 : List Nat) (F153820 : Nat → va_E) (q153821 : Nat) : Option Value → va_W → Nat → Nat → Prop := fun r w dc ds => ∃ (o153870 : Int32), r = some (.int o153870) ∧ w = va_pl P153819 F153820 ∧ dc ≤ 0 ∧ ds ≤ 0
set_option maxRecDepth 100000 in
set_option maxHeartbeats 4000000 in
theorem ct_153822_SpillForgeModel_thrown (l : Launch) (hl0 : l.stackTraces = false) (D : va_G) (I : FieldType → ClassId) (γ el : Nat → Nat → Nat) (P153819 : List Nat) (F153820 : Nat → va_E) (q153821 : Nat) (hT : RS D I P153819 F153820 γ el) (htq153821 : rKd γ q153821 10) : CtA (gV D I) l yX17_thrown cX17_thrown 1 (some FieldType.int) 0 0 0 0 [.ref q153821] (va_pl P153819 F153820) (pt_153822_SpillForgeModel_thrown D I γ el P153819 F153820 q153821) gNA := by
  refine CtA_of hl0 (by decide) (Nat.le_of_ble_eq_true rfl) ?_
  refine G_aload_n 0 dr_cX17_thrown_0 rfl ?_
  have hm153823 : q153821 ∈ P153819 := RS_m hT htq153821 (by decide)
  obtain ⟨q153825, q153826, p153827, p153828, p153829, p153830, p153831, p153832, p153833, p153834, p153835, p153836, p153837, p153838, p153839, p153840, p153841, he153824, hB153868, ht153842, ht153843, ht153844, ht153845, ht153846, ht153847, ht153848, ht153849, ht153850, ht153851, ht153852, ht153853, ht153854, ht153855, ht153856, ht153857, ht153858, ht153859, ht153860, ht153861, ht153862, ht153863, ht153864, ht153865, hB153869⟩ := show rk_10 γ (F153820 q153821) from RS_o hT htq153821
  refine Gp_get 30 hm153823 he153824 dr_cX17_thrown_1 (gk_X17 D I) (Nat.le_of_ble_eq_true rfl) wr_7_104 rfl ?_
  have bp153838 : gB p153838 (-2147483648) 2147483647 := (gB_any p153838)
  exact G_iretA dr_cX17_thrown_4 rfl (Nat.le_of_ble_eq_true rfl) (Nat.le_of_ble_eq_true rfl) ⟨p153838, rfl, rfl, (Nat.le_of_ble_eq_true rfl), (Nat.le_of_ble_eq_true rfl)⟩
abbrev ky_153944_SpillForgeModel_word : gKey := (cX17_word, 4, "SpillForgeModel", none, [], "word", fun _ _ => True)
def pt_153944_SpillForgeModel_word (D : va_G) (I : FieldType → ClassId) (γ el : Nat → Nat → Nat) (P153939 : List Nat) (F153940 : Nat → va_E) (q153941 : Nat) (p153942 : Int32) (p153943 : Int32) : Option Value → va_W → Nat → Nat → Prop := fun r w dc ds => ∃ (F154400 : Nat → va_E), r = none ∧ w = va_pl P153939 F154400 ∧ RS D I P153939 F154400 γ el ∧ rStr γ F153940 F154400 ∧ dc ≤ 0 ∧ ds ≤ 0 ∧ (fI (F154400 q153941) 32).toInt = (fI (F153940 q153941) 32).toInt ∧ (fI (F154400 q153941) 30).toInt = (fI (F153940 q153941) 30).toInt
set_option maxRecDepth 100000 in
set_option maxHeartbeats 4000000 in
theorem ct_153944_SpillForgeModel_word (l : Launch) (hl0 : l.stackTraces = false) (D : va_G) (I : FieldType → ClassId) (γ el : Nat → Nat → Nat) (P153939 : List Nat) (F153940 : Nat → va_E) (q153941 : Nat) (p153942 : Int32) (p153943 : Int32) (hT : RS D I P153939 F153940 γ el) (htq153941 : rKd γ q153941 10) (bp153943 : gB p153943 0 8188) : CtA (gV D I) l yX17_word cX17_word 4 none 0 0 0 0 [.ref q153941, .int p153942, .int p153943] (va_pl P153939 F153940) (pt_153944_SpillForgeModel_word D I γ el P153939 F153940 q153941 p153942 p153943) gNA := by
  refine CtA_of hl0 (by decide) (Nat.le_of_ble_eq_true rfl) ?_
  have bp153942 := gB_any p153942
  have hm153945 : q153941 ∈ P153939 := RS_m hT htq153941 (by decide)
  obtain ⟨q153947, q153948, p153949, p153950, p153951, p153952, p153953, p153954, p153955, p153956, p153957, p153958, p153959, p153960, p153961, p153962, p153963, he153946, hB153990, ht153964, ht153965, ht153966, ht153967, ht153968, ht153969, ht153970, ht153971, ht153972, ht153973, ht153974, ht153975, ht153976, ht153977, ht153978, ht153979, ht153980, ht153981, ht153982, ht153983, ht153984, ht153985, ht153986, ht153987, hB153991⟩ := show rk_10 γ (F153940 q153941) from RS_o hT htq153941
  have ac153992 : (fI (F153940 q153941) 32).toInt = p153961.toInt := by rw [he153946]; rfl
  have bp153961 : gB p153961 0 8192 := (hB153990.2.2.2.2.2.2.2.1)
  have ac153993 : (fI (F153940 q153941) 30).toInt = p153960.toInt := by rw [he153946]; rfl
  have bp153960 : gB p153960 (-2147483648) 2147483647 := (gB_any p153960)
  refine G_iconst 0 dr_cX17_word_0 (by decide +kernel) ?_
  refine G_istore_n (L' := [(3, .int 0), (0, .ref q153941), (1, .int p153942), (2, .int p153943)]) dr_cX17_word_1 (Nat.le_of_ble_eq_true rfl) rfl ?_
  have hlp2_154319 : ∀ (n2_154319 : Nat) (F154315 : Nat → va_E) (g154314 : Int32), gB g154314 0 4 → RS D I P153939 F154315 γ el → rStr γ F153940 F154315 → (fI (F154315 q153941) 32).toInt = (fI (F153940 q153941) 32).toInt → (fI (F154315 q153941) 30).toInt = (fI (F153940 q153941) 30).toInt → ((5 : Int) - g154314.toInt).toNat < n2_154319 → G (gV D I) l (gRm 0 0 0 0) (gMA (gV D I) (pt_153944_SpillForgeModel_word D I γ el P153939 F153940 q153941 p153942 p153943) gNA 0 0) ky_153944_SpillForgeModel_word 2 [(3, .int g154314), (0, .ref q153941), (1, .int p153942), (2, .int p153943)] [] (va_pl P153939 F154315) 0 0 := by
    intro n2_154319
    induction n2_154319 with
    | zero => intro F154315 g154314 bg154314 hT154316 hs154317 x154318 x154319 hm2_154319; exact absurd hm2_154319 (Nat.not_lt_zero _)
    | succ n2_154319 ih2_154319 =>
      intro F154315 g154314 bg154314 hT154316 hs154317 x154318 x154319 hm2_154319
      have hs154321 : rStr γ F153940 F154315 := fun b h0 hb => (hs154317 b h0 hb).trans ((rStr_rf (γ := γ) (F := F153940)) b h0 hb).symm
      have hs154322 : rStr γ F153940 F154315 := rStr_tr (rStr_rf (γ := γ) (F := F153940)) hs154321
      have hm154323 : q153941 ∈ P153939 := RS_m hT154316 htq153941 (by decide)
      obtain ⟨q154325, q154326, p154327, p154328, p154329, p154330, p154331, p154332, p154333, p154334, p154335, p154336, p154337, p154338, p154339, p154340, p154341, he154324, hB154368, ht154342, ht154343, ht154344, ht154345, ht154346, ht154347, ht154348, ht154349, ht154350, ht154351, ht154352, ht154353, ht154354, ht154355, ht154356, ht154357, ht154358, ht154359, ht154360, ht154361, ht154362, ht154363, ht154364, ht154365, hB154369⟩ := show rk_10 γ (F154315 q153941) from RS_o hT154316 htq153941
      have ac154370 : (fI (F154315 q153941) 32).toInt = p154339.toInt := by rw [he154324]; rfl
      have bp154339 : gB p154339 0 8192 := (hB154368.2.2.2.2.2.2.2.1)
      have ac154371 : (fI (F154315 q153941) 30).toInt = p154338.toInt := by rw [he154324]; rfl
      have bp154338 : gB p154338 (-2147483648) 2147483647 := (gB_any p154338)
      have ac154372 : (fI (F154315 q153941) 32).toInt = p154339.toInt := by rw [he154324]; rfl
      have ac154373 : (fI (F154315 q153941) 30).toInt = p154338.toInt := by rw [he154324]; rfl
      refine G_iload_n 0 dr_cX17_word_2 rfl ?_
      refine G_iconst 4 dr_cX17_word_3 (by decide +kernel) ?_
      refine G_icmp_ge 31 dr_cX17_word_4 (by decide +kernel) (fun hc154374 => ?_) (fun hc154374 => ?_)
      · have r154375 : 4 ≤ g154314.toInt := gj_leL hc154374 (show Int32.toInt 4 = 4 by decide)
        have bg154314' : gB g154314 4 4 := ⟨by omega, by omega⟩
        have ac154376 : (fI (F154315 q153941) 32).toInt = p154339.toInt := by rw [he154324]; rfl
        have ac154377 : (fI (F154315 q153941) 30).toInt = p154338.toInt := by rw [he154324]; rfl
        exact G_vretA dr_cX17_word_31 rfl (Nat.le_of_ble_eq_true rfl) (Nat.le_of_ble_eq_true rfl) ⟨F154315, rfl, rfl, hT154316, hs154317, (Nat.le_of_ble_eq_true rfl), (Nat.le_of_ble_eq_true rfl), (by omega), (by omega)⟩
      · have r154378 : g154314.toInt < 4 := gj_nleL hc154374 (show Int32.toInt 4 = 4 by decide)
        have bg154314' : gB g154314 0 3 := ⟨by omega, by omega⟩
        refine G_aload_n 1 dr_cX17_word_7 rfl ?_
        refine Gp_get 31 hm154323 he154324 dr_cX17_word_8 (gk_X17 D I) (Nat.le_of_ble_eq_true rfl) wr_7_105 rfl ?_
        refine G_iload_n 3 dr_cX17_word_11 rfl ?_
        refine G_iload_n 0 dr_cX17_word_12 rfl ?_
        refine G_iadd dr_cX17_word_13 (G_nam fun z154379 hz154379 => ?_)
        have ez154379 : z154379.toInt = p153943.toInt + g154314.toInt := by rw [gI_add hz154379 bp153943 bg154314' (by decide) (by decide)]
        have bz154379 : gB z154379 0 8191 := gB_add (gI_add hz154379 bp153943 bg154314' (by decide) (by decide)) bp153943 bg154314' (by decide) (by decide)
        refine G_iload_n 2 dr_cX17_word_14 rfl ?_
        refine G_bipush 24 dr_cX17_word_15 (by decide +kernel) ?_
        refine G_bipush 8 dr_cX17_word_17 (by decide +kernel) ?_
        refine G_iload_n 0 dr_cX17_word_19 rfl ?_
        refine G_imul dr_cX17_word_20 (G_nam fun z154380 hz154380 => ?_)
        have ez154380 : z154380.toInt = 8 * g154314.toInt := by rw [gI_mul hz154380 (gBl (show Int32.toInt 8 = 8 by decide)) bg154314' (by decide) (by decide) (by decide), show Int32.toInt 8 = 8 from by decide]
        have bz154380 : gB z154380 0 24 := gB_mul hz154380 (gBl (show Int32.toInt 8 = 8 by decide)) bg154314' (by decide) (by decide) (by decide) (by decide)
        refine G_isub dr_cX17_word_21 (G_nam fun z154381 hz154381 => ?_)
        have ez154381 : z154381.toInt = 24 - z154380.toInt := by rw [gI_sub hz154381 (gBl (show Int32.toInt 24 = 24 by decide)) bz154380 (by decide) (by decide), show Int32.toInt 24 = 24 from by decide]
        have bz154381 : gB z154381 0 24 := gB_sub (gI_sub hz154381 (gBl (show Int32.toInt 24 = 24 by decide)) bz154380 (by decide) (by decide)) (gBl (show Int32.toInt 24 = 24 by decide)) bz154380 (by decide) (by decide)
        refine G_ishr dr_cX17_word_22 (G_nam fun z154382 hz154382 => ?_)
        have bz154382 : gB z154382 (-2147483648) 2147483647 := gB_any z154382
        refine G_i2b dr_cX17_word_23 (G_nam fun z154383 hz154383 => ?_)
        have bz154383 : gB z154383 (-128) 127 := gB_i2b hz154383
        have hm154384 : (γ 9 31) ∈ P153939 := RS_m hT154316 ht154362 (by decide)
        obtain ⟨f154386, he154385, bf154386⟩ := show rk_25 I (F154315 (γ 9 31)) from RS_o hT154316 ht154362
        refine Gp_bast 1 hm154384 he154385 dr_cX17_word_24 rfl (gB_in bz154379 (by decide) (by decide)) (fun F154387 e154388 n154389 => ?_)
        obtain ⟨f154390, hf154390⟩ : ∃ z, z = upd f154386 z154379.toNatClampNeg (vp_nar .byte z154383) := ⟨_, rfl⟩
        rw [← hf154390] at e154388
        have he154391 : F154387 q153941 = .inr (22, [.ref (γ 9 0), .ref (γ 9 1), .ref (γ 9 2), .ref (γ 9 3), .ref (γ 9 4), .ref (γ 9 5), .ref (γ 9 6), .ref (γ 9 7), .ref (γ 9 8), .int p154327, .int p154328, .int p154329, .int p154330, .int p154331, .int p154332, .ref (γ 9 15), .ref (γ 9 16), .ref (γ 9 17), .ref (γ 9 18), .ref (γ 9 19), .ref (γ 9 20), .ref (γ 9 21), .ref (γ 9 22), .int p154333, .int p154334, .int p154335, .int p154336, .int p154337, .ref q154325, .ref (γ 9 29), .int p154338, .ref (γ 9 31), .int p154339, .int p154340, .int p154341, .ref q154326]) := (n154389 q153941 (rn_oa he154324 he154385)).trans he154324
        have he154392 : F154387 (γ 9 31) = .inl (I .byte, 8192, .inl f154390) := e154388
        have hs154393 : rStr γ F153940 F154387 := rStr_put hs154317 n154389 ht154362 (by decide)
        have bf154390 : gF f154390 (-128) 127 := gF_upd hf154390 bf154386 gB_byte
        obtain ⟨z154394, hz154394⟩ : ∃ z : Int32, z = g154314 + Int32.ofInt 1 := ⟨_, rfl⟩
        have ez154394 : z154394.toInt = g154314.toInt + 1 := gI_inc hz154394 (by decide) bg154314' (by decide) (by decide)
        have bz154394 : gB z154394 1 4 := ⟨by omega, by omega⟩
        refine G_iinc (L' := [(3, .int z154394), (0, .ref q153941), (1, .int p153942), (2, .int p153943)]) z154394 0 dr_cX17_word_25 rfl hz154394.symm (Nat.le_of_ble_eq_true rfl) rfl ?_
        refine G_goto 2 dr_cX17_word_28 (by decide +kernel) ?_
        have hT154395 : RS D I P153939 F154387 γ el := RS_set hT154316 n154389 ht154362 (by decide) ⟨f154390, he154392, bf154390⟩
        have ac154396 : (fI (F154387 q153941) 32).toInt = p154339.toInt := by rw [he154391]; rfl
        have ac154397 : (fI (F154387 q153941) 30).toInt = p154338.toInt := by rw [he154391]; rfl
        exact ih2_154319 F154387 z154394 (gB_w bz154394 (by decide) (by decide)) hT154395 hs154393 (by omega) (by omega) (by omega)
  have ac154398 : (fI (F153940 q153941) 32).toInt = p153961.toInt := by rw [he153946]; rfl
  have ac154399 : (fI (F153940 q153941) 30).toInt = p153960.toInt := by rw [he153946]; rfl
  exact hlp2_154319 (((5 : Int) - 0).toNat + 1) F153940 0 (gB_w (gBl (show Int32.toInt 0 = 0 by decide)) (by decide) (by decide)) hT (rStr_rf (γ := γ) (F := F153940)) (by omega) (by omega) (Nat.lt_succ_self _)
abbrev ky_153880_SpillForgeModel_feed : gKey := (cX17_feed, 6, "SpillForgeModel", (some FieldType.int), [], "feed", fun _ _ => True)
def pt_153880_SpillForgeModel_feed (D : va_G) (I : FieldType → ClassId) (γ el : Nat → Nat → Nat) (P153872 : List Nat) (F153873 : Nat → va_E) (q153874 : Nat) (p153875 : Int32) (p153876 : Int32) (p153877 : Int32) (p153878 : Int32) (p153879 : Int32) : Option Value → va_W → Nat → Nat → Prop := fun r w dc ds => ∃ (F154791 : Nat → va_E) (o154790 : Int32), r = some (.int o154790) ∧ w = va_pl P153872 F154791 ∧ RS D I P153872 F154791 γ el ∧ rStr γ F153873 F154791 ∧ dc ≤ 0 ∧ ds ≤ 0 ∧ gB o154790 0 8212 ∧ (((fI (F153873 q153874) 32).toInt ≤ 8172 ∧ o154790.toInt = (fI (F153873 q153874) 32).toInt + 20 ∧ (fI (F154791 q153874) 32).toInt = (fI (F153873 q153874) 32).toInt + 20 ∧ (fI (F154791 q153874) 30).toInt = 0) ∨ (8172 < (fI (F153873 q153874) 32).toInt ∧ (fI (F154791 q153874) 30).toInt = 1 ∧ (fI (F154791 q153874) 32).toInt = (fI (F153873 q153874) 32).toInt))
set_option maxRecDepth 100000 in
set_option maxHeartbeats 4000000 in
theorem ct_153880_SpillForgeModel_feed (l : Launch) (hl0 : l.stackTraces = false) (D : va_G) (I : FieldType → ClassId) (γ el : Nat → Nat → Nat) (P153872 : List Nat) (F153873 : Nat → va_E) (q153874 : Nat) (p153875 : Int32) (p153876 : Int32) (p153877 : Int32) (p153878 : Int32) (p153879 : Int32) (hT : RS D I P153872 F153873 γ el) (htq153874 : rKd γ q153874 10) : CtA (gV D I) l yX17_feed cX17_feed 6 (some FieldType.int) 1 23 0 0 [.ref q153874, .int p153875, .int p153876, .int p153877, .int p153878, .int p153879] (va_pl P153872 F153873) (pt_153880_SpillForgeModel_feed D I γ el P153872 F153873 q153874 p153875 p153876 p153877 p153878 p153879) gNA := by
  refine CtA_of hl0 (by decide) (Nat.le_of_ble_eq_true rfl) ?_
  have bp153875 := gB_any p153875
  have bp153876 := gB_any p153876
  have bp153877 := gB_any p153877
  have bp153878 := gB_any p153878
  have bp153879 := gB_any p153879
  have hm153881 : q153874 ∈ P153872 := RS_m hT htq153874 (by decide)
  obtain ⟨q153883, q153884, p153885, p153886, p153887, p153888, p153889, p153890, p153891, p153892, p153893, p153894, p153895, p153896, p153897, p153898, p153899, he153882, hB153926, ht153900, ht153901, ht153902, ht153903, ht153904, ht153905, ht153906, ht153907, ht153908, ht153909, ht153910, ht153911, ht153912, ht153913, ht153914, ht153915, ht153916, ht153917, ht153918, ht153919, ht153920, ht153921, ht153922, ht153923, hB153927⟩ := show rk_10 γ (F153873 q153874) from RS_o hT htq153874
  have ac153928 : (fI (F153873 q153874) 32).toInt = p153897.toInt := by rw [he153882]; rfl
  have bp153897 : gB p153897 0 8192 := (hB153926.2.2.2.2.2.2.2.1)
  have ac153929 : (fI (F153873 q153874) 30).toInt = p153896.toInt := by rw [he153882]; rfl
  have bp153896 : gB p153896 (-2147483648) 2147483647 := (gB_any p153896)
  refine G_aload_n 0 dr_cX17_feed_0 rfl ?_
  refine G_iconst 0 dr_cX17_feed_1 (by decide +kernel) ?_
  refine Gp_put 30 hm153881 he153882 dr_cX17_feed_2 (gk_X17 D I) (Nat.le_of_ble_eq_true rfl) wr_7_104 rfl rfl rfl (Nat.le_of_ble_eq_true rfl) (fun F153930 e153931 n153932 => ?_)
  have he153933 : F153930 q153874 = .inr (22, [.ref (γ 9 0), .ref (γ 9 1), .ref (γ 9 2), .ref (γ 9 3), .ref (γ 9 4), .ref (γ 9 5), .ref (γ 9 6), .ref (γ 9 7), .ref (γ 9 8), .int p153885, .int p153886, .int p153887, .int p153888, .int p153889, .int p153890, .ref (γ 9 15), .ref (γ 9 16), .ref (γ 9 17), .ref (γ 9 18), .ref (γ 9 19), .ref (γ 9 20), .ref (γ 9 21), .ref (γ 9 22), .int p153891, .int p153892, .int p153893, .int p153894, .int p153895, .ref q153883, .ref (γ 9 29), .int 0, .ref (γ 9 31), .int p153897, .int p153898, .int p153899, .ref q153884]) := e153931
  have hs153934 : rStr γ F153873 F153930 := rStr_put (rStr_rf (γ := γ) (F := F153873)) n153932 htq153874 (by decide)
  refine G_aload_n 0 dr_cX17_feed_5 rfl ?_
  refine Gp_get 32 hm153881 he153933 dr_cX17_feed_6 (gk_X17 D I) (Nat.le_of_ble_eq_true rfl) wr_7_106 rfl ?_
  refine G_bipush 20 dr_cX17_feed_9 (by decide +kernel) ?_
  refine G_iadd dr_cX17_feed_11 (G_nam fun z153935 hz153935 => ?_)
  have ez153935 : z153935.toInt = p153897.toInt + 20 := by rw [gI_add hz153935 bp153897 (gBl (show Int32.toInt 20 = 20 by decide)) (by decide) (by decide), show Int32.toInt 20 = 20 from by decide]
  have bz153935 : gB z153935 20 8212 := gB_add (gI_add hz153935 bp153897 (gBl (show Int32.toInt 20 = 20 by decide)) (by decide) (by decide)) bp153897 (gBl (show Int32.toInt 20 = 20 by decide)) (by decide) (by decide)
  refine G_sipush 8192 dr_cX17_feed_12 (by decide +kernel) ?_
  refine G_icmp_le 24 dr_cX17_feed_15 (by decide +kernel) (fun hc153936 => ?_) (fun hc153936 => ?_)
  · have r153937 : z153935.toInt ≤ 8192 := gj_le hc153936 (show Int32.toInt 8192 = 8192 by decide)
    have bz153935' : gB z153935 20 8192 := ⟨by omega, by omega⟩
    refine G_aload_n 0 dr_cX17_feed_24 rfl ?_
    refine G_iload_n 1 dr_cX17_feed_25 rfl ?_
    refine G_aload_n 0 dr_cX17_feed_26 rfl ?_
    refine Gp_get 32 hm153881 he153933 dr_cX17_feed_27 (gk_X17 D I) (Nat.le_of_ble_eq_true rfl) wr_7_106 rfl ?_
    have hT153938 : RS D I P153872 F153930 γ el := RS_set hT n153932 htq153874 (by decide) ⟨q153883, q153884, p153885, p153886, p153887, p153888, p153889, p153890, p153891, p153892, p153893, p153894, p153895, 0, p153897, p153898, p153899, he153933, ⟨(hB153926.1), (hB153926.2.1), (hB153926.2.2.1), (hB153926.2.2.2.1), (hB153926.2.2.2.2.1), (hB153926.2.2.2.2.2.1), (hB153926.2.2.2.2.2.2.1), bp153897, (hB153926.2.2.2.2.2.2.2.2)⟩, ht153900, ht153901, ht153902, ht153903, ht153904, ht153905, ht153906, ht153907, ht153908, ht153909, ht153910, ht153911, ht153912, ht153913, ht153914, ht153915, ht153916, ht153917, ht153918, ht153919, ht153920, ht153921, ht153922, ht153923, hB153927⟩
    have ac154401 : (fI (F153930 q153874) 32).toInt = p153897.toInt := by rw [he153933]; rfl
    have ac154402 : (fI (F153930 q153874) 30).toInt = 0 := by rw [he153933]; show Int32.toInt 0 = 0; decide
    refine Gw_callV (As := [.int p153875, .int p153897]) (gV_ok D I) (ct_153944_SpillForgeModel_word l hl0 D I γ el P153872 F153930 q153874 p153875 p153897 hT153938 htq153874 ⟨by omega, by omega⟩) dr_cX17_feed_30 ⟨wr_7_195, wr_1_14, wr_7_198, by decide, rfl, (Nat.le_of_ble_eq_true rfl), (Nat.le_of_ble_eq_true rfl)⟩ wr_7_197 wr_p_74 hm153881 he153933 rfl (show 0 + 0 ≤ 0 by first | omega | decide) (show 0 + 0 ≤ 0 by first | omega | decide) (Nat.le_of_ble_eq_true rfl) (fun r154406 w154407 dc154403 ds154404 hp154405 => ?_) (fun _ _ _ _ _ z => z.elim)
    obtain ⟨F154410, rfl, rfl, hT154411, hs154412, hdc, hds, x154408, x154409⟩ := hp154405
    have hs154413 : rStr γ F153873 F154410 := rStr_tr hs153934 hs154412
    change G _ _ _ _ _ _ _ _ _ _ _
    refine G_widen (cs' := 0) (sl' := 0) (by omega) (by omega) ?_
    refine G_aload_n 0 dr_cX17_feed_33 rfl ?_
    refine G_iload_n 2 dr_cX17_feed_34 rfl ?_
    refine G_aload_n 0 dr_cX17_feed_35 rfl ?_
    have hm154414 : q153874 ∈ P153872 := RS_m hT154411 htq153874 (by decide)
    obtain ⟨q154416, q154417, p154418, p154419, p154420, p154421, p154422, p154423, p154424, p154425, p154426, p154427, p154428, p154429, p154430, p154431, p154432, he154415, hB154459, ht154433, ht154434, ht154435, ht154436, ht154437, ht154438, ht154439, ht154440, ht154441, ht154442, ht154443, ht154444, ht154445, ht154446, ht154447, ht154448, ht154449, ht154450, ht154451, ht154452, ht154453, ht154454, ht154455, ht154456, hB154460⟩ := show rk_10 γ (F154410 q153874) from RS_o hT154411 htq153874
    have ac154461 : (fI (F154410 q153874) 32).toInt = p154430.toInt := by rw [he154415]; rfl
    have bp154430 : gB p154430 0 8192 := (hB154459.2.2.2.2.2.2.2.1)
    have ac154462 : (fI (F154410 q153874) 30).toInt = p154429.toInt := by rw [he154415]; rfl
    have bp154429 : gB p154429 (-2147483648) 2147483647 := (gB_any p154429)
    refine Gp_get 32 hm154414 he154415 dr_cX17_feed_36 (gk_X17 D I) (Nat.le_of_ble_eq_true rfl) wr_7_106 rfl ?_
    refine G_iconst 4 dr_cX17_feed_39 (by decide +kernel) ?_
    refine G_iadd dr_cX17_feed_40 (G_nam fun z154463 hz154463 => ?_)
    have ez154463 : z154463.toInt = p154430.toInt + 4 := by rw [gI_add hz154463 bp154430 (gBl (show Int32.toInt 4 = 4 by decide)) (by decide) (by decide), show Int32.toInt 4 = 4 from by decide]
    have bz154463 : gB z154463 4 8196 := gB_add (gI_add hz154463 bp154430 (gBl (show Int32.toInt 4 = 4 by decide)) (by decide) (by decide)) bp154430 (gBl (show Int32.toInt 4 = 4 by decide)) (by decide) (by decide)
    have ac154464 : (fI (F154410 q153874) 32).toInt = p154430.toInt := by rw [he154415]; rfl
    have ac154465 : (fI (F154410 q153874) 30).toInt = p154429.toInt := by rw [he154415]; rfl
    refine Gw_callV (As := [.int p153876, .int z154463]) (gV_ok D I) (ct_153944_SpillForgeModel_word l hl0 D I γ el P153872 F154410 q153874 p153876 z154463 hT154411 htq153874 ⟨by omega, by omega⟩) dr_cX17_feed_41 ⟨wr_7_195, wr_1_14, wr_7_198, by decide, rfl, (Nat.le_of_ble_eq_true rfl), (Nat.le_of_ble_eq_true rfl)⟩ wr_7_197 wr_p_74 hm154414 he154415 rfl (show 0 + 0 ≤ 0 by first | omega | decide) (show 0 + 0 ≤ 0 by first | omega | decide) (Nat.le_of_ble_eq_true rfl) (fun r154469 w154470 dc154466 ds154467 hp154468 => ?_) (fun _ _ _ _ _ z => z.elim)
    obtain ⟨F154473, rfl, rfl, hT154474, hs154475, hdc, hds, x154471, x154472⟩ := hp154468
    have hs154476 : rStr γ F153873 F154473 := rStr_tr hs154413 hs154475
    change G _ _ _ _ _ _ _ _ _ _ _
    refine G_widen (cs' := 0) (sl' := 0) (by omega) (by omega) ?_
    refine G_aload_n 0 dr_cX17_feed_44 rfl ?_
    refine G_iload_n 3 dr_cX17_feed_45 rfl ?_
    refine G_aload_n 0 dr_cX17_feed_46 rfl ?_
    have hm154477 : q153874 ∈ P153872 := RS_m hT154474 htq153874 (by decide)
    obtain ⟨q154479, q154480, p154481, p154482, p154483, p154484, p154485, p154486, p154487, p154488, p154489, p154490, p154491, p154492, p154493, p154494, p154495, he154478, hB154522, ht154496, ht154497, ht154498, ht154499, ht154500, ht154501, ht154502, ht154503, ht154504, ht154505, ht154506, ht154507, ht154508, ht154509, ht154510, ht154511, ht154512, ht154513, ht154514, ht154515, ht154516, ht154517, ht154518, ht154519, hB154523⟩ := show rk_10 γ (F154473 q153874) from RS_o hT154474 htq153874
    have ac154524 : (fI (F154473 q153874) 32).toInt = p154493.toInt := by rw [he154478]; rfl
    have bp154493 : gB p154493 0 8192 := (hB154522.2.2.2.2.2.2.2.1)
    have ac154525 : (fI (F154473 q153874) 30).toInt = p154492.toInt := by rw [he154478]; rfl
    have bp154492 : gB p154492 (-2147483648) 2147483647 := (gB_any p154492)
    refine Gp_get 32 hm154477 he154478 dr_cX17_feed_47 (gk_X17 D I) (Nat.le_of_ble_eq_true rfl) wr_7_106 rfl ?_
    refine G_bipush 8 dr_cX17_feed_50 (by decide +kernel) ?_
    refine G_iadd dr_cX17_feed_52 (G_nam fun z154526 hz154526 => ?_)
    have ez154526 : z154526.toInt = p154493.toInt + 8 := by rw [gI_add hz154526 bp154493 (gBl (show Int32.toInt 8 = 8 by decide)) (by decide) (by decide), show Int32.toInt 8 = 8 from by decide]
    have bz154526 : gB z154526 8 8200 := gB_add (gI_add hz154526 bp154493 (gBl (show Int32.toInt 8 = 8 by decide)) (by decide) (by decide)) bp154493 (gBl (show Int32.toInt 8 = 8 by decide)) (by decide) (by decide)
    have ac154527 : (fI (F154473 q153874) 32).toInt = p154493.toInt := by rw [he154478]; rfl
    have ac154528 : (fI (F154473 q153874) 30).toInt = p154492.toInt := by rw [he154478]; rfl
    refine Gw_callV (As := [.int p153877, .int z154526]) (gV_ok D I) (ct_153944_SpillForgeModel_word l hl0 D I γ el P153872 F154473 q153874 p153877 z154526 hT154474 htq153874 ⟨by omega, by omega⟩) dr_cX17_feed_53 ⟨wr_7_195, wr_1_14, wr_7_198, by decide, rfl, (Nat.le_of_ble_eq_true rfl), (Nat.le_of_ble_eq_true rfl)⟩ wr_7_197 wr_p_74 hm154477 he154478 rfl (show 0 + 0 ≤ 0 by first | omega | decide) (show 0 + 0 ≤ 0 by first | omega | decide) (Nat.le_of_ble_eq_true rfl) (fun r154532 w154533 dc154529 ds154530 hp154531 => ?_) (fun _ _ _ _ _ z => z.elim)
    obtain ⟨F154536, rfl, rfl, hT154537, hs154538, hdc, hds, x154534, x154535⟩ := hp154531
    have hs154539 : rStr γ F153873 F154536 := rStr_tr hs154476 hs154538
    change G _ _ _ _ _ _ _ _ _ _ _
    refine G_widen (cs' := 0) (sl' := 0) (by omega) (by omega) ?_
    refine G_aload_n 0 dr_cX17_feed_56 rfl ?_
    refine G_iload 4 dr_cX17_feed_57 rfl ?_
    refine G_aload_n 0 dr_cX17_feed_59 rfl ?_
    have hm154540 : q153874 ∈ P153872 := RS_m hT154537 htq153874 (by decide)
    obtain ⟨q154542, q154543, p154544, p154545, p154546, p154547, p154548, p154549, p154550, p154551, p154552, p154553, p154554, p154555, p154556, p154557, p154558, he154541, hB154585, ht154559, ht154560, ht154561, ht154562, ht154563, ht154564, ht154565, ht154566, ht154567, ht154568, ht154569, ht154570, ht154571, ht154572, ht154573, ht154574, ht154575, ht154576, ht154577, ht154578, ht154579, ht154580, ht154581, ht154582, hB154586⟩ := show rk_10 γ (F154536 q153874) from RS_o hT154537 htq153874
    have ac154587 : (fI (F154536 q153874) 32).toInt = p154556.toInt := by rw [he154541]; rfl
    have bp154556 : gB p154556 0 8192 := (hB154585.2.2.2.2.2.2.2.1)
    have ac154588 : (fI (F154536 q153874) 30).toInt = p154555.toInt := by rw [he154541]; rfl
    have bp154555 : gB p154555 (-2147483648) 2147483647 := (gB_any p154555)
    refine Gp_get 32 hm154540 he154541 dr_cX17_feed_60 (gk_X17 D I) (Nat.le_of_ble_eq_true rfl) wr_7_106 rfl ?_
    refine G_bipush 12 dr_cX17_feed_63 (by decide +kernel) ?_
    refine G_iadd dr_cX17_feed_65 (G_nam fun z154589 hz154589 => ?_)
    have ez154589 : z154589.toInt = p154556.toInt + 12 := by rw [gI_add hz154589 bp154556 (gBl (show Int32.toInt 12 = 12 by decide)) (by decide) (by decide), show Int32.toInt 12 = 12 from by decide]
    have bz154589 : gB z154589 12 8204 := gB_add (gI_add hz154589 bp154556 (gBl (show Int32.toInt 12 = 12 by decide)) (by decide) (by decide)) bp154556 (gBl (show Int32.toInt 12 = 12 by decide)) (by decide) (by decide)
    have ac154590 : (fI (F154536 q153874) 32).toInt = p154556.toInt := by rw [he154541]; rfl
    have ac154591 : (fI (F154536 q153874) 30).toInt = p154555.toInt := by rw [he154541]; rfl
    refine Gw_callV (As := [.int p153878, .int z154589]) (gV_ok D I) (ct_153944_SpillForgeModel_word l hl0 D I γ el P153872 F154536 q153874 p153878 z154589 hT154537 htq153874 ⟨by omega, by omega⟩) dr_cX17_feed_66 ⟨wr_7_195, wr_1_14, wr_7_198, by decide, rfl, (Nat.le_of_ble_eq_true rfl), (Nat.le_of_ble_eq_true rfl)⟩ wr_7_197 wr_p_74 hm154540 he154541 rfl (show 0 + 0 ≤ 0 by first | omega | decide) (show 0 + 0 ≤ 0 by first | omega | decide) (Nat.le_of_ble_eq_true rfl) (fun r154595 w154596 dc154592 ds154593 hp154594 => ?_) (fun _ _ _ _ _ z => z.elim)
    obtain ⟨F154599, rfl, rfl, hT154600, hs154601, hdc, hds, x154597, x154598⟩ := hp154594
    have hs154602 : rStr γ F153873 F154599 := rStr_tr hs154539 hs154601
    change G _ _ _ _ _ _ _ _ _ _ _
    refine G_widen (cs' := 0) (sl' := 0) (by omega) (by omega) ?_
    refine G_aload_n 0 dr_cX17_feed_69 rfl ?_
    refine G_iload 5 dr_cX17_feed_70 rfl ?_
    refine G_aload_n 0 dr_cX17_feed_72 rfl ?_
    have hm154603 : q153874 ∈ P153872 := RS_m hT154600 htq153874 (by decide)
    obtain ⟨q154605, q154606, p154607, p154608, p154609, p154610, p154611, p154612, p154613, p154614, p154615, p154616, p154617, p154618, p154619, p154620, p154621, he154604, hB154648, ht154622, ht154623, ht154624, ht154625, ht154626, ht154627, ht154628, ht154629, ht154630, ht154631, ht154632, ht154633, ht154634, ht154635, ht154636, ht154637, ht154638, ht154639, ht154640, ht154641, ht154642, ht154643, ht154644, ht154645, hB154649⟩ := show rk_10 γ (F154599 q153874) from RS_o hT154600 htq153874
    have ac154650 : (fI (F154599 q153874) 32).toInt = p154619.toInt := by rw [he154604]; rfl
    have bp154619 : gB p154619 0 8192 := (hB154648.2.2.2.2.2.2.2.1)
    have ac154651 : (fI (F154599 q153874) 30).toInt = p154618.toInt := by rw [he154604]; rfl
    have bp154618 : gB p154618 (-2147483648) 2147483647 := (gB_any p154618)
    refine Gp_get 32 hm154603 he154604 dr_cX17_feed_73 (gk_X17 D I) (Nat.le_of_ble_eq_true rfl) wr_7_106 rfl ?_
    refine G_bipush 16 dr_cX17_feed_76 (by decide +kernel) ?_
    refine G_iadd dr_cX17_feed_78 (G_nam fun z154652 hz154652 => ?_)
    have ez154652 : z154652.toInt = p154619.toInt + 16 := by rw [gI_add hz154652 bp154619 (gBl (show Int32.toInt 16 = 16 by decide)) (by decide) (by decide), show Int32.toInt 16 = 16 from by decide]
    have bz154652 : gB z154652 16 8208 := gB_add (gI_add hz154652 bp154619 (gBl (show Int32.toInt 16 = 16 by decide)) (by decide) (by decide)) bp154619 (gBl (show Int32.toInt 16 = 16 by decide)) (by decide) (by decide)
    have ac154653 : (fI (F154599 q153874) 32).toInt = p154619.toInt := by rw [he154604]; rfl
    have ac154654 : (fI (F154599 q153874) 30).toInt = p154618.toInt := by rw [he154604]; rfl
    refine Gw_callV (As := [.int p153879, .int z154652]) (gV_ok D I) (ct_153944_SpillForgeModel_word l hl0 D I γ el P153872 F154599 q153874 p153879 z154652 hT154600 htq153874 ⟨by omega, by omega⟩) dr_cX17_feed_79 ⟨wr_7_195, wr_1_14, wr_7_198, by decide, rfl, (Nat.le_of_ble_eq_true rfl), (Nat.le_of_ble_eq_true rfl)⟩ wr_7_197 wr_p_74 hm154603 he154604 rfl (show 0 + 0 ≤ 0 by first | omega | decide) (show 0 + 0 ≤ 0 by first | omega | decide) (Nat.le_of_ble_eq_true rfl) (fun r154658 w154659 dc154655 ds154656 hp154657 => ?_) (fun _ _ _ _ _ z => z.elim)
    obtain ⟨F154662, rfl, rfl, hT154663, hs154664, hdc, hds, x154660, x154661⟩ := hp154657
    have hs154665 : rStr γ F153873 F154662 := rStr_tr hs154602 hs154664
    change G _ _ _ _ _ _ _ _ _ _ _
    refine G_widen (cs' := 0) (sl' := 0) (by omega) (by omega) ?_
    refine G_aload_n 0 dr_cX17_feed_82 rfl ?_
    refine G_dup dr_cX17_feed_83 rfl ?_
    have hm154666 : q153874 ∈ P153872 := RS_m hT154663 htq153874 (by decide)
    obtain ⟨q154668, q154669, p154670, p154671, p154672, p154673, p154674, p154675, p154676, p154677, p154678, p154679, p154680, p154681, p154682, p154683, p154684, he154667, hB154711, ht154685, ht154686, ht154687, ht154688, ht154689, ht154690, ht154691, ht154692, ht154693, ht154694, ht154695, ht154696, ht154697, ht154698, ht154699, ht154700, ht154701, ht154702, ht154703, ht154704, ht154705, ht154706, ht154707, ht154708, hB154712⟩ := show rk_10 γ (F154662 q153874) from RS_o hT154663 htq153874
    have ac154713 : (fI (F154662 q153874) 32).toInt = p154682.toInt := by rw [he154667]; rfl
    have bp154682 : gB p154682 0 8192 := (hB154711.2.2.2.2.2.2.2.1)
    have ac154714 : (fI (F154662 q153874) 30).toInt = p154681.toInt := by rw [he154667]; rfl
    have bp154681 : gB p154681 (-2147483648) 2147483647 := (gB_any p154681)
    refine Gp_get 32 hm154666 he154667 dr_cX17_feed_84 (gk_X17 D I) (Nat.le_of_ble_eq_true rfl) wr_7_106 rfl ?_
    refine G_bipush 20 dr_cX17_feed_87 (by decide +kernel) ?_
    refine G_iadd dr_cX17_feed_89 (G_nam fun z154715 hz154715 => ?_)
    have ez154715 : z154715.toInt = p154682.toInt + 20 := by rw [gI_add hz154715 bp154682 (gBl (show Int32.toInt 20 = 20 by decide)) (by decide) (by decide), show Int32.toInt 20 = 20 from by decide]
    have bz154715 : gB z154715 20 8212 := gB_add (gI_add hz154715 bp154682 (gBl (show Int32.toInt 20 = 20 by decide)) (by decide) (by decide)) bp154682 (gBl (show Int32.toInt 20 = 20 by decide)) (by decide) (by decide)
    refine Gp_put 32 hm154666 he154667 dr_cX17_feed_90 (gk_X17 D I) (Nat.le_of_ble_eq_true rfl) wr_7_106 rfl rfl rfl (Nat.le_of_ble_eq_true rfl) (fun F154716 e154717 n154718 => ?_)
    have he154719 : F154716 q153874 = .inr (22, [.ref (γ 9 0), .ref (γ 9 1), .ref (γ 9 2), .ref (γ 9 3), .ref (γ 9 4), .ref (γ 9 5), .ref (γ 9 6), .ref (γ 9 7), .ref (γ 9 8), .int p154670, .int p154671, .int p154672, .int p154673, .int p154674, .int p154675, .ref (γ 9 15), .ref (γ 9 16), .ref (γ 9 17), .ref (γ 9 18), .ref (γ 9 19), .ref (γ 9 20), .ref (γ 9 21), .ref (γ 9 22), .int p154676, .int p154677, .int p154678, .int p154679, .int p154680, .ref q154668, .ref (γ 9 29), .int p154681, .ref (γ 9 31), .int z154715, .int p154683, .int p154684, .ref q154669]) := e154717
    have hs154720 : rStr γ F153873 F154716 := rStr_put hs154665 n154718 htq153874 (by decide)
    refine G_aload_n 0 dr_cX17_feed_93 rfl ?_
    refine Gp_get 32 hm154666 he154719 dr_cX17_feed_94 (gk_X17 D I) (Nat.le_of_ble_eq_true rfl) wr_7_106 rfl ?_
    have hT154721 : RS D I P153872 F154716 γ el := RS_set hT154663 n154718 htq153874 (by decide) ⟨q154668, q154669, p154670, p154671, p154672, p154673, p154674, p154675, p154676, p154677, p154678, p154679, p154680, p154681, z154715, p154683, p154684, he154719, ⟨(hB154711.1), (hB154711.2.1), (hB154711.2.2.1), (hB154711.2.2.2.1), (hB154711.2.2.2.2.1), (hB154711.2.2.2.2.2.1), (hB154711.2.2.2.2.2.2.1), ⟨by omega, by omega⟩, (hB154711.2.2.2.2.2.2.2.2)⟩, ht154685, ht154686, ht154687, ht154688, ht154689, ht154690, ht154691, ht154692, ht154693, ht154694, ht154695, ht154696, ht154697, ht154698, ht154699, ht154700, ht154701, ht154702, ht154703, ht154704, ht154705, ht154706, ht154707, ht154708, hB154712⟩
    have ac154722 : (fI (F154716 q153874) 32).toInt = z154715.toInt := by rw [he154719]; rfl
    have ac154723 : (fI (F154716 q153874) 30).toInt = p154681.toInt := by rw [he154719]; rfl
    exact G_iretA dr_cX17_feed_97 rfl (Nat.le_of_ble_eq_true rfl) (Nat.le_of_ble_eq_true rfl) ⟨F154716, z154715, rfl, rfl, hT154721, hs154720, (Nat.le_of_ble_eq_true rfl), (Nat.le_of_ble_eq_true rfl), (gB_w bz154715 (by decide) (by decide)), (by omega)⟩
  · have r154724 : 8192 < z153935.toInt := gj_nle hc153936 (show Int32.toInt 8192 = 8192 by decide)
    have bz153935' : gB z153935 8193 8212 := ⟨by omega, by omega⟩
    refine G_aload_n 0 dr_cX17_feed_18 rfl ?_
    refine G_iconst 1 dr_cX17_feed_19 (by decide +kernel) ?_
    have hT154725 : RS D I P153872 F153930 γ el := RS_set hT n153932 htq153874 (by decide) ⟨q153883, q153884, p153885, p153886, p153887, p153888, p153889, p153890, p153891, p153892, p153893, p153894, p153895, 0, p153897, p153898, p153899, he153933, ⟨(hB153926.1), (hB153926.2.1), (hB153926.2.2.1), (hB153926.2.2.2.1), (hB153926.2.2.2.2.1), (hB153926.2.2.2.2.2.1), (hB153926.2.2.2.2.2.2.1), bp153897, (hB153926.2.2.2.2.2.2.2.2)⟩, ht153900, ht153901, ht153902, ht153903, ht153904, ht153905, ht153906, ht153907, ht153908, ht153909, ht153910, ht153911, ht153912, ht153913, ht153914, ht153915, ht153916, ht153917, ht153918, ht153919, ht153920, ht153921, ht153922, ht153923, hB153927⟩
    have ac154726 : (fI (F153930 q153874) 32).toInt = p153897.toInt := by rw [he153933]; rfl
    have ac154727 : (fI (F153930 q153874) 30).toInt = 0 := by rw [he153933]; show Int32.toInt 0 = 0; decide
    refine Gw_callV (As := [.int 1]) (gV_ok D I) (ct_153505_SpillForgeModel_no l hl0 D I γ el P153872 F153930 q153874 1 hT154725 htq153874) dr_cX17_feed_20 ⟨wr_7_191, wr_1_14, wr_7_194, by decide, rfl, (Nat.le_of_ble_eq_true rfl), (Nat.le_of_ble_eq_true rfl)⟩ wr_7_193 wr_p_73 hm153881 he153933 rfl (show 0 + 0 ≤ 0 by first | omega | decide) (show 0 + 0 ≤ 0 by first | omega | decide) (Nat.le_of_ble_eq_true rfl) (fun r154731 w154732 dc154728 ds154729 hp154730 => ?_) (fun _ _ _ _ _ z => z.elim)
    obtain ⟨F154735, rfl, rfl, hT154736, hs154737, hdc, hds, x154733, x154734⟩ := hp154730
    have hs154738 : rStr γ F153873 F154735 := rStr_tr hs153934 hs154737
    rw [show Int32.toInt 1 = 1 from by decide] at x154734
    change G _ _ _ _ _ _ _ (.int 0 :: _) _ _ _
    refine G_widen (cs' := 0) (sl' := 0) (by omega) (by omega) ?_
    have hm154739 : q153874 ∈ P153872 := RS_m hT154736 htq153874 (by decide)
    obtain ⟨q154741, q154742, p154743, p154744, p154745, p154746, p154747, p154748, p154749, p154750, p154751, p154752, p154753, p154754, p154755, p154756, p154757, he154740, hB154784, ht154758, ht154759, ht154760, ht154761, ht154762, ht154763, ht154764, ht154765, ht154766, ht154767, ht154768, ht154769, ht154770, ht154771, ht154772, ht154773, ht154774, ht154775, ht154776, ht154777, ht154778, ht154779, ht154780, ht154781, hB154785⟩ := show rk_10 γ (F154735 q153874) from RS_o hT154736 htq153874
    have ac154786 : (fI (F154735 q153874) 32).toInt = p154755.toInt := by rw [he154740]; rfl
    have bp154755 : gB p154755 0 8192 := (hB154784.2.2.2.2.2.2.2.1)
    have ac154787 : (fI (F154735 q153874) 30).toInt = p154754.toInt := by rw [he154740]; rfl
    have bp154754 : gB p154754 (-2147483648) 2147483647 := (gB_any p154754)
    have ac154788 : (fI (F154735 q153874) 32).toInt = p154755.toInt := by rw [he154740]; rfl
    have ac154789 : (fI (F154735 q153874) 30).toInt = p154754.toInt := by rw [he154740]; rfl
    exact G_iretA dr_cX17_feed_23 rfl (Nat.le_of_ble_eq_true rfl) (Nat.le_of_ble_eq_true rfl) ⟨F154735, 0, rfl, rfl, hT154736, hs154738, (Nat.le_of_ble_eq_true rfl), (Nat.le_of_ble_eq_true rfl), (gB_w (gBl (show Int32.toInt 0 = 0 by decide)) (by decide) (by decide)), (by have qa0 : Int32.toInt 0 = 0 := (by decide); omega)⟩
abbrev ky_154796_SpillForgeModel_end : gKey := (cX17_end, 2, "SpillForgeModel", (some FieldType.int), [], "end", fun _ _ => True)
def pt_154796_SpillForgeModel_end (D : va_G) (I : FieldType → ClassId) (γ el : Nat → Nat → Nat) (P154792 : List Nat) (F154793 : Nat → va_E) (q154794 : Nat) (p154795 : Int32) : Option Value → va_W → Nat → Nat → Prop := fun r w dc ds => ∃ (F154997 : Nat → va_E) (o154996 : Int32), r = some (.int o154996) ∧ w = va_pl P154792 F154997 ∧ RS D I P154792 F154997 γ el ∧ rStr γ F154793 F154997 ∧ dc ≤ 0 ∧ ds ≤ 0 ∧ gB o154996 0 8192 ∧ ((0 ≤ p154795.toInt ∧ p154795.toInt ≤ (fI (F154793 q154794) 32).toInt ∧ o154996.toInt = p154795.toInt ∧ (fI (F154997 q154794) 32).toInt = p154795.toInt ∧ (fI (F154997 q154794) 30).toInt = 0) ∨ ((p154795.toInt < 0 ∨ (fI (F154793 q154794) 32).toInt < p154795.toInt) ∧ (fI (F154997 q154794) 30).toInt = 1 ∧ (fI (F154997 q154794) 32).toInt = (fI (F154793 q154794) 32).toInt))
set_option maxRecDepth 100000 in
set_option maxHeartbeats 4000000 in
theorem ct_154796_SpillForgeModel_end (l : Launch) (hl0 : l.stackTraces = false) (D : va_G) (I : FieldType → ClassId) (γ el : Nat → Nat → Nat) (P154792 : List Nat) (F154793 : Nat → va_E) (q154794 : Nat) (p154795 : Int32) (hT : RS D I P154792 F154793 γ el) (htq154794 : rKd γ q154794 10) : CtA (gV D I) l yX17_end cX17_end 2 (some FieldType.int) 1 21 0 0 [.ref q154794, .int p154795] (va_pl P154792 F154793) (pt_154796_SpillForgeModel_end D I γ el P154792 F154793 q154794 p154795) gNA := by
  refine CtA_of hl0 (by decide) (Nat.le_of_ble_eq_true rfl) ?_
  have bp154795 := gB_any p154795
  have hm154797 : q154794 ∈ P154792 := RS_m hT htq154794 (by decide)
  obtain ⟨q154799, q154800, p154801, p154802, p154803, p154804, p154805, p154806, p154807, p154808, p154809, p154810, p154811, p154812, p154813, p154814, p154815, he154798, hB154842, ht154816, ht154817, ht154818, ht154819, ht154820, ht154821, ht154822, ht154823, ht154824, ht154825, ht154826, ht154827, ht154828, ht154829, ht154830, ht154831, ht154832, ht154833, ht154834, ht154835, ht154836, ht154837, ht154838, ht154839, hB154843⟩ := show rk_10 γ (F154793 q154794) from RS_o hT htq154794
  have ac154844 : (fI (F154793 q154794) 32).toInt = p154813.toInt := by rw [he154798]; rfl
  have bp154813 : gB p154813 0 8192 := (hB154842.2.2.2.2.2.2.2.1)
  have ac154845 : (fI (F154793 q154794) 30).toInt = p154812.toInt := by rw [he154798]; rfl
  have bp154812 : gB p154812 (-2147483648) 2147483647 := (gB_any p154812)
  refine G_aload_n 0 dr_cX17_end_0 rfl ?_
  refine G_iconst 0 dr_cX17_end_1 (by decide +kernel) ?_
  refine Gp_put 30 hm154797 he154798 dr_cX17_end_2 (gk_X17 D I) (Nat.le_of_ble_eq_true rfl) wr_7_104 rfl rfl rfl (Nat.le_of_ble_eq_true rfl) (fun F154846 e154847 n154848 => ?_)
  have he154849 : F154846 q154794 = .inr (22, [.ref (γ 9 0), .ref (γ 9 1), .ref (γ 9 2), .ref (γ 9 3), .ref (γ 9 4), .ref (γ 9 5), .ref (γ 9 6), .ref (γ 9 7), .ref (γ 9 8), .int p154801, .int p154802, .int p154803, .int p154804, .int p154805, .int p154806, .ref (γ 9 15), .ref (γ 9 16), .ref (γ 9 17), .ref (γ 9 18), .ref (γ 9 19), .ref (γ 9 20), .ref (γ 9 21), .ref (γ 9 22), .int p154807, .int p154808, .int p154809, .int p154810, .int p154811, .ref q154799, .ref (γ 9 29), .int 0, .ref (γ 9 31), .int p154813, .int p154814, .int p154815, .ref q154800]) := e154847
  have hs154850 : rStr γ F154793 F154846 := rStr_put (rStr_rf (γ := γ) (F := F154793)) n154848 htq154794 (by decide)
  refine G_iload_n 1 dr_cX17_end_5 rfl ?_
  refine G_if_lt 17 dr_cX17_end_6 (by decide +kernel) (fun hc154851 => ?_) (fun hc154851 => ?_)
  · have r154852 : p154795.toInt < 0 := gj_lt hc154851 (show Int32.toInt 0 = 0 by decide)
    have bp154795' : gB p154795 (-2147483648) (-1) := ⟨by omega, by omega⟩
    refine G_aload_n 0 dr_cX17_end_17 rfl ?_
    refine G_iconst 1 dr_cX17_end_18 (by decide +kernel) ?_
    have hT154853 : RS D I P154792 F154846 γ el := RS_set hT n154848 htq154794 (by decide) ⟨q154799, q154800, p154801, p154802, p154803, p154804, p154805, p154806, p154807, p154808, p154809, p154810, p154811, 0, p154813, p154814, p154815, he154849, ⟨(hB154842.1), (hB154842.2.1), (hB154842.2.2.1), (hB154842.2.2.2.1), (hB154842.2.2.2.2.1), (hB154842.2.2.2.2.2.1), (hB154842.2.2.2.2.2.2.1), bp154813, (hB154842.2.2.2.2.2.2.2.2)⟩, ht154816, ht154817, ht154818, ht154819, ht154820, ht154821, ht154822, ht154823, ht154824, ht154825, ht154826, ht154827, ht154828, ht154829, ht154830, ht154831, ht154832, ht154833, ht154834, ht154835, ht154836, ht154837, ht154838, ht154839, hB154843⟩
    have ac154854 : (fI (F154846 q154794) 32).toInt = p154813.toInt := by rw [he154849]; rfl
    have ac154855 : (fI (F154846 q154794) 30).toInt = 0 := by rw [he154849]; show Int32.toInt 0 = 0; decide
    refine Gw_callV (As := [.int 1]) (gV_ok D I) (ct_153505_SpillForgeModel_no l hl0 D I γ el P154792 F154846 q154794 1 hT154853 htq154794) dr_cX17_end_19 ⟨wr_7_191, wr_1_14, wr_7_194, by decide, rfl, (Nat.le_of_ble_eq_true rfl), (Nat.le_of_ble_eq_true rfl)⟩ wr_7_193 wr_p_73 hm154797 he154849 rfl (show 0 + 0 ≤ 0 by first | omega | decide) (show 0 + 0 ≤ 0 by first | omega | decide) (Nat.le_of_ble_eq_true rfl) (fun r154859 w154860 dc154856 ds154857 hp154858 => ?_) (fun _ _ _ _ _ z => z.elim)
    obtain ⟨F154863, rfl, rfl, hT154864, hs154865, hdc, hds, x154861, x154862⟩ := hp154858
    have hs154866 : rStr γ F154793 F154863 := rStr_tr hs154850 hs154865
    rw [show Int32.toInt 1 = 1 from by decide] at x154862
    change G _ _ _ _ _ _ _ (.int 0 :: _) _ _ _
    refine G_widen (cs' := 0) (sl' := 0) (by omega) (by omega) ?_
    have hm154867 : q154794 ∈ P154792 := RS_m hT154864 htq154794 (by decide)
    obtain ⟨q154869, q154870, p154871, p154872, p154873, p154874, p154875, p154876, p154877, p154878, p154879, p154880, p154881, p154882, p154883, p154884, p154885, he154868, hB154912, ht154886, ht154887, ht154888, ht154889, ht154890, ht154891, ht154892, ht154893, ht154894, ht154895, ht154896, ht154897, ht154898, ht154899, ht154900, ht154901, ht154902, ht154903, ht154904, ht154905, ht154906, ht154907, ht154908, ht154909, hB154913⟩ := show rk_10 γ (F154863 q154794) from RS_o hT154864 htq154794
    have ac154914 : (fI (F154863 q154794) 32).toInt = p154883.toInt := by rw [he154868]; rfl
    have bp154883 : gB p154883 0 8192 := (hB154912.2.2.2.2.2.2.2.1)
    have ac154915 : (fI (F154863 q154794) 30).toInt = p154882.toInt := by rw [he154868]; rfl
    have bp154882 : gB p154882 (-2147483648) 2147483647 := (gB_any p154882)
    have ac154916 : (fI (F154863 q154794) 32).toInt = p154883.toInt := by rw [he154868]; rfl
    have ac154917 : (fI (F154863 q154794) 30).toInt = p154882.toInt := by rw [he154868]; rfl
    exact G_iretA dr_cX17_end_22 rfl (Nat.le_of_ble_eq_true rfl) (Nat.le_of_ble_eq_true rfl) ⟨F154863, 0, rfl, rfl, hT154864, hs154866, (Nat.le_of_ble_eq_true rfl), (Nat.le_of_ble_eq_true rfl), (gB_w (gBl (show Int32.toInt 0 = 0 by decide)) (by decide) (by decide)), (by have qa0 : Int32.toInt 0 = 0 := (by decide); omega)⟩
  · have r154918 : 0 ≤ p154795.toInt := gj_nlt hc154851 (show Int32.toInt 0 = 0 by decide)
    have bp154795' : gB p154795 0 2147483647 := ⟨by omega, by omega⟩
    refine G_iload_n 1 dr_cX17_end_9 rfl ?_
    refine G_aload_n 0 dr_cX17_end_10 rfl ?_
    refine Gp_get 32 hm154797 he154849 dr_cX17_end_11 (gk_X17 D I) (Nat.le_of_ble_eq_true rfl) wr_7_106 rfl ?_
    refine G_icmp_le 23 dr_cX17_end_14 (by decide +kernel) (fun hc154919 => ?_) (fun hc154919 => ?_)
    · have r154920 : p154795.toInt ≤ p154813.toInt := gC_le hc154919
      have bp154795'' : gB p154795 0 8192 := ⟨by omega, by omega⟩
      refine G_aload_n 0 dr_cX17_end_23 rfl ?_
      refine G_iload_n 1 dr_cX17_end_24 rfl ?_
      refine Gp_put 32 hm154797 he154849 dr_cX17_end_25 (gk_X17 D I) (Nat.le_of_ble_eq_true rfl) wr_7_106 rfl rfl rfl (Nat.le_of_ble_eq_true rfl) (fun F154921 e154922 n154923 => ?_)
      have he154924 : F154921 q154794 = .inr (22, [.ref (γ 9 0), .ref (γ 9 1), .ref (γ 9 2), .ref (γ 9 3), .ref (γ 9 4), .ref (γ 9 5), .ref (γ 9 6), .ref (γ 9 7), .ref (γ 9 8), .int p154801, .int p154802, .int p154803, .int p154804, .int p154805, .int p154806, .ref (γ 9 15), .ref (γ 9 16), .ref (γ 9 17), .ref (γ 9 18), .ref (γ 9 19), .ref (γ 9 20), .ref (γ 9 21), .ref (γ 9 22), .int p154807, .int p154808, .int p154809, .int p154810, .int p154811, .ref q154799, .ref (γ 9 29), .int 0, .ref (γ 9 31), .int p154795, .int p154814, .int p154815, .ref q154800]) := e154922
      have hs154925 : rStr γ F154793 F154921 := rStr_put hs154850 n154923 htq154794 (by decide)
      have n154926 : ∀ b, b ≠ q154794 → F154921 b = F154793 b := fun b hb => (n154923 b hb).trans (n154848 b hb)
      refine G_iload_n 1 dr_cX17_end_28 rfl ?_
      have hT154927 : RS D I P154792 F154921 γ el := RS_set hT n154926 htq154794 (by decide) ⟨q154799, q154800, p154801, p154802, p154803, p154804, p154805, p154806, p154807, p154808, p154809, p154810, p154811, 0, p154795, p154814, p154815, he154924, ⟨(hB154842.1), (hB154842.2.1), (hB154842.2.2.1), (hB154842.2.2.2.1), (hB154842.2.2.2.2.1), (hB154842.2.2.2.2.2.1), (hB154842.2.2.2.2.2.2.1), bp154795'', (hB154842.2.2.2.2.2.2.2.2)⟩, ht154816, ht154817, ht154818, ht154819, ht154820, ht154821, ht154822, ht154823, ht154824, ht154825, ht154826, ht154827, ht154828, ht154829, ht154830, ht154831, ht154832, ht154833, ht154834, ht154835, ht154836, ht154837, ht154838, ht154839, hB154843⟩
      have ac154928 : (fI (F154921 q154794) 32).toInt = p154795.toInt := by rw [he154924]; rfl
      have ac154929 : (fI (F154921 q154794) 30).toInt = 0 := by rw [he154924]; show Int32.toInt 0 = 0; decide
      exact G_iretA dr_cX17_end_29 rfl (Nat.le_of_ble_eq_true rfl) (Nat.le_of_ble_eq_true rfl) ⟨F154921, p154795, rfl, rfl, hT154927, hs154925, (Nat.le_of_ble_eq_true rfl), (Nat.le_of_ble_eq_true rfl), bp154795'', (by omega)⟩
    · have r154930 : p154813.toInt < p154795.toInt := gC_nle hc154919
      have bp154795'' : gB p154795 1 2147483647 := ⟨by omega, by omega⟩
      refine G_aload_n 0 dr_cX17_end_17 rfl ?_
      refine G_iconst 1 dr_cX17_end_18 (by decide +kernel) ?_
      have hT154931 : RS D I P154792 F154846 γ el := RS_set hT n154848 htq154794 (by decide) ⟨q154799, q154800, p154801, p154802, p154803, p154804, p154805, p154806, p154807, p154808, p154809, p154810, p154811, 0, p154813, p154814, p154815, he154849, ⟨(hB154842.1), (hB154842.2.1), (hB154842.2.2.1), (hB154842.2.2.2.1), (hB154842.2.2.2.2.1), (hB154842.2.2.2.2.2.1), (hB154842.2.2.2.2.2.2.1), bp154813, (hB154842.2.2.2.2.2.2.2.2)⟩, ht154816, ht154817, ht154818, ht154819, ht154820, ht154821, ht154822, ht154823, ht154824, ht154825, ht154826, ht154827, ht154828, ht154829, ht154830, ht154831, ht154832, ht154833, ht154834, ht154835, ht154836, ht154837, ht154838, ht154839, hB154843⟩
      have ac154932 : (fI (F154846 q154794) 32).toInt = p154813.toInt := by rw [he154849]; rfl
      have ac154933 : (fI (F154846 q154794) 30).toInt = 0 := by rw [he154849]; show Int32.toInt 0 = 0; decide
      refine Gw_callV (As := [.int 1]) (gV_ok D I) (ct_153505_SpillForgeModel_no l hl0 D I γ el P154792 F154846 q154794 1 hT154931 htq154794) dr_cX17_end_19 ⟨wr_7_191, wr_1_14, wr_7_194, by decide, rfl, (Nat.le_of_ble_eq_true rfl), (Nat.le_of_ble_eq_true rfl)⟩ wr_7_193 wr_p_73 hm154797 he154849 rfl (show 0 + 0 ≤ 0 by first | omega | decide) (show 0 + 0 ≤ 0 by first | omega | decide) (Nat.le_of_ble_eq_true rfl) (fun r154937 w154938 dc154934 ds154935 hp154936 => ?_) (fun _ _ _ _ _ z => z.elim)
      obtain ⟨F154941, rfl, rfl, hT154942, hs154943, hdc, hds, x154939, x154940⟩ := hp154936
      have hs154944 : rStr γ F154793 F154941 := rStr_tr hs154850 hs154943
      rw [show Int32.toInt 1 = 1 from by decide] at x154940
      change G _ _ _ _ _ _ _ (.int 0 :: _) _ _ _
      refine G_widen (cs' := 0) (sl' := 0) (by omega) (by omega) ?_
      have hm154945 : q154794 ∈ P154792 := RS_m hT154942 htq154794 (by decide)
      obtain ⟨q154947, q154948, p154949, p154950, p154951, p154952, p154953, p154954, p154955, p154956, p154957, p154958, p154959, p154960, p154961, p154962, p154963, he154946, hB154990, ht154964, ht154965, ht154966, ht154967, ht154968, ht154969, ht154970, ht154971, ht154972, ht154973, ht154974, ht154975, ht154976, ht154977, ht154978, ht154979, ht154980, ht154981, ht154982, ht154983, ht154984, ht154985, ht154986, ht154987, hB154991⟩ := show rk_10 γ (F154941 q154794) from RS_o hT154942 htq154794
      have ac154992 : (fI (F154941 q154794) 32).toInt = p154961.toInt := by rw [he154946]; rfl
      have bp154961 : gB p154961 0 8192 := (hB154990.2.2.2.2.2.2.2.1)
      have ac154993 : (fI (F154941 q154794) 30).toInt = p154960.toInt := by rw [he154946]; rfl
      have bp154960 : gB p154960 (-2147483648) 2147483647 := (gB_any p154960)
      have ac154994 : (fI (F154941 q154794) 32).toInt = p154961.toInt := by rw [he154946]; rfl
      have ac154995 : (fI (F154941 q154794) 30).toInt = p154960.toInt := by rw [he154946]; rfl
      exact G_iretA dr_cX17_end_22 rfl (Nat.le_of_ble_eq_true rfl) (Nat.le_of_ble_eq_true rfl) ⟨F154941, 0, rfl, rfl, hT154942, hs154944, (Nat.le_of_ble_eq_true rfl), (Nat.le_of_ble_eq_true rfl), (gB_w (gBl (show Int32.toInt 0 = 0 by decide)) (by decide) (by decide)), (by have qa0 : Int32.toInt 0 = 0 := (by decide); omega)⟩
