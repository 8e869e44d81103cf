theorem dr_cX17_shown_0 : decode cX17_shown 0 = .ok (.aload_n 0, 1) := by decide +kernel
theorem dr_cX17_shown_1 : decode cX17_shown 1 = .ok (.iconst 0, 1) := by decide +kernel
theorem dr_cX17_shown_2 : decode cX17_shown 2 = .ok (.putfield 380, 3) := by decide +kernel
theorem dr_cX17_shown_5 : decode cX17_shown 5 = .ok (.iload_n 1, 1) := by decide +kernel
theorem dr_cX17_shown_6 : decode cX17_shown 6 = .ok (.ifCond .lt 20, 3) := by decide +kernel
theorem dr_cX17_shown_26 : decode cX17_shown 26 = .ok (.aload_n 0, 1) := by decide +kernel
theorem dr_cX17_shown_27 : decode cX17_shown 27 = .ok (.iconst 1, 1) := by decide +kernel
theorem dr_cX17_shown_28 : decode cX17_shown 28 = .ok (.invokevirtual 385, 3) := by decide +kernel
theorem dr_cX17_shown_31 : decode cX17_shown 31 = .ok (.ireturn, 1) := by decide +kernel
theorem dr_cX17_shown_9 : decode cX17_shown 9 = .ok (.iload_n 1, 1) := by decide +kernel
theorem dr_cX17_shown_10 : decode cX17_shown 10 = .ok (.aload_n 0, 1) := by decide +kernel
theorem dr_cX17_shown_11 : decode cX17_shown 11 = .ok (.getfield 280, 3) := by decide +kernel
theorem dr_cX17_shown_14 : decode cX17_shown 14 = .ok (.if_icmp .ge 12, 3) := by decide +kernel
theorem dr_cX17_shown_17 : decode cX17_shown 17 = .ok (.aload_n 0, 1) := by decide +kernel
theorem dr_cX17_shown_18 : decode cX17_shown 18 = .ok (.getfield 306, 3) := by decide +kernel
theorem dr_cX17_shown_21 : decode cX17_shown 21 = .ok (.iload_n 1, 1) := by decide +kernel
theorem dr_cX17_shown_22 : decode cX17_shown 22 = .ok (.iaload, 1) := by decide +kernel
theorem dr_cX17_shown_23 : decode cX17_shown 23 = .ok (.goto 8, 3) := by decide +kernel
theorem dr_cX17_thrown_0 : decode cX17_thrown 0 = .ok (.aload_n 0, 1) := by decide +kernel
theorem dr_cX17_thrown_1 : decode cX17_thrown 1 = .ok (.getfield 380, 3) := by decide +kernel
theorem dr_cX17_thrown_4 : decode cX17_thrown 4 = .ok (.ireturn, 1) := by decide +kernel
theorem dr_cX17_word_0 : decode cX17_word 0 = .ok (.iconst 0, 1) := by decide +kernel
theorem dr_cX17_word_1 : decode cX17_word 1 = .ok (.istore_n 3, 1) := by decide +kernel
theorem dr_cX17_word_2 : decode cX17_word 2 = .ok (.iload_n 3, 1) := by decide +kernel
theorem dr_cX17_word_3 : decode cX17_word 3 = .ok (.iconst 4, 1) := by decide +kernel
theorem dr_cX17_word_4 : decode cX17_word 4 = .ok (.if_icmp .ge 27, 3) := by decide +kernel
theorem dr_cX17_word_31 : decode cX17_word 31 = .ok (.return_, 1) := by decide +kernel
theorem dr_cX17_word_7 : decode cX17_word 7 = .ok (.aload_n 0, 1) := by decide +kernel
theorem dr_cX17_word_8 : decode cX17_word 8 = .ok (.getfield 374, 3) := by decide +kernel
theorem wr_7_105 : (Jvm.Cond.fieldLink "SpillForgeModel" (374 : Nat) "SpillForgeModel" "tape" "[B") ∈ gw := gw_7 105 rfl rfl
theorem dr_cX17_word_11 : decode cX17_word 11 = .ok (.iload_n 2, 1) := by decide +kernel
theorem dr_cX17_word_12 : decode cX17_word 12 = .ok (.iload_n 3, 1) := by decide +kernel
theorem dr_cX17_word_13 : decode cX17_word 13 = .ok (.iadd, 1) := by decide +kernel
theorem dr_cX17_word_14 : decode cX17_word 14 = .ok (.iload_n 1, 1) := by decide +kernel
theorem dr_cX17_word_15 : decode cX17_word 15 = .ok (.bipush 24, 2) := by decide +kernel
theorem dr_cX17_word_17 : decode cX17_word 17 = .ok (.bipush 8, 2) := by decide +kernel
theorem dr_cX17_word_19 : decode cX17_word 19 = .ok (.iload_n 3, 1) := by decide +kernel
theorem dr_cX17_word_20 : decode cX17_word 20 = .ok (.imul, 1) := by decide +kernel
theorem dr_cX17_word_21 : decode cX17_word 21 = .ok (.isub, 1) := by decide +kernel
theorem dr_cX17_word_22 : decode cX17_word 22 = .ok (.ishr, 1) := by decide +kernel
theorem dr_cX17_word_23 : decode cX17_word 23 = .ok (.i2b, 1) := by decide +kernel
theorem dr_cX17_word_24 : decode cX17_word 24 = .ok (.bastore, 1) := by decide +kernel
theorem dr_cX17_word_25 : decode cX17_word 25 = .ok (.iinc 3 1, 3) := by decide +kernel
theorem dr_cX17_word_28 : decode cX17_word 28 = .ok (.goto (-26), 3) := by decide +kernel
theorem dr_cX17_feed_0 : decode cX17_feed 0 = .ok (.aload_n 0, 1) := by decide +kernel
theorem dr_cX17_feed_1 : decode cX17_feed 1 = .ok (.iconst 0, 1) := by decide +kernel
theorem dr_cX17_feed_2 : decode cX17_feed 2 = .ok (.putfield 380, 3) := by decide +kernel
theorem dr_cX17_feed_5 : decode cX17_feed 5 = .ok (.aload_n 0, 1) := by decide +kernel
theorem dr_cX17_feed_6 : decode cX17_feed 6 = .ok (.getfield 383, 3) := by decide +kernel
theorem wr_7_106 : (Jvm.Cond.fieldLink "SpillForgeModel" (383 : Nat) "SpillForgeModel" "size" "I") ∈ gw := gw_7 106 rfl rfl
theorem dr_cX17_feed_9 : decode cX17_feed 9 = .ok (.bipush 20, 2) := by decide +kernel
theorem dr_cX17_feed_11 : decode cX17_feed 11 = .ok (.iadd, 1) := by decide +kernel
theorem dr_cX17_feed_12 : decode cX17_feed 12 = .ok (.sipush 8192, 3) := by decide +kernel
theorem dr_cX17_feed_15 : decode cX17_feed 15 = .ok (.if_icmp .le 9, 3) := by decide +kernel
theorem dr_cX17_feed_24 : decode cX17_feed 24 = .ok (.aload_n 0, 1) := by decide +kernel
theorem dr_cX17_feed_25 : decode cX17_feed 25 = .ok (.iload_n 1, 1) := by decide +kernel
theorem dr_cX17_feed_26 : decode cX17_feed 26 = .ok (.aload_n 0, 1) := by decide +kernel
theorem dr_cX17_feed_27 : decode cX17_feed 27 = .ok (.getfield 383, 3) := by decide +kernel
theorem dr_cX17_feed_30 : decode cX17_feed 30 = .ok (.invokevirtual 388, 3) := by decide +kernel
theorem wr_7_195 : (Jvm.Cond.methodLink "SpillForgeModel" (388 : Nat) ({ cls := "SpillForgeModel", name := "word", desc := "(II)V" } : Jvm.MethodName)) ∈ gw := gw_7 195 rfl rfl
theorem wr_7_198 : (Jvm.Cond.code ({ cls := "SpillForgeModel", name := "word", desc := "(II)V" } : Jvm.MethodName) prog_14_method_39_code (4 : Nat) (Option.none : Option Jvm.ClassFile.FieldType)) ∈ gw := gw_7 198 rfl rfl
theorem wr_7_197 : (Jvm.Cond.instanceMethod ({ cls := "SpillForgeModel", name := "word", desc := "(II)V" } : Jvm.MethodName)) ∈ gw := gw_7 197 rfl rfl
theorem wr_p_74 : Cond.selects "SpillForgeModel" ⟨"SpillForgeModel", "word", "(II)V"⟩ ⟨"SpillForgeModel", "word", "(II)V"⟩ ∈ gw := gw_p _ 74 rfl rfl rfl
theorem dr_cX17_feed_33 : decode cX17_feed 33 = .ok (.aload_n 0, 1) := by decide +kernel
theorem dr_cX17_feed_34 : decode cX17_feed 34 = .ok (.iload_n 2, 1) := by decide +kernel
theorem dr_cX17_feed_35 : decode cX17_feed 35 = .ok (.aload_n 0, 1) := by decide +kernel
theorem dr_cX17_feed_36 : decode cX17_feed 36 = .ok (.getfield 383, 3) := by decide +kernel
theorem dr_cX17_feed_39 : decode cX17_feed 39 = .ok (.iconst 4, 1) := by decide +kernel
theorem dr_cX17_feed_40 : decode cX17_feed 40 = .ok (.iadd, 1) := by decide +kernel
theorem dr_cX17_feed_41 : decode cX17_feed 41 = .ok (.invokevirtual 388, 3) := by decide +kernel
theorem dr_cX17_feed_44 : decode cX17_feed 44 = .ok (.aload_n 0, 1) := by decide +kernel
theorem dr_cX17_feed_45 : decode cX17_feed 45 = .ok (.iload_n 3, 1) := by decide +kernel
theorem dr_cX17_feed_46 : decode cX17_feed 46 = .ok (.aload_n 0, 1) := by decide +kernel
theorem dr_cX17_feed_47 : decode cX17_feed 47 = .ok (.getfield 383, 3) := by decide +kernel
theorem dr_cX17_feed_50 : decode cX17_feed 50 = .ok (.bipush 8, 2) := by decide +kernel
theorem dr_cX17_feed_52 : decode cX17_feed 52 = .ok (.iadd, 1) := by decide +kernel
theorem dr_cX17_feed_53 : decode cX17_feed 53 = .ok (.invokevirtual 388, 3) := by decide +kernel
theorem dr_cX17_feed_56 : decode cX17_feed 56 = .ok (.aload_n 0, 1) := by decide +kernel
theorem dr_cX17_feed_57 : decode cX17_feed 57 = .ok (.iload 4, 2) := by decide +kernel
theorem dr_cX17_feed_59 : decode cX17_feed 59 = .ok (.aload_n 0, 1) := by decide +kernel
theorem dr_cX17_feed_60 : decode cX17_feed 60 = .ok (.getfield 383, 3) := by decide +kernel
theorem dr_cX17_feed_63 : decode cX17_feed 63 = .ok (.bipush 12, 2) := by decide +kernel
theorem dr_cX17_feed_65 : decode cX17_feed 65 = .ok (.iadd, 1) := by decide +kernel
theorem dr_cX17_feed_66 : decode cX17_feed 66 = .ok (.invokevirtual 388, 3) := by decide +kernel
theorem dr_cX17_feed_69 : decode cX17_feed 69 = .ok (.aload_n 0, 1) := by decide +kernel
theorem dr_cX17_feed_70 : decode cX17_feed 70 = .ok (.iload 5, 2) := by decide +kernel
theorem dr_cX17_feed_72 : decode cX17_feed 72 = .ok (.aload_n 0, 1) := by decide +kernel
theorem dr_cX17_feed_73 : decode cX17_feed 73 = .ok (.getfield 383, 3) := by decide +kernel
theorem dr_cX17_feed_76 : decode cX17_feed 76 = .ok (.bipush 16, 2) := by decide +kernel
theorem dr_cX17_feed_78 : decode cX17_feed 78 = .ok (.iadd, 1) := by decide +kernel
theorem dr_cX17_feed_79 : decode cX17_feed 79 = .ok (.invokevirtual 388, 3) := by decide +kernel
theorem dr_cX17_feed_82 : decode cX17_feed 82 = .ok (.aload_n 0, 1) := by decide +kernel
theorem dr_cX17_feed_83 : decode cX17_feed 83 = .ok (.dup, 1) := by decide +kernel
theorem dr_cX17_feed_84 : decode cX17_feed 84 = .ok (.getfield 383, 3) := by decide +kernel
theorem dr_cX17_feed_87 : decode cX17_feed 87 = .ok (.bipush 20, 2) := by decide +kernel
theorem dr_cX17_feed_89 : decode cX17_feed 89 = .ok (.iadd, 1) := by decide +kernel
theorem dr_cX17_feed_90 : decode cX17_feed 90 = .ok (.putfield 383, 3) := by decide +kernel
theorem dr_cX17_feed_93 : decode cX17_feed 93 = .ok (.aload_n 0, 1) := by decide +kernel
theorem dr_cX17_feed_94 : decode cX17_feed 94 = .ok (.getfield 383, 3) := by decide +kernel
theorem dr_cX17_feed_97 : decode cX17_feed 97 = .ok (.ireturn, 1) := by decide +kernel
theorem dr_cX17_feed_18 : decode cX17_feed 18 = .ok (.aload_n 0, 1) := by decide +kernel
theorem dr_cX17_feed_19 : decode cX17_feed 19 = .ok (.iconst 1, 1) := by decide +kernel
theorem dr_cX17_feed_20 : decode cX17_feed 20 = .ok (.invokevirtual 385, 3) := by decide +kernel
theorem dr_cX17_feed_23 : decode cX17_feed 23 = .ok (.ireturn, 1) := by decide +kernel
theorem dr_cX17_end_0 : decode cX17_end 0 = .ok (.aload_n 0, 1) := by decide +kernel
theorem dr_cX17_end_1 : decode cX17_end 1 = .ok (.iconst 0, 1) := by decide +kernel
theorem dr_cX17_end_2 : decode cX17_end 2 = .ok (.putfield 380, 3) := by decide +kernel
theorem dr_cX17_end_5 : decode cX17_end 5 = .ok (.iload_n 1, 1) := by decide +kernel
theorem dr_cX17_end_6 : decode cX17_end 6 = .ok (.ifCond .lt 11, 3) := by decide +kernel
theorem dr_cX17_end_17 : decode cX17_end 17 = .ok (.aload_n 0, 1) := by decide +kernel
theorem dr_cX17_end_18 : decode cX17_end 18 = .ok (.iconst 1, 1) := by decide +kernel
theorem dr_cX17_end_19 : decode cX17_end 19 = .ok (.invokevirtual 385, 3) := by decide +kernel
theorem dr_cX17_end_22 : decode cX17_end 22 = .ok (.ireturn, 1) := by decide +kernel
theorem dr_cX17_end_9 : decode cX17_end 9 = .ok (.iload_n 1, 1) := by decide +kernel
theorem dr_cX17_end_10 : decode cX17_end 10 = .ok (.aload_n 0, 1) := by decide +kernel
theorem dr_cX17_end_11 : decode cX17_end 11 = .ok (.getfield 383, 3) := by decide +kernel
theorem dr_cX17_end_14 : decode cX17_end 14 = .ok (.if_icmp .le 9, 3) := by decide +kernel
theorem dr_cX17_end_23 : decode cX17_end 23 = .ok (.aload_n 0, 1) := by decide +kernel
theorem dr_cX17_end_24 : decode cX17_end 24 = .ok (.iload_n 1, 1) := by decide +kernel
theorem dr_cX17_end_25 : decode cX17_end 25 = .ok (.putfield 383, 3) := by decide +kernel
theorem dr_cX17_end_28 : decode cX17_end 28 = .ok (.iload_n 1, 1) := by decide +kernel
theorem dr_cX17_end_29 : decode cX17_end 29 = .ok (.ireturn, 1) := by decide +kernel
abbrev ky_160652_SpillForgeModel_shown : gKey := (cX17_shown, 2, "SpillForgeModel", (some FieldType.int), [], "shown", fun _ _ => True)
def pt_160652_SpillForgeModel_shown (D : va_G) (I : FieldType → ClassId) (γ el : Nat → Nat → Nat) (P160648 : List Nat) (F160649 : Nat → va_E) (q160650 : Nat) (p160651 : Int32) : Option Value → va_W → Nat → Nat → Prop := fun r w dc ds => ∃ (F160843 : Nat → va_E) (o160842 : Int32), r = some (.int o160842) ∧ w = va_pl P160648 F160843 ∧ RS D I P160648 F160843 γ el ∧ rStr γ [] F160649 F160843 ∧ dc ≤ 0 ∧ ds ≤ 0 ∧ (fI (F160843 q160650) 32).toInt = (fI (F160649 q160650) 32).toInt
set_option maxRecDepth 100000 in
set_option maxHeartbeats 4000000 in
theorem ct_160652_SpillForgeModel_shown (l : Launch) (hl0 : l.stackTraces = false) (D : va_G) (I : FieldType → ClassId) (γ el : Nat → Nat → Nat) (P160648 : List Nat) (F160649 : Nat → va_E) (q160650 : Nat) (p160651 : Int32) (hT : RS D I P160648 F160649 γ el) (htq160650 : rKd γ q160650 10) : CtA (gV D I) l yX17_shown cX17_shown 2 (some FieldType.int) 1 21 0 0 [.ref q160650, .int p160651] (va_pl P160648 F160649) (pt_160652_SpillForgeModel_shown D I γ el P160648 F160649 q160650 p160651) gNA := by
  refine CtA_of hl0 (by decide) (Nat.le_of_ble_eq_true rfl) ?_
  have bp160651 := gB_any p160651
  have hm160653 : q160650 ∈ P160648 := RS_m hT htq160650 (by decide)
  obtain ⟨q160655, q160656, p160657, p160658, p160659, p160660, p160661, p160662, p160663, p160664, p160665, p160666, p160667, p160668, p160669, p160670, p160671, he160654, hB160698, ht160672, ht160673, ht160674, ht160675, ht160676, ht160677, ht160678, ht160679, ht160680, ht160681, ht160682, ht160683, ht160684, ht160685, ht160686, ht160687, ht160688, ht160689, ht160690, ht160691, ht160692, ht160693, ht160694, ht160695, hB160699⟩ := show rk_10 γ (F160649 q160650) from RS_o hT htq160650
  have ac160700 : (fI (F160649 q160650) 32).toInt = p160669.toInt := by rw [he160654]; rfl
  have bp160669 : gB p160669 0 8192 := (hB160698.2.2.2.2.2.2.2.1)
  refine G_aload_n 0 dr_cX17_shown_0 rfl ?_
  refine G_iconst 0 dr_cX17_shown_1 (by decide +kernel) ?_
  refine Gp_put 30 hm160653 he160654 dr_cX17_shown_2 (gk_X17 D I) (Nat.le_of_ble_eq_true rfl) wr_7_104 rfl rfl rfl (Nat.le_of_ble_eq_true rfl) (fun F160701 e160702 n160703 => ?_)
  have he160704 : F160701 q160650 = .inr (22, [.ref (γ 9 0), .ref (γ 9 1), .ref (γ 9 2), .ref (γ 9 3), .ref (γ 9 4), .ref (γ 9 5), .ref (γ 9 6), .ref (γ 9 7), .ref (γ 9 8), .int p160657, .int p160658, .int p160659, .int p160660, .int p160661, .int p160662, .ref (γ 9 15), .ref (γ 9 16), .ref (γ 9 17), .ref (γ 9 18), .ref (γ 9 19), .ref (γ 9 20), .ref (γ 9 21), .ref (γ 9 22), .int p160663, .int p160664, .int p160665, .int p160666, .int p160667, .ref q160655, .ref (γ 9 29), .int 0, .ref (γ 9 31), .int p160669, .int p160670, .int p160671, .ref q160656]) := e160702
  have hs160705 : rStr γ [] F160649 F160701 := rStr_put (rStr_rf (γ := γ) (W := []) (F := F160649)) n160703 htq160650 (by decide)
  refine G_iload_n 1 dr_cX17_shown_5 rfl ?_
  refine G_if_lt 26 dr_cX17_shown_6 (by decide +kernel) (fun hc160706 => ?_) (fun hc160706 => ?_)
  · have r160707 : p160651.toInt < 0 := gj_lt hc160706 (show Int32.toInt 0 = 0 by decide)
    have bp160651' : gB p160651 (-2147483648) (-1) := ⟨by omega, by omega⟩
    refine G_aload_n 0 dr_cX17_shown_26 rfl ?_
    refine G_iconst 1 dr_cX17_shown_27 (by decide +kernel) ?_
    have hT160708 : RS D I P160648 F160701 γ el := RS_set hT n160703 htq160650 (by decide) ⟨q160655, q160656, p160657, p160658, p160659, p160660, p160661, p160662, p160663, p160664, p160665, p160666, p160667, 0, p160669, p160670, p160671, he160704, ⟨(hB160698.1), (hB160698.2.1), (hB160698.2.2.1), (hB160698.2.2.2.1), (hB160698.2.2.2.2.1), (hB160698.2.2.2.2.2.1), (hB160698.2.2.2.2.2.2.1), bp160669, (hB160698.2.2.2.2.2.2.2.2)⟩, ht160672, ht160673, ht160674, ht160675, ht160676, ht160677, ht160678, ht160679, ht160680, ht160681, ht160682, ht160683, ht160684, ht160685, ht160686, ht160687, ht160688, ht160689, ht160690, ht160691, ht160692, ht160693, ht160694, ht160695, hB160699⟩
    have ac160709 : (fI (F160701 q160650) 32).toInt = p160669.toInt := by rw [he160704]; rfl
    refine Gw_callV (As := [.int 1]) (gV_ok D I) (ct_160530_SpillForgeModel_no l hl0 D I γ el P160648 F160701 q160650 1 hT160708 htq160650) dr_cX17_shown_28 ⟨wr_7_191, wr_1_14, wr_7_194, by decide, rfl, (Nat.le_of_ble_eq_true rfl), (Nat.le_of_ble_eq_true rfl)⟩ wr_7_193 wr_p_73 hm160653 he160704 rfl (show 0 + 0 ≤ 0 by first | omega | decide) (show 0 + 0 ≤ 0 by first | omega | decide) (Nat.le_of_ble_eq_true rfl) (fun r160713 w160714 dc160710 ds160711 hp160712 => ?_) (fun _ _ _ _ _ z => z.elim)
    obtain ⟨F160717, rfl, rfl, hT160718, hs160719, hdc, hds, x160715, x160716⟩ := hp160712
    have hs160720 : rStr γ [] F160649 F160717 := rStr_tr hs160705 hs160719
    rw [show Int32.toInt 1 = 1 from by decide] at x160716
    change G _ _ _ _ _ _ _ (.int 0 :: _) _ _ _
    refine G_widen (cs' := 0) (sl' := 0) (by omega) (by omega) ?_
    have hm160721 : q160650 ∈ P160648 := RS_m hT160718 htq160650 (by decide)
    obtain ⟨q160723, q160724, p160725, p160726, p160727, p160728, p160729, p160730, p160731, p160732, p160733, p160734, p160735, p160736, p160737, p160738, p160739, he160722, hB160766, ht160740, ht160741, ht160742, ht160743, ht160744, ht160745, ht160746, ht160747, ht160748, ht160749, ht160750, ht160751, ht160752, ht160753, ht160754, ht160755, ht160756, ht160757, ht160758, ht160759, ht160760, ht160761, ht160762, ht160763, hB160767⟩ := show rk_10 γ (F160717 q160650) from RS_o hT160718 htq160650
    have ac160768 : (fI (F160717 q160650) 32).toInt = p160737.toInt := by rw [he160722]; rfl
    have bp160737 : gB p160737 0 8192 := (hB160766.2.2.2.2.2.2.2.1)
    have ac160769 : (fI (F160717 q160650) 32).toInt = p160737.toInt := by rw [he160722]; rfl
    exact G_iretA dr_cX17_shown_31 rfl (Nat.le_of_ble_eq_true rfl) (Nat.le_of_ble_eq_true rfl) ⟨F160717, 0, rfl, rfl, hT160718, hs160720, (Nat.le_of_ble_eq_true rfl), (Nat.le_of_ble_eq_true rfl), (by have qa0 : Int32.toInt 0 = 0 := (by decide); omega)⟩
  · have r160770 : 0 ≤ p160651.toInt := gj_nlt hc160706 (show Int32.toInt 0 = 0 by decide)
    have bp160651' : gB p160651 0 2147483647 := ⟨by omega, by omega⟩
    refine G_iload_n 1 dr_cX17_shown_9 rfl ?_
    refine G_aload_n 0 dr_cX17_shown_10 rfl ?_
    refine Gp_get 25 hm160653 he160704 dr_cX17_shown_11 (gk_X17 D I) (Nat.le_of_ble_eq_true rfl) wr_7_99 rfl ?_
    have bp160665 : gB p160665 0 512 := (hB160698.2.2.2.2.1)
    refine G_icmp_ge 26 dr_cX17_shown_14 (by decide +kernel) (fun hc160771 => ?_) (fun hc160771 => ?_)
    · have r160772 : p160665.toInt ≤ p160651.toInt := gC_le hc160771
      refine G_aload_n 0 dr_cX17_shown_26 rfl ?_
      refine G_iconst 1 dr_cX17_shown_27 (by decide +kernel) ?_
      have hT160773 : RS D I P160648 F160701 γ el := RS_set hT n160703 htq160650 (by decide) ⟨q160655, q160656, p160657, p160658, p160659, p160660, p160661, p160662, p160663, p160664, p160665, p160666, p160667, 0, p160669, p160670, p160671, he160704, ⟨(hB160698.1), (hB160698.2.1), (hB160698.2.2.1), (hB160698.2.2.2.1), bp160665, (hB160698.2.2.2.2.2.1), (hB160698.2.2.2.2.2.2.1), bp160669, (hB160698.2.2.2.2.2.2.2.2)⟩, ht160672, ht160673, ht160674, ht160675, ht160676, ht160677, ht160678, ht160679, ht160680, ht160681, ht160682, ht160683, ht160684, ht160685, ht160686, ht160687, ht160688, ht160689, ht160690, ht160691, ht160692, ht160693, ht160694, ht160695, hB160699⟩
      have ac160774 : (fI (F160701 q160650) 32).toInt = p160669.toInt := by rw [he160704]; rfl
      refine Gw_callV (As := [.int 1]) (gV_ok D I) (ct_160530_SpillForgeModel_no l hl0 D I γ el P160648 F160701 q160650 1 hT160773 htq160650) dr_cX17_shown_28 ⟨wr_7_191, wr_1_14, wr_7_194, by decide, rfl, (Nat.le_of_ble_eq_true rfl), (Nat.le_of_ble_eq_true rfl)⟩ wr_7_193 wr_p_73 hm160653 he160704 rfl (show 0 + 0 ≤ 0 by first | omega | decide) (show 0 + 0 ≤ 0 by first | omega | decide) (Nat.le_of_ble_eq_true rfl) (fun r160778 w160779 dc160775 ds160776 hp160777 => ?_) (fun _ _ _ _ _ z => z.elim)
      obtain ⟨F160782, rfl, rfl, hT160783, hs160784, hdc, hds, x160780, x160781⟩ := hp160777
      have hs160785 : rStr γ [] F160649 F160782 := rStr_tr hs160705 hs160784
      rw [show Int32.toInt 1 = 1 from by decide] at x160781
      change G _ _ _ _ _ _ _ (.int 0 :: _) _ _ _
      refine G_widen (cs' := 0) (sl' := 0) (by omega) (by omega) ?_
      have hm160786 : q160650 ∈ P160648 := RS_m hT160783 htq160650 (by decide)
      obtain ⟨q160788, q160789, p160790, p160791, p160792, p160793, p160794, p160795, p160796, p160797, p160798, p160799, p160800, p160801, p160802, p160803, p160804, he160787, hB160831, ht160805, ht160806, ht160807, ht160808, ht160809, ht160810, ht160811, ht160812, ht160813, ht160814, ht160815, ht160816, ht160817, ht160818, ht160819, ht160820, ht160821, ht160822, ht160823, ht160824, ht160825, ht160826, ht160827, ht160828, hB160832⟩ := show rk_10 γ (F160782 q160650) from RS_o hT160783 htq160650
      have ac160833 : (fI (F160782 q160650) 32).toInt = p160802.toInt := by rw [he160787]; rfl
      have bp160802 : gB p160802 0 8192 := (hB160831.2.2.2.2.2.2.2.1)
      have ac160834 : (fI (F160782 q160650) 32).toInt = p160802.toInt := by rw [he160787]; rfl
      exact G_iretA dr_cX17_shown_31 rfl (Nat.le_of_ble_eq_true rfl) (Nat.le_of_ble_eq_true rfl) ⟨F160782, 0, rfl, rfl, hT160783, hs160785, (Nat.le_of_ble_eq_true rfl), (Nat.le_of_ble_eq_true rfl), (by have qa0 : Int32.toInt 0 = 0 := (by decide); omega)⟩
    · have r160835 : p160651.toInt < p160665.toInt := gC_nle hc160771
      have bp160651'' : gB p160651 0 511 := ⟨by omega, by omega⟩
      have bp160665' : gB p160665 1 512 := ⟨by omega, by omega⟩
      refine G_aload_n 0 dr_cX17_shown_17 rfl ?_
      refine Gp_get 22 hm160653 he160704 dr_cX17_shown_18 (gk_X17 D I) (Nat.le_of_ble_eq_true rfl) wr_7_96 rfl ?_
      refine G_iload_n 1 dr_cX17_shown_21 rfl ?_
      have hT160836 : RS D I P160648 F160701 γ el := RS_set hT n160703 htq160650 (by decide) ⟨q160655, q160656, p160657, p160658, p160659, p160660, p160661, p160662, p160663, p160664, p160665, p160666, p160667, 0, p160669, p160670, p160671, he160704, ⟨(hB160698.1), (hB160698.2.1), (hB160698.2.2.1), (hB160698.2.2.2.1), (gB_w bp160665' (by decide) (by decide)), (hB160698.2.2.2.2.2.1), (hB160698.2.2.2.2.2.2.1), bp160669, (hB160698.2.2.2.2.2.2.2.2)⟩, ht160672, ht160673, ht160674, ht160675, ht160676, ht160677, ht160678, ht160679, ht160680, ht160681, ht160682, ht160683, ht160684, ht160685, ht160686, ht160687, ht160688, ht160689, ht160690, ht160691, ht160692, ht160693, ht160694, ht160695, hB160699⟩
      have hm160837 : (γ 9 22) ∈ P160648 := RS_m hT160836 ht160690 (by decide)
      obtain ⟨f160839, he160838⟩ := show rk_24 I (F160701 (γ 9 22)) from RS_o hT160836 ht160690
      refine Gp_iald 0 hm160837 he160838 dr_cX17_shown_22 rfl (gB_in bp160651'' (by decide) (by decide)) (G_nam fun z160840 hz160840 => ?_)
      have bz160840 : gB z160840 (-2147483648) 2147483647 := gB_any z160840
      refine G_goto 31 dr_cX17_shown_23 (by decide +kernel) ?_
      have ac160841 : (fI (F160701 q160650) 32).toInt = p160669.toInt := by rw [he160704]; rfl
      exact G_iretA dr_cX17_shown_31 rfl (Nat.le_of_ble_eq_true rfl) (Nat.le_of_ble_eq_true rfl) ⟨F160701, z160840, rfl, rfl, hT160836, hs160705, (Nat.le_of_ble_eq_true rfl), (Nat.le_of_ble_eq_true rfl), (by omega)⟩
abbrev ky_160847_SpillForgeModel_thrown : gKey := (cX17_thrown, 1, "SpillForgeModel", (some FieldType.int), [], "thrown", fun _ _ => True)
def pt_160847_SpillForgeModel_thrown (D : va_G) (I : FieldType → ClassId) (γ el : Nat → Nat → Nat) (P160844 : List Nat) (F160845 : Nat → va_E) (q160846 : Nat) : Option Value → va_W → Nat → Nat → Prop := fun r w dc ds => ∃ (o160895 : Int32), r = some (.int o160895) ∧ w = va_pl P160844 F160845 ∧ dc ≤ 0 ∧ ds ≤ 0
set_option maxRecDepth 100000 in
set_option maxHeartbeats 4000000 in
theorem ct_160847_SpillForgeModel_thrown (l : Launch) (hl0 : l.stackTraces = false) (D : va_G) (I : FieldType → ClassId) (γ el : Nat → Nat → Nat) (P160844 : List Nat) (F160845 : Nat → va_E) (q160846 : Nat) (hT : RS D I P160844 F160845 γ el) (htq160846 : rKd γ q160846 10) : CtA (gV D I) l yX17_thrown cX17_thrown 1 (some FieldType.int) 0 0 0 0 [.ref q160846] (va_pl P160844 F160845) (pt_160847_SpillForgeModel_thrown D I γ el P160844 F160845 q160846) gNA := by
  refine CtA_of hl0 (by decide) (Nat.le_of_ble_eq_true rfl) ?_
  refine G_aload_n 0 dr_cX17_thrown_0 rfl ?_
  have hm160848 : q160846 ∈ P160844 := RS_m hT htq160846 (by decide)
  obtain ⟨q160850, q160851, p160852, p160853, p160854, p160855, p160856, p160857, p160858, p160859, p160860, p160861, p160862, p160863, p160864, p160865, p160866, he160849, hB160893, ht160867, ht160868, ht160869, ht160870, ht160871, ht160872, ht160873, ht160874, ht160875, ht160876, ht160877, ht160878, ht160879, ht160880, ht160881, ht160882, ht160883, ht160884, ht160885, ht160886, ht160887, ht160888, ht160889, ht160890, hB160894⟩ := show rk_10 γ (F160845 q160846) from RS_o hT htq160846
  refine Gp_get 30 hm160848 he160849 dr_cX17_thrown_1 (gk_X17 D I) (Nat.le_of_ble_eq_true rfl) wr_7_104 rfl ?_
  have bp160863 : gB p160863 (-2147483648) 2147483647 := (gB_any p160863)
  exact G_iretA dr_cX17_thrown_4 rfl (Nat.le_of_ble_eq_true rfl) (Nat.le_of_ble_eq_true rfl) ⟨p160863, rfl, rfl, (Nat.le_of_ble_eq_true rfl), (Nat.le_of_ble_eq_true rfl)⟩
abbrev ky_160969_SpillForgeModel_word : gKey := (cX17_word, 4, "SpillForgeModel", none, [], "word", fun _ _ => True)
def pt_160969_SpillForgeModel_word (D : va_G) (I : FieldType → ClassId) (γ el : Nat → Nat → Nat) (P160964 : List Nat) (F160965 : Nat → va_E) (q160966 : Nat) (p160967 : Int32) (p160968 : Int32) : Option Value → va_W → Nat → Nat → Prop := fun r w dc ds => ∃ (F161425 : Nat → va_E), r = none ∧ w = va_pl P160964 F161425 ∧ RS D I P160964 F161425 γ el ∧ rStr γ [] F160965 F161425 ∧ dc ≤ 0 ∧ ds ≤ 0 ∧ (fI (F161425 q160966) 32).toInt = (fI (F160965 q160966) 32).toInt ∧ (fI (F161425 q160966) 30).toInt = (fI (F160965 q160966) 30).toInt
set_option maxRecDepth 100000 in
set_option maxHeartbeats 4000000 in
theorem ct_160969_SpillForgeModel_word (l : Launch) (hl0 : l.stackTraces = false) (D : va_G) (I : FieldType → ClassId) (γ el : Nat → Nat → Nat) (P160964 : List Nat) (F160965 : Nat → va_E) (q160966 : Nat) (p160967 : Int32) (p160968 : Int32) (hT : RS D I P160964 F160965 γ el) (htq160966 : rKd γ q160966 10) (bp160968 : gB p160968 0 8188) : CtA (gV D I) l yX17_word cX17_word 4 none 0 0 0 0 [.ref q160966, .int p160967, .int p160968] (va_pl P160964 F160965) (pt_160969_SpillForgeModel_word D I γ el P160964 F160965 q160966 p160967 p160968) gNA := by
  refine CtA_of hl0 (by decide) (Nat.le_of_ble_eq_true rfl) ?_
  have bp160967 := gB_any p160967
  have hm160970 : q160966 ∈ P160964 := RS_m hT htq160966 (by decide)
  obtain ⟨q160972, q160973, p160974, p160975, p160976, p160977, p160978, p160979, p160980, p160981, p160982, p160983, p160984, p160985, p160986, p160987, p160988, he160971, hB161015, ht160989, ht160990, ht160991, ht160992, ht160993, ht160994, ht160995, ht160996, ht160997, ht160998, ht160999, ht161000, ht161001, ht161002, ht161003, ht161004, ht161005, ht161006, ht161007, ht161008, ht161009, ht161010, ht161011, ht161012, hB161016⟩ := show rk_10 γ (F160965 q160966) from RS_o hT htq160966
  have ac161017 : (fI (F160965 q160966) 32).toInt = p160986.toInt := by rw [he160971]; rfl
  have bp160986 : gB p160986 0 8192 := (hB161015.2.2.2.2.2.2.2.1)
  have ac161018 : (fI (F160965 q160966) 30).toInt = p160985.toInt := by rw [he160971]; rfl
  have bp160985 : gB p160985 (-2147483648) 2147483647 := (gB_any p160985)
  refine G_iconst 0 dr_cX17_word_0 (by decide +kernel) ?_
  refine G_istore_n (L' := [(3, .int 0), (0, .ref q160966), (1, .int p160967), (2, .int p160968)]) dr_cX17_word_1 (Nat.le_of_ble_eq_true rfl) rfl ?_
  have hlp2_161344 : ∀ (n2_161344 : Nat) (F161340 : Nat → va_E) (g161339 : Int32), gB g161339 0 4 → RS D I P160964 F161340 γ el → rStr γ [] F160965 F161340 → (fI (F161340 q160966) 32).toInt = (fI (F160965 q160966) 32).toInt → (fI (F161340 q160966) 30).toInt = (fI (F160965 q160966) 30).toInt → ((5 : Int) - g161339.toInt).toNat < n2_161344 → G (gV D I) l (gRm 0 0 0 0) (gMA (gV D I) (pt_160969_SpillForgeModel_word D I γ el P160964 F160965 q160966 p160967 p160968) gNA 0 0) ky_160969_SpillForgeModel_word 2 [(3, .int g161339), (0, .ref q160966), (1, .int p160967), (2, .int p160968)] [] (va_pl P160964 F161340) 0 0 := by
    intro n2_161344
    induction n2_161344 with
    | zero => intro F161340 g161339 bg161339 hT161341 hs161342 x161343 x161344 hm2_161344; exact absurd hm2_161344 (Nat.not_lt_zero _)
    | succ n2_161344 ih2_161344 =>
      intro F161340 g161339 bg161339 hT161341 hs161342 x161343 x161344 hm2_161344
      have hs161346 : rStr γ [] F160965 F161340 := fun b h0 hb hw => (hs161342 b h0 hb hw).trans ((rStr_rf (γ := γ) (W := []) (F := F160965)) b h0 hb hw).symm
      have hs161347 : rStr γ [] F160965 F161340 := rStr_tr (rStr_rf (γ := γ) (W := []) (F := F160965)) hs161346
      have hm161348 : q160966 ∈ P160964 := RS_m hT161341 htq160966 (by decide)
      obtain ⟨q161350, q161351, p161352, p161353, p161354, p161355, p161356, p161357, p161358, p161359, p161360, p161361, p161362, p161363, p161364, p161365, p161366, he161349, hB161393, ht161367, ht161368, ht161369, ht161370, ht161371, ht161372, ht161373, ht161374, ht161375, ht161376, ht161377, ht161378, ht161379, ht161380, ht161381, ht161382, ht161383, ht161384, ht161385, ht161386, ht161387, ht161388, ht161389, ht161390, hB161394⟩ := show rk_10 γ (F161340 q160966) from RS_o hT161341 htq160966
      have ac161395 : (fI (F161340 q160966) 32).toInt = p161364.toInt := by rw [he161349]; rfl
      have bp161364 : gB p161364 0 8192 := (hB161393.2.2.2.2.2.2.2.1)
      have ac161396 : (fI (F161340 q160966) 30).toInt = p161363.toInt := by rw [he161349]; rfl
      have bp161363 : gB p161363 (-2147483648) 2147483647 := (gB_any p161363)
      have ac161397 : (fI (F161340 q160966) 32).toInt = p161364.toInt := by rw [he161349]; rfl
      have ac161398 : (fI (F161340 q160966) 30).toInt = p161363.toInt := by rw [he161349]; rfl
      refine G_iload_n 0 dr_cX17_word_2 rfl ?_
      refine G_iconst 4 dr_cX17_word_3 (by decide +kernel) ?_
      refine G_icmp_ge 31 dr_cX17_word_4 (by decide +kernel) (fun hc161399 => ?_) (fun hc161399 => ?_)
      · have r161400 : 4 ≤ g161339.toInt := gj_leL hc161399 (show Int32.toInt 4 = 4 by decide)
        have bg161339' : gB g161339 4 4 := ⟨by omega, by omega⟩
        have ac161401 : (fI (F161340 q160966) 32).toInt = p161364.toInt := by rw [he161349]; rfl
        have ac161402 : (fI (F161340 q160966) 30).toInt = p161363.toInt := by rw [he161349]; rfl
        exact G_vretA dr_cX17_word_31 rfl (Nat.le_of_ble_eq_true rfl) (Nat.le_of_ble_eq_true rfl) ⟨F161340, rfl, rfl, hT161341, hs161342, (Nat.le_of_ble_eq_true rfl), (Nat.le_of_ble_eq_true rfl), (by omega), (by omega)⟩
      · have r161403 : g161339.toInt < 4 := gj_nleL hc161399 (show Int32.toInt 4 = 4 by decide)
        have bg161339' : gB g161339 0 3 := ⟨by omega, by omega⟩
        refine G_aload_n 1 dr_cX17_word_7 rfl ?_
        refine Gp_get 31 hm161348 he161349 dr_cX17_word_8 (gk_X17 D I) (Nat.le_of_ble_eq_true rfl) wr_7_105 rfl ?_
        refine G_iload_n 3 dr_cX17_word_11 rfl ?_
        refine G_iload_n 0 dr_cX17_word_12 rfl ?_
        refine G_iadd dr_cX17_word_13 (G_nam fun z161404 hz161404 => ?_)
        have ez161404 : z161404.toInt = p160968.toInt + g161339.toInt := by rw [gI_add hz161404 bp160968 bg161339' (by decide) (by decide)]
        have bz161404 : gB z161404 0 8191 := gB_add (gI_add hz161404 bp160968 bg161339' (by decide) (by decide)) bp160968 bg161339' (by decide) (by decide)
        refine G_iload_n 2 dr_cX17_word_14 rfl ?_
        refine G_bipush 24 dr_cX17_word_15 (by decide +kernel) ?_
        refine G_bipush 8 dr_cX17_word_17 (by decide +kernel) ?_
        refine G_iload_n 0 dr_cX17_word_19 rfl ?_
        refine G_imul dr_cX17_word_20 (G_nam fun z161405 hz161405 => ?_)
        have ez161405 : z161405.toInt = 8 * g161339.toInt := by rw [gI_mul hz161405 (gBl (show Int32.toInt 8 = 8 by decide)) bg161339' (by decide) (by decide) (by decide), show Int32.toInt 8 = 8 from by decide]
        have bz161405 : gB z161405 0 24 := gB_mul hz161405 (gBl (show Int32.toInt 8 = 8 by decide)) bg161339' (by decide) (by decide) (by decide) (by decide)
        refine G_isub dr_cX17_word_21 (G_nam fun z161406 hz161406 => ?_)
        have ez161406 : z161406.toInt = 24 - z161405.toInt := by rw [gI_sub hz161406 (gBl (show Int32.toInt 24 = 24 by decide)) bz161405 (by decide) (by decide), show Int32.toInt 24 = 24 from by decide]
        have bz161406 : gB z161406 0 24 := gB_sub (gI_sub hz161406 (gBl (show Int32.toInt 24 = 24 by decide)) bz161405 (by decide) (by decide)) (gBl (show Int32.toInt 24 = 24 by decide)) bz161405 (by decide) (by decide)
        refine G_ishr dr_cX17_word_22 (G_nam fun z161407 hz161407 => ?_)
        have bz161407 : gB z161407 (-2147483648) 2147483647 := gB_any z161407
        refine G_i2b dr_cX17_word_23 (G_nam fun z161408 hz161408 => ?_)
        have bz161408 : gB z161408 (-128) 127 := gB_i2b hz161408
        have hm161409 : (γ 9 31) ∈ P160964 := RS_m hT161341 ht161387 (by decide)
        obtain ⟨f161411, he161410, bf161411⟩ := show rk_25 I (F161340 (γ 9 31)) from RS_o hT161341 ht161387
        refine Gp_bast 1 hm161409 he161410 dr_cX17_word_24 rfl (gB_in bz161404 (by decide) (by decide)) (fun F161412 e161413 n161414 => ?_)
        obtain ⟨f161415, hf161415⟩ : ∃ z, z = upd f161411 z161404.toNatClampNeg (vp_nar .byte z161408) := ⟨_, rfl⟩
        rw [← hf161415] at e161413
        have he161416 : F161412 q160966 = .inr (22, [.ref (γ 9 0), .ref (γ 9 1), .ref (γ 9 2), .ref (γ 9 3), .ref (γ 9 4), .ref (γ 9 5), .ref (γ 9 6), .ref (γ 9 7), .ref (γ 9 8), .int p161352, .int p161353, .int p161354, .int p161355, .int p161356, .int p161357, .ref (γ 9 15), .ref (γ 9 16), .ref (γ 9 17), .ref (γ 9 18), .ref (γ 9 19), .ref (γ 9 20), .ref (γ 9 21), .ref (γ 9 22), .int p161358, .int p161359, .int p161360, .int p161361, .int p161362, .ref q161350, .ref (γ 9 29), .int p161363, .ref (γ 9 31), .int p161364, .int p161365, .int p161366, .ref q161351]) := (n161414 q160966 (rn_oa he161349 he161410)).trans he161349
        have he161417 : F161412 (γ 9 31) = .inl (I .byte, 8192, .inl f161415) := e161413
        have hs161418 : rStr γ [] F160965 F161412 := rStr_put hs161342 n161414 ht161387 (by decide)
        have bf161415 : gF f161415 (-128) 127 := gF_upd hf161415 bf161411 gB_byte
        obtain ⟨z161419, hz161419⟩ : ∃ z : Int32, z = g161339 + Int32.ofInt 1 := ⟨_, rfl⟩
        have ez161419 : z161419.toInt = g161339.toInt + 1 := gI_inc hz161419 (by decide) bg161339' (by decide) (by decide)
        have bz161419 : gB z161419 1 4 := ⟨by omega, by omega⟩
        refine G_iinc (L' := [(3, .int z161419), (0, .ref q160966), (1, .int p160967), (2, .int p160968)]) z161419 0 dr_cX17_word_25 rfl hz161419.symm (Nat.le_of_ble_eq_true rfl) rfl ?_
        refine G_goto 2 dr_cX17_word_28 (by decide +kernel) ?_
        have hT161420 : RS D I P160964 F161412 γ el := RS_set hT161341 n161414 ht161387 (by decide) ⟨f161415, he161417, bf161415⟩
        have ac161421 : (fI (F161412 q160966) 32).toInt = p161364.toInt := by rw [he161416]; rfl
        have ac161422 : (fI (F161412 q160966) 30).toInt = p161363.toInt := by rw [he161416]; rfl
        exact ih2_161344 F161412 z161419 (gB_w bz161419 (by decide) (by decide)) hT161420 hs161418 (by omega) (by omega) (by omega)
  have ac161423 : (fI (F160965 q160966) 32).toInt = p160986.toInt := by rw [he160971]; rfl
  have ac161424 : (fI (F160965 q160966) 30).toInt = p160985.toInt := by rw [he160971]; rfl
  exact hlp2_161344 (((5 : Int) - 0).toNat + 1) F160965 0 (gB_w (gBl (show Int32.toInt 0 = 0 by decide)) (by decide) (by decide)) hT (rStr_rf (γ := γ) (W := []) (F := F160965)) (by omega) (by omega) (Nat.lt_succ_self _)
abbrev ky_160905_SpillForgeModel_feed : gKey := (cX17_feed, 6, "SpillForgeModel", (some FieldType.int), [], "feed", fun _ _ => True)
def pt_160905_SpillForgeModel_feed (D : va_G) (I : FieldType → ClassId) (γ el : Nat → Nat → Nat) (P160897 : List Nat) (F160898 : Nat → va_E) (q160899 : Nat) (p160900 : Int32) (p160901 : Int32) (p160902 : Int32) (p160903 : Int32) (p160904 : Int32) : Option Value → va_W → Nat → Nat → Prop := fun r w dc ds => ∃ (F161816 : Nat → va_E) (o161815 : Int32), r = some (.int o161815) ∧ w = va_pl P160897 F161816 ∧ RS D I P160897 F161816 γ el ∧ rStr γ [] F160898 F161816 ∧ dc ≤ 0 ∧ ds ≤ 0 ∧ gB o161815 0 8212 ∧ (((fI (F160898 q160899) 32).toInt ≤ 8172 ∧ o161815.toInt = (fI (F160898 q160899) 32).toInt + 20 ∧ (fI (F161816 q160899) 32).toInt = (fI (F160898 q160899) 32).toInt + 20 ∧ (fI (F161816 q160899) 30).toInt = 0) ∨ (8172 < (fI (F160898 q160899) 32).toInt ∧ (fI (F161816 q160899) 30).toInt = 1 ∧ (fI (F161816 q160899) 32).toInt = (fI (F160898 q160899) 32).toInt))
set_option maxRecDepth 100000 in
set_option maxHeartbeats 4000000 in
theorem ct_160905_SpillForgeModel_feed (l : Launch) (hl0 : l.stackTraces = false) (D : va_G) (I : FieldType → ClassId) (γ el : Nat → Nat → Nat) (P160897 : List Nat) (F160898 : Nat → va_E) (q160899 : Nat) (p160900 : Int32) (p160901 : Int32) (p160902 : Int32) (p160903 : Int32) (p160904 : Int32) (hT : RS D I P160897 F160898 γ el) (htq160899 : rKd γ q160899 10) : CtA (gV D I) l yX17_feed cX17_feed 6 (some FieldType.int) 1 23 0 0 [.ref q160899, .int p160900, .int p160901, .int p160902, .int p160903, .int p160904] (va_pl P160897 F160898) (pt_160905_SpillForgeModel_feed D I γ el P160897 F160898 q160899 p160900 p160901 p160902 p160903 p160904) gNA := by
  refine CtA_of hl0 (by decide) (Nat.le_of_ble_eq_true rfl) ?_
  have bp160900 := gB_any p160900
  have bp160901 := gB_any p160901
  have bp160902 := gB_any p160902
  have bp160903 := gB_any p160903
  have bp160904 := gB_any p160904
  have hm160906 : q160899 ∈ P160897 := RS_m hT htq160899 (by decide)
  obtain ⟨q160908, q160909, p160910, p160911, p160912, p160913, p160914, p160915, p160916, p160917, p160918, p160919, p160920, p160921, p160922, p160923, p160924, he160907, hB160951, ht160925, ht160926, ht160927, ht160928, ht160929, ht160930, ht160931, ht160932, ht160933, ht160934, ht160935, ht160936, ht160937, ht160938, ht160939, ht160940, ht160941, ht160942, ht160943, ht160944, ht160945, ht160946, ht160947, ht160948, hB160952⟩ := show rk_10 γ (F160898 q160899) from RS_o hT htq160899
  have ac160953 : (fI (F160898 q160899) 32).toInt = p160922.toInt := by rw [he160907]; rfl
  have bp160922 : gB p160922 0 8192 := (hB160951.2.2.2.2.2.2.2.1)
  have ac160954 : (fI (F160898 q160899) 30).toInt = p160921.toInt := by rw [he160907]; rfl
  have bp160921 : gB p160921 (-2147483648) 2147483647 := (gB_any p160921)
  refine G_aload_n 0 dr_cX17_feed_0 rfl ?_
  refine G_iconst 0 dr_cX17_feed_1 (by decide +kernel) ?_
  refine Gp_put 30 hm160906 he160907 dr_cX17_feed_2 (gk_X17 D I) (Nat.le_of_ble_eq_true rfl) wr_7_104 rfl rfl rfl (Nat.le_of_ble_eq_true rfl) (fun F160955 e160956 n160957 => ?_)
  have he160958 : F160955 q160899 = .inr (22, [.ref (γ 9 0), .ref (γ 9 1), .ref (γ 9 2), .ref (γ 9 3), .ref (γ 9 4), .ref (γ 9 5), .ref (γ 9 6), .ref (γ 9 7), .ref (γ 9 8), .int p160910, .int p160911, .int p160912, .int p160913, .int p160914, .int p160915, .ref (γ 9 15), .ref (γ 9 16), .ref (γ 9 17), .ref (γ 9 18), .ref (γ 9 19), .ref (γ 9 20), .ref (γ 9 21), .ref (γ 9 22), .int p160916, .int p160917, .int p160918, .int p160919, .int p160920, .ref q160908, .ref (γ 9 29), .int 0, .ref (γ 9 31), .int p160922, .int p160923, .int p160924, .ref q160909]) := e160956
  have hs160959 : rStr γ [] F160898 F160955 := rStr_put (rStr_rf (γ := γ) (W := []) (F := F160898)) n160957 htq160899 (by decide)
  refine G_aload_n 0 dr_cX17_feed_5 rfl ?_
  refine Gp_get 32 hm160906 he160958 dr_cX17_feed_6 (gk_X17 D I) (Nat.le_of_ble_eq_true rfl) wr_7_106 rfl ?_
  refine G_bipush 20 dr_cX17_feed_9 (by decide +kernel) ?_
  refine G_iadd dr_cX17_feed_11 (G_nam fun z160960 hz160960 => ?_)
  have ez160960 : z160960.toInt = p160922.toInt + 20 := by rw [gI_add hz160960 bp160922 (gBl (show Int32.toInt 20 = 20 by decide)) (by decide) (by decide), show Int32.toInt 20 = 20 from by decide]
  have bz160960 : gB z160960 20 8212 := gB_add (gI_add hz160960 bp160922 (gBl (show Int32.toInt 20 = 20 by decide)) (by decide) (by decide)) bp160922 (gBl (show Int32.toInt 20 = 20 by decide)) (by decide) (by decide)
  refine G_sipush 8192 dr_cX17_feed_12 (by decide +kernel) ?_
  refine G_icmp_le 24 dr_cX17_feed_15 (by decide +kernel) (fun hc160961 => ?_) (fun hc160961 => ?_)
  · have r160962 : z160960.toInt ≤ 8192 := gj_le hc160961 (show Int32.toInt 8192 = 8192 by decide)
    have bz160960' : gB z160960 20 8192 := ⟨by omega, by omega⟩
    refine G_aload_n 0 dr_cX17_feed_24 rfl ?_
    refine G_iload_n 1 dr_cX17_feed_25 rfl ?_
    refine G_aload_n 0 dr_cX17_feed_26 rfl ?_
    refine Gp_get 32 hm160906 he160958 dr_cX17_feed_27 (gk_X17 D I) (Nat.le_of_ble_eq_true rfl) wr_7_106 rfl ?_
    have hT160963 : RS D I P160897 F160955 γ el := RS_set hT n160957 htq160899 (by decide) ⟨q160908, q160909, p160910, p160911, p160912, p160913, p160914, p160915, p160916, p160917, p160918, p160919, p160920, 0, p160922, p160923, p160924, he160958, ⟨(hB160951.1), (hB160951.2.1), (hB160951.2.2.1), (hB160951.2.2.2.1), (hB160951.2.2.2.2.1), (hB160951.2.2.2.2.2.1), (hB160951.2.2.2.2.2.2.1), bp160922, (hB160951.2.2.2.2.2.2.2.2)⟩, ht160925, ht160926, ht160927, ht160928, ht160929, ht160930, ht160931, ht160932, ht160933, ht160934, ht160935, ht160936, ht160937, ht160938, ht160939, ht160940, ht160941, ht160942, ht160943, ht160944, ht160945, ht160946, ht160947, ht160948, hB160952⟩
    have ac161426 : (fI (F160955 q160899) 32).toInt = p160922.toInt := by rw [he160958]; rfl
    have ac161427 : (fI (F160955 q160899) 30).toInt = 0 := by rw [he160958]; show Int32.toInt 0 = 0; decide
    refine Gw_callV (As := [.int p160900, .int p160922]) (gV_ok D I) (ct_160969_SpillForgeModel_word l hl0 D I γ el P160897 F160955 q160899 p160900 p160922 hT160963 htq160899 ⟨by omega, by omega⟩) dr_cX17_feed_30 ⟨wr_7_195, wr_1_14, wr_7_198, by decide, rfl, (Nat.le_of_ble_eq_true rfl), (Nat.le_of_ble_eq_true rfl)⟩ wr_7_197 wr_p_74 hm160906 he160958 rfl (show 0 + 0 ≤ 0 by first | omega | decide) (show 0 + 0 ≤ 0 by first | omega | decide) (Nat.le_of_ble_eq_true rfl) (fun r161431 w161432 dc161428 ds161429 hp161430 => ?_) (fun _ _ _ _ _ z => z.elim)
    obtain ⟨F161435, rfl, rfl, hT161436, hs161437, hdc, hds, x161433, x161434⟩ := hp161430
    have hs161438 : rStr γ [] F160898 F161435 := rStr_tr hs160959 hs161437
    change G _ _ _ _ _ _ _ _ _ _ _
    refine G_widen (cs' := 0) (sl' := 0) (by omega) (by omega) ?_
    refine G_aload_n 0 dr_cX17_feed_33 rfl ?_
    refine G_iload_n 2 dr_cX17_feed_34 rfl ?_
    refine G_aload_n 0 dr_cX17_feed_35 rfl ?_
    have hm161439 : q160899 ∈ P160897 := RS_m hT161436 htq160899 (by decide)
    obtain ⟨q161441, q161442, p161443, p161444, p161445, p161446, p161447, p161448, p161449, p161450, p161451, p161452, p161453, p161454, p161455, p161456, p161457, he161440, hB161484, ht161458, ht161459, ht161460, ht161461, ht161462, ht161463, ht161464, ht161465, ht161466, ht161467, ht161468, ht161469, ht161470, ht161471, ht161472, ht161473, ht161474, ht161475, ht161476, ht161477, ht161478, ht161479, ht161480, ht161481, hB161485⟩ := show rk_10 γ (F161435 q160899) from RS_o hT161436 htq160899
    have ac161486 : (fI (F161435 q160899) 32).toInt = p161455.toInt := by rw [he161440]; rfl
    have bp161455 : gB p161455 0 8192 := (hB161484.2.2.2.2.2.2.2.1)
    have ac161487 : (fI (F161435 q160899) 30).toInt = p161454.toInt := by rw [he161440]; rfl
    have bp161454 : gB p161454 (-2147483648) 2147483647 := (gB_any p161454)
    refine Gp_get 32 hm161439 he161440 dr_cX17_feed_36 (gk_X17 D I) (Nat.le_of_ble_eq_true rfl) wr_7_106 rfl ?_
    refine G_iconst 4 dr_cX17_feed_39 (by decide +kernel) ?_
    refine G_iadd dr_cX17_feed_40 (G_nam fun z161488 hz161488 => ?_)
    have ez161488 : z161488.toInt = p161455.toInt + 4 := by rw [gI_add hz161488 bp161455 (gBl (show Int32.toInt 4 = 4 by decide)) (by decide) (by decide), show Int32.toInt 4 = 4 from by decide]
    have bz161488 : gB z161488 4 8196 := gB_add (gI_add hz161488 bp161455 (gBl (show Int32.toInt 4 = 4 by decide)) (by decide) (by decide)) bp161455 (gBl (show Int32.toInt 4 = 4 by decide)) (by decide) (by decide)
    have ac161489 : (fI (F161435 q160899) 32).toInt = p161455.toInt := by rw [he161440]; rfl
    have ac161490 : (fI (F161435 q160899) 30).toInt = p161454.toInt := by rw [he161440]; rfl
    refine Gw_callV (As := [.int p160901, .int z161488]) (gV_ok D I) (ct_160969_SpillForgeModel_word l hl0 D I γ el P160897 F161435 q160899 p160901 z161488 hT161436 htq160899 ⟨by omega, by omega⟩) dr_cX17_feed_41 ⟨wr_7_195, wr_1_14, wr_7_198, by decide, rfl, (Nat.le_of_ble_eq_true rfl), (Nat.le_of_ble_eq_true rfl)⟩ wr_7_197 wr_p_74 hm161439 he161440 rfl (show 0 + 0 ≤ 0 by first | omega | decide) (show 0 + 0 ≤ 0 by first | omega | decide) (Nat.le_of_ble_eq_true rfl) (fun r161494 w161495 dc161491 ds161492 hp161493 => ?_) (fun _ _ _ _ _ z => z.elim)
    obtain ⟨F161498, rfl, rfl, hT161499, hs161500, hdc, hds, x161496, x161497⟩ := hp161493
    have hs161501 : rStr γ [] F160898 F161498 := rStr_tr hs161438 hs161500
    change G _ _ _ _ _ _ _ _ _ _ _
    refine G_widen (cs' := 0) (sl' := 0) (by omega) (by omega) ?_
    refine G_aload_n 0 dr_cX17_feed_44 rfl ?_
    refine G_iload_n 3 dr_cX17_feed_45 rfl ?_
    refine G_aload_n 0 dr_cX17_feed_46 rfl ?_
    have hm161502 : q160899 ∈ P160897 := RS_m hT161499 htq160899 (by decide)
    obtain ⟨q161504, q161505, p161506, p161507, p161508, p161509, p161510, p161511, p161512, p161513, p161514, p161515, p161516, p161517, p161518, p161519, p161520, he161503, hB161547, ht161521, ht161522, ht161523, ht161524, ht161525, ht161526, ht161527, ht161528, ht161529, ht161530, ht161531, ht161532, ht161533, ht161534, ht161535, ht161536, ht161537, ht161538, ht161539, ht161540, ht161541, ht161542, ht161543, ht161544, hB161548⟩ := show rk_10 γ (F161498 q160899) from RS_o hT161499 htq160899
    have ac161549 : (fI (F161498 q160899) 32).toInt = p161518.toInt := by rw [he161503]; rfl
    have bp161518 : gB p161518 0 8192 := (hB161547.2.2.2.2.2.2.2.1)
    have ac161550 : (fI (F161498 q160899) 30).toInt = p161517.toInt := by rw [he161503]; rfl
    have bp161517 : gB p161517 (-2147483648) 2147483647 := (gB_any p161517)
    refine Gp_get 32 hm161502 he161503 dr_cX17_feed_47 (gk_X17 D I) (Nat.le_of_ble_eq_true rfl) wr_7_106 rfl ?_
    refine G_bipush 8 dr_cX17_feed_50 (by decide +kernel) ?_
    refine G_iadd dr_cX17_feed_52 (G_nam fun z161551 hz161551 => ?_)
    have ez161551 : z161551.toInt = p161518.toInt + 8 := by rw [gI_add hz161551 bp161518 (gBl (show Int32.toInt 8 = 8 by decide)) (by decide) (by decide), show Int32.toInt 8 = 8 from by decide]
    have bz161551 : gB z161551 8 8200 := gB_add (gI_add hz161551 bp161518 (gBl (show Int32.toInt 8 = 8 by decide)) (by decide) (by decide)) bp161518 (gBl (show Int32.toInt 8 = 8 by decide)) (by decide) (by decide)
    have ac161552 : (fI (F161498 q160899) 32).toInt = p161518.toInt := by rw [he161503]; rfl
    have ac161553 : (fI (F161498 q160899) 30).toInt = p161517.toInt := by rw [he161503]; rfl
    refine Gw_callV (As := [.int p160902, .int z161551]) (gV_ok D I) (ct_160969_SpillForgeModel_word l hl0 D I γ el P160897 F161498 q160899 p160902 z161551 hT161499 htq160899 ⟨by omega, by omega⟩) dr_cX17_feed_53 ⟨wr_7_195, wr_1_14, wr_7_198, by decide, rfl, (Nat.le_of_ble_eq_true rfl), (Nat.le_of_ble_eq_true rfl)⟩ wr_7_197 wr_p_74 hm161502 he161503 rfl (show 0 + 0 ≤ 0 by first | omega | decide) (show 0 + 0 ≤ 0 by first | omega | decide) (Nat.le_of_ble_eq_true rfl) (fun r161557 w161558 dc161554 ds161555 hp161556 => ?_) (fun _ _ _ _ _ z => z.elim)
    obtain ⟨F161561, rfl, rfl, hT161562, hs161563, hdc, hds, x161559, x161560⟩ := hp161556
    have hs161564 : rStr γ [] F160898 F161561 := rStr_tr hs161501 hs161563
    change G _ _ _ _ _ _ _ _ _ _ _
    refine G_widen (cs' := 0) (sl' := 0) (by omega) (by omega) ?_
    refine G_aload_n 0 dr_cX17_feed_56 rfl ?_
    refine G_iload 4 dr_cX17_feed_57 rfl ?_
    refine G_aload_n 0 dr_cX17_feed_59 rfl ?_
    have hm161565 : q160899 ∈ P160897 := RS_m hT161562 htq160899 (by decide)
    obtain ⟨q161567, q161568, p161569, p161570, p161571, p161572, p161573, p161574, p161575, p161576, p161577, p161578, p161579, p161580, p161581, p161582, p161583, he161566, hB161610, ht161584, ht161585, ht161586, ht161587, ht161588, ht161589, ht161590, ht161591, ht161592, ht161593, ht161594, ht161595, ht161596, ht161597, ht161598, ht161599, ht161600, ht161601, ht161602, ht161603, ht161604, ht161605, ht161606, ht161607, hB161611⟩ := show rk_10 γ (F161561 q160899) from RS_o hT161562 htq160899
    have ac161612 : (fI (F161561 q160899) 32).toInt = p161581.toInt := by rw [he161566]; rfl
    have bp161581 : gB p161581 0 8192 := (hB161610.2.2.2.2.2.2.2.1)
    have ac161613 : (fI (F161561 q160899) 30).toInt = p161580.toInt := by rw [he161566]; rfl
    have bp161580 : gB p161580 (-2147483648) 2147483647 := (gB_any p161580)
    refine Gp_get 32 hm161565 he161566 dr_cX17_feed_60 (gk_X17 D I) (Nat.le_of_ble_eq_true rfl) wr_7_106 rfl ?_
    refine G_bipush 12 dr_cX17_feed_63 (by decide +kernel) ?_
    refine G_iadd dr_cX17_feed_65 (G_nam fun z161614 hz161614 => ?_)
    have ez161614 : z161614.toInt = p161581.toInt + 12 := by rw [gI_add hz161614 bp161581 (gBl (show Int32.toInt 12 = 12 by decide)) (by decide) (by decide), show Int32.toInt 12 = 12 from by decide]
    have bz161614 : gB z161614 12 8204 := gB_add (gI_add hz161614 bp161581 (gBl (show Int32.toInt 12 = 12 by decide)) (by decide) (by decide)) bp161581 (gBl (show Int32.toInt 12 = 12 by decide)) (by decide) (by decide)
    have ac161615 : (fI (F161561 q160899) 32).toInt = p161581.toInt := by rw [he161566]; rfl
    have ac161616 : (fI (F161561 q160899) 30).toInt = p161580.toInt := by rw [he161566]; rfl
    refine Gw_callV (As := [.int p160903, .int z161614]) (gV_ok D I) (ct_160969_SpillForgeModel_word l hl0 D I γ el P160897 F161561 q160899 p160903 z161614 hT161562 htq160899 ⟨by omega, by omega⟩) dr_cX17_feed_66 ⟨wr_7_195, wr_1_14, wr_7_198, by decide, rfl, (Nat.le_of_ble_eq_true rfl), (Nat.le_of_ble_eq_true rfl)⟩ wr_7_197 wr_p_74 hm161565 he161566 rfl (show 0 + 0 ≤ 0 by first | omega | decide) (show 0 + 0 ≤ 0 by first | omega | decide) (Nat.le_of_ble_eq_true rfl) (fun r161620 w161621 dc161617 ds161618 hp161619 => ?_) (fun _ _ _ _ _ z => z.elim)
    obtain ⟨F161624, rfl, rfl, hT161625, hs161626, hdc, hds, x161622, x161623⟩ := hp161619
    have hs161627 : rStr γ [] F160898 F161624 := rStr_tr hs161564 hs161626
    change G _ _ _ _ _ _ _ _ _ _ _
    refine G_widen (cs' := 0) (sl' := 0) (by omega) (by omega) ?_
    refine G_aload_n 0 dr_cX17_feed_69 rfl ?_
    refine G_iload 5 dr_cX17_feed_70 rfl ?_
    refine G_aload_n 0 dr_cX17_feed_72 rfl ?_
    have hm161628 : q160899 ∈ P160897 := RS_m hT161625 htq160899 (by decide)
    obtain ⟨q161630, q161631, p161632, p161633, p161634, p161635, p161636, p161637, p161638, p161639, p161640, p161641, p161642, p161643, p161644, p161645, p161646, he161629, hB161673, ht161647, ht161648, ht161649, ht161650, ht161651, ht161652, ht161653, ht161654, ht161655, ht161656, ht161657, ht161658, ht161659, ht161660, ht161661, ht161662, ht161663, ht161664, ht161665, ht161666, ht161667, ht161668, ht161669, ht161670, hB161674⟩ := show rk_10 γ (F161624 q160899) from RS_o hT161625 htq160899
    have ac161675 : (fI (F161624 q160899) 32).toInt = p161644.toInt := by rw [he161629]; rfl
    have bp161644 : gB p161644 0 8192 := (hB161673.2.2.2.2.2.2.2.1)
    have ac161676 : (fI (F161624 q160899) 30).toInt = p161643.toInt := by rw [he161629]; rfl
    have bp161643 : gB p161643 (-2147483648) 2147483647 := (gB_any p161643)
    refine Gp_get 32 hm161628 he161629 dr_cX17_feed_73 (gk_X17 D I) (Nat.le_of_ble_eq_true rfl) wr_7_106 rfl ?_
    refine G_bipush 16 dr_cX17_feed_76 (by decide +kernel) ?_
    refine G_iadd dr_cX17_feed_78 (G_nam fun z161677 hz161677 => ?_)
    have ez161677 : z161677.toInt = p161644.toInt + 16 := by rw [gI_add hz161677 bp161644 (gBl (show Int32.toInt 16 = 16 by decide)) (by decide) (by decide), show Int32.toInt 16 = 16 from by decide]
    have bz161677 : gB z161677 16 8208 := gB_add (gI_add hz161677 bp161644 (gBl (show Int32.toInt 16 = 16 by decide)) (by decide) (by decide)) bp161644 (gBl (show Int32.toInt 16 = 16 by decide)) (by decide) (by decide)
    have ac161678 : (fI (F161624 q160899) 32).toInt = p161644.toInt := by rw [he161629]; rfl
    have ac161679 : (fI (F161624 q160899) 30).toInt = p161643.toInt := by rw [he161629]; rfl
    refine Gw_callV (As := [.int p160904, .int z161677]) (gV_ok D I) (ct_160969_SpillForgeModel_word l hl0 D I γ el P160897 F161624 q160899 p160904 z161677 hT161625 htq160899 ⟨by omega, by omega⟩) dr_cX17_feed_79 ⟨wr_7_195, wr_1_14, wr_7_198, by decide, rfl, (Nat.le_of_ble_eq_true rfl), (Nat.le_of_ble_eq_true rfl)⟩ wr_7_197 wr_p_74 hm161628 he161629 rfl (show 0 + 0 ≤ 0 by first | omega | decide) (show 0 + 0 ≤ 0 by first | omega | decide) (Nat.le_of_ble_eq_true rfl) (fun r161683 w161684 dc161680 ds161681 hp161682 => ?_) (fun _ _ _ _ _ z => z.elim)
    obtain ⟨F161687, rfl, rfl, hT161688, hs161689, hdc, hds, x161685, x161686⟩ := hp161682
    have hs161690 : rStr γ [] F160898 F161687 := rStr_tr hs161627 hs161689
    change G _ _ _ _ _ _ _ _ _ _ _
    refine G_widen (cs' := 0) (sl' := 0) (by omega) (by omega) ?_
    refine G_aload_n 0 dr_cX17_feed_82 rfl ?_
    refine G_dup dr_cX17_feed_83 rfl ?_
    have hm161691 : q160899 ∈ P160897 := RS_m hT161688 htq160899 (by decide)
    obtain ⟨q161693, q161694, p161695, p161696, p161697, p161698, p161699, p161700, p161701, p161702, p161703, p161704, p161705, p161706, p161707, p161708, p161709, he161692, hB161736, ht161710, ht161711, ht161712, ht161713, ht161714, ht161715, ht161716, ht161717, ht161718, ht161719, ht161720, ht161721, ht161722, ht161723, ht161724, ht161725, ht161726, ht161727, ht161728, ht161729, ht161730, ht161731, ht161732, ht161733, hB161737⟩ := show rk_10 γ (F161687 q160899) from RS_o hT161688 htq160899
    have ac161738 : (fI (F161687 q160899) 32).toInt = p161707.toInt := by rw [he161692]; rfl
    have bp161707 : gB p161707 0 8192 := (hB161736.2.2.2.2.2.2.2.1)
    have ac161739 : (fI (F161687 q160899) 30).toInt = p161706.toInt := by rw [he161692]; rfl
    have bp161706 : gB p161706 (-2147483648) 2147483647 := (gB_any p161706)
    refine Gp_get 32 hm161691 he161692 dr_cX17_feed_84 (gk_X17 D I) (Nat.le_of_ble_eq_true rfl) wr_7_106 rfl ?_
    refine G_bipush 20 dr_cX17_feed_87 (by decide +kernel) ?_
    refine G_iadd dr_cX17_feed_89 (G_nam fun z161740 hz161740 => ?_)
    have ez161740 : z161740.toInt = p161707.toInt + 20 := by rw [gI_add hz161740 bp161707 (gBl (show Int32.toInt 20 = 20 by decide)) (by decide) (by decide), show Int32.toInt 20 = 20 from by decide]
    have bz161740 : gB z161740 20 8212 := gB_add (gI_add hz161740 bp161707 (gBl (show Int32.toInt 20 = 20 by decide)) (by decide) (by decide)) bp161707 (gBl (show Int32.toInt 20 = 20 by decide)) (by decide) (by decide)
    refine Gp_put 32 hm161691 he161692 dr_cX17_feed_90 (gk_X17 D I) (Nat.le_of_ble_eq_true rfl) wr_7_106 rfl rfl rfl (Nat.le_of_ble_eq_true rfl) (fun F161741 e161742 n161743 => ?_)
    have he161744 : F161741 q160899 = .inr (22, [.ref (γ 9 0), .ref (γ 9 1), .ref (γ 9 2), .ref (γ 9 3), .ref (γ 9 4), .ref (γ 9 5), .ref (γ 9 6), .ref (γ 9 7), .ref (γ 9 8), .int p161695, .int p161696, .int p161697, .int p161698, .int p161699, .int p161700, .ref (γ 9 15), .ref (γ 9 16), .ref (γ 9 17), .ref (γ 9 18), .ref (γ 9 19), .ref (γ 9 20), .ref (γ 9 21), .ref (γ 9 22), .int p161701, .int p161702, .int p161703, .int p161704, .int p161705, .ref q161693, .ref (γ 9 29), .int p161706, .ref (γ 9 31), .int z161740, .int p161708, .int p161709, .ref q161694]) := e161742
    have hs161745 : rStr γ [] F160898 F161741 := rStr_put hs161690 n161743 htq160899 (by decide)
    refine G_aload_n 0 dr_cX17_feed_93 rfl ?_
    refine Gp_get 32 hm161691 he161744 dr_cX17_feed_94 (gk_X17 D I) (Nat.le_of_ble_eq_true rfl) wr_7_106 rfl ?_
    have hT161746 : RS D I P160897 F161741 γ el := RS_set hT161688 n161743 htq160899 (by decide) ⟨q161693, q161694, p161695, p161696, p161697, p161698, p161699, p161700, p161701, p161702, p161703, p161704, p161705, p161706, z161740, p161708, p161709, he161744, ⟨(hB161736.1), (hB161736.2.1), (hB161736.2.2.1), (hB161736.2.2.2.1), (hB161736.2.2.2.2.1), (hB161736.2.2.2.2.2.1), (hB161736.2.2.2.2.2.2.1), ⟨by omega, by omega⟩, (hB161736.2.2.2.2.2.2.2.2)⟩, ht161710, ht161711, ht161712, ht161713, ht161714, ht161715, ht161716, ht161717, ht161718, ht161719, ht161720, ht161721, ht161722, ht161723, ht161724, ht161725, ht161726, ht161727, ht161728, ht161729, ht161730, ht161731, ht161732, ht161733, hB161737⟩
    have ac161747 : (fI (F161741 q160899) 32).toInt = z161740.toInt := by rw [he161744]; rfl
    have ac161748 : (fI (F161741 q160899) 30).toInt = p161706.toInt := by rw [he161744]; rfl
    exact G_iretA dr_cX17_feed_97 rfl (Nat.le_of_ble_eq_true rfl) (Nat.le_of_ble_eq_true rfl) ⟨F161741, z161740, rfl, rfl, hT161746, hs161745, (Nat.le_of_ble_eq_true rfl), (Nat.le_of_ble_eq_true rfl), (gB_w bz161740 (by decide) (by decide)), (by omega)⟩
  · have r161749 : 8192 < z160960.toInt := gj_nle hc160961 (show Int32.toInt 8192 = 8192 by decide)
    have bz160960' : gB z160960 8193 8212 := ⟨by omega, by omega⟩
    refine G_aload_n 0 dr_cX17_feed_18 rfl ?_
    refine G_iconst 1 dr_cX17_feed_19 (by decide +kernel) ?_
    have hT161750 : RS D I P160897 F160955 γ el := RS_set hT n160957 htq160899 (by decide) ⟨q160908, q160909, p160910, p160911, p160912, p160913, p160914, p160915, p160916, p160917, p160918, p160919, p160920, 0, p160922, p160923, p160924, he160958, ⟨(hB160951.1), (hB160951.2.1), (hB160951.2.2.1), (hB160951.2.2.2.1), (hB160951.2.2.2.2.1), (hB160951.2.2.2.2.2.1), (hB160951.2.2.2.2.2.2.1), bp160922, (hB160951.2.2.2.2.2.2.2.2)⟩, ht160925, ht160926, ht160927, ht160928, ht160929, ht160930, ht160931, ht160932, ht160933, ht160934, ht160935, ht160936, ht160937, ht160938, ht160939, ht160940, ht160941, ht160942, ht160943, ht160944, ht160945, ht160946, ht160947, ht160948, hB160952⟩
    have ac161751 : (fI (F160955 q160899) 32).toInt = p160922.toInt := by rw [he160958]; rfl
    have ac161752 : (fI (F160955 q160899) 30).toInt = 0 := by rw [he160958]; show Int32.toInt 0 = 0; decide
    refine Gw_callV (As := [.int 1]) (gV_ok D I) (ct_160530_SpillForgeModel_no l hl0 D I γ el P160897 F160955 q160899 1 hT161750 htq160899) dr_cX17_feed_20 ⟨wr_7_191, wr_1_14, wr_7_194, by decide, rfl, (Nat.le_of_ble_eq_true rfl), (Nat.le_of_ble_eq_true rfl)⟩ wr_7_193 wr_p_73 hm160906 he160958 rfl (show 0 + 0 ≤ 0 by first | omega | decide) (show 0 + 0 ≤ 0 by first | omega | decide) (Nat.le_of_ble_eq_true rfl) (fun r161756 w161757 dc161753 ds161754 hp161755 => ?_) (fun _ _ _ _ _ z => z.elim)
    obtain ⟨F161760, rfl, rfl, hT161761, hs161762, hdc, hds, x161758, x161759⟩ := hp161755
    have hs161763 : rStr γ [] F160898 F161760 := rStr_tr hs160959 hs161762
    rw [show Int32.toInt 1 = 1 from by decide] at x161759
    change G _ _ _ _ _ _ _ (.int 0 :: _) _ _ _
    refine G_widen (cs' := 0) (sl' := 0) (by omega) (by omega) ?_
    have hm161764 : q160899 ∈ P160897 := RS_m hT161761 htq160899 (by decide)
    obtain ⟨q161766, q161767, p161768, p161769, p161770, p161771, p161772, p161773, p161774, p161775, p161776, p161777, p161778, p161779, p161780, p161781, p161782, he161765, hB161809, ht161783, ht161784, ht161785, ht161786, ht161787, ht161788, ht161789, ht161790, ht161791, ht161792, ht161793, ht161794, ht161795, ht161796, ht161797, ht161798, ht161799, ht161800, ht161801, ht161802, ht161803, ht161804, ht161805, ht161806, hB161810⟩ := show rk_10 γ (F161760 q160899) from RS_o hT161761 htq160899
    have ac161811 : (fI (F161760 q160899) 32).toInt = p161780.toInt := by rw [he161765]; rfl
    have bp161780 : gB p161780 0 8192 := (hB161809.2.2.2.2.2.2.2.1)
    have ac161812 : (fI (F161760 q160899) 30).toInt = p161779.toInt := by rw [he161765]; rfl
    have bp161779 : gB p161779 (-2147483648) 2147483647 := (gB_any p161779)
    have ac161813 : (fI (F161760 q160899) 32).toInt = p161780.toInt := by rw [he161765]; rfl
    have ac161814 : (fI (F161760 q160899) 30).toInt = p161779.toInt := by rw [he161765]; rfl
    exact G_iretA dr_cX17_feed_23 rfl (Nat.le_of_ble_eq_true rfl) (Nat.le_of_ble_eq_true rfl) ⟨F161760, 0, rfl, rfl, hT161761, hs161763, (Nat.le_of_ble_eq_true rfl), (Nat.le_of_ble_eq_true rfl), (gB_w (gBl (show Int32.toInt 0 = 0 by decide)) (by decide) (by decide)), (by have qa0 : Int32.toInt 0 = 0 := (by decide); omega)⟩
abbrev ky_161821_SpillForgeModel_end : gKey := (cX17_end, 2, "SpillForgeModel", (some FieldType.int), [], "end", fun _ _ => True)
def pt_161821_SpillForgeModel_end (D : va_G) (I : FieldType → ClassId) (γ el : Nat → Nat → Nat) (P161817 : List Nat) (F161818 : Nat → va_E) (q161819 : Nat) (p161820 : Int32) : Option Value → va_W → Nat → Nat → Prop := fun r w dc ds => ∃ (F162022 : Nat → va_E) (o162021 : Int32), r = some (.int o162021) ∧ w = va_pl P161817 F162022 ∧ RS D I P161817 F162022 γ el ∧ rStr γ [] F161818 F162022 ∧ dc ≤ 0 ∧ ds ≤ 0 ∧ gB o162021 0 8192 ∧ ((0 ≤ p161820.toInt ∧ p161820.toInt ≤ (fI (F161818 q161819) 32).toInt ∧ o162021.toInt = p161820.toInt ∧ (fI (F162022 q161819) 32).toInt = p161820.toInt ∧ (fI (F162022 q161819) 30).toInt = 0) ∨ ((p161820.toInt < 0 ∨ (fI (F161818 q161819) 32).toInt < p161820.toInt) ∧ (fI (F162022 q161819) 30).toInt = 1 ∧ (fI (F162022 q161819) 32).toInt = (fI (F161818 q161819) 32).toInt))
set_option maxRecDepth 100000 in
set_option maxHeartbeats 4000000 in
theorem ct_161821_SpillForgeModel_end (l : Launch) (hl0 : l.stackTraces = false) (D : va_G) (I : FieldType → ClassId) (γ el : Nat → Nat → Nat) (P161817 : List Nat) (F161818 : Nat → va_E) (q161819 : Nat) (p161820 : Int32) (hT : RS D I P161817 F161818 γ el) (htq161819 : rKd γ q161819 10) : CtA (gV D I) l yX17_end cX17_end 2 (some FieldType.int) 1 21 0 0 [.ref q161819, .int p161820] (va_pl P161817 F161818) (pt_161821_SpillForgeModel_end D I γ el P161817 F161818 q161819 p161820) gNA := by
  refine CtA_of hl0 (by decide) (Nat.le_of_ble_eq_true rfl) ?_
  have bp161820 := gB_any p161820
  have hm161822 : q161819 ∈ P161817 := RS_m hT htq161819 (by decide)
  obtain ⟨q161824, q161825, p161826, p161827, p161828, p161829, p161830, p161831, p161832, p161833, p161834, p161835, p161836, p161837, p161838, p161839, p161840, he161823, hB161867, ht161841, ht161842, ht161843, ht161844, ht161845, ht161846, ht161847, ht161848, ht161849, ht161850, ht161851, ht161852, ht161853, ht161854, ht161855, ht161856, ht161857, ht161858, ht161859, ht161860, ht161861, ht161862, ht161863, ht161864, hB161868⟩ := show rk_10 γ (F161818 q161819) from RS_o hT htq161819
  have ac161869 : (fI (F161818 q161819) 32).toInt = p161838.toInt := by rw [he161823]; rfl
  have bp161838 : gB p161838 0 8192 := (hB161867.2.2.2.2.2.2.2.1)
  have ac161870 : (fI (F161818 q161819) 30).toInt = p161837.toInt := by rw [he161823]; rfl
  have bp161837 : gB p161837 (-2147483648) 2147483647 := (gB_any p161837)
  refine G_aload_n 0 dr_cX17_end_0 rfl ?_
  refine G_iconst 0 dr_cX17_end_1 (by decide +kernel) ?_
  refine Gp_put 30 hm161822 he161823 dr_cX17_end_2 (gk_X17 D I) (Nat.le_of_ble_eq_true rfl) wr_7_104 rfl rfl rfl (Nat.le_of_ble_eq_true rfl) (fun F161871 e161872 n161873 => ?_)
  have he161874 : F161871 q161819 = .inr (22, [.ref (γ 9 0), .ref (γ 9 1), .ref (γ 9 2), .ref (γ 9 3), .ref (γ 9 4), .ref (γ 9 5), .ref (γ 9 6), .ref (γ 9 7), .ref (γ 9 8), .int p161826, .int p161827, .int p161828, .int p161829, .int p161830, .int p161831, .ref (γ 9 15), .ref (γ 9 16), .ref (γ 9 17), .ref (γ 9 18), .ref (γ 9 19), .ref (γ 9 20), .ref (γ 9 21), .ref (γ 9 22), .int p161832, .int p161833, .int p161834, .int p161835, .int p161836, .ref q161824, .ref (γ 9 29), .int 0, .ref (γ 9 31), .int p161838, .int p161839, .int p161840, .ref q161825]) := e161872
  have hs161875 : rStr γ [] F161818 F161871 := rStr_put (rStr_rf (γ := γ) (W := []) (F := F161818)) n161873 htq161819 (by decide)
  refine G_iload_n 1 dr_cX17_end_5 rfl ?_
  refine G_if_lt 17 dr_cX17_end_6 (by decide +kernel) (fun hc161876 => ?_) (fun hc161876 => ?_)
  · have r161877 : p161820.toInt < 0 := gj_lt hc161876 (show Int32.toInt 0 = 0 by decide)
    have bp161820' : gB p161820 (-2147483648) (-1) := ⟨by omega, by omega⟩
    refine G_aload_n 0 dr_cX17_end_17 rfl ?_
    refine G_iconst 1 dr_cX17_end_18 (by decide +kernel) ?_
    have hT161878 : RS D I P161817 F161871 γ el := RS_set hT n161873 htq161819 (by decide) ⟨q161824, q161825, p161826, p161827, p161828, p161829, p161830, p161831, p161832, p161833, p161834, p161835, p161836, 0, p161838, p161839, p161840, he161874, ⟨(hB161867.1), (hB161867.2.1), (hB161867.2.2.1), (hB161867.2.2.2.1), (hB161867.2.2.2.2.1), (hB161867.2.2.2.2.2.1), (hB161867.2.2.2.2.2.2.1), bp161838, (hB161867.2.2.2.2.2.2.2.2)⟩, ht161841, ht161842, ht161843, ht161844, ht161845, ht161846, ht161847, ht161848, ht161849, ht161850, ht161851, ht161852, ht161853, ht161854, ht161855, ht161856, ht161857, ht161858, ht161859, ht161860, ht161861, ht161862, ht161863, ht161864, hB161868⟩
    have ac161879 : (fI (F161871 q161819) 32).toInt = p161838.toInt := by rw [he161874]; rfl
    have ac161880 : (fI (F161871 q161819) 30).toInt = 0 := by rw [he161874]; show Int32.toInt 0 = 0; decide
    refine Gw_callV (As := [.int 1]) (gV_ok D I) (ct_160530_SpillForgeModel_no l hl0 D I γ el P161817 F161871 q161819 1 hT161878 htq161819) dr_cX17_end_19 ⟨wr_7_191, wr_1_14, wr_7_194, by decide, rfl, (Nat.le_of_ble_eq_true rfl), (Nat.le_of_ble_eq_true rfl)⟩ wr_7_193 wr_p_73 hm161822 he161874 rfl (show 0 + 0 ≤ 0 by first | omega | decide) (show 0 + 0 ≤ 0 by first | omega | decide) (Nat.le_of_ble_eq_true rfl) (fun r161884 w161885 dc161881 ds161882 hp161883 => ?_) (fun _ _ _ _ _ z => z.elim)
    obtain ⟨F161888, rfl, rfl, hT161889, hs161890, hdc, hds, x161886, x161887⟩ := hp161883
    have hs161891 : rStr γ [] F161818 F161888 := rStr_tr hs161875 hs161890
    rw [show Int32.toInt 1 = 1 from by decide] at x161887
    change G _ _ _ _ _ _ _ (.int 0 :: _) _ _ _
    refine G_widen (cs' := 0) (sl' := 0) (by omega) (by omega) ?_
    have hm161892 : q161819 ∈ P161817 := RS_m hT161889 htq161819 (by decide)
    obtain ⟨q161894, q161895, p161896, p161897, p161898, p161899, p161900, p161901, p161902, p161903, p161904, p161905, p161906, p161907, p161908, p161909, p161910, he161893, hB161937, ht161911, ht161912, ht161913, ht161914, ht161915, ht161916, ht161917, ht161918, ht161919, ht161920, ht161921, ht161922, ht161923, ht161924, ht161925, ht161926, ht161927, ht161928, ht161929, ht161930, ht161931, ht161932, ht161933, ht161934, hB161938⟩ := show rk_10 γ (F161888 q161819) from RS_o hT161889 htq161819
    have ac161939 : (fI (F161888 q161819) 32).toInt = p161908.toInt := by rw [he161893]; rfl
    have bp161908 : gB p161908 0 8192 := (hB161937.2.2.2.2.2.2.2.1)
    have ac161940 : (fI (F161888 q161819) 30).toInt = p161907.toInt := by rw [he161893]; rfl
    have bp161907 : gB p161907 (-2147483648) 2147483647 := (gB_any p161907)
    have ac161941 : (fI (F161888 q161819) 32).toInt = p161908.toInt := by rw [he161893]; rfl
    have ac161942 : (fI (F161888 q161819) 30).toInt = p161907.toInt := by rw [he161893]; rfl
    exact G_iretA dr_cX17_end_22 rfl (Nat.le_of_ble_eq_true rfl) (Nat.le_of_ble_eq_true rfl) ⟨F161888, 0, rfl, rfl, hT161889, hs161891, (Nat.le_of_ble_eq_true rfl), (Nat.le_of_ble_eq_true rfl), (gB_w (gBl (show Int32.toInt 0 = 0 by decide)) (by decide) (by decide)), (by have qa0 : Int32.toInt 0 = 0 := (by decide); omega)⟩
  · have r161943 : 0 ≤ p161820.toInt := gj_nlt hc161876 (show Int32.toInt 0 = 0 by decide)
    have bp161820' : gB p161820 0 2147483647 := ⟨by omega, by omega⟩
    refine G_iload_n 1 dr_cX17_end_9 rfl ?_
    refine G_aload_n 0 dr_cX17_end_10 rfl ?_
    refine Gp_get 32 hm161822 he161874 dr_cX17_end_11 (gk_X17 D I) (Nat.le_of_ble_eq_true rfl) wr_7_106 rfl ?_
    refine G_icmp_le 23 dr_cX17_end_14 (by decide +kernel) (fun hc161944 => ?_) (fun hc161944 => ?_)
    · have r161945 : p161820.toInt ≤ p161838.toInt := gC_le hc161944
      have bp161820'' : gB p161820 0 8192 := ⟨by omega, by omega⟩
      refine G_aload_n 0 dr_cX17_end_23 rfl ?_
      refine G_iload_n 1 dr_cX17_end_24 rfl ?_
      refine Gp_put 32 hm161822 he161874 dr_cX17_end_25 (gk_X17 D I) (Nat.le_of_ble_eq_true rfl) wr_7_106 rfl rfl rfl (Nat.le_of_ble_eq_true rfl) (fun F161946 e161947 n161948 => ?_)
      have he161949 : F161946 q161819 = .inr (22, [.ref (γ 9 0), .ref (γ 9 1), .ref (γ 9 2), .ref (γ 9 3), .ref (γ 9 4), .ref (γ 9 5), .ref (γ 9 6), .ref (γ 9 7), .ref (γ 9 8), .int p161826, .int p161827, .int p161828, .int p161829, .int p161830, .int p161831, .ref (γ 9 15), .ref (γ 9 16), .ref (γ 9 17), .ref (γ 9 18), .ref (γ 9 19), .ref (γ 9 20), .ref (γ 9 21), .ref (γ 9 22), .int p161832, .int p161833, .int p161834, .int p161835, .int p161836, .ref q161824, .ref (γ 9 29), .int 0, .ref (γ 9 31), .int p161820, .int p161839, .int p161840, .ref q161825]) := e161947
      have hs161950 : rStr γ [] F161818 F161946 := rStr_put hs161875 n161948 htq161819 (by decide)
      have n161951 : ∀ b, b ≠ q161819 → F161946 b = F161818 b := fun b hb => (n161948 b hb).trans (n161873 b hb)
      refine G_iload_n 1 dr_cX17_end_28 rfl ?_
      have hT161952 : RS D I P161817 F161946 γ el := RS_set hT n161951 htq161819 (by decide) ⟨q161824, q161825, p161826, p161827, p161828, p161829, p161830, p161831, p161832, p161833, p161834, p161835, p161836, 0, p161820, p161839, p161840, he161949, ⟨(hB161867.1), (hB161867.2.1), (hB161867.2.2.1), (hB161867.2.2.2.1), (hB161867.2.2.2.2.1), (hB161867.2.2.2.2.2.1), (hB161867.2.2.2.2.2.2.1), bp161820'', (hB161867.2.2.2.2.2.2.2.2)⟩, ht161841, ht161842, ht161843, ht161844, ht161845, ht161846, ht161847, ht161848, ht161849, ht161850, ht161851, ht161852, ht161853, ht161854, ht161855, ht161856, ht161857, ht161858, ht161859, ht161860, ht161861, ht161862, ht161863, ht161864, hB161868⟩
      have ac161953 : (fI (F161946 q161819) 32).toInt = p161820.toInt := by rw [he161949]; rfl
      have ac161954 : (fI (F161946 q161819) 30).toInt = 0 := by rw [he161949]; show Int32.toInt 0 = 0; decide
      exact G_iretA dr_cX17_end_29 rfl (Nat.le_of_ble_eq_true rfl) (Nat.le_of_ble_eq_true rfl) ⟨F161946, p161820, rfl, rfl, hT161952, hs161950, (Nat.le_of_ble_eq_true rfl), (Nat.le_of_ble_eq_true rfl), bp161820'', (by omega)⟩
    · have r161955 : p161838.toInt < p161820.toInt := gC_nle hc161944
      have bp161820'' : gB p161820 1 2147483647 := ⟨by omega, by omega⟩
      refine G_aload_n 0 dr_cX17_end_17 rfl ?_
      refine G_iconst 1 dr_cX17_end_18 (by decide +kernel) ?_
      have hT161956 : RS D I P161817 F161871 γ el := RS_set hT n161873 htq161819 (by decide) ⟨q161824, q161825, p161826, p161827, p161828, p161829, p161830, p161831, p161832, p161833, p161834, p161835, p161836, 0, p161838, p161839, p161840, he161874, ⟨(hB161867.1), (hB161867.2.1), (hB161867.2.2.1), (hB161867.2.2.2.1), (hB161867.2.2.2.2.1), (hB161867.2.2.2.2.2.1), (hB161867.2.2.2.2.2.2.1), bp161838, (hB161867.2.2.2.2.2.2.2.2)⟩, ht161841, ht161842, ht161843, ht161844, ht161845, ht161846, ht161847, ht161848, ht161849, ht161850, ht161851, ht161852, ht161853, ht161854, ht161855, ht161856, ht161857, ht161858, ht161859, ht161860, ht161861, ht161862, ht161863, ht161864, hB161868⟩
      have ac161957 : (fI (F161871 q161819) 32).toInt = p161838.toInt := by rw [he161874]; rfl
      have ac161958 : (fI (F161871 q161819) 30).toInt = 0 := by rw [he161874]; show Int32.toInt 0 = 0; decide
      refine Gw_callV (As := [.int 1]) (gV_ok D I) (ct_160530_SpillForgeModel_no l hl0 D I γ el P161817 F161871 q161819 1 hT161956 htq161819) dr_cX17_end_19 ⟨wr_7_191, wr_1_14, wr_7_194, by decide, rfl, (Nat.le_of_ble_eq_true rfl), (Nat.le_of_ble_eq_true rfl)⟩ wr_7_193 wr_p_73 hm161822 he161874 rfl (show 0 + 0 ≤ 0 by first | omega | decide) (show 0 + 0 ≤ 0 by first | omega | decide) (Nat.le_of_ble_eq_true rfl) (fun r161962 w161963 dc161959 ds161960 hp161961 => ?_) (fun _ _ _ _ _ z => z.elim)
      obtain ⟨F161966, rfl, rfl, hT161967, hs161968, hdc, hds, x161964, x161965⟩ := hp161961
      have hs161969 : rStr γ [] F161818 F161966 := rStr_tr hs161875 hs161968
      rw [show Int32.toInt 1 = 1 from by decide] at x161965
      change G _ _ _ _ _ _ _ (.int 0 :: _) _ _ _
      refine G_widen (cs' := 0) (sl' := 0) (by omega) (by omega) ?_
      have hm161970 : q161819 ∈ P161817 := RS_m hT161967 htq161819 (by decide)
      obtain ⟨q161972, q161973, p161974, p161975, p161976, p161977, p161978, p161979, p161980, p161981, p161982, p161983, p161984, p161985, p161986, p161987, p161988, he161971, hB162015, ht161989, ht161990, ht161991, ht161992, ht161993, ht161994, ht161995, ht161996, ht161997, ht161998, ht161999, ht162000, ht162001, ht162002, ht162003, ht162004, ht162005, ht162006, ht162007, ht162008, ht162009, ht162010, ht162011, ht162012, hB162016⟩ := show rk_10 γ (F161966 q161819) from RS_o hT161967 htq161819
      have ac162017 : (fI (F161966 q161819) 32).toInt = p161986.toInt := by rw [he161971]; rfl
      have bp161986 : gB p161986 0 8192 := (hB162015.2.2.2.2.2.2.2.1)
      have ac162018 : (fI (F161966 q161819) 30).toInt = p161985.toInt := by rw [he161971]; rfl
      have bp161985 : gB p161985 (-2147483648) 2147483647 := (gB_any p161985)
      have ac162019 : (fI (F161966 q161819) 32).toInt = p161986.toInt := by rw [he161971]; rfl
      have ac162020 : (fI (F161966 q161819) 30).toInt = p161985.toInt := by rw [he161971]; rfl
      exact G_iretA dr_cX17_end_22 rfl (Nat.le_of_ble_eq_true rfl) (Nat.le_of_ble_eq_true rfl) ⟨F161966, 0, rfl, rfl, hT161967, hs161969, (Nat.le_of_ble_eq_true rfl), (Nat.le_of_ble_eq_true rfl), (gB_w (gBl (show Int32.toInt 0 = 0 by decide)) (by decide) (by decide)), (by have qa0 : Int32.toInt 0 = 0 := (by decide); omega)⟩
