theorem dr_cX17_shown_0 : decode cX17_shown 0 = .ok (.aload_n 0, 1) := by decide +kernel
theorem dr_cX17_shown_1 : decode cX17_shown 1 = .ok (.iconst 0, 1) := by decide +kernel
theorem dr_cX17_shown_2 : decode cX17_shown 2 = .ok (.putfield 380, 3) := by decide +kernel
theorem dr_cX17_shown_5 : decode cX17_shown 5 = .ok (.iload_n 1, 1) := by decide +kernel
theorem dr_cX17_shown_6 : decode cX17_shown 6 = .ok (.ifCond .lt 20, 3) := by decide +kernel
theorem dr_cX17_shown_26 : decode cX17_shown 26 = .ok (.aload_n 0, 1) := by decide +kernel
theorem dr_cX17_shown_27 : decode cX17_shown 27 = .ok (.iconst 1, 1) := by decide +kernel
theorem dr_cX17_shown_28 : decode cX17_shown 28 = .ok (.invokevirtual 385, 3) := by decide +kernel
theorem dr_cX17_shown_31 : decode cX17_shown 31 = .ok (.ireturn, 1) := by decide +kernel
theorem dr_cX17_shown_9 : decode cX17_shown 9 = .ok (.iload_n 1, 1) := by decide +kernel
theorem dr_cX17_shown_10 : decode cX17_shown 10 = .ok (.aload_n 0, 1) := by decide +kernel
theorem dr_cX17_shown_11 : decode cX17_shown 11 = .ok (.getfield 280, 3) := by decide +kernel
theorem dr_cX17_shown_14 : decode cX17_shown 14 = .ok (.if_icmp .ge 12, 3) := by decide +kernel
theorem dr_cX17_shown_17 : decode cX17_shown 17 = .ok (.aload_n 0, 1) := by decide +kernel
theorem dr_cX17_shown_18 : decode cX17_shown 18 = .ok (.getfield 306, 3) := by decide +kernel
theorem dr_cX17_shown_21 : decode cX17_shown 21 = .ok (.iload_n 1, 1) := by decide +kernel
theorem dr_cX17_shown_22 : decode cX17_shown 22 = .ok (.iaload, 1) := by decide +kernel
theorem dr_cX17_shown_23 : decode cX17_shown 23 = .ok (.goto 8, 3) := by decide +kernel
theorem dr_cX17_thrown_0 : decode cX17_thrown 0 = .ok (.aload_n 0, 1) := by decide +kernel
theorem dr_cX17_thrown_1 : decode cX17_thrown 1 = .ok (.getfield 380, 3) := by decide +kernel
theorem dr_cX17_thrown_4 : decode cX17_thrown 4 = .ok (.ireturn, 1) := by decide +kernel
theorem dr_cX17_word_0 : decode cX17_word 0 = .ok (.iconst 0, 1) := by decide +kernel
theorem dr_cX17_word_1 : decode cX17_word 1 = .ok (.istore_n 3, 1) := by decide +kernel
theorem dr_cX17_word_2 : decode cX17_word 2 = .ok (.iload_n 3, 1) := by decide +kernel
theorem dr_cX17_word_3 : decode cX17_word 3 = .ok (.iconst 4, 1) := by decide +kernel
theorem dr_cX17_word_4 : decode cX17_word 4 = .ok (.if_icmp .ge 27, 3) := by decide +kernel
theorem dr_cX17_word_31 : decode cX17_word 31 = .ok (.return_, 1) := by decide +kernel
theorem dr_cX17_word_7 : decode cX17_word 7 = .ok (.aload_n 0, 1) := by decide +kernel
theorem dr_cX17_word_8 : decode cX17_word 8 = .ok (.getfield 374, 3) := by decide +kernel
theorem wr_7_105 : (Jvm.Cond.fieldLink "SpillForgeModel" (374 : Nat) "SpillForgeModel" "tape" "[B") ∈ gw := gw_7 105 rfl rfl
theorem dr_cX17_word_11 : decode cX17_word 11 = .ok (.iload_n 2, 1) := by decide +kernel
theorem dr_cX17_word_12 : decode cX17_word 12 = .ok (.iload_n 3, 1) := by decide +kernel
theorem dr_cX17_word_13 : decode cX17_word 13 = .ok (.iadd, 1) := by decide +kernel
theorem dr_cX17_word_14 : decode cX17_word 14 = .ok (.iload_n 1, 1) := by decide +kernel
theorem dr_cX17_word_15 : decode cX17_word 15 = .ok (.bipush 24, 2) := by decide +kernel
theorem dr_cX17_word_17 : decode cX17_word 17 = .ok (.bipush 8, 2) := by decide +kernel
theorem dr_cX17_word_19 : decode cX17_word 19 = .ok (.iload_n 3, 1) := by decide +kernel
theorem dr_cX17_word_20 : decode cX17_word 20 = .ok (.imul, 1) := by decide +kernel
theorem dr_cX17_word_21 : decode cX17_word 21 = .ok (.isub, 1) := by decide +kernel
theorem dr_cX17_word_22 : decode cX17_word 22 = .ok (.ishr, 1) := by decide +kernel
theorem dr_cX17_word_23 : decode cX17_word 23 = .ok (.i2b, 1) := by decide +kernel
theorem dr_cX17_word_24 : decode cX17_word 24 = .ok (.bastore, 1) := by decide +kernel
theorem dr_cX17_word_25 : decode cX17_word 25 = .ok (.iinc 3 1, 3) := by decide +kernel
theorem dr_cX17_word_28 : decode cX17_word 28 = .ok (.goto (-26), 3) := by decide +kernel
theorem dr_cX17_feed_0 : decode cX17_feed 0 = .ok (.aload_n 0, 1) := by decide +kernel
theorem dr_cX17_feed_1 : decode cX17_feed 1 = .ok (.iconst 0, 1) := by decide +kernel
theorem dr_cX17_feed_2 : decode cX17_feed 2 = .ok (.putfield 380, 3) := by decide +kernel
theorem dr_cX17_feed_5 : decode cX17_feed 5 = .ok (.aload_n 0, 1) := by decide +kernel
theorem dr_cX17_feed_6 : decode cX17_feed 6 = .ok (.getfield 383, 3) := by decide +kernel
theorem wr_7_106 : (Jvm.Cond.fieldLink "SpillForgeModel" (383 : Nat) "SpillForgeModel" "size" "I") ∈ gw := gw_7 106 rfl rfl
theorem dr_cX17_feed_9 : decode cX17_feed 9 = .ok (.bipush 20, 2) := by decide +kernel
theorem dr_cX17_feed_11 : decode cX17_feed 11 = .ok (.iadd, 1) := by decide +kernel
theorem dr_cX17_feed_12 : decode cX17_feed 12 = .ok (.sipush 8192, 3) := by decide +kernel
theorem dr_cX17_feed_15 : decode cX17_feed 15 = .ok (.if_icmp .le 9, 3) := by decide +kernel
theorem dr_cX17_feed_24 : decode cX17_feed 24 = .ok (.aload_n 0, 1) := by decide +kernel
theorem dr_cX17_feed_25 : decode cX17_feed 25 = .ok (.iload_n 1, 1) := by decide +kernel
theorem dr_cX17_feed_26 : decode cX17_feed 26 = .ok (.aload_n 0, 1) := by decide +kernel
theorem dr_cX17_feed_27 : decode cX17_feed 27 = .ok (.getfield 383, 3) := by decide +kernel
theorem dr_cX17_feed_30 : decode cX17_feed 30 = .ok (.invokevirtual 388, 3) := by decide +kernel
theorem wr_7_195 : (Jvm.Cond.methodLink "SpillForgeModel" (388 : Nat) ({ cls := "SpillForgeModel", name := "word", desc := "(II)V" } : Jvm.MethodName)) ∈ gw := gw_7 195 rfl rfl
theorem wr_7_198 : (Jvm.Cond.code ({ cls := "SpillForgeModel", name := "word", desc := "(II)V" } : Jvm.MethodName) prog_14_method_39_code (4 : Nat) (Option.none : Option Jvm.ClassFile.FieldType)) ∈ gw := gw_7 198 rfl rfl
theorem wr_7_197 : (Jvm.Cond.instanceMethod ({ cls := "SpillForgeModel", name := "word", desc := "(II)V" } : Jvm.MethodName)) ∈ gw := gw_7 197 rfl rfl
theorem wr_p_74 : Cond.selects "SpillForgeModel" ⟨"SpillForgeModel", "word", "(II)V"⟩ ⟨"SpillForgeModel", "word", "(II)V"⟩ ∈ gw := gw_p _ 74 rfl rfl rfl
theorem dr_cX17_feed_33 : decode cX17_feed 33 = .ok (.aload_n 0, 1) := by decide +kernel
theorem dr_cX17_feed_34 : decode cX17_feed 34 = .ok (.iload_n 2, 1) := by decide +kernel
theorem dr_cX17_feed_35 : decode cX17_feed 35 = .ok (.aload_n 0, 1) := by decide +kernel
theorem dr_cX17_feed_36 : decode cX17_feed 36 = .ok (.getfield 383, 3) := by decide +kernel
theorem dr_cX17_feed_39 : decode cX17_feed 39 = .ok (.iconst 4, 1) := by decide +kernel
theorem dr_cX17_feed_40 : decode cX17_feed 40 = .ok (.iadd, 1) := by decide +kernel
theorem dr_cX17_feed_41 : decode cX17_feed 41 = .ok (.invokevirtual 388, 3) := by decide +kernel
theorem dr_cX17_feed_44 : decode cX17_feed 44 = .ok (.aload_n 0, 1) := by decide +kernel
theorem dr_cX17_feed_45 : decode cX17_feed 45 = .ok (.iload_n 3, 1) := by decide +kernel
theorem dr_cX17_feed_46 : decode cX17_feed 46 = .ok (.aload_n 0, 1) := by decide +kernel
theorem dr_cX17_feed_47 : decode cX17_feed 47 = .ok (.getfield 383, 3) := by decide +kernel
theorem dr_cX17_feed_50 : decode cX17_feed 50 = .ok (.bipush 8, 2) := by decide +kernel
theorem dr_cX17_feed_52 : decode cX17_feed 52 = .ok (.iadd, 1) := by decide +kernel
theorem dr_cX17_feed_53 : decode cX17_feed 53 = .ok (.invokevirtual 388, 3) := by decide +kernel
theorem dr_cX17_feed_56 : decode cX17_feed 56 = .ok (.aload_n 0, 1) := by decide +kernel
theorem dr_cX17_feed_57 : decode cX17_feed 57 = .ok (.iload 4, 2) := by decide +kernel
theorem dr_cX17_feed_59 : decode cX17_feed 59 = .ok (.aload_n 0, 1) := by decide +kernel
theorem dr_cX17_feed_60 : decode cX17_feed 60 = .ok (.getfield 383, 3) := by decide +kernel
theorem dr_cX17_feed_63 : decode cX17_feed 63 = .ok (.bipush 12, 2) := by decide +kernel
theorem dr_cX17_feed_65 : decode cX17_feed 65 = .ok (.iadd, 1) := by decide +kernel
theorem dr_cX17_feed_66 : decode cX17_feed 66 = .ok (.invokevirtual 388, 3) := by decide +kernel
theorem dr_cX17_feed_69 : decode cX17_feed 69 = .ok (.aload_n 0, 1) := by decide +kernel
theorem dr_cX17_feed_70 : decode cX17_feed 70 = .ok (.iload 5, 2) := by decide +kernel
theorem dr_cX17_feed_72 : decode cX17_feed 72 = .ok (.aload_n 0, 1) := by decide +kernel
theorem dr_cX17_feed_73 : decode cX17_feed 73 = .ok (.getfield 383, 3) := by decide +kernel
theorem dr_cX17_feed_76 : decode cX17_feed 76 = .ok (.bipush 16, 2) := by decide +kernel
theorem dr_cX17_feed_78 : decode cX17_feed 78 = .ok (.iadd, 1) := by decide +kernel
theorem dr_cX17_feed_79 : decode cX17_feed 79 = .ok (.invokevirtual 388, 3) := by decide +kernel
theorem dr_cX17_feed_82 : decode cX17_feed 82 = .ok (.aload_n 0, 1) := by decide +kernel
theorem dr_cX17_feed_83 : decode cX17_feed 83 = .ok (.dup, 1) := by decide +kernel
theorem dr_cX17_feed_84 : decode cX17_feed 84 = .ok (.getfield 383, 3) := by decide +kernel
theorem dr_cX17_feed_87 : decode cX17_feed 87 = .ok (.bipush 20, 2) := by decide +kernel
theorem dr_cX17_feed_89 : decode cX17_feed 89 = .ok (.iadd, 1) := by decide +kernel
theorem dr_cX17_feed_90 : decode cX17_feed 90 = .ok (.putfield 383, 3) := by decide +kernel
theorem dr_cX17_feed_93 : decode cX17_feed 93 = .ok (.aload_n 0, 1) := by decide +kernel
theorem dr_cX17_feed_94 : decode cX17_feed 94 = .ok (.getfield 383, 3) := by decide +kernel
theorem dr_cX17_feed_97 : decode cX17_feed 97 = .ok (.ireturn, 1) := by decide +kernel
theorem dr_cX17_feed_18 : decode cX17_feed 18 = .ok (.aload_n 0, 1) := by decide +kernel
theorem dr_cX17_feed_19 : decode cX17_feed 19 = .ok (.iconst 1, 1) := by decide +kernel
theorem dr_cX17_feed_20 : decode cX17_feed 20 = .ok (.invokevirtual 385, 3) := by decide +kernel
theorem dr_cX17_feed_23 : decode cX17_feed 23 = .ok (.ireturn, 1) := by decide +kernel
theorem dr_cX17_end_0 : decode cX17_end 0 = .ok (.aload_n 0, 1) := by decide +kernel
theorem dr_cX17_end_1 : decode cX17_end 1 = .ok (.iconst 0, 1) := by decide +kernel
theorem dr_cX17_end_2 : decode cX17_end 2 = .ok (.putfield 380, 3) := by decide +kernel
theorem dr_cX17_end_5 : decode cX17_end 5 = .ok (.iload_n 1, 1) := by decide +kernel
theorem dr_cX17_end_6 : decode cX17_end 6 = .ok (.ifCond .lt 11, 3) := by decide +kernel
theorem dr_cX17_end_17 : decode cX17_end 17 = .ok (.aload_n 0, 1) := by decide +kernel
theorem dr_cX17_end_18 : decode cX17_end 18 = .ok (.iconst 1, 1) := by decide +kernel
theorem dr_cX17_end_19 : decode cX17_end 19 = .ok (.invokevirtual 385, 3) := by decide +kernel
theorem dr_cX17_end_22 : decode cX17_end 22 = .ok (.ireturn, 1) := by decide +kernel
theorem dr_cX17_end_9 : decode cX17_end 9 = .ok (.iload_n 1, 1) := by decide +kernel
theorem dr_cX17_end_10 : decode cX17_end 10 = .ok (.aload_n 0, 1) := by decide +kernel
theorem dr_cX17_end_11 : decode cX17_end 11 = .ok (.getfield 383, 3) := by decide +kernel
theorem dr_cX17_end_14 : decode cX17_end 14 = .ok (.if_icmp .le 9, 3) := by decide +kernel
theorem dr_cX17_end_23 : decode cX17_end 23 = .ok (.aload_n 0, 1) := by decide +kernel
theorem dr_cX17_end_24 : decode cX17_end 24 = .ok (.iload_n 1, 1) := by decide +kernel
theorem dr_cX17_end_25 : decode cX17_end 25 = .ok (.putfield 383, 3) := by decide +kernel
theorem dr_cX17_end_28 : decode cX17_end 28 = .ok (.iload_n 1, 1) := by decide +kernel
theorem dr_cX17_end_29 : decode cX17_end 29 = .ok (.ireturn, 1) := by decide +kernel
abbrev ky_165795_SpillForgeModel_shown : gKey := (cX17_shown, 2, "SpillForgeModel", (some FieldType.int), [], "shown", fun _ _ => True)
def pt_165795_SpillForgeModel_shown (D : va_G) (I : FieldType → ClassId) (γ el : Nat → Nat → Nat) (P165791 : List Nat) (F165792 : Nat → va_E) (q165793 : Nat) (p165794 : Int32) : Option Value → va_W → Nat → Nat → Prop := fun r w dc ds => ∃ (F165991 : Nat → va_E) (o165990 : Int32), r = some (.int o165990) ∧ w = va_pl P165791 F165991 ∧ RS D I P165791 F165991 γ el ∧ rStr γ [] F165792 F165991 ∧ dc ≤ 0 ∧ ds ≤ 0 ∧ (fI (F165991 q165793) 32).toInt = (fI (F165792 q165793) 32).toInt ∧ tr_RModel_shown D I γ el P165791 F165792 q165793 p165794 o165990 F165991
set_option maxRecDepth 100000 in
set_option maxHeartbeats 4000000 in
theorem ct_165795_SpillForgeModel_shown (l : Launch) (hl0 : l.stackTraces = false) (D : va_G) (I : FieldType → ClassId) (γ el : Nat → Nat → Nat) (P165791 : List Nat) (F165792 : Nat → va_E) (q165793 : Nat) (p165794 : Int32) (hT : RS D I P165791 F165792 γ el) (htq165793 : rKd γ q165793 10) : CtA (gV D I) l yX17_shown cX17_shown 2 (some FieldType.int) 1 21 0 0 [.ref q165793, .int p165794] (va_pl P165791 F165792) (pt_165795_SpillForgeModel_shown D I γ el P165791 F165792 q165793 p165794) gNA := by
  refine CtA_of hl0 (by decide) (Nat.le_of_ble_eq_true rfl) ?_
  have bp165794 := gB_any p165794
  have hm165796 : q165793 ∈ P165791 := RS_m hT htq165793 (by decide)
  obtain ⟨q165798, q165799, p165800, p165801, p165802, p165803, p165804, p165805, p165806, p165807, p165808, p165809, p165810, p165811, p165812, p165813, p165814, he165797, hB165841, ht165815, ht165816, ht165817, ht165818, ht165819, ht165820, ht165821, ht165822, ht165823, ht165824, ht165825, ht165826, ht165827, ht165828, ht165829, ht165830, ht165831, ht165832, ht165833, ht165834, ht165835, ht165836, ht165837, ht165838, hB165842⟩ := show rk_10 γ (F165792 q165793) from RS_o hT htq165793
  have ac165843 : (fI (F165792 q165793) 32).toInt = p165812.toInt := by rw [he165797]; rfl
  have bp165812 : gB p165812 0 8192 := (hB165841.2.2.2.2.2.2.2.1)
  refine G_aload_n 0 dr_cX17_shown_0 rfl ?_
  refine G_iconst 0 dr_cX17_shown_1 (by decide +kernel) ?_
  refine Gp_put 30 hm165796 he165797 dr_cX17_shown_2 (gk_X17 D I) (Nat.le_of_ble_eq_true rfl) wr_7_104 rfl rfl rfl (Nat.le_of_ble_eq_true rfl) (fun F165844 e165845 n165846 => ?_)
  have he165847 : F165844 q165793 = .inr (22, [.ref (γ 9 0), .ref (γ 9 1), .ref (γ 9 2), .ref (γ 9 3), .ref (γ 9 4), .ref (γ 9 5), .ref (γ 9 6), .ref (γ 9 7), .ref (γ 9 8), .int p165800, .int p165801, .int p165802, .int p165803, .int p165804, .int p165805, .ref (γ 9 15), .ref (γ 9 16), .ref (γ 9 17), .ref (γ 9 18), .ref (γ 9 19), .ref (γ 9 20), .ref (γ 9 21), .ref (γ 9 22), .int p165806, .int p165807, .int p165808, .int p165809, .int p165810, .ref q165798, .ref (γ 9 29), .int 0, .ref (γ 9 31), .int p165812, .int p165813, .int p165814, .ref q165799]) := e165845
  have hs165848 : rStr γ [] F165792 F165844 := rStr_put (rStr_rf (γ := γ) (W := []) (F := F165792)) n165846 htq165793 (by decide)
  have fq165849 : F165844 q165793 = cF (F165792 q165793) 30 (.int 0) := by rw [he165847, he165797]; rfl
  refine G_iload_n 1 dr_cX17_shown_5 rfl ?_
  refine G_if_lt 26 dr_cX17_shown_6 (by decide +kernel) (fun hc165850 => ?_) (fun hc165850 => ?_)
  · have r165851 : p165794.toInt < 0 := gj_lt hc165850 (show Int32.toInt 0 = 0 by decide)
    have bp165794' : gB p165794 (-2147483648) (-1) := ⟨by omega, by omega⟩
    refine G_aload_n 0 dr_cX17_shown_26 rfl ?_
    refine G_iconst 1 dr_cX17_shown_27 (by decide +kernel) ?_
    have hT165852 : RS D I P165791 F165844 γ el := RS_set hT n165846 htq165793 (by decide) ⟨q165798, q165799, p165800, p165801, p165802, p165803, p165804, p165805, p165806, p165807, p165808, p165809, p165810, 0, p165812, p165813, p165814, he165847, ⟨(hB165841.1), (hB165841.2.1), (hB165841.2.2.1), (hB165841.2.2.2.1), (hB165841.2.2.2.2.1), (hB165841.2.2.2.2.2.1), (hB165841.2.2.2.2.2.2.1), bp165812, (hB165841.2.2.2.2.2.2.2.2)⟩, ht165815, ht165816, ht165817, ht165818, ht165819, ht165820, ht165821, ht165822, ht165823, ht165824, ht165825, ht165826, ht165827, ht165828, ht165829, ht165830, ht165831, ht165832, ht165833, ht165834, ht165835, ht165836, ht165837, ht165838, hB165842⟩
    have ac165853 : (fI (F165844 q165793) 32).toInt = p165812.toInt := by rw [he165847]; rfl
    refine Gw_callV (As := [.int 1]) (gV_ok D I) (ct_165671_SpillForgeModel_no l hl0 D I γ el P165791 F165844 q165793 1 hT165852 htq165793) dr_cX17_shown_28 ⟨wr_7_191, wr_1_14, wr_7_194, by decide, rfl, (Nat.le_of_ble_eq_true rfl), (Nat.le_of_ble_eq_true rfl)⟩ wr_7_193 wr_p_73 hm165796 he165847 rfl (show 0 + 0 ≤ 0 by first | omega | decide) (show 0 + 0 ≤ 0 by first | omega | decide) (Nat.le_of_ble_eq_true rfl) (fun r165857 w165858 dc165854 ds165855 hp165856 => ?_) (fun _ _ _ _ _ z => z.elim)
    obtain ⟨F165862, rfl, rfl, hT165863, hs165864, hdc, hds, x165859, x165860, ht165861⟩ := hp165856
    have hs165865 : rStr γ [] F165792 F165862 := rStr_tr hs165848 hs165864
    rw [show Int32.toInt 1 = 1 from by decide] at x165860
    change G _ _ _ _ _ _ _ (.int 0 :: _) _ _ _
    refine G_widen (cs' := 0) (sl' := 0) (by omega) (by omega) ?_
    have hm165866 : q165793 ∈ P165791 := RS_m hT165863 htq165793 (by decide)
    obtain ⟨q165868, q165869, p165870, p165871, p165872, p165873, p165874, p165875, p165876, p165877, p165878, p165879, p165880, p165881, p165882, p165883, p165884, he165867, hB165911, ht165885, ht165886, ht165887, ht165888, ht165889, ht165890, ht165891, ht165892, ht165893, ht165894, ht165895, ht165896, ht165897, ht165898, ht165899, ht165900, ht165901, ht165902, ht165903, ht165904, ht165905, ht165906, ht165907, ht165908, hB165912⟩ := show rk_10 γ (F165862 q165793) from RS_o hT165863 htq165793
    have ac165913 : (fI (F165862 q165793) 32).toInt = p165882.toInt := by rw [he165867]; rfl
    have bp165882 : gB p165882 0 8192 := (hB165911.2.2.2.2.2.2.2.1)
    have ac165914 : (fI (F165862 q165793) 32).toInt = p165882.toInt := by rw [he165867]; rfl
    exact G_iretA dr_cX17_shown_31 rfl (Nat.le_of_ble_eq_true rfl) (Nat.le_of_ble_eq_true rfl) ⟨F165862, 0, rfl, rfl, hT165863, hs165865, (Nat.le_of_ble_eq_true rfl), (Nat.le_of_ble_eq_true rfl), (by have qa0 : Int32.toInt 0 = 0 := (by decide); omega), (fun R c1 c2 c3 => c1 F165844 F165862 n165846 fq165849 r165851 hT165863 hs165864 x165859 x165860 ht165861)⟩
  · have r165915 : 0 ≤ p165794.toInt := gj_nlt hc165850 (show Int32.toInt 0 = 0 by decide)
    have bp165794' : gB p165794 0 2147483647 := ⟨by omega, by omega⟩
    refine G_iload_n 1 dr_cX17_shown_9 rfl ?_
    refine G_aload_n 0 dr_cX17_shown_10 rfl ?_
    have fq165916 : fI (F165844 q165793) 25 = p165808 := by rw [he165847]; rfl
    refine Gp_get 25 hm165796 he165847 dr_cX17_shown_11 (gk_X17 D I) (Nat.le_of_ble_eq_true rfl) wr_7_99 rfl ?_
    have bp165808 : gB p165808 0 512 := (hB165841.2.2.2.2.1)
    refine G_icmp_ge 26 dr_cX17_shown_14 (by decide +kernel) (fun hc165917 => ?_) (fun hc165917 => ?_)
    · have r165918 : p165808.toInt ≤ p165794.toInt := gC_le hc165917
      refine G_aload_n 0 dr_cX17_shown_26 rfl ?_
      refine G_iconst 1 dr_cX17_shown_27 (by decide +kernel) ?_
      have hT165919 : RS D I P165791 F165844 γ el := RS_set hT n165846 htq165793 (by decide) ⟨q165798, q165799, p165800, p165801, p165802, p165803, p165804, p165805, p165806, p165807, p165808, p165809, p165810, 0, p165812, p165813, p165814, he165847, ⟨(hB165841.1), (hB165841.2.1), (hB165841.2.2.1), (hB165841.2.2.2.1), bp165808, (hB165841.2.2.2.2.2.1), (hB165841.2.2.2.2.2.2.1), bp165812, (hB165841.2.2.2.2.2.2.2.2)⟩, ht165815, ht165816, ht165817, ht165818, ht165819, ht165820, ht165821, ht165822, ht165823, ht165824, ht165825, ht165826, ht165827, ht165828, ht165829, ht165830, ht165831, ht165832, ht165833, ht165834, ht165835, ht165836, ht165837, ht165838, hB165842⟩
      have ac165920 : (fI (F165844 q165793) 32).toInt = p165812.toInt := by rw [he165847]; rfl
      refine Gw_callV (As := [.int 1]) (gV_ok D I) (ct_165671_SpillForgeModel_no l hl0 D I γ el P165791 F165844 q165793 1 hT165919 htq165793) dr_cX17_shown_28 ⟨wr_7_191, wr_1_14, wr_7_194, by decide, rfl, (Nat.le_of_ble_eq_true rfl), (Nat.le_of_ble_eq_true rfl)⟩ wr_7_193 wr_p_73 hm165796 he165847 rfl (show 0 + 0 ≤ 0 by first | omega | decide) (show 0 + 0 ≤ 0 by first | omega | decide) (Nat.le_of_ble_eq_true rfl) (fun r165924 w165925 dc165921 ds165922 hp165923 => ?_) (fun _ _ _ _ _ z => z.elim)
      obtain ⟨F165929, rfl, rfl, hT165930, hs165931, hdc, hds, x165926, x165927, ht165928⟩ := hp165923
      have hs165932 : rStr γ [] F165792 F165929 := rStr_tr hs165848 hs165931
      rw [show Int32.toInt 1 = 1 from by decide] at x165927
      change G _ _ _ _ _ _ _ (.int 0 :: _) _ _ _
      refine G_widen (cs' := 0) (sl' := 0) (by omega) (by omega) ?_
      have hm165933 : q165793 ∈ P165791 := RS_m hT165930 htq165793 (by decide)
      obtain ⟨q165935, q165936, p165937, p165938, p165939, p165940, p165941, p165942, p165943, p165944, p165945, p165946, p165947, p165948, p165949, p165950, p165951, he165934, hB165978, ht165952, ht165953, ht165954, ht165955, ht165956, ht165957, ht165958, ht165959, ht165960, ht165961, ht165962, ht165963, ht165964, ht165965, ht165966, ht165967, ht165968, ht165969, ht165970, ht165971, ht165972, ht165973, ht165974, ht165975, hB165979⟩ := show rk_10 γ (F165929 q165793) from RS_o hT165930 htq165793
      have ac165980 : (fI (F165929 q165793) 32).toInt = p165949.toInt := by rw [he165934]; rfl
      have bp165949 : gB p165949 0 8192 := (hB165978.2.2.2.2.2.2.2.1)
      have ac165981 : (fI (F165929 q165793) 32).toInt = p165949.toInt := by rw [he165934]; rfl
      exact G_iretA dr_cX17_shown_31 rfl (Nat.le_of_ble_eq_true rfl) (Nat.le_of_ble_eq_true rfl) ⟨F165929, 0, rfl, rfl, hT165930, hs165932, (Nat.le_of_ble_eq_true rfl), (Nat.le_of_ble_eq_true rfl), (by have qa0 : Int32.toInt 0 = 0 := (by decide); omega), (fun R c1 c2 c3 => c2 F165844 p165808 F165929 n165846 fq165849 r165915 fq165916 r165918 hT165930 hs165931 x165926 x165927 ht165928)⟩
    · have r165982 : p165794.toInt < p165808.toInt := gC_nle hc165917
      have bp165794'' : gB p165794 0 511 := ⟨by omega, by omega⟩
      have bp165808' : gB p165808 1 512 := ⟨by omega, by omega⟩
      refine G_aload_n 0 dr_cX17_shown_17 rfl ?_
      have fq165983 : fR (F165844 q165793) 22 = (γ 9 22) := by rw [he165847]; rfl
      refine Gp_get 22 hm165796 he165847 dr_cX17_shown_18 (gk_X17 D I) (Nat.le_of_ble_eq_true rfl) wr_7_96 rfl ?_
      refine G_iload_n 1 dr_cX17_shown_21 rfl ?_
      have hT165984 : RS D I P165791 F165844 γ el := RS_set hT n165846 htq165793 (by decide) ⟨q165798, q165799, p165800, p165801, p165802, p165803, p165804, p165805, p165806, p165807, p165808, p165809, p165810, 0, p165812, p165813, p165814, he165847, ⟨(hB165841.1), (hB165841.2.1), (hB165841.2.2.1), (hB165841.2.2.2.1), (gB_w bp165808' (by decide) (by decide)), (hB165841.2.2.2.2.2.1), (hB165841.2.2.2.2.2.2.1), bp165812, (hB165841.2.2.2.2.2.2.2.2)⟩, ht165815, ht165816, ht165817, ht165818, ht165819, ht165820, ht165821, ht165822, ht165823, ht165824, ht165825, ht165826, ht165827, ht165828, ht165829, ht165830, ht165831, ht165832, ht165833, ht165834, ht165835, ht165836, ht165837, ht165838, hB165842⟩
      have hm165985 : (γ 9 22) ∈ P165791 := RS_m hT165984 ht165833 (by decide)
      obtain ⟨f165987, he165986⟩ := show rk_24 I (F165844 (γ 9 22)) from RS_o hT165984 ht165833
      refine Gp_iald 0 hm165985 he165986 dr_cX17_shown_22 rfl (gB_in bp165794'' (by decide) (by decide)) (G_nam fun z165988 hz165988 => ?_)
      have bz165988 : gB z165988 (-2147483648) 2147483647 := gB_any z165988
      refine G_goto 31 dr_cX17_shown_23 (by decide +kernel) ?_
      have ac165989 : (fI (F165844 q165793) 32).toInt = p165812.toInt := by rw [he165847]; rfl
      exact G_iretA dr_cX17_shown_31 rfl (Nat.le_of_ble_eq_true rfl) (Nat.le_of_ble_eq_true rfl) ⟨F165844, z165988, rfl, rfl, hT165984, hs165848, (Nat.le_of_ble_eq_true rfl), (Nat.le_of_ble_eq_true rfl), (by omega), (fun R c1 c2 c3 => c3 F165844 p165808 f165987 z165988 n165846 fq165849 r165915 fq165916 r165982 fq165983 he165986 hz165988)⟩
/- tr_RModel_thrown: result -/
def tr_RModel_thrown (D : va_G) (I : FieldType → ClassId) (γ el : Nat → Nat → Nat) (F : Nat → va_E) (q0 : Nat) (o1 : Int32) : Prop := ∀ R : (Int32) → Prop,
  (∀ (x1 : Int32), fI (F q0) 30 = x1 → R x1) →
  R o1
abbrev ky_165995_SpillForgeModel_thrown : gKey := (cX17_thrown, 1, "SpillForgeModel", (some FieldType.int), [], "thrown", fun _ _ => True)
def pt_165995_SpillForgeModel_thrown (D : va_G) (I : FieldType → ClassId) (γ el : Nat → Nat → Nat) (P165992 : List Nat) (F165993 : Nat → va_E) (q165994 : Nat) : Option Value → va_W → Nat → Nat → Prop := fun r w dc ds => ∃ (o166044 : Int32), r = some (.int o166044) ∧ w = va_pl P165992 F165993 ∧ dc ≤ 0 ∧ ds ≤ 0 ∧ tr_RModel_thrown D I γ el F165993 q165994 o166044
set_option maxRecDepth 100000 in
set_option maxHeartbeats 4000000 in
theorem ct_165995_SpillForgeModel_thrown (l : Launch) (hl0 : l.stackTraces = false) (D : va_G) (I : FieldType → ClassId) (γ el : Nat → Nat → Nat) (P165992 : List Nat) (F165993 : Nat → va_E) (q165994 : Nat) (hT : RS D I P165992 F165993 γ el) (htq165994 : rKd γ q165994 10) : CtA (gV D I) l yX17_thrown cX17_thrown 1 (some FieldType.int) 0 0 0 0 [.ref q165994] (va_pl P165992 F165993) (pt_165995_SpillForgeModel_thrown D I γ el P165992 F165993 q165994) gNA := by
  refine CtA_of hl0 (by decide) (Nat.le_of_ble_eq_true rfl) ?_
  refine G_aload_n 0 dr_cX17_thrown_0 rfl ?_
  have hm165996 : q165994 ∈ P165992 := RS_m hT htq165994 (by decide)
  obtain ⟨q165998, q165999, p166000, p166001, p166002, p166003, p166004, p166005, p166006, p166007, p166008, p166009, p166010, p166011, p166012, p166013, p166014, he165997, hB166041, ht166015, ht166016, ht166017, ht166018, ht166019, ht166020, ht166021, ht166022, ht166023, ht166024, ht166025, ht166026, ht166027, ht166028, ht166029, ht166030, ht166031, ht166032, ht166033, ht166034, ht166035, ht166036, ht166037, ht166038, hB166042⟩ := show rk_10 γ (F165993 q165994) from RS_o hT htq165994
  have fq166043 : fI (F165993 q165994) 30 = p166011 := by rw [he165997]; rfl
  refine Gp_get 30 hm165996 he165997 dr_cX17_thrown_1 (gk_X17 D I) (Nat.le_of_ble_eq_true rfl) wr_7_104 rfl ?_
  have bp166011 : gB p166011 (-2147483648) 2147483647 := (gB_any p166011)
  exact G_iretA dr_cX17_thrown_4 rfl (Nat.le_of_ble_eq_true rfl) (Nat.le_of_ble_eq_true rfl) ⟨p166011, rfl, rfl, (Nat.le_of_ble_eq_true rfl), (Nat.le_of_ble_eq_true rfl), (fun R c1 => c1 p166011 fq166043)⟩
/- tl_RModel_word_2: F, l3; out: F -/
def tl_RModel_word_2 (D : va_G) (I : FieldType → ClassId) (γ el : Nat → Nat → Nat) (P : List Nat) (F : Nat → va_E) (q0 : Nat) (a2 : Int32) (a1 : Int32) (s1 : Nat → va_E) (s2 : Int32) (k : Nat) (e1 : Nat → va_E) : Prop := ∀ R : (Nat → va_E) → (Int32) → Nat → (Nat → va_E) → Prop,
  (∀ (F_1 : Nat → va_E) (l3_1 : Int32), gB l3_1 0 4 → RS D I P F_1 γ el → rStr γ [] F F_1 → (fI (F_1 q0) 32).toInt = (fI (F q0) 32).toInt → (fI (F_1 q0) 30).toInt = (fI (F q0) 30).toInt → 4 ≤ l3_1.toInt → R F_1 l3_1 31 F_1) →
  (∀ (F_1 : Nat → va_E) (l3_1 : Int32) (x1 : Int32) (x2 : Int32) (x3 : Int32) (x4 : Int32) (x5 : Int32) (x6 : Nat → Int32) (x7 : Nat → Int32) (x8 : Nat → va_E) (x9 : Int32) (k : Nat) (e1 : Nat → va_E), gB l3_1 0 4 → RS D I P F_1 γ el → rStr γ [] F F_1 → (fI (F_1 q0) 32).toInt = (fI (F q0) 32).toInt → (fI (F_1 q0) 30).toInt = (fI (F q0) 30).toInt → l3_1.toInt < 4 → fR (F_1 q0) 31 = (γ 9 31) → x1.toInt = a2.toInt + l3_1.toInt → x2.toInt = 8 * l3_1.toInt → x3.toInt = 24 - x2.toInt → x4 = a1 >>> (x3 &&& 31) → x5 = x4.toInt8.toInt32 → F_1 (γ 9 31) = .inl (I .byte, 8192, .inl x6) → x7 = upd x6 x1.toNatClampNeg (vp_nar .byte x5) → (∀ b, b ≠ (γ 9 31) → x8 b = F_1 b) → x8 (γ 9 31) = .inl (I .byte, 8192, .inl x7) → x9.toInt = l3_1.toInt + 1 → R x8 x9 k e1 → R F_1 l3_1 k e1) →
  R s1 s2 k e1
/- tr_RModel_word: F -/
def tr_RModel_word (D : va_G) (I : FieldType → ClassId) (γ el : Nat → Nat → Nat) (P : List Nat) (F : Nat → va_E) (q0 : Nat) (a1 : Int32) (a2 : Int32) (o1 : Nat → va_E) : Prop := ∀ R : (Nat → va_E) → Prop,
  (∀ (x1 : Nat → va_E), tl_RModel_word_2 D I γ el P F q0 a2 a1 F (0 : Int32) 31 x1 → R x1) →
  R o1
abbrev ky_166120_SpillForgeModel_word : gKey := (cX17_word, 4, "SpillForgeModel", none, [], "word", fun _ _ => True)
def pt_166120_SpillForgeModel_word (D : va_G) (I : FieldType → ClassId) (γ el : Nat → Nat → Nat) (P166115 : List Nat) (F166116 : Nat → va_E) (q166117 : Nat) (p166118 : Int32) (p166119 : Int32) : Option Value → va_W → Nat → Nat → Prop := fun r w dc ds => ∃ (F166578 : Nat → va_E), r = none ∧ w = va_pl P166115 F166578 ∧ RS D I P166115 F166578 γ el ∧ rStr γ [] F166116 F166578 ∧ dc ≤ 0 ∧ ds ≤ 0 ∧ (fI (F166578 q166117) 32).toInt = (fI (F166116 q166117) 32).toInt ∧ (fI (F166578 q166117) 30).toInt = (fI (F166116 q166117) 30).toInt ∧ tr_RModel_word D I γ el P166115 F166116 q166117 p166118 p166119 F166578
set_option maxRecDepth 100000 in
set_option maxHeartbeats 4000000 in
theorem ct_166120_SpillForgeModel_word (l : Launch) (hl0 : l.stackTraces = false) (D : va_G) (I : FieldType → ClassId) (γ el : Nat → Nat → Nat) (P166115 : List Nat) (F166116 : Nat → va_E) (q166117 : Nat) (p166118 : Int32) (p166119 : Int32) (hT : RS D I P166115 F166116 γ el) (htq166117 : rKd γ q166117 10) (bp166119 : gB p166119 0 8188) : CtA (gV D I) l yX17_word cX17_word 4 none 0 0 0 0 [.ref q166117, .int p166118, .int p166119] (va_pl P166115 F166116) (pt_166120_SpillForgeModel_word D I γ el P166115 F166116 q166117 p166118 p166119) gNA := by
  refine CtA_of hl0 (by decide) (Nat.le_of_ble_eq_true rfl) ?_
  have bp166118 := gB_any p166118
  have hm166121 : q166117 ∈ P166115 := RS_m hT htq166117 (by decide)
  obtain ⟨q166123, q166124, p166125, p166126, p166127, p166128, p166129, p166130, p166131, p166132, p166133, p166134, p166135, p166136, p166137, p166138, p166139, he166122, hB166166, ht166140, ht166141, ht166142, ht166143, ht166144, ht166145, ht166146, ht166147, ht166148, ht166149, ht166150, ht166151, ht166152, ht166153, ht166154, ht166155, ht166156, ht166157, ht166158, ht166159, ht166160, ht166161, ht166162, ht166163, hB166167⟩ := show rk_10 γ (F166116 q166117) from RS_o hT htq166117
  have ac166168 : (fI (F166116 q166117) 32).toInt = p166137.toInt := by rw [he166122]; rfl
  have bp166137 : gB p166137 0 8192 := (hB166166.2.2.2.2.2.2.2.1)
  have ac166169 : (fI (F166116 q166117) 30).toInt = p166136.toInt := by rw [he166122]; rfl
  have bp166136 : gB p166136 (-2147483648) 2147483647 := (gB_any p166136)
  refine G_iconst 0 dr_cX17_word_0 (by decide +kernel) ?_
  refine G_istore_n (L' := [(3, .int 0), (0, .ref q166117), (1, .int p166118), (2, .int p166119)]) dr_cX17_word_1 (Nat.le_of_ble_eq_true rfl) rfl ?_
  have hlp2_166495 : ∀ (n2_166495 : Nat) (F166491 : Nat → va_E) (g166490 : Int32), gB g166490 0 4 → RS D I P166115 F166491 γ el → rStr γ [] F166116 F166491 → (fI (F166491 q166117) 32).toInt = (fI (F166116 q166117) 32).toInt → (fI (F166491 q166117) 30).toInt = (fI (F166116 q166117) 30).toInt → (∀ (k : Nat) (e1 : Nat → va_E), tl_RModel_word_2 D I γ el P166115 F166116 q166117 p166119 p166118 F166491 g166490 k e1 → tl_RModel_word_2 D I γ el P166115 F166116 q166117 p166119 p166118 F166116 (0 : Int32) k e1) → ((5 : Int) - g166490.toInt).toNat < n2_166495 → G (gV D I) l (gRm 0 0 0 0) (gMA (gV D I) (pt_166120_SpillForgeModel_word D I γ el P166115 F166116 q166117 p166118 p166119) gNA 0 0) ky_166120_SpillForgeModel_word 2 [(3, .int g166490), (0, .ref q166117), (1, .int p166118), (2, .int p166119)] [] (va_pl P166115 F166491) 0 0 := by
    intro n2_166495
    induction n2_166495 with
    | zero => intro F166491 g166490 bg166490 hT166492 hs166493 x166494 x166495 kt2_166496 hm2_166495; exact absurd hm2_166495 (Nat.not_lt_zero _)
    | succ n2_166495 ih2_166495 =>
      intro F166491 g166490 bg166490 hT166492 hs166493 x166494 x166495 kt2_166496 hm2_166495
      have hs166497 : rStr γ [] F166116 F166491 := fun b h0 hb hw => (hs166493 b h0 hb hw).trans ((rStr_rf (γ := γ) (W := []) (F := F166116)) b h0 hb hw).symm
      have hs166498 : rStr γ [] F166116 F166491 := rStr_tr (rStr_rf (γ := γ) (W := []) (F := F166116)) hs166497
      have hm166499 : q166117 ∈ P166115 := RS_m hT166492 htq166117 (by decide)
      obtain ⟨q166501, q166502, p166503, p166504, p166505, p166506, p166507, p166508, p166509, p166510, p166511, p166512, p166513, p166514, p166515, p166516, p166517, he166500, hB166544, ht166518, ht166519, ht166520, ht166521, ht166522, ht166523, ht166524, ht166525, ht166526, ht166527, ht166528, ht166529, ht166530, ht166531, ht166532, ht166533, ht166534, ht166535, ht166536, ht166537, ht166538, ht166539, ht166540, ht166541, hB166545⟩ := show rk_10 γ (F166491 q166117) from RS_o hT166492 htq166117
      have ac166546 : (fI (F166491 q166117) 32).toInt = p166515.toInt := by rw [he166500]; rfl
      have bp166515 : gB p166515 0 8192 := (hB166544.2.2.2.2.2.2.2.1)
      have ac166547 : (fI (F166491 q166117) 30).toInt = p166514.toInt := by rw [he166500]; rfl
      have bp166514 : gB p166514 (-2147483648) 2147483647 := (gB_any p166514)
      have ac166548 : (fI (F166491 q166117) 32).toInt = p166515.toInt := by rw [he166500]; rfl
      have ac166549 : (fI (F166491 q166117) 30).toInt = p166514.toInt := by rw [he166500]; rfl
      refine G_iload_n 0 dr_cX17_word_2 rfl ?_
      refine G_iconst 4 dr_cX17_word_3 (by decide +kernel) ?_
      refine G_icmp_ge 31 dr_cX17_word_4 (by decide +kernel) (fun hc166550 => ?_) (fun hc166550 => ?_)
      · have r166551 : 4 ≤ g166490.toInt := gj_leL hc166550 (show Int32.toInt 4 = 4 by decide)
        have bg166490' : gB g166490 4 4 := ⟨by omega, by omega⟩
        have hx166552 : tl_RModel_word_2 D I γ el P166115 F166116 q166117 p166119 p166118 F166116 (0 : Int32) 31 F166491 := kt2_166496 31 F166491 (fun R c1 c2 => c1 F166491 g166490 bg166490 hT166492 hs166493 x166494 x166495 r166551)
        have ac166553 : (fI (F166491 q166117) 32).toInt = p166515.toInt := by rw [he166500]; rfl
        have ac166554 : (fI (F166491 q166117) 30).toInt = p166514.toInt := by rw [he166500]; rfl
        exact G_vretA dr_cX17_word_31 rfl (Nat.le_of_ble_eq_true rfl) (Nat.le_of_ble_eq_true rfl) ⟨F166491, rfl, rfl, hT166492, hs166493, (Nat.le_of_ble_eq_true rfl), (Nat.le_of_ble_eq_true rfl), (by omega), (by omega), (fun R c1 => c1 F166491 hx166552)⟩
      · have r166555 : g166490.toInt < 4 := gj_nleL hc166550 (show Int32.toInt 4 = 4 by decide)
        have bg166490' : gB g166490 0 3 := ⟨by omega, by omega⟩
        refine G_aload_n 1 dr_cX17_word_7 rfl ?_
        have fq166556 : fR (F166491 q166117) 31 = (γ 9 31) := by rw [he166500]; rfl
        refine Gp_get 31 hm166499 he166500 dr_cX17_word_8 (gk_X17 D I) (Nat.le_of_ble_eq_true rfl) wr_7_105 rfl ?_
        refine G_iload_n 3 dr_cX17_word_11 rfl ?_
        refine G_iload_n 0 dr_cX17_word_12 rfl ?_
        refine G_iadd dr_cX17_word_13 (G_nam fun z166557 hz166557 => ?_)
        have ez166557 : z166557.toInt = p166119.toInt + g166490.toInt := by rw [gI_add hz166557 bp166119 bg166490' (by decide) (by decide)]
        have bz166557 : gB z166557 0 8191 := gB_add (gI_add hz166557 bp166119 bg166490' (by decide) (by decide)) bp166119 bg166490' (by decide) (by decide)
        refine G_iload_n 2 dr_cX17_word_14 rfl ?_
        refine G_bipush 24 dr_cX17_word_15 (by decide +kernel) ?_
        refine G_bipush 8 dr_cX17_word_17 (by decide +kernel) ?_
        refine G_iload_n 0 dr_cX17_word_19 rfl ?_
        refine G_imul dr_cX17_word_20 (G_nam fun z166558 hz166558 => ?_)
        have ez166558 : z166558.toInt = 8 * g166490.toInt := by rw [gI_mul hz166558 (gBl (show Int32.toInt 8 = 8 by decide)) bg166490' (by decide) (by decide) (by decide), show Int32.toInt 8 = 8 from by decide]
        have bz166558 : gB z166558 0 24 := gB_mul hz166558 (gBl (show Int32.toInt 8 = 8 by decide)) bg166490' (by decide) (by decide) (by decide) (by decide)
        refine G_isub dr_cX17_word_21 (G_nam fun z166559 hz166559 => ?_)
        have ez166559 : z166559.toInt = 24 - z166558.toInt := by rw [gI_sub hz166559 (gBl (show Int32.toInt 24 = 24 by decide)) bz166558 (by decide) (by decide), show Int32.toInt 24 = 24 from by decide]
        have bz166559 : gB z166559 0 24 := gB_sub (gI_sub hz166559 (gBl (show Int32.toInt 24 = 24 by decide)) bz166558 (by decide) (by decide)) (gBl (show Int32.toInt 24 = 24 by decide)) bz166558 (by decide) (by decide)
        refine G_ishr dr_cX17_word_22 (G_nam fun z166560 hz166560 => ?_)
        have bz166560 : gB z166560 (-2147483648) 2147483647 := gB_any z166560
        refine G_i2b dr_cX17_word_23 (G_nam fun z166561 hz166561 => ?_)
        have bz166561 : gB z166561 (-128) 127 := gB_i2b hz166561
        have hm166562 : (γ 9 31) ∈ P166115 := RS_m hT166492 ht166538 (by decide)
        obtain ⟨f166564, he166563, bf166564⟩ := show rk_25 I (F166491 (γ 9 31)) from RS_o hT166492 ht166538
        refine Gp_bast 1 hm166562 he166563 dr_cX17_word_24 rfl (gB_in bz166557 (by decide) (by decide)) (fun F166565 e166566 n166567 => ?_)
        obtain ⟨f166568, hf166568⟩ : ∃ z, z = upd f166564 z166557.toNatClampNeg (vp_nar .byte z166561) := ⟨_, rfl⟩
        rw [← hf166568] at e166566
        have he166569 : F166565 q166117 = .inr (22, [.ref (γ 9 0), .ref (γ 9 1), .ref (γ 9 2), .ref (γ 9 3), .ref (γ 9 4), .ref (γ 9 5), .ref (γ 9 6), .ref (γ 9 7), .ref (γ 9 8), .int p166503, .int p166504, .int p166505, .int p166506, .int p166507, .int p166508, .ref (γ 9 15), .ref (γ 9 16), .ref (γ 9 17), .ref (γ 9 18), .ref (γ 9 19), .ref (γ 9 20), .ref (γ 9 21), .ref (γ 9 22), .int p166509, .int p166510, .int p166511, .int p166512, .int p166513, .ref q166501, .ref (γ 9 29), .int p166514, .ref (γ 9 31), .int p166515, .int p166516, .int p166517, .ref q166502]) := (n166567 q166117 (rn_oa he166500 he166563)).trans he166500
        have he166570 : F166565 (γ 9 31) = .inl (I .byte, 8192, .inl f166568) := e166566
        have hs166571 : rStr γ [] F166116 F166565 := rStr_put hs166493 n166567 ht166538 (by decide)
        have bf166568 : gF f166568 (-128) 127 := gF_upd hf166568 bf166564 gB_byte
        obtain ⟨z166572, hz166572⟩ : ∃ z : Int32, z = g166490 + Int32.ofInt 1 := ⟨_, rfl⟩
        have ez166572 : z166572.toInt = g166490.toInt + 1 := gI_inc hz166572 (by decide) bg166490' (by decide) (by decide)
        have bz166572 : gB z166572 1 4 := ⟨by omega, by omega⟩
        refine G_iinc (L' := [(3, .int z166572), (0, .ref q166117), (1, .int p166118), (2, .int p166119)]) z166572 0 dr_cX17_word_25 rfl hz166572.symm (Nat.le_of_ble_eq_true rfl) rfl ?_
        refine G_goto 2 dr_cX17_word_28 (by decide +kernel) ?_
        have hT166573 : RS D I P166115 F166565 γ el := RS_set hT166492 n166567 ht166538 (by decide) ⟨f166568, he166570, bf166568⟩
        have ac166574 : (fI (F166565 q166117) 32).toInt = p166515.toInt := by rw [he166569]; rfl
        have ac166575 : (fI (F166565 q166117) 30).toInt = p166514.toInt := by rw [he166569]; rfl
        exact ih2_166495 F166565 z166572 (gB_w bz166572 (by decide) (by decide)) hT166573 hs166571 (by omega) (by omega) (fun k e1 ht => kt2_166496 k e1 (fun R c1 c2 => c2 F166491 g166490 z166557 z166558 z166559 z166560 z166561 f166564 f166568 F166565 z166572 k e1 bg166490 hT166492 hs166493 x166494 x166495 r166555 fq166556 ez166557 ez166558 ez166559 hz166560 hz166561 he166563 hf166568 n166567 he166570 ez166572 (ht R c1 c2))) (by omega)
  have ac166576 : (fI (F166116 q166117) 32).toInt = p166137.toInt := by rw [he166122]; rfl
  have ac166577 : (fI (F166116 q166117) 30).toInt = p166136.toInt := by rw [he166122]; rfl
  exact hlp2_166495 (((5 : Int) - 0).toNat + 1) F166116 0 (gB_w (gBl (show Int32.toInt 0 = 0 by decide)) (by decide) (by decide)) hT (rStr_rf (γ := γ) (W := []) (F := F166116)) (by omega) (by omega) (fun k e1 ht => ht) (Nat.lt_succ_self _)
/- tr_RModel_feed: result, F -/
def tr_RModel_feed (D : va_G) (I : FieldType → ClassId) (γ el : Nat → Nat → Nat) (P : List Nat) (F : Nat → va_E) (q0 : Nat) (a1 : Int32) (a2 : Int32) (a3 : Int32) (a4 : Int32) (a5 : Int32) (o1 : Int32) (o2 : Nat → va_E) : Prop := ∀ R : (Int32) → (Nat → va_E) → Prop,
  (∀ (x1 : Nat → va_E) (x2 : Int32) (x3 : Int32) (x4 : Nat → va_E) (x5 : Int32) (x6 : Int32) (x7 : Nat → va_E) (x8 : Int32) (x9 : Int32) (x10 : Nat → va_E) (x11 : Int32) (x12 : Int32) (x13 : Nat → va_E) (x14 : Int32) (x15 : Int32) (x16 : Nat → va_E) (x17 : Int32) (x18 : Int32) (x19 : Nat → va_E), (∀ b, b ≠ q0 → x1 b = F b) → x1 q0 = cF (F q0) 30 (.int 0) → fI (x1 q0) 32 = x2 → x3.toInt = x2.toInt + 20 → x3.toInt ≤ 8192 → RS D I P x4 γ el → rStr γ [] x1 x4 → (fI (x4 q0) 32).toInt = (fI (x1 q0) 32).toInt → (fI (x4 q0) 30).toInt = (fI (x1 q0) 30).toInt → tr_RModel_word D I γ el P x1 q0 a1 x2 x4 → fI (x4 q0) 32 = x5 → x6.toInt = x5.toInt + 4 → RS D I P x7 γ el → rStr γ [] x4 x7 → (fI (x7 q0) 32).toInt = (fI (x4 q0) 32).toInt → (fI (x7 q0) 30).toInt = (fI (x4 q0) 30).toInt → tr_RModel_word D I γ el P x4 q0 a2 x6 x7 → fI (x7 q0) 32 = x8 → x9.toInt = x8.toInt + 8 → RS D I P x10 γ el → rStr γ [] x7 x10 → (fI (x10 q0) 32).toInt = (fI (x7 q0) 32).toInt → (fI (x10 q0) 30).toInt = (fI (x7 q0) 30).toInt → tr_RModel_word D I γ el P x7 q0 a3 x9 x10 → fI (x10 q0) 32 = x11 → x12.toInt = x11.toInt + 12 → RS D I P x13 γ el → rStr γ [] x10 x13 → (fI (x13 q0) 32).toInt = (fI (x10 q0) 32).toInt → (fI (x13 q0) 30).toInt = (fI (x10 q0) 30).toInt → tr_RModel_word D I γ el P x10 q0 a4 x12 x13 → fI (x13 q0) 32 = x14 → x15.toInt = x14.toInt + 16 → RS D I P x16 γ el → rStr γ [] x13 x16 → (fI (x16 q0) 32).toInt = (fI (x13 q0) 32).toInt → (fI (x16 q0) 30).toInt = (fI (x13 q0) 30).toInt → tr_RModel_word D I γ el P x13 q0 a5 x15 x16 → fI (x16 q0) 32 = x17 → x18.toInt = x17.toInt + 20 → (∀ b, b ≠ q0 → x19 b = x16 b) → x19 q0 = cF (x16 q0) 32 (.int x18) → fI (x19 q0) 32 = x18 → R x18 x19) →
  (∀ (x1 : Nat → va_E) (x2 : Int32) (x3 : Int32) (x4 : Nat → va_E), (∀ b, b ≠ q0 → x1 b = F b) → x1 q0 = cF (F q0) 30 (.int 0) → fI (x1 q0) 32 = x2 → x3.toInt = x2.toInt + 20 → 8192 < x3.toInt → RS D I P x4 γ el → rStr γ [] x1 x4 → (fI (x4 q0) 32).toInt = (fI (x1 q0) 32).toInt → (fI (x4 q0) 30).toInt = 1 → tr_RModel_no D I γ el x1 q0 (1 : Int32) x4 → R (0 : Int32) x4) →
  R o1 o2
abbrev ky_166054_SpillForgeModel_feed : gKey := (cX17_feed, 6, "SpillForgeModel", (some FieldType.int), [], "feed", fun _ _ => True)
def pt_166054_SpillForgeModel_feed (D : va_G) (I : FieldType → ClassId) (γ el : Nat → Nat → Nat) (P166046 : List Nat) (F166047 : Nat → va_E) (q166048 : Nat) (p166049 : Int32) (p166050 : Int32) (p166051 : Int32) (p166052 : Int32) (p166053 : Int32) : Option Value → va_W → Nat → Nat → Prop := fun r w dc ds => ∃ (F166982 : Nat → va_E) (o166981 : Int32), r = some (.int o166981) ∧ w = va_pl P166046 F166982 ∧ RS D I P166046 F166982 γ el ∧ rStr γ [] F166047 F166982 ∧ dc ≤ 0 ∧ ds ≤ 0 ∧ gB o166981 0 8212 ∧ (((fI (F166047 q166048) 32).toInt ≤ 8172 ∧ o166981.toInt = (fI (F166047 q166048) 32).toInt + 20 ∧ (fI (F166982 q166048) 32).toInt = (fI (F166047 q166048) 32).toInt + 20 ∧ (fI (F166982 q166048) 30).toInt = 0) ∨ (8172 < (fI (F166047 q166048) 32).toInt ∧ (fI (F166982 q166048) 30).toInt = 1 ∧ (fI (F166982 q166048) 32).toInt = (fI (F166047 q166048) 32).toInt)) ∧ tr_RModel_feed D I γ el P166046 F166047 q166048 p166049 p166050 p166051 p166052 p166053 o166981 F166982
set_option maxRecDepth 100000 in
set_option maxHeartbeats 4000000 in
theorem ct_166054_SpillForgeModel_feed (l : Launch) (hl0 : l.stackTraces = false) (D : va_G) (I : FieldType → ClassId) (γ el : Nat → Nat → Nat) (P166046 : List Nat) (F166047 : Nat → va_E) (q166048 : Nat) (p166049 : Int32) (p166050 : Int32) (p166051 : Int32) (p166052 : Int32) (p166053 : Int32) (hT : RS D I P166046 F166047 γ el) (htq166048 : rKd γ q166048 10) : CtA (gV D I) l yX17_feed cX17_feed 6 (some FieldType.int) 1 23 0 0 [.ref q166048, .int p166049, .int p166050, .int p166051, .int p166052, .int p166053] (va_pl P166046 F166047) (pt_166054_SpillForgeModel_feed D I γ el P166046 F166047 q166048 p166049 p166050 p166051 p166052 p166053) gNA := by
  refine CtA_of hl0 (by decide) (Nat.le_of_ble_eq_true rfl) ?_
  have bp166049 := gB_any p166049
  have bp166050 := gB_any p166050
  have bp166051 := gB_any p166051
  have bp166052 := gB_any p166052
  have bp166053 := gB_any p166053
  have hm166055 : q166048 ∈ P166046 := RS_m hT htq166048 (by decide)
  obtain ⟨q166057, q166058, p166059, p166060, p166061, p166062, p166063, p166064, p166065, p166066, p166067, p166068, p166069, p166070, p166071, p166072, p166073, he166056, hB166100, ht166074, ht166075, ht166076, ht166077, ht166078, ht166079, ht166080, ht166081, ht166082, ht166083, ht166084, ht166085, ht166086, ht166087, ht166088, ht166089, ht166090, ht166091, ht166092, ht166093, ht166094, ht166095, ht166096, ht166097, hB166101⟩ := show rk_10 γ (F166047 q166048) from RS_o hT htq166048
  have ac166102 : (fI (F166047 q166048) 32).toInt = p166071.toInt := by rw [he166056]; rfl
  have bp166071 : gB p166071 0 8192 := (hB166100.2.2.2.2.2.2.2.1)
  have ac166103 : (fI (F166047 q166048) 30).toInt = p166070.toInt := by rw [he166056]; rfl
  have bp166070 : gB p166070 (-2147483648) 2147483647 := (gB_any p166070)
  refine G_aload_n 0 dr_cX17_feed_0 rfl ?_
  refine G_iconst 0 dr_cX17_feed_1 (by decide +kernel) ?_
  refine Gp_put 30 hm166055 he166056 dr_cX17_feed_2 (gk_X17 D I) (Nat.le_of_ble_eq_true rfl) wr_7_104 rfl rfl rfl (Nat.le_of_ble_eq_true rfl) (fun F166104 e166105 n166106 => ?_)
  have he166107 : F166104 q166048 = .inr (22, [.ref (γ 9 0), .ref (γ 9 1), .ref (γ 9 2), .ref (γ 9 3), .ref (γ 9 4), .ref (γ 9 5), .ref (γ 9 6), .ref (γ 9 7), .ref (γ 9 8), .int p166059, .int p166060, .int p166061, .int p166062, .int p166063, .int p166064, .ref (γ 9 15), .ref (γ 9 16), .ref (γ 9 17), .ref (γ 9 18), .ref (γ 9 19), .ref (γ 9 20), .ref (γ 9 21), .ref (γ 9 22), .int p166065, .int p166066, .int p166067, .int p166068, .int p166069, .ref q166057, .ref (γ 9 29), .int 0, .ref (γ 9 31), .int p166071, .int p166072, .int p166073, .ref q166058]) := e166105
  have hs166108 : rStr γ [] F166047 F166104 := rStr_put (rStr_rf (γ := γ) (W := []) (F := F166047)) n166106 htq166048 (by decide)
  have fq166109 : F166104 q166048 = cF (F166047 q166048) 30 (.int 0) := by rw [he166107, he166056]; rfl
  refine G_aload_n 0 dr_cX17_feed_5 rfl ?_
  have fq166110 : fI (F166104 q166048) 32 = p166071 := by rw [he166107]; rfl
  refine Gp_get 32 hm166055 he166107 dr_cX17_feed_6 (gk_X17 D I) (Nat.le_of_ble_eq_true rfl) wr_7_106 rfl ?_
  refine G_bipush 20 dr_cX17_feed_9 (by decide +kernel) ?_
  refine G_iadd dr_cX17_feed_11 (G_nam fun z166111 hz166111 => ?_)
  have ez166111 : z166111.toInt = p166071.toInt + 20 := by rw [gI_add hz166111 bp166071 (gBl (show Int32.toInt 20 = 20 by decide)) (by decide) (by decide), show Int32.toInt 20 = 20 from by decide]
  have bz166111 : gB z166111 20 8212 := gB_add (gI_add hz166111 bp166071 (gBl (show Int32.toInt 20 = 20 by decide)) (by decide) (by decide)) bp166071 (gBl (show Int32.toInt 20 = 20 by decide)) (by decide) (by decide)
  refine G_sipush 8192 dr_cX17_feed_12 (by decide +kernel) ?_
  refine G_icmp_le 24 dr_cX17_feed_15 (by decide +kernel) (fun hc166112 => ?_) (fun hc166112 => ?_)
  · have r166113 : z166111.toInt ≤ 8192 := gj_le hc166112 (show Int32.toInt 8192 = 8192 by decide)
    have bz166111' : gB z166111 20 8192 := ⟨by omega, by omega⟩
    refine G_aload_n 0 dr_cX17_feed_24 rfl ?_
    refine G_iload_n 1 dr_cX17_feed_25 rfl ?_
    refine G_aload_n 0 dr_cX17_feed_26 rfl ?_
    refine Gp_get 32 hm166055 he166107 dr_cX17_feed_27 (gk_X17 D I) (Nat.le_of_ble_eq_true rfl) wr_7_106 rfl ?_
    have hT166114 : RS D I P166046 F166104 γ el := RS_set hT n166106 htq166048 (by decide) ⟨q166057, q166058, p166059, p166060, p166061, p166062, p166063, p166064, p166065, p166066, p166067, p166068, p166069, 0, p166071, p166072, p166073, he166107, ⟨(hB166100.1), (hB166100.2.1), (hB166100.2.2.1), (hB166100.2.2.2.1), (hB166100.2.2.2.2.1), (hB166100.2.2.2.2.2.1), (hB166100.2.2.2.2.2.2.1), bp166071, (hB166100.2.2.2.2.2.2.2.2)⟩, ht166074, ht166075, ht166076, ht166077, ht166078, ht166079, ht166080, ht166081, ht166082, ht166083, ht166084, ht166085, ht166086, ht166087, ht166088, ht166089, ht166090, ht166091, ht166092, ht166093, ht166094, ht166095, ht166096, ht166097, hB166101⟩
    have ac166579 : (fI (F166104 q166048) 32).toInt = p166071.toInt := by rw [he166107]; rfl
    have ac166580 : (fI (F166104 q166048) 30).toInt = 0 := by rw [he166107]; show Int32.toInt 0 = 0; decide
    refine Gw_callV (As := [.int p166049, .int p166071]) (gV_ok D I) (ct_166120_SpillForgeModel_word l hl0 D I γ el P166046 F166104 q166048 p166049 p166071 hT166114 htq166048 ⟨by omega, by omega⟩) dr_cX17_feed_30 ⟨wr_7_195, wr_1_14, wr_7_198, by decide, rfl, (Nat.le_of_ble_eq_true rfl), (Nat.le_of_ble_eq_true rfl)⟩ wr_7_197 wr_p_74 hm166055 he166107 rfl (show 0 + 0 ≤ 0 by first | omega | decide) (show 0 + 0 ≤ 0 by first | omega | decide) (Nat.le_of_ble_eq_true rfl) (fun r166584 w166585 dc166581 ds166582 hp166583 => ?_) (fun _ _ _ _ _ z => z.elim)
    obtain ⟨F166589, rfl, rfl, hT166590, hs166591, hdc, hds, x166586, x166587, ht166588⟩ := hp166583
    have hs166592 : rStr γ [] F166047 F166589 := rStr_tr hs166108 hs166591
    change G _ _ _ _ _ _ _ _ _ _ _
    refine G_widen (cs' := 0) (sl' := 0) (by omega) (by omega) ?_
    refine G_aload_n 0 dr_cX17_feed_33 rfl ?_
    refine G_iload_n 2 dr_cX17_feed_34 rfl ?_
    refine G_aload_n 0 dr_cX17_feed_35 rfl ?_
    have hm166593 : q166048 ∈ P166046 := RS_m hT166590 htq166048 (by decide)
    obtain ⟨q166595, q166596, p166597, p166598, p166599, p166600, p166601, p166602, p166603, p166604, p166605, p166606, p166607, p166608, p166609, p166610, p166611, he166594, hB166638, ht166612, ht166613, ht166614, ht166615, ht166616, ht166617, ht166618, ht166619, ht166620, ht166621, ht166622, ht166623, ht166624, ht166625, ht166626, ht166627, ht166628, ht166629, ht166630, ht166631, ht166632, ht166633, ht166634, ht166635, hB166639⟩ := show rk_10 γ (F166589 q166048) from RS_o hT166590 htq166048
    have ac166640 : (fI (F166589 q166048) 32).toInt = p166609.toInt := by rw [he166594]; rfl
    have bp166609 : gB p166609 0 8192 := (hB166638.2.2.2.2.2.2.2.1)
    have ac166641 : (fI (F166589 q166048) 30).toInt = p166608.toInt := by rw [he166594]; rfl
    have bp166608 : gB p166608 (-2147483648) 2147483647 := (gB_any p166608)
    have fq166642 : fI (F166589 q166048) 32 = p166609 := by rw [he166594]; rfl
    refine Gp_get 32 hm166593 he166594 dr_cX17_feed_36 (gk_X17 D I) (Nat.le_of_ble_eq_true rfl) wr_7_106 rfl ?_
    refine G_iconst 4 dr_cX17_feed_39 (by decide +kernel) ?_
    refine G_iadd dr_cX17_feed_40 (G_nam fun z166643 hz166643 => ?_)
    have ez166643 : z166643.toInt = p166609.toInt + 4 := by rw [gI_add hz166643 bp166609 (gBl (show Int32.toInt 4 = 4 by decide)) (by decide) (by decide), show Int32.toInt 4 = 4 from by decide]
    have bz166643 : gB z166643 4 8196 := gB_add (gI_add hz166643 bp166609 (gBl (show Int32.toInt 4 = 4 by decide)) (by decide) (by decide)) bp166609 (gBl (show Int32.toInt 4 = 4 by decide)) (by decide) (by decide)
    have ac166644 : (fI (F166589 q166048) 32).toInt = p166609.toInt := by rw [he166594]; rfl
    have ac166645 : (fI (F166589 q166048) 30).toInt = p166608.toInt := by rw [he166594]; rfl
    refine Gw_callV (As := [.int p166050, .int z166643]) (gV_ok D I) (ct_166120_SpillForgeModel_word l hl0 D I γ el P166046 F166589 q166048 p166050 z166643 hT166590 htq166048 ⟨by omega, by omega⟩) dr_cX17_feed_41 ⟨wr_7_195, wr_1_14, wr_7_198, by decide, rfl, (Nat.le_of_ble_eq_true rfl), (Nat.le_of_ble_eq_true rfl)⟩ wr_7_197 wr_p_74 hm166593 he166594 rfl (show 0 + 0 ≤ 0 by first | omega | decide) (show 0 + 0 ≤ 0 by first | omega | decide) (Nat.le_of_ble_eq_true rfl) (fun r166649 w166650 dc166646 ds166647 hp166648 => ?_) (fun _ _ _ _ _ z => z.elim)
    obtain ⟨F166654, rfl, rfl, hT166655, hs166656, hdc, hds, x166651, x166652, ht166653⟩ := hp166648
    have hs166657 : rStr γ [] F166047 F166654 := rStr_tr hs166592 hs166656
    change G _ _ _ _ _ _ _ _ _ _ _
    refine G_widen (cs' := 0) (sl' := 0) (by omega) (by omega) ?_
    refine G_aload_n 0 dr_cX17_feed_44 rfl ?_
    refine G_iload_n 3 dr_cX17_feed_45 rfl ?_
    refine G_aload_n 0 dr_cX17_feed_46 rfl ?_
    have hm166658 : q166048 ∈ P166046 := RS_m hT166655 htq166048 (by decide)
    obtain ⟨q166660, q166661, p166662, p166663, p166664, p166665, p166666, p166667, p166668, p166669, p166670, p166671, p166672, p166673, p166674, p166675, p166676, he166659, hB166703, ht166677, ht166678, ht166679, ht166680, ht166681, ht166682, ht166683, ht166684, ht166685, ht166686, ht166687, ht166688, ht166689, ht166690, ht166691, ht166692, ht166693, ht166694, ht166695, ht166696, ht166697, ht166698, ht166699, ht166700, hB166704⟩ := show rk_10 γ (F166654 q166048) from RS_o hT166655 htq166048
    have ac166705 : (fI (F166654 q166048) 32).toInt = p166674.toInt := by rw [he166659]; rfl
    have bp166674 : gB p166674 0 8192 := (hB166703.2.2.2.2.2.2.2.1)
    have ac166706 : (fI (F166654 q166048) 30).toInt = p166673.toInt := by rw [he166659]; rfl
    have bp166673 : gB p166673 (-2147483648) 2147483647 := (gB_any p166673)
    have fq166707 : fI (F166654 q166048) 32 = p166674 := by rw [he166659]; rfl
    refine Gp_get 32 hm166658 he166659 dr_cX17_feed_47 (gk_X17 D I) (Nat.le_of_ble_eq_true rfl) wr_7_106 rfl ?_
    refine G_bipush 8 dr_cX17_feed_50 (by decide +kernel) ?_
    refine G_iadd dr_cX17_feed_52 (G_nam fun z166708 hz166708 => ?_)
    have ez166708 : z166708.toInt = p166674.toInt + 8 := by rw [gI_add hz166708 bp166674 (gBl (show Int32.toInt 8 = 8 by decide)) (by decide) (by decide), show Int32.toInt 8 = 8 from by decide]
    have bz166708 : gB z166708 8 8200 := gB_add (gI_add hz166708 bp166674 (gBl (show Int32.toInt 8 = 8 by decide)) (by decide) (by decide)) bp166674 (gBl (show Int32.toInt 8 = 8 by decide)) (by decide) (by decide)
    have ac166709 : (fI (F166654 q166048) 32).toInt = p166674.toInt := by rw [he166659]; rfl
    have ac166710 : (fI (F166654 q166048) 30).toInt = p166673.toInt := by rw [he166659]; rfl
    refine Gw_callV (As := [.int p166051, .int z166708]) (gV_ok D I) (ct_166120_SpillForgeModel_word l hl0 D I γ el P166046 F166654 q166048 p166051 z166708 hT166655 htq166048 ⟨by omega, by omega⟩) dr_cX17_feed_53 ⟨wr_7_195, wr_1_14, wr_7_198, by decide, rfl, (Nat.le_of_ble_eq_true rfl), (Nat.le_of_ble_eq_true rfl)⟩ wr_7_197 wr_p_74 hm166658 he166659 rfl (show 0 + 0 ≤ 0 by first | omega | decide) (show 0 + 0 ≤ 0 by first | omega | decide) (Nat.le_of_ble_eq_true rfl) (fun r166714 w166715 dc166711 ds166712 hp166713 => ?_) (fun _ _ _ _ _ z => z.elim)
    obtain ⟨F166719, rfl, rfl, hT166720, hs166721, hdc, hds, x166716, x166717, ht166718⟩ := hp166713
    have hs166722 : rStr γ [] F166047 F166719 := rStr_tr hs166657 hs166721
    change G _ _ _ _ _ _ _ _ _ _ _
    refine G_widen (cs' := 0) (sl' := 0) (by omega) (by omega) ?_
    refine G_aload_n 0 dr_cX17_feed_56 rfl ?_
    refine G_iload 4 dr_cX17_feed_57 rfl ?_
    refine G_aload_n 0 dr_cX17_feed_59 rfl ?_
    have hm166723 : q166048 ∈ P166046 := RS_m hT166720 htq166048 (by decide)
    obtain ⟨q166725, q166726, p166727, p166728, p166729, p166730, p166731, p166732, p166733, p166734, p166735, p166736, p166737, p166738, p166739, p166740, p166741, he166724, hB166768, ht166742, ht166743, ht166744, ht166745, ht166746, ht166747, ht166748, ht166749, ht166750, ht166751, ht166752, ht166753, ht166754, ht166755, ht166756, ht166757, ht166758, ht166759, ht166760, ht166761, ht166762, ht166763, ht166764, ht166765, hB166769⟩ := show rk_10 γ (F166719 q166048) from RS_o hT166720 htq166048
    have ac166770 : (fI (F166719 q166048) 32).toInt = p166739.toInt := by rw [he166724]; rfl
    have bp166739 : gB p166739 0 8192 := (hB166768.2.2.2.2.2.2.2.1)
    have ac166771 : (fI (F166719 q166048) 30).toInt = p166738.toInt := by rw [he166724]; rfl
    have bp166738 : gB p166738 (-2147483648) 2147483647 := (gB_any p166738)
    have fq166772 : fI (F166719 q166048) 32 = p166739 := by rw [he166724]; rfl
    refine Gp_get 32 hm166723 he166724 dr_cX17_feed_60 (gk_X17 D I) (Nat.le_of_ble_eq_true rfl) wr_7_106 rfl ?_
    refine G_bipush 12 dr_cX17_feed_63 (by decide +kernel) ?_
    refine G_iadd dr_cX17_feed_65 (G_nam fun z166773 hz166773 => ?_)
    have ez166773 : z166773.toInt = p166739.toInt + 12 := by rw [gI_add hz166773 bp166739 (gBl (show Int32.toInt 12 = 12 by decide)) (by decide) (by decide), show Int32.toInt 12 = 12 from by decide]
    have bz166773 : gB z166773 12 8204 := gB_add (gI_add hz166773 bp166739 (gBl (show Int32.toInt 12 = 12 by decide)) (by decide) (by decide)) bp166739 (gBl (show Int32.toInt 12 = 12 by decide)) (by decide) (by decide)
    have ac166774 : (fI (F166719 q166048) 32).toInt = p166739.toInt := by rw [he166724]; rfl
    have ac166775 : (fI (F166719 q166048) 30).toInt = p166738.toInt := by rw [he166724]; rfl
    refine Gw_callV (As := [.int p166052, .int z166773]) (gV_ok D I) (ct_166120_SpillForgeModel_word l hl0 D I γ el P166046 F166719 q166048 p166052 z166773 hT166720 htq166048 ⟨by omega, by omega⟩) dr_cX17_feed_66 ⟨wr_7_195, wr_1_14, wr_7_198, by decide, rfl, (Nat.le_of_ble_eq_true rfl), (Nat.le_of_ble_eq_true rfl)⟩ wr_7_197 wr_p_74 hm166723 he166724 rfl (show 0 + 0 ≤ 0 by first | omega | decide) (show 0 + 0 ≤ 0 by first | omega | decide) (Nat.le_of_ble_eq_true rfl) (fun r166779 w166780 dc166776 ds166777 hp166778 => ?_) (fun _ _ _ _ _ z => z.elim)
    obtain ⟨F166784, rfl, rfl, hT166785, hs166786, hdc, hds, x166781, x166782, ht166783⟩ := hp166778
    have hs166787 : rStr γ [] F166047 F166784 := rStr_tr hs166722 hs166786
    change G _ _ _ _ _ _ _ _ _ _ _
    refine G_widen (cs' := 0) (sl' := 0) (by omega) (by omega) ?_
    refine G_aload_n 0 dr_cX17_feed_69 rfl ?_
    refine G_iload 5 dr_cX17_feed_70 rfl ?_
    refine G_aload_n 0 dr_cX17_feed_72 rfl ?_
    have hm166788 : q166048 ∈ P166046 := RS_m hT166785 htq166048 (by decide)
    obtain ⟨q166790, q166791, p166792, p166793, p166794, p166795, p166796, p166797, p166798, p166799, p166800, p166801, p166802, p166803, p166804, p166805, p166806, he166789, hB166833, ht166807, ht166808, ht166809, ht166810, ht166811, ht166812, ht166813, ht166814, ht166815, ht166816, ht166817, ht166818, ht166819, ht166820, ht166821, ht166822, ht166823, ht166824, ht166825, ht166826, ht166827, ht166828, ht166829, ht166830, hB166834⟩ := show rk_10 γ (F166784 q166048) from RS_o hT166785 htq166048
    have ac166835 : (fI (F166784 q166048) 32).toInt = p166804.toInt := by rw [he166789]; rfl
    have bp166804 : gB p166804 0 8192 := (hB166833.2.2.2.2.2.2.2.1)
    have ac166836 : (fI (F166784 q166048) 30).toInt = p166803.toInt := by rw [he166789]; rfl
    have bp166803 : gB p166803 (-2147483648) 2147483647 := (gB_any p166803)
    have fq166837 : fI (F166784 q166048) 32 = p166804 := by rw [he166789]; rfl
    refine Gp_get 32 hm166788 he166789 dr_cX17_feed_73 (gk_X17 D I) (Nat.le_of_ble_eq_true rfl) wr_7_106 rfl ?_
    refine G_bipush 16 dr_cX17_feed_76 (by decide +kernel) ?_
    refine G_iadd dr_cX17_feed_78 (G_nam fun z166838 hz166838 => ?_)
    have ez166838 : z166838.toInt = p166804.toInt + 16 := by rw [gI_add hz166838 bp166804 (gBl (show Int32.toInt 16 = 16 by decide)) (by decide) (by decide), show Int32.toInt 16 = 16 from by decide]
    have bz166838 : gB z166838 16 8208 := gB_add (gI_add hz166838 bp166804 (gBl (show Int32.toInt 16 = 16 by decide)) (by decide) (by decide)) bp166804 (gBl (show Int32.toInt 16 = 16 by decide)) (by decide) (by decide)
    have ac166839 : (fI (F166784 q166048) 32).toInt = p166804.toInt := by rw [he166789]; rfl
    have ac166840 : (fI (F166784 q166048) 30).toInt = p166803.toInt := by rw [he166789]; rfl
    refine Gw_callV (As := [.int p166053, .int z166838]) (gV_ok D I) (ct_166120_SpillForgeModel_word l hl0 D I γ el P166046 F166784 q166048 p166053 z166838 hT166785 htq166048 ⟨by omega, by omega⟩) dr_cX17_feed_79 ⟨wr_7_195, wr_1_14, wr_7_198, by decide, rfl, (Nat.le_of_ble_eq_true rfl), (Nat.le_of_ble_eq_true rfl)⟩ wr_7_197 wr_p_74 hm166788 he166789 rfl (show 0 + 0 ≤ 0 by first | omega | decide) (show 0 + 0 ≤ 0 by first | omega | decide) (Nat.le_of_ble_eq_true rfl) (fun r166844 w166845 dc166841 ds166842 hp166843 => ?_) (fun _ _ _ _ _ z => z.elim)
    obtain ⟨F166849, rfl, rfl, hT166850, hs166851, hdc, hds, x166846, x166847, ht166848⟩ := hp166843
    have hs166852 : rStr γ [] F166047 F166849 := rStr_tr hs166787 hs166851
    change G _ _ _ _ _ _ _ _ _ _ _
    refine G_widen (cs' := 0) (sl' := 0) (by omega) (by omega) ?_
    refine G_aload_n 0 dr_cX17_feed_82 rfl ?_
    refine G_dup dr_cX17_feed_83 rfl ?_
    have hm166853 : q166048 ∈ P166046 := RS_m hT166850 htq166048 (by decide)
    obtain ⟨q166855, q166856, p166857, p166858, p166859, p166860, p166861, p166862, p166863, p166864, p166865, p166866, p166867, p166868, p166869, p166870, p166871, he166854, hB166898, ht166872, ht166873, ht166874, ht166875, ht166876, ht166877, ht166878, ht166879, ht166880, ht166881, ht166882, ht166883, ht166884, ht166885, ht166886, ht166887, ht166888, ht166889, ht166890, ht166891, ht166892, ht166893, ht166894, ht166895, hB166899⟩ := show rk_10 γ (F166849 q166048) from RS_o hT166850 htq166048
    have ac166900 : (fI (F166849 q166048) 32).toInt = p166869.toInt := by rw [he166854]; rfl
    have bp166869 : gB p166869 0 8192 := (hB166898.2.2.2.2.2.2.2.1)
    have ac166901 : (fI (F166849 q166048) 30).toInt = p166868.toInt := by rw [he166854]; rfl
    have bp166868 : gB p166868 (-2147483648) 2147483647 := (gB_any p166868)
    have fq166902 : fI (F166849 q166048) 32 = p166869 := by rw [he166854]; rfl
    refine Gp_get 32 hm166853 he166854 dr_cX17_feed_84 (gk_X17 D I) (Nat.le_of_ble_eq_true rfl) wr_7_106 rfl ?_
    refine G_bipush 20 dr_cX17_feed_87 (by decide +kernel) ?_
    refine G_iadd dr_cX17_feed_89 (G_nam fun z166903 hz166903 => ?_)
    have ez166903 : z166903.toInt = p166869.toInt + 20 := by rw [gI_add hz166903 bp166869 (gBl (show Int32.toInt 20 = 20 by decide)) (by decide) (by decide), show Int32.toInt 20 = 20 from by decide]
    have bz166903 : gB z166903 20 8212 := gB_add (gI_add hz166903 bp166869 (gBl (show Int32.toInt 20 = 20 by decide)) (by decide) (by decide)) bp166869 (gBl (show Int32.toInt 20 = 20 by decide)) (by decide) (by decide)
    refine Gp_put 32 hm166853 he166854 dr_cX17_feed_90 (gk_X17 D I) (Nat.le_of_ble_eq_true rfl) wr_7_106 rfl rfl rfl (Nat.le_of_ble_eq_true rfl) (fun F166904 e166905 n166906 => ?_)
    have he166907 : F166904 q166048 = .inr (22, [.ref (γ 9 0), .ref (γ 9 1), .ref (γ 9 2), .ref (γ 9 3), .ref (γ 9 4), .ref (γ 9 5), .ref (γ 9 6), .ref (γ 9 7), .ref (γ 9 8), .int p166857, .int p166858, .int p166859, .int p166860, .int p166861, .int p166862, .ref (γ 9 15), .ref (γ 9 16), .ref (γ 9 17), .ref (γ 9 18), .ref (γ 9 19), .ref (γ 9 20), .ref (γ 9 21), .ref (γ 9 22), .int p166863, .int p166864, .int p166865, .int p166866, .int p166867, .ref q166855, .ref (γ 9 29), .int p166868, .ref (γ 9 31), .int z166903, .int p166870, .int p166871, .ref q166856]) := e166905
    have hs166908 : rStr γ [] F166047 F166904 := rStr_put hs166852 n166906 htq166048 (by decide)
    have fq166909 : F166904 q166048 = cF (F166849 q166048) 32 (.int z166903) := by rw [he166907, he166854]; rfl
    refine G_aload_n 0 dr_cX17_feed_93 rfl ?_
    have fq166910 : fI (F166904 q166048) 32 = z166903 := by rw [he166907]; rfl
    refine Gp_get 32 hm166853 he166907 dr_cX17_feed_94 (gk_X17 D I) (Nat.le_of_ble_eq_true rfl) wr_7_106 rfl ?_
    have hT166911 : RS D I P166046 F166904 γ el := RS_set hT166850 n166906 htq166048 (by decide) ⟨q166855, q166856, p166857, p166858, p166859, p166860, p166861, p166862, p166863, p166864, p166865, p166866, p166867, p166868, z166903, p166870, p166871, he166907, ⟨(hB166898.1), (hB166898.2.1), (hB166898.2.2.1), (hB166898.2.2.2.1), (hB166898.2.2.2.2.1), (hB166898.2.2.2.2.2.1), (hB166898.2.2.2.2.2.2.1), ⟨by omega, by omega⟩, (hB166898.2.2.2.2.2.2.2.2)⟩, ht166872, ht166873, ht166874, ht166875, ht166876, ht166877, ht166878, ht166879, ht166880, ht166881, ht166882, ht166883, ht166884, ht166885, ht166886, ht166887, ht166888, ht166889, ht166890, ht166891, ht166892, ht166893, ht166894, ht166895, hB166899⟩
    have ac166912 : (fI (F166904 q166048) 32).toInt = z166903.toInt := by rw [he166907]; rfl
    have ac166913 : (fI (F166904 q166048) 30).toInt = p166868.toInt := by rw [he166907]; rfl
    exact G_iretA dr_cX17_feed_97 rfl (Nat.le_of_ble_eq_true rfl) (Nat.le_of_ble_eq_true rfl) ⟨F166904, z166903, rfl, rfl, hT166911, hs166908, (Nat.le_of_ble_eq_true rfl), (Nat.le_of_ble_eq_true rfl), (gB_w bz166903 (by decide) (by decide)), (by omega), (fun R c1 c2 => c1 F166104 p166071 z166111 F166589 p166609 z166643 F166654 p166674 z166708 F166719 p166739 z166773 F166784 p166804 z166838 F166849 p166869 z166903 F166904 n166106 fq166109 fq166110 ez166111 r166113 hT166590 hs166591 x166586 x166587 ht166588 fq166642 ez166643 hT166655 hs166656 x166651 x166652 ht166653 fq166707 ez166708 hT166720 hs166721 x166716 x166717 ht166718 fq166772 ez166773 hT166785 hs166786 x166781 x166782 ht166783 fq166837 ez166838 hT166850 hs166851 x166846 x166847 ht166848 fq166902 ez166903 n166906 fq166909 fq166910)⟩
  · have r166914 : 8192 < z166111.toInt := gj_nle hc166112 (show Int32.toInt 8192 = 8192 by decide)
    have bz166111' : gB z166111 8193 8212 := ⟨by omega, by omega⟩
    refine G_aload_n 0 dr_cX17_feed_18 rfl ?_
    refine G_iconst 1 dr_cX17_feed_19 (by decide +kernel) ?_
    have hT166915 : RS D I P166046 F166104 γ el := RS_set hT n166106 htq166048 (by decide) ⟨q166057, q166058, p166059, p166060, p166061, p166062, p166063, p166064, p166065, p166066, p166067, p166068, p166069, 0, p166071, p166072, p166073, he166107, ⟨(hB166100.1), (hB166100.2.1), (hB166100.2.2.1), (hB166100.2.2.2.1), (hB166100.2.2.2.2.1), (hB166100.2.2.2.2.2.1), (hB166100.2.2.2.2.2.2.1), bp166071, (hB166100.2.2.2.2.2.2.2.2)⟩, ht166074, ht166075, ht166076, ht166077, ht166078, ht166079, ht166080, ht166081, ht166082, ht166083, ht166084, ht166085, ht166086, ht166087, ht166088, ht166089, ht166090, ht166091, ht166092, ht166093, ht166094, ht166095, ht166096, ht166097, hB166101⟩
    have ac166916 : (fI (F166104 q166048) 32).toInt = p166071.toInt := by rw [he166107]; rfl
    have ac166917 : (fI (F166104 q166048) 30).toInt = 0 := by rw [he166107]; show Int32.toInt 0 = 0; decide
    refine Gw_callV (As := [.int 1]) (gV_ok D I) (ct_165671_SpillForgeModel_no l hl0 D I γ el P166046 F166104 q166048 1 hT166915 htq166048) dr_cX17_feed_20 ⟨wr_7_191, wr_1_14, wr_7_194, by decide, rfl, (Nat.le_of_ble_eq_true rfl), (Nat.le_of_ble_eq_true rfl)⟩ wr_7_193 wr_p_73 hm166055 he166107 rfl (show 0 + 0 ≤ 0 by first | omega | decide) (show 0 + 0 ≤ 0 by first | omega | decide) (Nat.le_of_ble_eq_true rfl) (fun r166921 w166922 dc166918 ds166919 hp166920 => ?_) (fun _ _ _ _ _ z => z.elim)
    obtain ⟨F166926, rfl, rfl, hT166927, hs166928, hdc, hds, x166923, x166924, ht166925⟩ := hp166920
    have hs166929 : rStr γ [] F166047 F166926 := rStr_tr hs166108 hs166928
    rw [show Int32.toInt 1 = 1 from by decide] at x166924
    change G _ _ _ _ _ _ _ (.int 0 :: _) _ _ _
    refine G_widen (cs' := 0) (sl' := 0) (by omega) (by omega) ?_
    have hm166930 : q166048 ∈ P166046 := RS_m hT166927 htq166048 (by decide)
    obtain ⟨q166932, q166933, p166934, p166935, p166936, p166937, p166938, p166939, p166940, p166941, p166942, p166943, p166944, p166945, p166946, p166947, p166948, he166931, hB166975, ht166949, ht166950, ht166951, ht166952, ht166953, ht166954, ht166955, ht166956, ht166957, ht166958, ht166959, ht166960, ht166961, ht166962, ht166963, ht166964, ht166965, ht166966, ht166967, ht166968, ht166969, ht166970, ht166971, ht166972, hB166976⟩ := show rk_10 γ (F166926 q166048) from RS_o hT166927 htq166048
    have ac166977 : (fI (F166926 q166048) 32).toInt = p166946.toInt := by rw [he166931]; rfl
    have bp166946 : gB p166946 0 8192 := (hB166975.2.2.2.2.2.2.2.1)
    have ac166978 : (fI (F166926 q166048) 30).toInt = p166945.toInt := by rw [he166931]; rfl
    have bp166945 : gB p166945 (-2147483648) 2147483647 := (gB_any p166945)
    have ac166979 : (fI (F166926 q166048) 32).toInt = p166946.toInt := by rw [he166931]; rfl
    have ac166980 : (fI (F166926 q166048) 30).toInt = p166945.toInt := by rw [he166931]; rfl
    exact G_iretA dr_cX17_feed_23 rfl (Nat.le_of_ble_eq_true rfl) (Nat.le_of_ble_eq_true rfl) ⟨F166926, 0, rfl, rfl, hT166927, hs166929, (Nat.le_of_ble_eq_true rfl), (Nat.le_of_ble_eq_true rfl), (gB_w (gBl (show Int32.toInt 0 = 0 by decide)) (by decide) (by decide)), (by have qa0 : Int32.toInt 0 = 0 := (by decide); omega), (fun R c1 c2 => c2 F166104 p166071 z166111 F166926 n166106 fq166109 fq166110 ez166111 r166914 hT166927 hs166928 x166923 x166924 ht166925)⟩
/- tr_RModel_end: result, F -/
def tr_RModel_end (D : va_G) (I : FieldType → ClassId) (γ el : Nat → Nat → Nat) (P : List Nat) (F : Nat → va_E) (q0 : Nat) (a1 : Int32) (o1 : Int32) (o2 : Nat → va_E) : Prop := ∀ R : (Int32) → (Nat → va_E) → Prop,
  (∀ (x1 : Nat → va_E) (x2 : Nat → va_E), (∀ b, b ≠ q0 → x1 b = F b) → x1 q0 = cF (F q0) 30 (.int 0) → a1.toInt < 0 → RS D I P x2 γ el → rStr γ [] x1 x2 → (fI (x2 q0) 32).toInt = (fI (x1 q0) 32).toInt → (fI (x2 q0) 30).toInt = 1 → tr_RModel_no D I γ el x1 q0 (1 : Int32) x2 → R (0 : Int32) x2) →
  (∀ (x1 : Nat → va_E) (x2 : Int32) (x3 : Nat → va_E), (∀ b, b ≠ q0 → x1 b = F b) → x1 q0 = cF (F q0) 30 (.int 0) → 0 ≤ a1.toInt → fI (x1 q0) 32 = x2 → a1.toInt ≤ x2.toInt → (∀ b, b ≠ q0 → x3 b = x1 b) → x3 q0 = cF (x1 q0) 32 (.int a1) → R a1 x3) →
  (∀ (x1 : Nat → va_E) (x2 : Int32) (x3 : Nat → va_E), (∀ b, b ≠ q0 → x1 b = F b) → x1 q0 = cF (F q0) 30 (.int 0) → 0 ≤ a1.toInt → fI (x1 q0) 32 = x2 → x2.toInt < a1.toInt → RS D I P x3 γ el → rStr γ [] x1 x3 → (fI (x3 q0) 32).toInt = (fI (x1 q0) 32).toInt → (fI (x3 q0) 30).toInt = 1 → tr_RModel_no D I γ el x1 q0 (1 : Int32) x3 → R (0 : Int32) x3) →
  R o1 o2
abbrev ky_166987_SpillForgeModel_end : gKey := (cX17_end, 2, "SpillForgeModel", (some FieldType.int), [], "end", fun _ _ => True)
def pt_166987_SpillForgeModel_end (D : va_G) (I : FieldType → ClassId) (γ el : Nat → Nat → Nat) (P166983 : List Nat) (F166984 : Nat → va_E) (q166985 : Nat) (p166986 : Int32) : Option Value → va_W → Nat → Nat → Prop := fun r w dc ds => ∃ (F167193 : Nat → va_E) (o167192 : Int32), r = some (.int o167192) ∧ w = va_pl P166983 F167193 ∧ RS D I P166983 F167193 γ el ∧ rStr γ [] F166984 F167193 ∧ dc ≤ 0 ∧ ds ≤ 0 ∧ gB o167192 0 8192 ∧ ((0 ≤ p166986.toInt ∧ p166986.toInt ≤ (fI (F166984 q166985) 32).toInt ∧ o167192.toInt = p166986.toInt ∧ (fI (F167193 q166985) 32).toInt = p166986.toInt ∧ (fI (F167193 q166985) 30).toInt = 0) ∨ ((p166986.toInt < 0 ∨ (fI (F166984 q166985) 32).toInt < p166986.toInt) ∧ (fI (F167193 q166985) 30).toInt = 1 ∧ (fI (F167193 q166985) 32).toInt = (fI (F166984 q166985) 32).toInt)) ∧ tr_RModel_end D I γ el P166983 F166984 q166985 p166986 o167192 F167193
set_option maxRecDepth 100000 in
set_option maxHeartbeats 4000000 in
theorem ct_166987_SpillForgeModel_end (l : Launch) (hl0 : l.stackTraces = false) (D : va_G) (I : FieldType → ClassId) (γ el : Nat → Nat → Nat) (P166983 : List Nat) (F166984 : Nat → va_E) (q166985 : Nat) (p166986 : Int32) (hT : RS D I P166983 F166984 γ el) (htq166985 : rKd γ q166985 10) : CtA (gV D I) l yX17_end cX17_end 2 (some FieldType.int) 1 21 0 0 [.ref q166985, .int p166986] (va_pl P166983 F166984) (pt_166987_SpillForgeModel_end D I γ el P166983 F166984 q166985 p166986) gNA := by
  refine CtA_of hl0 (by decide) (Nat.le_of_ble_eq_true rfl) ?_
  have bp166986 := gB_any p166986
  have hm166988 : q166985 ∈ P166983 := RS_m hT htq166985 (by decide)
  obtain ⟨q166990, q166991, p166992, p166993, p166994, p166995, p166996, p166997, p166998, p166999, p167000, p167001, p167002, p167003, p167004, p167005, p167006, he166989, hB167033, ht167007, ht167008, ht167009, ht167010, ht167011, ht167012, ht167013, ht167014, ht167015, ht167016, ht167017, ht167018, ht167019, ht167020, ht167021, ht167022, ht167023, ht167024, ht167025, ht167026, ht167027, ht167028, ht167029, ht167030, hB167034⟩ := show rk_10 γ (F166984 q166985) from RS_o hT htq166985
  have ac167035 : (fI (F166984 q166985) 32).toInt = p167004.toInt := by rw [he166989]; rfl
  have bp167004 : gB p167004 0 8192 := (hB167033.2.2.2.2.2.2.2.1)
  have ac167036 : (fI (F166984 q166985) 30).toInt = p167003.toInt := by rw [he166989]; rfl
  have bp167003 : gB p167003 (-2147483648) 2147483647 := (gB_any p167003)
  refine G_aload_n 0 dr_cX17_end_0 rfl ?_
  refine G_iconst 0 dr_cX17_end_1 (by decide +kernel) ?_
  refine Gp_put 30 hm166988 he166989 dr_cX17_end_2 (gk_X17 D I) (Nat.le_of_ble_eq_true rfl) wr_7_104 rfl rfl rfl (Nat.le_of_ble_eq_true rfl) (fun F167037 e167038 n167039 => ?_)
  have he167040 : F167037 q166985 = .inr (22, [.ref (γ 9 0), .ref (γ 9 1), .ref (γ 9 2), .ref (γ 9 3), .ref (γ 9 4), .ref (γ 9 5), .ref (γ 9 6), .ref (γ 9 7), .ref (γ 9 8), .int p166992, .int p166993, .int p166994, .int p166995, .int p166996, .int p166997, .ref (γ 9 15), .ref (γ 9 16), .ref (γ 9 17), .ref (γ 9 18), .ref (γ 9 19), .ref (γ 9 20), .ref (γ 9 21), .ref (γ 9 22), .int p166998, .int p166999, .int p167000, .int p167001, .int p167002, .ref q166990, .ref (γ 9 29), .int 0, .ref (γ 9 31), .int p167004, .int p167005, .int p167006, .ref q166991]) := e167038
  have hs167041 : rStr γ [] F166984 F167037 := rStr_put (rStr_rf (γ := γ) (W := []) (F := F166984)) n167039 htq166985 (by decide)
  have fq167042 : F167037 q166985 = cF (F166984 q166985) 30 (.int 0) := by rw [he167040, he166989]; rfl
  refine G_iload_n 1 dr_cX17_end_5 rfl ?_
  refine G_if_lt 17 dr_cX17_end_6 (by decide +kernel) (fun hc167043 => ?_) (fun hc167043 => ?_)
  · have r167044 : p166986.toInt < 0 := gj_lt hc167043 (show Int32.toInt 0 = 0 by decide)
    have bp166986' : gB p166986 (-2147483648) (-1) := ⟨by omega, by omega⟩
    refine G_aload_n 0 dr_cX17_end_17 rfl ?_
    refine G_iconst 1 dr_cX17_end_18 (by decide +kernel) ?_
    have hT167045 : RS D I P166983 F167037 γ el := RS_set hT n167039 htq166985 (by decide) ⟨q166990, q166991, p166992, p166993, p166994, p166995, p166996, p166997, p166998, p166999, p167000, p167001, p167002, 0, p167004, p167005, p167006, he167040, ⟨(hB167033.1), (hB167033.2.1), (hB167033.2.2.1), (hB167033.2.2.2.1), (hB167033.2.2.2.2.1), (hB167033.2.2.2.2.2.1), (hB167033.2.2.2.2.2.2.1), bp167004, (hB167033.2.2.2.2.2.2.2.2)⟩, ht167007, ht167008, ht167009, ht167010, ht167011, ht167012, ht167013, ht167014, ht167015, ht167016, ht167017, ht167018, ht167019, ht167020, ht167021, ht167022, ht167023, ht167024, ht167025, ht167026, ht167027, ht167028, ht167029, ht167030, hB167034⟩
    have ac167046 : (fI (F167037 q166985) 32).toInt = p167004.toInt := by rw [he167040]; rfl
    have ac167047 : (fI (F167037 q166985) 30).toInt = 0 := by rw [he167040]; show Int32.toInt 0 = 0; decide
    refine Gw_callV (As := [.int 1]) (gV_ok D I) (ct_165671_SpillForgeModel_no l hl0 D I γ el P166983 F167037 q166985 1 hT167045 htq166985) dr_cX17_end_19 ⟨wr_7_191, wr_1_14, wr_7_194, by decide, rfl, (Nat.le_of_ble_eq_true rfl), (Nat.le_of_ble_eq_true rfl)⟩ wr_7_193 wr_p_73 hm166988 he167040 rfl (show 0 + 0 ≤ 0 by first | omega | decide) (show 0 + 0 ≤ 0 by first | omega | decide) (Nat.le_of_ble_eq_true rfl) (fun r167051 w167052 dc167048 ds167049 hp167050 => ?_) (fun _ _ _ _ _ z => z.elim)
    obtain ⟨F167056, rfl, rfl, hT167057, hs167058, hdc, hds, x167053, x167054, ht167055⟩ := hp167050
    have hs167059 : rStr γ [] F166984 F167056 := rStr_tr hs167041 hs167058
    rw [show Int32.toInt 1 = 1 from by decide] at x167054
    change G _ _ _ _ _ _ _ (.int 0 :: _) _ _ _
    refine G_widen (cs' := 0) (sl' := 0) (by omega) (by omega) ?_
    have hm167060 : q166985 ∈ P166983 := RS_m hT167057 htq166985 (by decide)
    obtain ⟨q167062, q167063, p167064, p167065, p167066, p167067, p167068, p167069, p167070, p167071, p167072, p167073, p167074, p167075, p167076, p167077, p167078, he167061, hB167105, ht167079, ht167080, ht167081, ht167082, ht167083, ht167084, ht167085, ht167086, ht167087, ht167088, ht167089, ht167090, ht167091, ht167092, ht167093, ht167094, ht167095, ht167096, ht167097, ht167098, ht167099, ht167100, ht167101, ht167102, hB167106⟩ := show rk_10 γ (F167056 q166985) from RS_o hT167057 htq166985
    have ac167107 : (fI (F167056 q166985) 32).toInt = p167076.toInt := by rw [he167061]; rfl
    have bp167076 : gB p167076 0 8192 := (hB167105.2.2.2.2.2.2.2.1)
    have ac167108 : (fI (F167056 q166985) 30).toInt = p167075.toInt := by rw [he167061]; rfl
    have bp167075 : gB p167075 (-2147483648) 2147483647 := (gB_any p167075)
    have ac167109 : (fI (F167056 q166985) 32).toInt = p167076.toInt := by rw [he167061]; rfl
    have ac167110 : (fI (F167056 q166985) 30).toInt = p167075.toInt := by rw [he167061]; rfl
    exact G_iretA dr_cX17_end_22 rfl (Nat.le_of_ble_eq_true rfl) (Nat.le_of_ble_eq_true rfl) ⟨F167056, 0, rfl, rfl, hT167057, hs167059, (Nat.le_of_ble_eq_true rfl), (Nat.le_of_ble_eq_true rfl), (gB_w (gBl (show Int32.toInt 0 = 0 by decide)) (by decide) (by decide)), (by have qa0 : Int32.toInt 0 = 0 := (by decide); omega), (fun R c1 c2 c3 => c1 F167037 F167056 n167039 fq167042 r167044 hT167057 hs167058 x167053 x167054 ht167055)⟩
  · have r167111 : 0 ≤ p166986.toInt := gj_nlt hc167043 (show Int32.toInt 0 = 0 by decide)
    have bp166986' : gB p166986 0 2147483647 := ⟨by omega, by omega⟩
    refine G_iload_n 1 dr_cX17_end_9 rfl ?_
    refine G_aload_n 0 dr_cX17_end_10 rfl ?_
    have fq167112 : fI (F167037 q166985) 32 = p167004 := by rw [he167040]; rfl
    refine Gp_get 32 hm166988 he167040 dr_cX17_end_11 (gk_X17 D I) (Nat.le_of_ble_eq_true rfl) wr_7_106 rfl ?_
    refine G_icmp_le 23 dr_cX17_end_14 (by decide +kernel) (fun hc167113 => ?_) (fun hc167113 => ?_)
    · have r167114 : p166986.toInt ≤ p167004.toInt := gC_le hc167113
      have bp166986'' : gB p166986 0 8192 := ⟨by omega, by omega⟩
      refine G_aload_n 0 dr_cX17_end_23 rfl ?_
      refine G_iload_n 1 dr_cX17_end_24 rfl ?_
      refine Gp_put 32 hm166988 he167040 dr_cX17_end_25 (gk_X17 D I) (Nat.le_of_ble_eq_true rfl) wr_7_106 rfl rfl rfl (Nat.le_of_ble_eq_true rfl) (fun F167115 e167116 n167117 => ?_)
      have he167118 : F167115 q166985 = .inr (22, [.ref (γ 9 0), .ref (γ 9 1), .ref (γ 9 2), .ref (γ 9 3), .ref (γ 9 4), .ref (γ 9 5), .ref (γ 9 6), .ref (γ 9 7), .ref (γ 9 8), .int p166992, .int p166993, .int p166994, .int p166995, .int p166996, .int p166997, .ref (γ 9 15), .ref (γ 9 16), .ref (γ 9 17), .ref (γ 9 18), .ref (γ 9 19), .ref (γ 9 20), .ref (γ 9 21), .ref (γ 9 22), .int p166998, .int p166999, .int p167000, .int p167001, .int p167002, .ref q166990, .ref (γ 9 29), .int 0, .ref (γ 9 31), .int p166986, .int p167005, .int p167006, .ref q166991]) := e167116
      have hs167119 : rStr γ [] F166984 F167115 := rStr_put hs167041 n167117 htq166985 (by decide)
      have n167120 : ∀ b, b ≠ q166985 → F167115 b = F166984 b := fun b hb => (n167117 b hb).trans (n167039 b hb)
      have fq167121 : F167115 q166985 = cF (F167037 q166985) 32 (.int p166986) := by rw [he167118, he167040]; rfl
      refine G_iload_n 1 dr_cX17_end_28 rfl ?_
      have hT167122 : RS D I P166983 F167115 γ el := RS_set hT n167120 htq166985 (by decide) ⟨q166990, q166991, p166992, p166993, p166994, p166995, p166996, p166997, p166998, p166999, p167000, p167001, p167002, 0, p166986, p167005, p167006, he167118, ⟨(hB167033.1), (hB167033.2.1), (hB167033.2.2.1), (hB167033.2.2.2.1), (hB167033.2.2.2.2.1), (hB167033.2.2.2.2.2.1), (hB167033.2.2.2.2.2.2.1), bp166986'', (hB167033.2.2.2.2.2.2.2.2)⟩, ht167007, ht167008, ht167009, ht167010, ht167011, ht167012, ht167013, ht167014, ht167015, ht167016, ht167017, ht167018, ht167019, ht167020, ht167021, ht167022, ht167023, ht167024, ht167025, ht167026, ht167027, ht167028, ht167029, ht167030, hB167034⟩
      have ac167123 : (fI (F167115 q166985) 32).toInt = p166986.toInt := by rw [he167118]; rfl
      have ac167124 : (fI (F167115 q166985) 30).toInt = 0 := by rw [he167118]; show Int32.toInt 0 = 0; decide
      exact G_iretA dr_cX17_end_29 rfl (Nat.le_of_ble_eq_true rfl) (Nat.le_of_ble_eq_true rfl) ⟨F167115, p166986, rfl, rfl, hT167122, hs167119, (Nat.le_of_ble_eq_true rfl), (Nat.le_of_ble_eq_true rfl), bp166986'', (by omega), (fun R c1 c2 c3 => c2 F167037 p167004 F167115 n167039 fq167042 r167111 fq167112 r167114 n167117 fq167121)⟩
    · have r167125 : p167004.toInt < p166986.toInt := gC_nle hc167113
      have bp166986'' : gB p166986 1 2147483647 := ⟨by omega, by omega⟩
      refine G_aload_n 0 dr_cX17_end_17 rfl ?_
      refine G_iconst 1 dr_cX17_end_18 (by decide +kernel) ?_
      have hT167126 : RS D I P166983 F167037 γ el := RS_set hT n167039 htq166985 (by decide) ⟨q166990, q166991, p166992, p166993, p166994, p166995, p166996, p166997, p166998, p166999, p167000, p167001, p167002, 0, p167004, p167005, p167006, he167040, ⟨(hB167033.1), (hB167033.2.1), (hB167033.2.2.1), (hB167033.2.2.2.1), (hB167033.2.2.2.2.1), (hB167033.2.2.2.2.2.1), (hB167033.2.2.2.2.2.2.1), bp167004, (hB167033.2.2.2.2.2.2.2.2)⟩, ht167007, ht167008, ht167009, ht167010, ht167011, ht167012, ht167013, ht167014, ht167015, ht167016, ht167017, ht167018, ht167019, ht167020, ht167021, ht167022, ht167023, ht167024, ht167025, ht167026, ht167027, ht167028, ht167029, ht167030, hB167034⟩
      have ac167127 : (fI (F167037 q166985) 32).toInt = p167004.toInt := by rw [he167040]; rfl
      have ac167128 : (fI (F167037 q166985) 30).toInt = 0 := by rw [he167040]; show Int32.toInt 0 = 0; decide
      refine Gw_callV (As := [.int 1]) (gV_ok D I) (ct_165671_SpillForgeModel_no l hl0 D I γ el P166983 F167037 q166985 1 hT167126 htq166985) dr_cX17_end_19 ⟨wr_7_191, wr_1_14, wr_7_194, by decide, rfl, (Nat.le_of_ble_eq_true rfl), (Nat.le_of_ble_eq_true rfl)⟩ wr_7_193 wr_p_73 hm166988 he167040 rfl (show 0 + 0 ≤ 0 by first | omega | decide) (show 0 + 0 ≤ 0 by first | omega | decide) (Nat.le_of_ble_eq_true rfl) (fun r167132 w167133 dc167129 ds167130 hp167131 => ?_) (fun _ _ _ _ _ z => z.elim)
      obtain ⟨F167137, rfl, rfl, hT167138, hs167139, hdc, hds, x167134, x167135, ht167136⟩ := hp167131
      have hs167140 : rStr γ [] F166984 F167137 := rStr_tr hs167041 hs167139
      rw [show Int32.toInt 1 = 1 from by decide] at x167135
      change G _ _ _ _ _ _ _ (.int 0 :: _) _ _ _
      refine G_widen (cs' := 0) (sl' := 0) (by omega) (by omega) ?_
      have hm167141 : q166985 ∈ P166983 := RS_m hT167138 htq166985 (by decide)
      obtain ⟨q167143, q167144, p167145, p167146, p167147, p167148, p167149, p167150, p167151, p167152, p167153, p167154, p167155, p167156, p167157, p167158, p167159, he167142, hB167186, ht167160, ht167161, ht167162, ht167163, ht167164, ht167165, ht167166, ht167167, ht167168, ht167169, ht167170, ht167171, ht167172, ht167173, ht167174, ht167175, ht167176, ht167177, ht167178, ht167179, ht167180, ht167181, ht167182, ht167183, hB167187⟩ := show rk_10 γ (F167137 q166985) from RS_o hT167138 htq166985
      have ac167188 : (fI (F167137 q166985) 32).toInt = p167157.toInt := by rw [he167142]; rfl
      have bp167157 : gB p167157 0 8192 := (hB167186.2.2.2.2.2.2.2.1)
      have ac167189 : (fI (F167137 q166985) 30).toInt = p167156.toInt := by rw [he167142]; rfl
      have bp167156 : gB p167156 (-2147483648) 2147483647 := (gB_any p167156)
      have ac167190 : (fI (F167137 q166985) 32).toInt = p167157.toInt := by rw [he167142]; rfl
      have ac167191 : (fI (F167137 q166985) 30).toInt = p167156.toInt := by rw [he167142]; rfl
      exact G_iretA dr_cX17_end_22 rfl (Nat.le_of_ble_eq_true rfl) (Nat.le_of_ble_eq_true rfl) ⟨F167137, 0, rfl, rfl, hT167138, hs167140, (Nat.le_of_ble_eq_true rfl), (Nat.le_of_ble_eq_true rfl), (gB_w (gBl (show Int32.toInt 0 = 0 by decide)) (by decide) (by decide)), (by have qa0 : Int32.toInt 0 = 0 := (by decide); omega), (fun R c1 c2 c3 => c3 F167037 p167004 F167137 n167039 fq167042 r167111 fq167112 r167125 hT167138 hs167139 x167134 x167135 ht167136)⟩
/- tl_RModel_run_54: F, l3, l4; out: l6, F -/
def tl_RModel_run_54 (D : va_G) (I : FieldType → ClassId) (γ el : Nat → Nat → Nat) (P : List Nat) (F : Nat → va_E) (q1 : Nat) (q0 : Nat) (a2 : Int32) (s1 : Nat → va_E) (s2 : Int32) (s3 : Int32) (k : Nat) (e1 : Nat) (e2 : Nat → va_E) : Prop := ∀ R : (Nat → va_E) → (Int32) → (Int32) → Nat → (Nat) → (Nat → va_E) → Prop,
  (∀ (F_1 : Nat → va_E) (l3_1 : Int32) (l4_1 : Int32) (x1 : Nat) (x2 : Nat) (x3 : Int32) (x4 : Int32) (x5 : Int32) (x6 : Nat → va_E) (x7 : Nat) (x8 : Int32) (x9 : Nat) (x10 : Int32) (x11 : Int32) (k : Nat) (e1 : Nat) (e2 : Nat → va_E), gB l3_1 0 39 → gB l4_1 0 1000000 → RS D I P F_1 γ el → rStr γ [] F F_1 → l3_1.toInt < γ 6 (γ 1 q1) → (fI (F_1 q0) 26).toInt ≤ a2.toInt → fR (F_1 q1) 0 = x1 → x2 = el x1 l3_1.toInt.toNat → fI (F_1 x1) 2 = x3 → tr_RCode_get l3_1 x3 → fI (F_1 q0) 26 = x4 → x4.toInt ≠ a2.toInt → x5.toInt = x4.toInt + 1 → (∀ b, b ≠ q0 → x6 b = F_1 b) → x6 q0 = cF (F_1 q0) 26 (.int x5) → fR (x6 x2) 0 = x7 → x8.toInt = (γ 2 x7 : Int) → fI (x6 x7) 2 = x8 → x8.toInt ≤ l4_1.toInt → fR (x6 x2) 1 = x9 → fI (x6 x9) 0 = x10 → x10.toInt ≠ 32 → x10.toInt = 30 → fI (x6 x2) 2 = x11 → R x6 x11 (0 : Int32) k e1 e2 → R F_1 l3_1 l4_1 k e1 e2) →
  (∀ (F_1 : Nat → va_E) (l3_1 : Int32) (l4_1 : Int32) (x1 : Nat) (x2 : Nat) (x3 : Int32) (x4 : Int32) (x5 : Int32) (x6 : Nat → va_E) (x7 : Nat) (x8 : Int32) (x9 : Nat) (x10 : Int32) (x11 : Int32) (x12 : Int32) (x13 : Int32) (x14 : Int32) (k : Nat) (e1 : Nat) (e2 : Nat → va_E), gB l3_1 0 39 → gB l4_1 0 1000000 → RS D I P F_1 γ el → rStr γ [] F F_1 → l3_1.toInt < γ 6 (γ 1 q1) → (fI (F_1 q0) 26).toInt ≤ a2.toInt → fR (F_1 q1) 0 = x1 → x2 = el x1 l3_1.toInt.toNat → fI (F_1 x1) 2 = x3 → tr_RCode_get l3_1 x3 → fI (F_1 q0) 26 = x4 → x4.toInt ≠ a2.toInt → x5.toInt = x4.toInt + 1 → (∀ b, b ≠ q0 → x6 b = F_1 b) → x6 q0 = cF (F_1 q0) 26 (.int x5) → fR (x6 x2) 0 = x7 → x8.toInt = (γ 2 x7 : Int) → fI (x6 x7) 2 = x8 → x8.toInt ≤ l4_1.toInt → fR (x6 x2) 1 = x9 → fI (x6 x9) 0 = x10 → x10.toInt ≠ 32 → x10.toInt ≠ 30 → fI (x6 x9) 5 = x11 → fI (x6 x9) 2 = x12 → tr_RModel_value D I γ el x6 q0 x11 x12 x13 → x13.toInt = 0 → fI (x6 x2) 3 = x14 → R x6 x14 (0 : Int32) k e1 e2 → R F_1 l3_1 l4_1 k e1 e2) →
  (∀ (F_1 : Nat → va_E) (l3_1 : Int32) (l4_1 : Int32) (x1 : Nat) (x2 : Nat) (x3 : Int32) (x4 : Int32) (x5 : Int32) (x6 : Nat → va_E) (x7 : Nat) (x8 : Int32) (x9 : Nat) (x10 : Int32) (x11 : Int32) (x12 : Int32) (x13 : Int32) (x14 : Int32) (k : Nat) (e1 : Nat) (e2 : Nat → va_E), gB l3_1 0 39 → gB l4_1 0 1000000 → RS D I P F_1 γ el → rStr γ [] F F_1 → l3_1.toInt < γ 6 (γ 1 q1) → (fI (F_1 q0) 26).toInt ≤ a2.toInt → fR (F_1 q1) 0 = x1 → x2 = el x1 l3_1.toInt.toNat → fI (F_1 x1) 2 = x3 → tr_RCode_get l3_1 x3 → fI (F_1 q0) 26 = x4 → x4.toInt ≠ a2.toInt → x5.toInt = x4.toInt + 1 → (∀ b, b ≠ q0 → x6 b = F_1 b) → x6 q0 = cF (F_1 q0) 26 (.int x5) → fR (x6 x2) 0 = x7 → x8.toInt = (γ 2 x7 : Int) → fI (x6 x7) 2 = x8 → x8.toInt ≤ l4_1.toInt → fR (x6 x2) 1 = x9 → fI (x6 x9) 0 = x10 → x10.toInt ≠ 32 → x10.toInt ≠ 30 → fI (x6 x9) 5 = x11 → fI (x6 x9) 2 = x12 → tr_RModel_value D I γ el x6 q0 x11 x12 x13 → x13.toInt ≠ 0 → fI (x6 x2) 2 = x14 → R x6 x14 (0 : Int32) k e1 e2 → R F_1 l3_1 l4_1 k e1 e2) →
  (∀ (F_1 : Nat → va_E) (l3_1 : Int32) (l4_1 : Int32) (x1 : Nat) (x2 : Nat) (x3 : Int32) (x4 : Int32) (x5 : Int32) (x6 : Nat → va_E) (x7 : Nat) (x8 : Int32) (x9 : Nat) (x10 : Int32), gB l3_1 0 39 → gB l4_1 0 1000000 → RS D I P F_1 γ el → rStr γ [] F F_1 → l3_1.toInt < γ 6 (γ 1 q1) → (fI (F_1 q0) 26).toInt ≤ a2.toInt → fR (F_1 q1) 0 = x1 → x2 = el x1 l3_1.toInt.toNat → fI (F_1 x1) 2 = x3 → tr_RCode_get l3_1 x3 → fI (F_1 q0) 26 = x4 → x4.toInt ≠ a2.toInt → x5.toInt = x4.toInt + 1 → (∀ b, b ≠ q0 → x6 b = F_1 b) → x6 q0 = cF (F_1 q0) 26 (.int x5) → fR (x6 x2) 0 = x7 → x8.toInt = (γ 2 x7 : Int) → fI (x6 x7) 2 = x8 → x8.toInt ≤ l4_1.toInt → fR (x6 x2) 1 = x9 → fI (x6 x9) 0 = x10 → x10.toInt = 32 → R F_1 l3_1 l4_1 144 x9 x6) →
  (∀ (F_1 : Nat → va_E) (l3_1 : Int32) (l4_1 : Int32) (x1 : Nat) (x2 : Nat) (x3 : Int32) (x4 : Int32) (x5 : Int32) (x6 : Nat → va_E) (x7 : Nat) (x8 : Int32) (x9 : Nat) (x10 : Int32) (x11 : Nat → va_E) (x12 : Int32) (k : Nat) (e1 : Nat) (e2 : Nat → va_E), gB l3_1 0 39 → gB l4_1 0 1000000 → RS D I P F_1 γ el → rStr γ [] F F_1 → l3_1.toInt < γ 6 (γ 1 q1) → (fI (F_1 q0) 26).toInt ≤ a2.toInt → fR (F_1 q1) 0 = x1 → x2 = el x1 l3_1.toInt.toNat → fI (F_1 x1) 2 = x3 → tr_RCode_get l3_1 x3 → fI (F_1 q0) 26 = x4 → x4.toInt ≠ a2.toInt → x5.toInt = x4.toInt + 1 → (∀ b, b ≠ q0 → x6 b = F_1 b) → x6 q0 = cF (F_1 q0) 26 (.int x5) → fR (x6 x2) 0 = x7 → x8.toInt = (γ 2 x7 : Int) → fI (x6 x7) 2 = x8 → l4_1.toInt < x8.toInt → x9 = el x7 l4_1.toInt.toNat → tr_RArrayList_get l4_1 x8 → gB x10 (-1) 5 → RS D I P x11 γ el → rStr γ [] x6 x11 → (fI (x11 q0) 26).toInt = (fI (x6 q0) 26).toInt → (fI (x11 q0) 32).toInt = (fI (x6 q0) 32).toInt → tr_RModel_step D I γ el x6 q0 x9 x10 x11 → x10.toInt < 0 → x12.toInt = l4_1.toInt + 1 → R x11 l3_1 x12 k e1 e2 → R F_1 l3_1 l4_1 k e1 e2) →
  (∀ (F_1 : Nat → va_E) (l3_1 : Int32) (l4_1 : Int32) (x1 : Nat) (x2 : Nat) (x3 : Int32) (x4 : Int32) (x5 : Int32) (x6 : Nat → va_E) (x7 : Nat) (x8 : Int32) (x9 : Nat) (x10 : Int32) (x11 : Nat → va_E), gB l3_1 0 39 → gB l4_1 0 1000000 → RS D I P F_1 γ el → rStr γ [] F F_1 → l3_1.toInt < γ 6 (γ 1 q1) → (fI (F_1 q0) 26).toInt ≤ a2.toInt → fR (F_1 q1) 0 = x1 → x2 = el x1 l3_1.toInt.toNat → fI (F_1 x1) 2 = x3 → tr_RCode_get l3_1 x3 → fI (F_1 q0) 26 = x4 → x4.toInt ≠ a2.toInt → x5.toInt = x4.toInt + 1 → (∀ b, b ≠ q0 → x6 b = F_1 b) → x6 q0 = cF (F_1 q0) 26 (.int x5) → fR (x6 x2) 0 = x7 → x8.toInt = (γ 2 x7 : Int) → fI (x6 x7) 2 = x8 → l4_1.toInt < x8.toInt → x9 = el x7 l4_1.toInt.toNat → tr_RArrayList_get l4_1 x8 → gB x10 (-1) 5 → RS D I P x11 γ el → rStr γ [] x6 x11 → (fI (x11 q0) 26).toInt = (fI (x6 q0) 26).toInt → (fI (x11 q0) 32).toInt = (fI (x6 q0) 32).toInt → tr_RModel_step D I γ el x6 q0 x9 x10 x11 → 0 ≤ x10.toInt → R F_1 l3_1 l4_1 118 x10 x11) →
  (∀ (F_1 : Nat → va_E) (l3_1 : Int32) (l4_1 : Int32) (x1 : Nat) (x2 : Nat) (x3 : Int32) (x4 : Int32), gB l3_1 0 39 → gB l4_1 0 1000000 → RS D I P F_1 γ el → rStr γ [] F F_1 → l3_1.toInt < γ 6 (γ 1 q1) → (fI (F_1 q0) 26).toInt ≤ a2.toInt → fR (F_1 q1) 0 = x1 → x2 = el x1 l3_1.toInt.toNat → fI (F_1 x1) 2 = x3 → tr_RCode_get l3_1 x3 → fI (F_1 q0) 26 = x4 → x4.toInt = a2.toInt → R F_1 l3_1 l4_1 69 (fun _ => 0 : Nat) F_1) →
  R s1 s2 s3 k e1 e2
/- tl_RModel_run_2: F, l3; out: F -/
def tl_RModel_run_2 (D : va_G) (I : FieldType → ClassId) (γ el : Nat → Nat → Nat) (P : List Nat) (F : Nat → va_E) (q0 : Nat) (s1 : Nat → va_E) (s2 : Int32) (k : Nat) (e1 : Nat → va_E) : Prop := ∀ R : (Nat → va_E) → (Int32) → Nat → (Nat → va_E) → Prop,
  (∀ (F_1 : Nat → va_E) (l3_1 : Int32), gB l3_1 0 2000 → RS D I P F_1 γ el → rStr γ [] F F_1 → 2000 ≤ l3_1.toInt → R F_1 l3_1 29 F_1) →
  (∀ (F_1 : Nat → va_E) (l3_1 : Int32) (x1 : Nat → Int32) (x2 : Nat → Int32) (x3 : Nat → va_E) (x4 : Nat → Int32) (x5 : Nat → Int32) (x6 : Nat → va_E) (x7 : Int32) (k : Nat) (e1 : Nat → va_E), gB l3_1 0 2000 → RS D I P F_1 γ el → rStr γ [] F F_1 → l3_1.toInt < 2000 → fR (F_1 q0) 20 = (γ 9 20) → F_1 (γ 9 20) = .inl (I .int, 2000, .inl x1) → x2 = upd x1 l3_1.toNatClampNeg 0 → (∀ b, b ≠ (γ 9 20) → x3 b = F_1 b) → x3 (γ 9 20) = .inl (I .int, 2000, .inl x2) → fR (x3 q0) 21 = (γ 9 21) → x3 (γ 9 21) = .inl (I .int, 2000, .inl x4) → x5 = upd x4 l3_1.toNatClampNeg 0 → (∀ b, b ≠ (γ 9 21) → x6 b = x3 b) → x6 (γ 9 21) = .inl (I .int, 2000, .inl x5) → x7.toInt = l3_1.toInt + 1 → R x6 x7 k e1 → R F_1 l3_1 k e1) →
  R s1 s2 k e1
/- tr_RModel_run: result, F -/
def tr_RModel_run (D : va_G) (I : FieldType → ClassId) (γ el : Nat → Nat → Nat) (P : List Nat) (F : Nat → va_E) (q0 : Nat) (q1 : Nat) (a2 : Int32) (o1 : Int32) (o2 : Nat → va_E) : Prop := ∀ R : (Int32) → (Nat → va_E) → Prop,
  (∀ (x1 : Nat → va_E) (x2 : Nat → va_E) (x3 : Nat → va_E) (x4 : Nat → va_E) (x5 : Nat → va_E) (x6 : Nat) (x7 : Nat → va_E) (x8 : Int32) (x9 : Int32) (x10 : Int32) (x11 : Nat → va_E), tl_RModel_run_2 D I γ el P F q0 F (0 : Int32) 29 x1 → (∀ b, b ≠ q0 → x2 b = x1 b) → x2 q0 = cF (x1 q0) 24 (.int 0) → (∀ b, b ≠ q0 → x3 b = x2 b) → x3 q0 = cF (x2 q0) 25 (.int 0) → (∀ b, b ≠ q0 → x4 b = x3 b) → x4 q0 = cF (x3 q0) 26 (.int 0) → (∀ b, b ≠ q0 → x5 b = x4 b) → x5 q0 = cF (x4 q0) 27 (.int 0) → tl_RModel_run_54 D I γ el P F q1 q0 a2 x5 (0 : Int32) (0 : Int32) 144 x6 x7 → fI (x7 x6) 5 = x8 → fI (x7 x6) 2 = x9 → tr_RModel_value D I γ el x7 q0 x8 x9 x10 → (∀ b, b ≠ q0 → x11 b = x7 b) → x11 q0 = cF (x7 q0) 24 (.int x10) → R (0 : Int32) x11) →
  (∀ (x1 : Nat → va_E) (x2 : Nat → va_E) (x3 : Nat → va_E) (x4 : Nat → va_E) (x5 : Nat → va_E) (x6 : Int32) (x7 : Nat → va_E), tl_RModel_run_2 D I γ el P F q0 F (0 : Int32) 29 x1 → (∀ b, b ≠ q0 → x2 b = x1 b) → x2 q0 = cF (x1 q0) 24 (.int 0) → (∀ b, b ≠ q0 → x3 b = x2 b) → x3 q0 = cF (x2 q0) 25 (.int 0) → (∀ b, b ≠ q0 → x4 b = x3 b) → x4 q0 = cF (x3 q0) 26 (.int 0) → (∀ b, b ≠ q0 → x5 b = x4 b) → x5 q0 = cF (x4 q0) 27 (.int 0) → tl_RModel_run_54 D I γ el P F q1 q0 a2 x5 (0 : Int32) (0 : Int32) 118 x6 x7 → R x6 x7) →
  (∀ (x1 : Nat → va_E) (x2 : Nat → va_E) (x3 : Nat → va_E) (x4 : Nat → va_E) (x5 : Nat → va_E) (x6 : Nat → va_E), tl_RModel_run_2 D I γ el P F q0 F (0 : Int32) 29 x1 → (∀ b, b ≠ q0 → x2 b = x1 b) → x2 q0 = cF (x1 q0) 24 (.int 0) → (∀ b, b ≠ q0 → x3 b = x2 b) → x3 q0 = cF (x2 q0) 25 (.int 0) → (∀ b, b ≠ q0 → x4 b = x3 b) → x4 q0 = cF (x3 q0) 26 (.int 0) → (∀ b, b ≠ q0 → x5 b = x4 b) → x5 q0 = cF (x4 q0) 27 (.int 0) → (tl_RModel_run_54 D I γ el P F q1 q0 a2 x5 (0 : Int32) (0 : Int32) 69 (fun _ => 0 : Nat) x6) → R (4 : Int32) x6) →
  R o1 o2
