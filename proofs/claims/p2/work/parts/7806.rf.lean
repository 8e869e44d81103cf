theorem dr_cX17_shown_0 : decode cX17_shown 0 = .ok (.aload_n 0, 1) := by decide +kernel
theorem dr_cX17_shown_1 : decode cX17_shown 1 = .ok (.iconst 0, 1) := by decide +kernel
theorem dr_cX17_shown_2 : decode cX17_shown 2 = .ok (.putfield 380, 3) := by decide +kernel
theorem dr_cX17_shown_5 : decode cX17_shown 5 = .ok (.iload_n 1, 1) := by decide +kernel
theorem dr_cX17_shown_6 : decode cX17_shown 6 = .ok (.ifCond .lt 20, 3) := by decide +kernel
theorem dr_cX17_shown_26 : decode cX17_shown 26 = .ok (.aload_n 0, 1) := by decide +kernel
theorem dr_cX17_shown_27 : decode cX17_shown 27 = .ok (.iconst 1, 1) := by decide +kernel
theorem dr_cX17_shown_28 : decode cX17_shown 28 = .ok (.invokevirtual 385, 3) := by decide +kernel
theorem dr_cX17_shown_31 : decode cX17_shown 31 = .ok (.ireturn, 1) := by decide +kernel
theorem dr_cX17_shown_9 : decode cX17_shown 9 = .ok (.iload_n 1, 1) := by decide +kernel
theorem dr_cX17_shown_10 : decode cX17_shown 10 = .ok (.aload_n 0, 1) := by decide +kernel
theorem dr_cX17_shown_11 : decode cX17_shown 11 = .ok (.getfield 280, 3) := by decide +kernel
theorem dr_cX17_shown_14 : decode cX17_shown 14 = .ok (.if_icmp .ge 12, 3) := by decide +kernel
theorem dr_cX17_shown_17 : decode cX17_shown 17 = .ok (.aload_n 0, 1) := by decide +kernel
theorem dr_cX17_shown_18 : decode cX17_shown 18 = .ok (.getfield 306, 3) := by decide +kernel
theorem dr_cX17_shown_21 : decode cX17_shown 21 = .ok (.iload_n 1, 1) := by decide +kernel
theorem dr_cX17_shown_22 : decode cX17_shown 22 = .ok (.iaload, 1) := by decide +kernel
theorem dr_cX17_shown_23 : decode cX17_shown 23 = .ok (.goto 8, 3) := by decide +kernel
theorem dr_cX17_thrown_0 : decode cX17_thrown 0 = .ok (.aload_n 0, 1) := by decide +kernel
theorem dr_cX17_thrown_1 : decode cX17_thrown 1 = .ok (.getfield 380, 3) := by decide +kernel
theorem dr_cX17_thrown_4 : decode cX17_thrown 4 = .ok (.ireturn, 1) := by decide +kernel
theorem dr_cX17_word_0 : decode cX17_word 0 = .ok (.iconst 0, 1) := by decide +kernel
theorem dr_cX17_word_1 : decode cX17_word 1 = .ok (.istore_n 3, 1) := by decide +kernel
theorem dr_cX17_word_2 : decode cX17_word 2 = .ok (.iload_n 3, 1) := by decide +kernel
theorem dr_cX17_word_3 : decode cX17_word 3 = .ok (.iconst 4, 1) := by decide +kernel
theorem dr_cX17_word_4 : decode cX17_word 4 = .ok (.if_icmp .ge 27, 3) := by decide +kernel
theorem dr_cX17_word_31 : decode cX17_word 31 = .ok (.return_, 1) := by decide +kernel
theorem dr_cX17_word_7 : decode cX17_word 7 = .ok (.aload_n 0, 1) := by decide +kernel
theorem dr_cX17_word_8 : decode cX17_word 8 = .ok (.getfield 374, 3) := by decide +kernel
theorem wr_7_105 : (Jvm.Cond.fieldLink "SpillForgeModel" (374 : Nat) "SpillForgeModel" "tape" "[B") ∈ gw := gw_7 105 rfl rfl
theorem dr_cX17_word_11 : decode cX17_word 11 = .ok (.iload_n 2, 1) := by decide +kernel
theorem dr_cX17_word_12 : decode cX17_word 12 = .ok (.iload_n 3, 1) := by decide +kernel
theorem dr_cX17_word_13 : decode cX17_word 13 = .ok (.iadd, 1) := by decide +kernel
theorem dr_cX17_word_14 : decode cX17_word 14 = .ok (.iload_n 1, 1) := by decide +kernel
theorem dr_cX17_word_15 : decode cX17_word 15 = .ok (.bipush 24, 2) := by decide +kernel
theorem dr_cX17_word_17 : decode cX17_word 17 = .ok (.bipush 8, 2) := by decide +kernel
theorem dr_cX17_word_19 : decode cX17_word 19 = .ok (.iload_n 3, 1) := by decide +kernel
theorem dr_cX17_word_20 : decode cX17_word 20 = .ok (.imul, 1) := by decide +kernel
theorem dr_cX17_word_21 : decode cX17_word 21 = .ok (.isub, 1) := by decide +kernel
theorem dr_cX17_word_22 : decode cX17_word 22 = .ok (.ishr, 1) := by decide +kernel
theorem dr_cX17_word_23 : decode cX17_word 23 = .ok (.i2b, 1) := by decide +kernel
theorem dr_cX17_word_24 : decode cX17_word 24 = .ok (.bastore, 1) := by decide +kernel
theorem dr_cX17_word_25 : decode cX17_word 25 = .ok (.iinc 3 1, 3) := by decide +kernel
theorem dr_cX17_word_28 : decode cX17_word 28 = .ok (.goto (-26), 3) := by decide +kernel
theorem dr_cX17_feed_0 : decode cX17_feed 0 = .ok (.aload_n 0, 1) := by decide +kernel
theorem dr_cX17_feed_1 : decode cX17_feed 1 = .ok (.iconst 0, 1) := by decide +kernel
theorem dr_cX17_feed_2 : decode cX17_feed 2 = .ok (.putfield 380, 3) := by decide +kernel
theorem dr_cX17_feed_5 : decode cX17_feed 5 = .ok (.aload_n 0, 1) := by decide +kernel
theorem dr_cX17_feed_6 : decode cX17_feed 6 = .ok (.getfield 383, 3) := by decide +kernel
theorem wr_7_106 : (Jvm.Cond.fieldLink "SpillForgeModel" (383 : Nat) "SpillForgeModel" "size" "I") ∈ gw := gw_7 106 rfl rfl
theorem dr_cX17_feed_9 : decode cX17_feed 9 = .ok (.bipush 20, 2) := by decide +kernel
theorem dr_cX17_feed_11 : decode cX17_feed 11 = .ok (.iadd, 1) := by decide +kernel
theorem dr_cX17_feed_12 : decode cX17_feed 12 = .ok (.sipush 8192, 3) := by decide +kernel
theorem dr_cX17_feed_15 : decode cX17_feed 15 = .ok (.if_icmp .le 9, 3) := by decide +kernel
theorem dr_cX17_feed_24 : decode cX17_feed 24 = .ok (.aload_n 0, 1) := by decide +kernel
theorem dr_cX17_feed_25 : decode cX17_feed 25 = .ok (.iload_n 1, 1) := by decide +kernel
theorem dr_cX17_feed_26 : decode cX17_feed 26 = .ok (.aload_n 0, 1) := by decide +kernel
theorem dr_cX17_feed_27 : decode cX17_feed 27 = .ok (.getfield 383, 3) := by decide +kernel
theorem dr_cX17_feed_30 : decode cX17_feed 30 = .ok (.invokevirtual 388, 3) := by decide +kernel
theorem wr_7_195 : (Jvm.Cond.methodLink "SpillForgeModel" (388 : Nat) ({ cls := "SpillForgeModel", name := "word", desc := "(II)V" } : Jvm.MethodName)) ∈ gw := gw_7 195 rfl rfl
theorem wr_7_198 : (Jvm.Cond.code ({ cls := "SpillForgeModel", name := "word", desc := "(II)V" } : Jvm.MethodName) prog_14_method_39_code (4 : Nat) (Option.none : Option Jvm.ClassFile.FieldType)) ∈ gw := gw_7 198 rfl rfl
theorem wr_7_197 : (Jvm.Cond.instanceMethod ({ cls := "SpillForgeModel", name := "word", desc := "(II)V" } : Jvm.MethodName)) ∈ gw := gw_7 197 rfl rfl
theorem wr_p_74 : Cond.selects "SpillForgeModel" ⟨"SpillForgeModel", "word", "(II)V"⟩ ⟨"SpillForgeModel", "word", "(II)V"⟩ ∈ gw := gw_p _ 74 rfl rfl rfl
theorem dr_cX17_feed_33 : decode cX17_feed 33 = .ok (.aload_n 0, 1) := by decide +kernel
theorem dr_cX17_feed_34 : decode cX17_feed 34 = .ok (.iload_n 2, 1) := by decide +kernel
theorem dr_cX17_feed_35 : decode cX17_feed 35 = .ok (.aload_n 0, 1) := by decide +kernel
theorem dr_cX17_feed_36 : decode cX17_feed 36 = .ok (.getfield 383, 3) := by decide +kernel
theorem dr_cX17_feed_39 : decode cX17_feed 39 = .ok (.iconst 4, 1) := by decide +kernel
theorem dr_cX17_feed_40 : decode cX17_feed 40 = .ok (.iadd, 1) := by decide +kernel
theorem dr_cX17_feed_41 : decode cX17_feed 41 = .ok (.invokevirtual 388, 3) := by decide +kernel
theorem dr_cX17_feed_44 : decode cX17_feed 44 = .ok (.aload_n 0, 1) := by decide +kernel
theorem dr_cX17_feed_45 : decode cX17_feed 45 = .ok (.iload_n 3, 1) := by decide +kernel
theorem dr_cX17_feed_46 : decode cX17_feed 46 = .ok (.aload_n 0, 1) := by decide +kernel
theorem dr_cX17_feed_47 : decode cX17_feed 47 = .ok (.getfield 383, 3) := by decide +kernel
theorem dr_cX17_feed_50 : decode cX17_feed 50 = .ok (.bipush 8, 2) := by decide +kernel
theorem dr_cX17_feed_52 : decode cX17_feed 52 = .ok (.iadd, 1) := by decide +kernel
theorem dr_cX17_feed_53 : decode cX17_feed 53 = .ok (.invokevirtual 388, 3) := by decide +kernel
theorem dr_cX17_feed_56 : decode cX17_feed 56 = .ok (.aload_n 0, 1) := by decide +kernel
theorem dr_cX17_feed_57 : decode cX17_feed 57 = .ok (.iload 4, 2) := by decide +kernel
theorem dr_cX17_feed_59 : decode cX17_feed 59 = .ok (.aload_n 0, 1) := by decide +kernel
theorem dr_cX17_feed_60 : decode cX17_feed 60 = .ok (.getfield 383, 3) := by decide +kernel
theorem dr_cX17_feed_63 : decode cX17_feed 63 = .ok (.bipush 12, 2) := by decide +kernel
theorem dr_cX17_feed_65 : decode cX17_feed 65 = .ok (.iadd, 1) := by decide +kernel
theorem dr_cX17_feed_66 : decode cX17_feed 66 = .ok (.invokevirtual 388, 3) := by decide +kernel
theorem dr_cX17_feed_69 : decode cX17_feed 69 = .ok (.aload_n 0, 1) := by decide +kernel
theorem dr_cX17_feed_70 : decode cX17_feed 70 = .ok (.iload 5, 2) := by decide +kernel
theorem dr_cX17_feed_72 : decode cX17_feed 72 = .ok (.aload_n 0, 1) := by decide +kernel
theorem dr_cX17_feed_73 : decode cX17_feed 73 = .ok (.getfield 383, 3) := by decide +kernel
theorem dr_cX17_feed_76 : decode cX17_feed 76 = .ok (.bipush 16, 2) := by decide +kernel
theorem dr_cX17_feed_78 : decode cX17_feed 78 = .ok (.iadd, 1) := by decide +kernel
theorem dr_cX17_feed_79 : decode cX17_feed 79 = .ok (.invokevirtual 388, 3) := by decide +kernel
theorem dr_cX17_feed_82 : decode cX17_feed 82 = .ok (.aload_n 0, 1) := by decide +kernel
theorem dr_cX17_feed_83 : decode cX17_feed 83 = .ok (.dup, 1) := by decide +kernel
theorem dr_cX17_feed_84 : decode cX17_feed 84 = .ok (.getfield 383, 3) := by decide +kernel
theorem dr_cX17_feed_87 : decode cX17_feed 87 = .ok (.bipush 20, 2) := by decide +kernel
theorem dr_cX17_feed_89 : decode cX17_feed 89 = .ok (.iadd, 1) := by decide +kernel
theorem dr_cX17_feed_90 : decode cX17_feed 90 = .ok (.putfield 383, 3) := by decide +kernel
theorem dr_cX17_feed_93 : decode cX17_feed 93 = .ok (.aload_n 0, 1) := by decide +kernel
theorem dr_cX17_feed_94 : decode cX17_feed 94 = .ok (.getfield 383, 3) := by decide +kernel
theorem dr_cX17_feed_97 : decode cX17_feed 97 = .ok (.ireturn, 1) := by decide +kernel
theorem dr_cX17_feed_18 : decode cX17_feed 18 = .ok (.aload_n 0, 1) := by decide +kernel
theorem dr_cX17_feed_19 : decode cX17_feed 19 = .ok (.iconst 1, 1) := by decide +kernel
theorem dr_cX17_feed_20 : decode cX17_feed 20 = .ok (.invokevirtual 385, 3) := by decide +kernel
theorem dr_cX17_feed_23 : decode cX17_feed 23 = .ok (.ireturn, 1) := by decide +kernel
theorem dr_cX17_end_0 : decode cX17_end 0 = .ok (.aload_n 0, 1) := by decide +kernel
theorem dr_cX17_end_1 : decode cX17_end 1 = .ok (.iconst 0, 1) := by decide +kernel
theorem dr_cX17_end_2 : decode cX17_end 2 = .ok (.putfield 380, 3) := by decide +kernel
theorem dr_cX17_end_5 : decode cX17_end 5 = .ok (.iload_n 1, 1) := by decide +kernel
theorem dr_cX17_end_6 : decode cX17_end 6 = .ok (.ifCond .lt 11, 3) := by decide +kernel
theorem dr_cX17_end_17 : decode cX17_end 17 = .ok (.aload_n 0, 1) := by decide +kernel
theorem dr_cX17_end_18 : decode cX17_end 18 = .ok (.iconst 1, 1) := by decide +kernel
theorem dr_cX17_end_19 : decode cX17_end 19 = .ok (.invokevirtual 385, 3) := by decide +kernel
theorem dr_cX17_end_22 : decode cX17_end 22 = .ok (.ireturn, 1) := by decide +kernel
theorem dr_cX17_end_9 : decode cX17_end 9 = .ok (.iload_n 1, 1) := by decide +kernel
theorem dr_cX17_end_10 : decode cX17_end 10 = .ok (.aload_n 0, 1) := by decide +kernel
theorem dr_cX17_end_11 : decode cX17_end 11 = .ok (.getfield 383, 3) := by decide +kernel
theorem dr_cX17_end_14 : decode cX17_end 14 = .ok (.if_icmp .le 9, 3) := by decide +kernel
theorem dr_cX17_end_23 : decode cX17_end 23 = .ok (.aload_n 0, 1) := by decide +kernel
theorem dr_cX17_end_24 : decode cX17_end 24 = .ok (.iload_n 1, 1) := by decide +kernel
theorem dr_cX17_end_25 : decode cX17_end 25 = .ok (.putfield 383, 3) := by decide +kernel
theorem dr_cX17_end_28 : decode cX17_end 28 = .ok (.iload_n 1, 1) := by decide +kernel
theorem dr_cX17_end_29 : decode cX17_end 29 = .ok (.ireturn, 1) := by decide +kernel
abbrev ky_159858_SpillForgeModel_shown : gKey := (cX17_shown, 2, "SpillForgeModel", (some FieldType.int), [], "shown", fun _ _ => True)
def pt_159858_SpillForgeModel_shown (D : va_G) (I : FieldType → ClassId) (γ el : Nat → Nat → Nat) (P159854 : List Nat) (F159855 : Nat → va_E) (q159856 : Nat) (p159857 : Int32) : Option Value → va_W → Nat → Nat → Prop := fun r w dc ds => ∃ (F160049 : Nat → va_E) (o160048 : Int32), r = some (.int o160048) ∧ w = va_pl P159854 F160049 ∧ RS D I P159854 F160049 γ el ∧ rStr γ [] F159855 F160049 ∧ dc ≤ 0 ∧ ds ≤ 0 ∧ (fI (F160049 q159856) 32).toInt = (fI (F159855 q159856) 32).toInt
set_option maxRecDepth 100000 in
set_option maxHeartbeats 4000000 in
theorem ct_159858_SpillForgeModel_shown (l : Launch) (hl0 : l.stackTraces = false) (D : va_G) (I : FieldType → ClassId) (γ el : Nat → Nat → Nat) (P159854 : List Nat) (F159855 : Nat → va_E) (q159856 : Nat) (p159857 : Int32) (hT : RS D I P159854 F159855 γ el) (htq159856 : rKd γ q159856 10) : CtA (gV D I) l yX17_shown cX17_shown 2 (some FieldType.int) 1 21 0 0 [.ref q159856, .int p159857] (va_pl P159854 F159855) (pt_159858_SpillForgeModel_shown D I γ el P159854 F159855 q159856 p159857) gNA := by
  refine CtA_of hl0 (by decide) (Nat.le_of_ble_eq_true rfl) ?_
  have bp159857 := gB_any p159857
  have hm159859 : q159856 ∈ P159854 := RS_m hT htq159856 (by decide)
  obtain ⟨q159861, q159862, p159863, p159864, p159865, p159866, p159867, p159868, p159869, p159870, p159871, p159872, p159873, p159874, p159875, p159876, p159877, he159860, hB159904, ht159878, ht159879, ht159880, ht159881, ht159882, ht159883, ht159884, ht159885, ht159886, ht159887, ht159888, ht159889, ht159890, ht159891, ht159892, ht159893, ht159894, ht159895, ht159896, ht159897, ht159898, ht159899, ht159900, ht159901, hB159905⟩ := show rk_10 γ (F159855 q159856) from RS_o hT htq159856
  have ac159906 : (fI (F159855 q159856) 32).toInt = p159875.toInt := by rw [he159860]; rfl
  have bp159875 : gB p159875 0 8192 := (hB159904.2.2.2.2.2.2.2.1)
  refine G_aload_n 0 dr_cX17_shown_0 rfl ?_
  refine G_iconst 0 dr_cX17_shown_1 (by decide +kernel) ?_
  refine Gp_put 30 hm159859 he159860 dr_cX17_shown_2 (gk_X17 D I) (Nat.le_of_ble_eq_true rfl) wr_7_104 rfl rfl rfl (Nat.le_of_ble_eq_true rfl) (fun F159907 e159908 n159909 => ?_)
  have he159910 : F159907 q159856 = .inr (22, [.ref (γ 9 0), .ref (γ 9 1), .ref (γ 9 2), .ref (γ 9 3), .ref (γ 9 4), .ref (γ 9 5), .ref (γ 9 6), .ref (γ 9 7), .ref (γ 9 8), .int p159863, .int p159864, .int p159865, .int p159866, .int p159867, .int p159868, .ref (γ 9 15), .ref (γ 9 16), .ref (γ 9 17), .ref (γ 9 18), .ref (γ 9 19), .ref (γ 9 20), .ref (γ 9 21), .ref (γ 9 22), .int p159869, .int p159870, .int p159871, .int p159872, .int p159873, .ref q159861, .ref (γ 9 29), .int 0, .ref (γ 9 31), .int p159875, .int p159876, .int p159877, .ref q159862]) := e159908
  have hs159911 : rStr γ [] F159855 F159907 := rStr_put (rStr_rf (γ := γ) (W := []) (F := F159855)) n159909 htq159856 (by decide)
  refine G_iload_n 1 dr_cX17_shown_5 rfl ?_
  refine G_if_lt 26 dr_cX17_shown_6 (by decide +kernel) (fun hc159912 => ?_) (fun hc159912 => ?_)
  · have r159913 : p159857.toInt < 0 := gj_lt hc159912 (show Int32.toInt 0 = 0 by decide)
    have bp159857' : gB p159857 (-2147483648) (-1) := ⟨by omega, by omega⟩
    refine G_aload_n 0 dr_cX17_shown_26 rfl ?_
    refine G_iconst 1 dr_cX17_shown_27 (by decide +kernel) ?_
    have hT159914 : RS D I P159854 F159907 γ el := RS_set hT n159909 htq159856 (by decide) ⟨q159861, q159862, p159863, p159864, p159865, p159866, p159867, p159868, p159869, p159870, p159871, p159872, p159873, 0, p159875, p159876, p159877, he159910, ⟨(hB159904.1), (hB159904.2.1), (hB159904.2.2.1), (hB159904.2.2.2.1), (hB159904.2.2.2.2.1), (hB159904.2.2.2.2.2.1), (hB159904.2.2.2.2.2.2.1), bp159875, (hB159904.2.2.2.2.2.2.2.2)⟩, ht159878, ht159879, ht159880, ht159881, ht159882, ht159883, ht159884, ht159885, ht159886, ht159887, ht159888, ht159889, ht159890, ht159891, ht159892, ht159893, ht159894, ht159895, ht159896, ht159897, ht159898, ht159899, ht159900, ht159901, hB159905⟩
    have ac159915 : (fI (F159907 q159856) 32).toInt = p159875.toInt := by rw [he159910]; rfl
    refine Gw_callV (As := [.int 1]) (gV_ok D I) (ct_159736_SpillForgeModel_no l hl0 D I γ el P159854 F159907 q159856 1 hT159914 htq159856) dr_cX17_shown_28 ⟨wr_7_191, wr_1_14, wr_7_194, by decide, rfl, (Nat.le_of_ble_eq_true rfl), (Nat.le_of_ble_eq_true rfl)⟩ wr_7_193 wr_p_73 hm159859 he159910 rfl (show 0 + 0 ≤ 0 by first | omega | decide) (show 0 + 0 ≤ 0 by first | omega | decide) (Nat.le_of_ble_eq_true rfl) (fun r159919 w159920 dc159916 ds159917 hp159918 => ?_) (fun _ _ _ _ _ z => z.elim)
    obtain ⟨F159923, rfl, rfl, hT159924, hs159925, hdc, hds, x159921, x159922⟩ := hp159918
    have hs159926 : rStr γ [] F159855 F159923 := rStr_tr hs159911 hs159925
    rw [show Int32.toInt 1 = 1 from by decide] at x159922
    change G _ _ _ _ _ _ _ (.int 0 :: _) _ _ _
    refine G_widen (cs' := 0) (sl' := 0) (by omega) (by omega) ?_
    have hm159927 : q159856 ∈ P159854 := RS_m hT159924 htq159856 (by decide)
    obtain ⟨q159929, q159930, p159931, p159932, p159933, p159934, p159935, p159936, p159937, p159938, p159939, p159940, p159941, p159942, p159943, p159944, p159945, he159928, hB159972, ht159946, ht159947, ht159948, ht159949, ht159950, ht159951, ht159952, ht159953, ht159954, ht159955, ht159956, ht159957, ht159958, ht159959, ht159960, ht159961, ht159962, ht159963, ht159964, ht159965, ht159966, ht159967, ht159968, ht159969, hB159973⟩ := show rk_10 γ (F159923 q159856) from RS_o hT159924 htq159856
    have ac159974 : (fI (F159923 q159856) 32).toInt = p159943.toInt := by rw [he159928]; rfl
    have bp159943 : gB p159943 0 8192 := (hB159972.2.2.2.2.2.2.2.1)
    have ac159975 : (fI (F159923 q159856) 32).toInt = p159943.toInt := by rw [he159928]; rfl
    exact G_iretA dr_cX17_shown_31 rfl (Nat.le_of_ble_eq_true rfl) (Nat.le_of_ble_eq_true rfl) ⟨F159923, 0, rfl, rfl, hT159924, hs159926, (Nat.le_of_ble_eq_true rfl), (Nat.le_of_ble_eq_true rfl), (by have qa0 : Int32.toInt 0 = 0 := (by decide); omega)⟩
  · have r159976 : 0 ≤ p159857.toInt := gj_nlt hc159912 (show Int32.toInt 0 = 0 by decide)
    have bp159857' : gB p159857 0 2147483647 := ⟨by omega, by omega⟩
    refine G_iload_n 1 dr_cX17_shown_9 rfl ?_
    refine G_aload_n 0 dr_cX17_shown_10 rfl ?_
    refine Gp_get 25 hm159859 he159910 dr_cX17_shown_11 (gk_X17 D I) (Nat.le_of_ble_eq_true rfl) wr_7_99 rfl ?_
    have bp159871 : gB p159871 0 512 := (hB159904.2.2.2.2.1)
    refine G_icmp_ge 26 dr_cX17_shown_14 (by decide +kernel) (fun hc159977 => ?_) (fun hc159977 => ?_)
    · have r159978 : p159871.toInt ≤ p159857.toInt := gC_le hc159977
      refine G_aload_n 0 dr_cX17_shown_26 rfl ?_
      refine G_iconst 1 dr_cX17_shown_27 (by decide +kernel) ?_
      have hT159979 : RS D I P159854 F159907 γ el := RS_set hT n159909 htq159856 (by decide) ⟨q159861, q159862, p159863, p159864, p159865, p159866, p159867, p159868, p159869, p159870, p159871, p159872, p159873, 0, p159875, p159876, p159877, he159910, ⟨(hB159904.1), (hB159904.2.1), (hB159904.2.2.1), (hB159904.2.2.2.1), bp159871, (hB159904.2.2.2.2.2.1), (hB159904.2.2.2.2.2.2.1), bp159875, (hB159904.2.2.2.2.2.2.2.2)⟩, ht159878, ht159879, ht159880, ht159881, ht159882, ht159883, ht159884, ht159885, ht159886, ht159887, ht159888, ht159889, ht159890, ht159891, ht159892, ht159893, ht159894, ht159895, ht159896, ht159897, ht159898, ht159899, ht159900, ht159901, hB159905⟩
      have ac159980 : (fI (F159907 q159856) 32).toInt = p159875.toInt := by rw [he159910]; rfl
      refine Gw_callV (As := [.int 1]) (gV_ok D I) (ct_159736_SpillForgeModel_no l hl0 D I γ el P159854 F159907 q159856 1 hT159979 htq159856) dr_cX17_shown_28 ⟨wr_7_191, wr_1_14, wr_7_194, by decide, rfl, (Nat.le_of_ble_eq_true rfl), (Nat.le_of_ble_eq_true rfl)⟩ wr_7_193 wr_p_73 hm159859 he159910 rfl (show 0 + 0 ≤ 0 by first | omega | decide) (show 0 + 0 ≤ 0 by first | omega | decide) (Nat.le_of_ble_eq_true rfl) (fun r159984 w159985 dc159981 ds159982 hp159983 => ?_) (fun _ _ _ _ _ z => z.elim)
      obtain ⟨F159988, rfl, rfl, hT159989, hs159990, hdc, hds, x159986, x159987⟩ := hp159983
      have hs159991 : rStr γ [] F159855 F159988 := rStr_tr hs159911 hs159990
      rw [show Int32.toInt 1 = 1 from by decide] at x159987
      change G _ _ _ _ _ _ _ (.int 0 :: _) _ _ _
      refine G_widen (cs' := 0) (sl' := 0) (by omega) (by omega) ?_
      have hm159992 : q159856 ∈ P159854 := RS_m hT159989 htq159856 (by decide)
      obtain ⟨q159994, q159995, p159996, p159997, p159998, p159999, p160000, p160001, p160002, p160003, p160004, p160005, p160006, p160007, p160008, p160009, p160010, he159993, hB160037, ht160011, ht160012, ht160013, ht160014, ht160015, ht160016, ht160017, ht160018, ht160019, ht160020, ht160021, ht160022, ht160023, ht160024, ht160025, ht160026, ht160027, ht160028, ht160029, ht160030, ht160031, ht160032, ht160033, ht160034, hB160038⟩ := show rk_10 γ (F159988 q159856) from RS_o hT159989 htq159856
      have ac160039 : (fI (F159988 q159856) 32).toInt = p160008.toInt := by rw [he159993]; rfl
      have bp160008 : gB p160008 0 8192 := (hB160037.2.2.2.2.2.2.2.1)
      have ac160040 : (fI (F159988 q159856) 32).toInt = p160008.toInt := by rw [he159993]; rfl
      exact G_iretA dr_cX17_shown_31 rfl (Nat.le_of_ble_eq_true rfl) (Nat.le_of_ble_eq_true rfl) ⟨F159988, 0, rfl, rfl, hT159989, hs159991, (Nat.le_of_ble_eq_true rfl), (Nat.le_of_ble_eq_true rfl), (by have qa0 : Int32.toInt 0 = 0 := (by decide); omega)⟩
    · have r160041 : p159857.toInt < p159871.toInt := gC_nle hc159977
      have bp159857'' : gB p159857 0 511 := ⟨by omega, by omega⟩
      have bp159871' : gB p159871 1 512 := ⟨by omega, by omega⟩
      refine G_aload_n 0 dr_cX17_shown_17 rfl ?_
      refine Gp_get 22 hm159859 he159910 dr_cX17_shown_18 (gk_X17 D I) (Nat.le_of_ble_eq_true rfl) wr_7_96 rfl ?_
      refine G_iload_n 1 dr_cX17_shown_21 rfl ?_
      have hT160042 : RS D I P159854 F159907 γ el := RS_set hT n159909 htq159856 (by decide) ⟨q159861, q159862, p159863, p159864, p159865, p159866, p159867, p159868, p159869, p159870, p159871, p159872, p159873, 0, p159875, p159876, p159877, he159910, ⟨(hB159904.1), (hB159904.2.1), (hB159904.2.2.1), (hB159904.2.2.2.1), (gB_w bp159871' (by decide) (by decide)), (hB159904.2.2.2.2.2.1), (hB159904.2.2.2.2.2.2.1), bp159875, (hB159904.2.2.2.2.2.2.2.2)⟩, ht159878, ht159879, ht159880, ht159881, ht159882, ht159883, ht159884, ht159885, ht159886, ht159887, ht159888, ht159889, ht159890, ht159891, ht159892, ht159893, ht159894, ht159895, ht159896, ht159897, ht159898, ht159899, ht159900, ht159901, hB159905⟩
      have hm160043 : (γ 9 22) ∈ P159854 := RS_m hT160042 ht159896 (by decide)
      obtain ⟨f160045, he160044⟩ := show rk_24 I (F159907 (γ 9 22)) from RS_o hT160042 ht159896
      refine Gp_iald 0 hm160043 he160044 dr_cX17_shown_22 rfl (gB_in bp159857'' (by decide) (by decide)) (G_nam fun z160046 hz160046 => ?_)
      have bz160046 : gB z160046 (-2147483648) 2147483647 := gB_any z160046
      refine G_goto 31 dr_cX17_shown_23 (by decide +kernel) ?_
      have ac160047 : (fI (F159907 q159856) 32).toInt = p159875.toInt := by rw [he159910]; rfl
      exact G_iretA dr_cX17_shown_31 rfl (Nat.le_of_ble_eq_true rfl) (Nat.le_of_ble_eq_true rfl) ⟨F159907, z160046, rfl, rfl, hT160042, hs159911, (Nat.le_of_ble_eq_true rfl), (Nat.le_of_ble_eq_true rfl), (by omega)⟩
abbrev ky_160053_SpillForgeModel_thrown : gKey := (cX17_thrown, 1, "SpillForgeModel", (some FieldType.int), [], "thrown", fun _ _ => True)
def pt_160053_SpillForgeModel_thrown (D : va_G) (I : FieldType → ClassId) (γ el : Nat → Nat → Nat) (P160050 : List Nat) (F160051 : Nat → va_E) (q160052 : Nat) : Option Value → va_W → Nat → Nat → Prop := fun r w dc ds => ∃ (o160101 : Int32), r = some (.int o160101) ∧ w = va_pl P160050 F160051 ∧ dc ≤ 0 ∧ ds ≤ 0
set_option maxRecDepth 100000 in
set_option maxHeartbeats 4000000 in
theorem ct_160053_SpillForgeModel_thrown (l : Launch) (hl0 : l.stackTraces = false) (D : va_G) (I : FieldType → ClassId) (γ el : Nat → Nat → Nat) (P160050 : List Nat) (F160051 : Nat → va_E) (q160052 : Nat) (hT : RS D I P160050 F160051 γ el) (htq160052 : rKd γ q160052 10) : CtA (gV D I) l yX17_thrown cX17_thrown 1 (some FieldType.int) 0 0 0 0 [.ref q160052] (va_pl P160050 F160051) (pt_160053_SpillForgeModel_thrown D I γ el P160050 F160051 q160052) gNA := by
  refine CtA_of hl0 (by decide) (Nat.le_of_ble_eq_true rfl) ?_
  refine G_aload_n 0 dr_cX17_thrown_0 rfl ?_
  have hm160054 : q160052 ∈ P160050 := RS_m hT htq160052 (by decide)
  obtain ⟨q160056, q160057, p160058, p160059, p160060, p160061, p160062, p160063, p160064, p160065, p160066, p160067, p160068, p160069, p160070, p160071, p160072, he160055, hB160099, ht160073, ht160074, ht160075, ht160076, ht160077, ht160078, ht160079, ht160080, ht160081, ht160082, ht160083, ht160084, ht160085, ht160086, ht160087, ht160088, ht160089, ht160090, ht160091, ht160092, ht160093, ht160094, ht160095, ht160096, hB160100⟩ := show rk_10 γ (F160051 q160052) from RS_o hT htq160052
  refine Gp_get 30 hm160054 he160055 dr_cX17_thrown_1 (gk_X17 D I) (Nat.le_of_ble_eq_true rfl) wr_7_104 rfl ?_
  have bp160069 : gB p160069 (-2147483648) 2147483647 := (gB_any p160069)
  exact G_iretA dr_cX17_thrown_4 rfl (Nat.le_of_ble_eq_true rfl) (Nat.le_of_ble_eq_true rfl) ⟨p160069, rfl, rfl, (Nat.le_of_ble_eq_true rfl), (Nat.le_of_ble_eq_true rfl)⟩
abbrev ky_160175_SpillForgeModel_word : gKey := (cX17_word, 4, "SpillForgeModel", none, [], "word", fun _ _ => True)
def pt_160175_SpillForgeModel_word (D : va_G) (I : FieldType → ClassId) (γ el : Nat → Nat → Nat) (P160170 : List Nat) (F160171 : Nat → va_E) (q160172 : Nat) (p160173 : Int32) (p160174 : Int32) : Option Value → va_W → Nat → Nat → Prop := fun r w dc ds => ∃ (F160631 : Nat → va_E), r = none ∧ w = va_pl P160170 F160631 ∧ RS D I P160170 F160631 γ el ∧ rStr γ [] F160171 F160631 ∧ dc ≤ 0 ∧ ds ≤ 0 ∧ (fI (F160631 q160172) 32).toInt = (fI (F160171 q160172) 32).toInt ∧ (fI (F160631 q160172) 30).toInt = (fI (F160171 q160172) 30).toInt
set_option maxRecDepth 100000 in
set_option maxHeartbeats 4000000 in
theorem ct_160175_SpillForgeModel_word (l : Launch) (hl0 : l.stackTraces = false) (D : va_G) (I : FieldType → ClassId) (γ el : Nat → Nat → Nat) (P160170 : List Nat) (F160171 : Nat → va_E) (q160172 : Nat) (p160173 : Int32) (p160174 : Int32) (hT : RS D I P160170 F160171 γ el) (htq160172 : rKd γ q160172 10) (bp160174 : gB p160174 0 8188) : CtA (gV D I) l yX17_word cX17_word 4 none 0 0 0 0 [.ref q160172, .int p160173, .int p160174] (va_pl P160170 F160171) (pt_160175_SpillForgeModel_word D I γ el P160170 F160171 q160172 p160173 p160174) gNA := by
  refine CtA_of hl0 (by decide) (Nat.le_of_ble_eq_true rfl) ?_
  have bp160173 := gB_any p160173
  have hm160176 : q160172 ∈ P160170 := RS_m hT htq160172 (by decide)
  obtain ⟨q160178, q160179, p160180, p160181, p160182, p160183, p160184, p160185, p160186, p160187, p160188, p160189, p160190, p160191, p160192, p160193, p160194, he160177, hB160221, ht160195, ht160196, ht160197, ht160198, ht160199, ht160200, ht160201, ht160202, ht160203, ht160204, ht160205, ht160206, ht160207, ht160208, ht160209, ht160210, ht160211, ht160212, ht160213, ht160214, ht160215, ht160216, ht160217, ht160218, hB160222⟩ := show rk_10 γ (F160171 q160172) from RS_o hT htq160172
  have ac160223 : (fI (F160171 q160172) 32).toInt = p160192.toInt := by rw [he160177]; rfl
  have bp160192 : gB p160192 0 8192 := (hB160221.2.2.2.2.2.2.2.1)
  have ac160224 : (fI (F160171 q160172) 30).toInt = p160191.toInt := by rw [he160177]; rfl
  have bp160191 : gB p160191 (-2147483648) 2147483647 := (gB_any p160191)
  refine G_iconst 0 dr_cX17_word_0 (by decide +kernel) ?_
  refine G_istore_n (L' := [(3, .int 0), (0, .ref q160172), (1, .int p160173), (2, .int p160174)]) dr_cX17_word_1 (Nat.le_of_ble_eq_true rfl) rfl ?_
  have hlp2_160550 : ∀ (n2_160550 : Nat) (F160546 : Nat → va_E) (g160545 : Int32), gB g160545 0 4 → RS D I P160170 F160546 γ el → rStr γ [] F160171 F160546 → (fI (F160546 q160172) 32).toInt = (fI (F160171 q160172) 32).toInt → (fI (F160546 q160172) 30).toInt = (fI (F160171 q160172) 30).toInt → ((5 : Int) - g160545.toInt).toNat < n2_160550 → G (gV D I) l (gRm 0 0 0 0) (gMA (gV D I) (pt_160175_SpillForgeModel_word D I γ el P160170 F160171 q160172 p160173 p160174) gNA 0 0) ky_160175_SpillForgeModel_word 2 [(3, .int g160545), (0, .ref q160172), (1, .int p160173), (2, .int p160174)] [] (va_pl P160170 F160546) 0 0 := by
    intro n2_160550
    induction n2_160550 with
    | zero => intro F160546 g160545 bg160545 hT160547 hs160548 x160549 x160550 hm2_160550; exact absurd hm2_160550 (Nat.not_lt_zero _)
    | succ n2_160550 ih2_160550 =>
      intro F160546 g160545 bg160545 hT160547 hs160548 x160549 x160550 hm2_160550
      have hs160552 : rStr γ [] F160171 F160546 := fun b h0 hb hw => (hs160548 b h0 hb hw).trans ((rStr_rf (γ := γ) (W := []) (F := F160171)) b h0 hb hw).symm
      have hs160553 : rStr γ [] F160171 F160546 := rStr_tr (rStr_rf (γ := γ) (W := []) (F := F160171)) hs160552
      have hm160554 : q160172 ∈ P160170 := RS_m hT160547 htq160172 (by decide)
      obtain ⟨q160556, q160557, p160558, p160559, p160560, p160561, p160562, p160563, p160564, p160565, p160566, p160567, p160568, p160569, p160570, p160571, p160572, he160555, hB160599, ht160573, ht160574, ht160575, ht160576, ht160577, ht160578, ht160579, ht160580, ht160581, ht160582, ht160583, ht160584, ht160585, ht160586, ht160587, ht160588, ht160589, ht160590, ht160591, ht160592, ht160593, ht160594, ht160595, ht160596, hB160600⟩ := show rk_10 γ (F160546 q160172) from RS_o hT160547 htq160172
      have ac160601 : (fI (F160546 q160172) 32).toInt = p160570.toInt := by rw [he160555]; rfl
      have bp160570 : gB p160570 0 8192 := (hB160599.2.2.2.2.2.2.2.1)
      have ac160602 : (fI (F160546 q160172) 30).toInt = p160569.toInt := by rw [he160555]; rfl
      have bp160569 : gB p160569 (-2147483648) 2147483647 := (gB_any p160569)
      have ac160603 : (fI (F160546 q160172) 32).toInt = p160570.toInt := by rw [he160555]; rfl
      have ac160604 : (fI (F160546 q160172) 30).toInt = p160569.toInt := by rw [he160555]; rfl
      refine G_iload_n 0 dr_cX17_word_2 rfl ?_
      refine G_iconst 4 dr_cX17_word_3 (by decide +kernel) ?_
      refine G_icmp_ge 31 dr_cX17_word_4 (by decide +kernel) (fun hc160605 => ?_) (fun hc160605 => ?_)
      · have r160606 : 4 ≤ g160545.toInt := gj_leL hc160605 (show Int32.toInt 4 = 4 by decide)
        have bg160545' : gB g160545 4 4 := ⟨by omega, by omega⟩
        have ac160607 : (fI (F160546 q160172) 32).toInt = p160570.toInt := by rw [he160555]; rfl
        have ac160608 : (fI (F160546 q160172) 30).toInt = p160569.toInt := by rw [he160555]; rfl
        exact G_vretA dr_cX17_word_31 rfl (Nat.le_of_ble_eq_true rfl) (Nat.le_of_ble_eq_true rfl) ⟨F160546, rfl, rfl, hT160547, hs160548, (Nat.le_of_ble_eq_true rfl), (Nat.le_of_ble_eq_true rfl), (by omega), (by omega)⟩
      · have r160609 : g160545.toInt < 4 := gj_nleL hc160605 (show Int32.toInt 4 = 4 by decide)
        have bg160545' : gB g160545 0 3 := ⟨by omega, by omega⟩
        refine G_aload_n 1 dr_cX17_word_7 rfl ?_
        refine Gp_get 31 hm160554 he160555 dr_cX17_word_8 (gk_X17 D I) (Nat.le_of_ble_eq_true rfl) wr_7_105 rfl ?_
        refine G_iload_n 3 dr_cX17_word_11 rfl ?_
        refine G_iload_n 0 dr_cX17_word_12 rfl ?_
        refine G_iadd dr_cX17_word_13 (G_nam fun z160610 hz160610 => ?_)
        have ez160610 : z160610.toInt = p160174.toInt + g160545.toInt := by rw [gI_add hz160610 bp160174 bg160545' (by decide) (by decide)]
        have bz160610 : gB z160610 0 8191 := gB_add (gI_add hz160610 bp160174 bg160545' (by decide) (by decide)) bp160174 bg160545' (by decide) (by decide)
        refine G_iload_n 2 dr_cX17_word_14 rfl ?_
        refine G_bipush 24 dr_cX17_word_15 (by decide +kernel) ?_
        refine G_bipush 8 dr_cX17_word_17 (by decide +kernel) ?_
        refine G_iload_n 0 dr_cX17_word_19 rfl ?_
        refine G_imul dr_cX17_word_20 (G_nam fun z160611 hz160611 => ?_)
        have ez160611 : z160611.toInt = 8 * g160545.toInt := by rw [gI_mul hz160611 (gBl (show Int32.toInt 8 = 8 by decide)) bg160545' (by decide) (by decide) (by decide), show Int32.toInt 8 = 8 from by decide]
        have bz160611 : gB z160611 0 24 := gB_mul hz160611 (gBl (show Int32.toInt 8 = 8 by decide)) bg160545' (by decide) (by decide) (by decide) (by decide)
        refine G_isub dr_cX17_word_21 (G_nam fun z160612 hz160612 => ?_)
        have ez160612 : z160612.toInt = 24 - z160611.toInt := by rw [gI_sub hz160612 (gBl (show Int32.toInt 24 = 24 by decide)) bz160611 (by decide) (by decide), show Int32.toInt 24 = 24 from by decide]
        have bz160612 : gB z160612 0 24 := gB_sub (gI_sub hz160612 (gBl (show Int32.toInt 24 = 24 by decide)) bz160611 (by decide) (by decide)) (gBl (show Int32.toInt 24 = 24 by decide)) bz160611 (by decide) (by decide)
        refine G_ishr dr_cX17_word_22 (G_nam fun z160613 hz160613 => ?_)
        have bz160613 : gB z160613 (-2147483648) 2147483647 := gB_any z160613
        refine G_i2b dr_cX17_word_23 (G_nam fun z160614 hz160614 => ?_)
        have bz160614 : gB z160614 (-128) 127 := gB_i2b hz160614
        have hm160615 : (γ 9 31) ∈ P160170 := RS_m hT160547 ht160593 (by decide)
        obtain ⟨f160617, he160616, bf160617⟩ := show rk_25 I (F160546 (γ 9 31)) from RS_o hT160547 ht160593
        refine Gp_bast 1 hm160615 he160616 dr_cX17_word_24 rfl (gB_in bz160610 (by decide) (by decide)) (fun F160618 e160619 n160620 => ?_)
        obtain ⟨f160621, hf160621⟩ : ∃ z, z = upd f160617 z160610.toNatClampNeg (vp_nar .byte z160614) := ⟨_, rfl⟩
        rw [← hf160621] at e160619
        have he160622 : F160618 q160172 = .inr (22, [.ref (γ 9 0), .ref (γ 9 1), .ref (γ 9 2), .ref (γ 9 3), .ref (γ 9 4), .ref (γ 9 5), .ref (γ 9 6), .ref (γ 9 7), .ref (γ 9 8), .int p160558, .int p160559, .int p160560, .int p160561, .int p160562, .int p160563, .ref (γ 9 15), .ref (γ 9 16), .ref (γ 9 17), .ref (γ 9 18), .ref (γ 9 19), .ref (γ 9 20), .ref (γ 9 21), .ref (γ 9 22), .int p160564, .int p160565, .int p160566, .int p160567, .int p160568, .ref q160556, .ref (γ 9 29), .int p160569, .ref (γ 9 31), .int p160570, .int p160571, .int p160572, .ref q160557]) := (n160620 q160172 (rn_oa he160555 he160616)).trans he160555
        have he160623 : F160618 (γ 9 31) = .inl (I .byte, 8192, .inl f160621) := e160619
        have hs160624 : rStr γ [] F160171 F160618 := rStr_put hs160548 n160620 ht160593 (by decide)
        have bf160621 : gF f160621 (-128) 127 := gF_upd hf160621 bf160617 gB_byte
        obtain ⟨z160625, hz160625⟩ : ∃ z : Int32, z = g160545 + Int32.ofInt 1 := ⟨_, rfl⟩
        have ez160625 : z160625.toInt = g160545.toInt + 1 := gI_inc hz160625 (by decide) bg160545' (by decide) (by decide)
        have bz160625 : gB z160625 1 4 := ⟨by omega, by omega⟩
        refine G_iinc (L' := [(3, .int z160625), (0, .ref q160172), (1, .int p160173), (2, .int p160174)]) z160625 0 dr_cX17_word_25 rfl hz160625.symm (Nat.le_of_ble_eq_true rfl) rfl ?_
        refine G_goto 2 dr_cX17_word_28 (by decide +kernel) ?_
        have hT160626 : RS D I P160170 F160618 γ el := RS_set hT160547 n160620 ht160593 (by decide) ⟨f160621, he160623, bf160621⟩
        have ac160627 : (fI (F160618 q160172) 32).toInt = p160570.toInt := by rw [he160622]; rfl
        have ac160628 : (fI (F160618 q160172) 30).toInt = p160569.toInt := by rw [he160622]; rfl
        exact ih2_160550 F160618 z160625 (gB_w bz160625 (by decide) (by decide)) hT160626 hs160624 (by omega) (by omega) (by omega)
  have ac160629 : (fI (F160171 q160172) 32).toInt = p160192.toInt := by rw [he160177]; rfl
  have ac160630 : (fI (F160171 q160172) 30).toInt = p160191.toInt := by rw [he160177]; rfl
  exact hlp2_160550 (((5 : Int) - 0).toNat + 1) F160171 0 (gB_w (gBl (show Int32.toInt 0 = 0 by decide)) (by decide) (by decide)) hT (rStr_rf (γ := γ) (W := []) (F := F160171)) (by omega) (by omega) (Nat.lt_succ_self _)
abbrev ky_160111_SpillForgeModel_feed : gKey := (cX17_feed, 6, "SpillForgeModel", (some FieldType.int), [], "feed", fun _ _ => True)
def pt_160111_SpillForgeModel_feed (D : va_G) (I : FieldType → ClassId) (γ el : Nat → Nat → Nat) (P160103 : List Nat) (F160104 : Nat → va_E) (q160105 : Nat) (p160106 : Int32) (p160107 : Int32) (p160108 : Int32) (p160109 : Int32) (p160110 : Int32) : Option Value → va_W → Nat → Nat → Prop := fun r w dc ds => ∃ (F161022 : Nat → va_E) (o161021 : Int32), r = some (.int o161021) ∧ w = va_pl P160103 F161022 ∧ RS D I P160103 F161022 γ el ∧ rStr γ [] F160104 F161022 ∧ dc ≤ 0 ∧ ds ≤ 0 ∧ gB o161021 0 8212 ∧ (((fI (F160104 q160105) 32).toInt ≤ 8172 ∧ o161021.toInt = (fI (F160104 q160105) 32).toInt + 20 ∧ (fI (F161022 q160105) 32).toInt = (fI (F160104 q160105) 32).toInt + 20 ∧ (fI (F161022 q160105) 30).toInt = 0) ∨ (8172 < (fI (F160104 q160105) 32).toInt ∧ (fI (F161022 q160105) 30).toInt = 1 ∧ (fI (F161022 q160105) 32).toInt = (fI (F160104 q160105) 32).toInt))
set_option maxRecDepth 100000 in
set_option maxHeartbeats 4000000 in
theorem ct_160111_SpillForgeModel_feed (l : Launch) (hl0 : l.stackTraces = false) (D : va_G) (I : FieldType → ClassId) (γ el : Nat → Nat → Nat) (P160103 : List Nat) (F160104 : Nat → va_E) (q160105 : Nat) (p160106 : Int32) (p160107 : Int32) (p160108 : Int32) (p160109 : Int32) (p160110 : Int32) (hT : RS D I P160103 F160104 γ el) (htq160105 : rKd γ q160105 10) : CtA (gV D I) l yX17_feed cX17_feed 6 (some FieldType.int) 1 23 0 0 [.ref q160105, .int p160106, .int p160107, .int p160108, .int p160109, .int p160110] (va_pl P160103 F160104) (pt_160111_SpillForgeModel_feed D I γ el P160103 F160104 q160105 p160106 p160107 p160108 p160109 p160110) gNA := by
  refine CtA_of hl0 (by decide) (Nat.le_of_ble_eq_true rfl) ?_
  have bp160106 := gB_any p160106
  have bp160107 := gB_any p160107
  have bp160108 := gB_any p160108
  have bp160109 := gB_any p160109
  have bp160110 := gB_any p160110
  have hm160112 : q160105 ∈ P160103 := RS_m hT htq160105 (by decide)
  obtain ⟨q160114, q160115, p160116, p160117, p160118, p160119, p160120, p160121, p160122, p160123, p160124, p160125, p160126, p160127, p160128, p160129, p160130, he160113, hB160157, ht160131, ht160132, ht160133, ht160134, ht160135, ht160136, ht160137, ht160138, ht160139, ht160140, ht160141, ht160142, ht160143, ht160144, ht160145, ht160146, ht160147, ht160148, ht160149, ht160150, ht160151, ht160152, ht160153, ht160154, hB160158⟩ := show rk_10 γ (F160104 q160105) from RS_o hT htq160105
  have ac160159 : (fI (F160104 q160105) 32).toInt = p160128.toInt := by rw [he160113]; rfl
  have bp160128 : gB p160128 0 8192 := (hB160157.2.2.2.2.2.2.2.1)
  have ac160160 : (fI (F160104 q160105) 30).toInt = p160127.toInt := by rw [he160113]; rfl
  have bp160127 : gB p160127 (-2147483648) 2147483647 := (gB_any p160127)
  refine G_aload_n 0 dr_cX17_feed_0 rfl ?_
  refine G_iconst 0 dr_cX17_feed_1 (by decide +kernel) ?_
  refine Gp_put 30 hm160112 he160113 dr_cX17_feed_2 (gk_X17 D I) (Nat.le_of_ble_eq_true rfl) wr_7_104 rfl rfl rfl (Nat.le_of_ble_eq_true rfl) (fun F160161 e160162 n160163 => ?_)
  have he160164 : F160161 q160105 = .inr (22, [.ref (γ 9 0), .ref (γ 9 1), .ref (γ 9 2), .ref (γ 9 3), .ref (γ 9 4), .ref (γ 9 5), .ref (γ 9 6), .ref (γ 9 7), .ref (γ 9 8), .int p160116, .int p160117, .int p160118, .int p160119, .int p160120, .int p160121, .ref (γ 9 15), .ref (γ 9 16), .ref (γ 9 17), .ref (γ 9 18), .ref (γ 9 19), .ref (γ 9 20), .ref (γ 9 21), .ref (γ 9 22), .int p160122, .int p160123, .int p160124, .int p160125, .int p160126, .ref q160114, .ref (γ 9 29), .int 0, .ref (γ 9 31), .int p160128, .int p160129, .int p160130, .ref q160115]) := e160162
  have hs160165 : rStr γ [] F160104 F160161 := rStr_put (rStr_rf (γ := γ) (W := []) (F := F160104)) n160163 htq160105 (by decide)
  refine G_aload_n 0 dr_cX17_feed_5 rfl ?_
  refine Gp_get 32 hm160112 he160164 dr_cX17_feed_6 (gk_X17 D I) (Nat.le_of_ble_eq_true rfl) wr_7_106 rfl ?_
  refine G_bipush 20 dr_cX17_feed_9 (by decide +kernel) ?_
  refine G_iadd dr_cX17_feed_11 (G_nam fun z160166 hz160166 => ?_)
  have ez160166 : z160166.toInt = p160128.toInt + 20 := by rw [gI_add hz160166 bp160128 (gBl (show Int32.toInt 20 = 20 by decide)) (by decide) (by decide), show Int32.toInt 20 = 20 from by decide]
  have bz160166 : gB z160166 20 8212 := gB_add (gI_add hz160166 bp160128 (gBl (show Int32.toInt 20 = 20 by decide)) (by decide) (by decide)) bp160128 (gBl (show Int32.toInt 20 = 20 by decide)) (by decide) (by decide)
  refine G_sipush 8192 dr_cX17_feed_12 (by decide +kernel) ?_
  refine G_icmp_le 24 dr_cX17_feed_15 (by decide +kernel) (fun hc160167 => ?_) (fun hc160167 => ?_)
  · have r160168 : z160166.toInt ≤ 8192 := gj_le hc160167 (show Int32.toInt 8192 = 8192 by decide)
    have bz160166' : gB z160166 20 8192 := ⟨by omega, by omega⟩
    refine G_aload_n 0 dr_cX17_feed_24 rfl ?_
    refine G_iload_n 1 dr_cX17_feed_25 rfl ?_
    refine G_aload_n 0 dr_cX17_feed_26 rfl ?_
    refine Gp_get 32 hm160112 he160164 dr_cX17_feed_27 (gk_X17 D I) (Nat.le_of_ble_eq_true rfl) wr_7_106 rfl ?_
    have hT160169 : RS D I P160103 F160161 γ el := RS_set hT n160163 htq160105 (by decide) ⟨q160114, q160115, p160116, p160117, p160118, p160119, p160120, p160121, p160122, p160123, p160124, p160125, p160126, 0, p160128, p160129, p160130, he160164, ⟨(hB160157.1), (hB160157.2.1), (hB160157.2.2.1), (hB160157.2.2.2.1), (hB160157.2.2.2.2.1), (hB160157.2.2.2.2.2.1), (hB160157.2.2.2.2.2.2.1), bp160128, (hB160157.2.2.2.2.2.2.2.2)⟩, ht160131, ht160132, ht160133, ht160134, ht160135, ht160136, ht160137, ht160138, ht160139, ht160140, ht160141, ht160142, ht160143, ht160144, ht160145, ht160146, ht160147, ht160148, ht160149, ht160150, ht160151, ht160152, ht160153, ht160154, hB160158⟩
    have ac160632 : (fI (F160161 q160105) 32).toInt = p160128.toInt := by rw [he160164]; rfl
    have ac160633 : (fI (F160161 q160105) 30).toInt = 0 := by rw [he160164]; show Int32.toInt 0 = 0; decide
    refine Gw_callV (As := [.int p160106, .int p160128]) (gV_ok D I) (ct_160175_SpillForgeModel_word l hl0 D I γ el P160103 F160161 q160105 p160106 p160128 hT160169 htq160105 ⟨by omega, by omega⟩) dr_cX17_feed_30 ⟨wr_7_195, wr_1_14, wr_7_198, by decide, rfl, (Nat.le_of_ble_eq_true rfl), (Nat.le_of_ble_eq_true rfl)⟩ wr_7_197 wr_p_74 hm160112 he160164 rfl (show 0 + 0 ≤ 0 by first | omega | decide) (show 0 + 0 ≤ 0 by first | omega | decide) (Nat.le_of_ble_eq_true rfl) (fun r160637 w160638 dc160634 ds160635 hp160636 => ?_) (fun _ _ _ _ _ z => z.elim)
    obtain ⟨F160641, rfl, rfl, hT160642, hs160643, hdc, hds, x160639, x160640⟩ := hp160636
    have hs160644 : rStr γ [] F160104 F160641 := rStr_tr hs160165 hs160643
    change G _ _ _ _ _ _ _ _ _ _ _
    refine G_widen (cs' := 0) (sl' := 0) (by omega) (by omega) ?_
    refine G_aload_n 0 dr_cX17_feed_33 rfl ?_
    refine G_iload_n 2 dr_cX17_feed_34 rfl ?_
    refine G_aload_n 0 dr_cX17_feed_35 rfl ?_
    have hm160645 : q160105 ∈ P160103 := RS_m hT160642 htq160105 (by decide)
    obtain ⟨q160647, q160648, p160649, p160650, p160651, p160652, p160653, p160654, p160655, p160656, p160657, p160658, p160659, p160660, p160661, p160662, p160663, he160646, hB160690, ht160664, ht160665, ht160666, ht160667, ht160668, ht160669, ht160670, ht160671, ht160672, ht160673, ht160674, ht160675, ht160676, ht160677, ht160678, ht160679, ht160680, ht160681, ht160682, ht160683, ht160684, ht160685, ht160686, ht160687, hB160691⟩ := show rk_10 γ (F160641 q160105) from RS_o hT160642 htq160105
    have ac160692 : (fI (F160641 q160105) 32).toInt = p160661.toInt := by rw [he160646]; rfl
    have bp160661 : gB p160661 0 8192 := (hB160690.2.2.2.2.2.2.2.1)
    have ac160693 : (fI (F160641 q160105) 30).toInt = p160660.toInt := by rw [he160646]; rfl
    have bp160660 : gB p160660 (-2147483648) 2147483647 := (gB_any p160660)
    refine Gp_get 32 hm160645 he160646 dr_cX17_feed_36 (gk_X17 D I) (Nat.le_of_ble_eq_true rfl) wr_7_106 rfl ?_
    refine G_iconst 4 dr_cX17_feed_39 (by decide +kernel) ?_
    refine G_iadd dr_cX17_feed_40 (G_nam fun z160694 hz160694 => ?_)
    have ez160694 : z160694.toInt = p160661.toInt + 4 := by rw [gI_add hz160694 bp160661 (gBl (show Int32.toInt 4 = 4 by decide)) (by decide) (by decide), show Int32.toInt 4 = 4 from by decide]
    have bz160694 : gB z160694 4 8196 := gB_add (gI_add hz160694 bp160661 (gBl (show Int32.toInt 4 = 4 by decide)) (by decide) (by decide)) bp160661 (gBl (show Int32.toInt 4 = 4 by decide)) (by decide) (by decide)
    have ac160695 : (fI (F160641 q160105) 32).toInt = p160661.toInt := by rw [he160646]; rfl
    have ac160696 : (fI (F160641 q160105) 30).toInt = p160660.toInt := by rw [he160646]; rfl
    refine Gw_callV (As := [.int p160107, .int z160694]) (gV_ok D I) (ct_160175_SpillForgeModel_word l hl0 D I γ el P160103 F160641 q160105 p160107 z160694 hT160642 htq160105 ⟨by omega, by omega⟩) dr_cX17_feed_41 ⟨wr_7_195, wr_1_14, wr_7_198, by decide, rfl, (Nat.le_of_ble_eq_true rfl), (Nat.le_of_ble_eq_true rfl)⟩ wr_7_197 wr_p_74 hm160645 he160646 rfl (show 0 + 0 ≤ 0 by first | omega | decide) (show 0 + 0 ≤ 0 by first | omega | decide) (Nat.le_of_ble_eq_true rfl) (fun r160700 w160701 dc160697 ds160698 hp160699 => ?_) (fun _ _ _ _ _ z => z.elim)
    obtain ⟨F160704, rfl, rfl, hT160705, hs160706, hdc, hds, x160702, x160703⟩ := hp160699
    have hs160707 : rStr γ [] F160104 F160704 := rStr_tr hs160644 hs160706
    change G _ _ _ _ _ _ _ _ _ _ _
    refine G_widen (cs' := 0) (sl' := 0) (by omega) (by omega) ?_
    refine G_aload_n 0 dr_cX17_feed_44 rfl ?_
    refine G_iload_n 3 dr_cX17_feed_45 rfl ?_
    refine G_aload_n 0 dr_cX17_feed_46 rfl ?_
    have hm160708 : q160105 ∈ P160103 := RS_m hT160705 htq160105 (by decide)
    obtain ⟨q160710, q160711, p160712, p160713, p160714, p160715, p160716, p160717, p160718, p160719, p160720, p160721, p160722, p160723, p160724, p160725, p160726, he160709, hB160753, ht160727, ht160728, ht160729, ht160730, ht160731, ht160732, ht160733, ht160734, ht160735, ht160736, ht160737, ht160738, ht160739, ht160740, ht160741, ht160742, ht160743, ht160744, ht160745, ht160746, ht160747, ht160748, ht160749, ht160750, hB160754⟩ := show rk_10 γ (F160704 q160105) from RS_o hT160705 htq160105
    have ac160755 : (fI (F160704 q160105) 32).toInt = p160724.toInt := by rw [he160709]; rfl
    have bp160724 : gB p160724 0 8192 := (hB160753.2.2.2.2.2.2.2.1)
    have ac160756 : (fI (F160704 q160105) 30).toInt = p160723.toInt := by rw [he160709]; rfl
    have bp160723 : gB p160723 (-2147483648) 2147483647 := (gB_any p160723)
    refine Gp_get 32 hm160708 he160709 dr_cX17_feed_47 (gk_X17 D I) (Nat.le_of_ble_eq_true rfl) wr_7_106 rfl ?_
    refine G_bipush 8 dr_cX17_feed_50 (by decide +kernel) ?_
    refine G_iadd dr_cX17_feed_52 (G_nam fun z160757 hz160757 => ?_)
    have ez160757 : z160757.toInt = p160724.toInt + 8 := by rw [gI_add hz160757 bp160724 (gBl (show Int32.toInt 8 = 8 by decide)) (by decide) (by decide), show Int32.toInt 8 = 8 from by decide]
    have bz160757 : gB z160757 8 8200 := gB_add (gI_add hz160757 bp160724 (gBl (show Int32.toInt 8 = 8 by decide)) (by decide) (by decide)) bp160724 (gBl (show Int32.toInt 8 = 8 by decide)) (by decide) (by decide)
    have ac160758 : (fI (F160704 q160105) 32).toInt = p160724.toInt := by rw [he160709]; rfl
    have ac160759 : (fI (F160704 q160105) 30).toInt = p160723.toInt := by rw [he160709]; rfl
    refine Gw_callV (As := [.int p160108, .int z160757]) (gV_ok D I) (ct_160175_SpillForgeModel_word l hl0 D I γ el P160103 F160704 q160105 p160108 z160757 hT160705 htq160105 ⟨by omega, by omega⟩) dr_cX17_feed_53 ⟨wr_7_195, wr_1_14, wr_7_198, by decide, rfl, (Nat.le_of_ble_eq_true rfl), (Nat.le_of_ble_eq_true rfl)⟩ wr_7_197 wr_p_74 hm160708 he160709 rfl (show 0 + 0 ≤ 0 by first | omega | decide) (show 0 + 0 ≤ 0 by first | omega | decide) (Nat.le_of_ble_eq_true rfl) (fun r160763 w160764 dc160760 ds160761 hp160762 => ?_) (fun _ _ _ _ _ z => z.elim)
    obtain ⟨F160767, rfl, rfl, hT160768, hs160769, hdc, hds, x160765, x160766⟩ := hp160762
    have hs160770 : rStr γ [] F160104 F160767 := rStr_tr hs160707 hs160769
    change G _ _ _ _ _ _ _ _ _ _ _
    refine G_widen (cs' := 0) (sl' := 0) (by omega) (by omega) ?_
    refine G_aload_n 0 dr_cX17_feed_56 rfl ?_
    refine G_iload 4 dr_cX17_feed_57 rfl ?_
    refine G_aload_n 0 dr_cX17_feed_59 rfl ?_
    have hm160771 : q160105 ∈ P160103 := RS_m hT160768 htq160105 (by decide)
    obtain ⟨q160773, q160774, p160775, p160776, p160777, p160778, p160779, p160780, p160781, p160782, p160783, p160784, p160785, p160786, p160787, p160788, p160789, he160772, hB160816, ht160790, ht160791, ht160792, ht160793, ht160794, ht160795, ht160796, ht160797, ht160798, ht160799, ht160800, ht160801, ht160802, ht160803, ht160804, ht160805, ht160806, ht160807, ht160808, ht160809, ht160810, ht160811, ht160812, ht160813, hB160817⟩ := show rk_10 γ (F160767 q160105) from RS_o hT160768 htq160105
    have ac160818 : (fI (F160767 q160105) 32).toInt = p160787.toInt := by rw [he160772]; rfl
    have bp160787 : gB p160787 0 8192 := (hB160816.2.2.2.2.2.2.2.1)
    have ac160819 : (fI (F160767 q160105) 30).toInt = p160786.toInt := by rw [he160772]; rfl
    have bp160786 : gB p160786 (-2147483648) 2147483647 := (gB_any p160786)
    refine Gp_get 32 hm160771 he160772 dr_cX17_feed_60 (gk_X17 D I) (Nat.le_of_ble_eq_true rfl) wr_7_106 rfl ?_
    refine G_bipush 12 dr_cX17_feed_63 (by decide +kernel) ?_
    refine G_iadd dr_cX17_feed_65 (G_nam fun z160820 hz160820 => ?_)
    have ez160820 : z160820.toInt = p160787.toInt + 12 := by rw [gI_add hz160820 bp160787 (gBl (show Int32.toInt 12 = 12 by decide)) (by decide) (by decide), show Int32.toInt 12 = 12 from by decide]
    have bz160820 : gB z160820 12 8204 := gB_add (gI_add hz160820 bp160787 (gBl (show Int32.toInt 12 = 12 by decide)) (by decide) (by decide)) bp160787 (gBl (show Int32.toInt 12 = 12 by decide)) (by decide) (by decide)
    have ac160821 : (fI (F160767 q160105) 32).toInt = p160787.toInt := by rw [he160772]; rfl
    have ac160822 : (fI (F160767 q160105) 30).toInt = p160786.toInt := by rw [he160772]; rfl
    refine Gw_callV (As := [.int p160109, .int z160820]) (gV_ok D I) (ct_160175_SpillForgeModel_word l hl0 D I γ el P160103 F160767 q160105 p160109 z160820 hT160768 htq160105 ⟨by omega, by omega⟩) dr_cX17_feed_66 ⟨wr_7_195, wr_1_14, wr_7_198, by decide, rfl, (Nat.le_of_ble_eq_true rfl), (Nat.le_of_ble_eq_true rfl)⟩ wr_7_197 wr_p_74 hm160771 he160772 rfl (show 0 + 0 ≤ 0 by first | omega | decide) (show 0 + 0 ≤ 0 by first | omega | decide) (Nat.le_of_ble_eq_true rfl) (fun r160826 w160827 dc160823 ds160824 hp160825 => ?_) (fun _ _ _ _ _ z => z.elim)
    obtain ⟨F160830, rfl, rfl, hT160831, hs160832, hdc, hds, x160828, x160829⟩ := hp160825
    have hs160833 : rStr γ [] F160104 F160830 := rStr_tr hs160770 hs160832
    change G _ _ _ _ _ _ _ _ _ _ _
    refine G_widen (cs' := 0) (sl' := 0) (by omega) (by omega) ?_
    refine G_aload_n 0 dr_cX17_feed_69 rfl ?_
    refine G_iload 5 dr_cX17_feed_70 rfl ?_
    refine G_aload_n 0 dr_cX17_feed_72 rfl ?_
    have hm160834 : q160105 ∈ P160103 := RS_m hT160831 htq160105 (by decide)
    obtain ⟨q160836, q160837, p160838, p160839, p160840, p160841, p160842, p160843, p160844, p160845, p160846, p160847, p160848, p160849, p160850, p160851, p160852, he160835, hB160879, ht160853, ht160854, ht160855, ht160856, ht160857, ht160858, ht160859, ht160860, ht160861, ht160862, ht160863, ht160864, ht160865, ht160866, ht160867, ht160868, ht160869, ht160870, ht160871, ht160872, ht160873, ht160874, ht160875, ht160876, hB160880⟩ := show rk_10 γ (F160830 q160105) from RS_o hT160831 htq160105
    have ac160881 : (fI (F160830 q160105) 32).toInt = p160850.toInt := by rw [he160835]; rfl
    have bp160850 : gB p160850 0 8192 := (hB160879.2.2.2.2.2.2.2.1)
    have ac160882 : (fI (F160830 q160105) 30).toInt = p160849.toInt := by rw [he160835]; rfl
    have bp160849 : gB p160849 (-2147483648) 2147483647 := (gB_any p160849)
    refine Gp_get 32 hm160834 he160835 dr_cX17_feed_73 (gk_X17 D I) (Nat.le_of_ble_eq_true rfl) wr_7_106 rfl ?_
    refine G_bipush 16 dr_cX17_feed_76 (by decide +kernel) ?_
    refine G_iadd dr_cX17_feed_78 (G_nam fun z160883 hz160883 => ?_)
    have ez160883 : z160883.toInt = p160850.toInt + 16 := by rw [gI_add hz160883 bp160850 (gBl (show Int32.toInt 16 = 16 by decide)) (by decide) (by decide), show Int32.toInt 16 = 16 from by decide]
    have bz160883 : gB z160883 16 8208 := gB_add (gI_add hz160883 bp160850 (gBl (show Int32.toInt 16 = 16 by decide)) (by decide) (by decide)) bp160850 (gBl (show Int32.toInt 16 = 16 by decide)) (by decide) (by decide)
    have ac160884 : (fI (F160830 q160105) 32).toInt = p160850.toInt := by rw [he160835]; rfl
    have ac160885 : (fI (F160830 q160105) 30).toInt = p160849.toInt := by rw [he160835]; rfl
    refine Gw_callV (As := [.int p160110, .int z160883]) (gV_ok D I) (ct_160175_SpillForgeModel_word l hl0 D I γ el P160103 F160830 q160105 p160110 z160883 hT160831 htq160105 ⟨by omega, by omega⟩) dr_cX17_feed_79 ⟨wr_7_195, wr_1_14, wr_7_198, by decide, rfl, (Nat.le_of_ble_eq_true rfl), (Nat.le_of_ble_eq_true rfl)⟩ wr_7_197 wr_p_74 hm160834 he160835 rfl (show 0 + 0 ≤ 0 by first | omega | decide) (show 0 + 0 ≤ 0 by first | omega | decide) (Nat.le_of_ble_eq_true rfl) (fun r160889 w160890 dc160886 ds160887 hp160888 => ?_) (fun _ _ _ _ _ z => z.elim)
    obtain ⟨F160893, rfl, rfl, hT160894, hs160895, hdc, hds, x160891, x160892⟩ := hp160888
    have hs160896 : rStr γ [] F160104 F160893 := rStr_tr hs160833 hs160895
    change G _ _ _ _ _ _ _ _ _ _ _
    refine G_widen (cs' := 0) (sl' := 0) (by omega) (by omega) ?_
    refine G_aload_n 0 dr_cX17_feed_82 rfl ?_
    refine G_dup dr_cX17_feed_83 rfl ?_
    have hm160897 : q160105 ∈ P160103 := RS_m hT160894 htq160105 (by decide)
    obtain ⟨q160899, q160900, p160901, p160902, p160903, p160904, p160905, p160906, p160907, p160908, p160909, p160910, p160911, p160912, p160913, p160914, p160915, he160898, hB160942, ht160916, ht160917, ht160918, ht160919, ht160920, ht160921, ht160922, ht160923, ht160924, ht160925, ht160926, ht160927, ht160928, ht160929, ht160930, ht160931, ht160932, ht160933, ht160934, ht160935, ht160936, ht160937, ht160938, ht160939, hB160943⟩ := show rk_10 γ (F160893 q160105) from RS_o hT160894 htq160105
    have ac160944 : (fI (F160893 q160105) 32).toInt = p160913.toInt := by rw [he160898]; rfl
    have bp160913 : gB p160913 0 8192 := (hB160942.2.2.2.2.2.2.2.1)
    have ac160945 : (fI (F160893 q160105) 30).toInt = p160912.toInt := by rw [he160898]; rfl
    have bp160912 : gB p160912 (-2147483648) 2147483647 := (gB_any p160912)
    refine Gp_get 32 hm160897 he160898 dr_cX17_feed_84 (gk_X17 D I) (Nat.le_of_ble_eq_true rfl) wr_7_106 rfl ?_
    refine G_bipush 20 dr_cX17_feed_87 (by decide +kernel) ?_
    refine G_iadd dr_cX17_feed_89 (G_nam fun z160946 hz160946 => ?_)
    have ez160946 : z160946.toInt = p160913.toInt + 20 := by rw [gI_add hz160946 bp160913 (gBl (show Int32.toInt 20 = 20 by decide)) (by decide) (by decide), show Int32.toInt 20 = 20 from by decide]
    have bz160946 : gB z160946 20 8212 := gB_add (gI_add hz160946 bp160913 (gBl (show Int32.toInt 20 = 20 by decide)) (by decide) (by decide)) bp160913 (gBl (show Int32.toInt 20 = 20 by decide)) (by decide) (by decide)
    refine Gp_put 32 hm160897 he160898 dr_cX17_feed_90 (gk_X17 D I) (Nat.le_of_ble_eq_true rfl) wr_7_106 rfl rfl rfl (Nat.le_of_ble_eq_true rfl) (fun F160947 e160948 n160949 => ?_)
    have he160950 : F160947 q160105 = .inr (22, [.ref (γ 9 0), .ref (γ 9 1), .ref (γ 9 2), .ref (γ 9 3), .ref (γ 9 4), .ref (γ 9 5), .ref (γ 9 6), .ref (γ 9 7), .ref (γ 9 8), .int p160901, .int p160902, .int p160903, .int p160904, .int p160905, .int p160906, .ref (γ 9 15), .ref (γ 9 16), .ref (γ 9 17), .ref (γ 9 18), .ref (γ 9 19), .ref (γ 9 20), .ref (γ 9 21), .ref (γ 9 22), .int p160907, .int p160908, .int p160909, .int p160910, .int p160911, .ref q160899, .ref (γ 9 29), .int p160912, .ref (γ 9 31), .int z160946, .int p160914, .int p160915, .ref q160900]) := e160948
    have hs160951 : rStr γ [] F160104 F160947 := rStr_put hs160896 n160949 htq160105 (by decide)
    refine G_aload_n 0 dr_cX17_feed_93 rfl ?_
    refine Gp_get 32 hm160897 he160950 dr_cX17_feed_94 (gk_X17 D I) (Nat.le_of_ble_eq_true rfl) wr_7_106 rfl ?_
    have hT160952 : RS D I P160103 F160947 γ el := RS_set hT160894 n160949 htq160105 (by decide) ⟨q160899, q160900, p160901, p160902, p160903, p160904, p160905, p160906, p160907, p160908, p160909, p160910, p160911, p160912, z160946, p160914, p160915, he160950, ⟨(hB160942.1), (hB160942.2.1), (hB160942.2.2.1), (hB160942.2.2.2.1), (hB160942.2.2.2.2.1), (hB160942.2.2.2.2.2.1), (hB160942.2.2.2.2.2.2.1), ⟨by omega, by omega⟩, (hB160942.2.2.2.2.2.2.2.2)⟩, ht160916, ht160917, ht160918, ht160919, ht160920, ht160921, ht160922, ht160923, ht160924, ht160925, ht160926, ht160927, ht160928, ht160929, ht160930, ht160931, ht160932, ht160933, ht160934, ht160935, ht160936, ht160937, ht160938, ht160939, hB160943⟩
    have ac160953 : (fI (F160947 q160105) 32).toInt = z160946.toInt := by rw [he160950]; rfl
    have ac160954 : (fI (F160947 q160105) 30).toInt = p160912.toInt := by rw [he160950]; rfl
    exact G_iretA dr_cX17_feed_97 rfl (Nat.le_of_ble_eq_true rfl) (Nat.le_of_ble_eq_true rfl) ⟨F160947, z160946, rfl, rfl, hT160952, hs160951, (Nat.le_of_ble_eq_true rfl), (Nat.le_of_ble_eq_true rfl), (gB_w bz160946 (by decide) (by decide)), (by omega)⟩
  · have r160955 : 8192 < z160166.toInt := gj_nle hc160167 (show Int32.toInt 8192 = 8192 by decide)
    have bz160166' : gB z160166 8193 8212 := ⟨by omega, by omega⟩
    refine G_aload_n 0 dr_cX17_feed_18 rfl ?_
    refine G_iconst 1 dr_cX17_feed_19 (by decide +kernel) ?_
    have hT160956 : RS D I P160103 F160161 γ el := RS_set hT n160163 htq160105 (by decide) ⟨q160114, q160115, p160116, p160117, p160118, p160119, p160120, p160121, p160122, p160123, p160124, p160125, p160126, 0, p160128, p160129, p160130, he160164, ⟨(hB160157.1), (hB160157.2.1), (hB160157.2.2.1), (hB160157.2.2.2.1), (hB160157.2.2.2.2.1), (hB160157.2.2.2.2.2.1), (hB160157.2.2.2.2.2.2.1), bp160128, (hB160157.2.2.2.2.2.2.2.2)⟩, ht160131, ht160132, ht160133, ht160134, ht160135, ht160136, ht160137, ht160138, ht160139, ht160140, ht160141, ht160142, ht160143, ht160144, ht160145, ht160146, ht160147, ht160148, ht160149, ht160150, ht160151, ht160152, ht160153, ht160154, hB160158⟩
    have ac160957 : (fI (F160161 q160105) 32).toInt = p160128.toInt := by rw [he160164]; rfl
    have ac160958 : (fI (F160161 q160105) 30).toInt = 0 := by rw [he160164]; show Int32.toInt 0 = 0; decide
    refine Gw_callV (As := [.int 1]) (gV_ok D I) (ct_159736_SpillForgeModel_no l hl0 D I γ el P160103 F160161 q160105 1 hT160956 htq160105) dr_cX17_feed_20 ⟨wr_7_191, wr_1_14, wr_7_194, by decide, rfl, (Nat.le_of_ble_eq_true rfl), (Nat.le_of_ble_eq_true rfl)⟩ wr_7_193 wr_p_73 hm160112 he160164 rfl (show 0 + 0 ≤ 0 by first | omega | decide) (show 0 + 0 ≤ 0 by first | omega | decide) (Nat.le_of_ble_eq_true rfl) (fun r160962 w160963 dc160959 ds160960 hp160961 => ?_) (fun _ _ _ _ _ z => z.elim)
    obtain ⟨F160966, rfl, rfl, hT160967, hs160968, hdc, hds, x160964, x160965⟩ := hp160961
    have hs160969 : rStr γ [] F160104 F160966 := rStr_tr hs160165 hs160968
    rw [show Int32.toInt 1 = 1 from by decide] at x160965
    change G _ _ _ _ _ _ _ (.int 0 :: _) _ _ _
    refine G_widen (cs' := 0) (sl' := 0) (by omega) (by omega) ?_
    have hm160970 : q160105 ∈ P160103 := RS_m hT160967 htq160105 (by decide)
    obtain ⟨q160972, q160973, p160974, p160975, p160976, p160977, p160978, p160979, p160980, p160981, p160982, p160983, p160984, p160985, p160986, p160987, p160988, he160971, hB161015, ht160989, ht160990, ht160991, ht160992, ht160993, ht160994, ht160995, ht160996, ht160997, ht160998, ht160999, ht161000, ht161001, ht161002, ht161003, ht161004, ht161005, ht161006, ht161007, ht161008, ht161009, ht161010, ht161011, ht161012, hB161016⟩ := show rk_10 γ (F160966 q160105) from RS_o hT160967 htq160105
    have ac161017 : (fI (F160966 q160105) 32).toInt = p160986.toInt := by rw [he160971]; rfl
    have bp160986 : gB p160986 0 8192 := (hB161015.2.2.2.2.2.2.2.1)
    have ac161018 : (fI (F160966 q160105) 30).toInt = p160985.toInt := by rw [he160971]; rfl
    have bp160985 : gB p160985 (-2147483648) 2147483647 := (gB_any p160985)
    have ac161019 : (fI (F160966 q160105) 32).toInt = p160986.toInt := by rw [he160971]; rfl
    have ac161020 : (fI (F160966 q160105) 30).toInt = p160985.toInt := by rw [he160971]; rfl
    exact G_iretA dr_cX17_feed_23 rfl (Nat.le_of_ble_eq_true rfl) (Nat.le_of_ble_eq_true rfl) ⟨F160966, 0, rfl, rfl, hT160967, hs160969, (Nat.le_of_ble_eq_true rfl), (Nat.le_of_ble_eq_true rfl), (gB_w (gBl (show Int32.toInt 0 = 0 by decide)) (by decide) (by decide)), (by have qa0 : Int32.toInt 0 = 0 := (by decide); omega)⟩
abbrev ky_161027_SpillForgeModel_end : gKey := (cX17_end, 2, "SpillForgeModel", (some FieldType.int), [], "end", fun _ _ => True)
def pt_161027_SpillForgeModel_end (D : va_G) (I : FieldType → ClassId) (γ el : Nat → Nat → Nat) (P161023 : List Nat) (F161024 : Nat → va_E) (q161025 : Nat) (p161026 : Int32) : Option Value → va_W → Nat → Nat → Prop := fun r w dc ds => ∃ (F161228 : Nat → va_E) (o161227 : Int32), r = some (.int o161227) ∧ w = va_pl P161023 F161228 ∧ RS D I P161023 F161228 γ el ∧ rStr γ [] F161024 F161228 ∧ dc ≤ 0 ∧ ds ≤ 0 ∧ gB o161227 0 8192 ∧ ((0 ≤ p161026.toInt ∧ p161026.toInt ≤ (fI (F161024 q161025) 32).toInt ∧ o161227.toInt = p161026.toInt ∧ (fI (F161228 q161025) 32).toInt = p161026.toInt ∧ (fI (F161228 q161025) 30).toInt = 0) ∨ ((p161026.toInt < 0 ∨ (fI (F161024 q161025) 32).toInt < p161026.toInt) ∧ (fI (F161228 q161025) 30).toInt = 1 ∧ (fI (F161228 q161025) 32).toInt = (fI (F161024 q161025) 32).toInt))
set_option maxRecDepth 100000 in
set_option maxHeartbeats 4000000 in
theorem ct_161027_SpillForgeModel_end (l : Launch) (hl0 : l.stackTraces = false) (D : va_G) (I : FieldType → ClassId) (γ el : Nat → Nat → Nat) (P161023 : List Nat) (F161024 : Nat → va_E) (q161025 : Nat) (p161026 : Int32) (hT : RS D I P161023 F161024 γ el) (htq161025 : rKd γ q161025 10) : CtA (gV D I) l yX17_end cX17_end 2 (some FieldType.int) 1 21 0 0 [.ref q161025, .int p161026] (va_pl P161023 F161024) (pt_161027_SpillForgeModel_end D I γ el P161023 F161024 q161025 p161026) gNA := by
  refine CtA_of hl0 (by decide) (Nat.le_of_ble_eq_true rfl) ?_
  have bp161026 := gB_any p161026
  have hm161028 : q161025 ∈ P161023 := RS_m hT htq161025 (by decide)
  obtain ⟨q161030, q161031, p161032, p161033, p161034, p161035, p161036, p161037, p161038, p161039, p161040, p161041, p161042, p161043, p161044, p161045, p161046, he161029, hB161073, ht161047, ht161048, ht161049, ht161050, ht161051, ht161052, ht161053, ht161054, ht161055, ht161056, ht161057, ht161058, ht161059, ht161060, ht161061, ht161062, ht161063, ht161064, ht161065, ht161066, ht161067, ht161068, ht161069, ht161070, hB161074⟩ := show rk_10 γ (F161024 q161025) from RS_o hT htq161025
  have ac161075 : (fI (F161024 q161025) 32).toInt = p161044.toInt := by rw [he161029]; rfl
  have bp161044 : gB p161044 0 8192 := (hB161073.2.2.2.2.2.2.2.1)
  have ac161076 : (fI (F161024 q161025) 30).toInt = p161043.toInt := by rw [he161029]; rfl
  have bp161043 : gB p161043 (-2147483648) 2147483647 := (gB_any p161043)
  refine G_aload_n 0 dr_cX17_end_0 rfl ?_
  refine G_iconst 0 dr_cX17_end_1 (by decide +kernel) ?_
  refine Gp_put 30 hm161028 he161029 dr_cX17_end_2 (gk_X17 D I) (Nat.le_of_ble_eq_true rfl) wr_7_104 rfl rfl rfl (Nat.le_of_ble_eq_true rfl) (fun F161077 e161078 n161079 => ?_)
  have he161080 : F161077 q161025 = .inr (22, [.ref (γ 9 0), .ref (γ 9 1), .ref (γ 9 2), .ref (γ 9 3), .ref (γ 9 4), .ref (γ 9 5), .ref (γ 9 6), .ref (γ 9 7), .ref (γ 9 8), .int p161032, .int p161033, .int p161034, .int p161035, .int p161036, .int p161037, .ref (γ 9 15), .ref (γ 9 16), .ref (γ 9 17), .ref (γ 9 18), .ref (γ 9 19), .ref (γ 9 20), .ref (γ 9 21), .ref (γ 9 22), .int p161038, .int p161039, .int p161040, .int p161041, .int p161042, .ref q161030, .ref (γ 9 29), .int 0, .ref (γ 9 31), .int p161044, .int p161045, .int p161046, .ref q161031]) := e161078
  have hs161081 : rStr γ [] F161024 F161077 := rStr_put (rStr_rf (γ := γ) (W := []) (F := F161024)) n161079 htq161025 (by decide)
  refine G_iload_n 1 dr_cX17_end_5 rfl ?_
  refine G_if_lt 17 dr_cX17_end_6 (by decide +kernel) (fun hc161082 => ?_) (fun hc161082 => ?_)
  · have r161083 : p161026.toInt < 0 := gj_lt hc161082 (show Int32.toInt 0 = 0 by decide)
    have bp161026' : gB p161026 (-2147483648) (-1) := ⟨by omega, by omega⟩
    refine G_aload_n 0 dr_cX17_end_17 rfl ?_
    refine G_iconst 1 dr_cX17_end_18 (by decide +kernel) ?_
    have hT161084 : RS D I P161023 F161077 γ el := RS_set hT n161079 htq161025 (by decide) ⟨q161030, q161031, p161032, p161033, p161034, p161035, p161036, p161037, p161038, p161039, p161040, p161041, p161042, 0, p161044, p161045, p161046, he161080, ⟨(hB161073.1), (hB161073.2.1), (hB161073.2.2.1), (hB161073.2.2.2.1), (hB161073.2.2.2.2.1), (hB161073.2.2.2.2.2.1), (hB161073.2.2.2.2.2.2.1), bp161044, (hB161073.2.2.2.2.2.2.2.2)⟩, ht161047, ht161048, ht161049, ht161050, ht161051, ht161052, ht161053, ht161054, ht161055, ht161056, ht161057, ht161058, ht161059, ht161060, ht161061, ht161062, ht161063, ht161064, ht161065, ht161066, ht161067, ht161068, ht161069, ht161070, hB161074⟩
    have ac161085 : (fI (F161077 q161025) 32).toInt = p161044.toInt := by rw [he161080]; rfl
    have ac161086 : (fI (F161077 q161025) 30).toInt = 0 := by rw [he161080]; show Int32.toInt 0 = 0; decide
    refine Gw_callV (As := [.int 1]) (gV_ok D I) (ct_159736_SpillForgeModel_no l hl0 D I γ el P161023 F161077 q161025 1 hT161084 htq161025) dr_cX17_end_19 ⟨wr_7_191, wr_1_14, wr_7_194, by decide, rfl, (Nat.le_of_ble_eq_true rfl), (Nat.le_of_ble_eq_true rfl)⟩ wr_7_193 wr_p_73 hm161028 he161080 rfl (show 0 + 0 ≤ 0 by first | omega | decide) (show 0 + 0 ≤ 0 by first | omega | decide) (Nat.le_of_ble_eq_true rfl) (fun r161090 w161091 dc161087 ds161088 hp161089 => ?_) (fun _ _ _ _ _ z => z.elim)
    obtain ⟨F161094, rfl, rfl, hT161095, hs161096, hdc, hds, x161092, x161093⟩ := hp161089
    have hs161097 : rStr γ [] F161024 F161094 := rStr_tr hs161081 hs161096
    rw [show Int32.toInt 1 = 1 from by decide] at x161093
    change G _ _ _ _ _ _ _ (.int 0 :: _) _ _ _
    refine G_widen (cs' := 0) (sl' := 0) (by omega) (by omega) ?_
    have hm161098 : q161025 ∈ P161023 := RS_m hT161095 htq161025 (by decide)
    obtain ⟨q161100, q161101, p161102, p161103, p161104, p161105, p161106, p161107, p161108, p161109, p161110, p161111, p161112, p161113, p161114, p161115, p161116, he161099, hB161143, ht161117, ht161118, ht161119, ht161120, ht161121, ht161122, ht161123, ht161124, ht161125, ht161126, ht161127, ht161128, ht161129, ht161130, ht161131, ht161132, ht161133, ht161134, ht161135, ht161136, ht161137, ht161138, ht161139, ht161140, hB161144⟩ := show rk_10 γ (F161094 q161025) from RS_o hT161095 htq161025
    have ac161145 : (fI (F161094 q161025) 32).toInt = p161114.toInt := by rw [he161099]; rfl
    have bp161114 : gB p161114 0 8192 := (hB161143.2.2.2.2.2.2.2.1)
    have ac161146 : (fI (F161094 q161025) 30).toInt = p161113.toInt := by rw [he161099]; rfl
    have bp161113 : gB p161113 (-2147483648) 2147483647 := (gB_any p161113)
    have ac161147 : (fI (F161094 q161025) 32).toInt = p161114.toInt := by rw [he161099]; rfl
    have ac161148 : (fI (F161094 q161025) 30).toInt = p161113.toInt := by rw [he161099]; rfl
    exact G_iretA dr_cX17_end_22 rfl (Nat.le_of_ble_eq_true rfl) (Nat.le_of_ble_eq_true rfl) ⟨F161094, 0, rfl, rfl, hT161095, hs161097, (Nat.le_of_ble_eq_true rfl), (Nat.le_of_ble_eq_true rfl), (gB_w (gBl (show Int32.toInt 0 = 0 by decide)) (by decide) (by decide)), (by have qa0 : Int32.toInt 0 = 0 := (by decide); omega)⟩
  · have r161149 : 0 ≤ p161026.toInt := gj_nlt hc161082 (show Int32.toInt 0 = 0 by decide)
    have bp161026' : gB p161026 0 2147483647 := ⟨by omega, by omega⟩
    refine G_iload_n 1 dr_cX17_end_9 rfl ?_
    refine G_aload_n 0 dr_cX17_end_10 rfl ?_
    refine Gp_get 32 hm161028 he161080 dr_cX17_end_11 (gk_X17 D I) (Nat.le_of_ble_eq_true rfl) wr_7_106 rfl ?_
    refine G_icmp_le 23 dr_cX17_end_14 (by decide +kernel) (fun hc161150 => ?_) (fun hc161150 => ?_)
    · have r161151 : p161026.toInt ≤ p161044.toInt := gC_le hc161150
      have bp161026'' : gB p161026 0 8192 := ⟨by omega, by omega⟩
      refine G_aload_n 0 dr_cX17_end_23 rfl ?_
      refine G_iload_n 1 dr_cX17_end_24 rfl ?_
      refine Gp_put 32 hm161028 he161080 dr_cX17_end_25 (gk_X17 D I) (Nat.le_of_ble_eq_true rfl) wr_7_106 rfl rfl rfl (Nat.le_of_ble_eq_true rfl) (fun F161152 e161153 n161154 => ?_)
      have he161155 : F161152 q161025 = .inr (22, [.ref (γ 9 0), .ref (γ 9 1), .ref (γ 9 2), .ref (γ 9 3), .ref (γ 9 4), .ref (γ 9 5), .ref (γ 9 6), .ref (γ 9 7), .ref (γ 9 8), .int p161032, .int p161033, .int p161034, .int p161035, .int p161036, .int p161037, .ref (γ 9 15), .ref (γ 9 16), .ref (γ 9 17), .ref (γ 9 18), .ref (γ 9 19), .ref (γ 9 20), .ref (γ 9 21), .ref (γ 9 22), .int p161038, .int p161039, .int p161040, .int p161041, .int p161042, .ref q161030, .ref (γ 9 29), .int 0, .ref (γ 9 31), .int p161026, .int p161045, .int p161046, .ref q161031]) := e161153
      have hs161156 : rStr γ [] F161024 F161152 := rStr_put hs161081 n161154 htq161025 (by decide)
      have n161157 : ∀ b, b ≠ q161025 → F161152 b = F161024 b := fun b hb => (n161154 b hb).trans (n161079 b hb)
      refine G_iload_n 1 dr_cX17_end_28 rfl ?_
      have hT161158 : RS D I P161023 F161152 γ el := RS_set hT n161157 htq161025 (by decide) ⟨q161030, q161031, p161032, p161033, p161034, p161035, p161036, p161037, p161038, p161039, p161040, p161041, p161042, 0, p161026, p161045, p161046, he161155, ⟨(hB161073.1), (hB161073.2.1), (hB161073.2.2.1), (hB161073.2.2.2.1), (hB161073.2.2.2.2.1), (hB161073.2.2.2.2.2.1), (hB161073.2.2.2.2.2.2.1), bp161026'', (hB161073.2.2.2.2.2.2.2.2)⟩, ht161047, ht161048, ht161049, ht161050, ht161051, ht161052, ht161053, ht161054, ht161055, ht161056, ht161057, ht161058, ht161059, ht161060, ht161061, ht161062, ht161063, ht161064, ht161065, ht161066, ht161067, ht161068, ht161069, ht161070, hB161074⟩
      have ac161159 : (fI (F161152 q161025) 32).toInt = p161026.toInt := by rw [he161155]; rfl
      have ac161160 : (fI (F161152 q161025) 30).toInt = 0 := by rw [he161155]; show Int32.toInt 0 = 0; decide
      exact G_iretA dr_cX17_end_29 rfl (Nat.le_of_ble_eq_true rfl) (Nat.le_of_ble_eq_true rfl) ⟨F161152, p161026, rfl, rfl, hT161158, hs161156, (Nat.le_of_ble_eq_true rfl), (Nat.le_of_ble_eq_true rfl), bp161026'', (by omega)⟩
    · have r161161 : p161044.toInt < p161026.toInt := gC_nle hc161150
      have bp161026'' : gB p161026 1 2147483647 := ⟨by omega, by omega⟩
      refine G_aload_n 0 dr_cX17_end_17 rfl ?_
      refine G_iconst 1 dr_cX17_end_18 (by decide +kernel) ?_
      have hT161162 : RS D I P161023 F161077 γ el := RS_set hT n161079 htq161025 (by decide) ⟨q161030, q161031, p161032, p161033, p161034, p161035, p161036, p161037, p161038, p161039, p161040, p161041, p161042, 0, p161044, p161045, p161046, he161080, ⟨(hB161073.1), (hB161073.2.1), (hB161073.2.2.1), (hB161073.2.2.2.1), (hB161073.2.2.2.2.1), (hB161073.2.2.2.2.2.1), (hB161073.2.2.2.2.2.2.1), bp161044, (hB161073.2.2.2.2.2.2.2.2)⟩, ht161047, ht161048, ht161049, ht161050, ht161051, ht161052, ht161053, ht161054, ht161055, ht161056, ht161057, ht161058, ht161059, ht161060, ht161061, ht161062, ht161063, ht161064, ht161065, ht161066, ht161067, ht161068, ht161069, ht161070, hB161074⟩
      have ac161163 : (fI (F161077 q161025) 32).toInt = p161044.toInt := by rw [he161080]; rfl
      have ac161164 : (fI (F161077 q161025) 30).toInt = 0 := by rw [he161080]; show Int32.toInt 0 = 0; decide
      refine Gw_callV (As := [.int 1]) (gV_ok D I) (ct_159736_SpillForgeModel_no l hl0 D I γ el P161023 F161077 q161025 1 hT161162 htq161025) dr_cX17_end_19 ⟨wr_7_191, wr_1_14, wr_7_194, by decide, rfl, (Nat.le_of_ble_eq_true rfl), (Nat.le_of_ble_eq_true rfl)⟩ wr_7_193 wr_p_73 hm161028 he161080 rfl (show 0 + 0 ≤ 0 by first | omega | decide) (show 0 + 0 ≤ 0 by first | omega | decide) (Nat.le_of_ble_eq_true rfl) (fun r161168 w161169 dc161165 ds161166 hp161167 => ?_) (fun _ _ _ _ _ z => z.elim)
      obtain ⟨F161172, rfl, rfl, hT161173, hs161174, hdc, hds, x161170, x161171⟩ := hp161167
      have hs161175 : rStr γ [] F161024 F161172 := rStr_tr hs161081 hs161174
      rw [show Int32.toInt 1 = 1 from by decide] at x161171
      change G _ _ _ _ _ _ _ (.int 0 :: _) _ _ _
      refine G_widen (cs' := 0) (sl' := 0) (by omega) (by omega) ?_
      have hm161176 : q161025 ∈ P161023 := RS_m hT161173 htq161025 (by decide)
      obtain ⟨q161178, q161179, p161180, p161181, p161182, p161183, p161184, p161185, p161186, p161187, p161188, p161189, p161190, p161191, p161192, p161193, p161194, he161177, hB161221, ht161195, ht161196, ht161197, ht161198, ht161199, ht161200, ht161201, ht161202, ht161203, ht161204, ht161205, ht161206, ht161207, ht161208, ht161209, ht161210, ht161211, ht161212, ht161213, ht161214, ht161215, ht161216, ht161217, ht161218, hB161222⟩ := show rk_10 γ (F161172 q161025) from RS_o hT161173 htq161025
      have ac161223 : (fI (F161172 q161025) 32).toInt = p161192.toInt := by rw [he161177]; rfl
      have bp161192 : gB p161192 0 8192 := (hB161221.2.2.2.2.2.2.2.1)
      have ac161224 : (fI (F161172 q161025) 30).toInt = p161191.toInt := by rw [he161177]; rfl
      have bp161191 : gB p161191 (-2147483648) 2147483647 := (gB_any p161191)
      have ac161225 : (fI (F161172 q161025) 32).toInt = p161192.toInt := by rw [he161177]; rfl
      have ac161226 : (fI (F161172 q161025) 30).toInt = p161191.toInt := by rw [he161177]; rfl
      exact G_iretA dr_cX17_end_22 rfl (Nat.le_of_ble_eq_true rfl) (Nat.le_of_ble_eq_true rfl) ⟨F161172, 0, rfl, rfl, hT161173, hs161175, (Nat.le_of_ble_eq_true rfl), (Nat.le_of_ble_eq_true rfl), (gB_w (gBl (show Int32.toInt 0 = 0 by decide)) (by decide) (by decide)), (by have qa0 : Int32.toInt 0 = 0 := (by decide); omega)⟩
