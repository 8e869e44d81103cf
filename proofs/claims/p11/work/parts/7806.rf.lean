theorem dr_cX17_shown_0 : decode cX17_shown 0 = .ok (.aload_n 0, 1) := by decide +kernel
theorem dr_cX17_shown_1 : decode cX17_shown 1 = .ok (.iconst 0, 1) := by decide +kernel
theorem dr_cX17_shown_2 : decode cX17_shown 2 = .ok (.putfield 380, 3) := by decide +kernel
theorem dr_cX17_shown_5 : decode cX17_shown 5 = .ok (.iload_n 1, 1) := by decide +kernel
theorem dr_cX17_shown_6 : decode cX17_shown 6 = .ok (.ifCond .lt 20, 3) := by decide +kernel
theorem dr_cX17_shown_26 : decode cX17_shown 26 = .ok (.aload_n 0, 1) := by decide +kernel
theorem dr_cX17_shown_27 : decode cX17_shown 27 = .ok (.iconst 1, 1) := by decide +kernel
theorem dr_cX17_shown_28 : decode cX17_shown 28 = .ok (.invokevirtual 385, 3) := by decide +kernel
theorem dr_cX17_shown_31 : decode cX17_shown 31 = .ok (.ireturn, 1) := by decide +kernel
theorem dr_cX17_shown_9 : decode cX17_shown 9 = .ok (.iload_n 1, 1) := by decide +kernel
theorem dr_cX17_shown_10 : decode cX17_shown 10 = .ok (.aload_n 0, 1) := by decide +kernel
theorem dr_cX17_shown_11 : decode cX17_shown 11 = .ok (.getfield 280, 3) := by decide +kernel
theorem dr_cX17_shown_14 : decode cX17_shown 14 = .ok (.if_icmp .ge 12, 3) := by decide +kernel
theorem dr_cX17_shown_17 : decode cX17_shown 17 = .ok (.aload_n 0, 1) := by decide +kernel
theorem dr_cX17_shown_18 : decode cX17_shown 18 = .ok (.getfield 306, 3) := by decide +kernel
theorem dr_cX17_shown_21 : decode cX17_shown 21 = .ok (.iload_n 1, 1) := by decide +kernel
theorem dr_cX17_shown_22 : decode cX17_shown 22 = .ok (.iaload, 1) := by decide +kernel
theorem dr_cX17_shown_23 : decode cX17_shown 23 = .ok (.goto 8, 3) := by decide +kernel
theorem dr_cX17_thrown_0 : decode cX17_thrown 0 = .ok (.aload_n 0, 1) := by decide +kernel
theorem dr_cX17_thrown_1 : decode cX17_thrown 1 = .ok (.getfield 380, 3) := by decide +kernel
theorem dr_cX17_thrown_4 : decode cX17_thrown 4 = .ok (.ireturn, 1) := by decide +kernel
theorem dr_cX17_word_0 : decode cX17_word 0 = .ok (.iconst 0, 1) := by decide +kernel
theorem dr_cX17_word_1 : decode cX17_word 1 = .ok (.istore_n 3, 1) := by decide +kernel
theorem dr_cX17_word_2 : decode cX17_word 2 = .ok (.iload_n 3, 1) := by decide +kernel
theorem dr_cX17_word_3 : decode cX17_word 3 = .ok (.iconst 4, 1) := by decide +kernel
theorem dr_cX17_word_4 : decode cX17_word 4 = .ok (.if_icmp .ge 27, 3) := by decide +kernel
theorem dr_cX17_word_31 : decode cX17_word 31 = .ok (.return_, 1) := by decide +kernel
theorem dr_cX17_word_7 : decode cX17_word 7 = .ok (.aload_n 0, 1) := by decide +kernel
theorem dr_cX17_word_8 : decode cX17_word 8 = .ok (.getfield 374, 3) := by decide +kernel
theorem wr_7_105 : (Jvm.Cond.fieldLink "SpillForgeModel" (374 : Nat) "SpillForgeModel" "tape" "[B") ∈ gw := gw_7 105 rfl rfl
theorem dr_cX17_word_11 : decode cX17_word 11 = .ok (.iload_n 2, 1) := by decide +kernel
theorem dr_cX17_word_12 : decode cX17_word 12 = .ok (.iload_n 3, 1) := by decide +kernel
theorem dr_cX17_word_13 : decode cX17_word 13 = .ok (.iadd, 1) := by decide +kernel
theorem dr_cX17_word_14 : decode cX17_word 14 = .ok (.iload_n 1, 1) := by decide +kernel
theorem dr_cX17_word_15 : decode cX17_word 15 = .ok (.bipush 24, 2) := by decide +kernel
theorem dr_cX17_word_17 : decode cX17_word 17 = .ok (.bipush 8, 2) := by decide +kernel
theorem dr_cX17_word_19 : decode cX17_word 19 = .ok (.iload_n 3, 1) := by decide +kernel
theorem dr_cX17_word_20 : decode cX17_word 20 = .ok (.imul, 1) := by decide +kernel
theorem dr_cX17_word_21 : decode cX17_word 21 = .ok (.isub, 1) := by decide +kernel
theorem dr_cX17_word_22 : decode cX17_word 22 = .ok (.ishr, 1) := by decide +kernel
theorem dr_cX17_word_23 : decode cX17_word 23 = .ok (.i2b, 1) := by decide +kernel
theorem dr_cX17_word_24 : decode cX17_word 24 = .ok (.bastore, 1) := by decide +kernel
theorem dr_cX17_word_25 : decode cX17_word 25 = .ok (.iinc 3 1, 3) := by decide +kernel
theorem dr_cX17_word_28 : decode cX17_word 28 = .ok (.goto (-26), 3) := by decide +kernel
theorem dr_cX17_feed_0 : decode cX17_feed 0 = .ok (.aload_n 0, 1) := by decide +kernel
theorem dr_cX17_feed_1 : decode cX17_feed 1 = .ok (.iconst 0, 1) := by decide +kernel
theorem dr_cX17_feed_2 : decode cX17_feed 2 = .ok (.putfield 380, 3) := by decide +kernel
theorem dr_cX17_feed_5 : decode cX17_feed 5 = .ok (.aload_n 0, 1) := by decide +kernel
theorem dr_cX17_feed_6 : decode cX17_feed 6 = .ok (.getfield 383, 3) := by decide +kernel
theorem wr_7_106 : (Jvm.Cond.fieldLink "SpillForgeModel" (383 : Nat) "SpillForgeModel" "size" "I") ∈ gw := gw_7 106 rfl rfl
theorem dr_cX17_feed_9 : decode cX17_feed 9 = .ok (.bipush 20, 2) := by decide +kernel
theorem dr_cX17_feed_11 : decode cX17_feed 11 = .ok (.iadd, 1) := by decide +kernel
theorem dr_cX17_feed_12 : decode cX17_feed 12 = .ok (.sipush 8192, 3) := by decide +kernel
theorem dr_cX17_feed_15 : decode cX17_feed 15 = .ok (.if_icmp .le 9, 3) := by decide +kernel
theorem dr_cX17_feed_24 : decode cX17_feed 24 = .ok (.aload_n 0, 1) := by decide +kernel
theorem dr_cX17_feed_25 : decode cX17_feed 25 = .ok (.iload_n 1, 1) := by decide +kernel
theorem dr_cX17_feed_26 : decode cX17_feed 26 = .ok (.aload_n 0, 1) := by decide +kernel
theorem dr_cX17_feed_27 : decode cX17_feed 27 = .ok (.getfield 383, 3) := by decide +kernel
theorem dr_cX17_feed_30 : decode cX17_feed 30 = .ok (.invokevirtual 388, 3) := by decide +kernel
theorem wr_7_195 : (Jvm.Cond.methodLink "SpillForgeModel" (388 : Nat) ({ cls := "SpillForgeModel", name := "word", desc := "(II)V" } : Jvm.MethodName)) ∈ gw := gw_7 195 rfl rfl
theorem wr_7_198 : (Jvm.Cond.code ({ cls := "SpillForgeModel", name := "word", desc := "(II)V" } : Jvm.MethodName) prog_14_method_39_code (4 : Nat) (Option.none : Option Jvm.ClassFile.FieldType)) ∈ gw := gw_7 198 rfl rfl
theorem wr_7_197 : (Jvm.Cond.instanceMethod ({ cls := "SpillForgeModel", name := "word", desc := "(II)V" } : Jvm.MethodName)) ∈ gw := gw_7 197 rfl rfl
theorem wr_p_74 : Cond.selects "SpillForgeModel" ⟨"SpillForgeModel", "word", "(II)V"⟩ ⟨"SpillForgeModel", "word", "(II)V"⟩ ∈ gw := gw_p _ 74 rfl rfl rfl
theorem dr_cX17_feed_33 : decode cX17_feed 33 = .ok (.aload_n 0, 1) := by decide +kernel
theorem dr_cX17_feed_34 : decode cX17_feed 34 = .ok (.iload_n 2, 1) := by decide +kernel
theorem dr_cX17_feed_35 : decode cX17_feed 35 = .ok (.aload_n 0, 1) := by decide +kernel
theorem dr_cX17_feed_36 : decode cX17_feed 36 = .ok (.getfield 383, 3) := by decide +kernel
theorem dr_cX17_feed_39 : decode cX17_feed 39 = .ok (.iconst 4, 1) := by decide +kernel
theorem dr_cX17_feed_40 : decode cX17_feed 40 = .ok (.iadd, 1) := by decide +kernel
theorem dr_cX17_feed_41 : decode cX17_feed 41 = .ok (.invokevirtual 388, 3) := by decide +kernel
theorem dr_cX17_feed_44 : decode cX17_feed 44 = .ok (.aload_n 0, 1) := by decide +kernel
theorem dr_cX17_feed_45 : decode cX17_feed 45 = .ok (.iload_n 3, 1) := by decide +kernel
theorem dr_cX17_feed_46 : decode cX17_feed 46 = .ok (.aload_n 0, 1) := by decide +kernel
theorem dr_cX17_feed_47 : decode cX17_feed 47 = .ok (.getfield 383, 3) := by decide +kernel
theorem dr_cX17_feed_50 : decode cX17_feed 50 = .ok (.bipush 8, 2) := by decide +kernel
theorem dr_cX17_feed_52 : decode cX17_feed 52 = .ok (.iadd, 1) := by decide +kernel
theorem dr_cX17_feed_53 : decode cX17_feed 53 = .ok (.invokevirtual 388, 3) := by decide +kernel
theorem dr_cX17_feed_56 : decode cX17_feed 56 = .ok (.aload_n 0, 1) := by decide +kernel
theorem dr_cX17_feed_57 : decode cX17_feed 57 = .ok (.iload 4, 2) := by decide +kernel
theorem dr_cX17_feed_59 : decode cX17_feed 59 = .ok (.aload_n 0, 1) := by decide +kernel
theorem dr_cX17_feed_60 : decode cX17_feed 60 = .ok (.getfield 383, 3) := by decide +kernel
theorem dr_cX17_feed_63 : decode cX17_feed 63 = .ok (.bipush 12, 2) := by decide +kernel
theorem dr_cX17_feed_65 : decode cX17_feed 65 = .ok (.iadd, 1) := by decide +kernel
theorem dr_cX17_feed_66 : decode cX17_feed 66 = .ok (.invokevirtual 388, 3) := by decide +kernel
theorem dr_cX17_feed_69 : decode cX17_feed 69 = .ok (.aload_n 0, 1) := by decide +kernel
theorem dr_cX17_feed_70 : decode cX17_feed 70 = .ok (.iload 5, 2) := by decide +kernel
theorem dr_cX17_feed_72 : decode cX17_feed 72 = .ok (.aload_n 0, 1) := by decide +kernel
theorem dr_cX17_feed_73 : decode cX17_feed 73 = .ok (.getfield 383, 3) := by decide +kernel
theorem dr_cX17_feed_76 : decode cX17_feed 76 = .ok (.bipush 16, 2) := by decide +kernel
theorem dr_cX17_feed_78 : decode cX17_feed 78 = .ok (.iadd, 1) := by decide +kernel
theorem dr_cX17_feed_79 : decode cX17_feed 79 = .ok (.invokevirtual 388, 3) := by decide +kernel
theorem dr_cX17_feed_82 : decode cX17_feed 82 = .ok (.aload_n 0, 1) := by decide +kernel
theorem dr_cX17_feed_83 : decode cX17_feed 83 = .ok (.dup, 1) := by decide +kernel
theorem dr_cX17_feed_84 : decode cX17_feed 84 = .ok (.getfield 383, 3) := by decide +kernel
theorem dr_cX17_feed_87 : decode cX17_feed 87 = .ok (.bipush 20, 2) := by decide +kernel
theorem dr_cX17_feed_89 : decode cX17_feed 89 = .ok (.iadd, 1) := by decide +kernel
theorem dr_cX17_feed_90 : decode cX17_feed 90 = .ok (.putfield 383, 3) := by decide +kernel
theorem dr_cX17_feed_93 : decode cX17_feed 93 = .ok (.aload_n 0, 1) := by decide +kernel
theorem dr_cX17_feed_94 : decode cX17_feed 94 = .ok (.getfield 383, 3) := by decide +kernel
theorem dr_cX17_feed_97 : decode cX17_feed 97 = .ok (.ireturn, 1) := by decide +kernel
theorem dr_cX17_feed_18 : decode cX17_feed 18 = .ok (.aload_n 0, 1) := by decide +kernel
theorem dr_cX17_feed_19 : decode cX17_feed 19 = .ok (.iconst 1, 1) := by decide +kernel
theorem dr_cX17_feed_20 : decode cX17_feed 20 = .ok (.invokevirtual 385, 3) := by decide +kernel
theorem dr_cX17_feed_23 : decode cX17_feed 23 = .ok (.ireturn, 1) := by decide +kernel
theorem dr_cX17_end_0 : decode cX17_end 0 = .ok (.aload_n 0, 1) := by decide +kernel
theorem dr_cX17_end_1 : decode cX17_end 1 = .ok (.iconst 0, 1) := by decide +kernel
theorem dr_cX17_end_2 : decode cX17_end 2 = .ok (.putfield 380, 3) := by decide +kernel
theorem dr_cX17_end_5 : decode cX17_end 5 = .ok (.iload_n 1, 1) := by decide +kernel
theorem dr_cX17_end_6 : decode cX17_end 6 = .ok (.ifCond .lt 11, 3) := by decide +kernel
theorem dr_cX17_end_17 : decode cX17_end 17 = .ok (.aload_n 0, 1) := by decide +kernel
theorem dr_cX17_end_18 : decode cX17_end 18 = .ok (.iconst 1, 1) := by decide +kernel
theorem dr_cX17_end_19 : decode cX17_end 19 = .ok (.invokevirtual 385, 3) := by decide +kernel
theorem dr_cX17_end_22 : decode cX17_end 22 = .ok (.ireturn, 1) := by decide +kernel
theorem dr_cX17_end_9 : decode cX17_end 9 = .ok (.iload_n 1, 1) := by decide +kernel
theorem dr_cX17_end_10 : decode cX17_end 10 = .ok (.aload_n 0, 1) := by decide +kernel
theorem dr_cX17_end_11 : decode cX17_end 11 = .ok (.getfield 383, 3) := by decide +kernel
theorem dr_cX17_end_14 : decode cX17_end 14 = .ok (.if_icmp .le 9, 3) := by decide +kernel
theorem dr_cX17_end_23 : decode cX17_end 23 = .ok (.aload_n 0, 1) := by decide +kernel
theorem dr_cX17_end_24 : decode cX17_end 24 = .ok (.iload_n 1, 1) := by decide +kernel
theorem dr_cX17_end_25 : decode cX17_end 25 = .ok (.putfield 383, 3) := by decide +kernel
theorem dr_cX17_end_28 : decode cX17_end 28 = .ok (.iload_n 1, 1) := by decide +kernel
theorem dr_cX17_end_29 : decode cX17_end 29 = .ok (.ireturn, 1) := by decide +kernel