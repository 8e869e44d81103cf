theorem dr_cX17_shown_0 : decode cX17_shown 0 = .ok (.aload_n 0, 1) := by decide +kernel
theorem dr_cX17_shown_1 : decode cX17_shown 1 = .ok (.iconst 0, 1) := by decide +kernel
theorem dr_cX17_shown_2 : decode cX17_shown 2 = .ok (.putfield 380, 3) := by decide +kernel
theorem dr_cX17_shown_5 : decode cX17_shown 5 = .ok (.iload_n 1, 1) := by decide +kernel
theorem dr_cX17_shown_6 : decode cX17_shown 6 = .ok (.ifCond .lt 20, 3) := by decide +kernel
theorem dr_cX17_shown_26 : decode cX17_shown 26 = .ok (.aload_n 0, 1) := by decide +kernel
theorem dr_cX17_shown_27 : decode cX17_shown 27 = .ok (.iconst 1, 1) := by decide +kernel
theorem dr_cX17_shown_28 : decode cX17_shown 28 = .ok (.invokevirtual 385, 3) := by decide +kernel
theorem dr_cX17_shown_31 : decode cX17_shown 31 = .ok (.ireturn, 1) := by decide +kernel
theorem dr_cX17_shown_9 : decode cX17_shown 9 = .ok (.iload_n 1, 1) := by decide +kernel
theorem dr_cX17_shown_10 : decode cX17_shown 10 = .ok (.aload_n 0, 1) := by decide +kernel
theorem dr_cX17_shown_11 : decode cX17_shown 11 = .ok (.getfield 280, 3) := by decide +kernel
theorem dr_cX17_shown_14 : decode cX17_shown 14 = .ok (.if_icmp .ge 12, 3) := by decide +kernel
theorem dr_cX17_shown_17 : decode cX17_shown 17 = .ok (.aload_n 0, 1) := by decide +kernel
theorem dr_cX17_shown_18 : decode cX17_shown 18 = .ok (.getfield 306, 3) := by decide +kernel
theorem dr_cX17_shown_21 : decode cX17_shown 21 = .ok (.iload_n 1, 1) := by decide +kernel
theorem dr_cX17_shown_22 : decode cX17_shown 22 = .ok (.iaload, 1) := by decide +kernel
theorem dr_cX17_shown_23 : decode cX17_shown 23 = .ok (.goto 8, 3) := by decide +kernel
theorem dr_cX17_word_0 : decode cX17_word 0 = .ok (.iconst 0, 1) := by decide +kernel
theorem dr_cX17_word_1 : decode cX17_word 1 = .ok (.istore_n 3, 1) := by decide +kernel
theorem dr_cX17_word_2 : decode cX17_word 2 = .ok (.iload_n 3, 1) := by decide +kernel
theorem dr_cX17_word_3 : decode cX17_word 3 = .ok (.iconst 4, 1) := by decide +kernel
theorem dr_cX17_word_4 : decode cX17_word 4 = .ok (.if_icmp .ge 27, 3) := by decide +kernel
theorem dr_cX17_word_31 : decode cX17_word 31 = .ok (.return_, 1) := by decide +kernel
theorem dr_cX17_word_7 : decode cX17_word 7 = .ok (.aload_n 0, 1) := by decide +kernel
theorem dr_cX17_word_8 : decode cX17_word 8 = .ok (.getfield 374, 3) := by decide +kernel
theorem wr_7_105 : (Jvm.Cond.fieldLink "SpillForgeModel" (374 : Nat) "SpillForgeModel" "tape" "[B") ∈ gw := gw_7 105 rfl rfl
theorem dr_cX17_word_11 : decode cX17_word 11 = .ok (.iload_n 2, 1) := by decide +kernel
theorem dr_cX17_word_12 : decode cX17_word 12 = .ok (.iload_n 3, 1) := by decide +kernel
theorem dr_cX17_word_13 : decode cX17_word 13 = .ok (.iadd, 1) := by decide +kernel
theorem dr_cX17_word_14 : decode cX17_word 14 = .ok (.iload_n 1, 1) := by decide +kernel
theorem dr_cX17_word_15 : decode cX17_word 15 = .ok (.bipush 24, 2) := by decide +kernel
theorem dr_cX17_word_17 : decode cX17_word 17 = .ok (.bipush 8, 2) := by decide +kernel
theorem dr_cX17_word_19 : decode cX17_word 19 = .ok (.iload_n 3, 1) := by decide +kernel
theorem dr_cX17_word_20 : decode cX17_word 20 = .ok (.imul, 1) := by decide +kernel
theorem dr_cX17_word_21 : decode cX17_word 21 = .ok (.isub, 1) := by decide +kernel
theorem dr_cX17_word_22 : decode cX17_word 22 = .ok (.ishr, 1) := by decide +kernel
theorem dr_cX17_word_23 : decode cX17_word 23 = .ok (.i2b, 1) := by decide +kernel
theorem dr_cX17_word_24 : decode cX17_word 24 = .ok (.bastore, 1) := by decide +kernel
theorem dr_cX17_word_25 : decode cX17_word 25 = .ok (.iinc 3 1, 3) := by decide +kernel
theorem dr_cX17_word_28 : decode cX17_word 28 = .ok (.goto (-26), 3) := by decide +kernel
theorem dr_cX17_feed_0 : decode cX17_feed 0 = .ok (.aload_n 0, 1) := by decide +kernel
theorem dr_cX17_feed_1 : decode cX17_feed 1 = .ok (.iconst 0, 1) := by decide +kernel
theorem dr_cX17_feed_2 : decode cX17_feed 2 = .ok (.putfield 380, 3) := by decide +kernel
theorem dr_cX17_feed_5 : decode cX17_feed 5 = .ok (.aload_n 0, 1) := by decide +kernel
theorem dr_cX17_feed_6 : decode cX17_feed 6 = .ok (.getfield 383, 3) := by decide +kernel
theorem wr_7_106 : (Jvm.Cond.fieldLink "SpillForgeModel" (383 : Nat) "SpillForgeModel" "size" "I") ∈ gw := gw_7 106 rfl rfl
theorem dr_cX17_feed_9 : decode cX17_feed 9 = .ok (.bipush 20, 2) := by decide +kernel
theorem dr_cX17_feed_11 : decode cX17_feed 11 = .ok (.iadd, 1) := by decide +kernel
theorem dr_cX17_feed_12 : decode cX17_feed 12 = .ok (.sipush 8192, 3) := by decide +kernel
theorem dr_cX17_feed_15 : decode cX17_feed 15 = .ok (.if_icmp .le 9, 3) := by decide +kernel
theorem dr_cX17_feed_24 : decode cX17_feed 24 = .ok (.aload_n 0, 1) := by decide +kernel
theorem dr_cX17_feed_25 : decode cX17_feed 25 = .ok (.iload_n 1, 1) := by decide +kernel
theorem dr_cX17_feed_26 : decode cX17_feed 26 = .ok (.aload_n 0, 1) := by decide +kernel
theorem dr_cX17_feed_27 : decode cX17_feed 27 = .ok (.getfield 383, 3) := by decide +kernel
theorem dr_cX17_feed_30 : decode cX17_feed 30 = .ok (.invokevirtual 388, 3) := by decide +kernel
theorem wr_7_191 : (Jvm.Cond.methodLink "SpillForgeModel" (388 : Nat) ({ cls := "SpillForgeModel", name := "word", desc := "(II)V" } : Jvm.MethodName)) ∈ gw := gw_7 191 rfl rfl
theorem wr_7_194 : (Jvm.Cond.code ({ cls := "SpillForgeModel", name := "word", desc := "(II)V" } : Jvm.MethodName) prog_14_method_39_code (4 : Nat) (Option.none : Option Jvm.ClassFile.FieldType)) ∈ gw := gw_7 194 rfl rfl
theorem wr_7_193 : (Jvm.Cond.instanceMethod ({ cls := "SpillForgeModel", name := "word", desc := "(II)V" } : Jvm.MethodName)) ∈ gw := gw_7 193 rfl rfl
theorem wr_p_74 : Cond.selects "SpillForgeModel" ⟨"SpillForgeModel", "word", "(II)V"⟩ ⟨"SpillForgeModel", "word", "(II)V"⟩ ∈ gw := gw_p _ 74 rfl rfl rfl
theorem dr_cX17_feed_33 : decode cX17_feed 33 = .ok (.aload_n 0, 1) := by decide +kernel
theorem dr_cX17_feed_34 : decode cX17_feed 34 = .ok (.iload_n 2, 1) := by decide +kernel
theorem dr_cX17_feed_35 : decode cX17_feed 35 = .ok (.aload_n 0, 1) := by decide +kernel
theorem dr_cX17_feed_36 : decode cX17_feed 36 = .ok (.getfield 383, 3) := by decide +kernel
theorem dr_cX17_feed_39 : decode cX17_feed 39 = .ok (.iconst 4, 1) := by decide +kernel
theorem dr_cX17_feed_40 : decode cX17_feed 40 = .ok (.iadd, 1) := by decide +kernel
theorem dr_cX17_feed_41 : decode cX17_feed 41 = .ok (.invokevirtual 388, 3) := by decide +kernel
theorem dr_cX17_feed_44 : decode cX17_feed 44 = .ok (.aload_n 0, 1) := by decide +kernel
theorem dr_cX17_feed_45 : decode cX17_feed 45 = .ok (.iload_n 3, 1) := by decide +kernel
theorem dr_cX17_feed_46 : decode cX17_feed 46 = .ok (.aload_n 0, 1) := by decide +kernel
theorem dr_cX17_feed_47 : decode cX17_feed 47 = .ok (.getfield 383, 3) := by decide +kernel
theorem dr_cX17_feed_50 : decode cX17_feed 50 = .ok (.bipush 8, 2) := by decide +kernel
theorem dr_cX17_feed_52 : decode cX17_feed 52 = .ok (.iadd, 1) := by decide +kernel
theorem dr_cX17_feed_53 : decode cX17_feed 53 = .ok (.invokevirtual 388, 3) := by decide +kernel
theorem dr_cX17_feed_56 : decode cX17_feed 56 = .ok (.aload_n 0, 1) := by decide +kernel
theorem dr_cX17_feed_57 : decode cX17_feed 57 = .ok (.iload 4, 2) := by decide +kernel
theorem dr_cX17_feed_59 : decode cX17_feed 59 = .ok (.aload_n 0, 1) := by decide +kernel
theorem dr_cX17_feed_60 : decode cX17_feed 60 = .ok (.getfield 383, 3) := by decide +kernel
theorem dr_cX17_feed_63 : decode cX17_feed 63 = .ok (.bipush 12, 2) := by decide +kernel
theorem dr_cX17_feed_65 : decode cX17_feed 65 = .ok (.iadd, 1) := by decide +kernel
theorem dr_cX17_feed_66 : decode cX17_feed 66 = .ok (.invokevirtual 388, 3) := by decide +kernel
theorem dr_cX17_feed_69 : decode cX17_feed 69 = .ok (.aload_n 0, 1) := by decide +kernel
theorem dr_cX17_feed_70 : decode cX17_feed 70 = .ok (.iload 5, 2) := by decide +kernel
theorem dr_cX17_feed_72 : decode cX17_feed 72 = .ok (.aload_n 0, 1) := by decide +kernel
theorem dr_cX17_feed_73 : decode cX17_feed 73 = .ok (.getfield 383, 3) := by decide +kernel
theorem dr_cX17_feed_76 : decode cX17_feed 76 = .ok (.bipush 16, 2) := by decide +kernel
theorem dr_cX17_feed_78 : decode cX17_feed 78 = .ok (.iadd, 1) := by decide +kernel
theorem dr_cX17_feed_79 : decode cX17_feed 79 = .ok (.invokevirtual 388, 3) := by decide +kernel
theorem dr_cX17_feed_82 : decode cX17_feed 82 = .ok (.aload_n 0, 1) := by decide +kernel
theorem dr_cX17_feed_83 : decode cX17_feed 83 = .ok (.dup, 1) := by decide +kernel
theorem dr_cX17_feed_84 : decode cX17_feed 84 = .ok (.getfield 383, 3) := by decide +kernel
theorem dr_cX17_feed_87 : decode cX17_feed 87 = .ok (.bipush 20, 2) := by decide +kernel
theorem dr_cX17_feed_89 : decode cX17_feed 89 = .ok (.iadd, 1) := by decide +kernel
theorem dr_cX17_feed_90 : decode cX17_feed 90 = .ok (.putfield 383, 3) := by decide +kernel
theorem dr_cX17_feed_93 : decode cX17_feed 93 = .ok (.aload_n 0, 1) := by decide +kernel
theorem dr_cX17_feed_94 : decode cX17_feed 94 = .ok (.getfield 383, 3) := by decide +kernel
theorem dr_cX17_feed_97 : decode cX17_feed 97 = .ok (.ireturn, 1) := by decide +kernel
theorem dr_cX17_feed_18 : decode cX17_feed 18 = .ok (.aload_n 0, 1) := by decide +kernel
theorem dr_cX17_feed_19 : decode cX17_feed 19 = .ok (.iconst 1, 1) := by decide +kernel
theorem dr_cX17_feed_20 : decode cX17_feed 20 = .ok (.invokevirtual 385, 3) := by decide +kernel
theorem dr_cX17_feed_23 : decode cX17_feed 23 = .ok (.ireturn, 1) := by decide +kernel
theorem dr_cX17_end_0 : decode cX17_end 0 = .ok (.aload_n 0, 1) := by decide +kernel
theorem dr_cX17_end_1 : decode cX17_end 1 = .ok (.iconst 0, 1) := by decide +kernel
theorem dr_cX17_end_2 : decode cX17_end 2 = .ok (.putfield 380, 3) := by decide +kernel
theorem dr_cX17_end_5 : decode cX17_end 5 = .ok (.iload_n 1, 1) := by decide +kernel
theorem dr_cX17_end_6 : decode cX17_end 6 = .ok (.ifCond .lt 11, 3) := by decide +kernel
theorem dr_cX17_end_17 : decode cX17_end 17 = .ok (.aload_n 0, 1) := by decide +kernel
theorem dr_cX17_end_18 : decode cX17_end 18 = .ok (.iconst 1, 1) := by decide +kernel
theorem dr_cX17_end_19 : decode cX17_end 19 = .ok (.invokevirtual 385, 3) := by decide +kernel
theorem dr_cX17_end_22 : decode cX17_end 22 = .ok (.ireturn, 1) := by decide +kernel
theorem dr_cX17_end_9 : decode cX17_end 9 = .ok (.iload_n 1, 1) := by decide +kernel
theorem dr_cX17_end_10 : decode cX17_end 10 = .ok (.aload_n 0, 1) := by decide +kernel
theorem dr_cX17_end_11 : decode cX17_end 11 = .ok (.getfield 383, 3) := by decide +kernel
theorem dr_cX17_end_14 : decode cX17_end 14 = .ok (.if_icmp .le 9, 3) := by decide +kernel
theorem dr_cX17_end_23 : decode cX17_end 23 = .ok (.aload_n 0, 1) := by decide +kernel
theorem dr_cX17_end_24 : decode cX17_end 24 = .ok (.iload_n 1, 1) := by decide +kernel
theorem dr_cX17_end_25 : decode cX17_end 25 = .ok (.putfield 383, 3) := by decide +kernel
theorem dr_cX17_end_28 : decode cX17_end 28 = .ok (.iload_n 1, 1) := by decide +kernel
theorem dr_cX17_end_29 : decode cX17_end 29 = .ok (.ireturn, 1) := by decide +kernel
theorem dr_cX17_run_0 : decode cX17_run 0 = .ok (.iconst 0, 1) := by decide +kernel
theorem dr_cX17_run_1 : decode cX17_run 1 = .ok (.istore_n 3, 1) := by decide +kernel
theorem dr_cX17_run_2 : decode cX17_run 2 = .ok (.iload_n 3, 1) := by decide +kernel
theorem dr_cX17_run_3 : decode cX17_run 3 = .ok (.sipush 2000, 3) := by decide +kernel
theorem dr_cX17_run_6 : decode cX17_run 6 = .ok (.if_icmp .ge 23, 3) := by decide +kernel
theorem dr_cX17_run_29 : decode cX17_run 29 = .ok (.aload_n 0, 1) := by decide +kernel
theorem dr_cX17_run_30 : decode cX17_run 30 = .ok (.iconst 0, 1) := by decide +kernel
theorem dr_cX17_run_31 : decode cX17_run 31 = .ok (.putfield 277, 3) := by decide +kernel
theorem dr_cX17_run_34 : decode cX17_run 34 = .ok (.aload_n 0, 1) := by decide +kernel
theorem dr_cX17_run_35 : decode cX17_run 35 = .ok (.iconst 0, 1) := by decide +kernel
theorem dr_cX17_run_36 : decode cX17_run 36 = .ok (.putfield 280, 3) := by decide +kernel
theorem dr_cX17_run_39 : decode cX17_run 39 = .ok (.aload_n 0, 1) := by decide +kernel
theorem dr_cX17_run_40 : decode cX17_run 40 = .ok (.iconst 0, 1) := by decide +kernel
theorem dr_cX17_run_41 : decode cX17_run 41 = .ok (.putfield 283, 3) := by decide +kernel
theorem dr_cX17_run_44 : decode cX17_run 44 = .ok (.aload_n 0, 1) := by decide +kernel
theorem dr_cX17_run_45 : decode cX17_run 45 = .ok (.iconst 0, 1) := by decide +kernel
theorem dr_cX17_run_46 : decode cX17_run 46 = .ok (.putfield 286, 3) := by decide +kernel
theorem dr_cX17_run_49 : decode cX17_run 49 = .ok (.iconst 0, 1) := by decide +kernel
theorem dr_cX17_run_50 : decode cX17_run 50 = .ok (.istore_n 3, 1) := by decide +kernel
theorem dr_cX17_run_51 : decode cX17_run 51 = .ok (.iconst 0, 1) := by decide +kernel
theorem dr_cX17_run_52 : decode cX17_run 52 = .ok (.istore 4, 2) := by decide +kernel
theorem dr_cX17_run_54 : decode cX17_run 54 = .ok (.aload_n 1, 1) := by decide +kernel
theorem dr_cX17_run_55 : decode cX17_run 55 = .ok (.iload_n 3, 1) := by decide +kernel
theorem dr_cX17_run_56 : decode cX17_run 56 = .ok (.invokevirtual 101, 3) := by decide +kernel
theorem dr_cX17_run_59 : decode cX17_run 59 = .ok (.astore 5, 2) := by decide +kernel
theorem dr_cX17_run_61 : decode cX17_run 61 = .ok (.aload_n 0, 1) := by decide +kernel
theorem dr_cX17_run_62 : decode cX17_run 62 = .ok (.getfield 283, 3) := by decide +kernel
theorem dr_cX17_run_65 : decode cX17_run 65 = .ok (.iload_n 2, 1) := by decide +kernel
theorem dr_cX17_run_66 : decode cX17_run 66 = .ok (.if_icmp .ne 5, 3) := by decide +kernel
theorem dr_cX17_run_71 : decode cX17_run 71 = .ok (.aload_n 0, 1) := by decide +kernel
theorem dr_cX17_run_72 : decode cX17_run 72 = .ok (.dup, 1) := by decide +kernel
theorem dr_cX17_run_73 : decode cX17_run 73 = .ok (.getfield 283, 3) := by decide +kernel
theorem dr_cX17_run_76 : decode cX17_run 76 = .ok (.iconst 1, 1) := by decide +kernel
theorem dr_cX17_run_77 : decode cX17_run 77 = .ok (.iadd, 1) := by decide +kernel
theorem dr_cX17_run_78 : decode cX17_run 78 = .ok (.putfield 283, 3) := by decide +kernel
theorem dr_cX17_run_81 : decode cX17_run 81 = .ok (.iload 4, 2) := by decide +kernel
theorem dr_cX17_run_83 : decode cX17_run 83 = .ok (.aload 5, 2) := by decide +kernel
theorem dr_cX17_run_85 : decode cX17_run 85 = .ok (.getfield 117, 3) := by decide +kernel
theorem wr_9_216 : (Jvm.Cond.fieldLink "SpillForgeModel" (117 : Nat) "SpillForgeModel$Block" "rows" "Ljava/util/ArrayList;") ∈ gw := gw_9 216 rfl rfl
theorem dr_cX17_run_88 : decode cX17_run 88 = .ok (.invokevirtual 121, 3) := by decide +kernel
theorem wr_10_196 : (Jvm.Cond.methodLink "SpillForgeModel" (121 : Nat) ({ cls := "java/util/ArrayList", name := "size", desc := "()I" } : Jvm.MethodName)) ∈ gw := gw_10 196 rfl rfl
theorem dr_cX17_run_91 : decode cX17_run 91 = .ok (.if_icmp .ge 36, 3) := by decide +kernel
theorem dr_cX17_run_127 : decode cX17_run 127 = .ok (.aload 5, 2) := by decide +kernel
theorem dr_cX17_run_129 : decode cX17_run 129 = .ok (.getfield 109, 3) := by decide +kernel
theorem wr_9_219 : (Jvm.Cond.fieldLink "SpillForgeModel" (109 : Nat) "SpillForgeModel$Block" "end" "LSpillForgeModel$Row;") ∈ gw := gw_9 219 rfl rfl
theorem dr_cX17_run_132 : decode cX17_run 132 = .ok (.astore 6, 2) := by decide +kernel
theorem dr_cX17_run_134 : decode cX17_run 134 = .ok (.aload 6, 2) := by decide +kernel
theorem dr_cX17_run_136 : decode cX17_run 136 = .ok (.getfield 39, 3) := by decide +kernel
theorem dr_cX17_run_139 : decode cX17_run 139 = .ok (.bipush 32, 2) := by decide +kernel
theorem dr_cX17_run_141 : decode cX17_run 141 = .ok (.if_icmp .ne 23, 3) := by decide +kernel
theorem dr_cX17_run_164 : decode cX17_run 164 = .ok (.aload 6, 2) := by decide +kernel
theorem dr_cX17_run_166 : decode cX17_run 166 = .ok (.getfield 39, 3) := by decide +kernel
theorem dr_cX17_run_169 : decode cX17_run 169 = .ok (.bipush 30, 2) := by decide +kernel
theorem dr_cX17_run_171 : decode cX17_run 171 = .ok (.if_icmp .eq 20, 3) := by decide +kernel
theorem dr_cX17_run_191 : decode cX17_run 191 = .ok (.aload 5, 2) := by decide +kernel
theorem dr_cX17_run_193 : decode cX17_run 193 = .ok (.getfield 297, 3) := by decide +kernel
theorem wr_9_225 : (Jvm.Cond.fieldLink "SpillForgeModel" (297 : Nat) "SpillForgeModel$Block" "first" "I") ∈ gw := gw_9 225 rfl rfl
theorem dr_cX17_run_196 : decode cX17_run 196 = .ok (.goto 8, 3) := by decide +kernel
theorem dr_cX17_run_204 : decode cX17_run 204 = .ok (.istore_n 3, 1) := by decide +kernel
theorem dr_cX17_run_205 : decode cX17_run 205 = .ok (.iconst 0, 1) := by decide +kernel
theorem dr_cX17_run_206 : decode cX17_run 206 = .ok (.istore 4, 2) := by decide +kernel
theorem dr_cX17_run_208 : decode cX17_run 208 = .ok (.goto (-154), 3) := by decide +kernel
theorem dr_cX17_run_174 : decode cX17_run 174 = .ok (.aload_n 0, 1) := by decide +kernel
theorem dr_cX17_run_175 : decode cX17_run 175 = .ok (.aload 6, 2) := by decide +kernel
theorem dr_cX17_run_177 : decode cX17_run 177 = .ok (.getfield 141, 3) := by decide +kernel
theorem dr_cX17_run_180 : decode cX17_run 180 = .ok (.aload 6, 2) := by decide +kernel
theorem dr_cX17_run_182 : decode cX17_run 182 = .ok (.getfield 73, 3) := by decide +kernel
theorem dr_cX17_run_185 : decode cX17_run 185 = .ok (.invokevirtual 293, 3) := by decide +kernel
theorem dr_cX17_run_188 : decode cX17_run 188 = .ok (.ifCond .eq 11, 3) := by decide +kernel
theorem dr_cX17_run_199 : decode cX17_run 199 = .ok (.aload 5, 2) := by decide +kernel
theorem dr_cX17_run_201 : decode cX17_run 201 = .ok (.getfield 300, 3) := by decide +kernel
theorem wr_9_229 : (Jvm.Cond.fieldLink "SpillForgeModel" (300 : Nat) "SpillForgeModel$Block" "second" "I") ∈ gw := gw_9 229 rfl rfl
theorem dr_cX17_run_144 : decode cX17_run 144 = .ok (.aload_n 0, 1) := by decide +kernel
theorem dr_cX17_run_145 : decode cX17_run 145 = .ok (.aload_n 0, 1) := by decide +kernel
theorem dr_cX17_run_146 : decode cX17_run 146 = .ok (.aload 6, 2) := by decide +kernel
theorem dr_cX17_run_148 : decode cX17_run 148 = .ok (.getfield 141, 3) := by decide +kernel
theorem dr_cX17_run_151 : decode cX17_run 151 = .ok (.aload 6, 2) := by decide +kernel
theorem dr_cX17_run_153 : decode cX17_run 153 = .ok (.getfield 73, 3) := by decide +kernel
theorem dr_cX17_run_156 : decode cX17_run 156 = .ok (.invokevirtual 293, 3) := by decide +kernel
theorem dr_cX17_run_159 : decode cX17_run 159 = .ok (.putfield 277, 3) := by decide +kernel
theorem dr_cX17_run_162 : decode cX17_run 162 = .ok (.iconst 0, 1) := by decide +kernel
theorem dr_cX17_run_163 : decode cX17_run 163 = .ok (.ireturn, 1) := by decide +kernel
theorem dr_cX17_run_94 : decode cX17_run 94 = .ok (.aload_n 0, 1) := by decide +kernel
theorem dr_cX17_run_95 : decode cX17_run 95 = .ok (.aload 5, 2) := by decide +kernel
theorem dr_cX17_run_97 : decode cX17_run 97 = .ok (.getfield 117, 3) := by decide +kernel
theorem dr_cX17_run_100 : decode cX17_run 100 = .ok (.iload 4, 2) := by decide +kernel
theorem dr_cX17_run_102 : decode cX17_run 102 = .ok (.invokevirtual 124, 3) := by decide +kernel
theorem wr_10_197 : (Jvm.Cond.methodLink "SpillForgeModel" (124 : Nat) ({ cls := "java/util/ArrayList", name := "get", desc := "(I)Ljava/lang/Object;" } : Jvm.MethodName)) ∈ gw := gw_10 197 rfl rfl
theorem dr_cX17_run_105 : decode cX17_run 105 = .ok (.checkcast 40, 3) := by decide +kernel
theorem wr_10_198 : (Jvm.Cond.classLink "SpillForgeModel" (40 : Nat) "SpillForgeModel$Row") ∈ gw := gw_10 198 rfl rfl
theorem dr_cX17_run_108 : decode cX17_run 108 = .ok (.invokevirtual 289, 3) := by decide +kernel
theorem wr_11_92 : (Jvm.Cond.methodLink "SpillForgeModel" (289 : Nat) ({ cls := "SpillForgeModel", name := "step", desc := "(LSpillForgeModel$Row;)I" } : Jvm.MethodName)) ∈ gw := gw_11 92 rfl rfl
theorem wr_11_95 : (Jvm.Cond.code ({ cls := "SpillForgeModel", name := "step", desc := "(LSpillForgeModel$Row;)I" } : Jvm.MethodName) prog_14_method_30_code (4 : Nat) (Option.some Jvm.ClassFile.FieldType.int)) ∈ gw := gw_11 95 rfl rfl
theorem wr_11_94 : (Jvm.Cond.instanceMethod ({ cls := "SpillForgeModel", name := "step", desc := "(LSpillForgeModel$Row;)I" } : Jvm.MethodName)) ∈ gw := gw_11 94 rfl rfl
theorem wr_p_114 : Cond.selects "SpillForgeModel" ⟨"SpillForgeModel", "step", "(LSpillForgeModel$Row;)I"⟩ ⟨"SpillForgeModel", "step", "(LSpillForgeModel$Row;)I"⟩ ∈ gw := gw_p _ 114 rfl rfl rfl
theorem dr_cX17_run_111 : decode cX17_run 111 = .ok (.istore 6, 2) := by decide +kernel
theorem dr_cX17_run_113 : decode cX17_run 113 = .ok (.iload 6, 2) := by decide +kernel
theorem dr_cX17_run_115 : decode cX17_run 115 = .ok (.ifCond .lt 6, 3) := by decide +kernel
theorem dr_cX17_run_121 : decode cX17_run 121 = .ok (.iinc 4 1, 3) := by decide +kernel
theorem dr_cX17_run_124 : decode cX17_run 124 = .ok (.goto (-70), 3) := by decide +kernel
theorem dr_cX17_run_118 : decode cX17_run 118 = .ok (.iload 6, 2) := by decide +kernel
theorem dr_cX17_run_120 : decode cX17_run 120 = .ok (.ireturn, 1) := by decide +kernel
theorem dr_cX17_run_69 : decode cX17_run 69 = .ok (.iconst 4, 1) := by decide +kernel
theorem dr_cX17_run_70 : decode cX17_run 70 = .ok (.ireturn, 1) := by decide +kernel
theorem dr_cX17_run_9 : decode cX17_run 9 = .ok (.aload_n 0, 1) := by decide +kernel
theorem dr_cX17_run_10 : decode cX17_run 10 = .ok (.getfield 271, 3) := by decide +kernel
theorem dr_cX17_run_13 : decode cX17_run 13 = .ok (.iload_n 3, 1) := by decide +kernel
theorem dr_cX17_run_14 : decode cX17_run 14 = .ok (.iconst 0, 1) := by decide +kernel
theorem dr_cX17_run_15 : decode cX17_run 15 = .ok (.iastore, 1) := by decide +kernel
theorem dr_cX17_run_16 : decode cX17_run 16 = .ok (.aload_n 0, 1) := by decide +kernel
theorem dr_cX17_run_17 : decode cX17_run 17 = .ok (.getfield 274, 3) := by decide +kernel
theorem dr_cX17_run_20 : decode cX17_run 20 = .ok (.iload_n 3, 1) := by decide +kernel
theorem dr_cX17_run_21 : decode cX17_run 21 = .ok (.iconst 0, 1) := by decide +kernel
theorem dr_cX17_run_22 : decode cX17_run 22 = .ok (.iastore, 1) := by decide +kernel
theorem dr_cX17_run_23 : decode cX17_run 23 = .ok (.iinc 3 1, 3) := by decide +kernel
theorem dr_cX17_run_26 : decode cX17_run 26 = .ok (.goto (-24), 3) := by decide +kernel