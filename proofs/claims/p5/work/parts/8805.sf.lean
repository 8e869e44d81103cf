theorem d_cX7_perform_0 : decode cX7_perform 0 = .ok (.aload_n 0, 1) := by decide +kernel
theorem d_cX7_perform_1 : decode cX7_perform 1 = .ok (.getfield 15, 3) := by decide +kernel
theorem d_cX7_perform_4 : decode cX7_perform 4 = .ok (.iconst 0, 1) := by decide +kernel
theorem d_cX7_perform_5 : decode cX7_perform 5 = .ok (.invokestatic 59, 3) := by decide +kernel
theorem w_6_73 : (Jvm.Cond.methodLink "SpillForge$Machine" (59 : Nat) ({ cls := "java/util/Arrays", name := "fill", desc := "([II)V" } : Jvm.MethodName)) ∈ gw := gw_6 73 rfl rfl
theorem d_cX7_perform_8 : decode cX7_perform 8 = .ok (.aload_n 0, 1) := by decide +kernel
theorem d_cX7_perform_9 : decode cX7_perform 9 = .ok (.getfield 18, 3) := by decide +kernel
theorem d_cX7_perform_12 : decode cX7_perform 12 = .ok (.iconst 0, 1) := by decide +kernel
theorem d_cX7_perform_13 : decode cX7_perform 13 = .ok (.invokestatic 59, 3) := by decide +kernel
theorem d_cX7_perform_16 : decode cX7_perform 16 = .ok (.aload_n 0, 1) := by decide +kernel
theorem d_cX7_perform_17 : decode cX7_perform 17 = .ok (.iconst 0, 1) := by decide +kernel
theorem d_cX7_perform_18 : decode cX7_perform 18 = .ok (.putfield 65, 3) := by decide +kernel
theorem d_cX7_perform_21 : decode cX7_perform 21 = .ok (.aload_n 0, 1) := by decide +kernel
theorem d_cX7_perform_22 : decode cX7_perform 22 = .ok (.iconst 0, 1) := by decide +kernel
theorem d_cX7_perform_23 : decode cX7_perform 23 = .ok (.putfield 47, 3) := by decide +kernel
theorem d_cX7_perform_26 : decode cX7_perform 26 = .ok (.aload_n 0, 1) := by decide +kernel
theorem d_cX7_perform_27 : decode cX7_perform 27 = .ok (.iconst 0, 1) := by decide +kernel
theorem d_cX7_perform_28 : decode cX7_perform 28 = .ok (.putfield 50, 3) := by decide +kernel
theorem d_cX7_perform_31 : decode cX7_perform 31 = .ok (.aload_n 0, 1) := by decide +kernel
theorem d_cX7_perform_32 : decode cX7_perform 32 = .ok (.iconst 0, 1) := by decide +kernel
theorem d_cX7_perform_33 : decode cX7_perform 33 = .ok (.putfield 56, 3) := by decide +kernel
theorem d_cX7_perform_36 : decode cX7_perform 36 = .ok (.aload_n 0, 1) := by decide +kernel
theorem d_cX7_perform_37 : decode cX7_perform 37 = .ok (.bipush (-2), 2) := by decide +kernel
theorem d_cX7_perform_39 : decode cX7_perform 39 = .ok (.putfield 24, 3) := by decide +kernel
theorem d_cX7_perform_42 : decode cX7_perform 42 = .ok (.iconst 0, 1) := by decide +kernel
theorem d_cX7_perform_43 : decode cX7_perform 43 = .ok (.istore_n 3, 1) := by decide +kernel
theorem d_cX7_perform_44 : decode cX7_perform 44 = .ok (.aload_n 0, 1) := by decide +kernel
theorem d_cX7_perform_45 : decode cX7_perform 45 = .ok (.iconst 0, 1) := by decide +kernel
theorem d_cX7_perform_46 : decode cX7_perform 46 = .ok (.putfield 53, 3) := by decide +kernel
theorem w_2_168 : (Jvm.Cond.fieldLink "SpillForge$Machine" (53 : Nat) "SpillForge$Machine" "steps" "I") ∈ gw := gw_2 168 rfl rfl
theorem d_cX7_perform_49 : decode cX7_perform 49 = .ok (.aload_n 0, 1) := by decide +kernel
theorem d_cX7_perform_50 : decode cX7_perform 50 = .ok (.getfield 53, 3) := by decide +kernel
theorem d_cX7_perform_53 : decode cX7_perform 53 = .ok (.iload_n 2, 1) := by decide +kernel
theorem d_cX7_perform_54 : decode cX7_perform 54 = .ok (.if_icmp .ge 52, 3) := by decide +kernel
theorem d_cX7_perform_106 : decode cX7_perform 106 = .ok (.aload_n 0, 1) := by decide +kernel
theorem d_cX7_perform_107 : decode cX7_perform 107 = .ok (.getfield 24, 3) := by decide +kernel
theorem d_cX7_perform_110 : decode cX7_perform 110 = .ok (.bipush (-2), 2) := by decide +kernel
theorem d_cX7_perform_112 : decode cX7_perform 112 = .ok (.if_icmp .ne 8, 3) := by decide +kernel
theorem d_cX7_perform_120 : decode cX7_perform 120 = .ok (.return_, 1) := by decide +kernel
theorem d_cX7_perform_115 : decode cX7_perform 115 = .ok (.aload_n 0, 1) := by decide +kernel
theorem d_cX7_perform_116 : decode cX7_perform 116 = .ok (.iconst 4, 1) := by decide +kernel
theorem d_cX7_perform_117 : decode cX7_perform 117 = .ok (.putfield 24, 3) := by decide +kernel
theorem d_cX7_perform_57 : decode cX7_perform 57 = .ok (.aload_n 0, 1) := by decide +kernel
theorem d_cX7_perform_58 : decode cX7_perform 58 = .ok (.getfield 24, 3) := by decide +kernel
theorem d_cX7_perform_61 : decode cX7_perform 61 = .ok (.bipush (-2), 2) := by decide +kernel
theorem d_cX7_perform_63 : decode cX7_perform 63 = .ok (.if_icmp .ne 43, 3) := by decide +kernel
theorem d_cX7_perform_66 : decode cX7_perform 66 = .ok (.iload_n 3, 1) := by decide +kernel
theorem d_cX7_perform_67 : decode cX7_perform 67 = .ok (.ifCond .lt 20, 3) := by decide +kernel
theorem d_cX7_perform_87 : decode cX7_perform 87 = .ok (.aload_n 0, 1) := by decide +kernel
theorem d_cX7_perform_88 : decode cX7_perform 88 = .ok (.iconst 4, 1) := by decide +kernel
theorem d_cX7_perform_89 : decode cX7_perform 89 = .ok (.invokevirtual 77, 3) := by decide +kernel
theorem d_cX7_perform_92 : decode cX7_perform 92 = .ok (.istore_n 3, 1) := by decide +kernel
theorem d_cX7_perform_93 : decode cX7_perform 93 = .ok (.aload_n 0, 1) := by decide +kernel
theorem d_cX7_perform_94 : decode cX7_perform 94 = .ok (.dup, 1) := by decide +kernel
theorem d_cX7_perform_95 : decode cX7_perform 95 = .ok (.getfield 53, 3) := by decide +kernel
theorem d_cX7_perform_98 : decode cX7_perform 98 = .ok (.iconst 1, 1) := by decide +kernel
theorem d_cX7_perform_99 : decode cX7_perform 99 = .ok (.iadd, 1) := by decide +kernel
theorem d_cX7_perform_100 : decode cX7_perform 100 = .ok (.putfield 53, 3) := by decide +kernel
theorem d_cX7_perform_103 : decode cX7_perform 103 = .ok (.goto (-54), 3) := by decide +kernel
theorem d_cX7_perform_70 : decode cX7_perform 70 = .ok (.iload_n 3, 1) := by decide +kernel
theorem d_cX7_perform_71 : decode cX7_perform 71 = .ok (.aload_n 1, 1) := by decide +kernel
theorem d_cX7_perform_72 : decode cX7_perform 72 = .ok (.getfield 68, 3) := by decide +kernel
theorem d_cX7_perform_75 : decode cX7_perform 75 = .ok (.if_icmp .ge 12, 3) := by decide +kernel
theorem d_cX7_perform_78 : decode cX7_perform 78 = .ok (.aload_n 0, 1) := by decide +kernel
theorem d_cX7_perform_79 : decode cX7_perform 79 = .ok (.aload_n 1, 1) := by decide +kernel
theorem d_cX7_perform_80 : decode cX7_perform 80 = .ok (.iload_n 3, 1) := by decide +kernel
theorem d_cX7_perform_81 : decode cX7_perform 81 = .ok (.invokevirtual 73, 3) := by decide +kernel
theorem w_6_74 : (Jvm.Cond.methodLink "SpillForge$Machine" (73 : Nat) ({ cls := "SpillForge$Machine", name := "step", desc := "(LSpillForge$Code;I)I" } : Jvm.MethodName)) ∈ gw := gw_6 74 rfl rfl
theorem w_6_77 : (Jvm.Cond.code ({ cls := "SpillForge$Machine", name := "step", desc := "(LSpillForge$Code;I)I" } : Jvm.MethodName) prog_9_method_10_code (6 : Nat) (Option.some Jvm.ClassFile.FieldType.int)) ∈ gw := gw_6 77 rfl rfl
theorem w_6_76 : (Jvm.Cond.instanceMethod ({ cls := "SpillForge$Machine", name := "step", desc := "(LSpillForge$Code;I)I" } : Jvm.MethodName)) ∈ gw := gw_6 76 rfl rfl
theorem w_p_57 : Cond.selects "SpillForge$Machine" ⟨"SpillForge$Machine", "step", "(LSpillForge$Code;I)I"⟩ ⟨"SpillForge$Machine", "step", "(LSpillForge$Code;I)I"⟩ ∈ gw := gw_p _ 57 rfl rfl rfl
theorem d_cX7_perform_84 : decode cX7_perform 84 = .ok (.goto 8, 3) := by decide +kernel
theorem d_cJ0_coder_7d493_0 : decode cJ0_coder_7d493 0 = .ok (.getstatic 38, 3) := by decide +kernel
theorem w_3_65 : (Jvm.Cond.fieldLink "java/lang/String" (38 : Nat) "java/lang/String" "COMPACT_STRINGS" "Z") ∈ gw := gw_3 65 rfl rfl
theorem d_cJ0_coder_7d493_3 : decode cJ0_coder_7d493 3 = .ok (.ifCond .eq 10, 3) := by decide +kernel
theorem d_cJ0_coder_7d493_6 : decode cJ0_coder_7d493 6 = .ok (.aload_n 0, 1) := by decide +kernel
theorem d_cJ0_coder_7d493_7 : decode cJ0_coder_7d493 7 = .ok (.getfield 15, 3) := by decide +kernel
theorem w_8_179 : (Jvm.Cond.fieldLink "java/lang/String" (15 : Nat) "java/lang/String" "coder" "B") ∈ gw := gw_8 179 rfl rfl
theorem d_cJ0_coder_7d493_10 : decode cJ0_coder_7d493 10 = .ok (.goto 4, 3) := by decide +kernel
theorem d_cJ0_coder_7d493_14 : decode cJ0_coder_7d493 14 = .ok (.ireturn, 1) := by decide +kernel
theorem d_cJ0_length_8abf5_0 : decode cJ0_length_8abf5 0 = .ok (.aload_n 0, 1) := by decide +kernel
theorem d_cJ0_length_8abf5_1 : decode cJ0_length_8abf5 1 = .ok (.getfield 9, 3) := by decide +kernel
theorem w_8_178 : (Jvm.Cond.fieldLink "java/lang/String" (9 : Nat) "java/lang/String" "value" "[B") ∈ gw := gw_8 178 rfl rfl
theorem d_cJ0_length_8abf5_4 : decode cJ0_length_8abf5 4 = .ok (.arraylength, 1) := by decide +kernel
theorem d_cJ0_length_8abf5_5 : decode cJ0_length_8abf5 5 = .ok (.aload_n 0, 1) := by decide +kernel
theorem d_cJ0_length_8abf5_6 : decode cJ0_length_8abf5 6 = .ok (.invokevirtual 335, 3) := by decide +kernel
theorem w_3_61 : (Jvm.Cond.methodLink "java/lang/String" (335 : Nat) ({ cls := "java/lang/String", name := "coder", desc := "()B" } : Jvm.MethodName)) ∈ gw := gw_3 61 rfl rfl
theorem w_1_21 : (Jvm.Cond.initialized "java/lang/String") ∈ gw := gw_1 21 rfl rfl
theorem w_3_64 : (Jvm.Cond.code ({ cls := "java/lang/String", name := "coder", desc := "()B" } : Jvm.MethodName) prog_34_method_152_code (1 : Nat) (Option.some Jvm.ClassFile.FieldType.byte)) ∈ gw := gw_3 64 rfl rfl
theorem w_3_62 : (Jvm.Cond.instanceMethod ({ cls := "java/lang/String", name := "coder", desc := "()B" } : Jvm.MethodName)) ∈ gw := gw_3 62 rfl rfl
theorem w_3_63 : (Jvm.Cond.selects "java/lang/String" ({ cls := "java/lang/String", name := "coder", desc := "()B" } : Jvm.MethodName) ({ cls := "java/lang/String", name := "coder", desc := "()B" } : Jvm.MethodName)) ∈ gw := gw_3 63 rfl rfl
theorem d_cJ0_length_8abf5_9 : decode cJ0_length_8abf5 9 = .ok (.ishr, 1) := by decide +kernel
theorem d_cJ0_length_8abf5_10 : decode cJ0_length_8abf5 10 = .ok (.ireturn, 1) := by decide +kernel
theorem d_cJ0_isLatin1_aae02_0 : decode cJ0_isLatin1_aae02 0 = .ok (.getstatic 38, 3) := by decide +kernel
theorem d_cJ0_isLatin1_aae02_3 : decode cJ0_isLatin1_aae02 3 = .ok (.ifCond .eq 14, 3) := by decide +kernel
theorem d_cJ0_isLatin1_aae02_6 : decode cJ0_isLatin1_aae02 6 = .ok (.aload_n 0, 1) := by decide +kernel
theorem d_cJ0_isLatin1_aae02_7 : decode cJ0_isLatin1_aae02 7 = .ok (.getfield 15, 3) := by decide +kernel
theorem d_cJ0_isLatin1_aae02_10 : decode cJ0_isLatin1_aae02 10 = .ok (.ifCond .ne 7, 3) := by decide +kernel
theorem d_cJ0_isLatin1_aae02_13 : decode cJ0_isLatin1_aae02 13 = .ok (.iconst 1, 1) := by decide +kernel
theorem d_cJ0_isLatin1_aae02_14 : decode cJ0_isLatin1_aae02 14 = .ok (.goto 4, 3) := by decide +kernel
theorem d_cJ0_isLatin1_aae02_18 : decode cJ0_isLatin1_aae02 18 = .ok (.ireturn, 1) := by decide +kernel
theorem d_cJ3_checkIndex_8e157_0 : decode cJ3_checkIndex_8e157 0 = .ok (.iload_n 0, 1) := by decide +kernel
theorem d_cJ3_checkIndex_8e157_1 : decode cJ3_checkIndex_8e157 1 = .ok (.ifCond .lt 8, 3) := by decide +kernel
theorem d_cJ3_checkIndex_8e157_4 : decode cJ3_checkIndex_8e157 4 = .ok (.iload_n 0, 1) := by decide +kernel
theorem d_cJ3_checkIndex_8e157_5 : decode cJ3_checkIndex_8e157 5 = .ok (.iload_n 1, 1) := by decide +kernel
theorem d_cJ3_checkIndex_8e157_6 : decode cJ3_checkIndex_8e157 6 = .ok (.if_icmp .lt 10, 3) := by decide +kernel
theorem d_cJ3_checkIndex_8e157_16 : decode cJ3_checkIndex_8e157 16 = .ok (.iload_n 0, 1) := by decide +kernel
theorem d_cJ3_checkIndex_8e157_17 : decode cJ3_checkIndex_8e157 17 = .ok (.ireturn, 1) := by decide +kernel
theorem d_cJ0_checkIndex_df160_0 : decode cJ0_checkIndex_df160 0 = .ok (.iload_n 0, 1) := by decide +kernel
theorem d_cJ0_checkIndex_df160_1 : decode cJ0_checkIndex_df160 1 = .ok (.iload_n 1, 1) := by decide +kernel
theorem d_cJ0_checkIndex_df160_2 : decode cJ0_checkIndex_df160 2 = .ok (.getstatic 1053, 3) := by decide +kernel
theorem w_3_81 : (Jvm.Cond.fieldLink "java/lang/String" (1053 : Nat) "jdk/internal/util/Preconditions" "SIOOBE_FORMATTER" "Ljava/util/function/BiFunction;") ∈ gw := gw_3 81 rfl rfl
theorem d_cJ0_checkIndex_df160_5 : decode cJ0_checkIndex_df160 5 = .ok (.invokestatic 1059, 3) := by decide +kernel
theorem w_3_83 : (Jvm.Cond.methodLink "java/lang/String" (1059 : Nat) ({ cls := "jdk/internal/util/Preconditions", name := "checkIndex", desc := "(IILjava/util/function/BiFunction;)I" } : Jvm.MethodName)) ∈ gw := gw_3 83 rfl rfl
theorem w_1_29 : (Jvm.Cond.initialized "jdk/internal/util/Preconditions") ∈ gw := gw_1 29 rfl rfl
theorem w_3_85 : (Jvm.Cond.code ({ cls := "jdk/internal/util/Preconditions", name := "checkIndex", desc := "(IILjava/util/function/BiFunction;)I" } : Jvm.MethodName) prog_52_method_11_code (3 : Nat) (Option.some Jvm.ClassFile.FieldType.int)) ∈ gw := gw_3 85 rfl rfl
theorem w_3_84 : (Jvm.Cond.static ({ cls := "jdk/internal/util/Preconditions", name := "checkIndex", desc := "(IILjava/util/function/BiFunction;)I" } : Jvm.MethodName)) ∈ gw := gw_3 84 rfl rfl
theorem d_cJ0_checkIndex_df160_8 : decode cJ0_checkIndex_df160 8 = .ok (.pop, 1) := by decide +kernel
theorem d_cJ0_checkIndex_df160_9 : decode cJ0_checkIndex_df160 9 = .ok (.return_, 1) := by decide +kernel
theorem d_cJ1_charAt_3b067_0 : decode cJ1_charAt_3b067 0 = .ok (.iload_n 1, 1) := by decide +kernel
theorem d_cJ1_charAt_3b067_1 : decode cJ1_charAt_3b067 1 = .ok (.aload_n 0, 1) := by decide +kernel
theorem d_cJ1_charAt_3b067_2 : decode cJ1_charAt_3b067 2 = .ok (.arraylength, 1) := by decide +kernel
theorem d_cJ1_charAt_3b067_3 : decode cJ1_charAt_3b067 3 = .ok (.invokestatic 9, 3) := by decide +kernel
theorem w_3_78 : (Jvm.Cond.methodLink "java/lang/StringLatin1" (9 : Nat) ({ cls := "java/lang/String", name := "checkIndex", desc := "(II)V" } : Jvm.MethodName)) ∈ gw := gw_3 78 rfl rfl
theorem w_3_80 : (Jvm.Cond.code ({ cls := "java/lang/String", name := "checkIndex", desc := "(II)V" } : Jvm.MethodName) prog_34_method_155_code (2 : Nat) (Option.none : Option Jvm.ClassFile.FieldType)) ∈ gw := gw_3 80 rfl rfl
theorem w_3_79 : (Jvm.Cond.static ({ cls := "java/lang/String", name := "checkIndex", desc := "(II)V" } : Jvm.MethodName)) ∈ gw := gw_3 79 rfl rfl
theorem d_cJ1_charAt_3b067_6 : decode cJ1_charAt_3b067 6 = .ok (.aload_n 0, 1) := by decide +kernel
theorem d_cJ1_charAt_3b067_7 : decode cJ1_charAt_3b067 7 = .ok (.iload_n 1, 1) := by decide +kernel
theorem d_cJ1_charAt_3b067_8 : decode cJ1_charAt_3b067 8 = .ok (.baload, 1) := by decide +kernel
theorem d_cJ1_charAt_3b067_9 : decode cJ1_charAt_3b067 9 = .ok (.sipush 255, 3) := by decide +kernel
theorem d_cJ1_charAt_3b067_12 : decode cJ1_charAt_3b067 12 = .ok (.iand, 1) := by decide +kernel
theorem d_cJ1_charAt_3b067_13 : decode cJ1_charAt_3b067 13 = .ok (.i2c, 1) := by decide +kernel
theorem d_cJ1_charAt_3b067_14 : decode cJ1_charAt_3b067 14 = .ok (.ireturn, 1) := by decide +kernel
theorem d_cJ0_charAt_5068e_0 : decode cJ0_charAt_5068e 0 = .ok (.aload_n 0, 1) := by decide +kernel
theorem d_cJ0_charAt_5068e_1 : decode cJ0_charAt_5068e 1 = .ok (.invokevirtual 492, 3) := by decide +kernel
theorem w_3_71 : (Jvm.Cond.methodLink "java/lang/String" (492 : Nat) ({ cls := "java/lang/String", name := "isLatin1", desc := "()Z" } : Jvm.MethodName)) ∈ gw := gw_3 71 rfl rfl
theorem w_3_74 : (Jvm.Cond.code ({ cls := "java/lang/String", name := "isLatin1", desc := "()Z" } : Jvm.MethodName) prog_34_method_154_code (1 : Nat) (Option.some Jvm.ClassFile.FieldType.boolean)) ∈ gw := gw_3 74 rfl rfl
theorem w_3_72 : (Jvm.Cond.instanceMethod ({ cls := "java/lang/String", name := "isLatin1", desc := "()Z" } : Jvm.MethodName)) ∈ gw := gw_3 72 rfl rfl
theorem w_3_73 : (Jvm.Cond.selects "java/lang/String" ({ cls := "java/lang/String", name := "isLatin1", desc := "()Z" } : Jvm.MethodName) ({ cls := "java/lang/String", name := "isLatin1", desc := "()Z" } : Jvm.MethodName)) ∈ gw := gw_3 73 rfl rfl
theorem d_cJ0_charAt_5068e_4 : decode cJ0_charAt_5068e 4 = .ok (.ifCond .eq 12, 3) := by decide +kernel
theorem d_cJ0_charAt_5068e_7 : decode cJ0_charAt_5068e 7 = .ok (.aload_n 0, 1) := by decide +kernel
theorem d_cJ0_charAt_5068e_8 : decode cJ0_charAt_5068e 8 = .ok (.getfield 9, 3) := by decide +kernel
theorem d_cJ0_charAt_5068e_11 : decode cJ0_charAt_5068e 11 = .ok (.iload_n 1, 1) := by decide +kernel
theorem d_cJ0_charAt_5068e_12 : decode cJ0_charAt_5068e 12 = .ok (.invokestatic 495, 3) := by decide +kernel
theorem w_3_75 : (Jvm.Cond.methodLink "java/lang/String" (495 : Nat) ({ cls := "java/lang/StringLatin1", name := "charAt", desc := "([BI)C" } : Jvm.MethodName)) ∈ gw := gw_3 75 rfl rfl
theorem w_1_28 : (Jvm.Cond.initialized "java/lang/StringLatin1") ∈ gw := gw_1 28 rfl rfl
theorem w_3_77 : (Jvm.Cond.code ({ cls := "java/lang/StringLatin1", name := "charAt", desc := "([BI)C" } : Jvm.MethodName) prog_37_method_2_code (2 : Nat) (Option.some Jvm.ClassFile.FieldType.char)) ∈ gw := gw_3 77 rfl rfl
theorem w_3_76 : (Jvm.Cond.static ({ cls := "java/lang/StringLatin1", name := "charAt", desc := "([BI)C" } : Jvm.MethodName)) ∈ gw := gw_3 76 rfl rfl
theorem d_cJ0_charAt_5068e_15 : decode cJ0_charAt_5068e 15 = .ok (.ireturn, 1) := by decide +kernel
theorem d_cX9_isWord_0 : decode cX9_isWord 0 = .ok (.aload_n 0, 1) := by decide +kernel
theorem d_cX9_isWord_1 : decode cX9_isWord 1 = .ok (.getfield 25, 3) := by decide +kernel
theorem d_cX9_isWord_4 : decode cX9_isWord 4 = .ok (.aload_n 0, 1) := by decide +kernel
theorem d_cX9_isWord_5 : decode cX9_isWord 5 = .ok (.getfield 22, 3) := by decide +kernel
theorem d_cX9_isWord_8 : decode cX9_isWord 8 = .ok (.isub, 1) := by decide +kernel
theorem d_cX9_isWord_9 : decode cX9_isWord 9 = .ok (.aload_n 1, 1) := by decide +kernel
theorem d_cX9_isWord_10 : decode cX9_isWord 10 = .ok (.invokevirtual 95, 3) := by decide +kernel
theorem w_3_57 : (Jvm.Cond.methodLink "SpillForge$Signs" (95 : Nat) ({ cls := "java/lang/String", name := "length", desc := "()I" } : Jvm.MethodName)) ∈ gw := gw_3 57 rfl rfl
theorem w_3_60 : (Jvm.Cond.code ({ cls := "java/lang/String", name := "length", desc := "()I" } : Jvm.MethodName) prog_34_method_54_code (1 : Nat) (Option.some Jvm.ClassFile.FieldType.int)) ∈ gw := gw_3 60 rfl rfl
theorem w_3_58 : (Jvm.Cond.instanceMethod ({ cls := "java/lang/String", name := "length", desc := "()I" } : Jvm.MethodName)) ∈ gw := gw_3 58 rfl rfl
theorem w_3_59 : (Jvm.Cond.selects "java/lang/String" ({ cls := "java/lang/String", name := "length", desc := "()I" } : Jvm.MethodName) ({ cls := "java/lang/String", name := "length", desc := "()I" } : Jvm.MethodName)) ∈ gw := gw_3 59 rfl rfl
theorem d_cX9_isWord_13 : decode cX9_isWord 13 = .ok (.if_icmp .eq 5, 3) := by decide +kernel
theorem d_cX9_isWord_18 : decode cX9_isWord 18 = .ok (.iconst 0, 1) := by decide +kernel
theorem d_cX9_isWord_19 : decode cX9_isWord 19 = .ok (.istore_n 2, 1) := by decide +kernel
theorem d_cX9_isWord_20 : decode cX9_isWord 20 = .ok (.iload_n 2, 1) := by decide +kernel
theorem d_cX9_isWord_21 : decode cX9_isWord 21 = .ok (.aload_n 1, 1) := by decide +kernel
theorem d_cX9_isWord_22 : decode cX9_isWord 22 = .ok (.invokevirtual 95, 3) := by decide +kernel
theorem d_cX9_isWord_25 : decode cX9_isWord 25 = .ok (.if_icmp .ge 32, 3) := by decide +kernel
theorem d_cX9_isWord_57 : decode cX9_isWord 57 = .ok (.iconst 1, 1) := by decide +kernel
theorem d_cX9_isWord_58 : decode cX9_isWord 58 = .ok (.ireturn, 1) := by decide +kernel
theorem d_cX9_isWord_28 : decode cX9_isWord 28 = .ok (.aload_n 0, 1) := by decide +kernel
theorem d_cX9_isWord_29 : decode cX9_isWord 29 = .ok (.getfield 9, 3) := by decide +kernel
theorem d_cX9_isWord_32 : decode cX9_isWord 32 = .ok (.aload_n 0, 1) := by decide +kernel
theorem d_cX9_isWord_33 : decode cX9_isWord 33 = .ok (.getfield 22, 3) := by decide +kernel
theorem d_cX9_isWord_36 : decode cX9_isWord 36 = .ok (.iload_n 2, 1) := by decide +kernel
theorem d_cX9_isWord_37 : decode cX9_isWord 37 = .ok (.iadd, 1) := by decide +kernel
theorem d_cX9_isWord_38 : decode cX9_isWord 38 = .ok (.invokevirtual 35, 3) := by decide +kernel
theorem d_cX9_isWord_41 : decode cX9_isWord 41 = .ok (.aload_n 1, 1) := by decide +kernel
theorem d_cX9_isWord_42 : decode cX9_isWord 42 = .ok (.iload_n 2, 1) := by decide +kernel
theorem d_cX9_isWord_43 : decode cX9_isWord 43 = .ok (.invokevirtual 100, 3) := by decide +kernel
theorem w_3_67 : (Jvm.Cond.methodLink "SpillForge$Signs" (100 : Nat) ({ cls := "java/lang/String", name := "charAt", desc := "(I)C" } : Jvm.MethodName)) ∈ gw := gw_3 67 rfl rfl
theorem w_3_70 : (Jvm.Cond.code ({ cls := "java/lang/String", name := "charAt", desc := "(I)C" } : Jvm.MethodName) prog_34_method_56_code (2 : Nat) (Option.some Jvm.ClassFile.FieldType.char)) ∈ gw := gw_3 70 rfl rfl
theorem w_3_68 : (Jvm.Cond.instanceMethod ({ cls := "java/lang/String", name := "charAt", desc := "(I)C" } : Jvm.MethodName)) ∈ gw := gw_3 68 rfl rfl
theorem w_3_69 : (Jvm.Cond.selects "java/lang/String" ({ cls := "java/lang/String", name := "charAt", desc := "(I)C" } : Jvm.MethodName) ({ cls := "java/lang/String", name := "charAt", desc := "(I)C" } : Jvm.MethodName)) ∈ gw := gw_3 69 rfl rfl
theorem d_cX9_isWord_46 : decode cX9_isWord 46 = .ok (.if_icmp .eq 5, 3) := by decide +kernel
theorem d_cX9_isWord_49 : decode cX9_isWord 49 = .ok (.iconst 0, 1) := by decide +kernel
theorem d_cX9_isWord_50 : decode cX9_isWord 50 = .ok (.ireturn, 1) := by decide +kernel
theorem d_cX9_isWord_51 : decode cX9_isWord 51 = .ok (.iinc 2 1, 3) := by decide +kernel
theorem d_cX9_isWord_54 : decode cX9_isWord 54 = .ok (.goto (-34), 3) := by decide +kernel
theorem d_cX9_isWord_16 : decode cX9_isWord 16 = .ok (.iconst 0, 1) := by decide +kernel
theorem d_cX9_isWord_17 : decode cX9_isWord 17 = .ok (.ireturn, 1) := by decide +kernel
theorem d_cX9_takeWord_0 : decode cX9_takeWord 0 = .ok (.aload_n 0, 1) := by decide +kernel
theorem d_cX9_takeWord_1 : decode cX9_takeWord 1 = .ok (.getfield 22, 3) := by decide +kernel
theorem d_cX9_takeWord_4 : decode cX9_takeWord 4 = .ok (.istore_n 1, 1) := by decide +kernel
theorem d_cX9_takeWord_5 : decode cX9_takeWord 5 = .ok (.iload_n 1, 1) := by decide +kernel
theorem d_cX9_takeWord_6 : decode cX9_takeWord 6 = .ok (.aload_n 0, 1) := by decide +kernel
theorem d_cX9_takeWord_7 : decode cX9_takeWord 7 = .ok (.getfield 9, 3) := by decide +kernel
theorem d_cX9_takeWord_10 : decode cX9_takeWord 10 = .ok (.invokevirtual 61, 3) := by decide +kernel
theorem d_cX9_takeWord_13 : decode cX9_takeWord 13 = .ok (.if_icmp .ge 23, 3) := by decide +kernel
theorem d_cX9_takeWord_36 : decode cX9_takeWord 36 = .ok (.aload_n 0, 1) := by decide +kernel
theorem d_cX9_takeWord_37 : decode cX9_takeWord 37 = .ok (.iload_n 1, 1) := by decide +kernel
theorem d_cX9_takeWord_38 : decode cX9_takeWord 38 = .ok (.putfield 25, 3) := by decide +kernel
theorem d_cX9_takeWord_41 : decode cX9_takeWord 41 = .ok (.aload_n 0, 1) := by decide +kernel
theorem d_cX9_takeWord_42 : decode cX9_takeWord 42 = .ok (.aload_n 0, 1) := by decide +kernel
theorem d_cX9_takeWord_43 : decode cX9_takeWord 43 = .ok (.ldc 81, 2) := by decide +kernel
theorem d_cX9_takeWord_45 : decode cX9_takeWord 45 = .ok (.invokevirtual 83, 3) := by decide +kernel
theorem w_3_53 : (Jvm.Cond.methodLink "SpillForge$Signs" (83 : Nat) ({ cls := "SpillForge$Signs", name := "isWord", desc := "(Ljava/lang/String;)Z" } : Jvm.MethodName)) ∈ gw := gw_3 53 rfl rfl
theorem w_3_56 : (Jvm.Cond.code ({ cls := "SpillForge$Signs", name := "isWord", desc := "(Ljava/lang/String;)Z" } : Jvm.MethodName) prog_11_method_12_code (3 : Nat) (Option.some Jvm.ClassFile.FieldType.boolean)) ∈ gw := gw_3 56 rfl rfl
theorem w_3_55 : (Jvm.Cond.instanceMethod ({ cls := "SpillForge$Signs", name := "isWord", desc := "(Ljava/lang/String;)Z" } : Jvm.MethodName)) ∈ gw := gw_3 55 rfl rfl
theorem w_p_5 : Cond.selects "SpillForge$Signs" ⟨"SpillForge$Signs", "isWord", "(Ljava/lang/String;)Z"⟩ ⟨"SpillForge$Signs", "isWord", "(Ljava/lang/String;)Z"⟩ ∈ gw := gw_p _ 5 rfl rfl rfl
theorem d_cX9_takeWord_48 : decode cX9_takeWord 48 = .ok (.ifCond .eq 8, 3) := by decide +kernel
theorem d_cX9_takeWord_56 : decode cX9_takeWord 56 = .ok (.aload_n 0, 1) := by decide +kernel
theorem d_cX9_takeWord_57 : decode cX9_takeWord 57 = .ok (.ldc 87, 2) := by decide +kernel
theorem d_cX9_takeWord_59 : decode cX9_takeWord 59 = .ok (.invokevirtual 83, 3) := by decide +kernel
theorem d_cX9_takeWord_62 : decode cX9_takeWord 62 = .ok (.ifCond .eq 8, 3) := by decide +kernel
theorem d_cX9_takeWord_70 : decode cX9_takeWord 70 = .ok (.aload_n 0, 1) := by decide +kernel
theorem d_cX9_takeWord_71 : decode cX9_takeWord 71 = .ok (.ldc 89, 2) := by decide +kernel
theorem d_cX9_takeWord_73 : decode cX9_takeWord 73 = .ok (.invokevirtual 83, 3) := by decide +kernel
theorem d_cX9_takeWord_76 : decode cX9_takeWord 76 = .ok (.ifCond .eq 8, 3) := by decide +kernel
theorem d_cX9_takeWord_84 : decode cX9_takeWord 84 = .ok (.aload_n 0, 1) := by decide +kernel
theorem d_cX9_takeWord_85 : decode cX9_takeWord 85 = .ok (.ldc 91, 2) := by decide +kernel
theorem d_cX9_takeWord_87 : decode cX9_takeWord 87 = .ok (.invokevirtual 83, 3) := by decide +kernel
theorem d_cX9_takeWord_90 : decode cX9_takeWord 90 = .ok (.ifCond .eq 8, 3) := by decide +kernel
theorem d_cX9_takeWord_98 : decode cX9_takeWord 98 = .ok (.aload_n 0, 1) := by decide +kernel
theorem d_cX9_takeWord_99 : decode cX9_takeWord 99 = .ok (.ldc 93, 2) := by decide +kernel
theorem d_cX9_takeWord_101 : decode cX9_takeWord 101 = .ok (.invokevirtual 83, 3) := by decide +kernel
theorem d_cX9_takeWord_104 : decode cX9_takeWord 104 = .ok (.ifCond .eq 8, 3) := by decide +kernel
theorem d_cX9_takeWord_112 : decode cX9_takeWord 112 = .ok (.iconst 0, 1) := by decide +kernel
theorem d_cX9_takeWord_113 : decode cX9_takeWord 113 = .ok (.putfield 15, 3) := by decide +kernel
theorem d_cX9_takeWord_116 : decode cX9_takeWord 116 = .ok (.return_, 1) := by decide +kernel
theorem d_cX9_takeWord_107 : decode cX9_takeWord 107 = .ok (.bipush 12, 2) := by decide +kernel
theorem d_cX9_takeWord_109 : decode cX9_takeWord 109 = .ok (.goto 4, 3) := by decide +kernel
theorem d_cX9_takeWord_93 : decode cX9_takeWord 93 = .ok (.bipush 11, 2) := by decide +kernel
theorem d_cX9_takeWord_95 : decode cX9_takeWord 95 = .ok (.goto 18, 3) := by decide +kernel
theorem d_cX9_takeWord_79 : decode cX9_takeWord 79 = .ok (.bipush 10, 2) := by decide +kernel
theorem d_cX9_takeWord_81 : decode cX9_takeWord 81 = .ok (.goto 32, 3) := by decide +kernel
theorem d_cX9_takeWord_65 : decode cX9_takeWord 65 = .ok (.bipush 9, 2) := by decide +kernel
theorem d_cX9_takeWord_67 : decode cX9_takeWord 67 = .ok (.goto 46, 3) := by decide +kernel
theorem d_cX9_takeWord_51 : decode cX9_takeWord 51 = .ok (.bipush 8, 2) := by decide +kernel
theorem d_cX9_takeWord_53 : decode cX9_takeWord 53 = .ok (.goto 60, 3) := by decide +kernel
theorem d_cX9_takeWord_16 : decode cX9_takeWord 16 = .ok (.aload_n 0, 1) := by decide +kernel
theorem d_cX9_takeWord_17 : decode cX9_takeWord 17 = .ok (.getfield 9, 3) := by decide +kernel
theorem d_cX9_takeWord_20 : decode cX9_takeWord 20 = .ok (.iload_n 1, 1) := by decide +kernel
theorem d_cX9_takeWord_21 : decode cX9_takeWord 21 = .ok (.invokevirtual 35, 3) := by decide +kernel
theorem d_cX9_takeWord_24 : decode cX9_takeWord 24 = .ok (.invokestatic 52, 3) := by decide +kernel
theorem w_3_45 : (Jvm.Cond.methodLink "SpillForge$Signs" (52 : Nat) ({ cls := "SpillForge$Signs", name := "isLetter", desc := "(I)Z" } : Jvm.MethodName)) ∈ gw := gw_3 45 rfl rfl
theorem w_3_47 : (Jvm.Cond.code ({ cls := "SpillForge$Signs", name := "isLetter", desc := "(I)Z" } : Jvm.MethodName) prog_11_method_16_code (1 : Nat) (Option.some Jvm.ClassFile.FieldType.boolean)) ∈ gw := gw_3 47 rfl rfl
theorem w_3_46 : (Jvm.Cond.static ({ cls := "SpillForge$Signs", name := "isLetter", desc := "(I)Z" } : Jvm.MethodName)) ∈ gw := gw_3 46 rfl rfl
theorem d_cX9_takeWord_27 : decode cX9_takeWord 27 = .ok (.ifCond .eq 9, 3) := by decide +kernel
theorem d_cX9_takeWord_30 : decode cX9_takeWord 30 = .ok (.iinc 1 1, 3) := by decide +kernel
theorem d_cX9_takeWord_33 : decode cX9_takeWord 33 = .ok (.goto (-28), 3) := by decide +kernel
abbrev ky_2815_Machine_perform : gKey := (cX7_perform, 4, yX7_perform.cls, none, [], yX7_perform.name, fun _ _ => True)
abbrev po_2815_Machine_perform (I : FieldType → ClassId) (q2776 : Nat) (q2777 : Nat) (q2778 : Nat) (q2779 : Nat) (q2780 : Nat) (q2781 : Nat) (q2782 : Nat) (q2783 : Nat) (q2784 : Nat) (q2785 : Nat) (q2786 : Nat) (q2787 : Nat) (q2788 : Nat) (q2789 : Nat) (q2790 : Nat) (p2791 : Int32) (p2792 : Int32) (p2793 : Int32) (p2794 : Int32) (p2795 : Int32) (p2796 : Int32) (p2797 : Int32) (p2798 : Int32) (p2799 : Int32) (p2800 : Int32) (p2801 : Int32) (f2802 : Nat → Int32) (f2803 : Nat → Int32) (f2804 : Nat → Int32) (f2805 : Nat → Int32) (f2806 : Nat → Int32) (f2807 : Nat → Int32) (f2808 : Nat → Int32) (f2809 : Nat → Int32) (f2810 : Nat → Int32) (f2811 : Nat → Int32) (f2812 : Nat → Int32) (f2813 : Nat → Int32) (f2814 : Nat → Int32) : Option Value → va_W → Prop := fun r w => ∃ (o3786 : Int32) (o3787 : Int32) (o3788 : Int32) (o3789 : Int32) (o3790 : Int32) (o3791 : Int32) (f3792 : Nat → Int32) (f3793 : Nat → Int32) (f3794 : Nat → Int32), r = none ∧ w = [(q2776, .inr (12, [.ref q2778, .ref q2779, .ref q2780, .ref q2781, .int p2792, .int o3786, .int o3787, .int o3788, .int o3789, .int o3790, .int o3791])), (q2777, .inr (5, [.ref q2782, .ref q2783, .ref q2784, .ref q2785, .ref q2786, .ref q2787, .ref q2788, .ref q2789, .ref q2790, .int p2799, .int p2800, .int p2801])), (q2778, .inl (I .int, 2048, .inl f2802)), (q2779, .inl (I .int, 100, .inl f3792)), (q2780, .inl (I .int, 100, .inl f3793)), (q2781, .inl (I .int, 512, .inl f3794)), (q2782, .inl (I .int, 40, .inl f2806)), (q2783, .inl (I .int, 40, .inl f2807)), (q2784, .inl (I .int, 40, .inl f2808)), (q2785, .inl (I .int, 200, .inl f2809)), (q2786, .inl (I .int, 200, .inl f2810)), (q2787, .inl (I .int, 200, .inl f2811)), (q2788, .inl (I .int, 200, .inl f2812)), (q2789, .inl (I .int, 200, .inl f2813)), (q2790, .inl (I .int, 200, .inl f2814))] ∧ gB o3786 0 39 ∧ gB o3787 (-2147483648) 2147483647 ∧ gB o3788 0 512 ∧ gB o3789 0 100000 ∧ gB o3790 0 2048 ∧ gB o3791 (-2147483648) 2147483647 ∧ gF f3792 (-2147483648) 2147483647 ∧ gF f3793 (-2147483648) 2147483647 ∧ gF f3794 (-2147483648) 2147483647
set_option maxRecDepth 100000 in
set_option maxHeartbeats 4000000 in
theorem ct_2815_Machine_perform (l : Launch) (hl0 : l.stackTraces = false) (D : va_G) (I : FieldType → ClassId) (q2776 : Nat) (q2777 : Nat) (q2778 : Nat) (q2779 : Nat) (q2780 : Nat) (q2781 : Nat) (q2782 : Nat) (q2783 : Nat) (q2784 : Nat) (q2785 : Nat) (q2786 : Nat) (q2787 : Nat) (q2788 : Nat) (q2789 : Nat) (q2790 : Nat) (p2791 : Int32) (p2792 : Int32) (p2793 : Int32) (p2794 : Int32) (p2795 : Int32) (p2796 : Int32) (p2797 : Int32) (p2798 : Int32) (p2799 : Int32) (p2800 : Int32) (p2801 : Int32) (f2802 : Nat → Int32) (f2803 : Nat → Int32) (f2804 : Nat → Int32) (f2805 : Nat → Int32) (f2806 : Nat → Int32) (f2807 : Nat → Int32) (f2808 : Nat → Int32) (f2809 : Nat → Int32) (f2810 : Nat → Int32) (f2811 : Nat → Int32) (f2812 : Nat → Int32) (f2813 : Nat → Int32) (f2814 : Nat → Int32) (bp2791 : gB p2791 1 100000) (bp2792 : gB p2792 0 2048) (bp2793 : gB p2793 0 39) (bp2795 : gB p2795 0 512) (bp2797 : gB p2797 0 2048) (bp2799 : gB p2799 0 40) (bp2800 : gB p2800 0 200) (bp2801 : gB p2801 0 1) (bf2806 : gF f2806 0 200) (bf2809 : gF f2809 0 21) : Ct (gV D I) l yX7_perform cX7_perform 4 none 3 68 0 0 [.ref q2776, .ref q2777, .int p2791] [(q2776, .inr (12, [.ref q2778, .ref q2779, .ref q2780, .ref q2781, .int p2792, .int p2793, .int p2794, .int p2795, .int p2796, .int p2797, .int p2798])), (q2777, .inr (5, [.ref q2782, .ref q2783, .ref q2784, .ref q2785, .ref q2786, .ref q2787, .ref q2788, .ref q2789, .ref q2790, .int p2799, .int p2800, .int p2801])), (q2778, .inl (I .int, 2048, .inl f2802)), (q2779, .inl (I .int, 100, .inl f2803)), (q2780, .inl (I .int, 100, .inl f2804)), (q2781, .inl (I .int, 512, .inl f2805)), (q2782, .inl (I .int, 40, .inl f2806)), (q2783, .inl (I .int, 40, .inl f2807)), (q2784, .inl (I .int, 40, .inl f2808)), (q2785, .inl (I .int, 200, .inl f2809)), (q2786, .inl (I .int, 200, .inl f2810)), (q2787, .inl (I .int, 200, .inl f2811)), (q2788, .inl (I .int, 200, .inl f2812)), (q2789, .inl (I .int, 200, .inl f2813)), (q2790, .inl (I .int, 200, .inl f2814))] (po_2815_Machine_perform I q2776 q2777 q2778 q2779 q2780 q2781 q2782 q2783 q2784 q2785 q2786 q2787 q2788 q2789 q2790 p2791 p2792 p2793 p2794 p2795 p2796 p2797 p2798 p2799 p2800 p2801 f2802 f2803 f2804 f2805 f2806 f2807 f2808 f2809 f2810 f2811 f2812 f2813 f2814) gN := by
  refine Ct_of hl0 (by decide) (Nat.le_of_ble_eq_true rfl) ?_
  have bp2794 := gB_any p2794
  have bp2796 := gB_any p2796
  have bp2798 := gB_any p2798
  refine G_aload_n 0 d_cX7_perform_0 rfl ?_
  refine G_getf 0 1 d_cX7_perform_1 rfl (gk_X7 D I) (Nat.le_of_ble_eq_true rfl) w_2_161 rfl ?_
  refine G_iconst 0 d_cX7_perform_4 (by decide +kernel) ?_
  refine G_callS (As := [.ref q2779, .int 0]) (wr := [(q2776, .inr (12, [.ref q2778, .ref q2779, .ref q2780, .ref q2781, .int p2792, .int p2793, .int p2794, .int p2795, .int p2796, .int p2797, .int p2798])), (q2777, .inr (5, [.ref q2782, .ref q2783, .ref q2784, .ref q2785, .ref q2786, .ref q2787, .ref q2788, .ref q2789, .ref q2790, .int p2799, .int p2800, .int p2801])), (q2778, .inl (I .int, 2048, .inl f2802)), (q2780, .inl (I .int, 100, .inl f2804)), (q2781, .inl (I .int, 512, .inl f2805)), (q2782, .inl (I .int, 40, .inl f2806)), (q2783, .inl (I .int, 40, .inl f2807)), (q2784, .inl (I .int, 40, .inl f2808)), (q2785, .inl (I .int, 200, .inl f2809)), (q2786, .inl (I .int, 200, .inl f2810)), (q2787, .inl (I .int, 200, .inl f2811)), (q2788, .inl (I .int, 200, .inl f2812)), (q2789, .inl (I .int, 200, .inl f2813)), (q2790, .inl (I .int, 200, .inl f2814))]) (gV_ok D I) (ct_2819_Arrays_fill l hl0 D I q2779 0 f2803 ) d_cX7_perform_5 ⟨w_6_73, w_1_30, w_3_239, by decide, rfl, (Nat.le_of_ble_eq_true rfl), (Nat.le_of_ble_eq_true rfl)⟩ w_3_238 [3] [0, 1, 2, 4, 5, 6, 7, 8, 9, 10, 11, 12, 13, 14] rfl rfl rfl rfl (by decide) (Nat.le_of_ble_eq_true rfl) (Nat.le_of_ble_eq_true rfl) (Nat.le_of_ble_eq_true rfl) (fun r w hp => ?_) (fun _ _ _ z => z.elim)
  obtain ⟨f2855, rfl, rfl, bf2855⟩ := hp
  change G _ _ _ _ _ _ _ _ _ _ _
  refine G_ws (ws' := [(q2776, .inr (12, [.ref q2778, .ref q2779, .ref q2780, .ref q2781, .int p2792, .int p2793, .int p2794, .int p2795, .int p2796, .int p2797, .int p2798])), (q2777, .inr (5, [.ref q2782, .ref q2783, .ref q2784, .ref q2785, .ref q2786, .ref q2787, .ref q2788, .ref q2789, .ref q2790, .int p2799, .int p2800, .int p2801])), (q2778, .inl (I .int, 2048, .inl f2802)), (q2780, .inl (I .int, 100, .inl f2804)), (q2781, .inl (I .int, 512, .inl f2805)), (q2782, .inl (I .int, 40, .inl f2806)), (q2783, .inl (I .int, 40, .inl f2807)), (q2784, .inl (I .int, 40, .inl f2808)), (q2785, .inl (I .int, 200, .inl f2809)), (q2786, .inl (I .int, 200, .inl f2810)), (q2787, .inl (I .int, 200, .inl f2811)), (q2788, .inl (I .int, 200, .inl f2812)), (q2789, .inl (I .int, 200, .inl f2813)), (q2790, .inl (I .int, 200, .inl f2814)), (q2779, .inl (I .int, 100, .inl f2855))]) (cs' := 0) (sl' := 0) rfl rfl rfl ?_
  refine G_aload_n 0 d_cX7_perform_8 rfl ?_
  refine G_getf 0 2 d_cX7_perform_9 rfl (gk_X7 D I) (Nat.le_of_ble_eq_true rfl) w_2_162 rfl ?_
  refine G_iconst 0 d_cX7_perform_12 (by decide +kernel) ?_
  refine G_callS (As := [.ref q2780, .int 0]) (wr := [(q2776, .inr (12, [.ref q2778, .ref q2779, .ref q2780, .ref q2781, .int p2792, .int p2793, .int p2794, .int p2795, .int p2796, .int p2797, .int p2798])), (q2777, .inr (5, [.ref q2782, .ref q2783, .ref q2784, .ref q2785, .ref q2786, .ref q2787, .ref q2788, .ref q2789, .ref q2790, .int p2799, .int p2800, .int p2801])), (q2778, .inl (I .int, 2048, .inl f2802)), (q2781, .inl (I .int, 512, .inl f2805)), (q2782, .inl (I .int, 40, .inl f2806)), (q2783, .inl (I .int, 40, .inl f2807)), (q2784, .inl (I .int, 40, .inl f2808)), (q2785, .inl (I .int, 200, .inl f2809)), (q2786, .inl (I .int, 200, .inl f2810)), (q2787, .inl (I .int, 200, .inl f2811)), (q2788, .inl (I .int, 200, .inl f2812)), (q2789, .inl (I .int, 200, .inl f2813)), (q2790, .inl (I .int, 200, .inl f2814)), (q2779, .inl (I .int, 100, .inl f2855))]) (gV_ok D I) (ct_2819_Arrays_fill l hl0 D I q2780 0 f2804 ) d_cX7_perform_13 ⟨w_6_73, w_1_30, w_3_239, by decide, rfl, (Nat.le_of_ble_eq_true rfl), (Nat.le_of_ble_eq_true rfl)⟩ w_3_238 [3] [0, 1, 2, 4, 5, 6, 7, 8, 9, 10, 11, 12, 13, 14] rfl rfl rfl rfl (by decide) (Nat.le_of_ble_eq_true rfl) (Nat.le_of_ble_eq_true rfl) (Nat.le_of_ble_eq_true rfl) (fun r w hp => ?_) (fun _ _ _ z => z.elim)
  obtain ⟨f2856, rfl, rfl, bf2856⟩ := hp
  change G _ _ _ _ _ _ _ _ _ _ _
  refine G_ws (ws' := [(q2776, .inr (12, [.ref q2778, .ref q2779, .ref q2780, .ref q2781, .int p2792, .int p2793, .int p2794, .int p2795, .int p2796, .int p2797, .int p2798])), (q2777, .inr (5, [.ref q2782, .ref q2783, .ref q2784, .ref q2785, .ref q2786, .ref q2787, .ref q2788, .ref q2789, .ref q2790, .int p2799, .int p2800, .int p2801])), (q2778, .inl (I .int, 2048, .inl f2802)), (q2781, .inl (I .int, 512, .inl f2805)), (q2782, .inl (I .int, 40, .inl f2806)), (q2783, .inl (I .int, 40, .inl f2807)), (q2784, .inl (I .int, 40, .inl f2808)), (q2785, .inl (I .int, 200, .inl f2809)), (q2786, .inl (I .int, 200, .inl f2810)), (q2787, .inl (I .int, 200, .inl f2811)), (q2788, .inl (I .int, 200, .inl f2812)), (q2789, .inl (I .int, 200, .inl f2813)), (q2790, .inl (I .int, 200, .inl f2814)), (q2779, .inl (I .int, 100, .inl f2855)), (q2780, .inl (I .int, 100, .inl f2856))]) (cs' := 0) (sl' := 0) rfl rfl rfl ?_
  refine G_aload_n 0 d_cX7_perform_16 rfl ?_
  refine G_iconst 0 d_cX7_perform_17 (by decide +kernel) ?_
  refine G_putf (ws' := [(q2776, .inr (12, [.ref q2778, .ref q2779, .ref q2780, .ref q2781, .int p2792, .int 0, .int p2794, .int p2795, .int p2796, .int p2797, .int p2798])), (q2777, .inr (5, [.ref q2782, .ref q2783, .ref q2784, .ref q2785, .ref q2786, .ref q2787, .ref q2788, .ref q2789, .ref q2790, .int p2799, .int p2800, .int p2801])), (q2778, .inl (I .int, 2048, .inl f2802)), (q2781, .inl (I .int, 512, .inl f2805)), (q2782, .inl (I .int, 40, .inl f2806)), (q2783, .inl (I .int, 40, .inl f2807)), (q2784, .inl (I .int, 40, .inl f2808)), (q2785, .inl (I .int, 200, .inl f2809)), (q2786, .inl (I .int, 200, .inl f2810)), (q2787, .inl (I .int, 200, .inl f2811)), (q2788, .inl (I .int, 200, .inl f2812)), (q2789, .inl (I .int, 200, .inl f2813)), (q2790, .inl (I .int, 200, .inl f2814)), (q2779, .inl (I .int, 100, .inl f2855)), (q2780, .inl (I .int, 100, .inl f2856))]) 0 5 d_cX7_perform_18 rfl (gk_X7 D I) (Nat.le_of_ble_eq_true rfl) w_2_165 rfl rfl rfl (Nat.le_of_ble_eq_true rfl) rfl ?_
  refine G_aload_n 0 d_cX7_perform_21 rfl ?_
  refine G_iconst 0 d_cX7_perform_22 (by decide +kernel) ?_
  refine G_putf (ws' := [(q2776, .inr (12, [.ref q2778, .ref q2779, .ref q2780, .ref q2781, .int p2792, .int 0, .int 0, .int p2795, .int p2796, .int p2797, .int p2798])), (q2777, .inr (5, [.ref q2782, .ref q2783, .ref q2784, .ref q2785, .ref q2786, .ref q2787, .ref q2788, .ref q2789, .ref q2790, .int p2799, .int p2800, .int p2801])), (q2778, .inl (I .int, 2048, .inl f2802)), (q2781, .inl (I .int, 512, .inl f2805)), (q2782, .inl (I .int, 40, .inl f2806)), (q2783, .inl (I .int, 40, .inl f2807)), (q2784, .inl (I .int, 40, .inl f2808)), (q2785, .inl (I .int, 200, .inl f2809)), (q2786, .inl (I .int, 200, .inl f2810)), (q2787, .inl (I .int, 200, .inl f2811)), (q2788, .inl (I .int, 200, .inl f2812)), (q2789, .inl (I .int, 200, .inl f2813)), (q2790, .inl (I .int, 200, .inl f2814)), (q2779, .inl (I .int, 100, .inl f2855)), (q2780, .inl (I .int, 100, .inl f2856))]) 0 6 d_cX7_perform_23 rfl (gk_X7 D I) (Nat.le_of_ble_eq_true rfl) w_2_166 rfl rfl rfl (Nat.le_of_ble_eq_true rfl) rfl ?_
  refine G_aload_n 0 d_cX7_perform_26 rfl ?_
  refine G_iconst 0 d_cX7_perform_27 (by decide +kernel) ?_
  refine G_putf (ws' := [(q2776, .inr (12, [.ref q2778, .ref q2779, .ref q2780, .ref q2781, .int p2792, .int 0, .int 0, .int 0, .int p2796, .int p2797, .int p2798])), (q2777, .inr (5, [.ref q2782, .ref q2783, .ref q2784, .ref q2785, .ref q2786, .ref q2787, .ref q2788, .ref q2789, .ref q2790, .int p2799, .int p2800, .int p2801])), (q2778, .inl (I .int, 2048, .inl f2802)), (q2781, .inl (I .int, 512, .inl f2805)), (q2782, .inl (I .int, 40, .inl f2806)), (q2783, .inl (I .int, 40, .inl f2807)), (q2784, .inl (I .int, 40, .inl f2808)), (q2785, .inl (I .int, 200, .inl f2809)), (q2786, .inl (I .int, 200, .inl f2810)), (q2787, .inl (I .int, 200, .inl f2811)), (q2788, .inl (I .int, 200, .inl f2812)), (q2789, .inl (I .int, 200, .inl f2813)), (q2790, .inl (I .int, 200, .inl f2814)), (q2779, .inl (I .int, 100, .inl f2855)), (q2780, .inl (I .int, 100, .inl f2856))]) 0 7 d_cX7_perform_28 rfl (gk_X7 D I) (Nat.le_of_ble_eq_true rfl) w_2_167 rfl rfl rfl (Nat.le_of_ble_eq_true rfl) rfl ?_
  refine G_aload_n 0 d_cX7_perform_31 rfl ?_
  refine G_iconst 0 d_cX7_perform_32 (by decide +kernel) ?_
  refine G_putf (ws' := [(q2776, .inr (12, [.ref q2778, .ref q2779, .ref q2780, .ref q2781, .int p2792, .int 0, .int 0, .int 0, .int p2796, .int 0, .int p2798])), (q2777, .inr (5, [.ref q2782, .ref q2783, .ref q2784, .ref q2785, .ref q2786, .ref q2787, .ref q2788, .ref q2789, .ref q2790, .int p2799, .int p2800, .int p2801])), (q2778, .inl (I .int, 2048, .inl f2802)), (q2781, .inl (I .int, 512, .inl f2805)), (q2782, .inl (I .int, 40, .inl f2806)), (q2783, .inl (I .int, 40, .inl f2807)), (q2784, .inl (I .int, 40, .inl f2808)), (q2785, .inl (I .int, 200, .inl f2809)), (q2786, .inl (I .int, 200, .inl f2810)), (q2787, .inl (I .int, 200, .inl f2811)), (q2788, .inl (I .int, 200, .inl f2812)), (q2789, .inl (I .int, 200, .inl f2813)), (q2790, .inl (I .int, 200, .inl f2814)), (q2779, .inl (I .int, 100, .inl f2855)), (q2780, .inl (I .int, 100, .inl f2856))]) 0 9 d_cX7_perform_33 rfl (gk_X7 D I) (Nat.le_of_ble_eq_true rfl) w_2_169 rfl rfl rfl (Nat.le_of_ble_eq_true rfl) rfl ?_
  refine G_aload_n 0 d_cX7_perform_36 rfl ?_
  refine G_bipush (-2) d_cX7_perform_37 (by decide +kernel) ?_
  refine G_putf (ws' := [(q2776, .inr (12, [.ref q2778, .ref q2779, .ref q2780, .ref q2781, .int p2792, .int 0, .int 0, .int 0, .int p2796, .int 0, .int (-2)])), (q2777, .inr (5, [.ref q2782, .ref q2783, .ref q2784, .ref q2785, .ref q2786, .ref q2787, .ref q2788, .ref q2789, .ref q2790, .int p2799, .int p2800, .int p2801])), (q2778, .inl (I .int, 2048, .inl f2802)), (q2781, .inl (I .int, 512, .inl f2805)), (q2782, .inl (I .int, 40, .inl f2806)), (q2783, .inl (I .int, 40, .inl f2807)), (q2784, .inl (I .int, 40, .inl f2808)), (q2785, .inl (I .int, 200, .inl f2809)), (q2786, .inl (I .int, 200, .inl f2810)), (q2787, .inl (I .int, 200, .inl f2811)), (q2788, .inl (I .int, 200, .inl f2812)), (q2789, .inl (I .int, 200, .inl f2813)), (q2790, .inl (I .int, 200, .inl f2814)), (q2779, .inl (I .int, 100, .inl f2855)), (q2780, .inl (I .int, 100, .inl f2856))]) 0 10 d_cX7_perform_39 rfl (gk_X7 D I) (Nat.le_of_ble_eq_true rfl) w_2_170 rfl rfl rfl (Nat.le_of_ble_eq_true rfl) rfl ?_
  refine G_iconst 0 d_cX7_perform_42 (by decide +kernel) ?_
  refine G_istore_n (L' := [(3, .int 0), (0, .ref q2776), (1, .ref q2777), (2, .int p2791)]) d_cX7_perform_43 (Nat.le_of_ble_eq_true rfl) rfl ?_
  refine G_aload_n 1 d_cX7_perform_44 rfl ?_
  refine G_iconst 0 d_cX7_perform_45 (by decide +kernel) ?_
  refine G_putf (ws' := [(q2776, .inr (12, [.ref q2778, .ref q2779, .ref q2780, .ref q2781, .int p2792, .int 0, .int 0, .int 0, .int 0, .int 0, .int (-2)])), (q2777, .inr (5, [.ref q2782, .ref q2783, .ref q2784, .ref q2785, .ref q2786, .ref q2787, .ref q2788, .ref q2789, .ref q2790, .int p2799, .int p2800, .int p2801])), (q2778, .inl (I .int, 2048, .inl f2802)), (q2781, .inl (I .int, 512, .inl f2805)), (q2782, .inl (I .int, 40, .inl f2806)), (q2783, .inl (I .int, 40, .inl f2807)), (q2784, .inl (I .int, 40, .inl f2808)), (q2785, .inl (I .int, 200, .inl f2809)), (q2786, .inl (I .int, 200, .inl f2810)), (q2787, .inl (I .int, 200, .inl f2811)), (q2788, .inl (I .int, 200, .inl f2812)), (q2789, .inl (I .int, 200, .inl f2813)), (q2790, .inl (I .int, 200, .inl f2814)), (q2779, .inl (I .int, 100, .inl f2855)), (q2780, .inl (I .int, 100, .inl f2856))]) 0 8 d_cX7_perform_46 rfl (gk_X7 D I) (Nat.le_of_ble_eq_true rfl) w_2_168 rfl rfl rfl (Nat.le_of_ble_eq_true rfl) rfl ?_
  have hlp49_3753 : ∀ (n49_3753 : Nat) (g3744 : Int32) (g3745 : Int32) (g3746 : Int32) (g3747 : Int32) (g3748 : Int32) (g3749 : Int32) (g3750 : Int32) (f3751 : Nat → Int32) (f3752 : Nat → Int32) (f3753 : Nat → Int32), gB g3744 (-1) 200 → gB g3745 0 100000 → gB g3746 (-2147483648) 2147483647 → gB g3747 0 39 → gB g3748 (-2147483648) 2147483647 → gB g3749 0 512 → gB g3750 0 2048 → gF f3751 (-2147483648) 2147483647 → gF f3752 (-2147483648) 2147483647 → gF f3753 (-2147483648) 2147483647 → ((100001 : Int) - g3745.toInt).toNat < n49_3753 → G (gV D I) l (gRm 3 68 0 0) (gM (gV D I) (po_2815_Machine_perform I q2776 q2777 q2778 q2779 q2780 q2781 q2782 q2783 q2784 q2785 q2786 q2787 q2788 q2789 q2790 p2791 p2792 p2793 p2794 p2795 p2796 p2797 p2798 p2799 p2800 p2801 f2802 f2803 f2804 f2805 f2806 f2807 f2808 f2809 f2810 f2811 f2812 f2813 f2814) gN 0 0) ky_2815_Machine_perform 49 [(3, .int g3744), (0, .ref q2776), (1, .ref q2777), (2, .int p2791)] [] [(q2776, .inr (12, [.ref q2778, .ref q2779, .ref q2780, .ref q2781, .int p2792, .int g3747, .int g3748, .int g3749, .int g3745, .int g3750, .int g3746])), (q2777, .inr (5, [.ref q2782, .ref q2783, .ref q2784, .ref q2785, .ref q2786, .ref q2787, .ref q2788, .ref q2789, .ref q2790, .int p2799, .int p2800, .int p2801])), (q2778, .inl (I .int, 2048, .inl f2802)), (q2781, .inl (I .int, 512, .inl f3751)), (q2782, .inl (I .int, 40, .inl f2806)), (q2783, .inl (I .int, 40, .inl f2807)), (q2784, .inl (I .int, 40, .inl f2808)), (q2785, .inl (I .int, 200, .inl f2809)), (q2786, .inl (I .int, 200, .inl f2810)), (q2787, .inl (I .int, 200, .inl f2811)), (q2788, .inl (I .int, 200, .inl f2812)), (q2789, .inl (I .int, 200, .inl f2813)), (q2790, .inl (I .int, 200, .inl f2814)), (q2779, .inl (I .int, 100, .inl f3752)), (q2780, .inl (I .int, 100, .inl f3753))] 0 0 := by
    intro n49_3753
    induction n49_3753 with
    | zero => intro g3744 g3745 g3746 g3747 g3748 g3749 g3750 f3751 f3752 f3753 bg3744 bg3745 bg3746 bg3747 bg3748 bg3749 bg3750 bf3751 bf3752 bf3753 hm49_3753; exact absurd hm49_3753 (Nat.not_lt_zero _)
    | succ n49_3753 ih49_3753 =>
      intro g3744 g3745 g3746 g3747 g3748 g3749 g3750 f3751 f3752 f3753 bg3744 bg3745 bg3746 bg3747 bg3748 bg3749 bg3750 bf3751 bf3752 bf3753 hm49_3753
      refine G_aload_n 1 d_cX7_perform_49 rfl ?_
      refine G_getf 0 8 d_cX7_perform_50 rfl (gk_X7 D I) (Nat.le_of_ble_eq_true rfl) w_2_168 rfl ?_
      refine G_iload_n 3 d_cX7_perform_53 rfl ?_
      refine G_icmp_ge 106 d_cX7_perform_54 (by decide +kernel) (fun hc3754 => ?_) (fun hc3754 => ?_)
      · have r3755 : p2791.toInt ≤ g3745.toInt := gC_le hc3754
        have bg3745' : gB g3745 1 100000 := ⟨by omega, by omega⟩
        refine G_aload_n 1 d_cX7_perform_106 rfl ?_
        refine G_getf 0 10 d_cX7_perform_107 rfl (gk_X7 D I) (Nat.le_of_ble_eq_true rfl) w_2_170 rfl ?_
        refine G_bipush (-2) d_cX7_perform_110 (by decide +kernel) ?_
        refine G_icmp_ne 120 d_cX7_perform_112 (by decide +kernel) (fun hc3756 => ?_) (fun hc3756 => ?_)
        · have r3757 : g3746.toInt ≠ (-2) := gj_neq hc3756 (show Int32.toInt (-2) = (-2) by decide)
          refine G_sub (ws' := [(q2776, .inr (12, [.ref q2778, .ref q2779, .ref q2780, .ref q2781, .int p2792, .int g3747, .int g3748, .int g3749, .int g3745, .int g3750, .int g3746])), (q2777, .inr (5, [.ref q2782, .ref q2783, .ref q2784, .ref q2785, .ref q2786, .ref q2787, .ref q2788, .ref q2789, .ref q2790, .int p2799, .int p2800, .int p2801])), (q2778, .inl (I .int, 2048, .inl f2802)), (q2779, .inl (I .int, 100, .inl f3752)), (q2780, .inl (I .int, 100, .inl f3753)), (q2781, .inl (I .int, 512, .inl f3751)), (q2782, .inl (I .int, 40, .inl f2806)), (q2783, .inl (I .int, 40, .inl f2807)), (q2784, .inl (I .int, 40, .inl f2808)), (q2785, .inl (I .int, 200, .inl f2809)), (q2786, .inl (I .int, 200, .inl f2810)), (q2787, .inl (I .int, 200, .inl f2811)), (q2788, .inl (I .int, 200, .inl f2812)), (q2789, .inl (I .int, 200, .inl f2813)), (q2790, .inl (I .int, 200, .inl f2814))]) [0, 1, 2, 13, 14, 3, 4, 5, 6, 7, 8, 9, 10, 11, 12] rfl rfl ?_
          exact G_vret d_cX7_perform_120 rfl (Nat.le_of_ble_eq_true rfl) (Nat.le_of_ble_eq_true rfl) ⟨g3747, g3748, g3749, g3745, g3750, g3746, f3752, f3753, f3751, rfl, rfl, bg3747, bg3748, bg3749, (gB_w bg3745' (by decide) (by decide)), bg3750, bg3746, bf3752, bf3753, bf3751⟩
        · have r3758 : g3746.toInt = (-2) := gj_eq hc3756 (show Int32.toInt (-2) = (-2) by decide)
          have bg3746' : gB g3746 (-2) (-2) := ⟨by omega, by omega⟩
          refine G_aload_n 1 d_cX7_perform_115 rfl ?_
          refine G_iconst 4 d_cX7_perform_116 (by decide +kernel) ?_
          refine G_putf (ws' := [(q2776, .inr (12, [.ref q2778, .ref q2779, .ref q2780, .ref q2781, .int p2792, .int g3747, .int g3748, .int g3749, .int g3745, .int g3750, .int 4])), (q2777, .inr (5, [.ref q2782, .ref q2783, .ref q2784, .ref q2785, .ref q2786, .ref q2787, .ref q2788, .ref q2789, .ref q2790, .int p2799, .int p2800, .int p2801])), (q2778, .inl (I .int, 2048, .inl f2802)), (q2781, .inl (I .int, 512, .inl f3751)), (q2782, .inl (I .int, 40, .inl f2806)), (q2783, .inl (I .int, 40, .inl f2807)), (q2784, .inl (I .int, 40, .inl f2808)), (q2785, .inl (I .int, 200, .inl f2809)), (q2786, .inl (I .int, 200, .inl f2810)), (q2787, .inl (I .int, 200, .inl f2811)), (q2788, .inl (I .int, 200, .inl f2812)), (q2789, .inl (I .int, 200, .inl f2813)), (q2790, .inl (I .int, 200, .inl f2814)), (q2779, .inl (I .int, 100, .inl f3752)), (q2780, .inl (I .int, 100, .inl f3753))]) 0 10 d_cX7_perform_117 rfl (gk_X7 D I) (Nat.le_of_ble_eq_true rfl) w_2_170 rfl rfl rfl (Nat.le_of_ble_eq_true rfl) rfl ?_
          refine G_sub (ws' := [(q2776, .inr (12, [.ref q2778, .ref q2779, .ref q2780, .ref q2781, .int p2792, .int g3747, .int g3748, .int g3749, .int g3745, .int g3750, .int 4])), (q2777, .inr (5, [.ref q2782, .ref q2783, .ref q2784, .ref q2785, .ref q2786, .ref q2787, .ref q2788, .ref q2789, .ref q2790, .int p2799, .int p2800, .int p2801])), (q2778, .inl (I .int, 2048, .inl f2802)), (q2779, .inl (I .int, 100, .inl f3752)), (q2780, .inl (I .int, 100, .inl f3753)), (q2781, .inl (I .int, 512, .inl f3751)), (q2782, .inl (I .int, 40, .inl f2806)), (q2783, .inl (I .int, 40, .inl f2807)), (q2784, .inl (I .int, 40, .inl f2808)), (q2785, .inl (I .int, 200, .inl f2809)), (q2786, .inl (I .int, 200, .inl f2810)), (q2787, .inl (I .int, 200, .inl f2811)), (q2788, .inl (I .int, 200, .inl f2812)), (q2789, .inl (I .int, 200, .inl f2813)), (q2790, .inl (I .int, 200, .inl f2814))]) [0, 1, 2, 13, 14, 3, 4, 5, 6, 7, 8, 9, 10, 11, 12] rfl rfl ?_
          exact G_vret d_cX7_perform_120 rfl (Nat.le_of_ble_eq_true rfl) (Nat.le_of_ble_eq_true rfl) ⟨g3747, g3748, g3749, g3745, g3750, 4, f3752, f3753, f3751, rfl, rfl, bg3747, bg3748, bg3749, (gB_w bg3745' (by decide) (by decide)), bg3750, (gB_w (gBl (show Int32.toInt 4 = 4 by decide)) (by decide) (by decide)), bf3752, bf3753, bf3751⟩
      · have r3759 : g3745.toInt < p2791.toInt := gC_nle hc3754
        have bg3745' : gB g3745 0 99999 := ⟨by omega, by omega⟩
        refine G_aload_n 1 d_cX7_perform_57 rfl ?_
        refine G_getf 0 10 d_cX7_perform_58 rfl (gk_X7 D I) (Nat.le_of_ble_eq_true rfl) w_2_170 rfl ?_
        refine G_bipush (-2) d_cX7_perform_61 (by decide +kernel) ?_
        refine G_icmp_ne 106 d_cX7_perform_63 (by decide +kernel) (fun hc3760 => ?_) (fun hc3760 => ?_)
        · have r3761 : g3746.toInt ≠ (-2) := gj_neq hc3760 (show Int32.toInt (-2) = (-2) by decide)
          refine G_aload_n 1 d_cX7_perform_106 rfl ?_
          refine G_getf 0 10 d_cX7_perform_107 rfl (gk_X7 D I) (Nat.le_of_ble_eq_true rfl) w_2_170 rfl ?_
          refine G_bipush (-2) d_cX7_perform_110 (by decide +kernel) ?_
          refine G_icmp_ne 120 d_cX7_perform_112 (by decide +kernel) (fun hc3762 => ?_) (fun hc3762 => ?_)
          · have r3763 : g3746.toInt ≠ (-2) := gj_neq hc3762 (show Int32.toInt (-2) = (-2) by decide)
            refine G_sub (ws' := [(q2776, .inr (12, [.ref q2778, .ref q2779, .ref q2780, .ref q2781, .int p2792, .int g3747, .int g3748, .int g3749, .int g3745, .int g3750, .int g3746])), (q2777, .inr (5, [.ref q2782, .ref q2783, .ref q2784, .ref q2785, .ref q2786, .ref q2787, .ref q2788, .ref q2789, .ref q2790, .int p2799, .int p2800, .int p2801])), (q2778, .inl (I .int, 2048, .inl f2802)), (q2779, .inl (I .int, 100, .inl f3752)), (q2780, .inl (I .int, 100, .inl f3753)), (q2781, .inl (I .int, 512, .inl f3751)), (q2782, .inl (I .int, 40, .inl f2806)), (q2783, .inl (I .int, 40, .inl f2807)), (q2784, .inl (I .int, 40, .inl f2808)), (q2785, .inl (I .int, 200, .inl f2809)), (q2786, .inl (I .int, 200, .inl f2810)), (q2787, .inl (I .int, 200, .inl f2811)), (q2788, .inl (I .int, 200, .inl f2812)), (q2789, .inl (I .int, 200, .inl f2813)), (q2790, .inl (I .int, 200, .inl f2814))]) [0, 1, 2, 13, 14, 3, 4, 5, 6, 7, 8, 9, 10, 11, 12] rfl rfl ?_
            exact G_vret d_cX7_perform_120 rfl (Nat.le_of_ble_eq_true rfl) (Nat.le_of_ble_eq_true rfl) ⟨g3747, g3748, g3749, g3745, g3750, g3746, f3752, f3753, f3751, rfl, rfl, bg3747, bg3748, bg3749, (gB_w bg3745' (by decide) (by decide)), bg3750, bg3746, bf3752, bf3753, bf3751⟩
          · have r3764 : g3746.toInt = (-2) := gj_eq hc3762 (show Int32.toInt (-2) = (-2) by decide)
            have bg3746' : gB g3746 (-2) (-2) := ⟨by omega, by omega⟩
            refine G_aload_n 1 d_cX7_perform_115 rfl ?_
            refine G_iconst 4 d_cX7_perform_116 (by decide +kernel) ?_
            refine G_putf (ws' := [(q2776, .inr (12, [.ref q2778, .ref q2779, .ref q2780, .ref q2781, .int p2792, .int g3747, .int g3748, .int g3749, .int g3745, .int g3750, .int 4])), (q2777, .inr (5, [.ref q2782, .ref q2783, .ref q2784, .ref q2785, .ref q2786, .ref q2787, .ref q2788, .ref q2789, .ref q2790, .int p2799, .int p2800, .int p2801])), (q2778, .inl (I .int, 2048, .inl f2802)), (q2781, .inl (I .int, 512, .inl f3751)), (q2782, .inl (I .int, 40, .inl f2806)), (q2783, .inl (I .int, 40, .inl f2807)), (q2784, .inl (I .int, 40, .inl f2808)), (q2785, .inl (I .int, 200, .inl f2809)), (q2786, .inl (I .int, 200, .inl f2810)), (q2787, .inl (I .int, 200, .inl f2811)), (q2788, .inl (I .int, 200, .inl f2812)), (q2789, .inl (I .int, 200, .inl f2813)), (q2790, .inl (I .int, 200, .inl f2814)), (q2779, .inl (I .int, 100, .inl f3752)), (q2780, .inl (I .int, 100, .inl f3753))]) 0 10 d_cX7_perform_117 rfl (gk_X7 D I) (Nat.le_of_ble_eq_true rfl) w_2_170 rfl rfl rfl (Nat.le_of_ble_eq_true rfl) rfl ?_
            refine G_sub (ws' := [(q2776, .inr (12, [.ref q2778, .ref q2779, .ref q2780, .ref q2781, .int p2792, .int g3747, .int g3748, .int g3749, .int g3745, .int g3750, .int 4])), (q2777, .inr (5, [.ref q2782, .ref q2783, .ref q2784, .ref q2785, .ref q2786, .ref q2787, .ref q2788, .ref q2789, .ref q2790, .int p2799, .int p2800, .int p2801])), (q2778, .inl (I .int, 2048, .inl f2802)), (q2779, .inl (I .int, 100, .inl f3752)), (q2780, .inl (I .int, 100, .inl f3753)), (q2781, .inl (I .int, 512, .inl f3751)), (q2782, .inl (I .int, 40, .inl f2806)), (q2783, .inl (I .int, 40, .inl f2807)), (q2784, .inl (I .int, 40, .inl f2808)), (q2785, .inl (I .int, 200, .inl f2809)), (q2786, .inl (I .int, 200, .inl f2810)), (q2787, .inl (I .int, 200, .inl f2811)), (q2788, .inl (I .int, 200, .inl f2812)), (q2789, .inl (I .int, 200, .inl f2813)), (q2790, .inl (I .int, 200, .inl f2814))]) [0, 1, 2, 13, 14, 3, 4, 5, 6, 7, 8, 9, 10, 11, 12] rfl rfl ?_
            exact G_vret d_cX7_perform_120 rfl (Nat.le_of_ble_eq_true rfl) (Nat.le_of_ble_eq_true rfl) ⟨g3747, g3748, g3749, g3745, g3750, 4, f3752, f3753, f3751, rfl, rfl, bg3747, bg3748, bg3749, (gB_w bg3745' (by decide) (by decide)), bg3750, (gB_w (gBl (show Int32.toInt 4 = 4 by decide)) (by decide) (by decide)), bf3752, bf3753, bf3751⟩
        · have r3765 : g3746.toInt = (-2) := gj_eq hc3760 (show Int32.toInt (-2) = (-2) by decide)
          have bg3746' : gB g3746 (-2) (-2) := ⟨by omega, by omega⟩
          refine G_iload_n 0 d_cX7_perform_66 rfl ?_
          refine G_if_lt 87 d_cX7_perform_67 (by decide +kernel) (fun hc3766 => ?_) (fun hc3766 => ?_)
          · have r3767 : g3744.toInt < 0 := gj_lt hc3766 (show Int32.toInt 0 = 0 by decide)
            have bg3744' : gB g3744 (-1) (-1) := ⟨by omega, by omega⟩
            refine G_aload_n 1 d_cX7_perform_87 rfl ?_
            refine G_iconst 4 d_cX7_perform_88 (by decide +kernel) ?_
            refine G_callV (As := [.int 4]) (wr := [(q2777, .inr (5, [.ref q2782, .ref q2783, .ref q2784, .ref q2785, .ref q2786, .ref q2787, .ref q2788, .ref q2789, .ref q2790, .int p2799, .int p2800, .int p2801])), (q2782, .inl (I .int, 40, .inl f2806)), (q2783, .inl (I .int, 40, .inl f2807)), (q2784, .inl (I .int, 40, .inl f2808)), (q2785, .inl (I .int, 200, .inl f2809)), (q2786, .inl (I .int, 200, .inl f2810)), (q2787, .inl (I .int, 200, .inl f2811)), (q2788, .inl (I .int, 200, .inl f2812)), (q2789, .inl (I .int, 200, .inl f2813)), (q2790, .inl (I .int, 200, .inl f2814))]) (gV_ok D I) (ct_2876_Machine_halt l hl0 D I q2776 q2778 q2779 q2780 q2781 4 p2792 g3747 g3748 g3749 g3745 g3750 g3746 f2802 f3752 f3753 f3751 bp2792 bg3747 bg3749 bg3750) d_cX7_perform_89 ⟨w_6_86, w_1_12, w_6_89, by decide, rfl, (Nat.le_of_ble_eq_true rfl), (Nat.le_of_ble_eq_true rfl)⟩ w_6_88 w_p_60 0 rfl rfl [0, 2, 13, 14, 3] [1, 4, 5, 6, 7, 8, 9, 10, 11, 12] rfl rfl rfl rfl (by decide) (Nat.le_of_ble_eq_true rfl) (Nat.le_of_ble_eq_true rfl) (Nat.le_of_ble_eq_true rfl) (fun r w hp => ?_) (fun _ _ _ z => z.elim)
            obtain ⟨o3768, rfl, rfl, bo3768⟩ := hp
            change G _ _ _ _ _ _ _ (.int (-1) :: _) _ _ _
            refine G_ws (ws' := [(q2777, .inr (5, [.ref q2782, .ref q2783, .ref q2784, .ref q2785, .ref q2786, .ref q2787, .ref q2788, .ref q2789, .ref q2790, .int p2799, .int p2800, .int p2801])), (q2782, .inl (I .int, 40, .inl f2806)), (q2783, .inl (I .int, 40, .inl f2807)), (q2784, .inl (I .int, 40, .inl f2808)), (q2785, .inl (I .int, 200, .inl f2809)), (q2786, .inl (I .int, 200, .inl f2810)), (q2787, .inl (I .int, 200, .inl f2811)), (q2788, .inl (I .int, 200, .inl f2812)), (q2789, .inl (I .int, 200, .inl f2813)), (q2790, .inl (I .int, 200, .inl f2814)), (q2776, .inr (12, [.ref q2778, .ref q2779, .ref q2780, .ref q2781, .int p2792, .int g3747, .int g3748, .int g3749, .int g3745, .int g3750, .int o3768])), (q2778, .inl (I .int, 2048, .inl f2802)), (q2779, .inl (I .int, 100, .inl f3752)), (q2780, .inl (I .int, 100, .inl f3753)), (q2781, .inl (I .int, 512, .inl f3751))]) (cs' := 0) (sl' := 0) rfl rfl rfl ?_
            refine G_istore_n (L' := [(3, .int (-1)), (0, .ref q2776), (1, .ref q2777), (2, .int p2791)]) d_cX7_perform_92 (Nat.le_of_ble_eq_true rfl) rfl ?_
            refine G_aload_n 1 d_cX7_perform_93 rfl ?_
            refine G_dup d_cX7_perform_94 rfl ?_
            refine G_getf 10 8 d_cX7_perform_95 rfl (gk_X7 D I) (Nat.le_of_ble_eq_true rfl) w_2_168 rfl ?_
            refine G_iconst 1 d_cX7_perform_98 (by decide +kernel) ?_
            refine G_iadd d_cX7_perform_99 (G_nam fun z3769 hz3769 => ?_)
            have ez3769 : z3769.toInt = g3745.toInt + 1 := by rw [gI_add hz3769 bg3745' (gBl (show Int32.toInt 1 = 1 by decide)) (by decide) (by decide), show Int32.toInt 1 = 1 from by decide]
            have bz3769 : gB z3769 1 100000 := gB_add (gI_add hz3769 bg3745' (gBl (show Int32.toInt 1 = 1 by decide)) (by decide) (by decide)) bg3745' (gBl (show Int32.toInt 1 = 1 by decide)) (by decide) (by decide)
            refine G_putf (ws' := [(q2777, .inr (5, [.ref q2782, .ref q2783, .ref q2784, .ref q2785, .ref q2786, .ref q2787, .ref q2788, .ref q2789, .ref q2790, .int p2799, .int p2800, .int p2801])), (q2782, .inl (I .int, 40, .inl f2806)), (q2783, .inl (I .int, 40, .inl f2807)), (q2784, .inl (I .int, 40, .inl f2808)), (q2785, .inl (I .int, 200, .inl f2809)), (q2786, .inl (I .int, 200, .inl f2810)), (q2787, .inl (I .int, 200, .inl f2811)), (q2788, .inl (I .int, 200, .inl f2812)), (q2789, .inl (I .int, 200, .inl f2813)), (q2790, .inl (I .int, 200, .inl f2814)), (q2776, .inr (12, [.ref q2778, .ref q2779, .ref q2780, .ref q2781, .int p2792, .int g3747, .int g3748, .int g3749, .int z3769, .int g3750, .int o3768])), (q2778, .inl (I .int, 2048, .inl f2802)), (q2779, .inl (I .int, 100, .inl f3752)), (q2780, .inl (I .int, 100, .inl f3753)), (q2781, .inl (I .int, 512, .inl f3751))]) 10 8 d_cX7_perform_100 rfl (gk_X7 D I) (Nat.le_of_ble_eq_true rfl) w_2_168 rfl rfl rfl (Nat.le_of_ble_eq_true rfl) rfl ?_
            refine G_goto 49 d_cX7_perform_103 (by decide +kernel) ?_
            refine G_sub (ws' := [(q2776, .inr (12, [.ref q2778, .ref q2779, .ref q2780, .ref q2781, .int p2792, .int g3747, .int g3748, .int g3749, .int z3769, .int g3750, .int o3768])), (q2777, .inr (5, [.ref q2782, .ref q2783, .ref q2784, .ref q2785, .ref q2786, .ref q2787, .ref q2788, .ref q2789, .ref q2790, .int p2799, .int p2800, .int p2801])), (q2778, .inl (I .int, 2048, .inl f2802)), (q2781, .inl (I .int, 512, .inl f3751)), (q2782, .inl (I .int, 40, .inl f2806)), (q2783, .inl (I .int, 40, .inl f2807)), (q2784, .inl (I .int, 40, .inl f2808)), (q2785, .inl (I .int, 200, .inl f2809)), (q2786, .inl (I .int, 200, .inl f2810)), (q2787, .inl (I .int, 200, .inl f2811)), (q2788, .inl (I .int, 200, .inl f2812)), (q2789, .inl (I .int, 200, .inl f2813)), (q2790, .inl (I .int, 200, .inl f2814)), (q2779, .inl (I .int, 100, .inl f3752)), (q2780, .inl (I .int, 100, .inl f3753))]) [10, 0, 11, 14, 1, 2, 3, 4, 5, 6, 7, 8, 9, 12, 13] rfl rfl ?_
            exact ih49_3753 (-1) z3769 o3768 g3747 g3748 g3749 g3750 f3751 f3752 f3753 (gB_w (gBl (show Int32.toInt (-1) = (-1) by decide)) (by decide) (by decide)) (gB_w bz3769 (by decide) (by decide)) bo3768 bg3747 bg3748 bg3749 bg3750 bf3751 bf3752 bf3753 (by have qa0 : Int32.toInt (-1) = (-1) := (by decide); omega)
          · have r3770 : 0 ≤ g3744.toInt := gj_nlt hc3766 (show Int32.toInt 0 = 0 by decide)
            have bg3744' : gB g3744 0 200 := ⟨by omega, by omega⟩
            refine G_iload_n 0 d_cX7_perform_70 rfl ?_
            refine G_aload_n 2 d_cX7_perform_71 rfl ?_
            refine G_getfN 1 10 d_cX7_perform_72 rfl (gk_X0 D I) (Nat.le_of_ble_eq_true rfl) (fun _ _ _ h => gn_w 46 rfl h) rfl ?_
            refine G_icmp_ge 87 d_cX7_perform_75 (by decide +kernel) (fun hc3771 => ?_) (fun hc3771 => ?_)
            · have r3772 : p2800.toInt ≤ g3744.toInt := gC_le hc3771
              refine G_aload_n 1 d_cX7_perform_87 rfl ?_
              refine G_iconst 4 d_cX7_perform_88 (by decide +kernel) ?_
              refine G_callV (As := [.int 4]) (wr := [(q2777, .inr (5, [.ref q2782, .ref q2783, .ref q2784, .ref q2785, .ref q2786, .ref q2787, .ref q2788, .ref q2789, .ref q2790, .int p2799, .int p2800, .int p2801])), (q2782, .inl (I .int, 40, .inl f2806)), (q2783, .inl (I .int, 40, .inl f2807)), (q2784, .inl (I .int, 40, .inl f2808)), (q2785, .inl (I .int, 200, .inl f2809)), (q2786, .inl (I .int, 200, .inl f2810)), (q2787, .inl (I .int, 200, .inl f2811)), (q2788, .inl (I .int, 200, .inl f2812)), (q2789, .inl (I .int, 200, .inl f2813)), (q2790, .inl (I .int, 200, .inl f2814))]) (gV_ok D I) (ct_2876_Machine_halt l hl0 D I q2776 q2778 q2779 q2780 q2781 4 p2792 g3747 g3748 g3749 g3745 g3750 g3746 f2802 f3752 f3753 f3751 bp2792 bg3747 bg3749 bg3750) d_cX7_perform_89 ⟨w_6_86, w_1_12, w_6_89, by decide, rfl, (Nat.le_of_ble_eq_true rfl), (Nat.le_of_ble_eq_true rfl)⟩ w_6_88 w_p_60 0 rfl rfl [0, 2, 13, 14, 3] [1, 4, 5, 6, 7, 8, 9, 10, 11, 12] rfl rfl rfl rfl (by decide) (Nat.le_of_ble_eq_true rfl) (Nat.le_of_ble_eq_true rfl) (Nat.le_of_ble_eq_true rfl) (fun r w hp => ?_) (fun _ _ _ z => z.elim)
              obtain ⟨o3773, rfl, rfl, bo3773⟩ := hp
              change G _ _ _ _ _ _ _ (.int (-1) :: _) _ _ _
              refine G_ws (ws' := [(q2777, .inr (5, [.ref q2782, .ref q2783, .ref q2784, .ref q2785, .ref q2786, .ref q2787, .ref q2788, .ref q2789, .ref q2790, .int p2799, .int p2800, .int p2801])), (q2782, .inl (I .int, 40, .inl f2806)), (q2783, .inl (I .int, 40, .inl f2807)), (q2784, .inl (I .int, 40, .inl f2808)), (q2785, .inl (I .int, 200, .inl f2809)), (q2786, .inl (I .int, 200, .inl f2810)), (q2787, .inl (I .int, 200, .inl f2811)), (q2788, .inl (I .int, 200, .inl f2812)), (q2789, .inl (I .int, 200, .inl f2813)), (q2790, .inl (I .int, 200, .inl f2814)), (q2776, .inr (12, [.ref q2778, .ref q2779, .ref q2780, .ref q2781, .int p2792, .int g3747, .int g3748, .int g3749, .int g3745, .int g3750, .int o3773])), (q2778, .inl (I .int, 2048, .inl f2802)), (q2779, .inl (I .int, 100, .inl f3752)), (q2780, .inl (I .int, 100, .inl f3753)), (q2781, .inl (I .int, 512, .inl f3751))]) (cs' := 0) (sl' := 0) rfl rfl rfl ?_
              refine G_istore_n (L' := [(3, .int (-1)), (0, .ref q2776), (1, .ref q2777), (2, .int p2791)]) d_cX7_perform_92 (Nat.le_of_ble_eq_true rfl) rfl ?_
              refine G_aload_n 1 d_cX7_perform_93 rfl ?_
              refine G_dup d_cX7_perform_94 rfl ?_
              refine G_getf 10 8 d_cX7_perform_95 rfl (gk_X7 D I) (Nat.le_of_ble_eq_true rfl) w_2_168 rfl ?_
              refine G_iconst 1 d_cX7_perform_98 (by decide +kernel) ?_
              refine G_iadd d_cX7_perform_99 (G_nam fun z3774 hz3774 => ?_)
              have ez3774 : z3774.toInt = g3745.toInt + 1 := by rw [gI_add hz3774 bg3745' (gBl (show Int32.toInt 1 = 1 by decide)) (by decide) (by decide), show Int32.toInt 1 = 1 from by decide]
              have bz3774 : gB z3774 1 100000 := gB_add (gI_add hz3774 bg3745' (gBl (show Int32.toInt 1 = 1 by decide)) (by decide) (by decide)) bg3745' (gBl (show Int32.toInt 1 = 1 by decide)) (by decide) (by decide)
              refine G_putf (ws' := [(q2777, .inr (5, [.ref q2782, .ref q2783, .ref q2784, .ref q2785, .ref q2786, .ref q2787, .ref q2788, .ref q2789, .ref q2790, .int p2799, .int p2800, .int p2801])), (q2782, .inl (I .int, 40, .inl f2806)), (q2783, .inl (I .int, 40, .inl f2807)), (q2784, .inl (I .int, 40, .inl f2808)), (q2785, .inl (I .int, 200, .inl f2809)), (q2786, .inl (I .int, 200, .inl f2810)), (q2787, .inl (I .int, 200, .inl f2811)), (q2788, .inl (I .int, 200, .inl f2812)), (q2789, .inl (I .int, 200, .inl f2813)), (q2790, .inl (I .int, 200, .inl f2814)), (q2776, .inr (12, [.ref q2778, .ref q2779, .ref q2780, .ref q2781, .int p2792, .int g3747, .int g3748, .int g3749, .int z3774, .int g3750, .int o3773])), (q2778, .inl (I .int, 2048, .inl f2802)), (q2779, .inl (I .int, 100, .inl f3752)), (q2780, .inl (I .int, 100, .inl f3753)), (q2781, .inl (I .int, 512, .inl f3751))]) 10 8 d_cX7_perform_100 rfl (gk_X7 D I) (Nat.le_of_ble_eq_true rfl) w_2_168 rfl rfl rfl (Nat.le_of_ble_eq_true rfl) rfl ?_
              refine G_goto 49 d_cX7_perform_103 (by decide +kernel) ?_
              refine G_sub (ws' := [(q2776, .inr (12, [.ref q2778, .ref q2779, .ref q2780, .ref q2781, .int p2792, .int g3747, .int g3748, .int g3749, .int z3774, .int g3750, .int o3773])), (q2777, .inr (5, [.ref q2782, .ref q2783, .ref q2784, .ref q2785, .ref q2786, .ref q2787, .ref q2788, .ref q2789, .ref q2790, .int p2799, .int p2800, .int p2801])), (q2778, .inl (I .int, 2048, .inl f2802)), (q2781, .inl (I .int, 512, .inl f3751)), (q2782, .inl (I .int, 40, .inl f2806)), (q2783, .inl (I .int, 40, .inl f2807)), (q2784, .inl (I .int, 40, .inl f2808)), (q2785, .inl (I .int, 200, .inl f2809)), (q2786, .inl (I .int, 200, .inl f2810)), (q2787, .inl (I .int, 200, .inl f2811)), (q2788, .inl (I .int, 200, .inl f2812)), (q2789, .inl (I .int, 200, .inl f2813)), (q2790, .inl (I .int, 200, .inl f2814)), (q2779, .inl (I .int, 100, .inl f3752)), (q2780, .inl (I .int, 100, .inl f3753))]) [10, 0, 11, 14, 1, 2, 3, 4, 5, 6, 7, 8, 9, 12, 13] rfl rfl ?_
              exact ih49_3753 (-1) z3774 o3773 g3747 g3748 g3749 g3750 f3751 f3752 f3753 (gB_w (gBl (show Int32.toInt (-1) = (-1) by decide)) (by decide) (by decide)) (gB_w bz3774 (by decide) (by decide)) bo3773 bg3747 bg3748 bg3749 bg3750 bf3751 bf3752 bf3753 (by have qa0 : Int32.toInt (-1) = (-1) := (by decide); omega)
            · have r3775 : g3744.toInt < p2800.toInt := gC_nle hc3771
              have bg3744'' : gB g3744 0 199 := ⟨by omega, by omega⟩
              have bp2800' : gB p2800 1 200 := ⟨by omega, by omega⟩
              refine G_aload_n 1 d_cX7_perform_78 rfl ?_
              refine G_aload_n 2 d_cX7_perform_79 rfl ?_
              refine G_iload_n 0 d_cX7_perform_80 rfl ?_
              refine G_callV (As := [.ref q2777, .int g3744]) (wr := []) (gV_ok D I) (ct_2919_Machine_step l hl0 D I q2776 q2777 q2778 q2779 q2780 q2781 q2782 q2783 q2784 q2785 q2786 q2787 q2788 q2789 q2790 g3744 p2792 g3747 g3748 g3749 g3745 g3750 g3746 p2799 p2800 p2801 f2802 f3752 f3753 f3751 f2806 f2807 f2808 f2809 f2810 f2811 f2812 f2813 f2814 bg3744'' bp2792 bg3747 bg3749 bg3750 bp2799 (gB_w bp2800' (by decide) (by decide)) bp2801 bf2806 bf2809) d_cX7_perform_81 ⟨w_6_74, w_1_12, w_6_77, by decide, rfl, (Nat.le_of_ble_eq_true rfl), (Nat.le_of_ble_eq_true rfl)⟩ w_6_76 w_p_57 0 rfl rfl [0, 1, 2, 13, 14, 3, 4, 5, 6, 7, 8, 9, 10, 11, 12] [] rfl rfl rfl rfl (by decide) (Nat.le_of_ble_eq_true rfl) (Nat.le_of_ble_eq_true rfl) (Nat.le_of_ble_eq_true rfl) (fun r w hp => ?_) (fun _ _ _ z => z.elim)
              obtain ⟨o3776, f3777, o3778, o3779, o3780, f3781, f3782, o3783, o3784, rfl, rfl, bo3776, bf3777, bo3778, bo3779, bo3780, bf3781, bf3782, bo3783, bo3784⟩ := hp
              change G _ _ _ _ _ _ _ (.int o3776 :: _) _ _ _
              refine G_ws (ws' := [(q2776, .inr (12, [.ref q2778, .ref q2779, .ref q2780, .ref q2781, .int p2792, .int o3783, .int o3784, .int o3779, .int g3745, .int o3778, .int o3780])), (q2777, .inr (5, [.ref q2782, .ref q2783, .ref q2784, .ref q2785, .ref q2786, .ref q2787, .ref q2788, .ref q2789, .ref q2790, .int p2799, .int p2800, .int p2801])), (q2778, .inl (I .int, 2048, .inl f2802)), (q2779, .inl (I .int, 100, .inl f3777)), (q2780, .inl (I .int, 100, .inl f3782)), (q2781, .inl (I .int, 512, .inl f3781)), (q2782, .inl (I .int, 40, .inl f2806)), (q2783, .inl (I .int, 40, .inl f2807)), (q2784, .inl (I .int, 40, .inl f2808)), (q2785, .inl (I .int, 200, .inl f2809)), (q2786, .inl (I .int, 200, .inl f2810)), (q2787, .inl (I .int, 200, .inl f2811)), (q2788, .inl (I .int, 200, .inl f2812)), (q2789, .inl (I .int, 200, .inl f2813)), (q2790, .inl (I .int, 200, .inl f2814))]) (cs' := 0) (sl' := 0) rfl rfl rfl ?_
              refine G_goto 92 d_cX7_perform_84 (by decide +kernel) ?_
              refine G_istore_n (L' := [(3, .int o3776), (0, .ref q2776), (1, .ref q2777), (2, .int p2791)]) d_cX7_perform_92 (Nat.le_of_ble_eq_true rfl) rfl ?_
              refine G_aload_n 1 d_cX7_perform_93 rfl ?_
              refine G_dup d_cX7_perform_94 rfl ?_
              refine G_getf 0 8 d_cX7_perform_95 rfl (gk_X7 D I) (Nat.le_of_ble_eq_true rfl) w_2_168 rfl ?_
              refine G_iconst 1 d_cX7_perform_98 (by decide +kernel) ?_
              refine G_iadd d_cX7_perform_99 (G_nam fun z3785 hz3785 => ?_)
              have ez3785 : z3785.toInt = g3745.toInt + 1 := by rw [gI_add hz3785 bg3745' (gBl (show Int32.toInt 1 = 1 by decide)) (by decide) (by decide), show Int32.toInt 1 = 1 from by decide]
              have bz3785 : gB z3785 1 100000 := gB_add (gI_add hz3785 bg3745' (gBl (show Int32.toInt 1 = 1 by decide)) (by decide) (by decide)) bg3745' (gBl (show Int32.toInt 1 = 1 by decide)) (by decide) (by decide)
              refine G_putf (ws' := [(q2776, .inr (12, [.ref q2778, .ref q2779, .ref q2780, .ref q2781, .int p2792, .int o3783, .int o3784, .int o3779, .int z3785, .int o3778, .int o3780])), (q2777, .inr (5, [.ref q2782, .ref q2783, .ref q2784, .ref q2785, .ref q2786, .ref q2787, .ref q2788, .ref q2789, .ref q2790, .int p2799, .int p2800, .int p2801])), (q2778, .inl (I .int, 2048, .inl f2802)), (q2779, .inl (I .int, 100, .inl f3777)), (q2780, .inl (I .int, 100, .inl f3782)), (q2781, .inl (I .int, 512, .inl f3781)), (q2782, .inl (I .int, 40, .inl f2806)), (q2783, .inl (I .int, 40, .inl f2807)), (q2784, .inl (I .int, 40, .inl f2808)), (q2785, .inl (I .int, 200, .inl f2809)), (q2786, .inl (I .int, 200, .inl f2810)), (q2787, .inl (I .int, 200, .inl f2811)), (q2788, .inl (I .int, 200, .inl f2812)), (q2789, .inl (I .int, 200, .inl f2813)), (q2790, .inl (I .int, 200, .inl f2814))]) 0 8 d_cX7_perform_100 rfl (gk_X7 D I) (Nat.le_of_ble_eq_true rfl) w_2_168 rfl rfl rfl (Nat.le_of_ble_eq_true rfl) rfl ?_
              refine G_goto 49 d_cX7_perform_103 (by decide +kernel) ?_
              refine G_sub (ws' := [(q2776, .inr (12, [.ref q2778, .ref q2779, .ref q2780, .ref q2781, .int p2792, .int o3783, .int o3784, .int o3779, .int z3785, .int o3778, .int o3780])), (q2777, .inr (5, [.ref q2782, .ref q2783, .ref q2784, .ref q2785, .ref q2786, .ref q2787, .ref q2788, .ref q2789, .ref q2790, .int p2799, .int p2800, .int p2801])), (q2778, .inl (I .int, 2048, .inl f2802)), (q2781, .inl (I .int, 512, .inl f3781)), (q2782, .inl (I .int, 40, .inl f2806)), (q2783, .inl (I .int, 40, .inl f2807)), (q2784, .inl (I .int, 40, .inl f2808)), (q2785, .inl (I .int, 200, .inl f2809)), (q2786, .inl (I .int, 200, .inl f2810)), (q2787, .inl (I .int, 200, .inl f2811)), (q2788, .inl (I .int, 200, .inl f2812)), (q2789, .inl (I .int, 200, .inl f2813)), (q2790, .inl (I .int, 200, .inl f2814)), (q2779, .inl (I .int, 100, .inl f3777)), (q2780, .inl (I .int, 100, .inl f3782))]) [0, 1, 2, 5, 6, 7, 8, 9, 10, 11, 12, 13, 14, 3, 4] rfl rfl ?_
              exact ih49_3753 o3776 z3785 o3780 o3783 o3784 o3779 o3778 f3781 f3777 f3782 bo3776 (gB_w bz3785 (by decide) (by decide)) bo3780 bo3783 bo3784 bo3779 bo3778 bf3781 bf3777 bf3782 (by omega)
  exact hlp49_3753 (((100001 : Int) - 0).toNat + 1) 0 0 (-2) 0 0 0 0 f2805 f2855 f2856 (gB_w (gBl (show Int32.toInt 0 = 0 by decide)) (by decide) (by decide)) (gB_w (gBl (show Int32.toInt 0 = 0 by decide)) (by decide) (by decide)) (gB_w (gBl (show Int32.toInt (-2) = (-2) by decide)) (by decide) (by decide)) (gB_w (gBl (show Int32.toInt 0 = 0 by decide)) (by decide) (by decide)) (gB_w (gBl (show Int32.toInt 0 = 0 by decide)) (by decide) (by decide)) (gB_w (gBl (show Int32.toInt 0 = 0 by decide)) (by decide) (by decide)) (gB_w (gBl (show Int32.toInt 0 = 0 by decide)) (by decide) (by decide)) (gF_any f2805) bf2855 bf2856 (Nat.lt_succ_self _)
abbrev ky_3832_String_coder : gKey := (cJ0_coder_7d493, 1, yJ0_coder_7d493.cls, (some FieldType.byte), [], yJ0_coder_7d493.name, fun _ _ => True)
abbrev po_3832_String_coder (I : FieldType → ClassId) (qs3829 : Nat) (qb3830 : Nat) (bs3831 : List Int32) : Option Value → va_W → Prop := fun r w => r = some (.int 0) ∧ w = []
set_option maxRecDepth 100000 in
set_option maxHeartbeats 4000000 in
theorem ct_3832_String_coder (l : Launch) (hl0 : l.stackTraces = false) (D : va_G) (I : FieldType → ClassId) (qs3829 : Nat) (qb3830 : Nat) (bs3831 : List Int32) (hbs3831 : ∀ A s H, (gV D I).2.2.2.1 A s H → gSC qs3829 qb3830 bs3831 A s H) (nbs3831 : (bs3831.length : Int) ≤ 65535) : Ct (gV D I) l yJ0_coder_7d493 cJ0_coder_7d493 1 (some FieldType.byte) 0 0 0 0 [.ref qs3829] [] (po_3832_String_coder I qs3829 qb3830 bs3831) gN := by
  refine Ct_ofF hl0 (by decide +kernel) (Nat.le_of_ble_eq_true rfl) ?_
  refine G_gets d_cJ0_coder_7d493_0 w_3_65 gz_cs (fun x hx => ?_)
  subst hx
  refine G_if_eq 13 d_cJ0_coder_7d493_3 (by decide +kernel) (fun hc => absurd hc (by decide)) (fun _ => ?_)
  refine G_aload_n 0 d_cJ0_coder_7d493_6 rfl ?_
  refine G_kget d_cJ0_coder_7d493_7 w_8_179 (fun _ _ _ h => (hbs3831 _ _ _ h).2.1) ?_
  refine G_goto 14 d_cJ0_coder_7d493_10 (by decide +kernel) ?_
  exact G_zret FieldType.byte d_cJ0_coder_7d493_14 rfl rfl (Nat.le_of_ble_eq_true rfl) (Nat.le_of_ble_eq_true rfl) ⟨rfl, rfl⟩
abbrev ky_3827_String_length : gKey := (cJ0_length_8abf5, 1, yJ0_length_8abf5.cls, (some FieldType.int), [], yJ0_length_8abf5.name, fun _ _ => True)
abbrev po_3827_String_length (I : FieldType → ClassId) (qs3824 : Nat) (qb3825 : Nat) (bs3826 : List Int32) : Option Value → va_W → Prop := fun r w => ∃ (o3834 : Int32), r = some (.int o3834) ∧ w = [] ∧ gB o3834 0 65535 ∧ o3834.toInt = (bs3826.length : Int)
set_option maxRecDepth 100000 in
set_option maxHeartbeats 4000000 in
theorem ct_3827_String_length (l : Launch) (hl0 : l.stackTraces = false) (D : va_G) (I : FieldType → ClassId) (qs3824 : Nat) (qb3825 : Nat) (bs3826 : List Int32) (hbs3826 : ∀ A s H, (gV D I).2.2.2.1 A s H → gSC qs3824 qb3825 bs3826 A s H) (nbs3826 : (bs3826.length : Int) ≤ 65535) : Ct (gV D I) l yJ0_length_8abf5 cJ0_length_8abf5 1 (some FieldType.int) 1 20 0 0 [.ref qs3824] [] (po_3827_String_length I qs3824 qb3825 bs3826) gN := by
  refine Ct_ofF hl0 (by decide +kernel) (Nat.le_of_ble_eq_true rfl) ?_
  refine G_aload_n 0 d_cJ0_length_8abf5_0 rfl ?_
  refine G_kget d_cJ0_length_8abf5_1 w_8_178 (fun _ _ _ h => (hbs3826 _ _ _ h).2.2.1) ?_
  refine G_klen d_cJ0_length_8abf5_4 (fun _ _ _ h => (hbs3826 _ _ _ h).2.2.2) (G_nam fun z3828 hz3828 => ?_)
  have ez3828 : z3828.toInt = (bs3826.length : Int) := gI_ofN hz3828 (by omega)
  have bz3828 : gB z3828 0 65535 := ⟨by omega, by omega⟩
  refine G_aload_n 0 d_cJ0_length_8abf5_5 rfl ?_
  refine G_callVk (As := []) (wr := []) (gV_ok D I) (ct_3832_String_coder l hl0 D I qs3824 qb3825 bs3826 hbs3826 nbs3826) d_cJ0_length_8abf5_6 ⟨w_3_61, w_1_21, w_3_64, by decide, rfl, (Nat.le_of_ble_eq_true rfl), (Nat.le_of_ble_eq_true rfl)⟩ w_3_62 w_3_63 (fun _ _ _ h => (hbs3826 _ _ _ h).1) [] [] rfl rfl rfl rfl (by decide) (Nat.le_of_ble_eq_true rfl) (Nat.le_of_ble_eq_true rfl) (Nat.le_of_ble_eq_true rfl) (fun r w hp => ?_) (fun _ _ _ z => z.elim)
  obtain ⟨rfl, rfl⟩ := hp
  change G _ _ _ _ _ _ _ (.int 0 :: _) _ _ _
  refine G_ws (ws' := []) (cs' := 0) (sl' := 0) rfl rfl rfl ?_
  refine G_ishr d_cJ0_length_8abf5_9 (G_nam fun z3833 hz3833 => ?_)
  have ez3833 : z3833.toInt = z3828.toInt / 1 := gI_shr (k := 0) hz3833 (by decide)
  have bz3833 : gB z3833 0 65535 := ⟨by omega, by omega⟩
  exact G_iret d_cJ0_length_8abf5_10 rfl (Nat.le_of_ble_eq_true rfl) (Nat.le_of_ble_eq_true rfl) ⟨z3833, rfl, rfl, bz3833, (by omega)⟩
abbrev ky_3862_String_isLatin1 : gKey := (cJ0_isLatin1_aae02, 1, yJ0_isLatin1_aae02.cls, (some FieldType.boolean), [], yJ0_isLatin1_aae02.name, fun _ _ => True)
abbrev po_3862_String_isLatin1 (I : FieldType → ClassId) (qs3859 : Nat) (qb3860 : Nat) (bs3861 : List Int32) : Option Value → va_W → Prop := fun r w => r = some (.int 1) ∧ w = []
set_option maxRecDepth 100000 in
set_option maxHeartbeats 4000000 in
theorem ct_3862_String_isLatin1 (l : Launch) (hl0 : l.stackTraces = false) (D : va_G) (I : FieldType → ClassId) (qs3859 : Nat) (qb3860 : Nat) (bs3861 : List Int32) (hbs3861 : ∀ A s H, (gV D I).2.2.2.1 A s H → gSC qs3859 qb3860 bs3861 A s H) (nbs3861 : (bs3861.length : Int) ≤ 65535) : Ct (gV D I) l yJ0_isLatin1_aae02 cJ0_isLatin1_aae02 1 (some FieldType.boolean) 0 0 0 0 [.ref qs3859] [] (po_3862_String_isLatin1 I qs3859 qb3860 bs3861) gN := by
  refine Ct_ofF hl0 (by decide +kernel) (Nat.le_of_ble_eq_true rfl) ?_
  refine G_gets d_cJ0_isLatin1_aae02_0 w_3_65 gz_cs (fun x hx => ?_)
  subst hx
  refine G_if_eq 17 d_cJ0_isLatin1_aae02_3 (by decide +kernel) (fun hc => absurd hc (by decide)) (fun _ => ?_)
  refine G_aload_n 0 d_cJ0_isLatin1_aae02_6 rfl ?_
  refine G_kget d_cJ0_isLatin1_aae02_7 w_8_179 (fun _ _ _ h => (hbs3861 _ _ _ h).2.1) ?_
  refine G_if_ne 17 d_cJ0_isLatin1_aae02_10 (by decide +kernel) (fun hc => absurd hc (by decide)) (fun _ => ?_)
  refine G_iconst 1 d_cJ0_isLatin1_aae02_13 (by decide +kernel) ?_
  refine G_goto 18 d_cJ0_isLatin1_aae02_14 (by decide +kernel) ?_
  exact G_zret FieldType.boolean d_cJ0_isLatin1_aae02_18 rfl rfl (Nat.le_of_ble_eq_true rfl) (Nat.le_of_ble_eq_true rfl) ⟨rfl, rfl⟩
abbrev ky_3880_Preconditions_checkIndex : gKey := (cJ3_checkIndex_8e157, 3, yJ3_checkIndex_8e157.cls, (some FieldType.int), [], yJ3_checkIndex_8e157.name, fun _ _ => True)
abbrev po_3880_Preconditions_checkIndex (I : FieldType → ClassId) (p3876 : Int32) (p3877 : Int32) : Option Value → va_W → Prop := fun r w => r = some (.int p3876) ∧ w = []
set_option maxRecDepth 100000 in
set_option maxHeartbeats 4000000 in
theorem ct_3880_Preconditions_checkIndex (l : Launch) (hl0 : l.stackTraces = false) (D : va_G) (I : FieldType → ClassId) (p3876 : Int32) (p3877 : Int32) (x3878 : 0 ≤ p3876.toInt) (x3879 : p3876.toInt < p3877.toInt) : Ct (gV D I) l yJ3_checkIndex_8e157 cJ3_checkIndex_8e157 3 (some FieldType.int) 0 0 0 0 [.int p3876, .int p3877, .null] [] (po_3880_Preconditions_checkIndex I p3876 p3877) gN := by
  refine Ct_of hl0 (by decide) (Nat.le_of_ble_eq_true rfl) ?_
  have bp3876 := gB_any p3876
  have bp3877 := gB_any p3877
  refine G_iload_n 0 d_cJ3_checkIndex_8e157_0 rfl ?_
  refine G_if_lt 9 d_cJ3_checkIndex_8e157_1 (by decide +kernel) (fun hc3881 => ?_) (fun hc3881 => ?_)
  · have r3882 : p3876.toInt < 0 := gj_lt hc3881 (show Int32.toInt 0 = 0 by decide)
    have bp3876' : gB p3876 (-2147483648) (-1) := ⟨by omega, by omega⟩
    exact absurd (show False by omega) not_false
  · have r3883 : 0 ≤ p3876.toInt := gj_nlt hc3881 (show Int32.toInt 0 = 0 by decide)
    have bp3876' : gB p3876 0 2147483647 := ⟨by omega, by omega⟩
    refine G_iload_n 0 d_cJ3_checkIndex_8e157_4 rfl ?_
    refine G_iload_n 1 d_cJ3_checkIndex_8e157_5 rfl ?_
    refine G_icmp_lt 16 d_cJ3_checkIndex_8e157_6 (by decide +kernel) (fun hc3884 => ?_) (fun hc3884 => ?_)
    · have r3885 : p3876.toInt < p3877.toInt := gC_lt hc3884
      have bp3876'' : gB p3876 0 2147483646 := ⟨by omega, by omega⟩
      have bp3877' : gB p3877 1 2147483647 := ⟨by omega, by omega⟩
      refine G_iload_n 0 d_cJ3_checkIndex_8e157_16 rfl ?_
      exact G_iret d_cJ3_checkIndex_8e157_17 rfl (Nat.le_of_ble_eq_true rfl) (Nat.le_of_ble_eq_true rfl) ⟨rfl, rfl⟩
    · have r3886 : p3877.toInt ≤ p3876.toInt := gC_nlt hc3884
      exact absurd (show False by omega) not_false
abbrev ky_3892_Preconditions_checkIndex : gKey := (cJ3_checkIndex_8e157, 3, yJ3_checkIndex_8e157.cls, (some FieldType.int), [], yJ3_checkIndex_8e157.name, fun _ _ => True)
abbrev po_3892_Preconditions_checkIndex (I : FieldType → ClassId) (p3887 : Int32) (p3888 : Int32) (qo3889 : Nat) : Option Value → va_W → Prop := fun r w => r = some (.int p3887) ∧ w = []
set_option maxRecDepth 100000 in
set_option maxHeartbeats 4000000 in
theorem ct_3892_Preconditions_checkIndex (l : Launch) (hl0 : l.stackTraces = false) (D : va_G) (I : FieldType → ClassId) (p3887 : Int32) (p3888 : Int32) (qo3889 : Nat) (x3890 : 0 ≤ p3887.toInt) (x3891 : p3887.toInt < p3888.toInt) : Ct (gV D I) l yJ3_checkIndex_8e157 cJ3_checkIndex_8e157 3 (some FieldType.int) 0 0 0 0 [.int p3887, .int p3888, .ref qo3889] [] (po_3892_Preconditions_checkIndex I p3887 p3888 qo3889) gN := by
  refine Ct_of hl0 (by decide) (Nat.le_of_ble_eq_true rfl) ?_
  have bp3887 := gB_any p3887
  have bp3888 := gB_any p3888
  refine G_iload_n 0 d_cJ3_checkIndex_8e157_0 rfl ?_
  refine G_if_lt 9 d_cJ3_checkIndex_8e157_1 (by decide +kernel) (fun hc3893 => ?_) (fun hc3893 => ?_)
  · have r3894 : p3887.toInt < 0 := gj_lt hc3893 (show Int32.toInt 0 = 0 by decide)
    have bp3887' : gB p3887 (-2147483648) (-1) := ⟨by omega, by omega⟩
    exact absurd (show False by omega) not_false
  · have r3895 : 0 ≤ p3887.toInt := gj_nlt hc3893 (show Int32.toInt 0 = 0 by decide)
    have bp3887' : gB p3887 0 2147483647 := ⟨by omega, by omega⟩
    refine G_iload_n 0 d_cJ3_checkIndex_8e157_4 rfl ?_
    refine G_iload_n 1 d_cJ3_checkIndex_8e157_5 rfl ?_
    refine G_icmp_lt 16 d_cJ3_checkIndex_8e157_6 (by decide +kernel) (fun hc3896 => ?_) (fun hc3896 => ?_)
    · have r3897 : p3887.toInt < p3888.toInt := gC_lt hc3896
      have bp3887'' : gB p3887 0 2147483646 := ⟨by omega, by omega⟩
      have bp3888' : gB p3888 1 2147483647 := ⟨by omega, by omega⟩
      refine G_iload_n 0 d_cJ3_checkIndex_8e157_16 rfl ?_
      exact G_iret d_cJ3_checkIndex_8e157_17 rfl (Nat.le_of_ble_eq_true rfl) (Nat.le_of_ble_eq_true rfl) ⟨rfl, rfl⟩
    · have r3898 : p3888.toInt ≤ p3887.toInt := gC_nlt hc3896
      exact absurd (show False by omega) not_false
abbrev ky_3874_String_checkIndex : gKey := (cJ0_checkIndex_df160, 2, yJ0_checkIndex_df160.cls, none, [], yJ0_checkIndex_df160.name, fun _ _ => True)
abbrev po_3874_String_checkIndex (I : FieldType → ClassId) (p3870 : Int32) (p3871 : Int32) : Option Value → va_W → Prop := fun r w => r = none ∧ w = []
set_option maxRecDepth 100000 in
set_option maxHeartbeats 4000000 in
theorem ct_3874_String_checkIndex (l : Launch) (hl0 : l.stackTraces = false) (D : va_G) (I : FieldType → ClassId) (p3870 : Int32) (p3871 : Int32) (x3872 : 0 ≤ p3870.toInt) (x3873 : p3870.toInt < p3871.toInt) : Ct (gV D I) l yJ0_checkIndex_df160 cJ0_checkIndex_df160 2 none 1 22 0 0 [.int p3870, .int p3871] [] (po_3874_String_checkIndex I p3870 p3871) gN := by
  refine Ct_ofF hl0 (by decide +kernel) (Nat.le_of_ble_eq_true rfl) ?_
  have bp3870 := gB_any p3870
  have bp3871 := gB_any p3871
  refine G_iload_n 0 d_cJ0_checkIndex_df160_0 rfl ?_
  refine G_iload_n 1 d_cJ0_checkIndex_df160_1 rfl ?_
  refine G_gets d_cJ0_checkIndex_df160_2 w_3_81 gz_pf (fun x hx => ?_)
  rcases hx with rfl | ⟨t3875, rfl⟩
  · refine G_callS (As := [.int p3870, .int p3871, .null]) (wr := []) (gV_ok D I) (ct_3880_Preconditions_checkIndex l hl0 D I p3870 p3871 (by omega) (by omega)) d_cJ0_checkIndex_df160_5 ⟨w_3_83, w_1_29, w_3_85, by decide, rfl, (Nat.le_of_ble_eq_true rfl), (Nat.le_of_ble_eq_true rfl)⟩ w_3_84 [] [] rfl rfl rfl rfl (by decide) (Nat.le_of_ble_eq_true rfl) (Nat.le_of_ble_eq_true rfl) (Nat.le_of_ble_eq_true rfl) (fun r w hp => ?_) (fun _ _ _ z => z.elim)
    obtain ⟨rfl, rfl⟩ := hp
    change G _ _ _ _ _ _ _ (.int p3870 :: _) _ _ _
    refine G_ws (ws' := []) (cs' := 0) (sl' := 0) rfl rfl rfl ?_
    refine G_pop d_cJ0_checkIndex_df160_8 rfl ?_
    exact G_vret d_cJ0_checkIndex_df160_9 rfl (Nat.le_of_ble_eq_true rfl) (Nat.le_of_ble_eq_true rfl) ⟨rfl, rfl⟩
  · refine G_callS (As := [.int p3870, .int p3871, .ref t3875]) (wr := []) (gV_ok D I) (ct_3892_Preconditions_checkIndex l hl0 D I p3870 p3871 t3875 (by omega) (by omega)) d_cJ0_checkIndex_df160_5 ⟨w_3_83, w_1_29, w_3_85, by decide, rfl, (Nat.le_of_ble_eq_true rfl), (Nat.le_of_ble_eq_true rfl)⟩ w_3_84 [] [] rfl rfl rfl rfl (by decide) (Nat.le_of_ble_eq_true rfl) (Nat.le_of_ble_eq_true rfl) (Nat.le_of_ble_eq_true rfl) (fun r w hp => ?_) (fun _ _ _ z => z.elim)
    obtain ⟨rfl, rfl⟩ := hp
    change G _ _ _ _ _ _ _ (.int p3870 :: _) _ _ _
    refine G_ws (ws' := []) (cs' := 0) (sl' := 0) rfl rfl rfl ?_
    refine G_pop d_cJ0_checkIndex_df160_8 rfl ?_
    exact G_vret d_cJ0_checkIndex_df160_9 rfl (Nat.le_of_ble_eq_true rfl) (Nat.le_of_ble_eq_true rfl) ⟨rfl, rfl⟩
abbrev ky_3868_StringLatin1_charAt : gKey := (cJ1_charAt_3b067, 2, yJ1_charAt_3b067.cls, (some FieldType.char), [], yJ1_charAt_3b067.name, fun _ _ => True)
abbrev po_3868_StringLatin1_charAt (I : FieldType → ClassId) (qs3863 : Nat) (bs3864 : List Int32) (p3865 : Int32) : Option Value → va_W → Prop := fun r w => ∃ (o3902 : Int32), r = some (.int o3902) ∧ w = [] ∧ gB o3902 0 65535
set_option maxRecDepth 100000 in
set_option maxHeartbeats 4000000 in
theorem ct_3868_StringLatin1_charAt (l : Launch) (hl0 : l.stackTraces = false) (D : va_G) (I : FieldType → ClassId) (qs3863 : Nat) (bs3864 : List Int32) (p3865 : Int32) (hbs3864 : ∀ A s H, (gV D I).2.2.2.1 A s H → va_T .byte qs3863 bs3864.length (fun j => .int (bs3864.getD j 0)) A s H) (nbs3864 : (bs3864.length : Int) ≤ 65535) (x3866 : 0 ≤ p3865.toInt) (x3867 : p3865.toInt < (bs3864.length : Int)) : Ct (gV D I) l yJ1_charAt_3b067 cJ1_charAt_3b067 2 (some FieldType.char) 2 43 0 0 [.ref qs3863, .int p3865] [] (po_3868_StringLatin1_charAt I qs3863 bs3864 p3865) gN := by
  refine Ct_ofF hl0 (by decide +kernel) (Nat.le_of_ble_eq_true rfl) ?_
  have bp3865 := gB_any p3865
  refine G_iload_n 1 d_cJ1_charAt_3b067_0 rfl ?_
  refine G_aload_n 0 d_cJ1_charAt_3b067_1 rfl ?_
  refine G_klen d_cJ1_charAt_3b067_2 hbs3864 (G_nam fun z3869 hz3869 => ?_)
  have ez3869 : z3869.toInt = (bs3864.length : Int) := gI_ofN hz3869 nbs3864
  have bz3869 : gB z3869 0 65535 := ⟨by omega, by omega⟩
  refine G_callS (As := [.int p3865, .int z3869]) (wr := []) (gV_ok D I) (ct_3874_String_checkIndex l hl0 D I p3865 z3869 (by omega) (by omega)) d_cJ1_charAt_3b067_3 ⟨w_3_78, w_1_21, w_3_80, by decide, rfl, (Nat.le_of_ble_eq_true rfl), (Nat.le_of_ble_eq_true rfl)⟩ w_3_79 [] [] rfl rfl rfl rfl (by decide) (Nat.le_of_ble_eq_true rfl) (Nat.le_of_ble_eq_true rfl) (Nat.le_of_ble_eq_true rfl) (fun r w hp => ?_) (fun _ _ _ z => z.elim)
  obtain ⟨rfl, rfl⟩ := hp
  change G _ _ _ _ _ _ _ _ _ _ _
  refine G_ws (ws' := []) (cs' := 0) (sl' := 0) rfl rfl rfl ?_
  refine G_aload_n 0 d_cJ1_charAt_3b067_6 rfl ?_
  refine G_iload_n 1 d_cJ1_charAt_3b067_7 rfl ?_
  refine G_kbald (f := fun j => bs3864.getD j 0) d_cJ1_charAt_3b067_8 hbs3864 (gB_inr (by omega) (by omega)) (G_nam fun z3899 hz3899 => ?_)
  have bz3899 : gB z3899 (-2147483648) 2147483647 := gB_any z3899
  refine G_sipush 255 d_cJ1_charAt_3b067_9 (by decide +kernel) ?_
  refine G_iand d_cJ1_charAt_3b067_12 (G_nam fun z3900 hz3900 => ?_)
  have bz3900 : gB z3900 0 255 := gB_and hz3900 (gBl (show Int32.toInt 255 = 255 by decide)) (by decide)
  refine G_i2c d_cJ1_charAt_3b067_13 (G_nam fun z3901 hz3901 => ?_)
  have bz3901 : gB z3901 0 65535 := gB_i2c hz3901
  exact G_zret FieldType.char d_cJ1_charAt_3b067_14 rfl (gN_char bz3901) (Nat.le_of_ble_eq_true rfl) (Nat.le_of_ble_eq_true rfl) ⟨z3901, rfl, rfl, bz3901⟩
abbrev ky_3858_String_charAt : gKey := (cJ0_charAt_5068e, 2, yJ0_charAt_5068e.cls, (some FieldType.char), [], yJ0_charAt_5068e.name, fun _ _ => True)
abbrev po_3858_String_charAt (I : FieldType → ClassId) (qs3852 : Nat) (qb3853 : Nat) (bs3854 : List Int32) (p3855 : Int32) : Option Value → va_W → Prop := fun r w => ∃ (o3904 : Int32), r = some (.int o3904) ∧ w = [] ∧ gB o3904 0 65535
set_option maxRecDepth 100000 in
set_option maxHeartbeats 4000000 in
theorem ct_3858_String_charAt (l : Launch) (hl0 : l.stackTraces = false) (D : va_G) (I : FieldType → ClassId) (qs3852 : Nat) (qb3853 : Nat) (bs3854 : List Int32) (p3855 : Int32) (hbs3854 : ∀ A s H, (gV D I).2.2.2.1 A s H → gSC qs3852 qb3853 bs3854 A s H) (nbs3854 : (bs3854.length : Int) ≤ 65535) (x3856 : 0 ≤ p3855.toInt) (x3857 : p3855.toInt < (bs3854.length : Int)) : Ct (gV D I) l yJ0_charAt_5068e cJ0_charAt_5068e 2 (some FieldType.char) 3 64 0 0 [.ref qs3852, .int p3855] [] (po_3858_String_charAt I qs3852 qb3853 bs3854 p3855) gN := by
  refine Ct_ofF hl0 (by decide +kernel) (Nat.le_of_ble_eq_true rfl) ?_
  have bp3855 := gB_any p3855
  refine G_aload_n 0 d_cJ0_charAt_5068e_0 rfl ?_
  refine G_callVk (As := []) (wr := []) (gV_ok D I) (ct_3862_String_isLatin1 l hl0 D I qs3852 qb3853 bs3854 hbs3854 nbs3854) d_cJ0_charAt_5068e_1 ⟨w_3_71, w_1_21, w_3_74, by decide, rfl, (Nat.le_of_ble_eq_true rfl), (Nat.le_of_ble_eq_true rfl)⟩ w_3_72 w_3_73 (fun _ _ _ h => (hbs3854 _ _ _ h).1) [] [] rfl rfl rfl rfl (by decide) (Nat.le_of_ble_eq_true rfl) (Nat.le_of_ble_eq_true rfl) (Nat.le_of_ble_eq_true rfl) (fun r w hp => ?_) (fun _ _ _ z => z.elim)
  obtain ⟨rfl, rfl⟩ := hp
  change G _ _ _ _ _ _ _ (.int 1 :: _) _ _ _
  refine G_ws (ws' := []) (cs' := 0) (sl' := 0) rfl rfl rfl ?_
  refine G_if_eq 16 d_cJ0_charAt_5068e_4 (by decide +kernel) (fun hc => absurd hc (by decide)) (fun _ => ?_)
  refine G_aload_n 0 d_cJ0_charAt_5068e_7 rfl ?_
  refine G_kget d_cJ0_charAt_5068e_8 w_8_178 (fun _ _ _ h => (hbs3854 _ _ _ h).2.2.1) ?_
  refine G_iload_n 1 d_cJ0_charAt_5068e_11 rfl ?_
  refine G_callS (As := [.ref qb3853, .int p3855]) (wr := []) (gV_ok D I) (ct_3868_StringLatin1_charAt l hl0 D I qb3853 bs3854 p3855 (fun _ _ _ h => (hbs3854 _ _ _ h).2.2.2) (by omega) (by omega) (by omega)) d_cJ0_charAt_5068e_12 ⟨w_3_75, w_1_28, w_3_77, by decide, rfl, (Nat.le_of_ble_eq_true rfl), (Nat.le_of_ble_eq_true rfl)⟩ w_3_76 [] [] rfl rfl rfl rfl (by decide) (Nat.le_of_ble_eq_true rfl) (Nat.le_of_ble_eq_true rfl) (Nat.le_of_ble_eq_true rfl) (fun r w hp => ?_) (fun _ _ _ z => z.elim)
  obtain ⟨o3903, rfl, rfl, bo3903⟩ := hp
  change G _ _ _ _ _ _ _ (.int o3903 :: _) _ _ _
  refine G_ws (ws' := []) (cs' := 0) (sl' := 0) rfl rfl rfl ?_
  exact G_zret FieldType.char d_cJ0_charAt_5068e_15 rfl (gN_char bo3903) (Nat.le_of_ble_eq_true rfl) (Nat.le_of_ble_eq_true rfl) ⟨o3903, rfl, rfl, bo3903⟩
abbrev ky_3822_Signs_isWord : gKey := (cX9_isWord, 3, yX9_isWord.cls, (some FieldType.boolean), [], yX9_isWord.name, fun _ _ => True)
abbrev po_3822_Signs_isWord (I : FieldType → ClassId) (q3809 : Nat) (q3810 : Nat) (q3811 : Nat) (qs3812 : Nat) (qb3813 : Nat) (bs3814 : List Int32) (p3815 : Int32) (p3816 : Int32) (p3817 : Int32) (p3818 : Int32) (p3819 : Int32) (f3820 : Nat → Int32) : Option Value → va_W → Prop := fun r w => ∃ (o4038 : Int32), r = some (.int o4038) ∧ w = [(q3809, .inr (14, [.ref q3810, .int p3815, .int p3816, .int p3817, .int p3818])), (q3810, .inr (15, [.ref q3811, .int p3819])), (q3811, .inl (I .byte, 8192, .inl f3820))] ∧ gB o4038 0 1
set_option maxRecDepth 100000 in
set_option maxHeartbeats 4000000 in
theorem ct_3822_Signs_isWord (l : Launch) (hl0 : l.stackTraces = false) (D : va_G) (I : FieldType → ClassId) (q3809 : Nat) (q3810 : Nat) (q3811 : Nat) (qs3812 : Nat) (qb3813 : Nat) (bs3814 : List Int32) (p3815 : Int32) (p3816 : Int32) (p3817 : Int32) (p3818 : Int32) (p3819 : Int32) (f3820 : Nat → Int32) (hbs3814 : ∀ A s H, (gV D I).2.2.2.1 A s H → gSC qs3812 qb3813 bs3814 A s H) (nbs3814 : (bs3814.length : Int) ≤ 65535) (bp3819 : gB p3819 0 8192) (bf3820 : gF f3820 (-128) 127) (x3821 : (p3815.toInt ≠ 5 ∨ (0 ≤ p3816.toInt ∧ p3816.toInt ≤ 13))) : Ct (gV D I) l yX9_isWord cX9_isWord 3 (some FieldType.boolean) 4 85 0 0 [.ref q3809, .ref qs3812] [(q3809, .inr (14, [.ref q3810, .int p3815, .int p3816, .int p3817, .int p3818])), (q3810, .inr (15, [.ref q3811, .int p3819])), (q3811, .inl (I .byte, 8192, .inl f3820))] (po_3822_Signs_isWord I q3809 q3810 q3811 qs3812 qb3813 bs3814 p3815 p3816 p3817 p3818 p3819 f3820) gN := by
  refine Ct_of hl0 (by decide) (Nat.le_of_ble_eq_true rfl) ?_
  have bp3815 := gB_any p3815
  have bp3816 := gB_any p3816
  have bp3817 := gB_any p3817
  have bp3818 := gB_any p3818
  refine G_aload_n 0 d_cX9_isWord_0 rfl ?_
  refine G_getf 0 4 d_cX9_isWord_1 rfl (gk_X9 D I) (Nat.le_of_ble_eq_true rfl) w_1_83 rfl ?_
  refine G_aload_n 0 d_cX9_isWord_4 rfl ?_
  refine G_getf 0 3 d_cX9_isWord_5 rfl (gk_X9 D I) (Nat.le_of_ble_eq_true rfl) w_1_82 rfl ?_
  refine G_isub d_cX9_isWord_8 (G_nam fun z3823 hz3823 => ?_)
  have bz3823 : gB z3823 (-2147483648) 2147483647 := gB_any z3823
  refine G_aload_n 1 d_cX9_isWord_9 rfl ?_
  refine G_callVk (As := []) (wr := [(q3809, .inr (14, [.ref q3810, .int p3815, .int p3816, .int p3817, .int p3818])), (q3810, .inr (15, [.ref q3811, .int p3819])), (q3811, .inl (I .byte, 8192, .inl f3820))]) (gV_ok D I) (ct_3827_String_length l hl0 D I qs3812 qb3813 bs3814 hbs3814 nbs3814) d_cX9_isWord_10 ⟨w_3_57, w_1_21, w_3_60, by decide, rfl, (Nat.le_of_ble_eq_true rfl), (Nat.le_of_ble_eq_true rfl)⟩ w_3_58 w_3_59 (fun _ _ _ h => (hbs3814 _ _ _ h).1) [] [0, 1, 2] rfl rfl rfl rfl (by decide) (Nat.le_of_ble_eq_true rfl) (Nat.le_of_ble_eq_true rfl) (Nat.le_of_ble_eq_true rfl) (fun r w hp => ?_) (fun _ _ _ z => z.elim)
  obtain ⟨o3835, rfl, rfl, bo3835, x3836⟩ := hp
  change G _ _ _ _ _ _ _ (.int o3835 :: _) _ _ _
  refine G_ws (ws' := [(q3809, .inr (14, [.ref q3810, .int p3815, .int p3816, .int p3817, .int p3818])), (q3810, .inr (15, [.ref q3811, .int p3819])), (q3811, .inl (I .byte, 8192, .inl f3820))]) (cs' := 0) (sl' := 0) rfl rfl rfl ?_
  refine G_icmp_eq 18 d_cX9_isWord_13 (by decide +kernel) (fun hc3837 => ?_) (fun hc3837 => ?_)
  · have r3838 : z3823.toInt = o3835.toInt := gC_eq hc3837
    have bz3823' : gB z3823 0 65535 := ⟨by omega, by omega⟩
    refine G_iconst 0 d_cX9_isWord_18 (by decide +kernel) ?_
    refine G_istore_n (L' := [(2, .int 0), (0, .ref q3809), (1, .ref qs3812)]) d_cX9_isWord_19 (Nat.le_of_ble_eq_true rfl) rfl ?_
    have hlp20_4016 : ∀ (n20_4016 : Nat) (g4016 : Int32), gB g4016 0 65535 → ((65536 : Int) - g4016.toInt).toNat < n20_4016 → G (gV D I) l (gRm 4 85 0 0) (gM (gV D I) (po_3822_Signs_isWord I q3809 q3810 q3811 qs3812 qb3813 bs3814 p3815 p3816 p3817 p3818 p3819 f3820) gN 0 0) ky_3822_Signs_isWord 20 [(2, .int g4016), (0, .ref q3809), (1, .ref qs3812)] [] [(q3809, .inr (14, [.ref q3810, .int p3815, .int p3816, .int p3817, .int p3818])), (q3810, .inr (15, [.ref q3811, .int p3819])), (q3811, .inl (I .byte, 8192, .inl f3820))] 0 0 := by
      intro n20_4016
      induction n20_4016 with
      | zero => intro g4016 bg4016 hm20_4016; exact absurd hm20_4016 (Nat.not_lt_zero _)
      | succ n20_4016 ih20_4016 =>
        intro g4016 bg4016 hm20_4016
        refine G_iload_n 0 d_cX9_isWord_20 rfl ?_
        refine G_aload_n 2 d_cX9_isWord_21 rfl ?_
        refine G_callVk (As := []) (wr := [(q3809, .inr (14, [.ref q3810, .int p3815, .int p3816, .int p3817, .int p3818])), (q3810, .inr (15, [.ref q3811, .int p3819])), (q3811, .inl (I .byte, 8192, .inl f3820))]) (gV_ok D I) (ct_3827_String_length l hl0 D I qs3812 qb3813 bs3814 hbs3814 nbs3814) d_cX9_isWord_22 ⟨w_3_57, w_1_21, w_3_60, by decide, rfl, (Nat.le_of_ble_eq_true rfl), (Nat.le_of_ble_eq_true rfl)⟩ w_3_58 w_3_59 (fun _ _ _ h => (hbs3814 _ _ _ h).1) [] [0, 1, 2] rfl rfl rfl rfl (by decide) (Nat.le_of_ble_eq_true rfl) (Nat.le_of_ble_eq_true rfl) (Nat.le_of_ble_eq_true rfl) (fun r w hp => ?_) (fun _ _ _ z => z.elim)
        obtain ⟨o4017, rfl, rfl, bo4017, x4018⟩ := hp
        change G _ _ _ _ _ _ _ (.int o4017 :: _) _ _ _
        refine G_ws (ws' := [(q3809, .inr (14, [.ref q3810, .int p3815, .int p3816, .int p3817, .int p3818])), (q3810, .inr (15, [.ref q3811, .int p3819])), (q3811, .inl (I .byte, 8192, .inl f3820))]) (cs' := 0) (sl' := 0) rfl rfl rfl ?_
        refine G_icmp_ge 57 d_cX9_isWord_25 (by decide +kernel) (fun hc4019 => ?_) (fun hc4019 => ?_)
        · have r4020 : o4017.toInt ≤ g4016.toInt := gC_le hc4019
          refine G_iconst 1 d_cX9_isWord_57 (by decide +kernel) ?_
          exact G_zret FieldType.boolean d_cX9_isWord_58 rfl rfl (Nat.le_of_ble_eq_true rfl) (Nat.le_of_ble_eq_true rfl) ⟨1, rfl, rfl, (gB_w (gBl (show Int32.toInt 1 = 1 by decide)) (by decide) (by decide))⟩
        · have r4021 : g4016.toInt < o4017.toInt := gC_nle hc4019
          have bg4016' : gB g4016 0 65534 := ⟨by omega, by omega⟩
          have bo4017' : gB o4017 1 65535 := ⟨by omega, by omega⟩
          refine G_aload_n 1 d_cX9_isWord_28 rfl ?_
          refine G_getf 0 0 d_cX9_isWord_29 rfl (gk_X9 D I) (Nat.le_of_ble_eq_true rfl) w_1_79 rfl ?_
          refine G_aload_n 1 d_cX9_isWord_32 rfl ?_
          refine G_getf 0 3 d_cX9_isWord_33 rfl (gk_X9 D I) (Nat.le_of_ble_eq_true rfl) w_1_82 rfl ?_
          refine G_iload_n 0 d_cX9_isWord_36 rfl ?_
          refine G_iadd d_cX9_isWord_37 (G_nam fun z4022 hz4022 => ?_)
          have bz4022 : gB z4022 (-2147483648) 2147483647 := gB_any z4022
          refine G_callV (As := [.int z4022]) (wr := [(q3809, .inr (14, [.ref q3810, .int p3815, .int p3816, .int p3817, .int p3818]))]) (gV_ok D I) (ct_31_Tape_byteAt l hl0 D I q3810 q3811 z4022 p3819 f3820 bp3819 bf3820) d_cX9_isWord_38 ⟨w_3_20, w_1_2, w_3_23, by decide, rfl, (Nat.le_of_ble_eq_true rfl), (Nat.le_of_ble_eq_true rfl)⟩ w_3_21 w_3_22 1 rfl rfl [1, 2] [0] rfl rfl rfl rfl (by decide) (Nat.le_of_ble_eq_true rfl) (Nat.le_of_ble_eq_true rfl) (Nat.le_of_ble_eq_true rfl) (fun r w hp => ?_) (fun _ _ _ z => z.elim)
          rcases hp with ⟨rfl, rfl, r4023⟩ | ⟨rfl, rfl, r4024, r4025⟩ | ⟨z4026, rfl, rfl, r4027, r4028, r4029⟩
          · have bz4022' : gB z4022 (-2147483648) (-1) := ⟨by omega, by omega⟩
            change G _ _ _ _ _ _ _ (.int (-1) :: _) _ _ _
            refine G_ws (ws' := [(q3809, .inr (14, [.ref q3810, .int p3815, .int p3816, .int p3817, .int p3818])), (q3810, .inr (15, [.ref q3811, .int p3819])), (q3811, .inl (I .byte, 8192, .inl f3820))]) (cs' := 0) (sl' := 0) rfl rfl rfl ?_
            refine G_aload_n 2 d_cX9_isWord_41 rfl ?_
            refine G_iload_n 0 d_cX9_isWord_42 rfl ?_
            refine G_callVk (As := [.int g4016]) (wr := [(q3809, .inr (14, [.ref q3810, .int p3815, .int p3816, .int p3817, .int p3818])), (q3810, .inr (15, [.ref q3811, .int p3819])), (q3811, .inl (I .byte, 8192, .inl f3820))]) (gV_ok D I) (ct_3858_String_charAt l hl0 D I qs3812 qb3813 bs3814 g4016 hbs3814 nbs3814 (by omega) (by omega)) d_cX9_isWord_43 ⟨w_3_67, w_1_21, w_3_70, by decide, rfl, (Nat.le_of_ble_eq_true rfl), (Nat.le_of_ble_eq_true rfl)⟩ w_3_68 w_3_69 (fun _ _ _ h => (hbs3814 _ _ _ h).1) [] [0, 1, 2] rfl rfl rfl rfl (by decide) (Nat.le_of_ble_eq_true rfl) (Nat.le_of_ble_eq_true rfl) (Nat.le_of_ble_eq_true rfl) (fun r w hp => ?_) (fun _ _ _ z => z.elim)
            obtain ⟨o4030, rfl, rfl, bo4030⟩ := hp
            change G _ _ _ _ _ _ _ (.int o4030 :: _) _ _ _
            refine G_ws (ws' := [(q3809, .inr (14, [.ref q3810, .int p3815, .int p3816, .int p3817, .int p3818])), (q3810, .inr (15, [.ref q3811, .int p3819])), (q3811, .inl (I .byte, 8192, .inl f3820))]) (cs' := 0) (sl' := 0) rfl rfl rfl ?_
            refine G_icmp_eq 51 d_cX9_isWord_46 (by decide +kernel) (fun hc => absurd (show False by have := gj_eqL hc (show Int32.toInt (-1) = (-1) by decide); omega) not_false) (fun _ => ?_)
            refine G_iconst 0 d_cX9_isWord_49 (by decide +kernel) ?_
            exact G_zret FieldType.boolean d_cX9_isWord_50 rfl rfl (Nat.le_of_ble_eq_true rfl) (Nat.le_of_ble_eq_true rfl) ⟨0, rfl, rfl, (gB_w (gBl (show Int32.toInt 0 = 0 by decide)) (by decide) (by decide))⟩
          · have bz4022' : gB z4022 0 2147483647 := ⟨by omega, by omega⟩
            change G _ _ _ _ _ _ _ (.int (-1) :: _) _ _ _
            refine G_ws (ws' := [(q3809, .inr (14, [.ref q3810, .int p3815, .int p3816, .int p3817, .int p3818])), (q3810, .inr (15, [.ref q3811, .int p3819])), (q3811, .inl (I .byte, 8192, .inl f3820))]) (cs' := 0) (sl' := 0) rfl rfl rfl ?_
            refine G_aload_n 2 d_cX9_isWord_41 rfl ?_
            refine G_iload_n 0 d_cX9_isWord_42 rfl ?_
            refine G_callVk (As := [.int g4016]) (wr := [(q3809, .inr (14, [.ref q3810, .int p3815, .int p3816, .int p3817, .int p3818])), (q3810, .inr (15, [.ref q3811, .int p3819])), (q3811, .inl (I .byte, 8192, .inl f3820))]) (gV_ok D I) (ct_3858_String_charAt l hl0 D I qs3812 qb3813 bs3814 g4016 hbs3814 nbs3814 (by omega) (by omega)) d_cX9_isWord_43 ⟨w_3_67, w_1_21, w_3_70, by decide, rfl, (Nat.le_of_ble_eq_true rfl), (Nat.le_of_ble_eq_true rfl)⟩ w_3_68 w_3_69 (fun _ _ _ h => (hbs3814 _ _ _ h).1) [] [0, 1, 2] rfl rfl rfl rfl (by decide) (Nat.le_of_ble_eq_true rfl) (Nat.le_of_ble_eq_true rfl) (Nat.le_of_ble_eq_true rfl) (fun r w hp => ?_) (fun _ _ _ z => z.elim)
            obtain ⟨o4031, rfl, rfl, bo4031⟩ := hp
            change G _ _ _ _ _ _ _ (.int o4031 :: _) _ _ _
            refine G_ws (ws' := [(q3809, .inr (14, [.ref q3810, .int p3815, .int p3816, .int p3817, .int p3818])), (q3810, .inr (15, [.ref q3811, .int p3819])), (q3811, .inl (I .byte, 8192, .inl f3820))]) (cs' := 0) (sl' := 0) rfl rfl rfl ?_
            refine G_icmp_eq 51 d_cX9_isWord_46 (by decide +kernel) (fun hc => absurd (show False by have := gj_eqL hc (show Int32.toInt (-1) = (-1) by decide); omega) not_false) (fun _ => ?_)
            refine G_iconst 0 d_cX9_isWord_49 (by decide +kernel) ?_
            exact G_zret FieldType.boolean d_cX9_isWord_50 rfl rfl (Nat.le_of_ble_eq_true rfl) (Nat.le_of_ble_eq_true rfl) ⟨0, rfl, rfl, (gB_w (gBl (show Int32.toInt 0 = 0 by decide)) (by decide) (by decide))⟩
          · have bz4022' : gB z4022 0 2147483647 := ⟨by omega, by omega⟩
            have bz4022'' : gB z4022 0 8191 := ⟨by omega, by omega⟩
            have bp3819' : gB p3819 1 8192 := ⟨by omega, by omega⟩
            change G _ _ _ _ _ _ _ (.int z4026 :: _) _ _ _
            refine G_ws (ws' := [(q3809, .inr (14, [.ref q3810, .int p3815, .int p3816, .int p3817, .int p3818])), (q3810, .inr (15, [.ref q3811, .int p3819])), (q3811, .inl (I .byte, 8192, .inl f3820))]) (cs' := 0) (sl' := 0) rfl rfl rfl ?_
            refine G_aload_n 2 d_cX9_isWord_41 rfl ?_
            refine G_iload_n 0 d_cX9_isWord_42 rfl ?_
            refine G_callVk (As := [.int g4016]) (wr := [(q3809, .inr (14, [.ref q3810, .int p3815, .int p3816, .int p3817, .int p3818])), (q3810, .inr (15, [.ref q3811, .int p3819])), (q3811, .inl (I .byte, 8192, .inl f3820))]) (gV_ok D I) (ct_3858_String_charAt l hl0 D I qs3812 qb3813 bs3814 g4016 hbs3814 nbs3814 (by omega) (by omega)) d_cX9_isWord_43 ⟨w_3_67, w_1_21, w_3_70, by decide, rfl, (Nat.le_of_ble_eq_true rfl), (Nat.le_of_ble_eq_true rfl)⟩ w_3_68 w_3_69 (fun _ _ _ h => (hbs3814 _ _ _ h).1) [] [0, 1, 2] rfl rfl rfl rfl (by decide) (Nat.le_of_ble_eq_true rfl) (Nat.le_of_ble_eq_true rfl) (Nat.le_of_ble_eq_true rfl) (fun r w hp => ?_) (fun _ _ _ z => z.elim)
            obtain ⟨o4032, rfl, rfl, bo4032⟩ := hp
            change G _ _ _ _ _ _ _ (.int o4032 :: _) _ _ _
            refine G_ws (ws' := [(q3809, .inr (14, [.ref q3810, .int p3815, .int p3816, .int p3817, .int p3818])), (q3810, .inr (15, [.ref q3811, .int p3819])), (q3811, .inl (I .byte, 8192, .inl f3820))]) (cs' := 0) (sl' := 0) rfl rfl rfl ?_
            refine G_icmp_eq 51 d_cX9_isWord_46 (by decide +kernel) (fun hc4033 => ?_) (fun hc4033 => ?_)
            · have r4034 : z4026.toInt = o4032.toInt := gC_eq hc4033
              have bo4032' : gB o4032 0 255 := ⟨by omega, by omega⟩
              obtain ⟨z4035, hz4035⟩ : ∃ z : Int32, z = g4016 + Int32.ofInt 1 := ⟨_, rfl⟩
              have ez4035 : z4035.toInt = g4016.toInt + 1 := gI_inc hz4035 (by decide) bg4016' (by decide) (by decide)
              have bz4035 : gB z4035 1 65535 := ⟨by omega, by omega⟩
              refine G_iinc (L' := [(2, .int z4035), (0, .ref q3809), (1, .ref qs3812)]) z4035 0 d_cX9_isWord_51 rfl hz4035.symm (Nat.le_of_ble_eq_true rfl) rfl ?_
              refine G_goto 20 d_cX9_isWord_54 (by decide +kernel) ?_
              exact ih20_4016 z4035 (gB_w bz4035 (by decide) (by decide)) (by omega)
            · have r4036 : z4026.toInt ≠ o4032.toInt := gC_ne hc4033
              refine G_iconst 0 d_cX9_isWord_49 (by decide +kernel) ?_
              exact G_zret FieldType.boolean d_cX9_isWord_50 rfl rfl (Nat.le_of_ble_eq_true rfl) (Nat.le_of_ble_eq_true rfl) ⟨0, rfl, rfl, (gB_w (gBl (show Int32.toInt 0 = 0 by decide)) (by decide) (by decide))⟩
    exact hlp20_4016 (((65536 : Int) - 0).toNat + 1) 0 (gB_w (gBl (show Int32.toInt 0 = 0 by decide)) (by decide) (by decide)) (Nat.lt_succ_self _)
  · have r4037 : z3823.toInt ≠ o3835.toInt := gC_ne hc3837
    refine G_iconst 0 d_cX9_isWord_16 (by decide +kernel) ?_
    exact G_zret FieldType.boolean d_cX9_isWord_17 rfl rfl (Nat.le_of_ble_eq_true rfl) (Nat.le_of_ble_eq_true rfl) ⟨0, rfl, rfl, (gB_w (gBl (show Int32.toInt 0 = 0 by decide)) (by decide) (by decide))⟩
abbrev ky_3805_Signs_takeWord : gKey := (cX9_takeWord, 2, yX9_takeWord.cls, none, [], yX9_takeWord.name, fun _ _ => True)
abbrev po_3805_Signs_takeWord (I : FieldType → ClassId) (q3795 : Nat) (q3796 : Nat) (q3797 : Nat) (p3798 : Int32) (p3799 : Int32) (p3800 : Int32) (p3801 : Int32) (p3802 : Int32) (f3803 : Nat → Int32) : Option Value → va_W → Prop := fun r w => ∃ (o4491 : Int32) (o4492 : Int32), r = none ∧ w = [(q3795, .inr (14, [.ref q3796, .int o4491, .int p3799, .int p3800, .int o4492])), (q3796, .inr (15, [.ref q3797, .int p3802])), (q3797, .inl (I .byte, 8192, .inl f3803))] ∧ gB o4491 0 12 ∧ gB o4492 (-2147483648) 2147483647 ∧ (o4491.toInt ≠ 5 ∨ (0 ≤ p3799.toInt ∧ p3799.toInt ≤ 13))
set_option maxRecDepth 100000 in
set_option maxHeartbeats 4000000 in
theorem ct_3805_Signs_takeWord (l : Launch) (hl0 : l.stackTraces = false) (D : va_G) (I : FieldType → ClassId) (q3795 : Nat) (q3796 : Nat) (q3797 : Nat) (p3798 : Int32) (p3799 : Int32) (p3800 : Int32) (p3801 : Int32) (p3802 : Int32) (f3803 : Nat → Int32) (bp3802 : gB p3802 0 8192) (bf3803 : gF f3803 (-128) 127) (x3804 : (p3798.toInt ≠ 5 ∨ (0 ≤ p3799.toInt ∧ p3799.toInt ≤ 13))) : Ct (gV D I) l yX9_takeWord cX9_takeWord 2 none 5 107 0 0 [.ref q3795] [(q3795, .inr (14, [.ref q3796, .int p3798, .int p3799, .int p3800, .int p3801])), (q3796, .inr (15, [.ref q3797, .int p3802])), (q3797, .inl (I .byte, 8192, .inl f3803))] (po_3805_Signs_takeWord I q3795 q3796 q3797 p3798 p3799 p3800 p3801 p3802 f3803) gN := by
  refine Ct_of hl0 (by decide) (Nat.le_of_ble_eq_true rfl) ?_
  have bp3798 := gB_any p3798
  have bp3799 := gB_any p3799
  have bp3800 := gB_any p3800
  have bp3801 := gB_any p3801
  refine G_aload_n 0 d_cX9_takeWord_0 rfl ?_
  refine G_getf 0 3 d_cX9_takeWord_1 rfl (gk_X9 D I) (Nat.le_of_ble_eq_true rfl) w_1_82 rfl ?_
  refine G_istore_n (L' := [(1, .int p3800), (0, .ref q3795)]) d_cX9_takeWord_4 (Nat.le_of_ble_eq_true rfl) rfl ?_
  have hlp5_4339 : ∀ (n5_4339 : Nat) (g4339 : Int32), gB g4339 (-2147483648) 2147483647 → ((2147483648 : Int) - g4339.toInt).toNat < n5_4339 → G (gV D I) l (gRm 5 107 0 0) (gM (gV D I) (po_3805_Signs_takeWord I q3795 q3796 q3797 p3798 p3799 p3800 p3801 p3802 f3803) gN 0 0) ky_3805_Signs_takeWord 5 [(1, .int g4339), (0, .ref q3795)] [] [(q3795, .inr (14, [.ref q3796, .int p3798, .int p3799, .int p3800, .int p3801])), (q3796, .inr (15, [.ref q3797, .int p3802])), (q3797, .inl (I .byte, 8192, .inl f3803))] 0 0 := by
    intro n5_4339
    induction n5_4339 with
    | zero => intro g4339 bg4339 hm5_4339; exact absurd hm5_4339 (Nat.not_lt_zero _)
    | succ n5_4339 ih5_4339 =>
      intro g4339 bg4339 hm5_4339
      refine G_iload_n 0 d_cX9_takeWord_5 rfl ?_
      refine G_aload_n 1 d_cX9_takeWord_6 rfl ?_
      refine G_getf 0 0 d_cX9_takeWord_7 rfl (gk_X9 D I) (Nat.le_of_ble_eq_true rfl) w_1_79 rfl ?_
      refine G_callV (As := []) (wr := [(q3795, .inr (14, [.ref q3796, .int p3798, .int p3799, .int p3800, .int p3801]))]) (gV_ok D I) (ct_5_Tape_size l hl0 D I q3796 q3797 p3802 f3803 bp3802 bf3803) d_cX9_takeWord_10 ⟨w_3_16, w_1_2, w_3_19, by decide, rfl, (Nat.le_of_ble_eq_true rfl), (Nat.le_of_ble_eq_true rfl)⟩ w_3_17 w_3_18 1 rfl rfl [1, 2] [0] rfl rfl rfl rfl (by decide) (Nat.le_of_ble_eq_true rfl) (Nat.le_of_ble_eq_true rfl) (Nat.le_of_ble_eq_true rfl) (fun r w hp => ?_) (fun _ _ _ z => z.elim)
      obtain ⟨rfl, rfl⟩ := hp
      change G _ _ _ _ _ _ _ (.int p3802 :: _) _ _ _
      refine G_ws (ws' := [(q3795, .inr (14, [.ref q3796, .int p3798, .int p3799, .int p3800, .int p3801])), (q3796, .inr (15, [.ref q3797, .int p3802])), (q3797, .inl (I .byte, 8192, .inl f3803))]) (cs' := 0) (sl' := 0) rfl rfl rfl ?_
      refine G_icmp_ge 36 d_cX9_takeWord_13 (by decide +kernel) (fun hc4340 => ?_) (fun hc4340 => ?_)
      · have r4341 : p3802.toInt ≤ g4339.toInt := gC_le hc4340
        have bg4339' : gB g4339 0 2147483647 := ⟨by omega, by omega⟩
        refine G_aload_n 1 d_cX9_takeWord_36 rfl ?_
        refine G_iload_n 0 d_cX9_takeWord_37 rfl ?_
        refine G_putf (ws' := [(q3795, .inr (14, [.ref q3796, .int p3798, .int p3799, .int p3800, .int g4339])), (q3796, .inr (15, [.ref q3797, .int p3802])), (q3797, .inl (I .byte, 8192, .inl f3803))]) 0 4 d_cX9_takeWord_38 rfl (gk_X9 D I) (Nat.le_of_ble_eq_true rfl) w_1_83 rfl rfl rfl (Nat.le_of_ble_eq_true rfl) rfl ?_
        refine G_aload_n 1 d_cX9_takeWord_41 rfl ?_
        refine G_aload_n 1 d_cX9_takeWord_42 rfl ?_
        refine G_ldcK (a := D.2 1000 0) d_cX9_takeWord_43 (fun _ _ _ h => gx_vk 0 rfl rfl h) ?_
        have hl0_4341 : (sb_0.length : Int) = 2 := rfl
        refine G_callV (As := [.ref (D.2 1000 0)]) (wr := []) (gV_ok D I) (ct_3822_Signs_isWord l hl0 D I q3795 q3796 q3797 (D.2 1000 0) (D.2 1001 0) sb_0 p3798 p3799 p3800 g4339 p3802 f3803 (gx_sc 0 rfl rfl) (by omega) bp3802 bf3803 (by omega)) d_cX9_takeWord_45 ⟨w_3_53, w_1_4, w_3_56, by decide, rfl, (Nat.le_of_ble_eq_true rfl), (Nat.le_of_ble_eq_true rfl)⟩ w_3_55 w_p_5 0 rfl rfl [0, 1, 2] [] rfl rfl rfl rfl (by decide) (Nat.le_of_ble_eq_true rfl) (Nat.le_of_ble_eq_true rfl) (Nat.le_of_ble_eq_true rfl) (fun r w hp => ?_) (fun _ _ _ z => z.elim)
        obtain ⟨o4343, rfl, rfl, bo4343⟩ := hp
        change G _ _ _ _ _ _ _ (.int o4343 :: _) _ _ _
        refine G_ws (ws' := [(q3795, .inr (14, [.ref q3796, .int p3798, .int p3799, .int p3800, .int g4339])), (q3796, .inr (15, [.ref q3797, .int p3802])), (q3797, .inl (I .byte, 8192, .inl f3803))]) (cs' := 0) (sl' := 0) rfl rfl rfl ?_
        refine G_if_eq 56 d_cX9_takeWord_48 (by decide +kernel) (fun hc4344 => ?_) (fun hc4344 => ?_)
        · have r4345 : o4343.toInt = 0 := gj_eq hc4344 (show Int32.toInt 0 = 0 by decide)
          have bo4343' : gB o4343 0 0 := ⟨by omega, by omega⟩
          refine G_aload_n 1 d_cX9_takeWord_56 rfl ?_
          refine G_ldcK (a := D.2 1000 1) d_cX9_takeWord_57 (fun _ _ _ h => gx_vk 1 rfl rfl h) ?_
          have hl1_4345 : (sb_1.length : Int) = 4 := rfl
          refine G_callV (As := [.ref (D.2 1000 1)]) (wr := []) (gV_ok D I) (ct_3822_Signs_isWord l hl0 D I q3795 q3796 q3797 (D.2 1000 1) (D.2 1001 1) sb_1 p3798 p3799 p3800 g4339 p3802 f3803 (gx_sc 1 rfl rfl) (by omega) bp3802 bf3803 (by omega)) d_cX9_takeWord_59 ⟨w_3_53, w_1_4, w_3_56, by decide, rfl, (Nat.le_of_ble_eq_true rfl), (Nat.le_of_ble_eq_true rfl)⟩ w_3_55 w_p_5 0 rfl rfl [0, 1, 2] [] rfl rfl rfl rfl (by decide) (Nat.le_of_ble_eq_true rfl) (Nat.le_of_ble_eq_true rfl) (Nat.le_of_ble_eq_true rfl) (fun r w hp => ?_) (fun _ _ _ z => z.elim)
          obtain ⟨o4347, rfl, rfl, bo4347⟩ := hp
          change G _ _ _ _ _ _ _ (.int o4347 :: _) _ _ _
          refine G_ws (ws' := [(q3795, .inr (14, [.ref q3796, .int p3798, .int p3799, .int p3800, .int g4339])), (q3796, .inr (15, [.ref q3797, .int p3802])), (q3797, .inl (I .byte, 8192, .inl f3803))]) (cs' := 0) (sl' := 0) rfl rfl rfl ?_
          refine G_if_eq 70 d_cX9_takeWord_62 (by decide +kernel) (fun hc4348 => ?_) (fun hc4348 => ?_)
          · have r4349 : o4347.toInt = 0 := gj_eq hc4348 (show Int32.toInt 0 = 0 by decide)
            have bo4347' : gB o4347 0 0 := ⟨by omega, by omega⟩
            refine G_aload_n 1 d_cX9_takeWord_70 rfl ?_
            refine G_ldcK (a := D.2 1000 2) d_cX9_takeWord_71 (fun _ _ _ h => gx_vk 2 rfl rfl h) ?_
            have hl2_4349 : (sb_2.length : Int) = 2 := rfl
            refine G_callV (As := [.ref (D.2 1000 2)]) (wr := []) (gV_ok D I) (ct_3822_Signs_isWord l hl0 D I q3795 q3796 q3797 (D.2 1000 2) (D.2 1001 2) sb_2 p3798 p3799 p3800 g4339 p3802 f3803 (gx_sc 2 rfl rfl) (by omega) bp3802 bf3803 (by omega)) d_cX9_takeWord_73 ⟨w_3_53, w_1_4, w_3_56, by decide, rfl, (Nat.le_of_ble_eq_true rfl), (Nat.le_of_ble_eq_true rfl)⟩ w_3_55 w_p_5 0 rfl rfl [0, 1, 2] [] rfl rfl rfl rfl (by decide) (Nat.le_of_ble_eq_true rfl) (Nat.le_of_ble_eq_true rfl) (Nat.le_of_ble_eq_true rfl) (fun r w hp => ?_) (fun _ _ _ z => z.elim)
            obtain ⟨o4351, rfl, rfl, bo4351⟩ := hp
            change G _ _ _ _ _ _ _ (.int o4351 :: _) _ _ _
            refine G_ws (ws' := [(q3795, .inr (14, [.ref q3796, .int p3798, .int p3799, .int p3800, .int g4339])), (q3796, .inr (15, [.ref q3797, .int p3802])), (q3797, .inl (I .byte, 8192, .inl f3803))]) (cs' := 0) (sl' := 0) rfl rfl rfl ?_
            refine G_if_eq 84 d_cX9_takeWord_76 (by decide +kernel) (fun hc4352 => ?_) (fun hc4352 => ?_)
            · have r4353 : o4351.toInt = 0 := gj_eq hc4352 (show Int32.toInt 0 = 0 by decide)
              have bo4351' : gB o4351 0 0 := ⟨by omega, by omega⟩
              refine G_aload_n 1 d_cX9_takeWord_84 rfl ?_
              refine G_ldcK (a := D.2 1000 3) d_cX9_takeWord_85 (fun _ _ _ h => gx_vk 3 rfl rfl h) ?_
              have hl3_4353 : (sb_3.length : Int) = 4 := rfl
              refine G_callV (As := [.ref (D.2 1000 3)]) (wr := []) (gV_ok D I) (ct_3822_Signs_isWord l hl0 D I q3795 q3796 q3797 (D.2 1000 3) (D.2 1001 3) sb_3 p3798 p3799 p3800 g4339 p3802 f3803 (gx_sc 3 rfl rfl) (by omega) bp3802 bf3803 (by omega)) d_cX9_takeWord_87 ⟨w_3_53, w_1_4, w_3_56, by decide, rfl, (Nat.le_of_ble_eq_true rfl), (Nat.le_of_ble_eq_true rfl)⟩ w_3_55 w_p_5 0 rfl rfl [0, 1, 2] [] rfl rfl rfl rfl (by decide) (Nat.le_of_ble_eq_true rfl) (Nat.le_of_ble_eq_true rfl) (Nat.le_of_ble_eq_true rfl) (fun r w hp => ?_) (fun _ _ _ z => z.elim)
              obtain ⟨o4355, rfl, rfl, bo4355⟩ := hp
              change G _ _ _ _ _ _ _ (.int o4355 :: _) _ _ _
              refine G_ws (ws' := [(q3795, .inr (14, [.ref q3796, .int p3798, .int p3799, .int p3800, .int g4339])), (q3796, .inr (15, [.ref q3797, .int p3802])), (q3797, .inl (I .byte, 8192, .inl f3803))]) (cs' := 0) (sl' := 0) rfl rfl rfl ?_
              refine G_if_eq 98 d_cX9_takeWord_90 (by decide +kernel) (fun hc4356 => ?_) (fun hc4356 => ?_)
              · have r4357 : o4355.toInt = 0 := gj_eq hc4356 (show Int32.toInt 0 = 0 by decide)
                have bo4355' : gB o4355 0 0 := ⟨by omega, by omega⟩
                refine G_aload_n 1 d_cX9_takeWord_98 rfl ?_
                refine G_ldcK (a := D.2 1000 4) d_cX9_takeWord_99 (fun _ _ _ h => gx_vk 4 rfl rfl h) ?_
                have hl4_4357 : (sb_4.length : Int) = 3 := rfl
                refine G_callV (As := [.ref (D.2 1000 4)]) (wr := []) (gV_ok D I) (ct_3822_Signs_isWord l hl0 D I q3795 q3796 q3797 (D.2 1000 4) (D.2 1001 4) sb_4 p3798 p3799 p3800 g4339 p3802 f3803 (gx_sc 4 rfl rfl) (by omega) bp3802 bf3803 (by omega)) d_cX9_takeWord_101 ⟨w_3_53, w_1_4, w_3_56, by decide, rfl, (Nat.le_of_ble_eq_true rfl), (Nat.le_of_ble_eq_true rfl)⟩ w_3_55 w_p_5 0 rfl rfl [0, 1, 2] [] rfl rfl rfl rfl (by decide) (Nat.le_of_ble_eq_true rfl) (Nat.le_of_ble_eq_true rfl) (Nat.le_of_ble_eq_true rfl) (fun r w hp => ?_) (fun _ _ _ z => z.elim)
                obtain ⟨o4359, rfl, rfl, bo4359⟩ := hp
                change G _ _ _ _ _ _ _ (.int o4359 :: _) _ _ _
                refine G_ws (ws' := [(q3795, .inr (14, [.ref q3796, .int p3798, .int p3799, .int p3800, .int g4339])), (q3796, .inr (15, [.ref q3797, .int p3802])), (q3797, .inl (I .byte, 8192, .inl f3803))]) (cs' := 0) (sl' := 0) rfl rfl rfl ?_
                refine G_if_eq 112 d_cX9_takeWord_104 (by decide +kernel) (fun hc4360 => ?_) (fun hc4360 => ?_)
                · have r4361 : o4359.toInt = 0 := gj_eq hc4360 (show Int32.toInt 0 = 0 by decide)
                  have bo4359' : gB o4359 0 0 := ⟨by omega, by omega⟩
                  refine G_iconst 0 d_cX9_takeWord_112 (by decide +kernel) ?_
                  refine G_putf (ws' := [(q3795, .inr (14, [.ref q3796, .int 0, .int p3799, .int p3800, .int g4339])), (q3796, .inr (15, [.ref q3797, .int p3802])), (q3797, .inl (I .byte, 8192, .inl f3803))]) 0 1 d_cX9_takeWord_113 rfl (gk_X9 D I) (Nat.le_of_ble_eq_true rfl) w_1_80 rfl rfl rfl (Nat.le_of_ble_eq_true rfl) rfl ?_
                  exact G_vret d_cX9_takeWord_116 rfl (Nat.le_of_ble_eq_true rfl) (Nat.le_of_ble_eq_true rfl) ⟨0, g4339, rfl, rfl, (gB_w (gBl (show Int32.toInt 0 = 0 by decide)) (by decide) (by decide)), (gB_w bg4339' (by decide) (by decide)), (by have qa0 : Int32.toInt 0 = 0 := (by decide); omega)⟩
                · have r4362 : o4359.toInt ≠ 0 := gj_neq hc4360 (show Int32.toInt 0 = 0 by decide)
                  have bo4359' : gB o4359 1 1 := ⟨by omega, by omega⟩
                  refine G_bipush 12 d_cX9_takeWord_107 (by decide +kernel) ?_
                  refine G_goto 113 d_cX9_takeWord_109 (by decide +kernel) ?_
                  refine G_putf (ws' := [(q3795, .inr (14, [.ref q3796, .int 12, .int p3799, .int p3800, .int g4339])), (q3796, .inr (15, [.ref q3797, .int p3802])), (q3797, .inl (I .byte, 8192, .inl f3803))]) 0 1 d_cX9_takeWord_113 rfl (gk_X9 D I) (Nat.le_of_ble_eq_true rfl) w_1_80 rfl rfl rfl (Nat.le_of_ble_eq_true rfl) rfl ?_
                  exact G_vret d_cX9_takeWord_116 rfl (Nat.le_of_ble_eq_true rfl) (Nat.le_of_ble_eq_true rfl) ⟨12, g4339, rfl, rfl, (gB_w (gBl (show Int32.toInt 12 = 12 by decide)) (by decide) (by decide)), (gB_w bg4339' (by decide) (by decide)), (by have qa0 : Int32.toInt 12 = 12 := (by decide); omega)⟩
              · have r4363 : o4355.toInt ≠ 0 := gj_neq hc4356 (show Int32.toInt 0 = 0 by decide)
                have bo4355' : gB o4355 1 1 := ⟨by omega, by omega⟩
                refine G_bipush 11 d_cX9_takeWord_93 (by decide +kernel) ?_
                refine G_goto 113 d_cX9_takeWord_95 (by decide +kernel) ?_
                refine G_putf (ws' := [(q3795, .inr (14, [.ref q3796, .int 11, .int p3799, .int p3800, .int g4339])), (q3796, .inr (15, [.ref q3797, .int p3802])), (q3797, .inl (I .byte, 8192, .inl f3803))]) 0 1 d_cX9_takeWord_113 rfl (gk_X9 D I) (Nat.le_of_ble_eq_true rfl) w_1_80 rfl rfl rfl (Nat.le_of_ble_eq_true rfl) rfl ?_
                exact G_vret d_cX9_takeWord_116 rfl (Nat.le_of_ble_eq_true rfl) (Nat.le_of_ble_eq_true rfl) ⟨11, g4339, rfl, rfl, (gB_w (gBl (show Int32.toInt 11 = 11 by decide)) (by decide) (by decide)), (gB_w bg4339' (by decide) (by decide)), (by have qa0 : Int32.toInt 11 = 11 := (by decide); omega)⟩
            · have r4364 : o4351.toInt ≠ 0 := gj_neq hc4352 (show Int32.toInt 0 = 0 by decide)
              have bo4351' : gB o4351 1 1 := ⟨by omega, by omega⟩
              refine G_bipush 10 d_cX9_takeWord_79 (by decide +kernel) ?_
              refine G_goto 113 d_cX9_takeWord_81 (by decide +kernel) ?_
              refine G_putf (ws' := [(q3795, .inr (14, [.ref q3796, .int 10, .int p3799, .int p3800, .int g4339])), (q3796, .inr (15, [.ref q3797, .int p3802])), (q3797, .inl (I .byte, 8192, .inl f3803))]) 0 1 d_cX9_takeWord_113 rfl (gk_X9 D I) (Nat.le_of_ble_eq_true rfl) w_1_80 rfl rfl rfl (Nat.le_of_ble_eq_true rfl) rfl ?_
              exact G_vret d_cX9_takeWord_116 rfl (Nat.le_of_ble_eq_true rfl) (Nat.le_of_ble_eq_true rfl) ⟨10, g4339, rfl, rfl, (gB_w (gBl (show Int32.toInt 10 = 10 by decide)) (by decide) (by decide)), (gB_w bg4339' (by decide) (by decide)), (by have qa0 : Int32.toInt 10 = 10 := (by decide); omega)⟩
          · have r4365 : o4347.toInt ≠ 0 := gj_neq hc4348 (show Int32.toInt 0 = 0 by decide)
            have bo4347' : gB o4347 1 1 := ⟨by omega, by omega⟩
            refine G_bipush 9 d_cX9_takeWord_65 (by decide +kernel) ?_
            refine G_goto 113 d_cX9_takeWord_67 (by decide +kernel) ?_
            refine G_putf (ws' := [(q3795, .inr (14, [.ref q3796, .int 9, .int p3799, .int p3800, .int g4339])), (q3796, .inr (15, [.ref q3797, .int p3802])), (q3797, .inl (I .byte, 8192, .inl f3803))]) 0 1 d_cX9_takeWord_113 rfl (gk_X9 D I) (Nat.le_of_ble_eq_true rfl) w_1_80 rfl rfl rfl (Nat.le_of_ble_eq_true rfl) rfl ?_
            exact G_vret d_cX9_takeWord_116 rfl (Nat.le_of_ble_eq_true rfl) (Nat.le_of_ble_eq_true rfl) ⟨9, g4339, rfl, rfl, (gB_w (gBl (show Int32.toInt 9 = 9 by decide)) (by decide) (by decide)), (gB_w bg4339' (by decide) (by decide)), (by have qa0 : Int32.toInt 9 = 9 := (by decide); omega)⟩
        · have r4366 : o4343.toInt ≠ 0 := gj_neq hc4344 (show Int32.toInt 0 = 0 by decide)
          have bo4343' : gB o4343 1 1 := ⟨by omega, by omega⟩
          refine G_bipush 8 d_cX9_takeWord_51 (by decide +kernel) ?_
          refine G_goto 113 d_cX9_takeWord_53 (by decide +kernel) ?_
          refine G_putf (ws' := [(q3795, .inr (14, [.ref q3796, .int 8, .int p3799, .int p3800, .int g4339])), (q3796, .inr (15, [.ref q3797, .int p3802])), (q3797, .inl (I .byte, 8192, .inl f3803))]) 0 1 d_cX9_takeWord_113 rfl (gk_X9 D I) (Nat.le_of_ble_eq_true rfl) w_1_80 rfl rfl rfl (Nat.le_of_ble_eq_true rfl) rfl ?_
          exact G_vret d_cX9_takeWord_116 rfl (Nat.le_of_ble_eq_true rfl) (Nat.le_of_ble_eq_true rfl) ⟨8, g4339, rfl, rfl, (gB_w (gBl (show Int32.toInt 8 = 8 by decide)) (by decide) (by decide)), (gB_w bg4339' (by decide) (by decide)), (by have qa0 : Int32.toInt 8 = 8 := (by decide); omega)⟩
      · have r4367 : g4339.toInt < p3802.toInt := gC_nle hc4340
        have bg4339' : gB g4339 (-2147483648) 8191 := ⟨by omega, by omega⟩
        refine G_aload_n 1 d_cX9_takeWord_16 rfl ?_
        refine G_getf 0 0 d_cX9_takeWord_17 rfl (gk_X9 D I) (Nat.le_of_ble_eq_true rfl) w_1_79 rfl ?_
        refine G_iload_n 0 d_cX9_takeWord_20 rfl ?_
        refine G_callV (As := [.int g4339]) (wr := [(q3795, .inr (14, [.ref q3796, .int p3798, .int p3799, .int p3800, .int p3801]))]) (gV_ok D I) (ct_31_Tape_byteAt l hl0 D I q3796 q3797 g4339 p3802 f3803 bp3802 bf3803) d_cX9_takeWord_21 ⟨w_3_20, w_1_2, w_3_23, by decide, rfl, (Nat.le_of_ble_eq_true rfl), (Nat.le_of_ble_eq_true rfl)⟩ w_3_21 w_3_22 1 rfl rfl [1, 2] [0] rfl rfl rfl rfl (by decide) (Nat.le_of_ble_eq_true rfl) (Nat.le_of_ble_eq_true rfl) (Nat.le_of_ble_eq_true rfl) (fun r w hp => ?_) (fun _ _ _ z => z.elim)
        rcases hp with ⟨rfl, rfl, r4368⟩ | ⟨rfl, rfl, r4369, r4370⟩ | ⟨z4371, rfl, rfl, r4372, r4373, r4374⟩
        · have bg4339'' : gB g4339 (-2147483648) (-1) := ⟨by omega, by omega⟩
          change G _ _ _ _ _ _ _ (.int (-1) :: _) _ _ _
          refine G_ws (ws' := [(q3795, .inr (14, [.ref q3796, .int p3798, .int p3799, .int p3800, .int p3801])), (q3796, .inr (15, [.ref q3797, .int p3802])), (q3797, .inl (I .byte, 8192, .inl f3803))]) (cs' := 0) (sl' := 0) rfl rfl rfl ?_
          refine G_callS (As := [.int (-1)]) (wr := [(q3795, .inr (14, [.ref q3796, .int p3798, .int p3799, .int p3800, .int p3801])), (q3796, .inr (15, [.ref q3797, .int p3802])), (q3797, .inl (I .byte, 8192, .inl f3803))]) (gV_ok D I) (ct_312_Signs_isLetter l hl0 D I (-1) ) d_cX9_takeWord_24 ⟨w_3_45, w_1_4, w_3_47, by decide, rfl, (Nat.le_of_ble_eq_true rfl), (Nat.le_of_ble_eq_true rfl)⟩ w_3_46 [] [0, 1, 2] rfl rfl rfl rfl (by decide) (Nat.le_of_ble_eq_true rfl) (Nat.le_of_ble_eq_true rfl) (Nat.le_of_ble_eq_true rfl) (fun r w hp => ?_) (fun _ _ _ z => z.elim)
          rcases hp with ⟨rfl, rfl, r4375⟩ | ⟨rfl, rfl, r4376, r4377⟩ | ⟨rfl, rfl, r4378, r4379⟩
          · rw [show Int32.toInt (-1) = (-1) from by decide] at r4375
            change G _ _ _ _ _ _ _ (.int 0 :: _) _ _ _
            refine G_ws (ws' := [(q3795, .inr (14, [.ref q3796, .int p3798, .int p3799, .int p3800, .int p3801])), (q3796, .inr (15, [.ref q3797, .int p3802])), (q3797, .inl (I .byte, 8192, .inl f3803))]) (cs' := 0) (sl' := 0) rfl rfl rfl ?_
            refine G_if_eq 36 d_cX9_takeWord_27 (by decide +kernel) (fun _ => ?_) (fun hc => absurd hc (by decide))
            refine G_aload_n 1 d_cX9_takeWord_36 rfl ?_
            refine G_iload_n 0 d_cX9_takeWord_37 rfl ?_
            refine G_putf (ws' := [(q3795, .inr (14, [.ref q3796, .int p3798, .int p3799, .int p3800, .int g4339])), (q3796, .inr (15, [.ref q3797, .int p3802])), (q3797, .inl (I .byte, 8192, .inl f3803))]) 0 4 d_cX9_takeWord_38 rfl (gk_X9 D I) (Nat.le_of_ble_eq_true rfl) w_1_83 rfl rfl rfl (Nat.le_of_ble_eq_true rfl) rfl ?_
            refine G_aload_n 1 d_cX9_takeWord_41 rfl ?_
            refine G_aload_n 1 d_cX9_takeWord_42 rfl ?_
            refine G_ldcK (a := D.2 1000 0) d_cX9_takeWord_43 (fun _ _ _ h => gx_vk 0 rfl rfl h) ?_
            have hl0_4379 : (sb_0.length : Int) = 2 := rfl
            refine G_callV (As := [.ref (D.2 1000 0)]) (wr := []) (gV_ok D I) (ct_3822_Signs_isWord l hl0 D I q3795 q3796 q3797 (D.2 1000 0) (D.2 1001 0) sb_0 p3798 p3799 p3800 g4339 p3802 f3803 (gx_sc 0 rfl rfl) (by omega) bp3802 bf3803 (by omega)) d_cX9_takeWord_45 ⟨w_3_53, w_1_4, w_3_56, by decide, rfl, (Nat.le_of_ble_eq_true rfl), (Nat.le_of_ble_eq_true rfl)⟩ w_3_55 w_p_5 0 rfl rfl [0, 1, 2] [] rfl rfl rfl rfl (by decide) (Nat.le_of_ble_eq_true rfl) (Nat.le_of_ble_eq_true rfl) (Nat.le_of_ble_eq_true rfl) (fun r w hp => ?_) (fun _ _ _ z => z.elim)
            obtain ⟨o4381, rfl, rfl, bo4381⟩ := hp
            change G _ _ _ _ _ _ _ (.int o4381 :: _) _ _ _
            refine G_ws (ws' := [(q3795, .inr (14, [.ref q3796, .int p3798, .int p3799, .int p3800, .int g4339])), (q3796, .inr (15, [.ref q3797, .int p3802])), (q3797, .inl (I .byte, 8192, .inl f3803))]) (cs' := 0) (sl' := 0) rfl rfl rfl ?_
            refine G_if_eq 56 d_cX9_takeWord_48 (by decide +kernel) (fun hc4382 => ?_) (fun hc4382 => ?_)
            · have r4383 : o4381.toInt = 0 := gj_eq hc4382 (show Int32.toInt 0 = 0 by decide)
              have bo4381' : gB o4381 0 0 := ⟨by omega, by omega⟩
              refine G_aload_n 1 d_cX9_takeWord_56 rfl ?_
              refine G_ldcK (a := D.2 1000 1) d_cX9_takeWord_57 (fun _ _ _ h => gx_vk 1 rfl rfl h) ?_
              have hl1_4383 : (sb_1.length : Int) = 4 := rfl
              refine G_callV (As := [.ref (D.2 1000 1)]) (wr := []) (gV_ok D I) (ct_3822_Signs_isWord l hl0 D I q3795 q3796 q3797 (D.2 1000 1) (D.2 1001 1) sb_1 p3798 p3799 p3800 g4339 p3802 f3803 (gx_sc 1 rfl rfl) (by omega) bp3802 bf3803 (by omega)) d_cX9_takeWord_59 ⟨w_3_53, w_1_4, w_3_56, by decide, rfl, (Nat.le_of_ble_eq_true rfl), (Nat.le_of_ble_eq_true rfl)⟩ w_3_55 w_p_5 0 rfl rfl [0, 1, 2] [] rfl rfl rfl rfl (by decide) (Nat.le_of_ble_eq_true rfl) (Nat.le_of_ble_eq_true rfl) (Nat.le_of_ble_eq_true rfl) (fun r w hp => ?_) (fun _ _ _ z => z.elim)
              obtain ⟨o4385, rfl, rfl, bo4385⟩ := hp
              change G _ _ _ _ _ _ _ (.int o4385 :: _) _ _ _
              refine G_ws (ws' := [(q3795, .inr (14, [.ref q3796, .int p3798, .int p3799, .int p3800, .int g4339])), (q3796, .inr (15, [.ref q3797, .int p3802])), (q3797, .inl (I .byte, 8192, .inl f3803))]) (cs' := 0) (sl' := 0) rfl rfl rfl ?_
              refine G_if_eq 70 d_cX9_takeWord_62 (by decide +kernel) (fun hc4386 => ?_) (fun hc4386 => ?_)
              · have r4387 : o4385.toInt = 0 := gj_eq hc4386 (show Int32.toInt 0 = 0 by decide)
                have bo4385' : gB o4385 0 0 := ⟨by omega, by omega⟩
                refine G_aload_n 1 d_cX9_takeWord_70 rfl ?_
                refine G_ldcK (a := D.2 1000 2) d_cX9_takeWord_71 (fun _ _ _ h => gx_vk 2 rfl rfl h) ?_
                have hl2_4387 : (sb_2.length : Int) = 2 := rfl
                refine G_callV (As := [.ref (D.2 1000 2)]) (wr := []) (gV_ok D I) (ct_3822_Signs_isWord l hl0 D I q3795 q3796 q3797 (D.2 1000 2) (D.2 1001 2) sb_2 p3798 p3799 p3800 g4339 p3802 f3803 (gx_sc 2 rfl rfl) (by omega) bp3802 bf3803 (by omega)) d_cX9_takeWord_73 ⟨w_3_53, w_1_4, w_3_56, by decide, rfl, (Nat.le_of_ble_eq_true rfl), (Nat.le_of_ble_eq_true rfl)⟩ w_3_55 w_p_5 0 rfl rfl [0, 1, 2] [] rfl rfl rfl rfl (by decide) (Nat.le_of_ble_eq_true rfl) (Nat.le_of_ble_eq_true rfl) (Nat.le_of_ble_eq_true rfl) (fun r w hp => ?_) (fun _ _ _ z => z.elim)
                obtain ⟨o4389, rfl, rfl, bo4389⟩ := hp
                change G _ _ _ _ _ _ _ (.int o4389 :: _) _ _ _
                refine G_ws (ws' := [(q3795, .inr (14, [.ref q3796, .int p3798, .int p3799, .int p3800, .int g4339])), (q3796, .inr (15, [.ref q3797, .int p3802])), (q3797, .inl (I .byte, 8192, .inl f3803))]) (cs' := 0) (sl' := 0) rfl rfl rfl ?_
                refine G_if_eq 84 d_cX9_takeWord_76 (by decide +kernel) (fun hc4390 => ?_) (fun hc4390 => ?_)
                · have r4391 : o4389.toInt = 0 := gj_eq hc4390 (show Int32.toInt 0 = 0 by decide)
                  have bo4389' : gB o4389 0 0 := ⟨by omega, by omega⟩
                  refine G_aload_n 1 d_cX9_takeWord_84 rfl ?_
                  refine G_ldcK (a := D.2 1000 3) d_cX9_takeWord_85 (fun _ _ _ h => gx_vk 3 rfl rfl h) ?_
                  have hl3_4391 : (sb_3.length : Int) = 4 := rfl
                  refine G_callV (As := [.ref (D.2 1000 3)]) (wr := []) (gV_ok D I) (ct_3822_Signs_isWord l hl0 D I q3795 q3796 q3797 (D.2 1000 3) (D.2 1001 3) sb_3 p3798 p3799 p3800 g4339 p3802 f3803 (gx_sc 3 rfl rfl) (by omega) bp3802 bf3803 (by omega)) d_cX9_takeWord_87 ⟨w_3_53, w_1_4, w_3_56, by decide, rfl, (Nat.le_of_ble_eq_true rfl), (Nat.le_of_ble_eq_true rfl)⟩ w_3_55 w_p_5 0 rfl rfl [0, 1, 2] [] rfl rfl rfl rfl (by decide) (Nat.le_of_ble_eq_true rfl) (Nat.le_of_ble_eq_true rfl) (Nat.le_of_ble_eq_true rfl) (fun r w hp => ?_) (fun _ _ _ z => z.elim)
                  obtain ⟨o4393, rfl, rfl, bo4393⟩ := hp
                  change G _ _ _ _ _ _ _ (.int o4393 :: _) _ _ _
                  refine G_ws (ws' := [(q3795, .inr (14, [.ref q3796, .int p3798, .int p3799, .int p3800, .int g4339])), (q3796, .inr (15, [.ref q3797, .int p3802])), (q3797, .inl (I .byte, 8192, .inl f3803))]) (cs' := 0) (sl' := 0) rfl rfl rfl ?_
                  refine G_if_eq 98 d_cX9_takeWord_90 (by decide +kernel) (fun hc4394 => ?_) (fun hc4394 => ?_)
                  · have r4395 : o4393.toInt = 0 := gj_eq hc4394 (show Int32.toInt 0 = 0 by decide)
                    have bo4393' : gB o4393 0 0 := ⟨by omega, by omega⟩
                    refine G_aload_n 1 d_cX9_takeWord_98 rfl ?_
                    refine G_ldcK (a := D.2 1000 4) d_cX9_takeWord_99 (fun _ _ _ h => gx_vk 4 rfl rfl h) ?_
                    have hl4_4395 : (sb_4.length : Int) = 3 := rfl
                    refine G_callV (As := [.ref (D.2 1000 4)]) (wr := []) (gV_ok D I) (ct_3822_Signs_isWord l hl0 D I q3795 q3796 q3797 (D.2 1000 4) (D.2 1001 4) sb_4 p3798 p3799 p3800 g4339 p3802 f3803 (gx_sc 4 rfl rfl) (by omega) bp3802 bf3803 (by omega)) d_cX9_takeWord_101 ⟨w_3_53, w_1_4, w_3_56, by decide, rfl, (Nat.le_of_ble_eq_true rfl), (Nat.le_of_ble_eq_true rfl)⟩ w_3_55 w_p_5 0 rfl rfl [0, 1, 2] [] rfl rfl rfl rfl (by decide) (Nat.le_of_ble_eq_true rfl) (Nat.le_of_ble_eq_true rfl) (Nat.le_of_ble_eq_true rfl) (fun r w hp => ?_) (fun _ _ _ z => z.elim)
                    obtain ⟨o4397, rfl, rfl, bo4397⟩ := hp
                    change G _ _ _ _ _ _ _ (.int o4397 :: _) _ _ _
                    refine G_ws (ws' := [(q3795, .inr (14, [.ref q3796, .int p3798, .int p3799, .int p3800, .int g4339])), (q3796, .inr (15, [.ref q3797, .int p3802])), (q3797, .inl (I .byte, 8192, .inl f3803))]) (cs' := 0) (sl' := 0) rfl rfl rfl ?_
                    refine G_if_eq 112 d_cX9_takeWord_104 (by decide +kernel) (fun hc4398 => ?_) (fun hc4398 => ?_)
                    · have r4399 : o4397.toInt = 0 := gj_eq hc4398 (show Int32.toInt 0 = 0 by decide)
                      have bo4397' : gB o4397 0 0 := ⟨by omega, by omega⟩
                      refine G_iconst 0 d_cX9_takeWord_112 (by decide +kernel) ?_
                      refine G_putf (ws' := [(q3795, .inr (14, [.ref q3796, .int 0, .int p3799, .int p3800, .int g4339])), (q3796, .inr (15, [.ref q3797, .int p3802])), (q3797, .inl (I .byte, 8192, .inl f3803))]) 0 1 d_cX9_takeWord_113 rfl (gk_X9 D I) (Nat.le_of_ble_eq_true rfl) w_1_80 rfl rfl rfl (Nat.le_of_ble_eq_true rfl) rfl ?_
                      exact G_vret d_cX9_takeWord_116 rfl (Nat.le_of_ble_eq_true rfl) (Nat.le_of_ble_eq_true rfl) ⟨0, g4339, rfl, rfl, (gB_w (gBl (show Int32.toInt 0 = 0 by decide)) (by decide) (by decide)), (gB_w bg4339'' (by decide) (by decide)), (by have qa0 : Int32.toInt 0 = 0 := (by decide); omega)⟩
                    · have r4400 : o4397.toInt ≠ 0 := gj_neq hc4398 (show Int32.toInt 0 = 0 by decide)
                      have bo4397' : gB o4397 1 1 := ⟨by omega, by omega⟩
                      refine G_bipush 12 d_cX9_takeWord_107 (by decide +kernel) ?_
                      refine G_goto 113 d_cX9_takeWord_109 (by decide +kernel) ?_
                      refine G_putf (ws' := [(q3795, .inr (14, [.ref q3796, .int 12, .int p3799, .int p3800, .int g4339])), (q3796, .inr (15, [.ref q3797, .int p3802])), (q3797, .inl (I .byte, 8192, .inl f3803))]) 0 1 d_cX9_takeWord_113 rfl (gk_X9 D I) (Nat.le_of_ble_eq_true rfl) w_1_80 rfl rfl rfl (Nat.le_of_ble_eq_true rfl) rfl ?_
                      exact G_vret d_cX9_takeWord_116 rfl (Nat.le_of_ble_eq_true rfl) (Nat.le_of_ble_eq_true rfl) ⟨12, g4339, rfl, rfl, (gB_w (gBl (show Int32.toInt 12 = 12 by decide)) (by decide) (by decide)), (gB_w bg4339'' (by decide) (by decide)), (by have qa0 : Int32.toInt 12 = 12 := (by decide); omega)⟩
                  · have r4401 : o4393.toInt ≠ 0 := gj_neq hc4394 (show Int32.toInt 0 = 0 by decide)
                    have bo4393' : gB o4393 1 1 := ⟨by omega, by omega⟩
                    refine G_bipush 11 d_cX9_takeWord_93 (by decide +kernel) ?_
                    refine G_goto 113 d_cX9_takeWord_95 (by decide +kernel) ?_
                    refine G_putf (ws' := [(q3795, .inr (14, [.ref q3796, .int 11, .int p3799, .int p3800, .int g4339])), (q3796, .inr (15, [.ref q3797, .int p3802])), (q3797, .inl (I .byte, 8192, .inl f3803))]) 0 1 d_cX9_takeWord_113 rfl (gk_X9 D I) (Nat.le_of_ble_eq_true rfl) w_1_80 rfl rfl rfl (Nat.le_of_ble_eq_true rfl) rfl ?_
                    exact G_vret d_cX9_takeWord_116 rfl (Nat.le_of_ble_eq_true rfl) (Nat.le_of_ble_eq_true rfl) ⟨11, g4339, rfl, rfl, (gB_w (gBl (show Int32.toInt 11 = 11 by decide)) (by decide) (by decide)), (gB_w bg4339'' (by decide) (by decide)), (by have qa0 : Int32.toInt 11 = 11 := (by decide); omega)⟩
                · have r4402 : o4389.toInt ≠ 0 := gj_neq hc4390 (show Int32.toInt 0 = 0 by decide)
                  have bo4389' : gB o4389 1 1 := ⟨by omega, by omega⟩
                  refine G_bipush 10 d_cX9_takeWord_79 (by decide +kernel) ?_
                  refine G_goto 113 d_cX9_takeWord_81 (by decide +kernel) ?_
                  refine G_putf (ws' := [(q3795, .inr (14, [.ref q3796, .int 10, .int p3799, .int p3800, .int g4339])), (q3796, .inr (15, [.ref q3797, .int p3802])), (q3797, .inl (I .byte, 8192, .inl f3803))]) 0 1 d_cX9_takeWord_113 rfl (gk_X9 D I) (Nat.le_of_ble_eq_true rfl) w_1_80 rfl rfl rfl (Nat.le_of_ble_eq_true rfl) rfl ?_
                  exact G_vret d_cX9_takeWord_116 rfl (Nat.le_of_ble_eq_true rfl) (Nat.le_of_ble_eq_true rfl) ⟨10, g4339, rfl, rfl, (gB_w (gBl (show Int32.toInt 10 = 10 by decide)) (by decide) (by decide)), (gB_w bg4339'' (by decide) (by decide)), (by have qa0 : Int32.toInt 10 = 10 := (by decide); omega)⟩
              · have r4403 : o4385.toInt ≠ 0 := gj_neq hc4386 (show Int32.toInt 0 = 0 by decide)
                have bo4385' : gB o4385 1 1 := ⟨by omega, by omega⟩
                refine G_bipush 9 d_cX9_takeWord_65 (by decide +kernel) ?_
                refine G_goto 113 d_cX9_takeWord_67 (by decide +kernel) ?_
                refine G_putf (ws' := [(q3795, .inr (14, [.ref q3796, .int 9, .int p3799, .int p3800, .int g4339])), (q3796, .inr (15, [.ref q3797, .int p3802])), (q3797, .inl (I .byte, 8192, .inl f3803))]) 0 1 d_cX9_takeWord_113 rfl (gk_X9 D I) (Nat.le_of_ble_eq_true rfl) w_1_80 rfl rfl rfl (Nat.le_of_ble_eq_true rfl) rfl ?_
                exact G_vret d_cX9_takeWord_116 rfl (Nat.le_of_ble_eq_true rfl) (Nat.le_of_ble_eq_true rfl) ⟨9, g4339, rfl, rfl, (gB_w (gBl (show Int32.toInt 9 = 9 by decide)) (by decide) (by decide)), (gB_w bg4339'' (by decide) (by decide)), (by have qa0 : Int32.toInt 9 = 9 := (by decide); omega)⟩
            · have r4404 : o4381.toInt ≠ 0 := gj_neq hc4382 (show Int32.toInt 0 = 0 by decide)
              have bo4381' : gB o4381 1 1 := ⟨by omega, by omega⟩
              refine G_bipush 8 d_cX9_takeWord_51 (by decide +kernel) ?_
              refine G_goto 113 d_cX9_takeWord_53 (by decide +kernel) ?_
              refine G_putf (ws' := [(q3795, .inr (14, [.ref q3796, .int 8, .int p3799, .int p3800, .int g4339])), (q3796, .inr (15, [.ref q3797, .int p3802])), (q3797, .inl (I .byte, 8192, .inl f3803))]) 0 1 d_cX9_takeWord_113 rfl (gk_X9 D I) (Nat.le_of_ble_eq_true rfl) w_1_80 rfl rfl rfl (Nat.le_of_ble_eq_true rfl) rfl ?_
              exact G_vret d_cX9_takeWord_116 rfl (Nat.le_of_ble_eq_true rfl) (Nat.le_of_ble_eq_true rfl) ⟨8, g4339, rfl, rfl, (gB_w (gBl (show Int32.toInt 8 = 8 by decide)) (by decide) (by decide)), (gB_w bg4339'' (by decide) (by decide)), (by have qa0 : Int32.toInt 8 = 8 := (by decide); omega)⟩
          · rw [show Int32.toInt (-1) = (-1) from by decide] at r4376
            exact absurd (show False by omega) not_false
          · rw [show Int32.toInt (-1) = (-1) from by decide] at r4378
            exact absurd (show False by omega) not_false
        · have bg4339'' : gB g4339 0 8191 := ⟨by omega, by omega⟩
          have bp3802' : gB p3802 0 8191 := ⟨by omega, by omega⟩
          change G _ _ _ _ _ _ _ (.int (-1) :: _) _ _ _
          refine G_ws (ws' := [(q3795, .inr (14, [.ref q3796, .int p3798, .int p3799, .int p3800, .int p3801])), (q3796, .inr (15, [.ref q3797, .int p3802])), (q3797, .inl (I .byte, 8192, .inl f3803))]) (cs' := 0) (sl' := 0) rfl rfl rfl ?_
          refine G_callS (As := [.int (-1)]) (wr := [(q3795, .inr (14, [.ref q3796, .int p3798, .int p3799, .int p3800, .int p3801])), (q3796, .inr (15, [.ref q3797, .int p3802])), (q3797, .inl (I .byte, 8192, .inl f3803))]) (gV_ok D I) (ct_312_Signs_isLetter l hl0 D I (-1) ) d_cX9_takeWord_24 ⟨w_3_45, w_1_4, w_3_47, by decide, rfl, (Nat.le_of_ble_eq_true rfl), (Nat.le_of_ble_eq_true rfl)⟩ w_3_46 [] [0, 1, 2] rfl rfl rfl rfl (by decide) (Nat.le_of_ble_eq_true rfl) (Nat.le_of_ble_eq_true rfl) (Nat.le_of_ble_eq_true rfl) (fun r w hp => ?_) (fun _ _ _ z => z.elim)
          rcases hp with ⟨rfl, rfl, r4405⟩ | ⟨rfl, rfl, r4406, r4407⟩ | ⟨rfl, rfl, r4408, r4409⟩
          · rw [show Int32.toInt (-1) = (-1) from by decide] at r4405
            change G _ _ _ _ _ _ _ (.int 0 :: _) _ _ _
            refine G_ws (ws' := [(q3795, .inr (14, [.ref q3796, .int p3798, .int p3799, .int p3800, .int p3801])), (q3796, .inr (15, [.ref q3797, .int p3802])), (q3797, .inl (I .byte, 8192, .inl f3803))]) (cs' := 0) (sl' := 0) rfl rfl rfl ?_
            refine G_if_eq 36 d_cX9_takeWord_27 (by decide +kernel) (fun _ => ?_) (fun hc => absurd hc (by decide))
            refine G_aload_n 1 d_cX9_takeWord_36 rfl ?_
            refine G_iload_n 0 d_cX9_takeWord_37 rfl ?_
            refine G_putf (ws' := [(q3795, .inr (14, [.ref q3796, .int p3798, .int p3799, .int p3800, .int g4339])), (q3796, .inr (15, [.ref q3797, .int p3802])), (q3797, .inl (I .byte, 8192, .inl f3803))]) 0 4 d_cX9_takeWord_38 rfl (gk_X9 D I) (Nat.le_of_ble_eq_true rfl) w_1_83 rfl rfl rfl (Nat.le_of_ble_eq_true rfl) rfl ?_
            refine G_aload_n 1 d_cX9_takeWord_41 rfl ?_
            refine G_aload_n 1 d_cX9_takeWord_42 rfl ?_
            refine G_ldcK (a := D.2 1000 0) d_cX9_takeWord_43 (fun _ _ _ h => gx_vk 0 rfl rfl h) ?_
            have hl0_4409 : (sb_0.length : Int) = 2 := rfl
            refine G_callV (As := [.ref (D.2 1000 0)]) (wr := []) (gV_ok D I) (ct_3822_Signs_isWord l hl0 D I q3795 q3796 q3797 (D.2 1000 0) (D.2 1001 0) sb_0 p3798 p3799 p3800 g4339 p3802 f3803 (gx_sc 0 rfl rfl) (by omega) (gB_w bp3802' (by decide) (by decide)) bf3803 (by omega)) d_cX9_takeWord_45 ⟨w_3_53, w_1_4, w_3_56, by decide, rfl, (Nat.le_of_ble_eq_true rfl), (Nat.le_of_ble_eq_true rfl)⟩ w_3_55 w_p_5 0 rfl rfl [0, 1, 2] [] rfl rfl rfl rfl (by decide) (Nat.le_of_ble_eq_true rfl) (Nat.le_of_ble_eq_true rfl) (Nat.le_of_ble_eq_true rfl) (fun r w hp => ?_) (fun _ _ _ z => z.elim)
            obtain ⟨o4411, rfl, rfl, bo4411⟩ := hp
            change G _ _ _ _ _ _ _ (.int o4411 :: _) _ _ _
            refine G_ws (ws' := [(q3795, .inr (14, [.ref q3796, .int p3798, .int p3799, .int p3800, .int g4339])), (q3796, .inr (15, [.ref q3797, .int p3802])), (q3797, .inl (I .byte, 8192, .inl f3803))]) (cs' := 0) (sl' := 0) rfl rfl rfl ?_
            refine G_if_eq 56 d_cX9_takeWord_48 (by decide +kernel) (fun hc4412 => ?_) (fun hc4412 => ?_)
            · have r4413 : o4411.toInt = 0 := gj_eq hc4412 (show Int32.toInt 0 = 0 by decide)
              have bo4411' : gB o4411 0 0 := ⟨by omega, by omega⟩
              refine G_aload_n 1 d_cX9_takeWord_56 rfl ?_
              refine G_ldcK (a := D.2 1000 1) d_cX9_takeWord_57 (fun _ _ _ h => gx_vk 1 rfl rfl h) ?_
              have hl1_4413 : (sb_1.length : Int) = 4 := rfl
              refine G_callV (As := [.ref (D.2 1000 1)]) (wr := []) (gV_ok D I) (ct_3822_Signs_isWord l hl0 D I q3795 q3796 q3797 (D.2 1000 1) (D.2 1001 1) sb_1 p3798 p3799 p3800 g4339 p3802 f3803 (gx_sc 1 rfl rfl) (by omega) (gB_w bp3802' (by decide) (by decide)) bf3803 (by omega)) d_cX9_takeWord_59 ⟨w_3_53, w_1_4, w_3_56, by decide, rfl, (Nat.le_of_ble_eq_true rfl), (Nat.le_of_ble_eq_true rfl)⟩ w_3_55 w_p_5 0 rfl rfl [0, 1, 2] [] rfl rfl rfl rfl (by decide) (Nat.le_of_ble_eq_true rfl) (Nat.le_of_ble_eq_true rfl) (Nat.le_of_ble_eq_true rfl) (fun r w hp => ?_) (fun _ _ _ z => z.elim)
              obtain ⟨o4415, rfl, rfl, bo4415⟩ := hp
              change G _ _ _ _ _ _ _ (.int o4415 :: _) _ _ _
              refine G_ws (ws' := [(q3795, .inr (14, [.ref q3796, .int p3798, .int p3799, .int p3800, .int g4339])), (q3796, .inr (15, [.ref q3797, .int p3802])), (q3797, .inl (I .byte, 8192, .inl f3803))]) (cs' := 0) (sl' := 0) rfl rfl rfl ?_
              refine G_if_eq 70 d_cX9_takeWord_62 (by decide +kernel) (fun hc4416 => ?_) (fun hc4416 => ?_)
              · have r4417 : o4415.toInt = 0 := gj_eq hc4416 (show Int32.toInt 0 = 0 by decide)
                have bo4415' : gB o4415 0 0 := ⟨by omega, by omega⟩
                refine G_aload_n 1 d_cX9_takeWord_70 rfl ?_
                refine G_ldcK (a := D.2 1000 2) d_cX9_takeWord_71 (fun _ _ _ h => gx_vk 2 rfl rfl h) ?_
                have hl2_4417 : (sb_2.length : Int) = 2 := rfl
                refine G_callV (As := [.ref (D.2 1000 2)]) (wr := []) (gV_ok D I) (ct_3822_Signs_isWord l hl0 D I q3795 q3796 q3797 (D.2 1000 2) (D.2 1001 2) sb_2 p3798 p3799 p3800 g4339 p3802 f3803 (gx_sc 2 rfl rfl) (by omega) (gB_w bp3802' (by decide) (by decide)) bf3803 (by omega)) d_cX9_takeWord_73 ⟨w_3_53, w_1_4, w_3_56, by decide, rfl, (Nat.le_of_ble_eq_true rfl), (Nat.le_of_ble_eq_true rfl)⟩ w_3_55 w_p_5 0 rfl rfl [0, 1, 2] [] rfl rfl rfl rfl (by decide) (Nat.le_of_ble_eq_true rfl) (Nat.le_of_ble_eq_true rfl) (Nat.le_of_ble_eq_true rfl) (fun r w hp => ?_) (fun _ _ _ z => z.elim)
                obtain ⟨o4419, rfl, rfl, bo4419⟩ := hp
                change G _ _ _ _ _ _ _ (.int o4419 :: _) _ _ _
                refine G_ws (ws' := [(q3795, .inr (14, [.ref q3796, .int p3798, .int p3799, .int p3800, .int g4339])), (q3796, .inr (15, [.ref q3797, .int p3802])), (q3797, .inl (I .byte, 8192, .inl f3803))]) (cs' := 0) (sl' := 0) rfl rfl rfl ?_
                refine G_if_eq 84 d_cX9_takeWord_76 (by decide +kernel) (fun hc4420 => ?_) (fun hc4420 => ?_)
                · have r4421 : o4419.toInt = 0 := gj_eq hc4420 (show Int32.toInt 0 = 0 by decide)
                  have bo4419' : gB o4419 0 0 := ⟨by omega, by omega⟩
                  refine G_aload_n 1 d_cX9_takeWord_84 rfl ?_
                  refine G_ldcK (a := D.2 1000 3) d_cX9_takeWord_85 (fun _ _ _ h => gx_vk 3 rfl rfl h) ?_
                  have hl3_4421 : (sb_3.length : Int) = 4 := rfl
                  refine G_callV (As := [.ref (D.2 1000 3)]) (wr := []) (gV_ok D I) (ct_3822_Signs_isWord l hl0 D I q3795 q3796 q3797 (D.2 1000 3) (D.2 1001 3) sb_3 p3798 p3799 p3800 g4339 p3802 f3803 (gx_sc 3 rfl rfl) (by omega) (gB_w bp3802' (by decide) (by decide)) bf3803 (by omega)) d_cX9_takeWord_87 ⟨w_3_53, w_1_4, w_3_56, by decide, rfl, (Nat.le_of_ble_eq_true rfl), (Nat.le_of_ble_eq_true rfl)⟩ w_3_55 w_p_5 0 rfl rfl [0, 1, 2] [] rfl rfl rfl rfl (by decide) (Nat.le_of_ble_eq_true rfl) (Nat.le_of_ble_eq_true rfl) (Nat.le_of_ble_eq_true rfl) (fun r w hp => ?_) (fun _ _ _ z => z.elim)
                  obtain ⟨o4423, rfl, rfl, bo4423⟩ := hp
                  change G _ _ _ _ _ _ _ (.int o4423 :: _) _ _ _
                  refine G_ws (ws' := [(q3795, .inr (14, [.ref q3796, .int p3798, .int p3799, .int p3800, .int g4339])), (q3796, .inr (15, [.ref q3797, .int p3802])), (q3797, .inl (I .byte, 8192, .inl f3803))]) (cs' := 0) (sl' := 0) rfl rfl rfl ?_
                  refine G_if_eq 98 d_cX9_takeWord_90 (by decide +kernel) (fun hc4424 => ?_) (fun hc4424 => ?_)
                  · have r4425 : o4423.toInt = 0 := gj_eq hc4424 (show Int32.toInt 0 = 0 by decide)
                    have bo4423' : gB o4423 0 0 := ⟨by omega, by omega⟩
                    refine G_aload_n 1 d_cX9_takeWord_98 rfl ?_
                    refine G_ldcK (a := D.2 1000 4) d_cX9_takeWord_99 (fun _ _ _ h => gx_vk 4 rfl rfl h) ?_
                    have hl4_4425 : (sb_4.length : Int) = 3 := rfl
                    refine G_callV (As := [.ref (D.2 1000 4)]) (wr := []) (gV_ok D I) (ct_3822_Signs_isWord l hl0 D I q3795 q3796 q3797 (D.2 1000 4) (D.2 1001 4) sb_4 p3798 p3799 p3800 g4339 p3802 f3803 (gx_sc 4 rfl rfl) (by omega) (gB_w bp3802' (by decide) (by decide)) bf3803 (by omega)) d_cX9_takeWord_101 ⟨w_3_53, w_1_4, w_3_56, by decide, rfl, (Nat.le_of_ble_eq_true rfl), (Nat.le_of_ble_eq_true rfl)⟩ w_3_55 w_p_5 0 rfl rfl [0, 1, 2] [] rfl rfl rfl rfl (by decide) (Nat.le_of_ble_eq_true rfl) (Nat.le_of_ble_eq_true rfl) (Nat.le_of_ble_eq_true rfl) (fun r w hp => ?_) (fun _ _ _ z => z.elim)
                    obtain ⟨o4427, rfl, rfl, bo4427⟩ := hp
                    change G _ _ _ _ _ _ _ (.int o4427 :: _) _ _ _
                    refine G_ws (ws' := [(q3795, .inr (14, [.ref q3796, .int p3798, .int p3799, .int p3800, .int g4339])), (q3796, .inr (15, [.ref q3797, .int p3802])), (q3797, .inl (I .byte, 8192, .inl f3803))]) (cs' := 0) (sl' := 0) rfl rfl rfl ?_
                    refine G_if_eq 112 d_cX9_takeWord_104 (by decide +kernel) (fun hc4428 => ?_) (fun hc4428 => ?_)
                    · have r4429 : o4427.toInt = 0 := gj_eq hc4428 (show Int32.toInt 0 = 0 by decide)
                      have bo4427' : gB o4427 0 0 := ⟨by omega, by omega⟩
                      refine G_iconst 0 d_cX9_takeWord_112 (by decide +kernel) ?_
                      refine G_putf (ws' := [(q3795, .inr (14, [.ref q3796, .int 0, .int p3799, .int p3800, .int g4339])), (q3796, .inr (15, [.ref q3797, .int p3802])), (q3797, .inl (I .byte, 8192, .inl f3803))]) 0 1 d_cX9_takeWord_113 rfl (gk_X9 D I) (Nat.le_of_ble_eq_true rfl) w_1_80 rfl rfl rfl (Nat.le_of_ble_eq_true rfl) rfl ?_
                      exact G_vret d_cX9_takeWord_116 rfl (Nat.le_of_ble_eq_true rfl) (Nat.le_of_ble_eq_true rfl) ⟨0, g4339, rfl, rfl, (gB_w (gBl (show Int32.toInt 0 = 0 by decide)) (by decide) (by decide)), (gB_w bg4339'' (by decide) (by decide)), (by have qa0 : Int32.toInt 0 = 0 := (by decide); omega)⟩
                    · have r4430 : o4427.toInt ≠ 0 := gj_neq hc4428 (show Int32.toInt 0 = 0 by decide)
                      have bo4427' : gB o4427 1 1 := ⟨by omega, by omega⟩
                      refine G_bipush 12 d_cX9_takeWord_107 (by decide +kernel) ?_
                      refine G_goto 113 d_cX9_takeWord_109 (by decide +kernel) ?_
                      refine G_putf (ws' := [(q3795, .inr (14, [.ref q3796, .int 12, .int p3799, .int p3800, .int g4339])), (q3796, .inr (15, [.ref q3797, .int p3802])), (q3797, .inl (I .byte, 8192, .inl f3803))]) 0 1 d_cX9_takeWord_113 rfl (gk_X9 D I) (Nat.le_of_ble_eq_true rfl) w_1_80 rfl rfl rfl (Nat.le_of_ble_eq_true rfl) rfl ?_
                      exact G_vret d_cX9_takeWord_116 rfl (Nat.le_of_ble_eq_true rfl) (Nat.le_of_ble_eq_true rfl) ⟨12, g4339, rfl, rfl, (gB_w (gBl (show Int32.toInt 12 = 12 by decide)) (by decide) (by decide)), (gB_w bg4339'' (by decide) (by decide)), (by have qa0 : Int32.toInt 12 = 12 := (by decide); omega)⟩
                  · have r4431 : o4423.toInt ≠ 0 := gj_neq hc4424 (show Int32.toInt 0 = 0 by decide)
                    have bo4423' : gB o4423 1 1 := ⟨by omega, by omega⟩
                    refine G_bipush 11 d_cX9_takeWord_93 (by decide +kernel) ?_
                    refine G_goto 113 d_cX9_takeWord_95 (by decide +kernel) ?_
                    refine G_putf (ws' := [(q3795, .inr (14, [.ref q3796, .int 11, .int p3799, .int p3800, .int g4339])), (q3796, .inr (15, [.ref q3797, .int p3802])), (q3797, .inl (I .byte, 8192, .inl f3803))]) 0 1 d_cX9_takeWord_113 rfl (gk_X9 D I) (Nat.le_of_ble_eq_true rfl) w_1_80 rfl rfl rfl (Nat.le_of_ble_eq_true rfl) rfl ?_
                    exact G_vret d_cX9_takeWord_116 rfl (Nat.le_of_ble_eq_true rfl) (Nat.le_of_ble_eq_true rfl) ⟨11, g4339, rfl, rfl, (gB_w (gBl (show Int32.toInt 11 = 11 by decide)) (by decide) (by decide)), (gB_w bg4339'' (by decide) (by decide)), (by have qa0 : Int32.toInt 11 = 11 := (by decide); omega)⟩
                · have r4432 : o4419.toInt ≠ 0 := gj_neq hc4420 (show Int32.toInt 0 = 0 by decide)
                  have bo4419' : gB o4419 1 1 := ⟨by omega, by omega⟩
                  refine G_bipush 10 d_cX9_takeWord_79 (by decide +kernel) ?_
                  refine G_goto 113 d_cX9_takeWord_81 (by decide +kernel) ?_
                  refine G_putf (ws' := [(q3795, .inr (14, [.ref q3796, .int 10, .int p3799, .int p3800, .int g4339])), (q3796, .inr (15, [.ref q3797, .int p3802])), (q3797, .inl (I .byte, 8192, .inl f3803))]) 0 1 d_cX9_takeWord_113 rfl (gk_X9 D I) (Nat.le_of_ble_eq_true rfl) w_1_80 rfl rfl rfl (Nat.le_of_ble_eq_true rfl) rfl ?_
                  exact G_vret d_cX9_takeWord_116 rfl (Nat.le_of_ble_eq_true rfl) (Nat.le_of_ble_eq_true rfl) ⟨10, g4339, rfl, rfl, (gB_w (gBl (show Int32.toInt 10 = 10 by decide)) (by decide) (by decide)), (gB_w bg4339'' (by decide) (by decide)), (by have qa0 : Int32.toInt 10 = 10 := (by decide); omega)⟩
              · have r4433 : o4415.toInt ≠ 0 := gj_neq hc4416 (show Int32.toInt 0 = 0 by decide)
                have bo4415' : gB o4415 1 1 := ⟨by omega, by omega⟩
                refine G_bipush 9 d_cX9_takeWord_65 (by decide +kernel) ?_
                refine G_goto 113 d_cX9_takeWord_67 (by decide +kernel) ?_
                refine G_putf (ws' := [(q3795, .inr (14, [.ref q3796, .int 9, .int p3799, .int p3800, .int g4339])), (q3796, .inr (15, [.ref q3797, .int p3802])), (q3797, .inl (I .byte, 8192, .inl f3803))]) 0 1 d_cX9_takeWord_113 rfl (gk_X9 D I) (Nat.le_of_ble_eq_true rfl) w_1_80 rfl rfl rfl (Nat.le_of_ble_eq_true rfl) rfl ?_
                exact G_vret d_cX9_takeWord_116 rfl (Nat.le_of_ble_eq_true rfl) (Nat.le_of_ble_eq_true rfl) ⟨9, g4339, rfl, rfl, (gB_w (gBl (show Int32.toInt 9 = 9 by decide)) (by decide) (by decide)), (gB_w bg4339'' (by decide) (by decide)), (by have qa0 : Int32.toInt 9 = 9 := (by decide); omega)⟩
            · have r4434 : o4411.toInt ≠ 0 := gj_neq hc4412 (show Int32.toInt 0 = 0 by decide)
              have bo4411' : gB o4411 1 1 := ⟨by omega, by omega⟩
              refine G_bipush 8 d_cX9_takeWord_51 (by decide +kernel) ?_
              refine G_goto 113 d_cX9_takeWord_53 (by decide +kernel) ?_
              refine G_putf (ws' := [(q3795, .inr (14, [.ref q3796, .int 8, .int p3799, .int p3800, .int g4339])), (q3796, .inr (15, [.ref q3797, .int p3802])), (q3797, .inl (I .byte, 8192, .inl f3803))]) 0 1 d_cX9_takeWord_113 rfl (gk_X9 D I) (Nat.le_of_ble_eq_true rfl) w_1_80 rfl rfl rfl (Nat.le_of_ble_eq_true rfl) rfl ?_
              exact G_vret d_cX9_takeWord_116 rfl (Nat.le_of_ble_eq_true rfl) (Nat.le_of_ble_eq_true rfl) ⟨8, g4339, rfl, rfl, (gB_w (gBl (show Int32.toInt 8 = 8 by decide)) (by decide) (by decide)), (gB_w bg4339'' (by decide) (by decide)), (by have qa0 : Int32.toInt 8 = 8 := (by decide); omega)⟩
          · rw [show Int32.toInt (-1) = (-1) from by decide] at r4406
            exact absurd (show False by omega) not_false
          · rw [show Int32.toInt (-1) = (-1) from by decide] at r4408
            exact absurd (show False by omega) not_false
        · have bg4339'' : gB g4339 0 8191 := ⟨by omega, by omega⟩
          have bp3802' : gB p3802 1 8192 := ⟨by omega, by omega⟩
          change G _ _ _ _ _ _ _ (.int z4371 :: _) _ _ _
          refine G_ws (ws' := [(q3795, .inr (14, [.ref q3796, .int p3798, .int p3799, .int p3800, .int p3801])), (q3796, .inr (15, [.ref q3797, .int p3802])), (q3797, .inl (I .byte, 8192, .inl f3803))]) (cs' := 0) (sl' := 0) rfl rfl rfl ?_
          refine G_callS (As := [.int z4371]) (wr := [(q3795, .inr (14, [.ref q3796, .int p3798, .int p3799, .int p3800, .int p3801])), (q3796, .inr (15, [.ref q3797, .int p3802])), (q3797, .inl (I .byte, 8192, .inl f3803))]) (gV_ok D I) (ct_312_Signs_isLetter l hl0 D I z4371 ) d_cX9_takeWord_24 ⟨w_3_45, w_1_4, w_3_47, by decide, rfl, (Nat.le_of_ble_eq_true rfl), (Nat.le_of_ble_eq_true rfl)⟩ w_3_46 [] [0, 1, 2] rfl rfl rfl rfl (by decide) (Nat.le_of_ble_eq_true rfl) (Nat.le_of_ble_eq_true rfl) (Nat.le_of_ble_eq_true rfl) (fun r w hp => ?_) (fun _ _ _ z => z.elim)
          rcases hp with ⟨rfl, rfl, r4435⟩ | ⟨rfl, rfl, r4436, r4437⟩ | ⟨rfl, rfl, r4438, r4439⟩
          · have r4374' : gB z4371 0 96 := ⟨by omega, by omega⟩
            change G _ _ _ _ _ _ _ (.int 0 :: _) _ _ _
            refine G_ws (ws' := [(q3795, .inr (14, [.ref q3796, .int p3798, .int p3799, .int p3800, .int p3801])), (q3796, .inr (15, [.ref q3797, .int p3802])), (q3797, .inl (I .byte, 8192, .inl f3803))]) (cs' := 0) (sl' := 0) rfl rfl rfl ?_
            refine G_if_eq 36 d_cX9_takeWord_27 (by decide +kernel) (fun _ => ?_) (fun hc => absurd hc (by decide))
            refine G_aload_n 1 d_cX9_takeWord_36 rfl ?_
            refine G_iload_n 0 d_cX9_takeWord_37 rfl ?_
            refine G_putf (ws' := [(q3795, .inr (14, [.ref q3796, .int p3798, .int p3799, .int p3800, .int g4339])), (q3796, .inr (15, [.ref q3797, .int p3802])), (q3797, .inl (I .byte, 8192, .inl f3803))]) 0 4 d_cX9_takeWord_38 rfl (gk_X9 D I) (Nat.le_of_ble_eq_true rfl) w_1_83 rfl rfl rfl (Nat.le_of_ble_eq_true rfl) rfl ?_
            refine G_aload_n 1 d_cX9_takeWord_41 rfl ?_
            refine G_aload_n 1 d_cX9_takeWord_42 rfl ?_
            refine G_ldcK (a := D.2 1000 0) d_cX9_takeWord_43 (fun _ _ _ h => gx_vk 0 rfl rfl h) ?_
            have hl0_4439 : (sb_0.length : Int) = 2 := rfl
            refine G_callV (As := [.ref (D.2 1000 0)]) (wr := []) (gV_ok D I) (ct_3822_Signs_isWord l hl0 D I q3795 q3796 q3797 (D.2 1000 0) (D.2 1001 0) sb_0 p3798 p3799 p3800 g4339 p3802 f3803 (gx_sc 0 rfl rfl) (by omega) (gB_w bp3802' (by decide) (by decide)) bf3803 (by omega)) d_cX9_takeWord_45 ⟨w_3_53, w_1_4, w_3_56, by decide, rfl, (Nat.le_of_ble_eq_true rfl), (Nat.le_of_ble_eq_true rfl)⟩ w_3_55 w_p_5 0 rfl rfl [0, 1, 2] [] rfl rfl rfl rfl (by decide) (Nat.le_of_ble_eq_true rfl) (Nat.le_of_ble_eq_true rfl) (Nat.le_of_ble_eq_true rfl) (fun r w hp => ?_) (fun _ _ _ z => z.elim)
            obtain ⟨o4441, rfl, rfl, bo4441⟩ := hp
            change G _ _ _ _ _ _ _ (.int o4441 :: _) _ _ _
            refine G_ws (ws' := [(q3795, .inr (14, [.ref q3796, .int p3798, .int p3799, .int p3800, .int g4339])), (q3796, .inr (15, [.ref q3797, .int p3802])), (q3797, .inl (I .byte, 8192, .inl f3803))]) (cs' := 0) (sl' := 0) rfl rfl rfl ?_
            refine G_if_eq 56 d_cX9_takeWord_48 (by decide +kernel) (fun hc4442 => ?_) (fun hc4442 => ?_)
            · have r4443 : o4441.toInt = 0 := gj_eq hc4442 (show Int32.toInt 0 = 0 by decide)
              have bo4441' : gB o4441 0 0 := ⟨by omega, by omega⟩
              refine G_aload_n 1 d_cX9_takeWord_56 rfl ?_
              refine G_ldcK (a := D.2 1000 1) d_cX9_takeWord_57 (fun _ _ _ h => gx_vk 1 rfl rfl h) ?_
              have hl1_4443 : (sb_1.length : Int) = 4 := rfl
              refine G_callV (As := [.ref (D.2 1000 1)]) (wr := []) (gV_ok D I) (ct_3822_Signs_isWord l hl0 D I q3795 q3796 q3797 (D.2 1000 1) (D.2 1001 1) sb_1 p3798 p3799 p3800 g4339 p3802 f3803 (gx_sc 1 rfl rfl) (by omega) (gB_w bp3802' (by decide) (by decide)) bf3803 (by omega)) d_cX9_takeWord_59 ⟨w_3_53, w_1_4, w_3_56, by decide, rfl, (Nat.le_of_ble_eq_true rfl), (Nat.le_of_ble_eq_true rfl)⟩ w_3_55 w_p_5 0 rfl rfl [0, 1, 2] [] rfl rfl rfl rfl (by decide) (Nat.le_of_ble_eq_true rfl) (Nat.le_of_ble_eq_true rfl) (Nat.le_of_ble_eq_true rfl) (fun r w hp => ?_) (fun _ _ _ z => z.elim)
              obtain ⟨o4445, rfl, rfl, bo4445⟩ := hp
              change G _ _ _ _ _ _ _ (.int o4445 :: _) _ _ _
              refine G_ws (ws' := [(q3795, .inr (14, [.ref q3796, .int p3798, .int p3799, .int p3800, .int g4339])), (q3796, .inr (15, [.ref q3797, .int p3802])), (q3797, .inl (I .byte, 8192, .inl f3803))]) (cs' := 0) (sl' := 0) rfl rfl rfl ?_
              refine G_if_eq 70 d_cX9_takeWord_62 (by decide +kernel) (fun hc4446 => ?_) (fun hc4446 => ?_)
              · have r4447 : o4445.toInt = 0 := gj_eq hc4446 (show Int32.toInt 0 = 0 by decide)
                have bo4445' : gB o4445 0 0 := ⟨by omega, by omega⟩
                refine G_aload_n 1 d_cX9_takeWord_70 rfl ?_
                refine G_ldcK (a := D.2 1000 2) d_cX9_takeWord_71 (fun _ _ _ h => gx_vk 2 rfl rfl h) ?_
                have hl2_4447 : (sb_2.length : Int) = 2 := rfl
                refine G_callV (As := [.ref (D.2 1000 2)]) (wr := []) (gV_ok D I) (ct_3822_Signs_isWord l hl0 D I q3795 q3796 q3797 (D.2 1000 2) (D.2 1001 2) sb_2 p3798 p3799 p3800 g4339 p3802 f3803 (gx_sc 2 rfl rfl) (by omega) (gB_w bp3802' (by decide) (by decide)) bf3803 (by omega)) d_cX9_takeWord_73 ⟨w_3_53, w_1_4, w_3_56, by decide, rfl, (Nat.le_of_ble_eq_true rfl), (Nat.le_of_ble_eq_true rfl)⟩ w_3_55 w_p_5 0 rfl rfl [0, 1, 2] [] rfl rfl rfl rfl (by decide) (Nat.le_of_ble_eq_true rfl) (Nat.le_of_ble_eq_true rfl) (Nat.le_of_ble_eq_true rfl) (fun r w hp => ?_) (fun _ _ _ z => z.elim)
                obtain ⟨o4449, rfl, rfl, bo4449⟩ := hp
                change G _ _ _ _ _ _ _ (.int o4449 :: _) _ _ _
                refine G_ws (ws' := [(q3795, .inr (14, [.ref q3796, .int p3798, .int p3799, .int p3800, .int g4339])), (q3796, .inr (15, [.ref q3797, .int p3802])), (q3797, .inl (I .byte, 8192, .inl f3803))]) (cs' := 0) (sl' := 0) rfl rfl rfl ?_
                refine G_if_eq 84 d_cX9_takeWord_76 (by decide +kernel) (fun hc4450 => ?_) (fun hc4450 => ?_)
                · have r4451 : o4449.toInt = 0 := gj_eq hc4450 (show Int32.toInt 0 = 0 by decide)
                  have bo4449' : gB o4449 0 0 := ⟨by omega, by omega⟩
                  refine G_aload_n 1 d_cX9_takeWord_84 rfl ?_
                  refine G_ldcK (a := D.2 1000 3) d_cX9_takeWord_85 (fun _ _ _ h => gx_vk 3 rfl rfl h) ?_
                  have hl3_4451 : (sb_3.length : Int) = 4 := rfl
                  refine G_callV (As := [.ref (D.2 1000 3)]) (wr := []) (gV_ok D I) (ct_3822_Signs_isWord l hl0 D I q3795 q3796 q3797 (D.2 1000 3) (D.2 1001 3) sb_3 p3798 p3799 p3800 g4339 p3802 f3803 (gx_sc 3 rfl rfl) (by omega) (gB_w bp3802' (by decide) (by decide)) bf3803 (by omega)) d_cX9_takeWord_87 ⟨w_3_53, w_1_4, w_3_56, by decide, rfl, (Nat.le_of_ble_eq_true rfl), (Nat.le_of_ble_eq_true rfl)⟩ w_3_55 w_p_5 0 rfl rfl [0, 1, 2] [] rfl rfl rfl rfl (by decide) (Nat.le_of_ble_eq_true rfl) (Nat.le_of_ble_eq_true rfl) (Nat.le_of_ble_eq_true rfl) (fun r w hp => ?_) (fun _ _ _ z => z.elim)
                  obtain ⟨o4453, rfl, rfl, bo4453⟩ := hp
                  change G _ _ _ _ _ _ _ (.int o4453 :: _) _ _ _
                  refine G_ws (ws' := [(q3795, .inr (14, [.ref q3796, .int p3798, .int p3799, .int p3800, .int g4339])), (q3796, .inr (15, [.ref q3797, .int p3802])), (q3797, .inl (I .byte, 8192, .inl f3803))]) (cs' := 0) (sl' := 0) rfl rfl rfl ?_
                  refine G_if_eq 98 d_cX9_takeWord_90 (by decide +kernel) (fun hc4454 => ?_) (fun hc4454 => ?_)
                  · have r4455 : o4453.toInt = 0 := gj_eq hc4454 (show Int32.toInt 0 = 0 by decide)
                    have bo4453' : gB o4453 0 0 := ⟨by omega, by omega⟩
                    refine G_aload_n 1 d_cX9_takeWord_98 rfl ?_
                    refine G_ldcK (a := D.2 1000 4) d_cX9_takeWord_99 (fun _ _ _ h => gx_vk 4 rfl rfl h) ?_
                    have hl4_4455 : (sb_4.length : Int) = 3 := rfl
                    refine G_callV (As := [.ref (D.2 1000 4)]) (wr := []) (gV_ok D I) (ct_3822_Signs_isWord l hl0 D I q3795 q3796 q3797 (D.2 1000 4) (D.2 1001 4) sb_4 p3798 p3799 p3800 g4339 p3802 f3803 (gx_sc 4 rfl rfl) (by omega) (gB_w bp3802' (by decide) (by decide)) bf3803 (by omega)) d_cX9_takeWord_101 ⟨w_3_53, w_1_4, w_3_56, by decide, rfl, (Nat.le_of_ble_eq_true rfl), (Nat.le_of_ble_eq_true rfl)⟩ w_3_55 w_p_5 0 rfl rfl [0, 1, 2] [] rfl rfl rfl rfl (by decide) (Nat.le_of_ble_eq_true rfl) (Nat.le_of_ble_eq_true rfl) (Nat.le_of_ble_eq_true rfl) (fun r w hp => ?_) (fun _ _ _ z => z.elim)
                    obtain ⟨o4457, rfl, rfl, bo4457⟩ := hp
                    change G _ _ _ _ _ _ _ (.int o4457 :: _) _ _ _
                    refine G_ws (ws' := [(q3795, .inr (14, [.ref q3796, .int p3798, .int p3799, .int p3800, .int g4339])), (q3796, .inr (15, [.ref q3797, .int p3802])), (q3797, .inl (I .byte, 8192, .inl f3803))]) (cs' := 0) (sl' := 0) rfl rfl rfl ?_
                    refine G_if_eq 112 d_cX9_takeWord_104 (by decide +kernel) (fun hc4458 => ?_) (fun hc4458 => ?_)
                    · have r4459 : o4457.toInt = 0 := gj_eq hc4458 (show Int32.toInt 0 = 0 by decide)
                      have bo4457' : gB o4457 0 0 := ⟨by omega, by omega⟩
                      refine G_iconst 0 d_cX9_takeWord_112 (by decide +kernel) ?_
                      refine G_putf (ws' := [(q3795, .inr (14, [.ref q3796, .int 0, .int p3799, .int p3800, .int g4339])), (q3796, .inr (15, [.ref q3797, .int p3802])), (q3797, .inl (I .byte, 8192, .inl f3803))]) 0 1 d_cX9_takeWord_113 rfl (gk_X9 D I) (Nat.le_of_ble_eq_true rfl) w_1_80 rfl rfl rfl (Nat.le_of_ble_eq_true rfl) rfl ?_
                      exact G_vret d_cX9_takeWord_116 rfl (Nat.le_of_ble_eq_true rfl) (Nat.le_of_ble_eq_true rfl) ⟨0, g4339, rfl, rfl, (gB_w (gBl (show Int32.toInt 0 = 0 by decide)) (by decide) (by decide)), (gB_w bg4339'' (by decide) (by decide)), (by have qa0 : Int32.toInt 0 = 0 := (by decide); omega)⟩
                    · have r4460 : o4457.toInt ≠ 0 := gj_neq hc4458 (show Int32.toInt 0 = 0 by decide)
                      have bo4457' : gB o4457 1 1 := ⟨by omega, by omega⟩
                      refine G_bipush 12 d_cX9_takeWord_107 (by decide +kernel) ?_
                      refine G_goto 113 d_cX9_takeWord_109 (by decide +kernel) ?_
                      refine G_putf (ws' := [(q3795, .inr (14, [.ref q3796, .int 12, .int p3799, .int p3800, .int g4339])), (q3796, .inr (15, [.ref q3797, .int p3802])), (q3797, .inl (I .byte, 8192, .inl f3803))]) 0 1 d_cX9_takeWord_113 rfl (gk_X9 D I) (Nat.le_of_ble_eq_true rfl) w_1_80 rfl rfl rfl (Nat.le_of_ble_eq_true rfl) rfl ?_
                      exact G_vret d_cX9_takeWord_116 rfl (Nat.le_of_ble_eq_true rfl) (Nat.le_of_ble_eq_true rfl) ⟨12, g4339, rfl, rfl, (gB_w (gBl (show Int32.toInt 12 = 12 by decide)) (by decide) (by decide)), (gB_w bg4339'' (by decide) (by decide)), (by have qa0 : Int32.toInt 12 = 12 := (by decide); omega)⟩
                  · have r4461 : o4453.toInt ≠ 0 := gj_neq hc4454 (show Int32.toInt 0 = 0 by decide)
                    have bo4453' : gB o4453 1 1 := ⟨by omega, by omega⟩
                    refine G_bipush 11 d_cX9_takeWord_93 (by decide +kernel) ?_
                    refine G_goto 113 d_cX9_takeWord_95 (by decide +kernel) ?_
                    refine G_putf (ws' := [(q3795, .inr (14, [.ref q3796, .int 11, .int p3799, .int p3800, .int g4339])), (q3796, .inr (15, [.ref q3797, .int p3802])), (q3797, .inl (I .byte, 8192, .inl f3803))]) 0 1 d_cX9_takeWord_113 rfl (gk_X9 D I) (Nat.le_of_ble_eq_true rfl) w_1_80 rfl rfl rfl (Nat.le_of_ble_eq_true rfl) rfl ?_
                    exact G_vret d_cX9_takeWord_116 rfl (Nat.le_of_ble_eq_true rfl) (Nat.le_of_ble_eq_true rfl) ⟨11, g4339, rfl, rfl, (gB_w (gBl (show Int32.toInt 11 = 11 by decide)) (by decide) (by decide)), (gB_w bg4339'' (by decide) (by decide)), (by have qa0 : Int32.toInt 11 = 11 := (by decide); omega)⟩
                · have r4462 : o4449.toInt ≠ 0 := gj_neq hc4450 (show Int32.toInt 0 = 0 by decide)
                  have bo4449' : gB o4449 1 1 := ⟨by omega, by omega⟩
                  refine G_bipush 10 d_cX9_takeWord_79 (by decide +kernel) ?_
                  refine G_goto 113 d_cX9_takeWord_81 (by decide +kernel) ?_
                  refine G_putf (ws' := [(q3795, .inr (14, [.ref q3796, .int 10, .int p3799, .int p3800, .int g4339])), (q3796, .inr (15, [.ref q3797, .int p3802])), (q3797, .inl (I .byte, 8192, .inl f3803))]) 0 1 d_cX9_takeWord_113 rfl (gk_X9 D I) (Nat.le_of_ble_eq_true rfl) w_1_80 rfl rfl rfl (Nat.le_of_ble_eq_true rfl) rfl ?_
                  exact G_vret d_cX9_takeWord_116 rfl (Nat.le_of_ble_eq_true rfl) (Nat.le_of_ble_eq_true rfl) ⟨10, g4339, rfl, rfl, (gB_w (gBl (show Int32.toInt 10 = 10 by decide)) (by decide) (by decide)), (gB_w bg4339'' (by decide) (by decide)), (by have qa0 : Int32.toInt 10 = 10 := (by decide); omega)⟩
              · have r4463 : o4445.toInt ≠ 0 := gj_neq hc4446 (show Int32.toInt 0 = 0 by decide)
                have bo4445' : gB o4445 1 1 := ⟨by omega, by omega⟩
                refine G_bipush 9 d_cX9_takeWord_65 (by decide +kernel) ?_
                refine G_goto 113 d_cX9_takeWord_67 (by decide +kernel) ?_
                refine G_putf (ws' := [(q3795, .inr (14, [.ref q3796, .int 9, .int p3799, .int p3800, .int g4339])), (q3796, .inr (15, [.ref q3797, .int p3802])), (q3797, .inl (I .byte, 8192, .inl f3803))]) 0 1 d_cX9_takeWord_113 rfl (gk_X9 D I) (Nat.le_of_ble_eq_true rfl) w_1_80 rfl rfl rfl (Nat.le_of_ble_eq_true rfl) rfl ?_
                exact G_vret d_cX9_takeWord_116 rfl (Nat.le_of_ble_eq_true rfl) (Nat.le_of_ble_eq_true rfl) ⟨9, g4339, rfl, rfl, (gB_w (gBl (show Int32.toInt 9 = 9 by decide)) (by decide) (by decide)), (gB_w bg4339'' (by decide) (by decide)), (by have qa0 : Int32.toInt 9 = 9 := (by decide); omega)⟩
            · have r4464 : o4441.toInt ≠ 0 := gj_neq hc4442 (show Int32.toInt 0 = 0 by decide)
              have bo4441' : gB o4441 1 1 := ⟨by omega, by omega⟩
              refine G_bipush 8 d_cX9_takeWord_51 (by decide +kernel) ?_
              refine G_goto 113 d_cX9_takeWord_53 (by decide +kernel) ?_
              refine G_putf (ws' := [(q3795, .inr (14, [.ref q3796, .int 8, .int p3799, .int p3800, .int g4339])), (q3796, .inr (15, [.ref q3797, .int p3802])), (q3797, .inl (I .byte, 8192, .inl f3803))]) 0 1 d_cX9_takeWord_113 rfl (gk_X9 D I) (Nat.le_of_ble_eq_true rfl) w_1_80 rfl rfl rfl (Nat.le_of_ble_eq_true rfl) rfl ?_
              exact G_vret d_cX9_takeWord_116 rfl (Nat.le_of_ble_eq_true rfl) (Nat.le_of_ble_eq_true rfl) ⟨8, g4339, rfl, rfl, (gB_w (gBl (show Int32.toInt 8 = 8 by decide)) (by decide) (by decide)), (gB_w bg4339'' (by decide) (by decide)), (by have qa0 : Int32.toInt 8 = 8 := (by decide); omega)⟩
          · have r4374' : gB z4371 97 255 := ⟨by omega, by omega⟩
            have r4374'' : gB z4371 123 255 := ⟨by omega, by omega⟩
            change G _ _ _ _ _ _ _ (.int 0 :: _) _ _ _
            refine G_ws (ws' := [(q3795, .inr (14, [.ref q3796, .int p3798, .int p3799, .int p3800, .int p3801])), (q3796, .inr (15, [.ref q3797, .int p3802])), (q3797, .inl (I .byte, 8192, .inl f3803))]) (cs' := 0) (sl' := 0) rfl rfl rfl ?_
            refine G_if_eq 36 d_cX9_takeWord_27 (by decide +kernel) (fun _ => ?_) (fun hc => absurd hc (by decide))
            refine G_aload_n 1 d_cX9_takeWord_36 rfl ?_
            refine G_iload_n 0 d_cX9_takeWord_37 rfl ?_
            refine G_putf (ws' := [(q3795, .inr (14, [.ref q3796, .int p3798, .int p3799, .int p3800, .int g4339])), (q3796, .inr (15, [.ref q3797, .int p3802])), (q3797, .inl (I .byte, 8192, .inl f3803))]) 0 4 d_cX9_takeWord_38 rfl (gk_X9 D I) (Nat.le_of_ble_eq_true rfl) w_1_83 rfl rfl rfl (Nat.le_of_ble_eq_true rfl) rfl ?_
            refine G_aload_n 1 d_cX9_takeWord_41 rfl ?_
            refine G_aload_n 1 d_cX9_takeWord_42 rfl ?_
            refine G_ldcK (a := D.2 1000 0) d_cX9_takeWord_43 (fun _ _ _ h => gx_vk 0 rfl rfl h) ?_
            have hl0_4464 : (sb_0.length : Int) = 2 := rfl
            refine G_callV (As := [.ref (D.2 1000 0)]) (wr := []) (gV_ok D I) (ct_3822_Signs_isWord l hl0 D I q3795 q3796 q3797 (D.2 1000 0) (D.2 1001 0) sb_0 p3798 p3799 p3800 g4339 p3802 f3803 (gx_sc 0 rfl rfl) (by omega) (gB_w bp3802' (by decide) (by decide)) bf3803 (by omega)) d_cX9_takeWord_45 ⟨w_3_53, w_1_4, w_3_56, by decide, rfl, (Nat.le_of_ble_eq_true rfl), (Nat.le_of_ble_eq_true rfl)⟩ w_3_55 w_p_5 0 rfl rfl [0, 1, 2] [] rfl rfl rfl rfl (by decide) (Nat.le_of_ble_eq_true rfl) (Nat.le_of_ble_eq_true rfl) (Nat.le_of_ble_eq_true rfl) (fun r w hp => ?_) (fun _ _ _ z => z.elim)
            obtain ⟨o4466, rfl, rfl, bo4466⟩ := hp
            change G _ _ _ _ _ _ _ (.int o4466 :: _) _ _ _
            refine G_ws (ws' := [(q3795, .inr (14, [.ref q3796, .int p3798, .int p3799, .int p3800, .int g4339])), (q3796, .inr (15, [.ref q3797, .int p3802])), (q3797, .inl (I .byte, 8192, .inl f3803))]) (cs' := 0) (sl' := 0) rfl rfl rfl ?_
            refine G_if_eq 56 d_cX9_takeWord_48 (by decide +kernel) (fun hc4467 => ?_) (fun hc4467 => ?_)
            · have r4468 : o4466.toInt = 0 := gj_eq hc4467 (show Int32.toInt 0 = 0 by decide)
              have bo4466' : gB o4466 0 0 := ⟨by omega, by omega⟩
              refine G_aload_n 1 d_cX9_takeWord_56 rfl ?_
              refine G_ldcK (a := D.2 1000 1) d_cX9_takeWord_57 (fun _ _ _ h => gx_vk 1 rfl rfl h) ?_
              have hl1_4468 : (sb_1.length : Int) = 4 := rfl
              refine G_callV (As := [.ref (D.2 1000 1)]) (wr := []) (gV_ok D I) (ct_3822_Signs_isWord l hl0 D I q3795 q3796 q3797 (D.2 1000 1) (D.2 1001 1) sb_1 p3798 p3799 p3800 g4339 p3802 f3803 (gx_sc 1 rfl rfl) (by omega) (gB_w bp3802' (by decide) (by decide)) bf3803 (by omega)) d_cX9_takeWord_59 ⟨w_3_53, w_1_4, w_3_56, by decide, rfl, (Nat.le_of_ble_eq_true rfl), (Nat.le_of_ble_eq_true rfl)⟩ w_3_55 w_p_5 0 rfl rfl [0, 1, 2] [] rfl rfl rfl rfl (by decide) (Nat.le_of_ble_eq_true rfl) (Nat.le_of_ble_eq_true rfl) (Nat.le_of_ble_eq_true rfl) (fun r w hp => ?_) (fun _ _ _ z => z.elim)
              obtain ⟨o4470, rfl, rfl, bo4470⟩ := hp
              change G _ _ _ _ _ _ _ (.int o4470 :: _) _ _ _
              refine G_ws (ws' := [(q3795, .inr (14, [.ref q3796, .int p3798, .int p3799, .int p3800, .int g4339])), (q3796, .inr (15, [.ref q3797, .int p3802])), (q3797, .inl (I .byte, 8192, .inl f3803))]) (cs' := 0) (sl' := 0) rfl rfl rfl ?_
              refine G_if_eq 70 d_cX9_takeWord_62 (by decide +kernel) (fun hc4471 => ?_) (fun hc4471 => ?_)
              · have r4472 : o4470.toInt = 0 := gj_eq hc4471 (show Int32.toInt 0 = 0 by decide)
                have bo4470' : gB o4470 0 0 := ⟨by omega, by omega⟩
                refine G_aload_n 1 d_cX9_takeWord_70 rfl ?_
                refine G_ldcK (a := D.2 1000 2) d_cX9_takeWord_71 (fun _ _ _ h => gx_vk 2 rfl rfl h) ?_
                have hl2_4472 : (sb_2.length : Int) = 2 := rfl
                refine G_callV (As := [.ref (D.2 1000 2)]) (wr := []) (gV_ok D I) (ct_3822_Signs_isWord l hl0 D I q3795 q3796 q3797 (D.2 1000 2) (D.2 1001 2) sb_2 p3798 p3799 p3800 g4339 p3802 f3803 (gx_sc 2 rfl rfl) (by omega) (gB_w bp3802' (by decide) (by decide)) bf3803 (by omega)) d_cX9_takeWord_73 ⟨w_3_53, w_1_4, w_3_56, by decide, rfl, (Nat.le_of_ble_eq_true rfl), (Nat.le_of_ble_eq_true rfl)⟩ w_3_55 w_p_5 0 rfl rfl [0, 1, 2] [] rfl rfl rfl rfl (by decide) (Nat.le_of_ble_eq_true rfl) (Nat.le_of_ble_eq_true rfl) (Nat.le_of_ble_eq_true rfl) (fun r w hp => ?_) (fun _ _ _ z => z.elim)
                obtain ⟨o4474, rfl, rfl, bo4474⟩ := hp
                change G _ _ _ _ _ _ _ (.int o4474 :: _) _ _ _
                refine G_ws (ws' := [(q3795, .inr (14, [.ref q3796, .int p3798, .int p3799, .int p3800, .int g4339])), (q3796, .inr (15, [.ref q3797, .int p3802])), (q3797, .inl (I .byte, 8192, .inl f3803))]) (cs' := 0) (sl' := 0) rfl rfl rfl ?_
                refine G_if_eq 84 d_cX9_takeWord_76 (by decide +kernel) (fun hc4475 => ?_) (fun hc4475 => ?_)
                · have r4476 : o4474.toInt = 0 := gj_eq hc4475 (show Int32.toInt 0 = 0 by decide)
                  have bo4474' : gB o4474 0 0 := ⟨by omega, by omega⟩
                  refine G_aload_n 1 d_cX9_takeWord_84 rfl ?_
                  refine G_ldcK (a := D.2 1000 3) d_cX9_takeWord_85 (fun _ _ _ h => gx_vk 3 rfl rfl h) ?_
                  have hl3_4476 : (sb_3.length : Int) = 4 := rfl
                  refine G_callV (As := [.ref (D.2 1000 3)]) (wr := []) (gV_ok D I) (ct_3822_Signs_isWord l hl0 D I q3795 q3796 q3797 (D.2 1000 3) (D.2 1001 3) sb_3 p3798 p3799 p3800 g4339 p3802 f3803 (gx_sc 3 rfl rfl) (by omega) (gB_w bp3802' (by decide) (by decide)) bf3803 (by omega)) d_cX9_takeWord_87 ⟨w_3_53, w_1_4, w_3_56, by decide, rfl, (Nat.le_of_ble_eq_true rfl), (Nat.le_of_ble_eq_true rfl)⟩ w_3_55 w_p_5 0 rfl rfl [0, 1, 2] [] rfl rfl rfl rfl (by decide) (Nat.le_of_ble_eq_true rfl) (Nat.le_of_ble_eq_true rfl) (Nat.le_of_ble_eq_true rfl) (fun r w hp => ?_) (fun _ _ _ z => z.elim)
                  obtain ⟨o4478, rfl, rfl, bo4478⟩ := hp
                  change G _ _ _ _ _ _ _ (.int o4478 :: _) _ _ _
                  refine G_ws (ws' := [(q3795, .inr (14, [.ref q3796, .int p3798, .int p3799, .int p3800, .int g4339])), (q3796, .inr (15, [.ref q3797, .int p3802])), (q3797, .inl (I .byte, 8192, .inl f3803))]) (cs' := 0) (sl' := 0) rfl rfl rfl ?_
                  refine G_if_eq 98 d_cX9_takeWord_90 (by decide +kernel) (fun hc4479 => ?_) (fun hc4479 => ?_)
                  · have r4480 : o4478.toInt = 0 := gj_eq hc4479 (show Int32.toInt 0 = 0 by decide)
                    have bo4478' : gB o4478 0 0 := ⟨by omega, by omega⟩
                    refine G_aload_n 1 d_cX9_takeWord_98 rfl ?_
                    refine G_ldcK (a := D.2 1000 4) d_cX9_takeWord_99 (fun _ _ _ h => gx_vk 4 rfl rfl h) ?_
                    have hl4_4480 : (sb_4.length : Int) = 3 := rfl
                    refine G_callV (As := [.ref (D.2 1000 4)]) (wr := []) (gV_ok D I) (ct_3822_Signs_isWord l hl0 D I q3795 q3796 q3797 (D.2 1000 4) (D.2 1001 4) sb_4 p3798 p3799 p3800 g4339 p3802 f3803 (gx_sc 4 rfl rfl) (by omega) (gB_w bp3802' (by decide) (by decide)) bf3803 (by omega)) d_cX9_takeWord_101 ⟨w_3_53, w_1_4, w_3_56, by decide, rfl, (Nat.le_of_ble_eq_true rfl), (Nat.le_of_ble_eq_true rfl)⟩ w_3_55 w_p_5 0 rfl rfl [0, 1, 2] [] rfl rfl rfl rfl (by decide) (Nat.le_of_ble_eq_true rfl) (Nat.le_of_ble_eq_true rfl) (Nat.le_of_ble_eq_true rfl) (fun r w hp => ?_) (fun _ _ _ z => z.elim)
                    obtain ⟨o4482, rfl, rfl, bo4482⟩ := hp
                    change G _ _ _ _ _ _ _ (.int o4482 :: _) _ _ _
                    refine G_ws (ws' := [(q3795, .inr (14, [.ref q3796, .int p3798, .int p3799, .int p3800, .int g4339])), (q3796, .inr (15, [.ref q3797, .int p3802])), (q3797, .inl (I .byte, 8192, .inl f3803))]) (cs' := 0) (sl' := 0) rfl rfl rfl ?_
                    refine G_if_eq 112 d_cX9_takeWord_104 (by decide +kernel) (fun hc4483 => ?_) (fun hc4483 => ?_)
                    · have r4484 : o4482.toInt = 0 := gj_eq hc4483 (show Int32.toInt 0 = 0 by decide)
                      have bo4482' : gB o4482 0 0 := ⟨by omega, by omega⟩
                      refine G_iconst 0 d_cX9_takeWord_112 (by decide +kernel) ?_
                      refine G_putf (ws' := [(q3795, .inr (14, [.ref q3796, .int 0, .int p3799, .int p3800, .int g4339])), (q3796, .inr (15, [.ref q3797, .int p3802])), (q3797, .inl (I .byte, 8192, .inl f3803))]) 0 1 d_cX9_takeWord_113 rfl (gk_X9 D I) (Nat.le_of_ble_eq_true rfl) w_1_80 rfl rfl rfl (Nat.le_of_ble_eq_true rfl) rfl ?_
                      exact G_vret d_cX9_takeWord_116 rfl (Nat.le_of_ble_eq_true rfl) (Nat.le_of_ble_eq_true rfl) ⟨0, g4339, rfl, rfl, (gB_w (gBl (show Int32.toInt 0 = 0 by decide)) (by decide) (by decide)), (gB_w bg4339'' (by decide) (by decide)), (by have qa0 : Int32.toInt 0 = 0 := (by decide); omega)⟩
                    · have r4485 : o4482.toInt ≠ 0 := gj_neq hc4483 (show Int32.toInt 0 = 0 by decide)
                      have bo4482' : gB o4482 1 1 := ⟨by omega, by omega⟩
                      refine G_bipush 12 d_cX9_takeWord_107 (by decide +kernel) ?_
                      refine G_goto 113 d_cX9_takeWord_109 (by decide +kernel) ?_
                      refine G_putf (ws' := [(q3795, .inr (14, [.ref q3796, .int 12, .int p3799, .int p3800, .int g4339])), (q3796, .inr (15, [.ref q3797, .int p3802])), (q3797, .inl (I .byte, 8192, .inl f3803))]) 0 1 d_cX9_takeWord_113 rfl (gk_X9 D I) (Nat.le_of_ble_eq_true rfl) w_1_80 rfl rfl rfl (Nat.le_of_ble_eq_true rfl) rfl ?_
                      exact G_vret d_cX9_takeWord_116 rfl (Nat.le_of_ble_eq_true rfl) (Nat.le_of_ble_eq_true rfl) ⟨12, g4339, rfl, rfl, (gB_w (gBl (show Int32.toInt 12 = 12 by decide)) (by decide) (by decide)), (gB_w bg4339'' (by decide) (by decide)), (by have qa0 : Int32.toInt 12 = 12 := (by decide); omega)⟩
                  · have r4486 : o4478.toInt ≠ 0 := gj_neq hc4479 (show Int32.toInt 0 = 0 by decide)
                    have bo4478' : gB o4478 1 1 := ⟨by omega, by omega⟩
                    refine G_bipush 11 d_cX9_takeWord_93 (by decide +kernel) ?_
                    refine G_goto 113 d_cX9_takeWord_95 (by decide +kernel) ?_
                    refine G_putf (ws' := [(q3795, .inr (14, [.ref q3796, .int 11, .int p3799, .int p3800, .int g4339])), (q3796, .inr (15, [.ref q3797, .int p3802])), (q3797, .inl (I .byte, 8192, .inl f3803))]) 0 1 d_cX9_takeWord_113 rfl (gk_X9 D I) (Nat.le_of_ble_eq_true rfl) w_1_80 rfl rfl rfl (Nat.le_of_ble_eq_true rfl) rfl ?_
                    exact G_vret d_cX9_takeWord_116 rfl (Nat.le_of_ble_eq_true rfl) (Nat.le_of_ble_eq_true rfl) ⟨11, g4339, rfl, rfl, (gB_w (gBl (show Int32.toInt 11 = 11 by decide)) (by decide) (by decide)), (gB_w bg4339'' (by decide) (by decide)), (by have qa0 : Int32.toInt 11 = 11 := (by decide); omega)⟩
                · have r4487 : o4474.toInt ≠ 0 := gj_neq hc4475 (show Int32.toInt 0 = 0 by decide)
                  have bo4474' : gB o4474 1 1 := ⟨by omega, by omega⟩
                  refine G_bipush 10 d_cX9_takeWord_79 (by decide +kernel) ?_
                  refine G_goto 113 d_cX9_takeWord_81 (by decide +kernel) ?_
                  refine G_putf (ws' := [(q3795, .inr (14, [.ref q3796, .int 10, .int p3799, .int p3800, .int g4339])), (q3796, .inr (15, [.ref q3797, .int p3802])), (q3797, .inl (I .byte, 8192, .inl f3803))]) 0 1 d_cX9_takeWord_113 rfl (gk_X9 D I) (Nat.le_of_ble_eq_true rfl) w_1_80 rfl rfl rfl (Nat.le_of_ble_eq_true rfl) rfl ?_
                  exact G_vret d_cX9_takeWord_116 rfl (Nat.le_of_ble_eq_true rfl) (Nat.le_of_ble_eq_true rfl) ⟨10, g4339, rfl, rfl, (gB_w (gBl (show Int32.toInt 10 = 10 by decide)) (by decide) (by decide)), (gB_w bg4339'' (by decide) (by decide)), (by have qa0 : Int32.toInt 10 = 10 := (by decide); omega)⟩
              · have r4488 : o4470.toInt ≠ 0 := gj_neq hc4471 (show Int32.toInt 0 = 0 by decide)
                have bo4470' : gB o4470 1 1 := ⟨by omega, by omega⟩
                refine G_bipush 9 d_cX9_takeWord_65 (by decide +kernel) ?_
                refine G_goto 113 d_cX9_takeWord_67 (by decide +kernel) ?_
                refine G_putf (ws' := [(q3795, .inr (14, [.ref q3796, .int 9, .int p3799, .int p3800, .int g4339])), (q3796, .inr (15, [.ref q3797, .int p3802])), (q3797, .inl (I .byte, 8192, .inl f3803))]) 0 1 d_cX9_takeWord_113 rfl (gk_X9 D I) (Nat.le_of_ble_eq_true rfl) w_1_80 rfl rfl rfl (Nat.le_of_ble_eq_true rfl) rfl ?_
                exact G_vret d_cX9_takeWord_116 rfl (Nat.le_of_ble_eq_true rfl) (Nat.le_of_ble_eq_true rfl) ⟨9, g4339, rfl, rfl, (gB_w (gBl (show Int32.toInt 9 = 9 by decide)) (by decide) (by decide)), (gB_w bg4339'' (by decide) (by decide)), (by have qa0 : Int32.toInt 9 = 9 := (by decide); omega)⟩
            · have r4489 : o4466.toInt ≠ 0 := gj_neq hc4467 (show Int32.toInt 0 = 0 by decide)
              have bo4466' : gB o4466 1 1 := ⟨by omega, by omega⟩
              refine G_bipush 8 d_cX9_takeWord_51 (by decide +kernel) ?_
              refine G_goto 113 d_cX9_takeWord_53 (by decide +kernel) ?_
              refine G_putf (ws' := [(q3795, .inr (14, [.ref q3796, .int 8, .int p3799, .int p3800, .int g4339])), (q3796, .inr (15, [.ref q3797, .int p3802])), (q3797, .inl (I .byte, 8192, .inl f3803))]) 0 1 d_cX9_takeWord_113 rfl (gk_X9 D I) (Nat.le_of_ble_eq_true rfl) w_1_80 rfl rfl rfl (Nat.le_of_ble_eq_true rfl) rfl ?_
              exact G_vret d_cX9_takeWord_116 rfl (Nat.le_of_ble_eq_true rfl) (Nat.le_of_ble_eq_true rfl) ⟨8, g4339, rfl, rfl, (gB_w (gBl (show Int32.toInt 8 = 8 by decide)) (by decide) (by decide)), (gB_w bg4339'' (by decide) (by decide)), (by have qa0 : Int32.toInt 8 = 8 := (by decide); omega)⟩
          · have r4374' : gB z4371 97 255 := ⟨by omega, by omega⟩
            have r4374'' : gB z4371 97 122 := ⟨by omega, by omega⟩
            change G _ _ _ _ _ _ _ (.int 1 :: _) _ _ _
            refine G_ws (ws' := [(q3795, .inr (14, [.ref q3796, .int p3798, .int p3799, .int p3800, .int p3801])), (q3796, .inr (15, [.ref q3797, .int p3802])), (q3797, .inl (I .byte, 8192, .inl f3803))]) (cs' := 0) (sl' := 0) rfl rfl rfl ?_
            refine G_if_eq 36 d_cX9_takeWord_27 (by decide +kernel) (fun hc => absurd hc (by decide)) (fun _ => ?_)
            obtain ⟨z4490, hz4490⟩ : ∃ z : Int32, z = g4339 + Int32.ofInt 1 := ⟨_, rfl⟩
            have ez4490 : z4490.toInt = g4339.toInt + 1 := gI_inc hz4490 (by decide) bg4339'' (by decide) (by decide)
            have bz4490 : gB z4490 1 8192 := ⟨by omega, by omega⟩
            refine G_iinc (L' := [(1, .int z4490), (0, .ref q3795)]) z4490 0 d_cX9_takeWord_30 rfl hz4490.symm (Nat.le_of_ble_eq_true rfl) rfl ?_
            refine G_goto 5 d_cX9_takeWord_33 (by decide +kernel) ?_
            exact ih5_4339 z4490 (gB_w bz4490 (by decide) (by decide)) (by omega)
  exact hlp5_4339 (((2147483648 : Int) - p3800.toInt).toNat + 1) p3800 bp3800 (Nat.lt_succ_self _)
