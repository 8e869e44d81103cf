theorem d_cX7_perform_0 : decode cX7_perform 0 = .ok (.aload_n 0, 1) := by decide +kernel
theorem d_cX7_perform_1 : decode cX7_perform 1 = .ok (.getfield 15, 3) := by decide +kernel
theorem d_cX7_perform_4 : decode cX7_perform 4 = .ok (.iconst 0, 1) := by decide +kernel
theorem d_cX7_perform_5 : decode cX7_perform 5 = .ok (.invokestatic 59, 3) := by decide +kernel
theorem w_6_73 : (Jvm.Cond.methodLink "SpillForge$Machine" (59 : Nat) ({ cls := "java/util/Arrays", name := "fill", desc := "([II)V" } : Jvm.MethodName)) ∈ gw := gw_6 73 rfl rfl
theorem d_cX7_perform_8 : decode cX7_perform 8 = .ok (.aload_n 0, 1) := by decide +kernel
theorem d_cX7_perform_9 : decode cX7_perform 9 = .ok (.getfield 18, 3) := by decide +kernel
theorem d_cX7_perform_12 : decode cX7_perform 12 = .ok (.iconst 0, 1) := by decide +kernel
theorem d_cX7_perform_13 : decode cX7_perform 13 = .ok (.invokestatic 59, 3) := by decide +kernel
theorem d_cX7_perform_16 : decode cX7_perform 16 = .ok (.aload_n 0, 1) := by decide +kernel
theorem d_cX7_perform_17 : decode cX7_perform 17 = .ok (.iconst 0, 1) := by decide +kernel
theorem d_cX7_perform_18 : decode cX7_perform 18 = .ok (.putfield 65, 3) := by decide +kernel
theorem d_cX7_perform_21 : decode cX7_perform 21 = .ok (.aload_n 0, 1) := by decide +kernel
theorem d_cX7_perform_22 : decode cX7_perform 22 = .ok (.iconst 0, 1) := by decide +kernel
theorem d_cX7_perform_23 : decode cX7_perform 23 = .ok (.putfield 47, 3) := by decide +kernel
theorem d_cX7_perform_26 : decode cX7_perform 26 = .ok (.aload_n 0, 1) := by decide +kernel
theorem d_cX7_perform_27 : decode cX7_perform 27 = .ok (.iconst 0, 1) := by decide +kernel
theorem d_cX7_perform_28 : decode cX7_perform 28 = .ok (.putfield 50, 3) := by decide +kernel
theorem d_cX7_perform_31 : decode cX7_perform 31 = .ok (.aload_n 0, 1) := by decide +kernel
theorem d_cX7_perform_32 : decode cX7_perform 32 = .ok (.iconst 0, 1) := by decide +kernel
theorem d_cX7_perform_33 : decode cX7_perform 33 = .ok (.putfield 56, 3) := by decide +kernel
theorem d_cX7_perform_36 : decode cX7_perform 36 = .ok (.aload_n 0, 1) := by decide +kernel
theorem d_cX7_perform_37 : decode cX7_perform 37 = .ok (.bipush (-2), 2) := by decide +kernel
theorem d_cX7_perform_39 : decode cX7_perform 39 = .ok (.putfield 24, 3) := by decide +kernel
theorem d_cX7_perform_42 : decode cX7_perform 42 = .ok (.iconst 0, 1) := by decide +kernel
theorem d_cX7_perform_43 : decode cX7_perform 43 = .ok (.istore_n 3, 1) := by decide +kernel
theorem d_cX7_perform_44 : decode cX7_perform 44 = .ok (.aload_n 0, 1) := by decide +kernel
theorem d_cX7_perform_45 : decode cX7_perform 45 = .ok (.iconst 0, 1) := by decide +kernel
theorem d_cX7_perform_46 : decode cX7_perform 46 = .ok (.putfield 53, 3) := by decide +kernel
theorem w_2_168 : (Jvm.Cond.fieldLink "SpillForge$Machine" (53 : Nat) "SpillForge$Machine" "steps" "I") ∈ gw := gw_2 168 rfl rfl
theorem d_cX7_perform_49 : decode cX7_perform 49 = .ok (.aload_n 0, 1) := by decide +kernel
theorem d_cX7_perform_50 : decode cX7_perform 50 = .ok (.getfield 53, 3) := by decide +kernel
theorem d_cX7_perform_53 : decode cX7_perform 53 = .ok (.iload_n 2, 1) := by decide +kernel
theorem d_cX7_perform_54 : decode cX7_perform 54 = .ok (.if_icmp .ge 52, 3) := by decide +kernel
theorem d_cX7_perform_106 : decode cX7_perform 106 = .ok (.aload_n 0, 1) := by decide +kernel
theorem d_cX7_perform_107 : decode cX7_perform 107 = .ok (.getfield 24, 3) := by decide +kernel
theorem d_cX7_perform_110 : decode cX7_perform 110 = .ok (.bipush (-2), 2) := by decide +kernel
theorem d_cX7_perform_112 : decode cX7_perform 112 = .ok (.if_icmp .ne 8, 3) := by decide +kernel
theorem d_cX7_perform_120 : decode cX7_perform 120 = .ok (.return_, 1) := by decide +kernel
theorem d_cX7_perform_115 : decode cX7_perform 115 = .ok (.aload_n 0, 1) := by decide +kernel
theorem d_cX7_perform_116 : decode cX7_perform 116 = .ok (.iconst 4, 1) := by decide +kernel
theorem d_cX7_perform_117 : decode cX7_perform 117 = .ok (.putfield 24, 3) := by decide +kernel
theorem d_cX7_perform_57 : decode cX7_perform 57 = .ok (.aload_n 0, 1) := by decide +kernel
theorem d_cX7_perform_58 : decode cX7_perform 58 = .ok (.getfield 24, 3) := by decide +kernel
theorem d_cX7_perform_61 : decode cX7_perform 61 = .ok (.bipush (-2), 2) := by decide +kernel
theorem d_cX7_perform_63 : decode cX7_perform 63 = .ok (.if_icmp .ne 43, 3) := by decide +kernel
theorem d_cX7_perform_66 : decode cX7_perform 66 = .ok (.iload_n 3, 1) := by decide +kernel
theorem d_cX7_perform_67 : decode cX7_perform 67 = .ok (.ifCond .lt 20, 3) := by decide +kernel
theorem d_cX7_perform_87 : decode cX7_perform 87 = .ok (.aload_n 0, 1) := by decide +kernel
theorem d_cX7_perform_88 : decode cX7_perform 88 = .ok (.iconst 4, 1) := by decide +kernel
theorem d_cX7_perform_89 : decode cX7_perform 89 = .ok (.invokevirtual 77, 3) := by decide +kernel
theorem d_cX7_perform_92 : decode cX7_perform 92 = .ok (.istore_n 3, 1) := by decide +kernel
theorem d_cX7_perform_93 : decode cX7_perform 93 = .ok (.aload_n 0, 1) := by decide +kernel
theorem d_cX7_perform_94 : decode cX7_perform 94 = .ok (.dup, 1) := by decide +kernel
theorem d_cX7_perform_95 : decode cX7_perform 95 = .ok (.getfield 53, 3) := by decide +kernel
theorem d_cX7_perform_98 : decode cX7_perform 98 = .ok (.iconst 1, 1) := by decide +kernel
theorem d_cX7_perform_99 : decode cX7_perform 99 = .ok (.iadd, 1) := by decide +kernel
theorem d_cX7_perform_100 : decode cX7_perform 100 = .ok (.putfield 53, 3) := by decide +kernel
theorem d_cX7_perform_103 : decode cX7_perform 103 = .ok (.goto (-54), 3) := by decide +kernel
theorem d_cX7_perform_70 : decode cX7_perform 70 = .ok (.iload_n 3, 1) := by decide +kernel
theorem d_cX7_perform_71 : decode cX7_perform 71 = .ok (.aload_n 1, 1) := by decide +kernel
theorem d_cX7_perform_72 : decode cX7_perform 72 = .ok (.getfield 68, 3) := by decide +kernel
theorem d_cX7_perform_75 : decode cX7_perform 75 = .ok (.if_icmp .ge 12, 3) := by decide +kernel
theorem d_cX7_perform_78 : decode cX7_perform 78 = .ok (.aload_n 0, 1) := by decide +kernel
theorem d_cX7_perform_79 : decode cX7_perform 79 = .ok (.aload_n 1, 1) := by decide +kernel
theorem d_cX7_perform_80 : decode cX7_perform 80 = .ok (.iload_n 3, 1) := by decide +kernel
theorem d_cX7_perform_81 : decode cX7_perform 81 = .ok (.invokevirtual 73, 3) := by decide +kernel
theorem w_6_74 : (Jvm.Cond.methodLink "SpillForge$Machine" (73 : Nat) ({ cls := "SpillForge$Machine", name := "step", desc := "(LSpillForge$Code;I)I" } : Jvm.MethodName)) ∈ gw := gw_6 74 rfl rfl
theorem w_6_77 : (Jvm.Cond.code ({ cls := "SpillForge$Machine", name := "step", desc := "(LSpillForge$Code;I)I" } : Jvm.MethodName) prog_9_method_10_code (6 : Nat) (Option.some Jvm.ClassFile.FieldType.int)) ∈ gw := gw_6 77 rfl rfl
theorem w_6_76 : (Jvm.Cond.instanceMethod ({ cls := "SpillForge$Machine", name := "step", desc := "(LSpillForge$Code;I)I" } : Jvm.MethodName)) ∈ gw := gw_6 76 rfl rfl
theorem w_p_57 : Cond.selects "SpillForge$Machine" ⟨"SpillForge$Machine", "step", "(LSpillForge$Code;I)I"⟩ ⟨"SpillForge$Machine", "step", "(LSpillForge$Code;I)I"⟩ ∈ gw := gw_p _ 57 rfl rfl rfl
theorem d_cX7_perform_84 : decode cX7_perform 84 = .ok (.goto 8, 3) := by decide +kernel
theorem d_cJ0_coder_7d493_0 : decode cJ0_coder_7d493 0 = .ok (.getstatic 38, 3) := by decide +kernel
theorem w_3_65 : (Jvm.Cond.fieldLink "java/lang/String" (38 : Nat) "java/lang/String" "COMPACT_STRINGS" "Z") ∈ gw := gw_3 65 rfl rfl
theorem d_cJ0_coder_7d493_3 : decode cJ0_coder_7d493 3 = .ok (.ifCond .eq 10, 3) := by decide +kernel
theorem d_cJ0_coder_7d493_6 : decode cJ0_coder_7d493 6 = .ok (.aload_n 0, 1) := by decide +kernel
theorem d_cJ0_coder_7d493_7 : decode cJ0_coder_7d493 7 = .ok (.getfield 15, 3) := by decide +kernel
theorem w_8_183 : (Jvm.Cond.fieldLink "java/lang/String" (15 : Nat) "java/lang/String" "coder" "B") ∈ gw := gw_8 183 rfl rfl
theorem d_cJ0_coder_7d493_10 : decode cJ0_coder_7d493 10 = .ok (.goto 4, 3) := by decide +kernel
theorem d_cJ0_coder_7d493_14 : decode cJ0_coder_7d493 14 = .ok (.ireturn, 1) := by decide +kernel
theorem d_cJ0_length_8abf5_0 : decode cJ0_length_8abf5 0 = .ok (.aload_n 0, 1) := by decide +kernel
theorem d_cJ0_length_8abf5_1 : decode cJ0_length_8abf5 1 = .ok (.getfield 9, 3) := by decide +kernel
theorem w_8_182 : (Jvm.Cond.fieldLink "java/lang/String" (9 : Nat) "java/lang/String" "value" "[B") ∈ gw := gw_8 182 rfl rfl
theorem d_cJ0_length_8abf5_4 : decode cJ0_length_8abf5 4 = .ok (.arraylength, 1) := by decide +kernel
theorem d_cJ0_length_8abf5_5 : decode cJ0_length_8abf5 5 = .ok (.aload_n 0, 1) := by decide +kernel
theorem d_cJ0_length_8abf5_6 : decode cJ0_length_8abf5 6 = .ok (.invokevirtual 335, 3) := by decide +kernel
theorem w_3_61 : (Jvm.Cond.methodLink "java/lang/String" (335 : Nat) ({ cls := "java/lang/String", name := "coder", desc := "()B" } : Jvm.MethodName)) ∈ gw := gw_3 61 rfl rfl
theorem w_1_21 : (Jvm.Cond.initialized "java/lang/String") ∈ gw := gw_1 21 rfl rfl
theorem w_3_64 : (Jvm.Cond.code ({ cls := "java/lang/String", name := "coder", desc := "()B" } : Jvm.MethodName) prog_34_method_152_code (1 : Nat) (Option.some Jvm.ClassFile.FieldType.byte)) ∈ gw := gw_3 64 rfl rfl
theorem w_3_62 : (Jvm.Cond.instanceMethod ({ cls := "java/lang/String", name := "coder", desc := "()B" } : Jvm.MethodName)) ∈ gw := gw_3 62 rfl rfl
theorem w_3_63 : (Jvm.Cond.selects "java/lang/String" ({ cls := "java/lang/String", name := "coder", desc := "()B" } : Jvm.MethodName) ({ cls := "java/lang/String", name := "coder", desc := "()B" } : Jvm.MethodName)) ∈ gw := gw_3 63 rfl rfl
theorem d_cJ0_length_8abf5_9 : decode cJ0_length_8abf5 9 = .ok (.ishr, 1) := by decide +kernel
theorem d_cJ0_length_8abf5_10 : decode cJ0_length_8abf5 10 = .ok (.ireturn, 1) := by decide +kernel
theorem d_cJ0_isLatin1_aae02_0 : decode cJ0_isLatin1_aae02 0 = .ok (.getstatic 38, 3) := by decide +kernel
theorem d_cJ0_isLatin1_aae02_3 : decode cJ0_isLatin1_aae02 3 = .ok (.ifCond .eq 14, 3) := by decide +kernel
theorem d_cJ0_isLatin1_aae02_6 : decode cJ0_isLatin1_aae02 6 = .ok (.aload_n 0, 1) := by decide +kernel
theorem d_cJ0_isLatin1_aae02_7 : decode cJ0_isLatin1_aae02 7 = .ok (.getfield 15, 3) := by decide +kernel
theorem d_cJ0_isLatin1_aae02_10 : decode cJ0_isLatin1_aae02 10 = .ok (.ifCond .ne 7, 3) := by decide +kernel
theorem d_cJ0_isLatin1_aae02_13 : decode cJ0_isLatin1_aae02 13 = .ok (.iconst 1, 1) := by decide +kernel
theorem d_cJ0_isLatin1_aae02_14 : decode cJ0_isLatin1_aae02 14 = .ok (.goto 4, 3) := by decide +kernel
theorem d_cJ0_isLatin1_aae02_18 : decode cJ0_isLatin1_aae02 18 = .ok (.ireturn, 1) := by decide +kernel
theorem d_cJ3_checkIndex_8e157_0 : decode cJ3_checkIndex_8e157 0 = .ok (.iload_n 0, 1) := by decide +kernel
theorem d_cJ3_checkIndex_8e157_1 : decode cJ3_checkIndex_8e157 1 = .ok (.ifCond .lt 8, 3) := by decide +kernel
theorem d_cJ3_checkIndex_8e157_4 : decode cJ3_checkIndex_8e157 4 = .ok (.iload_n 0, 1) := by decide +kernel
theorem d_cJ3_checkIndex_8e157_5 : decode cJ3_checkIndex_8e157 5 = .ok (.iload_n 1, 1) := by decide +kernel
theorem d_cJ3_checkIndex_8e157_6 : decode cJ3_checkIndex_8e157 6 = .ok (.if_icmp .lt 10, 3) := by decide +kernel
theorem d_cJ3_checkIndex_8e157_16 : decode cJ3_checkIndex_8e157 16 = .ok (.iload_n 0, 1) := by decide +kernel
theorem d_cJ3_checkIndex_8e157_17 : decode cJ3_checkIndex_8e157 17 = .ok (.ireturn, 1) := by decide +kernel
theorem d_cJ0_checkIndex_df160_0 : decode cJ0_checkIndex_df160 0 = .ok (.iload_n 0, 1) := by decide +kernel
theorem d_cJ0_checkIndex_df160_1 : decode cJ0_checkIndex_df160 1 = .ok (.iload_n 1, 1) := by decide +kernel
theorem d_cJ0_checkIndex_df160_2 : decode cJ0_checkIndex_df160 2 = .ok (.getstatic 1053, 3) := by decide +kernel
theorem w_3_81 : (Jvm.Cond.fieldLink "java/lang/String" (1053 : Nat) "jdk/internal/util/Preconditions" "SIOOBE_FORMATTER" "Ljava/util/function/BiFunction;") ∈ gw := gw_3 81 rfl rfl
theorem d_cJ0_checkIndex_df160_5 : decode cJ0_checkIndex_df160 5 = .ok (.invokestatic 1059, 3) := by decide +kernel
theorem w_3_83 : (Jvm.Cond.methodLink "java/lang/String" (1059 : Nat) ({ cls := "jdk/internal/util/Preconditions", name := "checkIndex", desc := "(IILjava/util/function/BiFunction;)I" } : Jvm.MethodName)) ∈ gw := gw_3 83 rfl rfl
theorem w_1_29 : (Jvm.Cond.initialized "jdk/internal/util/Preconditions") ∈ gw := gw_1 29 rfl rfl
theorem w_3_85 : (Jvm.Cond.code ({ cls := "jdk/internal/util/Preconditions", name := "checkIndex", desc := "(IILjava/util/function/BiFunction;)I" } : Jvm.MethodName) prog_52_method_11_code (3 : Nat) (Option.some Jvm.ClassFile.FieldType.int)) ∈ gw := gw_3 85 rfl rfl
theorem w_3_84 : (Jvm.Cond.static ({ cls := "jdk/internal/util/Preconditions", name := "checkIndex", desc := "(IILjava/util/function/BiFunction;)I" } : Jvm.MethodName)) ∈ gw := gw_3 84 rfl rfl
theorem d_cJ0_checkIndex_df160_8 : decode cJ0_checkIndex_df160 8 = .ok (.pop, 1) := by decide +kernel
theorem d_cJ0_checkIndex_df160_9 : decode cJ0_checkIndex_df160 9 = .ok (.return_, 1) := by decide +kernel
theorem d_cJ1_charAt_3b067_0 : decode cJ1_charAt_3b067 0 = .ok (.iload_n 1, 1) := by decide +kernel
theorem d_cJ1_charAt_3b067_1 : decode cJ1_charAt_3b067 1 = .ok (.aload_n 0, 1) := by decide +kernel
theorem d_cJ1_charAt_3b067_2 : decode cJ1_charAt_3b067 2 = .ok (.arraylength, 1) := by decide +kernel
theorem d_cJ1_charAt_3b067_3 : decode cJ1_charAt_3b067 3 = .ok (.invokestatic 9, 3) := by decide +kernel
theorem w_3_78 : (Jvm.Cond.methodLink "java/lang/StringLatin1" (9 : Nat) ({ cls := "java/lang/String", name := "checkIndex", desc := "(II)V" } : Jvm.MethodName)) ∈ gw := gw_3 78 rfl rfl
theorem w_3_80 : (Jvm.Cond.code ({ cls := "java/lang/String", name := "checkIndex", desc := "(II)V" } : Jvm.MethodName) prog_34_method_155_code (2 : Nat) (Option.none : Option Jvm.ClassFile.FieldType)) ∈ gw := gw_3 80 rfl rfl
theorem w_3_79 : (Jvm.Cond.static ({ cls := "java/lang/String", name := "checkIndex", desc := "(II)V" } : Jvm.MethodName)) ∈ gw := gw_3 79 rfl rfl
theorem d_cJ1_charAt_3b067_6 : decode cJ1_charAt_3b067 6 = .ok (.aload_n 0, 1) := by decide +kernel
theorem d_cJ1_charAt_3b067_7 : decode cJ1_charAt_3b067 7 = .ok (.iload_n 1, 1) := by decide +kernel
theorem d_cJ1_charAt_3b067_8 : decode cJ1_charAt_3b067 8 = .ok (.baload, 1) := by decide +kernel
theorem d_cJ1_charAt_3b067_9 : decode cJ1_charAt_3b067 9 = .ok (.sipush 255, 3) := by decide +kernel
theorem d_cJ1_charAt_3b067_12 : decode cJ1_charAt_3b067 12 = .ok (.iand, 1) := by decide +kernel
theorem d_cJ1_charAt_3b067_13 : decode cJ1_charAt_3b067 13 = .ok (.i2c, 1) := by decide +kernel
theorem d_cJ1_charAt_3b067_14 : decode cJ1_charAt_3b067 14 = .ok (.ireturn, 1) := by decide +kernel
theorem d_cJ0_charAt_5068e_0 : decode cJ0_charAt_5068e 0 = .ok (.aload_n 0, 1) := by decide +kernel
theorem d_cJ0_charAt_5068e_1 : decode cJ0_charAt_5068e 1 = .ok (.invokevirtual 492, 3) := by decide +kernel
theorem w_3_71 : (Jvm.Cond.methodLink "java/lang/String" (492 : Nat) ({ cls := "java/lang/String", name := "isLatin1", desc := "()Z" } : Jvm.MethodName)) ∈ gw := gw_3 71 rfl rfl
theorem w_3_74 : (Jvm.Cond.code ({ cls := "java/lang/String", name := "isLatin1", desc := "()Z" } : Jvm.MethodName) prog_34_method_154_code (1 : Nat) (Option.some Jvm.ClassFile.FieldType.boolean)) ∈ gw := gw_3 74 rfl rfl
theorem w_3_72 : (Jvm.Cond.instanceMethod ({ cls := "java/lang/String", name := "isLatin1", desc := "()Z" } : Jvm.MethodName)) ∈ gw := gw_3 72 rfl rfl
theorem w_3_73 : (Jvm.Cond.selects "java/lang/String" ({ cls := "java/lang/String", name := "isLatin1", desc := "()Z" } : Jvm.MethodName) ({ cls := "java/lang/String", name := "isLatin1", desc := "()Z" } : Jvm.MethodName)) ∈ gw := gw_3 73 rfl rfl
theorem d_cJ0_charAt_5068e_4 : decode cJ0_charAt_5068e 4 = .ok (.ifCond .eq 12, 3) := by decide +kernel
theorem d_cJ0_charAt_5068e_7 : decode cJ0_charAt_5068e 7 = .ok (.aload_n 0, 1) := by decide +kernel
theorem d_cJ0_charAt_5068e_8 : decode cJ0_charAt_5068e 8 = .ok (.getfield 9, 3) := by decide +kernel
theorem d_cJ0_charAt_5068e_11 : decode cJ0_charAt_5068e 11 = .ok (.iload_n 1, 1) := by decide +kernel
theorem d_cJ0_charAt_5068e_12 : decode cJ0_charAt_5068e 12 = .ok (.invokestatic 495, 3) := by decide +kernel
theorem w_3_75 : (Jvm.Cond.methodLink "java/lang/String" (495 : Nat) ({ cls := "java/lang/StringLatin1", name := "charAt", desc := "([BI)C" } : Jvm.MethodName)) ∈ gw := gw_3 75 rfl rfl
theorem w_1_28 : (Jvm.Cond.initialized "java/lang/StringLatin1") ∈ gw := gw_1 28 rfl rfl
theorem w_3_77 : (Jvm.Cond.code ({ cls := "java/lang/StringLatin1", name := "charAt", desc := "([BI)C" } : Jvm.MethodName) prog_37_method_2_code (2 : Nat) (Option.some Jvm.ClassFile.FieldType.char)) ∈ gw := gw_3 77 rfl rfl
theorem w_3_76 : (Jvm.Cond.static ({ cls := "java/lang/StringLatin1", name := "charAt", desc := "([BI)C" } : Jvm.MethodName)) ∈ gw := gw_3 76 rfl rfl
theorem d_cJ0_charAt_5068e_15 : decode cJ0_charAt_5068e 15 = .ok (.ireturn, 1) := by decide +kernel
theorem d_cX9_isWord_0 : decode cX9_isWord 0 = .ok (.aload_n 0, 1) := by decide +kernel
theorem d_cX9_isWord_1 : decode cX9_isWord 1 = .ok (.getfield 25, 3) := by decide +kernel
theorem d_cX9_isWord_4 : decode cX9_isWord 4 = .ok (.aload_n 0, 1) := by decide +kernel
theorem d_cX9_isWord_5 : decode cX9_isWord 5 = .ok (.getfield 22, 3) := by decide +kernel
theorem d_cX9_isWord_8 : decode cX9_isWord 8 = .ok (.isub, 1) := by decide +kernel
theorem d_cX9_isWord_9 : decode cX9_isWord 9 = .ok (.aload_n 1, 1) := by decide +kernel
theorem d_cX9_isWord_10 : decode cX9_isWord 10 = .ok (.invokevirtual 95, 3) := by decide +kernel
theorem w_3_57 : (Jvm.Cond.methodLink "SpillForge$Signs" (95 : Nat) ({ cls := "java/lang/String", name := "length", desc := "()I" } : Jvm.MethodName)) ∈ gw := gw_3 57 rfl rfl
theorem w_3_60 : (Jvm.Cond.code ({ cls := "java/lang/String", name := "length", desc := "()I" } : Jvm.MethodName) prog_34_method_54_code (1 : Nat) (Option.some Jvm.ClassFile.FieldType.int)) ∈ gw := gw_3 60 rfl rfl
theorem w_3_58 : (Jvm.Cond.instanceMethod ({ cls := "java/lang/String", name := "length", desc := "()I" } : Jvm.MethodName)) ∈ gw := gw_3 58 rfl rfl
theorem w_3_59 : (Jvm.Cond.selects "java/lang/String" ({ cls := "java/lang/String", name := "length", desc := "()I" } : Jvm.MethodName) ({ cls := "java/lang/String", name := "length", desc := "()I" } : Jvm.MethodName)) ∈ gw := gw_3 59 rfl rfl
theorem d_cX9_isWord_13 : decode cX9_isWord 13 = .ok (.if_icmp .eq 5, 3) := by decide +kernel
theorem d_cX9_isWord_18 : decode cX9_isWord 18 = .ok (.iconst 0, 1) := by decide +kernel
theorem d_cX9_isWord_19 : decode cX9_isWord 19 = .ok (.istore_n 2, 1) := by decide +kernel
theorem d_cX9_isWord_20 : decode cX9_isWord 20 = .ok (.iload_n 2, 1) := by decide +kernel
theorem d_cX9_isWord_21 : decode cX9_isWord 21 = .ok (.aload_n 1, 1) := by decide +kernel
theorem d_cX9_isWord_22 : decode cX9_isWord 22 = .ok (.invokevirtual 95, 3) := by decide +kernel
theorem d_cX9_isWord_25 : decode cX9_isWord 25 = .ok (.if_icmp .ge 32, 3) := by decide +kernel
theorem d_cX9_isWord_57 : decode cX9_isWord 57 = .ok (.iconst 1, 1) := by decide +kernel
theorem d_cX9_isWord_58 : decode cX9_isWord 58 = .ok (.ireturn, 1) := by decide +kernel
theorem d_cX9_isWord_28 : decode cX9_isWord 28 = .ok (.aload_n 0, 1) := by decide +kernel
theorem d_cX9_isWord_29 : decode cX9_isWord 29 = .ok (.getfield 9, 3) := by decide +kernel
theorem d_cX9_isWord_32 : decode cX9_isWord 32 = .ok (.aload_n 0, 1) := by decide +kernel
theorem d_cX9_isWord_33 : decode cX9_isWord 33 = .ok (.getfield 22, 3) := by decide +kernel
theorem d_cX9_isWord_36 : decode cX9_isWord 36 = .ok (.iload_n 2, 1) := by decide +kernel
theorem d_cX9_isWord_37 : decode cX9_isWord 37 = .ok (.iadd, 1) := by decide +kernel
theorem d_cX9_isWord_38 : decode cX9_isWord 38 = .ok (.invokevirtual 35, 3) := by decide +kernel
theorem d_cX9_isWord_41 : decode cX9_isWord 41 = .ok (.aload_n 1, 1) := by decide +kernel
theorem d_cX9_isWord_42 : decode cX9_isWord 42 = .ok (.iload_n 2, 1) := by decide +kernel
theorem d_cX9_isWord_43 : decode cX9_isWord 43 = .ok (.invokevirtual 100, 3) := by decide +kernel
theorem w_3_67 : (Jvm.Cond.methodLink "SpillForge$Signs" (100 : Nat) ({ cls := "java/lang/String", name := "charAt", desc := "(I)C" } : Jvm.MethodName)) ∈ gw := gw_3 67 rfl rfl
theorem w_3_70 : (Jvm.Cond.code ({ cls := "java/lang/String", name := "charAt", desc := "(I)C" } : Jvm.MethodName) prog_34_method_56_code (2 : Nat) (Option.some Jvm.ClassFile.FieldType.char)) ∈ gw := gw_3 70 rfl rfl
theorem w_3_68 : (Jvm.Cond.instanceMethod ({ cls := "java/lang/String", name := "charAt", desc := "(I)C" } : Jvm.MethodName)) ∈ gw := gw_3 68 rfl rfl
theorem w_3_69 : (Jvm.Cond.selects "java/lang/String" ({ cls := "java/lang/String", name := "charAt", desc := "(I)C" } : Jvm.MethodName) ({ cls := "java/lang/String", name := "charAt", desc := "(I)C" } : Jvm.MethodName)) ∈ gw := gw_3 69 rfl rfl
theorem d_cX9_isWord_46 : decode cX9_isWord 46 = .ok (.if_icmp .eq 5, 3) := by decide +kernel
theorem d_cX9_isWord_51 : decode cX9_isWord 51 = .ok (.iinc 2 1, 3) := by decide +kernel
theorem d_cX9_isWord_54 : decode cX9_isWord 54 = .ok (.goto (-34), 3) := by decide +kernel
theorem d_cX9_isWord_49 : decode cX9_isWord 49 = .ok (.iconst 0, 1) := by decide +kernel
theorem d_cX9_isWord_50 : decode cX9_isWord 50 = .ok (.ireturn, 1) := by decide +kernel
theorem d_cX9_isWord_16 : decode cX9_isWord 16 = .ok (.iconst 0, 1) := by decide +kernel
theorem d_cX9_isWord_17 : decode cX9_isWord 17 = .ok (.ireturn, 1) := by decide +kernel
theorem d_cX9_takeWord_0 : decode cX9_takeWord 0 = .ok (.aload_n 0, 1) := by decide +kernel
theorem d_cX9_takeWord_1 : decode cX9_takeWord 1 = .ok (.getfield 22, 3) := by decide +kernel
theorem d_cX9_takeWord_4 : decode cX9_takeWord 4 = .ok (.istore_n 1, 1) := by decide +kernel
theorem d_cX9_takeWord_5 : decode cX9_takeWord 5 = .ok (.iload_n 1, 1) := by decide +kernel
theorem d_cX9_takeWord_6 : decode cX9_takeWord 6 = .ok (.aload_n 0, 1) := by decide +kernel
theorem d_cX9_takeWord_7 : decode cX9_takeWord 7 = .ok (.getfield 9, 3) := by decide +kernel
theorem d_cX9_takeWord_10 : decode cX9_takeWord 10 = .ok (.invokevirtual 61, 3) := by decide +kernel
theorem d_cX9_takeWord_13 : decode cX9_takeWord 13 = .ok (.if_icmp .ge 23, 3) := by decide +kernel
theorem d_cX9_takeWord_36 : decode cX9_takeWord 36 = .ok (.aload_n 0, 1) := by decide +kernel
theorem d_cX9_takeWord_37 : decode cX9_takeWord 37 = .ok (.iload_n 1, 1) := by decide +kernel
theorem d_cX9_takeWord_38 : decode cX9_takeWord 38 = .ok (.putfield 25, 3) := by decide +kernel
theorem d_cX9_takeWord_41 : decode cX9_takeWord 41 = .ok (.aload_n 0, 1) := by decide +kernel
theorem d_cX9_takeWord_42 : decode cX9_takeWord 42 = .ok (.aload_n 0, 1) := by decide +kernel
theorem d_cX9_takeWord_43 : decode cX9_takeWord 43 = .ok (.ldc 81, 2) := by decide +kernel
theorem d_cX9_takeWord_45 : decode cX9_takeWord 45 = .ok (.invokevirtual 83, 3) := by decide +kernel
theorem w_3_53 : (Jvm.Cond.methodLink "SpillForge$Signs" (83 : Nat) ({ cls := "SpillForge$Signs", name := "isWord", desc := "(Ljava/lang/String;)Z" } : Jvm.MethodName)) ∈ gw := gw_3 53 rfl rfl
theorem w_3_56 : (Jvm.Cond.code ({ cls := "SpillForge$Signs", name := "isWord", desc := "(Ljava/lang/String;)Z" } : Jvm.MethodName) prog_11_method_12_code (3 : Nat) (Option.some Jvm.ClassFile.FieldType.boolean)) ∈ gw := gw_3 56 rfl rfl
theorem w_3_55 : (Jvm.Cond.instanceMethod ({ cls := "SpillForge$Signs", name := "isWord", desc := "(Ljava/lang/String;)Z" } : Jvm.MethodName)) ∈ gw := gw_3 55 rfl rfl
theorem w_p_5 : Cond.selects "SpillForge$Signs" ⟨"SpillForge$Signs", "isWord", "(Ljava/lang/String;)Z"⟩ ⟨"SpillForge$Signs", "isWord", "(Ljava/lang/String;)Z"⟩ ∈ gw := gw_p _ 5 rfl rfl rfl
theorem d_cX9_takeWord_48 : decode cX9_takeWord 48 = .ok (.ifCond .eq 8, 3) := by decide +kernel
theorem d_cX9_takeWord_56 : decode cX9_takeWord 56 = .ok (.aload_n 0, 1) := by decide +kernel
theorem d_cX9_takeWord_57 : decode cX9_takeWord 57 = .ok (.ldc 87, 2) := by decide +kernel
theorem d_cX9_takeWord_59 : decode cX9_takeWord 59 = .ok (.invokevirtual 83, 3) := by decide +kernel
theorem d_cX9_takeWord_62 : decode cX9_takeWord 62 = .ok (.ifCond .eq 8, 3) := by decide +kernel
theorem d_cX9_takeWord_70 : decode cX9_takeWord 70 = .ok (.aload_n 0, 1) := by decide +kernel
theorem d_cX9_takeWord_71 : decode cX9_takeWord 71 = .ok (.ldc 89, 2) := by decide +kernel
theorem d_cX9_takeWord_73 : decode cX9_takeWord 73 = .ok (.invokevirtual 83, 3) := by decide +kernel
theorem d_cX9_takeWord_76 : decode cX9_takeWord 76 = .ok (.ifCond .eq 8, 3) := by decide +kernel
theorem d_cX9_takeWord_84 : decode cX9_takeWord 84 = .ok (.aload_n 0, 1) := by decide +kernel
theorem d_cX9_takeWord_85 : decode cX9_takeWord 85 = .ok (.ldc 91, 2) := by decide +kernel
theorem d_cX9_takeWord_87 : decode cX9_takeWord 87 = .ok (.invokevirtual 83, 3) := by decide +kernel
theorem d_cX9_takeWord_90 : decode cX9_takeWord 90 = .ok (.ifCond .eq 8, 3) := by decide +kernel
theorem d_cX9_takeWord_98 : decode cX9_takeWord 98 = .ok (.aload_n 0, 1) := by decide +kernel
theorem d_cX9_takeWord_99 : decode cX9_takeWord 99 = .ok (.ldc 93, 2) := by decide +kernel
theorem d_cX9_takeWord_101 : decode cX9_takeWord 101 = .ok (.invokevirtual 83, 3) := by decide +kernel
theorem d_cX9_takeWord_104 : decode cX9_takeWord 104 = .ok (.ifCond .eq 8, 3) := by decide +kernel
theorem d_cX9_takeWord_112 : decode cX9_takeWord 112 = .ok (.iconst 0, 1) := by decide +kernel
theorem d_cX9_takeWord_113 : decode cX9_takeWord 113 = .ok (.putfield 15, 3) := by decide +kernel
theorem d_cX9_takeWord_116 : decode cX9_takeWord 116 = .ok (.return_, 1) := by decide +kernel
theorem d_cX9_takeWord_107 : decode cX9_takeWord 107 = .ok (.bipush 12, 2) := by decide +kernel
theorem d_cX9_takeWord_109 : decode cX9_takeWord 109 = .ok (.goto 4, 3) := by decide +kernel
theorem d_cX9_takeWord_93 : decode cX9_takeWord 93 = .ok (.bipush 11, 2) := by decide +kernel
theorem d_cX9_takeWord_95 : decode cX9_takeWord 95 = .ok (.goto 18, 3) := by decide +kernel
theorem d_cX9_takeWord_79 : decode cX9_takeWord 79 = .ok (.bipush 10, 2) := by decide +kernel
theorem d_cX9_takeWord_81 : decode cX9_takeWord 81 = .ok (.goto 32, 3) := by decide +kernel
theorem d_cX9_takeWord_65 : decode cX9_takeWord 65 = .ok (.bipush 9, 2) := by decide +kernel
theorem d_cX9_takeWord_67 : decode cX9_takeWord 67 = .ok (.goto 46, 3) := by decide +kernel
theorem d_cX9_takeWord_51 : decode cX9_takeWord 51 = .ok (.bipush 8, 2) := by decide +kernel
theorem d_cX9_takeWord_53 : decode cX9_takeWord 53 = .ok (.goto 60, 3) := by decide +kernel
theorem d_cX9_takeWord_16 : decode cX9_takeWord 16 = .ok (.aload_n 0, 1) := by decide +kernel
theorem d_cX9_takeWord_17 : decode cX9_takeWord 17 = .ok (.getfield 9, 3) := by decide +kernel
theorem d_cX9_takeWord_20 : decode cX9_takeWord 20 = .ok (.iload_n 1, 1) := by decide +kernel
theorem d_cX9_takeWord_21 : decode cX9_takeWord 21 = .ok (.invokevirtual 35, 3) := by decide +kernel
theorem d_cX9_takeWord_24 : decode cX9_takeWord 24 = .ok (.invokestatic 52, 3) := by decide +kernel
theorem w_3_45 : (Jvm.Cond.methodLink "SpillForge$Signs" (52 : Nat) ({ cls := "SpillForge$Signs", name := "isLetter", desc := "(I)Z" } : Jvm.MethodName)) ∈ gw := gw_3 45 rfl rfl
theorem w_3_47 : (Jvm.Cond.code ({ cls := "SpillForge$Signs", name := "isLetter", desc := "(I)Z" } : Jvm.MethodName) prog_11_method_16_code (1 : Nat) (Option.some Jvm.ClassFile.FieldType.boolean)) ∈ gw := gw_3 47 rfl rfl
theorem w_3_46 : (Jvm.Cond.static ({ cls := "SpillForge$Signs", name := "isLetter", desc := "(I)Z" } : Jvm.MethodName)) ∈ gw := gw_3 46 rfl rfl
theorem d_cX9_takeWord_27 : decode cX9_takeWord 27 = .ok (.ifCond .eq 9, 3) := by decide +kernel
theorem d_cX9_takeWord_30 : decode cX9_takeWord 30 = .ok (.iinc 1 1, 3) := by decide +kernel
theorem d_cX9_takeWord_33 : decode cX9_takeWord 33 = .ok (.goto (-28), 3) := by decide +kernel
abbrev ky_2773_Machine_perform : gKey := (cX7_perform, 4, yX7_perform.cls, none, [], yX7_perform.name, fun _ _ => True)
abbrev po_2773_Machine_perform (I : FieldType → ClassId) (q2734 : Nat) (q2735 : Nat) (q2736 : Nat) (q2737 : Nat) (q2738 : Nat) (q2739 : Nat) (q2740 : Nat) (q2741 : Nat) (q2742 : Nat) (q2743 : Nat) (q2744 : Nat) (q2745 : Nat) (q2746 : Nat) (q2747 : Nat) (q2748 : Nat) (p2749 : Int32) (p2750 : Int32) (p2751 : Int32) (p2752 : Int32) (p2753 : Int32) (p2754 : Int32) (p2755 : Int32) (p2756 : Int32) (p2757 : Int32) (p2758 : Int32) (p2759 : Int32) (f2760 : Nat → Int32) (f2761 : Nat → Int32) (f2762 : Nat → Int32) (f2763 : Nat → Int32) (f2764 : Nat → Int32) (f2765 : Nat → Int32) (f2766 : Nat → Int32) (f2767 : Nat → Int32) (f2768 : Nat → Int32) (f2769 : Nat → Int32) (f2770 : Nat → Int32) (f2771 : Nat → Int32) (f2772 : Nat → Int32) : Option Value → va_W → Prop := fun r w => ∃ (o3885 : Int32) (o3886 : Int32) (o3887 : Int32) (o3888 : Int32) (o3889 : Int32) (o3890 : Int32) (f3891 : Nat → Int32) (f3892 : Nat → Int32) (f3893 : Nat → Int32), r = none ∧ w = [(q2734, .inr (12, [.ref q2736, .ref q2737, .ref q2738, .ref q2739, .int p2750, .int o3885, .int o3886, .int o3887, .int o3888, .int o3889, .int o3890])), (q2735, .inr (5, [.ref q2740, .ref q2741, .ref q2742, .ref q2743, .ref q2744, .ref q2745, .ref q2746, .ref q2747, .ref q2748, .int p2757, .int p2758, .int p2759])), (q2736, .inl (I .int, 2048, .inl f2760)), (q2737, .inl (I .int, 100, .inl f3891)), (q2738, .inl (I .int, 100, .inl f3892)), (q2739, .inl (I .int, 512, .inl f3893)), (q2740, .inl (I .int, 40, .inl f2764)), (q2741, .inl (I .int, 40, .inl f2765)), (q2742, .inl (I .int, 40, .inl f2766)), (q2743, .inl (I .int, 200, .inl f2767)), (q2744, .inl (I .int, 200, .inl f2768)), (q2745, .inl (I .int, 200, .inl f2769)), (q2746, .inl (I .int, 200, .inl f2770)), (q2747, .inl (I .int, 200, .inl f2771)), (q2748, .inl (I .int, 200, .inl f2772))] ∧ gB o3885 0 39 ∧ gB o3886 (-2147483648) 2147483647 ∧ gB o3887 0 512 ∧ gB o3888 0 100000 ∧ gB o3889 0 2048 ∧ gB o3890 (-2147483648) 2147483647 ∧ gF f3891 (-2147483648) 2147483647 ∧ gF f3892 (-2147483648) 2147483647 ∧ gF f3893 (-2147483648) 2147483647 ∧ tr_Machine_perform p2749 p2750 p2757 p2758 f2760 f2761 f2762 f2763 f2764 f2765 f2766 f2767 f2768 f2769 f2770 f2771 f2772 o3885 o3886 o3887 o3888 o3889 o3890 f3891 f3892 f3893
set_option maxRecDepth 100000 in
set_option maxHeartbeats 4000000 in
theorem ct_2773_Machine_perform (l : Launch) (hl0 : l.stackTraces = false) (D : va_G) (I : FieldType → ClassId) (q2734 : Nat) (q2735 : Nat) (q2736 : Nat) (q2737 : Nat) (q2738 : Nat) (q2739 : Nat) (q2740 : Nat) (q2741 : Nat) (q2742 : Nat) (q2743 : Nat) (q2744 : Nat) (q2745 : Nat) (q2746 : Nat) (q2747 : Nat) (q2748 : Nat) (p2749 : Int32) (p2750 : Int32) (p2751 : Int32) (p2752 : Int32) (p2753 : Int32) (p2754 : Int32) (p2755 : Int32) (p2756 : Int32) (p2757 : Int32) (p2758 : Int32) (p2759 : Int32) (f2760 : Nat → Int32) (f2761 : Nat → Int32) (f2762 : Nat → Int32) (f2763 : Nat → Int32) (f2764 : Nat → Int32) (f2765 : Nat → Int32) (f2766 : Nat → Int32) (f2767 : Nat → Int32) (f2768 : Nat → Int32) (f2769 : Nat → Int32) (f2770 : Nat → Int32) (f2771 : Nat → Int32) (f2772 : Nat → Int32) (bp2749 : gB p2749 1 100000) (bp2750 : gB p2750 0 2048) (bp2751 : gB p2751 0 39) (bp2753 : gB p2753 0 512) (bp2755 : gB p2755 0 2048) (bp2757 : gB p2757 0 40) (bp2758 : gB p2758 0 200) (bp2759 : gB p2759 0 1) (bf2764 : gF f2764 0 200) (bf2767 : gF f2767 0 21) : Ct (gV D I) l yX7_perform cX7_perform 4 none 3 68 0 0 [.ref q2734, .ref q2735, .int p2749] [(q2734, .inr (12, [.ref q2736, .ref q2737, .ref q2738, .ref q2739, .int p2750, .int p2751, .int p2752, .int p2753, .int p2754, .int p2755, .int p2756])), (q2735, .inr (5, [.ref q2740, .ref q2741, .ref q2742, .ref q2743, .ref q2744, .ref q2745, .ref q2746, .ref q2747, .ref q2748, .int p2757, .int p2758, .int p2759])), (q2736, .inl (I .int, 2048, .inl f2760)), (q2737, .inl (I .int, 100, .inl f2761)), (q2738, .inl (I .int, 100, .inl f2762)), (q2739, .inl (I .int, 512, .inl f2763)), (q2740, .inl (I .int, 40, .inl f2764)), (q2741, .inl (I .int, 40, .inl f2765)), (q2742, .inl (I .int, 40, .inl f2766)), (q2743, .inl (I .int, 200, .inl f2767)), (q2744, .inl (I .int, 200, .inl f2768)), (q2745, .inl (I .int, 200, .inl f2769)), (q2746, .inl (I .int, 200, .inl f2770)), (q2747, .inl (I .int, 200, .inl f2771)), (q2748, .inl (I .int, 200, .inl f2772))] (po_2773_Machine_perform I q2734 q2735 q2736 q2737 q2738 q2739 q2740 q2741 q2742 q2743 q2744 q2745 q2746 q2747 q2748 p2749 p2750 p2751 p2752 p2753 p2754 p2755 p2756 p2757 p2758 p2759 f2760 f2761 f2762 f2763 f2764 f2765 f2766 f2767 f2768 f2769 f2770 f2771 f2772) gN := by
  refine Ct_of hl0 (by decide) (Nat.le_of_ble_eq_true rfl) ?_
  have bp2752 := gB_any p2752
  have bp2754 := gB_any p2754
  have bp2756 := gB_any p2756
  refine G_aload_n 0 d_cX7_perform_0 rfl ?_
  refine G_getf 0 1 d_cX7_perform_1 rfl (gk_X7 D I) (Nat.le_of_ble_eq_true rfl) w_2_161 rfl ?_
  refine G_iconst 0 d_cX7_perform_4 (by decide +kernel) ?_
  refine G_callS (As := [.ref q2737, .int 0]) (wr := [(q2734, .inr (12, [.ref q2736, .ref q2737, .ref q2738, .ref q2739, .int p2750, .int p2751, .int p2752, .int p2753, .int p2754, .int p2755, .int p2756])), (q2735, .inr (5, [.ref q2740, .ref q2741, .ref q2742, .ref q2743, .ref q2744, .ref q2745, .ref q2746, .ref q2747, .ref q2748, .int p2757, .int p2758, .int p2759])), (q2736, .inl (I .int, 2048, .inl f2760)), (q2738, .inl (I .int, 100, .inl f2762)), (q2739, .inl (I .int, 512, .inl f2763)), (q2740, .inl (I .int, 40, .inl f2764)), (q2741, .inl (I .int, 40, .inl f2765)), (q2742, .inl (I .int, 40, .inl f2766)), (q2743, .inl (I .int, 200, .inl f2767)), (q2744, .inl (I .int, 200, .inl f2768)), (q2745, .inl (I .int, 200, .inl f2769)), (q2746, .inl (I .int, 200, .inl f2770)), (q2747, .inl (I .int, 200, .inl f2771)), (q2748, .inl (I .int, 200, .inl f2772))]) (gV_ok D I) (ct_2777_Arrays_fill l hl0 D I q2737 0 f2761 ) d_cX7_perform_5 ⟨w_6_73, w_1_30, w_3_239, by decide, rfl, (Nat.le_of_ble_eq_true rfl), (Nat.le_of_ble_eq_true rfl)⟩ w_3_238 [3] [0, 1, 2, 4, 5, 6, 7, 8, 9, 10, 11, 12, 13, 14] rfl rfl rfl rfl (by decide) (Nat.le_of_ble_eq_true rfl) (Nat.le_of_ble_eq_true rfl) (Nat.le_of_ble_eq_true rfl) (fun r w hp => ?_) (fun _ _ _ z => z.elim)
  obtain ⟨f2814, rfl, rfl, bf2814, ht2815⟩ := hp
  change G _ _ _ _ _ _ _ _ _ _ _
  refine G_ws (ws' := [(q2734, .inr (12, [.ref q2736, .ref q2737, .ref q2738, .ref q2739, .int p2750, .int p2751, .int p2752, .int p2753, .int p2754, .int p2755, .int p2756])), (q2735, .inr (5, [.ref q2740, .ref q2741, .ref q2742, .ref q2743, .ref q2744, .ref q2745, .ref q2746, .ref q2747, .ref q2748, .int p2757, .int p2758, .int p2759])), (q2736, .inl (I .int, 2048, .inl f2760)), (q2738, .inl (I .int, 100, .inl f2762)), (q2739, .inl (I .int, 512, .inl f2763)), (q2740, .inl (I .int, 40, .inl f2764)), (q2741, .inl (I .int, 40, .inl f2765)), (q2742, .inl (I .int, 40, .inl f2766)), (q2743, .inl (I .int, 200, .inl f2767)), (q2744, .inl (I .int, 200, .inl f2768)), (q2745, .inl (I .int, 200, .inl f2769)), (q2746, .inl (I .int, 200, .inl f2770)), (q2747, .inl (I .int, 200, .inl f2771)), (q2748, .inl (I .int, 200, .inl f2772)), (q2737, .inl (I .int, 100, .inl f2814))]) (cs' := 0) (sl' := 0) rfl rfl rfl ?_
  refine G_aload_n 0 d_cX7_perform_8 rfl ?_
  refine G_getf 0 2 d_cX7_perform_9 rfl (gk_X7 D I) (Nat.le_of_ble_eq_true rfl) w_2_162 rfl ?_
  refine G_iconst 0 d_cX7_perform_12 (by decide +kernel) ?_
  refine G_callS (As := [.ref q2738, .int 0]) (wr := [(q2734, .inr (12, [.ref q2736, .ref q2737, .ref q2738, .ref q2739, .int p2750, .int p2751, .int p2752, .int p2753, .int p2754, .int p2755, .int p2756])), (q2735, .inr (5, [.ref q2740, .ref q2741, .ref q2742, .ref q2743, .ref q2744, .ref q2745, .ref q2746, .ref q2747, .ref q2748, .int p2757, .int p2758, .int p2759])), (q2736, .inl (I .int, 2048, .inl f2760)), (q2739, .inl (I .int, 512, .inl f2763)), (q2740, .inl (I .int, 40, .inl f2764)), (q2741, .inl (I .int, 40, .inl f2765)), (q2742, .inl (I .int, 40, .inl f2766)), (q2743, .inl (I .int, 200, .inl f2767)), (q2744, .inl (I .int, 200, .inl f2768)), (q2745, .inl (I .int, 200, .inl f2769)), (q2746, .inl (I .int, 200, .inl f2770)), (q2747, .inl (I .int, 200, .inl f2771)), (q2748, .inl (I .int, 200, .inl f2772)), (q2737, .inl (I .int, 100, .inl f2814))]) (gV_ok D I) (ct_2777_Arrays_fill l hl0 D I q2738 0 f2762 ) d_cX7_perform_13 ⟨w_6_73, w_1_30, w_3_239, by decide, rfl, (Nat.le_of_ble_eq_true rfl), (Nat.le_of_ble_eq_true rfl)⟩ w_3_238 [3] [0, 1, 2, 4, 5, 6, 7, 8, 9, 10, 11, 12, 13, 14] rfl rfl rfl rfl (by decide) (Nat.le_of_ble_eq_true rfl) (Nat.le_of_ble_eq_true rfl) (Nat.le_of_ble_eq_true rfl) (fun r w hp => ?_) (fun _ _ _ z => z.elim)
  obtain ⟨f2816, rfl, rfl, bf2816, ht2817⟩ := hp
  change G _ _ _ _ _ _ _ _ _ _ _
  refine G_ws (ws' := [(q2734, .inr (12, [.ref q2736, .ref q2737, .ref q2738, .ref q2739, .int p2750, .int p2751, .int p2752, .int p2753, .int p2754, .int p2755, .int p2756])), (q2735, .inr (5, [.ref q2740, .ref q2741, .ref q2742, .ref q2743, .ref q2744, .ref q2745, .ref q2746, .ref q2747, .ref q2748, .int p2757, .int p2758, .int p2759])), (q2736, .inl (I .int, 2048, .inl f2760)), (q2739, .inl (I .int, 512, .inl f2763)), (q2740, .inl (I .int, 40, .inl f2764)), (q2741, .inl (I .int, 40, .inl f2765)), (q2742, .inl (I .int, 40, .inl f2766)), (q2743, .inl (I .int, 200, .inl f2767)), (q2744, .inl (I .int, 200, .inl f2768)), (q2745, .inl (I .int, 200, .inl f2769)), (q2746, .inl (I .int, 200, .inl f2770)), (q2747, .inl (I .int, 200, .inl f2771)), (q2748, .inl (I .int, 200, .inl f2772)), (q2737, .inl (I .int, 100, .inl f2814)), (q2738, .inl (I .int, 100, .inl f2816))]) (cs' := 0) (sl' := 0) rfl rfl rfl ?_
  refine G_aload_n 0 d_cX7_perform_16 rfl ?_
  refine G_iconst 0 d_cX7_perform_17 (by decide +kernel) ?_
  refine G_putf (ws' := [(q2734, .inr (12, [.ref q2736, .ref q2737, .ref q2738, .ref q2739, .int p2750, .int 0, .int p2752, .int p2753, .int p2754, .int p2755, .int p2756])), (q2735, .inr (5, [.ref q2740, .ref q2741, .ref q2742, .ref q2743, .ref q2744, .ref q2745, .ref q2746, .ref q2747, .ref q2748, .int p2757, .int p2758, .int p2759])), (q2736, .inl (I .int, 2048, .inl f2760)), (q2739, .inl (I .int, 512, .inl f2763)), (q2740, .inl (I .int, 40, .inl f2764)), (q2741, .inl (I .int, 40, .inl f2765)), (q2742, .inl (I .int, 40, .inl f2766)), (q2743, .inl (I .int, 200, .inl f2767)), (q2744, .inl (I .int, 200, .inl f2768)), (q2745, .inl (I .int, 200, .inl f2769)), (q2746, .inl (I .int, 200, .inl f2770)), (q2747, .inl (I .int, 200, .inl f2771)), (q2748, .inl (I .int, 200, .inl f2772)), (q2737, .inl (I .int, 100, .inl f2814)), (q2738, .inl (I .int, 100, .inl f2816))]) 0 5 d_cX7_perform_18 rfl (gk_X7 D I) (Nat.le_of_ble_eq_true rfl) w_2_165 rfl rfl rfl (Nat.le_of_ble_eq_true rfl) rfl ?_
  refine G_aload_n 0 d_cX7_perform_21 rfl ?_
  refine G_iconst 0 d_cX7_perform_22 (by decide +kernel) ?_
  refine G_putf (ws' := [(q2734, .inr (12, [.ref q2736, .ref q2737, .ref q2738, .ref q2739, .int p2750, .int 0, .int 0, .int p2753, .int p2754, .int p2755, .int p2756])), (q2735, .inr (5, [.ref q2740, .ref q2741, .ref q2742, .ref q2743, .ref q2744, .ref q2745, .ref q2746, .ref q2747, .ref q2748, .int p2757, .int p2758, .int p2759])), (q2736, .inl (I .int, 2048, .inl f2760)), (q2739, .inl (I .int, 512, .inl f2763)), (q2740, .inl (I .int, 40, .inl f2764)), (q2741, .inl (I .int, 40, .inl f2765)), (q2742, .inl (I .int, 40, .inl f2766)), (q2743, .inl (I .int, 200, .inl f2767)), (q2744, .inl (I .int, 200, .inl f2768)), (q2745, .inl (I .int, 200, .inl f2769)), (q2746, .inl (I .int, 200, .inl f2770)), (q2747, .inl (I .int, 200, .inl f2771)), (q2748, .inl (I .int, 200, .inl f2772)), (q2737, .inl (I .int, 100, .inl f2814)), (q2738, .inl (I .int, 100, .inl f2816))]) 0 6 d_cX7_perform_23 rfl (gk_X7 D I) (Nat.le_of_ble_eq_true rfl) w_2_166 rfl rfl rfl (Nat.le_of_ble_eq_true rfl) rfl ?_
  refine G_aload_n 0 d_cX7_perform_26 rfl ?_
  refine G_iconst 0 d_cX7_perform_27 (by decide +kernel) ?_
  refine G_putf (ws' := [(q2734, .inr (12, [.ref q2736, .ref q2737, .ref q2738, .ref q2739, .int p2750, .int 0, .int 0, .int 0, .int p2754, .int p2755, .int p2756])), (q2735, .inr (5, [.ref q2740, .ref q2741, .ref q2742, .ref q2743, .ref q2744, .ref q2745, .ref q2746, .ref q2747, .ref q2748, .int p2757, .int p2758, .int p2759])), (q2736, .inl (I .int, 2048, .inl f2760)), (q2739, .inl (I .int, 512, .inl f2763)), (q2740, .inl (I .int, 40, .inl f2764)), (q2741, .inl (I .int, 40, .inl f2765)), (q2742, .inl (I .int, 40, .inl f2766)), (q2743, .inl (I .int, 200, .inl f2767)), (q2744, .inl (I .int, 200, .inl f2768)), (q2745, .inl (I .int, 200, .inl f2769)), (q2746, .inl (I .int, 200, .inl f2770)), (q2747, .inl (I .int, 200, .inl f2771)), (q2748, .inl (I .int, 200, .inl f2772)), (q2737, .inl (I .int, 100, .inl f2814)), (q2738, .inl (I .int, 100, .inl f2816))]) 0 7 d_cX7_perform_28 rfl (gk_X7 D I) (Nat.le_of_ble_eq_true rfl) w_2_167 rfl rfl rfl (Nat.le_of_ble_eq_true rfl) rfl ?_
  refine G_aload_n 0 d_cX7_perform_31 rfl ?_
  refine G_iconst 0 d_cX7_perform_32 (by decide +kernel) ?_
  refine G_putf (ws' := [(q2734, .inr (12, [.ref q2736, .ref q2737, .ref q2738, .ref q2739, .int p2750, .int 0, .int 0, .int 0, .int p2754, .int 0, .int p2756])), (q2735, .inr (5, [.ref q2740, .ref q2741, .ref q2742, .ref q2743, .ref q2744, .ref q2745, .ref q2746, .ref q2747, .ref q2748, .int p2757, .int p2758, .int p2759])), (q2736, .inl (I .int, 2048, .inl f2760)), (q2739, .inl (I .int, 512, .inl f2763)), (q2740, .inl (I .int, 40, .inl f2764)), (q2741, .inl (I .int, 40, .inl f2765)), (q2742, .inl (I .int, 40, .inl f2766)), (q2743, .inl (I .int, 200, .inl f2767)), (q2744, .inl (I .int, 200, .inl f2768)), (q2745, .inl (I .int, 200, .inl f2769)), (q2746, .inl (I .int, 200, .inl f2770)), (q2747, .inl (I .int, 200, .inl f2771)), (q2748, .inl (I .int, 200, .inl f2772)), (q2737, .inl (I .int, 100, .inl f2814)), (q2738, .inl (I .int, 100, .inl f2816))]) 0 9 d_cX7_perform_33 rfl (gk_X7 D I) (Nat.le_of_ble_eq_true rfl) w_2_169 rfl rfl rfl (Nat.le_of_ble_eq_true rfl) rfl ?_
  refine G_aload_n 0 d_cX7_perform_36 rfl ?_
  refine G_bipush (-2) d_cX7_perform_37 (by decide +kernel) ?_
  refine G_putf (ws' := [(q2734, .inr (12, [.ref q2736, .ref q2737, .ref q2738, .ref q2739, .int p2750, .int 0, .int 0, .int 0, .int p2754, .int 0, .int (-2)])), (q2735, .inr (5, [.ref q2740, .ref q2741, .ref q2742, .ref q2743, .ref q2744, .ref q2745, .ref q2746, .ref q2747, .ref q2748, .int p2757, .int p2758, .int p2759])), (q2736, .inl (I .int, 2048, .inl f2760)), (q2739, .inl (I .int, 512, .inl f2763)), (q2740, .inl (I .int, 40, .inl f2764)), (q2741, .inl (I .int, 40, .inl f2765)), (q2742, .inl (I .int, 40, .inl f2766)), (q2743, .inl (I .int, 200, .inl f2767)), (q2744, .inl (I .int, 200, .inl f2768)), (q2745, .inl (I .int, 200, .inl f2769)), (q2746, .inl (I .int, 200, .inl f2770)), (q2747, .inl (I .int, 200, .inl f2771)), (q2748, .inl (I .int, 200, .inl f2772)), (q2737, .inl (I .int, 100, .inl f2814)), (q2738, .inl (I .int, 100, .inl f2816))]) 0 10 d_cX7_perform_39 rfl (gk_X7 D I) (Nat.le_of_ble_eq_true rfl) w_2_170 rfl rfl rfl (Nat.le_of_ble_eq_true rfl) rfl ?_
  refine G_iconst 0 d_cX7_perform_42 (by decide +kernel) ?_
  refine G_istore_n (L' := [(3, .int 0), (0, .ref q2734), (1, .ref q2735), (2, .int p2749)]) d_cX7_perform_43 (Nat.le_of_ble_eq_true rfl) rfl ?_
  refine G_aload_n 1 d_cX7_perform_44 rfl ?_
  refine G_iconst 0 d_cX7_perform_45 (by decide +kernel) ?_
  refine G_putf (ws' := [(q2734, .inr (12, [.ref q2736, .ref q2737, .ref q2738, .ref q2739, .int p2750, .int 0, .int 0, .int 0, .int 0, .int 0, .int (-2)])), (q2735, .inr (5, [.ref q2740, .ref q2741, .ref q2742, .ref q2743, .ref q2744, .ref q2745, .ref q2746, .ref q2747, .ref q2748, .int p2757, .int p2758, .int p2759])), (q2736, .inl (I .int, 2048, .inl f2760)), (q2739, .inl (I .int, 512, .inl f2763)), (q2740, .inl (I .int, 40, .inl f2764)), (q2741, .inl (I .int, 40, .inl f2765)), (q2742, .inl (I .int, 40, .inl f2766)), (q2743, .inl (I .int, 200, .inl f2767)), (q2744, .inl (I .int, 200, .inl f2768)), (q2745, .inl (I .int, 200, .inl f2769)), (q2746, .inl (I .int, 200, .inl f2770)), (q2747, .inl (I .int, 200, .inl f2771)), (q2748, .inl (I .int, 200, .inl f2772)), (q2737, .inl (I .int, 100, .inl f2814)), (q2738, .inl (I .int, 100, .inl f2816))]) 0 8 d_cX7_perform_46 rfl (gk_X7 D I) (Nat.le_of_ble_eq_true rfl) w_2_168 rfl rfl rfl (Nat.le_of_ble_eq_true rfl) rfl ?_
  have hlp49_3847 : ∀ (n49_3847 : Nat) (g3838 : Int32) (g3839 : Int32) (g3840 : Int32) (g3841 : Int32) (g3842 : Int32) (g3843 : Int32) (g3844 : Int32) (f3845 : Nat → Int32) (f3846 : Nat → Int32) (f3847 : Nat → Int32), gB g3838 (-1) 200 → gB g3839 0 100000 → gB g3840 (-2147483648) 2147483647 → gB g3841 0 39 → gB g3842 (-2147483648) 2147483647 → gB g3843 0 512 → gB g3844 0 2048 → gF f3845 (-2147483648) 2147483647 → gF f3846 (-2147483648) 2147483647 → gF f3847 (-2147483648) 2147483647 → (∀ (k : Nat) (e1 : Int32) (e2 : Int32) (e3 : Int32) (e4 : Int32) (e5 : Int32) (e6 : Int32) (e7 : Nat → Int32) (e8 : Nat → Int32) (e9 : Nat → Int32), tl_Machine_perform_49 p2749 p2758 p2750 p2757 f2760 f2764 f2765 f2766 f2767 f2768 f2769 f2770 f2771 f2772 g3838 g3839 g3840 g3841 g3842 g3843 g3844 f3845 f3846 f3847 k e1 e2 e3 e4 e5 e6 e7 e8 e9 → tl_Machine_perform_49 p2749 p2758 p2750 p2757 f2760 f2764 f2765 f2766 f2767 f2768 f2769 f2770 f2771 f2772 (0 : Int32) (0 : Int32) (-2 : Int32) (0 : Int32) (0 : Int32) (0 : Int32) (0 : Int32) f2763 f2814 f2816 k e1 e2 e3 e4 e5 e6 e7 e8 e9) → ((100001 : Int) - g3839.toInt).toNat < n49_3847 → G (gV D I) l (gRm 3 68 0 0) (gM (gV D I) (po_2773_Machine_perform I q2734 q2735 q2736 q2737 q2738 q2739 q2740 q2741 q2742 q2743 q2744 q2745 q2746 q2747 q2748 p2749 p2750 p2751 p2752 p2753 p2754 p2755 p2756 p2757 p2758 p2759 f2760 f2761 f2762 f2763 f2764 f2765 f2766 f2767 f2768 f2769 f2770 f2771 f2772) gN 0 0) ky_2773_Machine_perform 49 [(3, .int g3838), (0, .ref q2734), (1, .ref q2735), (2, .int p2749)] [] [(q2734, .inr (12, [.ref q2736, .ref q2737, .ref q2738, .ref q2739, .int p2750, .int g3841, .int g3842, .int g3843, .int g3839, .int g3844, .int g3840])), (q2735, .inr (5, [.ref q2740, .ref q2741, .ref q2742, .ref q2743, .ref q2744, .ref q2745, .ref q2746, .ref q2747, .ref q2748, .int p2757, .int p2758, .int p2759])), (q2736, .inl (I .int, 2048, .inl f2760)), (q2739, .inl (I .int, 512, .inl f3845)), (q2740, .inl (I .int, 40, .inl f2764)), (q2741, .inl (I .int, 40, .inl f2765)), (q2742, .inl (I .int, 40, .inl f2766)), (q2743, .inl (I .int, 200, .inl f2767)), (q2744, .inl (I .int, 200, .inl f2768)), (q2745, .inl (I .int, 200, .inl f2769)), (q2746, .inl (I .int, 200, .inl f2770)), (q2747, .inl (I .int, 200, .inl f2771)), (q2748, .inl (I .int, 200, .inl f2772)), (q2737, .inl (I .int, 100, .inl f3846)), (q2738, .inl (I .int, 100, .inl f3847))] 0 0 := by
    intro n49_3847
    induction n49_3847 with
    | zero => intro g3838 g3839 g3840 g3841 g3842 g3843 g3844 f3845 f3846 f3847 bg3838 bg3839 bg3840 bg3841 bg3842 bg3843 bg3844 bf3845 bf3846 bf3847 kt49_3847 hm49_3847; exact absurd hm49_3847 (Nat.not_lt_zero _)
    | succ n49_3847 ih49_3847 =>
      intro g3838 g3839 g3840 g3841 g3842 g3843 g3844 f3845 f3846 f3847 bg3838 bg3839 bg3840 bg3841 bg3842 bg3843 bg3844 bf3845 bf3846 bf3847 kt49_3847 hm49_3847
      refine G_aload_n 1 d_cX7_perform_49 rfl ?_
      refine G_getf 0 8 d_cX7_perform_50 rfl (gk_X7 D I) (Nat.le_of_ble_eq_true rfl) w_2_168 rfl ?_
      refine G_iload_n 3 d_cX7_perform_53 rfl ?_
      refine G_icmp_ge 106 d_cX7_perform_54 (by decide +kernel) (fun hc3848 => ?_) (fun hc3848 => ?_)
      · have r3849 : p2749.toInt ≤ g3839.toInt := gC_le hc3848
        have bg3839' : gB g3839 1 100000 := ⟨by omega, by omega⟩
        have hx3850 : tl_Machine_perform_49 p2749 p2758 p2750 p2757 f2760 f2764 f2765 f2766 f2767 f2768 f2769 f2770 f2771 f2772 (0 : Int32) (0 : Int32) (-2 : Int32) (0 : Int32) (0 : Int32) (0 : Int32) (0 : Int32) f2763 f2814 f2816 106 g3841 g3842 g3843 g3839 g3844 g3840 f3845 f3846 f3847 := kt49_3847 106 g3841 g3842 g3843 g3839 g3844 g3840 f3845 f3846 f3847 (fun R c1 c2 c3 c4 c5 => c1 g3838 g3839 g3840 g3841 g3842 g3843 g3844 f3845 f3846 f3847 bg3838 bg3839 bg3841 bg3843 bg3844 r3849)
        refine G_aload_n 1 d_cX7_perform_106 rfl ?_
        refine G_getf 0 10 d_cX7_perform_107 rfl (gk_X7 D I) (Nat.le_of_ble_eq_true rfl) w_2_170 rfl ?_
        refine G_bipush (-2) d_cX7_perform_110 (by decide +kernel) ?_
        refine G_icmp_ne 120 d_cX7_perform_112 (by decide +kernel) (fun hc3851 => ?_) (fun hc3851 => ?_)
        · have r3852 : g3840.toInt ≠ (-2) := gj_neq hc3851 (show Int32.toInt (-2) = (-2) by decide)
          refine G_sub (ws' := [(q2734, .inr (12, [.ref q2736, .ref q2737, .ref q2738, .ref q2739, .int p2750, .int g3841, .int g3842, .int g3843, .int g3839, .int g3844, .int g3840])), (q2735, .inr (5, [.ref q2740, .ref q2741, .ref q2742, .ref q2743, .ref q2744, .ref q2745, .ref q2746, .ref q2747, .ref q2748, .int p2757, .int p2758, .int p2759])), (q2736, .inl (I .int, 2048, .inl f2760)), (q2737, .inl (I .int, 100, .inl f3846)), (q2738, .inl (I .int, 100, .inl f3847)), (q2739, .inl (I .int, 512, .inl f3845)), (q2740, .inl (I .int, 40, .inl f2764)), (q2741, .inl (I .int, 40, .inl f2765)), (q2742, .inl (I .int, 40, .inl f2766)), (q2743, .inl (I .int, 200, .inl f2767)), (q2744, .inl (I .int, 200, .inl f2768)), (q2745, .inl (I .int, 200, .inl f2769)), (q2746, .inl (I .int, 200, .inl f2770)), (q2747, .inl (I .int, 200, .inl f2771)), (q2748, .inl (I .int, 200, .inl f2772))]) [0, 1, 2, 13, 14, 3, 4, 5, 6, 7, 8, 9, 10, 11, 12] rfl rfl ?_
          exact G_vret d_cX7_perform_120 rfl (Nat.le_of_ble_eq_true rfl) (Nat.le_of_ble_eq_true rfl) ⟨g3841, g3842, g3843, g3839, g3844, g3840, f3846, f3847, f3845, rfl, rfl, bg3841, bg3842, bg3843, (gB_w bg3839' (by decide) (by decide)), bg3844, bg3840, bf3846, bf3847, bf3845, (fun R c1 c2 => c1 f2814 f2816 g3841 g3842 g3843 g3839 g3844 g3840 f3845 f3846 f3847 ht2815 ht2817 hx3850 r3852)⟩
        · have r3853 : g3840.toInt = (-2) := gj_eq hc3851 (show Int32.toInt (-2) = (-2) by decide)
          have bg3840' : gB g3840 (-2) (-2) := ⟨by omega, by omega⟩
          refine G_aload_n 1 d_cX7_perform_115 rfl ?_
          refine G_iconst 4 d_cX7_perform_116 (by decide +kernel) ?_
          refine G_putf (ws' := [(q2734, .inr (12, [.ref q2736, .ref q2737, .ref q2738, .ref q2739, .int p2750, .int g3841, .int g3842, .int g3843, .int g3839, .int g3844, .int 4])), (q2735, .inr (5, [.ref q2740, .ref q2741, .ref q2742, .ref q2743, .ref q2744, .ref q2745, .ref q2746, .ref q2747, .ref q2748, .int p2757, .int p2758, .int p2759])), (q2736, .inl (I .int, 2048, .inl f2760)), (q2739, .inl (I .int, 512, .inl f3845)), (q2740, .inl (I .int, 40, .inl f2764)), (q2741, .inl (I .int, 40, .inl f2765)), (q2742, .inl (I .int, 40, .inl f2766)), (q2743, .inl (I .int, 200, .inl f2767)), (q2744, .inl (I .int, 200, .inl f2768)), (q2745, .inl (I .int, 200, .inl f2769)), (q2746, .inl (I .int, 200, .inl f2770)), (q2747, .inl (I .int, 200, .inl f2771)), (q2748, .inl (I .int, 200, .inl f2772)), (q2737, .inl (I .int, 100, .inl f3846)), (q2738, .inl (I .int, 100, .inl f3847))]) 0 10 d_cX7_perform_117 rfl (gk_X7 D I) (Nat.le_of_ble_eq_true rfl) w_2_170 rfl rfl rfl (Nat.le_of_ble_eq_true rfl) rfl ?_
          refine G_sub (ws' := [(q2734, .inr (12, [.ref q2736, .ref q2737, .ref q2738, .ref q2739, .int p2750, .int g3841, .int g3842, .int g3843, .int g3839, .int g3844, .int 4])), (q2735, .inr (5, [.ref q2740, .ref q2741, .ref q2742, .ref q2743, .ref q2744, .ref q2745, .ref q2746, .ref q2747, .ref q2748, .int p2757, .int p2758, .int p2759])), (q2736, .inl (I .int, 2048, .inl f2760)), (q2737, .inl (I .int, 100, .inl f3846)), (q2738, .inl (I .int, 100, .inl f3847)), (q2739, .inl (I .int, 512, .inl f3845)), (q2740, .inl (I .int, 40, .inl f2764)), (q2741, .inl (I .int, 40, .inl f2765)), (q2742, .inl (I .int, 40, .inl f2766)), (q2743, .inl (I .int, 200, .inl f2767)), (q2744, .inl (I .int, 200, .inl f2768)), (q2745, .inl (I .int, 200, .inl f2769)), (q2746, .inl (I .int, 200, .inl f2770)), (q2747, .inl (I .int, 200, .inl f2771)), (q2748, .inl (I .int, 200, .inl f2772))]) [0, 1, 2, 13, 14, 3, 4, 5, 6, 7, 8, 9, 10, 11, 12] rfl rfl ?_
          exact G_vret d_cX7_perform_120 rfl (Nat.le_of_ble_eq_true rfl) (Nat.le_of_ble_eq_true rfl) ⟨g3841, g3842, g3843, g3839, g3844, 4, f3846, f3847, f3845, rfl, rfl, bg3841, bg3842, bg3843, (gB_w bg3839' (by decide) (by decide)), bg3844, (gB_w (gBl (show Int32.toInt 4 = 4 by decide)) (by decide) (by decide)), bf3846, bf3847, bf3845, (fun R c1 c2 => c2 f2814 f2816 g3841 g3842 g3843 g3839 g3844 g3840 f3845 f3846 f3847 ht2815 ht2817 hx3850 r3853)⟩
      · have r3854 : g3839.toInt < p2749.toInt := gC_nle hc3848
        have bg3839' : gB g3839 0 99999 := ⟨by omega, by omega⟩
        refine G_aload_n 1 d_cX7_perform_57 rfl ?_
        refine G_getf 0 10 d_cX7_perform_58 rfl (gk_X7 D I) (Nat.le_of_ble_eq_true rfl) w_2_170 rfl ?_
        refine G_bipush (-2) d_cX7_perform_61 (by decide +kernel) ?_
        refine G_icmp_ne 106 d_cX7_perform_63 (by decide +kernel) (fun hc3855 => ?_) (fun hc3855 => ?_)
        · have r3856 : g3840.toInt ≠ (-2) := gj_neq hc3855 (show Int32.toInt (-2) = (-2) by decide)
          have hx3857 : tl_Machine_perform_49 p2749 p2758 p2750 p2757 f2760 f2764 f2765 f2766 f2767 f2768 f2769 f2770 f2771 f2772 (0 : Int32) (0 : Int32) (-2 : Int32) (0 : Int32) (0 : Int32) (0 : Int32) (0 : Int32) f2763 f2814 f2816 106 g3841 g3842 g3843 g3839 g3844 g3840 f3845 f3846 f3847 := kt49_3847 106 g3841 g3842 g3843 g3839 g3844 g3840 f3845 f3846 f3847 (fun R c1 c2 c3 c4 c5 => c2 g3838 g3839 g3840 g3841 g3842 g3843 g3844 f3845 f3846 f3847 bg3838 bg3839 bg3841 bg3843 bg3844 r3854 r3856)
          refine G_aload_n 1 d_cX7_perform_106 rfl ?_
          refine G_getf 0 10 d_cX7_perform_107 rfl (gk_X7 D I) (Nat.le_of_ble_eq_true rfl) w_2_170 rfl ?_
          refine G_bipush (-2) d_cX7_perform_110 (by decide +kernel) ?_
          refine G_icmp_ne 120 d_cX7_perform_112 (by decide +kernel) (fun hc3858 => ?_) (fun hc3858 => ?_)
          · have r3859 : g3840.toInt ≠ (-2) := gj_neq hc3858 (show Int32.toInt (-2) = (-2) by decide)
            refine G_sub (ws' := [(q2734, .inr (12, [.ref q2736, .ref q2737, .ref q2738, .ref q2739, .int p2750, .int g3841, .int g3842, .int g3843, .int g3839, .int g3844, .int g3840])), (q2735, .inr (5, [.ref q2740, .ref q2741, .ref q2742, .ref q2743, .ref q2744, .ref q2745, .ref q2746, .ref q2747, .ref q2748, .int p2757, .int p2758, .int p2759])), (q2736, .inl (I .int, 2048, .inl f2760)), (q2737, .inl (I .int, 100, .inl f3846)), (q2738, .inl (I .int, 100, .inl f3847)), (q2739, .inl (I .int, 512, .inl f3845)), (q2740, .inl (I .int, 40, .inl f2764)), (q2741, .inl (I .int, 40, .inl f2765)), (q2742, .inl (I .int, 40, .inl f2766)), (q2743, .inl (I .int, 200, .inl f2767)), (q2744, .inl (I .int, 200, .inl f2768)), (q2745, .inl (I .int, 200, .inl f2769)), (q2746, .inl (I .int, 200, .inl f2770)), (q2747, .inl (I .int, 200, .inl f2771)), (q2748, .inl (I .int, 200, .inl f2772))]) [0, 1, 2, 13, 14, 3, 4, 5, 6, 7, 8, 9, 10, 11, 12] rfl rfl ?_
            exact G_vret d_cX7_perform_120 rfl (Nat.le_of_ble_eq_true rfl) (Nat.le_of_ble_eq_true rfl) ⟨g3841, g3842, g3843, g3839, g3844, g3840, f3846, f3847, f3845, rfl, rfl, bg3841, bg3842, bg3843, (gB_w bg3839' (by decide) (by decide)), bg3844, bg3840, bf3846, bf3847, bf3845, (fun R c1 c2 => c1 f2814 f2816 g3841 g3842 g3843 g3839 g3844 g3840 f3845 f3846 f3847 ht2815 ht2817 hx3857 r3859)⟩
          · have r3860 : g3840.toInt = (-2) := gj_eq hc3858 (show Int32.toInt (-2) = (-2) by decide)
            have bg3840' : gB g3840 (-2) (-2) := ⟨by omega, by omega⟩
            refine G_aload_n 1 d_cX7_perform_115 rfl ?_
            refine G_iconst 4 d_cX7_perform_116 (by decide +kernel) ?_
            refine G_putf (ws' := [(q2734, .inr (12, [.ref q2736, .ref q2737, .ref q2738, .ref q2739, .int p2750, .int g3841, .int g3842, .int g3843, .int g3839, .int g3844, .int 4])), (q2735, .inr (5, [.ref q2740, .ref q2741, .ref q2742, .ref q2743, .ref q2744, .ref q2745, .ref q2746, .ref q2747, .ref q2748, .int p2757, .int p2758, .int p2759])), (q2736, .inl (I .int, 2048, .inl f2760)), (q2739, .inl (I .int, 512, .inl f3845)), (q2740, .inl (I .int, 40, .inl f2764)), (q2741, .inl (I .int, 40, .inl f2765)), (q2742, .inl (I .int, 40, .inl f2766)), (q2743, .inl (I .int, 200, .inl f2767)), (q2744, .inl (I .int, 200, .inl f2768)), (q2745, .inl (I .int, 200, .inl f2769)), (q2746, .inl (I .int, 200, .inl f2770)), (q2747, .inl (I .int, 200, .inl f2771)), (q2748, .inl (I .int, 200, .inl f2772)), (q2737, .inl (I .int, 100, .inl f3846)), (q2738, .inl (I .int, 100, .inl f3847))]) 0 10 d_cX7_perform_117 rfl (gk_X7 D I) (Nat.le_of_ble_eq_true rfl) w_2_170 rfl rfl rfl (Nat.le_of_ble_eq_true rfl) rfl ?_
            refine G_sub (ws' := [(q2734, .inr (12, [.ref q2736, .ref q2737, .ref q2738, .ref q2739, .int p2750, .int g3841, .int g3842, .int g3843, .int g3839, .int g3844, .int 4])), (q2735, .inr (5, [.ref q2740, .ref q2741, .ref q2742, .ref q2743, .ref q2744, .ref q2745, .ref q2746, .ref q2747, .ref q2748, .int p2757, .int p2758, .int p2759])), (q2736, .inl (I .int, 2048, .inl f2760)), (q2737, .inl (I .int, 100, .inl f3846)), (q2738, .inl (I .int, 100, .inl f3847)), (q2739, .inl (I .int, 512, .inl f3845)), (q2740, .inl (I .int, 40, .inl f2764)), (q2741, .inl (I .int, 40, .inl f2765)), (q2742, .inl (I .int, 40, .inl f2766)), (q2743, .inl (I .int, 200, .inl f2767)), (q2744, .inl (I .int, 200, .inl f2768)), (q2745, .inl (I .int, 200, .inl f2769)), (q2746, .inl (I .int, 200, .inl f2770)), (q2747, .inl (I .int, 200, .inl f2771)), (q2748, .inl (I .int, 200, .inl f2772))]) [0, 1, 2, 13, 14, 3, 4, 5, 6, 7, 8, 9, 10, 11, 12] rfl rfl ?_
            exact G_vret d_cX7_perform_120 rfl (Nat.le_of_ble_eq_true rfl) (Nat.le_of_ble_eq_true rfl) ⟨g3841, g3842, g3843, g3839, g3844, 4, f3846, f3847, f3845, rfl, rfl, bg3841, bg3842, bg3843, (gB_w bg3839' (by decide) (by decide)), bg3844, (gB_w (gBl (show Int32.toInt 4 = 4 by decide)) (by decide) (by decide)), bf3846, bf3847, bf3845, (fun R c1 c2 => c2 f2814 f2816 g3841 g3842 g3843 g3839 g3844 g3840 f3845 f3846 f3847 ht2815 ht2817 hx3857 r3860)⟩
        · have r3861 : g3840.toInt = (-2) := gj_eq hc3855 (show Int32.toInt (-2) = (-2) by decide)
          have bg3840' : gB g3840 (-2) (-2) := ⟨by omega, by omega⟩
          refine G_iload_n 0 d_cX7_perform_66 rfl ?_
          refine G_if_lt 87 d_cX7_perform_67 (by decide +kernel) (fun hc3862 => ?_) (fun hc3862 => ?_)
          · have r3863 : g3838.toInt < 0 := gj_lt hc3862 (show Int32.toInt 0 = 0 by decide)
            have bg3838' : gB g3838 (-1) (-1) := ⟨by omega, by omega⟩
            refine G_aload_n 1 d_cX7_perform_87 rfl ?_
            refine G_iconst 4 d_cX7_perform_88 (by decide +kernel) ?_
            refine G_callV (As := [.int 4]) (wr := [(q2735, .inr (5, [.ref q2740, .ref q2741, .ref q2742, .ref q2743, .ref q2744, .ref q2745, .ref q2746, .ref q2747, .ref q2748, .int p2757, .int p2758, .int p2759])), (q2740, .inl (I .int, 40, .inl f2764)), (q2741, .inl (I .int, 40, .inl f2765)), (q2742, .inl (I .int, 40, .inl f2766)), (q2743, .inl (I .int, 200, .inl f2767)), (q2744, .inl (I .int, 200, .inl f2768)), (q2745, .inl (I .int, 200, .inl f2769)), (q2746, .inl (I .int, 200, .inl f2770)), (q2747, .inl (I .int, 200, .inl f2771)), (q2748, .inl (I .int, 200, .inl f2772))]) (gV_ok D I) (ct_2837_Machine_halt l hl0 D I q2734 q2736 q2737 q2738 q2739 4 p2750 g3841 g3842 g3843 g3839 g3844 g3840 f2760 f3846 f3847 f3845 bp2750 bg3841 bg3843 bg3844) d_cX7_perform_89 ⟨w_6_86, w_1_12, w_6_89, by decide, rfl, (Nat.le_of_ble_eq_true rfl), (Nat.le_of_ble_eq_true rfl)⟩ w_6_88 w_p_60 0 rfl rfl [0, 2, 13, 14, 3] [1, 4, 5, 6, 7, 8, 9, 10, 11, 12] rfl rfl rfl rfl (by decide) (Nat.le_of_ble_eq_true rfl) (Nat.le_of_ble_eq_true rfl) (Nat.le_of_ble_eq_true rfl) (fun r w hp => ?_) (fun _ _ _ z => z.elim)
            obtain ⟨o3864, rfl, rfl, bo3864, ht3865⟩ := hp
            change G _ _ _ _ _ _ _ (.int (-1) :: _) _ _ _
            refine G_ws (ws' := [(q2735, .inr (5, [.ref q2740, .ref q2741, .ref q2742, .ref q2743, .ref q2744, .ref q2745, .ref q2746, .ref q2747, .ref q2748, .int p2757, .int p2758, .int p2759])), (q2740, .inl (I .int, 40, .inl f2764)), (q2741, .inl (I .int, 40, .inl f2765)), (q2742, .inl (I .int, 40, .inl f2766)), (q2743, .inl (I .int, 200, .inl f2767)), (q2744, .inl (I .int, 200, .inl f2768)), (q2745, .inl (I .int, 200, .inl f2769)), (q2746, .inl (I .int, 200, .inl f2770)), (q2747, .inl (I .int, 200, .inl f2771)), (q2748, .inl (I .int, 200, .inl f2772)), (q2734, .inr (12, [.ref q2736, .ref q2737, .ref q2738, .ref q2739, .int p2750, .int g3841, .int g3842, .int g3843, .int g3839, .int g3844, .int o3864])), (q2736, .inl (I .int, 2048, .inl f2760)), (q2737, .inl (I .int, 100, .inl f3846)), (q2738, .inl (I .int, 100, .inl f3847)), (q2739, .inl (I .int, 512, .inl f3845))]) (cs' := 0) (sl' := 0) rfl rfl rfl ?_
            refine G_istore_n (L' := [(3, .int (-1)), (0, .ref q2734), (1, .ref q2735), (2, .int p2749)]) d_cX7_perform_92 (Nat.le_of_ble_eq_true rfl) rfl ?_
            refine G_aload_n 1 d_cX7_perform_93 rfl ?_
            refine G_dup d_cX7_perform_94 rfl ?_
            refine G_getf 10 8 d_cX7_perform_95 rfl (gk_X7 D I) (Nat.le_of_ble_eq_true rfl) w_2_168 rfl ?_
            refine G_iconst 1 d_cX7_perform_98 (by decide +kernel) ?_
            refine G_iadd d_cX7_perform_99 (G_nam fun z3866 hz3866 => ?_)
            have ez3866 : z3866.toInt = g3839.toInt + 1 := by rw [gI_add hz3866 bg3839' (gBl (show Int32.toInt 1 = 1 by decide)) (by decide) (by decide), show Int32.toInt 1 = 1 from by decide]
            have bz3866 : gB z3866 1 100000 := gB_add (gI_add hz3866 bg3839' (gBl (show Int32.toInt 1 = 1 by decide)) (by decide) (by decide)) bg3839' (gBl (show Int32.toInt 1 = 1 by decide)) (by decide) (by decide)
            refine G_putf (ws' := [(q2735, .inr (5, [.ref q2740, .ref q2741, .ref q2742, .ref q2743, .ref q2744, .ref q2745, .ref q2746, .ref q2747, .ref q2748, .int p2757, .int p2758, .int p2759])), (q2740, .inl (I .int, 40, .inl f2764)), (q2741, .inl (I .int, 40, .inl f2765)), (q2742, .inl (I .int, 40, .inl f2766)), (q2743, .inl (I .int, 200, .inl f2767)), (q2744, .inl (I .int, 200, .inl f2768)), (q2745, .inl (I .int, 200, .inl f2769)), (q2746, .inl (I .int, 200, .inl f2770)), (q2747, .inl (I .int, 200, .inl f2771)), (q2748, .inl (I .int, 200, .inl f2772)), (q2734, .inr (12, [.ref q2736, .ref q2737, .ref q2738, .ref q2739, .int p2750, .int g3841, .int g3842, .int g3843, .int z3866, .int g3844, .int o3864])), (q2736, .inl (I .int, 2048, .inl f2760)), (q2737, .inl (I .int, 100, .inl f3846)), (q2738, .inl (I .int, 100, .inl f3847)), (q2739, .inl (I .int, 512, .inl f3845))]) 10 8 d_cX7_perform_100 rfl (gk_X7 D I) (Nat.le_of_ble_eq_true rfl) w_2_168 rfl rfl rfl (Nat.le_of_ble_eq_true rfl) rfl ?_
            refine G_goto 49 d_cX7_perform_103 (by decide +kernel) ?_
            refine G_sub (ws' := [(q2734, .inr (12, [.ref q2736, .ref q2737, .ref q2738, .ref q2739, .int p2750, .int g3841, .int g3842, .int g3843, .int z3866, .int g3844, .int o3864])), (q2735, .inr (5, [.ref q2740, .ref q2741, .ref q2742, .ref q2743, .ref q2744, .ref q2745, .ref q2746, .ref q2747, .ref q2748, .int p2757, .int p2758, .int p2759])), (q2736, .inl (I .int, 2048, .inl f2760)), (q2739, .inl (I .int, 512, .inl f3845)), (q2740, .inl (I .int, 40, .inl f2764)), (q2741, .inl (I .int, 40, .inl f2765)), (q2742, .inl (I .int, 40, .inl f2766)), (q2743, .inl (I .int, 200, .inl f2767)), (q2744, .inl (I .int, 200, .inl f2768)), (q2745, .inl (I .int, 200, .inl f2769)), (q2746, .inl (I .int, 200, .inl f2770)), (q2747, .inl (I .int, 200, .inl f2771)), (q2748, .inl (I .int, 200, .inl f2772)), (q2737, .inl (I .int, 100, .inl f3846)), (q2738, .inl (I .int, 100, .inl f3847))]) [10, 0, 11, 14, 1, 2, 3, 4, 5, 6, 7, 8, 9, 12, 13] rfl rfl ?_
            exact ih49_3847 (-1) z3866 o3864 g3841 g3842 g3843 g3844 f3845 f3846 f3847 (gB_w (gBl (show Int32.toInt (-1) = (-1) by decide)) (by decide) (by decide)) (gB_w bz3866 (by decide) (by decide)) bo3864 bg3841 bg3842 bg3843 bg3844 bf3845 bf3846 bf3847 (fun k e1 e2 e3 e4 e5 e6 e7 e8 e9 ht => kt49_3847 k e1 e2 e3 e4 e5 e6 e7 e8 e9 (fun R c1 c2 c3 c4 c5 => c3 g3838 g3839 g3840 g3841 g3842 g3843 g3844 f3845 f3846 f3847 o3864 z3866 k e1 e2 e3 e4 e5 e6 e7 e8 e9 bg3838 bg3839 bg3841 bg3843 bg3844 r3854 r3861 r3863 ht3865 ez3866 (ht R c1 c2 c3 c4 c5))) (by have qa0 : Int32.toInt (-1) = (-1) := (by decide); omega)
          · have r3867 : 0 ≤ g3838.toInt := gj_nlt hc3862 (show Int32.toInt 0 = 0 by decide)
            have bg3838' : gB g3838 0 200 := ⟨by omega, by omega⟩
            refine G_iload_n 0 d_cX7_perform_70 rfl ?_
            refine G_aload_n 2 d_cX7_perform_71 rfl ?_
            refine G_getfN 1 10 d_cX7_perform_72 rfl (gk_X0 D I) (Nat.le_of_ble_eq_true rfl) (fun _ _ _ h => gn_w 46 rfl h) rfl ?_
            refine G_icmp_ge 87 d_cX7_perform_75 (by decide +kernel) (fun hc3868 => ?_) (fun hc3868 => ?_)
            · have r3869 : p2758.toInt ≤ g3838.toInt := gC_le hc3868
              refine G_aload_n 1 d_cX7_perform_87 rfl ?_
              refine G_iconst 4 d_cX7_perform_88 (by decide +kernel) ?_
              refine G_callV (As := [.int 4]) (wr := [(q2735, .inr (5, [.ref q2740, .ref q2741, .ref q2742, .ref q2743, .ref q2744, .ref q2745, .ref q2746, .ref q2747, .ref q2748, .int p2757, .int p2758, .int p2759])), (q2740, .inl (I .int, 40, .inl f2764)), (q2741, .inl (I .int, 40, .inl f2765)), (q2742, .inl (I .int, 40, .inl f2766)), (q2743, .inl (I .int, 200, .inl f2767)), (q2744, .inl (I .int, 200, .inl f2768)), (q2745, .inl (I .int, 200, .inl f2769)), (q2746, .inl (I .int, 200, .inl f2770)), (q2747, .inl (I .int, 200, .inl f2771)), (q2748, .inl (I .int, 200, .inl f2772))]) (gV_ok D I) (ct_2837_Machine_halt l hl0 D I q2734 q2736 q2737 q2738 q2739 4 p2750 g3841 g3842 g3843 g3839 g3844 g3840 f2760 f3846 f3847 f3845 bp2750 bg3841 bg3843 bg3844) d_cX7_perform_89 ⟨w_6_86, w_1_12, w_6_89, by decide, rfl, (Nat.le_of_ble_eq_true rfl), (Nat.le_of_ble_eq_true rfl)⟩ w_6_88 w_p_60 0 rfl rfl [0, 2, 13, 14, 3] [1, 4, 5, 6, 7, 8, 9, 10, 11, 12] rfl rfl rfl rfl (by decide) (Nat.le_of_ble_eq_true rfl) (Nat.le_of_ble_eq_true rfl) (Nat.le_of_ble_eq_true rfl) (fun r w hp => ?_) (fun _ _ _ z => z.elim)
              obtain ⟨o3870, rfl, rfl, bo3870, ht3871⟩ := hp
              change G _ _ _ _ _ _ _ (.int (-1) :: _) _ _ _
              refine G_ws (ws' := [(q2735, .inr (5, [.ref q2740, .ref q2741, .ref q2742, .ref q2743, .ref q2744, .ref q2745, .ref q2746, .ref q2747, .ref q2748, .int p2757, .int p2758, .int p2759])), (q2740, .inl (I .int, 40, .inl f2764)), (q2741, .inl (I .int, 40, .inl f2765)), (q2742, .inl (I .int, 40, .inl f2766)), (q2743, .inl (I .int, 200, .inl f2767)), (q2744, .inl (I .int, 200, .inl f2768)), (q2745, .inl (I .int, 200, .inl f2769)), (q2746, .inl (I .int, 200, .inl f2770)), (q2747, .inl (I .int, 200, .inl f2771)), (q2748, .inl (I .int, 200, .inl f2772)), (q2734, .inr (12, [.ref q2736, .ref q2737, .ref q2738, .ref q2739, .int p2750, .int g3841, .int g3842, .int g3843, .int g3839, .int g3844, .int o3870])), (q2736, .inl (I .int, 2048, .inl f2760)), (q2737, .inl (I .int, 100, .inl f3846)), (q2738, .inl (I .int, 100, .inl f3847)), (q2739, .inl (I .int, 512, .inl f3845))]) (cs' := 0) (sl' := 0) rfl rfl rfl ?_
              refine G_istore_n (L' := [(3, .int (-1)), (0, .ref q2734), (1, .ref q2735), (2, .int p2749)]) d_cX7_perform_92 (Nat.le_of_ble_eq_true rfl) rfl ?_
              refine G_aload_n 1 d_cX7_perform_93 rfl ?_
              refine G_dup d_cX7_perform_94 rfl ?_
              refine G_getf 10 8 d_cX7_perform_95 rfl (gk_X7 D I) (Nat.le_of_ble_eq_true rfl) w_2_168 rfl ?_
              refine G_iconst 1 d_cX7_perform_98 (by decide +kernel) ?_
              refine G_iadd d_cX7_perform_99 (G_nam fun z3872 hz3872 => ?_)
              have ez3872 : z3872.toInt = g3839.toInt + 1 := by rw [gI_add hz3872 bg3839' (gBl (show Int32.toInt 1 = 1 by decide)) (by decide) (by decide), show Int32.toInt 1 = 1 from by decide]
              have bz3872 : gB z3872 1 100000 := gB_add (gI_add hz3872 bg3839' (gBl (show Int32.toInt 1 = 1 by decide)) (by decide) (by decide)) bg3839' (gBl (show Int32.toInt 1 = 1 by decide)) (by decide) (by decide)
              refine G_putf (ws' := [(q2735, .inr (5, [.ref q2740, .ref q2741, .ref q2742, .ref q2743, .ref q2744, .ref q2745, .ref q2746, .ref q2747, .ref q2748, .int p2757, .int p2758, .int p2759])), (q2740, .inl (I .int, 40, .inl f2764)), (q2741, .inl (I .int, 40, .inl f2765)), (q2742, .inl (I .int, 40, .inl f2766)), (q2743, .inl (I .int, 200, .inl f2767)), (q2744, .inl (I .int, 200, .inl f2768)), (q2745, .inl (I .int, 200, .inl f2769)), (q2746, .inl (I .int, 200, .inl f2770)), (q2747, .inl (I .int, 200, .inl f2771)), (q2748, .inl (I .int, 200, .inl f2772)), (q2734, .inr (12, [.ref q2736, .ref q2737, .ref q2738, .ref q2739, .int p2750, .int g3841, .int g3842, .int g3843, .int z3872, .int g3844, .int o3870])), (q2736, .inl (I .int, 2048, .inl f2760)), (q2737, .inl (I .int, 100, .inl f3846)), (q2738, .inl (I .int, 100, .inl f3847)), (q2739, .inl (I .int, 512, .inl f3845))]) 10 8 d_cX7_perform_100 rfl (gk_X7 D I) (Nat.le_of_ble_eq_true rfl) w_2_168 rfl rfl rfl (Nat.le_of_ble_eq_true rfl) rfl ?_
              refine G_goto 49 d_cX7_perform_103 (by decide +kernel) ?_
              refine G_sub (ws' := [(q2734, .inr (12, [.ref q2736, .ref q2737, .ref q2738, .ref q2739, .int p2750, .int g3841, .int g3842, .int g3843, .int z3872, .int g3844, .int o3870])), (q2735, .inr (5, [.ref q2740, .ref q2741, .ref q2742, .ref q2743, .ref q2744, .ref q2745, .ref q2746, .ref q2747, .ref q2748, .int p2757, .int p2758, .int p2759])), (q2736, .inl (I .int, 2048, .inl f2760)), (q2739, .inl (I .int, 512, .inl f3845)), (q2740, .inl (I .int, 40, .inl f2764)), (q2741, .inl (I .int, 40, .inl f2765)), (q2742, .inl (I .int, 40, .inl f2766)), (q2743, .inl (I .int, 200, .inl f2767)), (q2744, .inl (I .int, 200, .inl f2768)), (q2745, .inl (I .int, 200, .inl f2769)), (q2746, .inl (I .int, 200, .inl f2770)), (q2747, .inl (I .int, 200, .inl f2771)), (q2748, .inl (I .int, 200, .inl f2772)), (q2737, .inl (I .int, 100, .inl f3846)), (q2738, .inl (I .int, 100, .inl f3847))]) [10, 0, 11, 14, 1, 2, 3, 4, 5, 6, 7, 8, 9, 12, 13] rfl rfl ?_
              exact ih49_3847 (-1) z3872 o3870 g3841 g3842 g3843 g3844 f3845 f3846 f3847 (gB_w (gBl (show Int32.toInt (-1) = (-1) by decide)) (by decide) (by decide)) (gB_w bz3872 (by decide) (by decide)) bo3870 bg3841 bg3842 bg3843 bg3844 bf3845 bf3846 bf3847 (fun k e1 e2 e3 e4 e5 e6 e7 e8 e9 ht => kt49_3847 k e1 e2 e3 e4 e5 e6 e7 e8 e9 (fun R c1 c2 c3 c4 c5 => c4 g3838 g3839 g3840 g3841 g3842 g3843 g3844 f3845 f3846 f3847 o3870 z3872 k e1 e2 e3 e4 e5 e6 e7 e8 e9 bg3838 bg3839 bg3841 bg3843 bg3844 r3854 r3861 r3867 r3869 ht3871 ez3872 (ht R c1 c2 c3 c4 c5))) (by have qa0 : Int32.toInt (-1) = (-1) := (by decide); omega)
            · have r3873 : g3838.toInt < p2758.toInt := gC_nle hc3868
              have bg3838'' : gB g3838 0 199 := ⟨by omega, by omega⟩
              have bp2758' : gB p2758 1 200 := ⟨by omega, by omega⟩
              refine G_aload_n 1 d_cX7_perform_78 rfl ?_
              refine G_aload_n 2 d_cX7_perform_79 rfl ?_
              refine G_iload_n 0 d_cX7_perform_80 rfl ?_
              refine G_callV (As := [.ref q2735, .int g3838]) (wr := []) (gV_ok D I) (ct_2881_Machine_step l hl0 D I q2734 q2735 q2736 q2737 q2738 q2739 q2740 q2741 q2742 q2743 q2744 q2745 q2746 q2747 q2748 g3838 p2750 g3841 g3842 g3843 g3839 g3844 g3840 p2757 p2758 p2759 f2760 f3846 f3847 f3845 f2764 f2765 f2766 f2767 f2768 f2769 f2770 f2771 f2772 bg3838'' bp2750 bg3841 bg3843 bg3844 bp2757 (gB_w bp2758' (by decide) (by decide)) bp2759 bf2764 bf2767) d_cX7_perform_81 ⟨w_6_74, w_1_12, w_6_77, by decide, rfl, (Nat.le_of_ble_eq_true rfl), (Nat.le_of_ble_eq_true rfl)⟩ w_6_76 w_p_57 0 rfl rfl [0, 1, 2, 13, 14, 3, 4, 5, 6, 7, 8, 9, 10, 11, 12] [] rfl rfl rfl rfl (by decide) (Nat.le_of_ble_eq_true rfl) (Nat.le_of_ble_eq_true rfl) (Nat.le_of_ble_eq_true rfl) (fun r w hp => ?_) (fun _ _ _ z => z.elim)
              obtain ⟨o3874, f3875, o3876, o3877, o3878, f3879, f3880, o3881, o3882, rfl, rfl, bo3874, bf3875, bo3876, bo3877, bo3878, bf3879, bf3880, bo3881, bo3882, ht3883⟩ := hp
              change G _ _ _ _ _ _ _ (.int o3874 :: _) _ _ _
              refine G_ws (ws' := [(q2734, .inr (12, [.ref q2736, .ref q2737, .ref q2738, .ref q2739, .int p2750, .int o3881, .int o3882, .int o3877, .int g3839, .int o3876, .int o3878])), (q2735, .inr (5, [.ref q2740, .ref q2741, .ref q2742, .ref q2743, .ref q2744, .ref q2745, .ref q2746, .ref q2747, .ref q2748, .int p2757, .int p2758, .int p2759])), (q2736, .inl (I .int, 2048, .inl f2760)), (q2737, .inl (I .int, 100, .inl f3875)), (q2738, .inl (I .int, 100, .inl f3880)), (q2739, .inl (I .int, 512, .inl f3879)), (q2740, .inl (I .int, 40, .inl f2764)), (q2741, .inl (I .int, 40, .inl f2765)), (q2742, .inl (I .int, 40, .inl f2766)), (q2743, .inl (I .int, 200, .inl f2767)), (q2744, .inl (I .int, 200, .inl f2768)), (q2745, .inl (I .int, 200, .inl f2769)), (q2746, .inl (I .int, 200, .inl f2770)), (q2747, .inl (I .int, 200, .inl f2771)), (q2748, .inl (I .int, 200, .inl f2772))]) (cs' := 0) (sl' := 0) rfl rfl rfl ?_
              refine G_goto 92 d_cX7_perform_84 (by decide +kernel) ?_
              refine G_istore_n (L' := [(3, .int o3874), (0, .ref q2734), (1, .ref q2735), (2, .int p2749)]) d_cX7_perform_92 (Nat.le_of_ble_eq_true rfl) rfl ?_
              refine G_aload_n 1 d_cX7_perform_93 rfl ?_
              refine G_dup d_cX7_perform_94 rfl ?_
              refine G_getf 0 8 d_cX7_perform_95 rfl (gk_X7 D I) (Nat.le_of_ble_eq_true rfl) w_2_168 rfl ?_
              refine G_iconst 1 d_cX7_perform_98 (by decide +kernel) ?_
              refine G_iadd d_cX7_perform_99 (G_nam fun z3884 hz3884 => ?_)
              have ez3884 : z3884.toInt = g3839.toInt + 1 := by rw [gI_add hz3884 bg3839' (gBl (show Int32.toInt 1 = 1 by decide)) (by decide) (by decide), show Int32.toInt 1 = 1 from by decide]
              have bz3884 : gB z3884 1 100000 := gB_add (gI_add hz3884 bg3839' (gBl (show Int32.toInt 1 = 1 by decide)) (by decide) (by decide)) bg3839' (gBl (show Int32.toInt 1 = 1 by decide)) (by decide) (by decide)
              refine G_putf (ws' := [(q2734, .inr (12, [.ref q2736, .ref q2737, .ref q2738, .ref q2739, .int p2750, .int o3881, .int o3882, .int o3877, .int z3884, .int o3876, .int o3878])), (q2735, .inr (5, [.ref q2740, .ref q2741, .ref q2742, .ref q2743, .ref q2744, .ref q2745, .ref q2746, .ref q2747, .ref q2748, .int p2757, .int p2758, .int p2759])), (q2736, .inl (I .int, 2048, .inl f2760)), (q2737, .inl (I .int, 100, .inl f3875)), (q2738, .inl (I .int, 100, .inl f3880)), (q2739, .inl (I .int, 512, .inl f3879)), (q2740, .inl (I .int, 40, .inl f2764)), (q2741, .inl (I .int, 40, .inl f2765)), (q2742, .inl (I .int, 40, .inl f2766)), (q2743, .inl (I .int, 200, .inl f2767)), (q2744, .inl (I .int, 200, .inl f2768)), (q2745, .inl (I .int, 200, .inl f2769)), (q2746, .inl (I .int, 200, .inl f2770)), (q2747, .inl (I .int, 200, .inl f2771)), (q2748, .inl (I .int, 200, .inl f2772))]) 0 8 d_cX7_perform_100 rfl (gk_X7 D I) (Nat.le_of_ble_eq_true rfl) w_2_168 rfl rfl rfl (Nat.le_of_ble_eq_true rfl) rfl ?_
              refine G_goto 49 d_cX7_perform_103 (by decide +kernel) ?_
              refine G_sub (ws' := [(q2734, .inr (12, [.ref q2736, .ref q2737, .ref q2738, .ref q2739, .int p2750, .int o3881, .int o3882, .int o3877, .int z3884, .int o3876, .int o3878])), (q2735, .inr (5, [.ref q2740, .ref q2741, .ref q2742, .ref q2743, .ref q2744, .ref q2745, .ref q2746, .ref q2747, .ref q2748, .int p2757, .int p2758, .int p2759])), (q2736, .inl (I .int, 2048, .inl f2760)), (q2739, .inl (I .int, 512, .inl f3879)), (q2740, .inl (I .int, 40, .inl f2764)), (q2741, .inl (I .int, 40, .inl f2765)), (q2742, .inl (I .int, 40, .inl f2766)), (q2743, .inl (I .int, 200, .inl f2767)), (q2744, .inl (I .int, 200, .inl f2768)), (q2745, .inl (I .int, 200, .inl f2769)), (q2746, .inl (I .int, 200, .inl f2770)), (q2747, .inl (I .int, 200, .inl f2771)), (q2748, .inl (I .int, 200, .inl f2772)), (q2737, .inl (I .int, 100, .inl f3875)), (q2738, .inl (I .int, 100, .inl f3880))]) [0, 1, 2, 5, 6, 7, 8, 9, 10, 11, 12, 13, 14, 3, 4] rfl rfl ?_
              exact ih49_3847 o3874 z3884 o3878 o3881 o3882 o3877 o3876 f3879 f3875 f3880 bo3874 (gB_w bz3884 (by decide) (by decide)) bo3878 bo3881 bo3882 bo3877 bo3876 bf3879 bf3875 bf3880 (fun k e1 e2 e3 e4 e5 e6 e7 e8 e9 ht => kt49_3847 k e1 e2 e3 e4 e5 e6 e7 e8 e9 (fun R c1 c2 c3 c4 c5 => c5 g3838 g3839 g3840 g3841 g3842 g3843 g3844 f3845 f3846 f3847 o3874 f3875 o3876 o3877 o3878 f3879 f3880 o3881 o3882 z3884 k e1 e2 e3 e4 e5 e6 e7 e8 e9 bg3838 bg3839 bg3841 bg3843 bg3844 r3854 r3861 r3867 r3873 bo3874 bo3876 bo3877 bo3881 ht3883 ez3884 (ht R c1 c2 c3 c4 c5))) (by omega)
  exact hlp49_3847 (((100001 : Int) - 0).toNat + 1) 0 0 (-2) 0 0 0 0 f2763 f2814 f2816 (gB_w (gBl (show Int32.toInt 0 = 0 by decide)) (by decide) (by decide)) (gB_w (gBl (show Int32.toInt 0 = 0 by decide)) (by decide) (by decide)) (gB_w (gBl (show Int32.toInt (-2) = (-2) by decide)) (by decide) (by decide)) (gB_w (gBl (show Int32.toInt 0 = 0 by decide)) (by decide) (by decide)) (gB_w (gBl (show Int32.toInt 0 = 0 by decide)) (by decide) (by decide)) (gB_w (gBl (show Int32.toInt 0 = 0 by decide)) (by decide) (by decide)) (gB_w (gBl (show Int32.toInt 0 = 0 by decide)) (by decide) (by decide)) (gF_any f2763) bf2814 bf2816 (fun k e1 e2 e3 e4 e5 e6 e7 e8 e9 ht => ht) (Nat.lt_succ_self _)
abbrev ky_3931_String_coder : gKey := (cJ0_coder_7d493, 1, yJ0_coder_7d493.cls, (some FieldType.byte), [], yJ0_coder_7d493.name, fun _ _ => True)
abbrev po_3931_String_coder (I : FieldType → ClassId) (qs3928 : Nat) (qb3929 : Nat) (bs3930 : List Int32) : Option Value → va_W → Prop := fun r w => r = some (.int 0) ∧ w = []
set_option maxRecDepth 100000 in
set_option maxHeartbeats 4000000 in
theorem ct_3931_String_coder (l : Launch) (hl0 : l.stackTraces = false) (D : va_G) (I : FieldType → ClassId) (qs3928 : Nat) (qb3929 : Nat) (bs3930 : List Int32) (hbs3930 : ∀ A s H, (gV D I).2.2.2.1 A s H → gSC qs3928 qb3929 bs3930 A s H) (nbs3930 : (bs3930.length : Int) ≤ 65535) : Ct (gV D I) l yJ0_coder_7d493 cJ0_coder_7d493 1 (some FieldType.byte) 0 0 0 0 [.ref qs3928] [] (po_3931_String_coder I qs3928 qb3929 bs3930) gN := by
  refine Ct_ofF hl0 (by decide +kernel) (Nat.le_of_ble_eq_true rfl) ?_
  refine G_gets d_cJ0_coder_7d493_0 w_3_65 gz_cs (fun x hx => ?_)
  subst hx
  refine G_if_eq 13 d_cJ0_coder_7d493_3 (by decide +kernel) (fun hc => absurd hc (by decide)) (fun _ => ?_)
  refine G_aload_n 0 d_cJ0_coder_7d493_6 rfl ?_
  refine G_kget d_cJ0_coder_7d493_7 w_8_183 (fun _ _ _ h => (hbs3930 _ _ _ h).2.1) ?_
  refine G_goto 14 d_cJ0_coder_7d493_10 (by decide +kernel) ?_
  exact G_zret FieldType.byte d_cJ0_coder_7d493_14 rfl rfl (Nat.le_of_ble_eq_true rfl) (Nat.le_of_ble_eq_true rfl) ⟨rfl, rfl⟩
/- tr_String_length: result -/
def tr_String_length (bs : List Int32) (o1 : Int32) : Prop := ∀ R : (Int32) → Prop,
  (∀ (x1 : Int32) (x2 : Int32), x1.toInt = (bs.length : Int) → x2.toInt = x1.toInt / 1 → R x2) →
  R o1
abbrev ky_3926_String_length : gKey := (cJ0_length_8abf5, 1, yJ0_length_8abf5.cls, (some FieldType.int), [], yJ0_length_8abf5.name, fun _ _ => True)
abbrev po_3926_String_length (I : FieldType → ClassId) (qs3923 : Nat) (qb3924 : Nat) (bs3925 : List Int32) : Option Value → va_W → Prop := fun r w => ∃ (o3933 : Int32), r = some (.int o3933) ∧ w = [] ∧ gB o3933 0 65535 ∧ o3933.toInt = (bs3925.length : Int) ∧ tr_String_length bs3925 o3933
set_option maxRecDepth 100000 in
set_option maxHeartbeats 4000000 in
theorem ct_3926_String_length (l : Launch) (hl0 : l.stackTraces = false) (D : va_G) (I : FieldType → ClassId) (qs3923 : Nat) (qb3924 : Nat) (bs3925 : List Int32) (hbs3925 : ∀ A s H, (gV D I).2.2.2.1 A s H → gSC qs3923 qb3924 bs3925 A s H) (nbs3925 : (bs3925.length : Int) ≤ 65535) : Ct (gV D I) l yJ0_length_8abf5 cJ0_length_8abf5 1 (some FieldType.int) 1 20 0 0 [.ref qs3923] [] (po_3926_String_length I qs3923 qb3924 bs3925) gN := by
  refine Ct_ofF hl0 (by decide +kernel) (Nat.le_of_ble_eq_true rfl) ?_
  refine G_aload_n 0 d_cJ0_length_8abf5_0 rfl ?_
  refine G_kget d_cJ0_length_8abf5_1 w_8_182 (fun _ _ _ h => (hbs3925 _ _ _ h).2.2.1) ?_
  refine G_klen d_cJ0_length_8abf5_4 (fun _ _ _ h => (hbs3925 _ _ _ h).2.2.2) (G_nam fun z3927 hz3927 => ?_)
  have ez3927 : z3927.toInt = (bs3925.length : Int) := gI_ofN hz3927 (by omega)
  have bz3927 : gB z3927 0 65535 := ⟨by omega, by omega⟩
  refine G_aload_n 0 d_cJ0_length_8abf5_5 rfl ?_
  refine G_callVk (As := []) (wr := []) (gV_ok D I) (ct_3931_String_coder l hl0 D I qs3923 qb3924 bs3925 hbs3925 nbs3925) d_cJ0_length_8abf5_6 ⟨w_3_61, w_1_21, w_3_64, by decide, rfl, (Nat.le_of_ble_eq_true rfl), (Nat.le_of_ble_eq_true rfl)⟩ w_3_62 w_3_63 (fun _ _ _ h => (hbs3925 _ _ _ h).1) [] [] rfl rfl rfl rfl (by decide) (Nat.le_of_ble_eq_true rfl) (Nat.le_of_ble_eq_true rfl) (Nat.le_of_ble_eq_true rfl) (fun r w hp => ?_) (fun _ _ _ z => z.elim)
  obtain ⟨rfl, rfl⟩ := hp
  change G _ _ _ _ _ _ _ (.int 0 :: _) _ _ _
  refine G_ws (ws' := []) (cs' := 0) (sl' := 0) rfl rfl rfl ?_
  refine G_ishr d_cJ0_length_8abf5_9 (G_nam fun z3932 hz3932 => ?_)
  have ez3932 : z3932.toInt = z3927.toInt / 1 := gI_shr (k := 0) hz3932 (by decide)
  have bz3932 : gB z3932 0 65535 := ⟨by omega, by omega⟩
  exact G_iret d_cJ0_length_8abf5_10 rfl (Nat.le_of_ble_eq_true rfl) (Nat.le_of_ble_eq_true rfl) ⟨z3932, rfl, rfl, bz3932, (by omega), (fun R c1 => c1 z3927 z3932 ez3927 ez3932)⟩
abbrev ky_3958_String_isLatin1 : gKey := (cJ0_isLatin1_aae02, 1, yJ0_isLatin1_aae02.cls, (some FieldType.boolean), [], yJ0_isLatin1_aae02.name, fun _ _ => True)
abbrev po_3958_String_isLatin1 (I : FieldType → ClassId) (qs3955 : Nat) (qb3956 : Nat) (bs3957 : List Int32) : Option Value → va_W → Prop := fun r w => r = some (.int 1) ∧ w = []
set_option maxRecDepth 100000 in
set_option maxHeartbeats 4000000 in
theorem ct_3958_String_isLatin1 (l : Launch) (hl0 : l.stackTraces = false) (D : va_G) (I : FieldType → ClassId) (qs3955 : Nat) (qb3956 : Nat) (bs3957 : List Int32) (hbs3957 : ∀ A s H, (gV D I).2.2.2.1 A s H → gSC qs3955 qb3956 bs3957 A s H) (nbs3957 : (bs3957.length : Int) ≤ 65535) : Ct (gV D I) l yJ0_isLatin1_aae02 cJ0_isLatin1_aae02 1 (some FieldType.boolean) 0 0 0 0 [.ref qs3955] [] (po_3958_String_isLatin1 I qs3955 qb3956 bs3957) gN := by
  refine Ct_ofF hl0 (by decide +kernel) (Nat.le_of_ble_eq_true rfl) ?_
  refine G_gets d_cJ0_isLatin1_aae02_0 w_3_65 gz_cs (fun x hx => ?_)
  subst hx
  refine G_if_eq 17 d_cJ0_isLatin1_aae02_3 (by decide +kernel) (fun hc => absurd hc (by decide)) (fun _ => ?_)
  refine G_aload_n 0 d_cJ0_isLatin1_aae02_6 rfl ?_
  refine G_kget d_cJ0_isLatin1_aae02_7 w_8_183 (fun _ _ _ h => (hbs3957 _ _ _ h).2.1) ?_
  refine G_if_ne 17 d_cJ0_isLatin1_aae02_10 (by decide +kernel) (fun hc => absurd hc (by decide)) (fun _ => ?_)
  refine G_iconst 1 d_cJ0_isLatin1_aae02_13 (by decide +kernel) ?_
  refine G_goto 18 d_cJ0_isLatin1_aae02_14 (by decide +kernel) ?_
  exact G_zret FieldType.boolean d_cJ0_isLatin1_aae02_18 rfl rfl (Nat.le_of_ble_eq_true rfl) (Nat.le_of_ble_eq_true rfl) ⟨rfl, rfl⟩
/- tr_Preconditions_checkIndex:  -/
def tr_Preconditions_checkIndex (a0 : Int32) (a1 : Int32) : Prop := ∀ R : Prop,
  (0 ≤ a0.toInt → a0.toInt < a1.toInt → R) →
  R
abbrev ky_3976_Preconditions_checkIndex : gKey := (cJ3_checkIndex_8e157, 3, yJ3_checkIndex_8e157.cls, (some FieldType.int), [], yJ3_checkIndex_8e157.name, fun _ _ => True)
abbrev po_3976_Preconditions_checkIndex (I : FieldType → ClassId) (p3972 : Int32) (p3973 : Int32) : Option Value → va_W → Prop := fun r w => r = some (.int p3972) ∧ w = [] ∧ tr_Preconditions_checkIndex p3972 p3973
set_option maxRecDepth 100000 in
set_option maxHeartbeats 4000000 in
theorem ct_3976_Preconditions_checkIndex (l : Launch) (hl0 : l.stackTraces = false) (D : va_G) (I : FieldType → ClassId) (p3972 : Int32) (p3973 : Int32) (x3974 : 0 ≤ p3972.toInt) (x3975 : p3972.toInt < p3973.toInt) : Ct (gV D I) l yJ3_checkIndex_8e157 cJ3_checkIndex_8e157 3 (some FieldType.int) 0 0 0 0 [.int p3972, .int p3973, .null] [] (po_3976_Preconditions_checkIndex I p3972 p3973) gN := by
  refine Ct_of hl0 (by decide) (Nat.le_of_ble_eq_true rfl) ?_
  have bp3972 := gB_any p3972
  have bp3973 := gB_any p3973
  refine G_iload_n 0 d_cJ3_checkIndex_8e157_0 rfl ?_
  refine G_if_lt 9 d_cJ3_checkIndex_8e157_1 (by decide +kernel) (fun hc3977 => ?_) (fun hc3977 => ?_)
  · have r3978 : p3972.toInt < 0 := gj_lt hc3977 (show Int32.toInt 0 = 0 by decide)
    have bp3972' : gB p3972 (-2147483648) (-1) := ⟨by omega, by omega⟩
    exact absurd (show False by omega) not_false
  · have r3979 : 0 ≤ p3972.toInt := gj_nlt hc3977 (show Int32.toInt 0 = 0 by decide)
    have bp3972' : gB p3972 0 2147483647 := ⟨by omega, by omega⟩
    refine G_iload_n 0 d_cJ3_checkIndex_8e157_4 rfl ?_
    refine G_iload_n 1 d_cJ3_checkIndex_8e157_5 rfl ?_
    refine G_icmp_lt 16 d_cJ3_checkIndex_8e157_6 (by decide +kernel) (fun hc3980 => ?_) (fun hc3980 => ?_)
    · have r3981 : p3972.toInt < p3973.toInt := gC_lt hc3980
      have bp3972'' : gB p3972 0 2147483646 := ⟨by omega, by omega⟩
      have bp3973' : gB p3973 1 2147483647 := ⟨by omega, by omega⟩
      refine G_iload_n 0 d_cJ3_checkIndex_8e157_16 rfl ?_
      exact G_iret d_cJ3_checkIndex_8e157_17 rfl (Nat.le_of_ble_eq_true rfl) (Nat.le_of_ble_eq_true rfl) ⟨rfl, rfl, (fun R c1 => c1 r3979 r3981)⟩
    · have r3982 : p3973.toInt ≤ p3972.toInt := gC_nlt hc3980
      exact absurd (show False by omega) not_false
/- tr_Preconditions_checkIndex2:  -/
def tr_Preconditions_checkIndex2 (a0 : Int32) (a1 : Int32) : Prop := ∀ R : Prop,
  (0 ≤ a0.toInt → a0.toInt < a1.toInt → R) →
  R
abbrev ky_3989_Preconditions_checkIndex : gKey := (cJ3_checkIndex_8e157, 3, yJ3_checkIndex_8e157.cls, (some FieldType.int), [], yJ3_checkIndex_8e157.name, fun _ _ => True)
abbrev po_3989_Preconditions_checkIndex (I : FieldType → ClassId) (p3984 : Int32) (p3985 : Int32) (qo3986 : Nat) : Option Value → va_W → Prop := fun r w => r = some (.int p3984) ∧ w = [] ∧ tr_Preconditions_checkIndex2 p3984 p3985
set_option maxRecDepth 100000 in
set_option maxHeartbeats 4000000 in
theorem ct_3989_Preconditions_checkIndex (l : Launch) (hl0 : l.stackTraces = false) (D : va_G) (I : FieldType → ClassId) (p3984 : Int32) (p3985 : Int32) (qo3986 : Nat) (x3987 : 0 ≤ p3984.toInt) (x3988 : p3984.toInt < p3985.toInt) : Ct (gV D I) l yJ3_checkIndex_8e157 cJ3_checkIndex_8e157 3 (some FieldType.int) 0 0 0 0 [.int p3984, .int p3985, .ref qo3986] [] (po_3989_Preconditions_checkIndex I p3984 p3985 qo3986) gN := by
  refine Ct_of hl0 (by decide) (Nat.le_of_ble_eq_true rfl) ?_
  have bp3984 := gB_any p3984
  have bp3985 := gB_any p3985
  refine G_iload_n 0 d_cJ3_checkIndex_8e157_0 rfl ?_
  refine G_if_lt 9 d_cJ3_checkIndex_8e157_1 (by decide +kernel) (fun hc3990 => ?_) (fun hc3990 => ?_)
  · have r3991 : p3984.toInt < 0 := gj_lt hc3990 (show Int32.toInt 0 = 0 by decide)
    have bp3984' : gB p3984 (-2147483648) (-1) := ⟨by omega, by omega⟩
    exact absurd (show False by omega) not_false
  · have r3992 : 0 ≤ p3984.toInt := gj_nlt hc3990 (show Int32.toInt 0 = 0 by decide)
    have bp3984' : gB p3984 0 2147483647 := ⟨by omega, by omega⟩
    refine G_iload_n 0 d_cJ3_checkIndex_8e157_4 rfl ?_
    refine G_iload_n 1 d_cJ3_checkIndex_8e157_5 rfl ?_
    refine G_icmp_lt 16 d_cJ3_checkIndex_8e157_6 (by decide +kernel) (fun hc3993 => ?_) (fun hc3993 => ?_)
    · have r3994 : p3984.toInt < p3985.toInt := gC_lt hc3993
      have bp3984'' : gB p3984 0 2147483646 := ⟨by omega, by omega⟩
      have bp3985' : gB p3985 1 2147483647 := ⟨by omega, by omega⟩
      refine G_iload_n 0 d_cJ3_checkIndex_8e157_16 rfl ?_
      exact G_iret d_cJ3_checkIndex_8e157_17 rfl (Nat.le_of_ble_eq_true rfl) (Nat.le_of_ble_eq_true rfl) ⟨rfl, rfl, (fun R c1 => c1 r3992 r3994)⟩
    · have r3995 : p3985.toInt ≤ p3984.toInt := gC_nlt hc3993
      exact absurd (show False by omega) not_false
/- tr_String_checkIndex:  -/
def tr_String_checkIndex (a0 : Int32) (a1 : Int32) : Prop := ∀ R : Prop,
  (tr_Preconditions_checkIndex a0 a1 → R) →
  (tr_Preconditions_checkIndex2 a0 a1 → R) →
  R
abbrev ky_3970_String_checkIndex : gKey := (cJ0_checkIndex_df160, 2, yJ0_checkIndex_df160.cls, none, [], yJ0_checkIndex_df160.name, fun _ _ => True)
abbrev po_3970_String_checkIndex (I : FieldType → ClassId) (p3966 : Int32) (p3967 : Int32) : Option Value → va_W → Prop := fun r w => r = none ∧ w = [] ∧ tr_String_checkIndex p3966 p3967
set_option maxRecDepth 100000 in
set_option maxHeartbeats 4000000 in
theorem ct_3970_String_checkIndex (l : Launch) (hl0 : l.stackTraces = false) (D : va_G) (I : FieldType → ClassId) (p3966 : Int32) (p3967 : Int32) (x3968 : 0 ≤ p3966.toInt) (x3969 : p3966.toInt < p3967.toInt) : Ct (gV D I) l yJ0_checkIndex_df160 cJ0_checkIndex_df160 2 none 1 22 0 0 [.int p3966, .int p3967] [] (po_3970_String_checkIndex I p3966 p3967) gN := by
  refine Ct_ofF hl0 (by decide +kernel) (Nat.le_of_ble_eq_true rfl) ?_
  have bp3966 := gB_any p3966
  have bp3967 := gB_any p3967
  refine G_iload_n 0 d_cJ0_checkIndex_df160_0 rfl ?_
  refine G_iload_n 1 d_cJ0_checkIndex_df160_1 rfl ?_
  refine G_gets d_cJ0_checkIndex_df160_2 w_3_81 gz_pf (fun x hx => ?_)
  rcases hx with rfl | ⟨t3971, rfl⟩
  · refine G_callS (As := [.int p3966, .int p3967, .null]) (wr := []) (gV_ok D I) (ct_3976_Preconditions_checkIndex l hl0 D I p3966 p3967 (by omega) (by omega)) d_cJ0_checkIndex_df160_5 ⟨w_3_83, w_1_29, w_3_85, by decide, rfl, (Nat.le_of_ble_eq_true rfl), (Nat.le_of_ble_eq_true rfl)⟩ w_3_84 [] [] rfl rfl rfl rfl (by decide) (Nat.le_of_ble_eq_true rfl) (Nat.le_of_ble_eq_true rfl) (Nat.le_of_ble_eq_true rfl) (fun r w hp => ?_) (fun _ _ _ z => z.elim)
    obtain ⟨rfl, rfl, ht3983⟩ := hp
    change G _ _ _ _ _ _ _ (.int p3966 :: _) _ _ _
    refine G_ws (ws' := []) (cs' := 0) (sl' := 0) rfl rfl rfl ?_
    refine G_pop d_cJ0_checkIndex_df160_8 rfl ?_
    exact G_vret d_cJ0_checkIndex_df160_9 rfl (Nat.le_of_ble_eq_true rfl) (Nat.le_of_ble_eq_true rfl) ⟨rfl, rfl, (fun R c1 c2 => c1 ht3983)⟩
  · refine G_callS (As := [.int p3966, .int p3967, .ref t3971]) (wr := []) (gV_ok D I) (ct_3989_Preconditions_checkIndex l hl0 D I p3966 p3967 t3971 (by omega) (by omega)) d_cJ0_checkIndex_df160_5 ⟨w_3_83, w_1_29, w_3_85, by decide, rfl, (Nat.le_of_ble_eq_true rfl), (Nat.le_of_ble_eq_true rfl)⟩ w_3_84 [] [] rfl rfl rfl rfl (by decide) (Nat.le_of_ble_eq_true rfl) (Nat.le_of_ble_eq_true rfl) (Nat.le_of_ble_eq_true rfl) (fun r w hp => ?_) (fun _ _ _ z => z.elim)
    obtain ⟨rfl, rfl, ht3996⟩ := hp
    change G _ _ _ _ _ _ _ (.int p3966 :: _) _ _ _
    refine G_ws (ws' := []) (cs' := 0) (sl' := 0) rfl rfl rfl ?_
    refine G_pop d_cJ0_checkIndex_df160_8 rfl ?_
    exact G_vret d_cJ0_checkIndex_df160_9 rfl (Nat.le_of_ble_eq_true rfl) (Nat.le_of_ble_eq_true rfl) ⟨rfl, rfl, (fun R c1 c2 => c2 ht3996)⟩
/- tr_StringLatin1_charAt: result -/
def tr_StringLatin1_charAt (bs : List Int32) (a1 : Int32) (o1 : Int32) : Prop := ∀ R : (Int32) → Prop,
  (∀ (x1 : Int32) (x2 : Int32) (x3 : Int32) (x4 : Int32), x1.toInt = (bs.length : Int) → tr_String_checkIndex a1 x1 → x2 = bs.getD a1.toNatClampNeg 0 → x3 = x2 &&& (255 : Int32) → x4 = (x3.toUInt32 % 65536).toInt32 → R x4) →
  R o1
abbrev ky_3964_StringLatin1_charAt : gKey := (cJ1_charAt_3b067, 2, yJ1_charAt_3b067.cls, (some FieldType.char), [], yJ1_charAt_3b067.name, fun _ _ => True)
abbrev po_3964_StringLatin1_charAt (I : FieldType → ClassId) (qs3959 : Nat) (bs3960 : List Int32) (p3961 : Int32) : Option Value → va_W → Prop := fun r w => ∃ (o4001 : Int32), r = some (.int o4001) ∧ w = [] ∧ gB o4001 0 65535 ∧ tr_StringLatin1_charAt bs3960 p3961 o4001
set_option maxRecDepth 100000 in
set_option maxHeartbeats 4000000 in
theorem ct_3964_StringLatin1_charAt (l : Launch) (hl0 : l.stackTraces = false) (D : va_G) (I : FieldType → ClassId) (qs3959 : Nat) (bs3960 : List Int32) (p3961 : Int32) (hbs3960 : ∀ A s H, (gV D I).2.2.2.1 A s H → va_T .byte qs3959 bs3960.length (fun j => .int (bs3960.getD j 0)) A s H) (nbs3960 : (bs3960.length : Int) ≤ 65535) (x3962 : 0 ≤ p3961.toInt) (x3963 : p3961.toInt < (bs3960.length : Int)) : Ct (gV D I) l yJ1_charAt_3b067 cJ1_charAt_3b067 2 (some FieldType.char) 2 43 0 0 [.ref qs3959, .int p3961] [] (po_3964_StringLatin1_charAt I qs3959 bs3960 p3961) gN := by
  refine Ct_ofF hl0 (by decide +kernel) (Nat.le_of_ble_eq_true rfl) ?_
  have bp3961 := gB_any p3961
  refine G_iload_n 1 d_cJ1_charAt_3b067_0 rfl ?_
  refine G_aload_n 0 d_cJ1_charAt_3b067_1 rfl ?_
  refine G_klen d_cJ1_charAt_3b067_2 hbs3960 (G_nam fun z3965 hz3965 => ?_)
  have ez3965 : z3965.toInt = (bs3960.length : Int) := gI_ofN hz3965 nbs3960
  have bz3965 : gB z3965 0 65535 := ⟨by omega, by omega⟩
  refine G_callS (As := [.int p3961, .int z3965]) (wr := []) (gV_ok D I) (ct_3970_String_checkIndex l hl0 D I p3961 z3965 (by omega) (by omega)) d_cJ1_charAt_3b067_3 ⟨w_3_78, w_1_21, w_3_80, by decide, rfl, (Nat.le_of_ble_eq_true rfl), (Nat.le_of_ble_eq_true rfl)⟩ w_3_79 [] [] rfl rfl rfl rfl (by decide) (Nat.le_of_ble_eq_true rfl) (Nat.le_of_ble_eq_true rfl) (Nat.le_of_ble_eq_true rfl) (fun r w hp => ?_) (fun _ _ _ z => z.elim)
  obtain ⟨rfl, rfl, ht3997⟩ := hp
  change G _ _ _ _ _ _ _ _ _ _ _
  refine G_ws (ws' := []) (cs' := 0) (sl' := 0) rfl rfl rfl ?_
  refine G_aload_n 0 d_cJ1_charAt_3b067_6 rfl ?_
  refine G_iload_n 1 d_cJ1_charAt_3b067_7 rfl ?_
  refine G_kbald (f := fun j => bs3960.getD j 0) d_cJ1_charAt_3b067_8 hbs3960 (gB_inr (by omega) (by omega)) (G_nam fun z3998 hz3998 => ?_)
  have bz3998 : gB z3998 (-2147483648) 2147483647 := gB_any z3998
  refine G_sipush 255 d_cJ1_charAt_3b067_9 (by decide +kernel) ?_
  refine G_iand d_cJ1_charAt_3b067_12 (G_nam fun z3999 hz3999 => ?_)
  have bz3999 : gB z3999 0 255 := gB_and hz3999 (gBl (show Int32.toInt 255 = 255 by decide)) (by decide)
  refine G_i2c d_cJ1_charAt_3b067_13 (G_nam fun z4000 hz4000 => ?_)
  have bz4000 : gB z4000 0 65535 := gB_i2c hz4000
  exact G_zret FieldType.char d_cJ1_charAt_3b067_14 rfl (gN_char bz4000) (Nat.le_of_ble_eq_true rfl) (Nat.le_of_ble_eq_true rfl) ⟨z4000, rfl, rfl, bz4000, (fun R c1 => c1 z3965 z3998 z3999 z4000 ez3965 ht3997 hz3998 hz3999 hz4000)⟩
/- tr_String_charAt: result -/
def tr_String_charAt (bs : List Int32) (a1 : Int32) (o1 : Int32) : Prop := ∀ R : (Int32) → Prop,
  (∀ (x1 : Int32), gB x1 0 65535 → tr_StringLatin1_charAt bs a1 x1 → R x1) →
  R o1
abbrev ky_3954_String_charAt : gKey := (cJ0_charAt_5068e, 2, yJ0_charAt_5068e.cls, (some FieldType.char), [], yJ0_charAt_5068e.name, fun _ _ => True)
abbrev po_3954_String_charAt (I : FieldType → ClassId) (qs3948 : Nat) (qb3949 : Nat) (bs3950 : List Int32) (p3951 : Int32) : Option Value → va_W → Prop := fun r w => ∃ (o4004 : Int32), r = some (.int o4004) ∧ w = [] ∧ gB o4004 0 65535 ∧ tr_String_charAt bs3950 p3951 o4004
set_option maxRecDepth 100000 in
set_option maxHeartbeats 4000000 in
theorem ct_3954_String_charAt (l : Launch) (hl0 : l.stackTraces = false) (D : va_G) (I : FieldType → ClassId) (qs3948 : Nat) (qb3949 : Nat) (bs3950 : List Int32) (p3951 : Int32) (hbs3950 : ∀ A s H, (gV D I).2.2.2.1 A s H → gSC qs3948 qb3949 bs3950 A s H) (nbs3950 : (bs3950.length : Int) ≤ 65535) (x3952 : 0 ≤ p3951.toInt) (x3953 : p3951.toInt < (bs3950.length : Int)) : Ct (gV D I) l yJ0_charAt_5068e cJ0_charAt_5068e 2 (some FieldType.char) 3 64 0 0 [.ref qs3948, .int p3951] [] (po_3954_String_charAt I qs3948 qb3949 bs3950 p3951) gN := by
  refine Ct_ofF hl0 (by decide +kernel) (Nat.le_of_ble_eq_true rfl) ?_
  have bp3951 := gB_any p3951
  refine G_aload_n 0 d_cJ0_charAt_5068e_0 rfl ?_
  refine G_callVk (As := []) (wr := []) (gV_ok D I) (ct_3958_String_isLatin1 l hl0 D I qs3948 qb3949 bs3950 hbs3950 nbs3950) d_cJ0_charAt_5068e_1 ⟨w_3_71, w_1_21, w_3_74, by decide, rfl, (Nat.le_of_ble_eq_true rfl), (Nat.le_of_ble_eq_true rfl)⟩ w_3_72 w_3_73 (fun _ _ _ h => (hbs3950 _ _ _ h).1) [] [] rfl rfl rfl rfl (by decide) (Nat.le_of_ble_eq_true rfl) (Nat.le_of_ble_eq_true rfl) (Nat.le_of_ble_eq_true rfl) (fun r w hp => ?_) (fun _ _ _ z => z.elim)
  obtain ⟨rfl, rfl⟩ := hp
  change G _ _ _ _ _ _ _ (.int 1 :: _) _ _ _
  refine G_ws (ws' := []) (cs' := 0) (sl' := 0) rfl rfl rfl ?_
  refine G_if_eq 16 d_cJ0_charAt_5068e_4 (by decide +kernel) (fun hc => absurd hc (by decide)) (fun _ => ?_)
  refine G_aload_n 0 d_cJ0_charAt_5068e_7 rfl ?_
  refine G_kget d_cJ0_charAt_5068e_8 w_8_182 (fun _ _ _ h => (hbs3950 _ _ _ h).2.2.1) ?_
  refine G_iload_n 1 d_cJ0_charAt_5068e_11 rfl ?_
  refine G_callS (As := [.ref qb3949, .int p3951]) (wr := []) (gV_ok D I) (ct_3964_StringLatin1_charAt l hl0 D I qb3949 bs3950 p3951 (fun _ _ _ h => (hbs3950 _ _ _ h).2.2.2) (by omega) (by omega) (by omega)) d_cJ0_charAt_5068e_12 ⟨w_3_75, w_1_28, w_3_77, by decide, rfl, (Nat.le_of_ble_eq_true rfl), (Nat.le_of_ble_eq_true rfl)⟩ w_3_76 [] [] rfl rfl rfl rfl (by decide) (Nat.le_of_ble_eq_true rfl) (Nat.le_of_ble_eq_true rfl) (Nat.le_of_ble_eq_true rfl) (fun r w hp => ?_) (fun _ _ _ z => z.elim)
  obtain ⟨o4002, rfl, rfl, bo4002, ht4003⟩ := hp
  change G _ _ _ _ _ _ _ (.int o4002 :: _) _ _ _
  refine G_ws (ws' := []) (cs' := 0) (sl' := 0) rfl rfl rfl ?_
  exact G_zret FieldType.char d_cJ0_charAt_5068e_15 rfl (gN_char bo4002) (Nat.le_of_ble_eq_true rfl) (Nat.le_of_ble_eq_true rfl) ⟨o4002, rfl, rfl, bo4002, (fun R c1 => c1 o4002 bo4002 ht4003)⟩
/- tl_Signs_isWord_20: l2; out:  -/
def tl_Signs_isWord_20 (bs : List Int32) (Signs_place : Int32) (Tape_size : Int32) (Tape_bytes : Nat → Int32) (s1 : Int32) (k : Nat) : Prop := ∀ R : (Int32) → Nat → Prop,
  (∀ (l2_1 : Int32) (x1 : Int32), gB l2_1 0 65535 → gB x1 0 65535 → tr_String_length bs x1 → x1.toInt ≤ l2_1.toInt → R l2_1 57) →
  (∀ (l2_1 : Int32) (x1 : Int32) (x2 : Int32) (x3 : Int32) (x4 : Int32) (x5 : Int32) (k : Nat), gB l2_1 0 65535 → gB x1 0 65535 → tr_String_length bs x1 → l2_1.toInt < x1.toInt → x2 = Signs_place + l2_1 → gB x3 (-1) 255 → tr_Tape_byteAt x2 Tape_size Tape_bytes x3 → gB x4 0 65535 → tr_String_charAt bs l2_1 x4 → x3.toInt = x4.toInt → x5.toInt = l2_1.toInt + 1 → R x5 k → R l2_1 k) →
  (∀ (l2_1 : Int32) (x1 : Int32) (x2 : Int32) (x3 : Int32) (x4 : Int32), gB l2_1 0 65535 → gB x1 0 65535 → tr_String_length bs x1 → l2_1.toInt < x1.toInt → x2 = Signs_place + l2_1 → gB x3 (-1) 255 → tr_Tape_byteAt x2 Tape_size Tape_bytes x3 → gB x4 0 65535 → tr_String_charAt bs l2_1 x4 → x3.toInt ≠ x4.toInt → R l2_1 49) →
  R s1 k
/- tr_Signs_isWord: result -/
def tr_Signs_isWord (bs : List Int32) (Signs_place : Int32) (Signs_behind : Int32) (Tape_size : Int32) (Tape_bytes : Nat → Int32) (o1 : Int32) : Prop := ∀ R : (Int32) → Prop,
  (∀ (x1 : Int32) (x2 : Int32), x1 = Signs_behind - Signs_place → gB x2 0 65535 → tr_String_length bs x2 → x1.toInt = x2.toInt → tl_Signs_isWord_20 bs Signs_place Tape_size Tape_bytes (0 : Int32) 57 → R (1 : Int32)) →
  (∀ (x1 : Int32) (x2 : Int32), x1 = Signs_behind - Signs_place → gB x2 0 65535 → tr_String_length bs x2 → x1.toInt = x2.toInt → tl_Signs_isWord_20 bs Signs_place Tape_size Tape_bytes (0 : Int32) 49 → R (0 : Int32)) →
  (∀ (x1 : Int32) (x2 : Int32), x1 = Signs_behind - Signs_place → gB x2 0 65535 → tr_String_length bs x2 → x1.toInt ≠ x2.toInt → R (0 : Int32)) →
  R o1
abbrev ky_3921_Signs_isWord : gKey := (cX9_isWord, 3, yX9_isWord.cls, (some FieldType.boolean), [], yX9_isWord.name, fun _ _ => True)
abbrev po_3921_Signs_isWord (I : FieldType → ClassId) (q3908 : Nat) (q3909 : Nat) (q3910 : Nat) (qs3911 : Nat) (qb3912 : Nat) (bs3913 : List Int32) (p3914 : Int32) (p3915 : Int32) (p3916 : Int32) (p3917 : Int32) (p3918 : Int32) (f3919 : Nat → Int32) : Option Value → va_W → Prop := fun r w => ∃ (o4109 : Int32), r = some (.int o4109) ∧ w = [(q3908, .inr (14, [.ref q3909, .int p3914, .int p3915, .int p3916, .int p3917])), (q3909, .inr (15, [.ref q3910, .int p3918])), (q3910, .inl (I .byte, 8192, .inl f3919))] ∧ gB o4109 0 1 ∧ tr_Signs_isWord bs3913 p3916 p3917 p3918 f3919 o4109
set_option maxRecDepth 100000 in
set_option maxHeartbeats 4000000 in
theorem ct_3921_Signs_isWord (l : Launch) (hl0 : l.stackTraces = false) (D : va_G) (I : FieldType → ClassId) (q3908 : Nat) (q3909 : Nat) (q3910 : Nat) (qs3911 : Nat) (qb3912 : Nat) (bs3913 : List Int32) (p3914 : Int32) (p3915 : Int32) (p3916 : Int32) (p3917 : Int32) (p3918 : Int32) (f3919 : Nat → Int32) (hbs3913 : ∀ A s H, (gV D I).2.2.2.1 A s H → gSC qs3911 qb3912 bs3913 A s H) (nbs3913 : (bs3913.length : Int) ≤ 65535) (bp3918 : gB p3918 0 8192) (bf3919 : gF f3919 (-128) 127) (x3920 : (p3914.toInt ≠ 5 ∨ (0 ≤ p3915.toInt ∧ p3915.toInt ≤ 13))) : Ct (gV D I) l yX9_isWord cX9_isWord 3 (some FieldType.boolean) 4 85 0 0 [.ref q3908, .ref qs3911] [(q3908, .inr (14, [.ref q3909, .int p3914, .int p3915, .int p3916, .int p3917])), (q3909, .inr (15, [.ref q3910, .int p3918])), (q3910, .inl (I .byte, 8192, .inl f3919))] (po_3921_Signs_isWord I q3908 q3909 q3910 qs3911 qb3912 bs3913 p3914 p3915 p3916 p3917 p3918 f3919) gN := by
  refine Ct_of hl0 (by decide) (Nat.le_of_ble_eq_true rfl) ?_
  have bp3914 := gB_any p3914
  have bp3915 := gB_any p3915
  have bp3916 := gB_any p3916
  have bp3917 := gB_any p3917
  refine G_aload_n 0 d_cX9_isWord_0 rfl ?_
  refine G_getf 0 4 d_cX9_isWord_1 rfl (gk_X9 D I) (Nat.le_of_ble_eq_true rfl) w_1_83 rfl ?_
  refine G_aload_n 0 d_cX9_isWord_4 rfl ?_
  refine G_getf 0 3 d_cX9_isWord_5 rfl (gk_X9 D I) (Nat.le_of_ble_eq_true rfl) w_1_82 rfl ?_
  refine G_isub d_cX9_isWord_8 (G_nam fun z3922 hz3922 => ?_)
  have bz3922 : gB z3922 (-2147483648) 2147483647 := gB_any z3922
  refine G_aload_n 1 d_cX9_isWord_9 rfl ?_
  refine G_callVk (As := []) (wr := [(q3908, .inr (14, [.ref q3909, .int p3914, .int p3915, .int p3916, .int p3917])), (q3909, .inr (15, [.ref q3910, .int p3918])), (q3910, .inl (I .byte, 8192, .inl f3919))]) (gV_ok D I) (ct_3926_String_length l hl0 D I qs3911 qb3912 bs3913 hbs3913 nbs3913) d_cX9_isWord_10 ⟨w_3_57, w_1_21, w_3_60, by decide, rfl, (Nat.le_of_ble_eq_true rfl), (Nat.le_of_ble_eq_true rfl)⟩ w_3_58 w_3_59 (fun _ _ _ h => (hbs3913 _ _ _ h).1) [] [0, 1, 2] rfl rfl rfl rfl (by decide) (Nat.le_of_ble_eq_true rfl) (Nat.le_of_ble_eq_true rfl) (Nat.le_of_ble_eq_true rfl) (fun r w hp => ?_) (fun _ _ _ z => z.elim)
  obtain ⟨o3934, rfl, rfl, bo3934, x3935, ht3936⟩ := hp
  change G _ _ _ _ _ _ _ (.int o3934 :: _) _ _ _
  refine G_ws (ws' := [(q3908, .inr (14, [.ref q3909, .int p3914, .int p3915, .int p3916, .int p3917])), (q3909, .inr (15, [.ref q3910, .int p3918])), (q3910, .inl (I .byte, 8192, .inl f3919))]) (cs' := 0) (sl' := 0) rfl rfl rfl ?_
  refine G_icmp_eq 18 d_cX9_isWord_13 (by decide +kernel) (fun hc3937 => ?_) (fun hc3937 => ?_)
  · have r3938 : z3922.toInt = o3934.toInt := gC_eq hc3937
    have bz3922' : gB z3922 0 65535 := ⟨by omega, by omega⟩
    refine G_iconst 0 d_cX9_isWord_18 (by decide +kernel) ?_
    refine G_istore_n (L' := [(2, .int 0), (0, .ref q3908), (1, .ref qs3911)]) d_cX9_isWord_19 (Nat.le_of_ble_eq_true rfl) rfl ?_
    have hlp20_4090 : ∀ (n20_4090 : Nat) (g4090 : Int32), gB g4090 0 65535 → (∀ (k : Nat), tl_Signs_isWord_20 bs3913 p3916 p3918 f3919 g4090 k → tl_Signs_isWord_20 bs3913 p3916 p3918 f3919 (0 : Int32) k) → ((65536 : Int) - g4090.toInt).toNat < n20_4090 → G (gV D I) l (gRm 4 85 0 0) (gM (gV D I) (po_3921_Signs_isWord I q3908 q3909 q3910 qs3911 qb3912 bs3913 p3914 p3915 p3916 p3917 p3918 f3919) gN 0 0) ky_3921_Signs_isWord 20 [(2, .int g4090), (0, .ref q3908), (1, .ref qs3911)] [] [(q3908, .inr (14, [.ref q3909, .int p3914, .int p3915, .int p3916, .int p3917])), (q3909, .inr (15, [.ref q3910, .int p3918])), (q3910, .inl (I .byte, 8192, .inl f3919))] 0 0 := by
      intro n20_4090
      induction n20_4090 with
      | zero => intro g4090 bg4090 kt20_4090 hm20_4090; exact absurd hm20_4090 (Nat.not_lt_zero _)
      | succ n20_4090 ih20_4090 =>
        intro g4090 bg4090 kt20_4090 hm20_4090
        refine G_iload_n 0 d_cX9_isWord_20 rfl ?_
        refine G_aload_n 2 d_cX9_isWord_21 rfl ?_
        refine G_callVk (As := []) (wr := [(q3908, .inr (14, [.ref q3909, .int p3914, .int p3915, .int p3916, .int p3917])), (q3909, .inr (15, [.ref q3910, .int p3918])), (q3910, .inl (I .byte, 8192, .inl f3919))]) (gV_ok D I) (ct_3926_String_length l hl0 D I qs3911 qb3912 bs3913 hbs3913 nbs3913) d_cX9_isWord_22 ⟨w_3_57, w_1_21, w_3_60, by decide, rfl, (Nat.le_of_ble_eq_true rfl), (Nat.le_of_ble_eq_true rfl)⟩ w_3_58 w_3_59 (fun _ _ _ h => (hbs3913 _ _ _ h).1) [] [0, 1, 2] rfl rfl rfl rfl (by decide) (Nat.le_of_ble_eq_true rfl) (Nat.le_of_ble_eq_true rfl) (Nat.le_of_ble_eq_true rfl) (fun r w hp => ?_) (fun _ _ _ z => z.elim)
        obtain ⟨o4091, rfl, rfl, bo4091, x4092, ht4093⟩ := hp
        change G _ _ _ _ _ _ _ (.int o4091 :: _) _ _ _
        refine G_ws (ws' := [(q3908, .inr (14, [.ref q3909, .int p3914, .int p3915, .int p3916, .int p3917])), (q3909, .inr (15, [.ref q3910, .int p3918])), (q3910, .inl (I .byte, 8192, .inl f3919))]) (cs' := 0) (sl' := 0) rfl rfl rfl ?_
        refine G_icmp_ge 57 d_cX9_isWord_25 (by decide +kernel) (fun hc4094 => ?_) (fun hc4094 => ?_)
        · have r4095 : o4091.toInt ≤ g4090.toInt := gC_le hc4094
          have hx4096 : tl_Signs_isWord_20 bs3913 p3916 p3918 f3919 (0 : Int32) 57 := kt20_4090 57 (fun R c1 c2 c3 => c1 g4090 o4091 bg4090 bo4091 ht4093 r4095)
          refine G_iconst 1 d_cX9_isWord_57 (by decide +kernel) ?_
          exact G_zret FieldType.boolean d_cX9_isWord_58 rfl rfl (Nat.le_of_ble_eq_true rfl) (Nat.le_of_ble_eq_true rfl) ⟨1, rfl, rfl, (gB_w (gBl (show Int32.toInt 1 = 1 by decide)) (by decide) (by decide)), (fun R c1 c2 c3 => c1 z3922 o3934 hz3922 bo3934 ht3936 r3938 hx4096)⟩
        · have r4097 : g4090.toInt < o4091.toInt := gC_nle hc4094
          have bg4090' : gB g4090 0 65534 := ⟨by omega, by omega⟩
          have bo4091' : gB o4091 1 65535 := ⟨by omega, by omega⟩
          refine G_aload_n 1 d_cX9_isWord_28 rfl ?_
          refine G_getf 0 0 d_cX9_isWord_29 rfl (gk_X9 D I) (Nat.le_of_ble_eq_true rfl) w_1_79 rfl ?_
          refine G_aload_n 1 d_cX9_isWord_32 rfl ?_
          refine G_getf 0 3 d_cX9_isWord_33 rfl (gk_X9 D I) (Nat.le_of_ble_eq_true rfl) w_1_82 rfl ?_
          refine G_iload_n 0 d_cX9_isWord_36 rfl ?_
          refine G_iadd d_cX9_isWord_37 (G_nam fun z4098 hz4098 => ?_)
          have bz4098 : gB z4098 (-2147483648) 2147483647 := gB_any z4098
          refine G_callV (As := [.int z4098]) (wr := [(q3908, .inr (14, [.ref q3909, .int p3914, .int p3915, .int p3916, .int p3917]))]) (gV_ok D I) (ct_31_Tape_byteAt l hl0 D I q3909 q3910 z4098 p3918 f3919 bp3918 bf3919) d_cX9_isWord_38 ⟨w_3_20, w_1_2, w_3_23, by decide, rfl, (Nat.le_of_ble_eq_true rfl), (Nat.le_of_ble_eq_true rfl)⟩ w_3_21 w_3_22 1 rfl rfl [1, 2] [0] rfl rfl rfl rfl (by decide) (Nat.le_of_ble_eq_true rfl) (Nat.le_of_ble_eq_true rfl) (Nat.le_of_ble_eq_true rfl) (fun r w hp => ?_) (fun _ _ _ z => z.elim)
          obtain ⟨o4099, rfl, rfl, bo4099, ht4100⟩ := hp
          change G _ _ _ _ _ _ _ (.int o4099 :: _) _ _ _
          refine G_ws (ws' := [(q3908, .inr (14, [.ref q3909, .int p3914, .int p3915, .int p3916, .int p3917])), (q3909, .inr (15, [.ref q3910, .int p3918])), (q3910, .inl (I .byte, 8192, .inl f3919))]) (cs' := 0) (sl' := 0) rfl rfl rfl ?_
          refine G_aload_n 2 d_cX9_isWord_41 rfl ?_
          refine G_iload_n 0 d_cX9_isWord_42 rfl ?_
          refine G_callVk (As := [.int g4090]) (wr := [(q3908, .inr (14, [.ref q3909, .int p3914, .int p3915, .int p3916, .int p3917])), (q3909, .inr (15, [.ref q3910, .int p3918])), (q3910, .inl (I .byte, 8192, .inl f3919))]) (gV_ok D I) (ct_3954_String_charAt l hl0 D I qs3911 qb3912 bs3913 g4090 hbs3913 nbs3913 (by omega) (by omega)) d_cX9_isWord_43 ⟨w_3_67, w_1_21, w_3_70, by decide, rfl, (Nat.le_of_ble_eq_true rfl), (Nat.le_of_ble_eq_true rfl)⟩ w_3_68 w_3_69 (fun _ _ _ h => (hbs3913 _ _ _ h).1) [] [0, 1, 2] rfl rfl rfl rfl (by decide) (Nat.le_of_ble_eq_true rfl) (Nat.le_of_ble_eq_true rfl) (Nat.le_of_ble_eq_true rfl) (fun r w hp => ?_) (fun _ _ _ z => z.elim)
          obtain ⟨o4101, rfl, rfl, bo4101, ht4102⟩ := hp
          change G _ _ _ _ _ _ _ (.int o4101 :: _) _ _ _
          refine G_ws (ws' := [(q3908, .inr (14, [.ref q3909, .int p3914, .int p3915, .int p3916, .int p3917])), (q3909, .inr (15, [.ref q3910, .int p3918])), (q3910, .inl (I .byte, 8192, .inl f3919))]) (cs' := 0) (sl' := 0) rfl rfl rfl ?_
          refine G_icmp_eq 51 d_cX9_isWord_46 (by decide +kernel) (fun hc4103 => ?_) (fun hc4103 => ?_)
          · have r4104 : o4099.toInt = o4101.toInt := gC_eq hc4103
            have bo4099' : gB o4099 0 255 := ⟨by omega, by omega⟩
            have bo4101' : gB o4101 0 255 := ⟨by omega, by omega⟩
            obtain ⟨z4105, hz4105⟩ : ∃ z : Int32, z = g4090 + Int32.ofInt 1 := ⟨_, rfl⟩
            have ez4105 : z4105.toInt = g4090.toInt + 1 := gI_inc hz4105 (by decide) bg4090' (by decide) (by decide)
            have bz4105 : gB z4105 1 65535 := ⟨by omega, by omega⟩
            refine G_iinc (L' := [(2, .int z4105), (0, .ref q3908), (1, .ref qs3911)]) z4105 0 d_cX9_isWord_51 rfl hz4105.symm (Nat.le_of_ble_eq_true rfl) rfl ?_
            refine G_goto 20 d_cX9_isWord_54 (by decide +kernel) ?_
            exact ih20_4090 z4105 (gB_w bz4105 (by decide) (by decide)) (fun k ht => kt20_4090 k (fun R c1 c2 c3 => c2 g4090 o4091 z4098 o4099 o4101 z4105 k bg4090 bo4091 ht4093 r4097 hz4098 bo4099 ht4100 bo4101 ht4102 r4104 ez4105 (ht R c1 c2 c3))) (by omega)
          · have r4106 : o4099.toInt ≠ o4101.toInt := gC_ne hc4103
            have hx4107 : tl_Signs_isWord_20 bs3913 p3916 p3918 f3919 (0 : Int32) 49 := kt20_4090 49 (fun R c1 c2 c3 => c3 g4090 o4091 z4098 o4099 o4101 bg4090 bo4091 ht4093 r4097 hz4098 bo4099 ht4100 bo4101 ht4102 r4106)
            refine G_iconst 0 d_cX9_isWord_49 (by decide +kernel) ?_
            exact G_zret FieldType.boolean d_cX9_isWord_50 rfl rfl (Nat.le_of_ble_eq_true rfl) (Nat.le_of_ble_eq_true rfl) ⟨0, rfl, rfl, (gB_w (gBl (show Int32.toInt 0 = 0 by decide)) (by decide) (by decide)), (fun R c1 c2 c3 => c2 z3922 o3934 hz3922 bo3934 ht3936 r3938 hx4107)⟩
    exact hlp20_4090 (((65536 : Int) - 0).toNat + 1) 0 (gB_w (gBl (show Int32.toInt 0 = 0 by decide)) (by decide) (by decide)) (fun k ht => ht) (Nat.lt_succ_self _)
  · have r4108 : z3922.toInt ≠ o3934.toInt := gC_ne hc3937
    refine G_iconst 0 d_cX9_isWord_16 (by decide +kernel) ?_
    exact G_zret FieldType.boolean d_cX9_isWord_17 rfl rfl (Nat.le_of_ble_eq_true rfl) (Nat.le_of_ble_eq_true rfl) ⟨0, rfl, rfl, (gB_w (gBl (show Int32.toInt 0 = 0 by decide)) (by decide) (by decide)), (fun R c1 c2 c3 => c3 z3922 o3934 hz3922 bo3934 ht3936 r4108)⟩
/- tl_Signs_takeWord_5: l1; out: l1 -/
def tl_Signs_takeWord_5 (Tape_size : Int32) (Tape_bytes : Nat → Int32) (s1 : Int32) (k : Nat) (e1 : Int32) : Prop := ∀ R : (Int32) → Nat → (Int32) → Prop,
  (∀ (l1_1 : Int32), Tape_size.toInt ≤ l1_1.toInt → R l1_1 36 l1_1) →
  (∀ (l1_1 : Int32) (x1 : Int32) (x2 : Int32), l1_1.toInt < Tape_size.toInt → gB x1 (-1) 255 → tr_Tape_byteAt l1_1 Tape_size Tape_bytes x1 → gB x2 0 1 → tr_Signs_isLetter x1 x2 → x2.toInt = 0 → R l1_1 36 l1_1) →
  (∀ (l1_1 : Int32) (x1 : Int32) (x2 : Int32) (x3 : Int32) (k : Nat) (e1 : Int32), l1_1.toInt < Tape_size.toInt → gB x1 (-1) 255 → tr_Tape_byteAt l1_1 Tape_size Tape_bytes x1 → gB x2 0 1 → tr_Signs_isLetter x1 x2 → x2.toInt ≠ 0 → x3.toInt = l1_1.toInt + 1 → R x3 k e1 → R l1_1 k e1) →
  R s1 k e1
/- tr_Signs_takeWord: Signs_kind, Signs_behind -/
def tr_Signs_takeWord (Signs_place : Int32) (Tape_size : Int32) (Tape_bytes : Nat → Int32) (o1 : Int32) (o2 : Int32) : Prop := ∀ R : (Int32) → (Int32) → Prop,
  (∀ (x1 : Int32) (x2 : Int32) (x3 : Int32) (x4 : Int32) (x5 : Int32) (x6 : Int32), tl_Signs_takeWord_5 Tape_size Tape_bytes Signs_place 36 x1 → gB x2 0 1 → tr_Signs_isWord sb_0 Signs_place x1 Tape_size Tape_bytes x2 → x2.toInt = 0 → gB x3 0 1 → tr_Signs_isWord sb_1 Signs_place x1 Tape_size Tape_bytes x3 → x3.toInt = 0 → gB x4 0 1 → tr_Signs_isWord sb_2 Signs_place x1 Tape_size Tape_bytes x4 → x4.toInt = 0 → gB x5 0 1 → tr_Signs_isWord sb_3 Signs_place x1 Tape_size Tape_bytes x5 → x5.toInt = 0 → gB x6 0 1 → tr_Signs_isWord sb_4 Signs_place x1 Tape_size Tape_bytes x6 → x6.toInt = 0 → R (0 : Int32) x1) →
  (∀ (x1 : Int32) (x2 : Int32) (x3 : Int32) (x4 : Int32) (x5 : Int32) (x6 : Int32), tl_Signs_takeWord_5 Tape_size Tape_bytes Signs_place 36 x1 → gB x2 0 1 → tr_Signs_isWord sb_0 Signs_place x1 Tape_size Tape_bytes x2 → x2.toInt = 0 → gB x3 0 1 → tr_Signs_isWord sb_1 Signs_place x1 Tape_size Tape_bytes x3 → x3.toInt = 0 → gB x4 0 1 → tr_Signs_isWord sb_2 Signs_place x1 Tape_size Tape_bytes x4 → x4.toInt = 0 → gB x5 0 1 → tr_Signs_isWord sb_3 Signs_place x1 Tape_size Tape_bytes x5 → x5.toInt = 0 → gB x6 0 1 → tr_Signs_isWord sb_4 Signs_place x1 Tape_size Tape_bytes x6 → x6.toInt ≠ 0 → R (12 : Int32) x1) →
  (∀ (x1 : Int32) (x2 : Int32) (x3 : Int32) (x4 : Int32) (x5 : Int32), tl_Signs_takeWord_5 Tape_size Tape_bytes Signs_place 36 x1 → gB x2 0 1 → tr_Signs_isWord sb_0 Signs_place x1 Tape_size Tape_bytes x2 → x2.toInt = 0 → gB x3 0 1 → tr_Signs_isWord sb_1 Signs_place x1 Tape_size Tape_bytes x3 → x3.toInt = 0 → gB x4 0 1 → tr_Signs_isWord sb_2 Signs_place x1 Tape_size Tape_bytes x4 → x4.toInt = 0 → gB x5 0 1 → tr_Signs_isWord sb_3 Signs_place x1 Tape_size Tape_bytes x5 → x5.toInt ≠ 0 → R (11 : Int32) x1) →
  (∀ (x1 : Int32) (x2 : Int32) (x3 : Int32) (x4 : Int32), tl_Signs_takeWord_5 Tape_size Tape_bytes Signs_place 36 x1 → gB x2 0 1 → tr_Signs_isWord sb_0 Signs_place x1 Tape_size Tape_bytes x2 → x2.toInt = 0 → gB x3 0 1 → tr_Signs_isWord sb_1 Signs_place x1 Tape_size Tape_bytes x3 → x3.toInt = 0 → gB x4 0 1 → tr_Signs_isWord sb_2 Signs_place x1 Tape_size Tape_bytes x4 → x4.toInt ≠ 0 → R (10 : Int32) x1) →
  (∀ (x1 : Int32) (x2 : Int32) (x3 : Int32), tl_Signs_takeWord_5 Tape_size Tape_bytes Signs_place 36 x1 → gB x2 0 1 → tr_Signs_isWord sb_0 Signs_place x1 Tape_size Tape_bytes x2 → x2.toInt = 0 → gB x3 0 1 → tr_Signs_isWord sb_1 Signs_place x1 Tape_size Tape_bytes x3 → x3.toInt ≠ 0 → R (9 : Int32) x1) →
  (∀ (x1 : Int32) (x2 : Int32), tl_Signs_takeWord_5 Tape_size Tape_bytes Signs_place 36 x1 → gB x2 0 1 → tr_Signs_isWord sb_0 Signs_place x1 Tape_size Tape_bytes x2 → x2.toInt ≠ 0 → R (8 : Int32) x1) →
  R o1 o2
abbrev ky_3904_Signs_takeWord : gKey := (cX9_takeWord, 2, yX9_takeWord.cls, none, [], yX9_takeWord.name, fun _ _ => True)
abbrev po_3904_Signs_takeWord (I : FieldType → ClassId) (q3894 : Nat) (q3895 : Nat) (q3896 : Nat) (p3897 : Int32) (p3898 : Int32) (p3899 : Int32) (p3900 : Int32) (p3901 : Int32) (f3902 : Nat → Int32) : Option Value → va_W → Prop := fun r w => ∃ (o4324 : Int32) (o4325 : Int32), r = none ∧ w = [(q3894, .inr (14, [.ref q3895, .int o4324, .int p3898, .int p3899, .int o4325])), (q3895, .inr (15, [.ref q3896, .int p3901])), (q3896, .inl (I .byte, 8192, .inl f3902))] ∧ gB o4324 0 12 ∧ gB o4325 (-2147483648) 2147483647 ∧ (o4324.toInt ≠ 5 ∨ (0 ≤ p3898.toInt ∧ p3898.toInt ≤ 13)) ∧ tr_Signs_takeWord p3899 p3901 f3902 o4324 o4325
set_option maxRecDepth 100000 in
set_option maxHeartbeats 4000000 in
theorem ct_3904_Signs_takeWord (l : Launch) (hl0 : l.stackTraces = false) (D : va_G) (I : FieldType → ClassId) (q3894 : Nat) (q3895 : Nat) (q3896 : Nat) (p3897 : Int32) (p3898 : Int32) (p3899 : Int32) (p3900 : Int32) (p3901 : Int32) (f3902 : Nat → Int32) (bp3901 : gB p3901 0 8192) (bf3902 : gF f3902 (-128) 127) (x3903 : (p3897.toInt ≠ 5 ∨ (0 ≤ p3898.toInt ∧ p3898.toInt ≤ 13))) : Ct (gV D I) l yX9_takeWord cX9_takeWord 2 none 5 107 0 0 [.ref q3894] [(q3894, .inr (14, [.ref q3895, .int p3897, .int p3898, .int p3899, .int p3900])), (q3895, .inr (15, [.ref q3896, .int p3901])), (q3896, .inl (I .byte, 8192, .inl f3902))] (po_3904_Signs_takeWord I q3894 q3895 q3896 p3897 p3898 p3899 p3900 p3901 f3902) gN := by
  refine Ct_of hl0 (by decide) (Nat.le_of_ble_eq_true rfl) ?_
  have bp3897 := gB_any p3897
  have bp3898 := gB_any p3898
  have bp3899 := gB_any p3899
  have bp3900 := gB_any p3900
  refine G_aload_n 0 d_cX9_takeWord_0 rfl ?_
  refine G_getf 0 3 d_cX9_takeWord_1 rfl (gk_X9 D I) (Nat.le_of_ble_eq_true rfl) w_1_82 rfl ?_
  refine G_istore_n (L' := [(1, .int p3899), (0, .ref q3894)]) d_cX9_takeWord_4 (Nat.le_of_ble_eq_true rfl) rfl ?_
  have hlp5_4250 : ∀ (n5_4250 : Nat) (g4250 : Int32), gB g4250 (-2147483648) 2147483647 → (∀ (k : Nat) (e1 : Int32), tl_Signs_takeWord_5 p3901 f3902 g4250 k e1 → tl_Signs_takeWord_5 p3901 f3902 p3899 k e1) → ((2147483648 : Int) - g4250.toInt).toNat < n5_4250 → G (gV D I) l (gRm 5 107 0 0) (gM (gV D I) (po_3904_Signs_takeWord I q3894 q3895 q3896 p3897 p3898 p3899 p3900 p3901 f3902) gN 0 0) ky_3904_Signs_takeWord 5 [(1, .int g4250), (0, .ref q3894)] [] [(q3894, .inr (14, [.ref q3895, .int p3897, .int p3898, .int p3899, .int p3900])), (q3895, .inr (15, [.ref q3896, .int p3901])), (q3896, .inl (I .byte, 8192, .inl f3902))] 0 0 := by
    intro n5_4250
    induction n5_4250 with
    | zero => intro g4250 bg4250 kt5_4250 hm5_4250; exact absurd hm5_4250 (Nat.not_lt_zero _)
    | succ n5_4250 ih5_4250 =>
      intro g4250 bg4250 kt5_4250 hm5_4250
      refine G_iload_n 0 d_cX9_takeWord_5 rfl ?_
      refine G_aload_n 1 d_cX9_takeWord_6 rfl ?_
      refine G_getf 0 0 d_cX9_takeWord_7 rfl (gk_X9 D I) (Nat.le_of_ble_eq_true rfl) w_1_79 rfl ?_
      refine G_callV (As := []) (wr := [(q3894, .inr (14, [.ref q3895, .int p3897, .int p3898, .int p3899, .int p3900]))]) (gV_ok D I) (ct_5_Tape_size l hl0 D I q3895 q3896 p3901 f3902 bp3901 bf3902) d_cX9_takeWord_10 ⟨w_3_16, w_1_2, w_3_19, by decide, rfl, (Nat.le_of_ble_eq_true rfl), (Nat.le_of_ble_eq_true rfl)⟩ w_3_17 w_3_18 1 rfl rfl [1, 2] [0] rfl rfl rfl rfl (by decide) (Nat.le_of_ble_eq_true rfl) (Nat.le_of_ble_eq_true rfl) (Nat.le_of_ble_eq_true rfl) (fun r w hp => ?_) (fun _ _ _ z => z.elim)
      obtain ⟨rfl, rfl⟩ := hp
      change G _ _ _ _ _ _ _ (.int p3901 :: _) _ _ _
      refine G_ws (ws' := [(q3894, .inr (14, [.ref q3895, .int p3897, .int p3898, .int p3899, .int p3900])), (q3895, .inr (15, [.ref q3896, .int p3901])), (q3896, .inl (I .byte, 8192, .inl f3902))]) (cs' := 0) (sl' := 0) rfl rfl rfl ?_
      refine G_icmp_ge 36 d_cX9_takeWord_13 (by decide +kernel) (fun hc4251 => ?_) (fun hc4251 => ?_)
      · have r4252 : p3901.toInt ≤ g4250.toInt := gC_le hc4251
        have bg4250' : gB g4250 0 2147483647 := ⟨by omega, by omega⟩
        have hx4253 : tl_Signs_takeWord_5 p3901 f3902 p3899 36 g4250 := kt5_4250 36 g4250 (fun R c1 c2 c3 => c1 g4250 r4252)
        refine G_aload_n 1 d_cX9_takeWord_36 rfl ?_
        refine G_iload_n 0 d_cX9_takeWord_37 rfl ?_
        refine G_putf (ws' := [(q3894, .inr (14, [.ref q3895, .int p3897, .int p3898, .int p3899, .int g4250])), (q3895, .inr (15, [.ref q3896, .int p3901])), (q3896, .inl (I .byte, 8192, .inl f3902))]) 0 4 d_cX9_takeWord_38 rfl (gk_X9 D I) (Nat.le_of_ble_eq_true rfl) w_1_83 rfl rfl rfl (Nat.le_of_ble_eq_true rfl) rfl ?_
        refine G_aload_n 1 d_cX9_takeWord_41 rfl ?_
        refine G_aload_n 1 d_cX9_takeWord_42 rfl ?_
        refine G_ldcK (a := D.2 1000 0) d_cX9_takeWord_43 (fun _ _ _ h => gx_vk 0 rfl rfl h) ?_
        have hl0_4253 : (sb_0.length : Int) = 2 := rfl
        refine G_callV (As := [.ref (D.2 1000 0)]) (wr := []) (gV_ok D I) (ct_3921_Signs_isWord l hl0 D I q3894 q3895 q3896 (D.2 1000 0) (D.2 1001 0) sb_0 p3897 p3898 p3899 g4250 p3901 f3902 (gx_sc 0 rfl rfl) (by omega) bp3901 bf3902 (by omega)) d_cX9_takeWord_45 ⟨w_3_53, w_1_4, w_3_56, by decide, rfl, (Nat.le_of_ble_eq_true rfl), (Nat.le_of_ble_eq_true rfl)⟩ w_3_55 w_p_5 0 rfl rfl [0, 1, 2] [] rfl rfl rfl rfl (by decide) (Nat.le_of_ble_eq_true rfl) (Nat.le_of_ble_eq_true rfl) (Nat.le_of_ble_eq_true rfl) (fun r w hp => ?_) (fun _ _ _ z => z.elim)
        obtain ⟨o4255, rfl, rfl, bo4255, ht4256⟩ := hp
        change G _ _ _ _ _ _ _ (.int o4255 :: _) _ _ _
        refine G_ws (ws' := [(q3894, .inr (14, [.ref q3895, .int p3897, .int p3898, .int p3899, .int g4250])), (q3895, .inr (15, [.ref q3896, .int p3901])), (q3896, .inl (I .byte, 8192, .inl f3902))]) (cs' := 0) (sl' := 0) rfl rfl rfl ?_
        refine G_if_eq 56 d_cX9_takeWord_48 (by decide +kernel) (fun hc4257 => ?_) (fun hc4257 => ?_)
        · have r4258 : o4255.toInt = 0 := gj_eq hc4257 (show Int32.toInt 0 = 0 by decide)
          have bo4255' : gB o4255 0 0 := ⟨by omega, by omega⟩
          refine G_aload_n 1 d_cX9_takeWord_56 rfl ?_
          refine G_ldcK (a := D.2 1000 1) d_cX9_takeWord_57 (fun _ _ _ h => gx_vk 1 rfl rfl h) ?_
          have hl1_4258 : (sb_1.length : Int) = 4 := rfl
          refine G_callV (As := [.ref (D.2 1000 1)]) (wr := []) (gV_ok D I) (ct_3921_Signs_isWord l hl0 D I q3894 q3895 q3896 (D.2 1000 1) (D.2 1001 1) sb_1 p3897 p3898 p3899 g4250 p3901 f3902 (gx_sc 1 rfl rfl) (by omega) bp3901 bf3902 (by omega)) d_cX9_takeWord_59 ⟨w_3_53, w_1_4, w_3_56, by decide, rfl, (Nat.le_of_ble_eq_true rfl), (Nat.le_of_ble_eq_true rfl)⟩ w_3_55 w_p_5 0 rfl rfl [0, 1, 2] [] rfl rfl rfl rfl (by decide) (Nat.le_of_ble_eq_true rfl) (Nat.le_of_ble_eq_true rfl) (Nat.le_of_ble_eq_true rfl) (fun r w hp => ?_) (fun _ _ _ z => z.elim)
          obtain ⟨o4260, rfl, rfl, bo4260, ht4261⟩ := hp
          change G _ _ _ _ _ _ _ (.int o4260 :: _) _ _ _
          refine G_ws (ws' := [(q3894, .inr (14, [.ref q3895, .int p3897, .int p3898, .int p3899, .int g4250])), (q3895, .inr (15, [.ref q3896, .int p3901])), (q3896, .inl (I .byte, 8192, .inl f3902))]) (cs' := 0) (sl' := 0) rfl rfl rfl ?_
          refine G_if_eq 70 d_cX9_takeWord_62 (by decide +kernel) (fun hc4262 => ?_) (fun hc4262 => ?_)
          · have r4263 : o4260.toInt = 0 := gj_eq hc4262 (show Int32.toInt 0 = 0 by decide)
            have bo4260' : gB o4260 0 0 := ⟨by omega, by omega⟩
            refine G_aload_n 1 d_cX9_takeWord_70 rfl ?_
            refine G_ldcK (a := D.2 1000 2) d_cX9_takeWord_71 (fun _ _ _ h => gx_vk 2 rfl rfl h) ?_
            have hl2_4263 : (sb_2.length : Int) = 2 := rfl
            refine G_callV (As := [.ref (D.2 1000 2)]) (wr := []) (gV_ok D I) (ct_3921_Signs_isWord l hl0 D I q3894 q3895 q3896 (D.2 1000 2) (D.2 1001 2) sb_2 p3897 p3898 p3899 g4250 p3901 f3902 (gx_sc 2 rfl rfl) (by omega) bp3901 bf3902 (by omega)) d_cX9_takeWord_73 ⟨w_3_53, w_1_4, w_3_56, by decide, rfl, (Nat.le_of_ble_eq_true rfl), (Nat.le_of_ble_eq_true rfl)⟩ w_3_55 w_p_5 0 rfl rfl [0, 1, 2] [] rfl rfl rfl rfl (by decide) (Nat.le_of_ble_eq_true rfl) (Nat.le_of_ble_eq_true rfl) (Nat.le_of_ble_eq_true rfl) (fun r w hp => ?_) (fun _ _ _ z => z.elim)
            obtain ⟨o4265, rfl, rfl, bo4265, ht4266⟩ := hp
            change G _ _ _ _ _ _ _ (.int o4265 :: _) _ _ _
            refine G_ws (ws' := [(q3894, .inr (14, [.ref q3895, .int p3897, .int p3898, .int p3899, .int g4250])), (q3895, .inr (15, [.ref q3896, .int p3901])), (q3896, .inl (I .byte, 8192, .inl f3902))]) (cs' := 0) (sl' := 0) rfl rfl rfl ?_
            refine G_if_eq 84 d_cX9_takeWord_76 (by decide +kernel) (fun hc4267 => ?_) (fun hc4267 => ?_)
            · have r4268 : o4265.toInt = 0 := gj_eq hc4267 (show Int32.toInt 0 = 0 by decide)
              have bo4265' : gB o4265 0 0 := ⟨by omega, by omega⟩
              refine G_aload_n 1 d_cX9_takeWord_84 rfl ?_
              refine G_ldcK (a := D.2 1000 3) d_cX9_takeWord_85 (fun _ _ _ h => gx_vk 3 rfl rfl h) ?_
              have hl3_4268 : (sb_3.length : Int) = 4 := rfl
              refine G_callV (As := [.ref (D.2 1000 3)]) (wr := []) (gV_ok D I) (ct_3921_Signs_isWord l hl0 D I q3894 q3895 q3896 (D.2 1000 3) (D.2 1001 3) sb_3 p3897 p3898 p3899 g4250 p3901 f3902 (gx_sc 3 rfl rfl) (by omega) bp3901 bf3902 (by omega)) d_cX9_takeWord_87 ⟨w_3_53, w_1_4, w_3_56, by decide, rfl, (Nat.le_of_ble_eq_true rfl), (Nat.le_of_ble_eq_true rfl)⟩ w_3_55 w_p_5 0 rfl rfl [0, 1, 2] [] rfl rfl rfl rfl (by decide) (Nat.le_of_ble_eq_true rfl) (Nat.le_of_ble_eq_true rfl) (Nat.le_of_ble_eq_true rfl) (fun r w hp => ?_) (fun _ _ _ z => z.elim)
              obtain ⟨o4270, rfl, rfl, bo4270, ht4271⟩ := hp
              change G _ _ _ _ _ _ _ (.int o4270 :: _) _ _ _
              refine G_ws (ws' := [(q3894, .inr (14, [.ref q3895, .int p3897, .int p3898, .int p3899, .int g4250])), (q3895, .inr (15, [.ref q3896, .int p3901])), (q3896, .inl (I .byte, 8192, .inl f3902))]) (cs' := 0) (sl' := 0) rfl rfl rfl ?_
              refine G_if_eq 98 d_cX9_takeWord_90 (by decide +kernel) (fun hc4272 => ?_) (fun hc4272 => ?_)
              · have r4273 : o4270.toInt = 0 := gj_eq hc4272 (show Int32.toInt 0 = 0 by decide)
                have bo4270' : gB o4270 0 0 := ⟨by omega, by omega⟩
                refine G_aload_n 1 d_cX9_takeWord_98 rfl ?_
                refine G_ldcK (a := D.2 1000 4) d_cX9_takeWord_99 (fun _ _ _ h => gx_vk 4 rfl rfl h) ?_
                have hl4_4273 : (sb_4.length : Int) = 3 := rfl
                refine G_callV (As := [.ref (D.2 1000 4)]) (wr := []) (gV_ok D I) (ct_3921_Signs_isWord l hl0 D I q3894 q3895 q3896 (D.2 1000 4) (D.2 1001 4) sb_4 p3897 p3898 p3899 g4250 p3901 f3902 (gx_sc 4 rfl rfl) (by omega) bp3901 bf3902 (by omega)) d_cX9_takeWord_101 ⟨w_3_53, w_1_4, w_3_56, by decide, rfl, (Nat.le_of_ble_eq_true rfl), (Nat.le_of_ble_eq_true rfl)⟩ w_3_55 w_p_5 0 rfl rfl [0, 1, 2] [] rfl rfl rfl rfl (by decide) (Nat.le_of_ble_eq_true rfl) (Nat.le_of_ble_eq_true rfl) (Nat.le_of_ble_eq_true rfl) (fun r w hp => ?_) (fun _ _ _ z => z.elim)
                obtain ⟨o4275, rfl, rfl, bo4275, ht4276⟩ := hp
                change G _ _ _ _ _ _ _ (.int o4275 :: _) _ _ _
                refine G_ws (ws' := [(q3894, .inr (14, [.ref q3895, .int p3897, .int p3898, .int p3899, .int g4250])), (q3895, .inr (15, [.ref q3896, .int p3901])), (q3896, .inl (I .byte, 8192, .inl f3902))]) (cs' := 0) (sl' := 0) rfl rfl rfl ?_
                refine G_if_eq 112 d_cX9_takeWord_104 (by decide +kernel) (fun hc4277 => ?_) (fun hc4277 => ?_)
                · have r4278 : o4275.toInt = 0 := gj_eq hc4277 (show Int32.toInt 0 = 0 by decide)
                  have bo4275' : gB o4275 0 0 := ⟨by omega, by omega⟩
                  refine G_iconst 0 d_cX9_takeWord_112 (by decide +kernel) ?_
                  refine G_putf (ws' := [(q3894, .inr (14, [.ref q3895, .int 0, .int p3898, .int p3899, .int g4250])), (q3895, .inr (15, [.ref q3896, .int p3901])), (q3896, .inl (I .byte, 8192, .inl f3902))]) 0 1 d_cX9_takeWord_113 rfl (gk_X9 D I) (Nat.le_of_ble_eq_true rfl) w_1_80 rfl rfl rfl (Nat.le_of_ble_eq_true rfl) rfl ?_
                  exact G_vret d_cX9_takeWord_116 rfl (Nat.le_of_ble_eq_true rfl) (Nat.le_of_ble_eq_true rfl) ⟨0, g4250, rfl, rfl, (gB_w (gBl (show Int32.toInt 0 = 0 by decide)) (by decide) (by decide)), (gB_w bg4250' (by decide) (by decide)), (by have qa0 : Int32.toInt 0 = 0 := (by decide); omega), (fun R c1 c2 c3 c4 c5 c6 => c1 g4250 o4255 o4260 o4265 o4270 o4275 hx4253 bo4255 ht4256 r4258 bo4260 ht4261 r4263 bo4265 ht4266 r4268 bo4270 ht4271 r4273 bo4275 ht4276 r4278)⟩
                · have r4279 : o4275.toInt ≠ 0 := gj_neq hc4277 (show Int32.toInt 0 = 0 by decide)
                  have bo4275' : gB o4275 1 1 := ⟨by omega, by omega⟩
                  refine G_bipush 12 d_cX9_takeWord_107 (by decide +kernel) ?_
                  refine G_goto 113 d_cX9_takeWord_109 (by decide +kernel) ?_
                  refine G_putf (ws' := [(q3894, .inr (14, [.ref q3895, .int 12, .int p3898, .int p3899, .int g4250])), (q3895, .inr (15, [.ref q3896, .int p3901])), (q3896, .inl (I .byte, 8192, .inl f3902))]) 0 1 d_cX9_takeWord_113 rfl (gk_X9 D I) (Nat.le_of_ble_eq_true rfl) w_1_80 rfl rfl rfl (Nat.le_of_ble_eq_true rfl) rfl ?_
                  exact G_vret d_cX9_takeWord_116 rfl (Nat.le_of_ble_eq_true rfl) (Nat.le_of_ble_eq_true rfl) ⟨12, g4250, rfl, rfl, (gB_w (gBl (show Int32.toInt 12 = 12 by decide)) (by decide) (by decide)), (gB_w bg4250' (by decide) (by decide)), (by have qa0 : Int32.toInt 12 = 12 := (by decide); omega), (fun R c1 c2 c3 c4 c5 c6 => c2 g4250 o4255 o4260 o4265 o4270 o4275 hx4253 bo4255 ht4256 r4258 bo4260 ht4261 r4263 bo4265 ht4266 r4268 bo4270 ht4271 r4273 bo4275 ht4276 r4279)⟩
              · have r4280 : o4270.toInt ≠ 0 := gj_neq hc4272 (show Int32.toInt 0 = 0 by decide)
                have bo4270' : gB o4270 1 1 := ⟨by omega, by omega⟩
                refine G_bipush 11 d_cX9_takeWord_93 (by decide +kernel) ?_
                refine G_goto 113 d_cX9_takeWord_95 (by decide +kernel) ?_
                refine G_putf (ws' := [(q3894, .inr (14, [.ref q3895, .int 11, .int p3898, .int p3899, .int g4250])), (q3895, .inr (15, [.ref q3896, .int p3901])), (q3896, .inl (I .byte, 8192, .inl f3902))]) 0 1 d_cX9_takeWord_113 rfl (gk_X9 D I) (Nat.le_of_ble_eq_true rfl) w_1_80 rfl rfl rfl (Nat.le_of_ble_eq_true rfl) rfl ?_
                exact G_vret d_cX9_takeWord_116 rfl (Nat.le_of_ble_eq_true rfl) (Nat.le_of_ble_eq_true rfl) ⟨11, g4250, rfl, rfl, (gB_w (gBl (show Int32.toInt 11 = 11 by decide)) (by decide) (by decide)), (gB_w bg4250' (by decide) (by decide)), (by have qa0 : Int32.toInt 11 = 11 := (by decide); omega), (fun R c1 c2 c3 c4 c5 c6 => c3 g4250 o4255 o4260 o4265 o4270 hx4253 bo4255 ht4256 r4258 bo4260 ht4261 r4263 bo4265 ht4266 r4268 bo4270 ht4271 r4280)⟩
            · have r4281 : o4265.toInt ≠ 0 := gj_neq hc4267 (show Int32.toInt 0 = 0 by decide)
              have bo4265' : gB o4265 1 1 := ⟨by omega, by omega⟩
              refine G_bipush 10 d_cX9_takeWord_79 (by decide +kernel) ?_
              refine G_goto 113 d_cX9_takeWord_81 (by decide +kernel) ?_
              refine G_putf (ws' := [(q3894, .inr (14, [.ref q3895, .int 10, .int p3898, .int p3899, .int g4250])), (q3895, .inr (15, [.ref q3896, .int p3901])), (q3896, .inl (I .byte, 8192, .inl f3902))]) 0 1 d_cX9_takeWord_113 rfl (gk_X9 D I) (Nat.le_of_ble_eq_true rfl) w_1_80 rfl rfl rfl (Nat.le_of_ble_eq_true rfl) rfl ?_
              exact G_vret d_cX9_takeWord_116 rfl (Nat.le_of_ble_eq_true rfl) (Nat.le_of_ble_eq_true rfl) ⟨10, g4250, rfl, rfl, (gB_w (gBl (show Int32.toInt 10 = 10 by decide)) (by decide) (by decide)), (gB_w bg4250' (by decide) (by decide)), (by have qa0 : Int32.toInt 10 = 10 := (by decide); omega), (fun R c1 c2 c3 c4 c5 c6 => c4 g4250 o4255 o4260 o4265 hx4253 bo4255 ht4256 r4258 bo4260 ht4261 r4263 bo4265 ht4266 r4281)⟩
          · have r4282 : o4260.toInt ≠ 0 := gj_neq hc4262 (show Int32.toInt 0 = 0 by decide)
            have bo4260' : gB o4260 1 1 := ⟨by omega, by omega⟩
            refine G_bipush 9 d_cX9_takeWord_65 (by decide +kernel) ?_
            refine G_goto 113 d_cX9_takeWord_67 (by decide +kernel) ?_
            refine G_putf (ws' := [(q3894, .inr (14, [.ref q3895, .int 9, .int p3898, .int p3899, .int g4250])), (q3895, .inr (15, [.ref q3896, .int p3901])), (q3896, .inl (I .byte, 8192, .inl f3902))]) 0 1 d_cX9_takeWord_113 rfl (gk_X9 D I) (Nat.le_of_ble_eq_true rfl) w_1_80 rfl rfl rfl (Nat.le_of_ble_eq_true rfl) rfl ?_
            exact G_vret d_cX9_takeWord_116 rfl (Nat.le_of_ble_eq_true rfl) (Nat.le_of_ble_eq_true rfl) ⟨9, g4250, rfl, rfl, (gB_w (gBl (show Int32.toInt 9 = 9 by decide)) (by decide) (by decide)), (gB_w bg4250' (by decide) (by decide)), (by have qa0 : Int32.toInt 9 = 9 := (by decide); omega), (fun R c1 c2 c3 c4 c5 c6 => c5 g4250 o4255 o4260 hx4253 bo4255 ht4256 r4258 bo4260 ht4261 r4282)⟩
        · have r4283 : o4255.toInt ≠ 0 := gj_neq hc4257 (show Int32.toInt 0 = 0 by decide)
          have bo4255' : gB o4255 1 1 := ⟨by omega, by omega⟩
          refine G_bipush 8 d_cX9_takeWord_51 (by decide +kernel) ?_
          refine G_goto 113 d_cX9_takeWord_53 (by decide +kernel) ?_
          refine G_putf (ws' := [(q3894, .inr (14, [.ref q3895, .int 8, .int p3898, .int p3899, .int g4250])), (q3895, .inr (15, [.ref q3896, .int p3901])), (q3896, .inl (I .byte, 8192, .inl f3902))]) 0 1 d_cX9_takeWord_113 rfl (gk_X9 D I) (Nat.le_of_ble_eq_true rfl) w_1_80 rfl rfl rfl (Nat.le_of_ble_eq_true rfl) rfl ?_
          exact G_vret d_cX9_takeWord_116 rfl (Nat.le_of_ble_eq_true rfl) (Nat.le_of_ble_eq_true rfl) ⟨8, g4250, rfl, rfl, (gB_w (gBl (show Int32.toInt 8 = 8 by decide)) (by decide) (by decide)), (gB_w bg4250' (by decide) (by decide)), (by have qa0 : Int32.toInt 8 = 8 := (by decide); omega), (fun R c1 c2 c3 c4 c5 c6 => c6 g4250 o4255 hx4253 bo4255 ht4256 r4283)⟩
      · have r4284 : g4250.toInt < p3901.toInt := gC_nle hc4251
        have bg4250' : gB g4250 (-2147483648) 8191 := ⟨by omega, by omega⟩
        refine G_aload_n 1 d_cX9_takeWord_16 rfl ?_
        refine G_getf 0 0 d_cX9_takeWord_17 rfl (gk_X9 D I) (Nat.le_of_ble_eq_true rfl) w_1_79 rfl ?_
        refine G_iload_n 0 d_cX9_takeWord_20 rfl ?_
        refine G_callV (As := [.int g4250]) (wr := [(q3894, .inr (14, [.ref q3895, .int p3897, .int p3898, .int p3899, .int p3900]))]) (gV_ok D I) (ct_31_Tape_byteAt l hl0 D I q3895 q3896 g4250 p3901 f3902 bp3901 bf3902) d_cX9_takeWord_21 ⟨w_3_20, w_1_2, w_3_23, by decide, rfl, (Nat.le_of_ble_eq_true rfl), (Nat.le_of_ble_eq_true rfl)⟩ w_3_21 w_3_22 1 rfl rfl [1, 2] [0] rfl rfl rfl rfl (by decide) (Nat.le_of_ble_eq_true rfl) (Nat.le_of_ble_eq_true rfl) (Nat.le_of_ble_eq_true rfl) (fun r w hp => ?_) (fun _ _ _ z => z.elim)
        obtain ⟨o4285, rfl, rfl, bo4285, ht4286⟩ := hp
        change G _ _ _ _ _ _ _ (.int o4285 :: _) _ _ _
        refine G_ws (ws' := [(q3894, .inr (14, [.ref q3895, .int p3897, .int p3898, .int p3899, .int p3900])), (q3895, .inr (15, [.ref q3896, .int p3901])), (q3896, .inl (I .byte, 8192, .inl f3902))]) (cs' := 0) (sl' := 0) rfl rfl rfl ?_
        refine G_callS (As := [.int o4285]) (wr := [(q3894, .inr (14, [.ref q3895, .int p3897, .int p3898, .int p3899, .int p3900])), (q3895, .inr (15, [.ref q3896, .int p3901])), (q3896, .inl (I .byte, 8192, .inl f3902))]) (gV_ok D I) (ct_256_Signs_isLetter l hl0 D I o4285 ) d_cX9_takeWord_24 ⟨w_3_45, w_1_4, w_3_47, by decide, rfl, (Nat.le_of_ble_eq_true rfl), (Nat.le_of_ble_eq_true rfl)⟩ w_3_46 [] [0, 1, 2] rfl rfl rfl rfl (by decide) (Nat.le_of_ble_eq_true rfl) (Nat.le_of_ble_eq_true rfl) (Nat.le_of_ble_eq_true rfl) (fun r w hp => ?_) (fun _ _ _ z => z.elim)
        obtain ⟨o4287, rfl, rfl, bo4287, ht4288⟩ := hp
        change G _ _ _ _ _ _ _ (.int o4287 :: _) _ _ _
        refine G_ws (ws' := [(q3894, .inr (14, [.ref q3895, .int p3897, .int p3898, .int p3899, .int p3900])), (q3895, .inr (15, [.ref q3896, .int p3901])), (q3896, .inl (I .byte, 8192, .inl f3902))]) (cs' := 0) (sl' := 0) rfl rfl rfl ?_
        refine G_if_eq 36 d_cX9_takeWord_27 (by decide +kernel) (fun hc4289 => ?_) (fun hc4289 => ?_)
        · have r4290 : o4287.toInt = 0 := gj_eq hc4289 (show Int32.toInt 0 = 0 by decide)
          have bo4287' : gB o4287 0 0 := ⟨by omega, by omega⟩
          have hx4291 : tl_Signs_takeWord_5 p3901 f3902 p3899 36 g4250 := kt5_4250 36 g4250 (fun R c1 c2 c3 => c2 g4250 o4285 o4287 r4284 bo4285 ht4286 bo4287 ht4288 r4290)
          refine G_aload_n 1 d_cX9_takeWord_36 rfl ?_
          refine G_iload_n 0 d_cX9_takeWord_37 rfl ?_
          refine G_putf (ws' := [(q3894, .inr (14, [.ref q3895, .int p3897, .int p3898, .int p3899, .int g4250])), (q3895, .inr (15, [.ref q3896, .int p3901])), (q3896, .inl (I .byte, 8192, .inl f3902))]) 0 4 d_cX9_takeWord_38 rfl (gk_X9 D I) (Nat.le_of_ble_eq_true rfl) w_1_83 rfl rfl rfl (Nat.le_of_ble_eq_true rfl) rfl ?_
          refine G_aload_n 1 d_cX9_takeWord_41 rfl ?_
          refine G_aload_n 1 d_cX9_takeWord_42 rfl ?_
          refine G_ldcK (a := D.2 1000 0) d_cX9_takeWord_43 (fun _ _ _ h => gx_vk 0 rfl rfl h) ?_
          have hl0_4291 : (sb_0.length : Int) = 2 := rfl
          refine G_callV (As := [.ref (D.2 1000 0)]) (wr := []) (gV_ok D I) (ct_3921_Signs_isWord l hl0 D I q3894 q3895 q3896 (D.2 1000 0) (D.2 1001 0) sb_0 p3897 p3898 p3899 g4250 p3901 f3902 (gx_sc 0 rfl rfl) (by omega) bp3901 bf3902 (by omega)) d_cX9_takeWord_45 ⟨w_3_53, w_1_4, w_3_56, by decide, rfl, (Nat.le_of_ble_eq_true rfl), (Nat.le_of_ble_eq_true rfl)⟩ w_3_55 w_p_5 0 rfl rfl [0, 1, 2] [] rfl rfl rfl rfl (by decide) (Nat.le_of_ble_eq_true rfl) (Nat.le_of_ble_eq_true rfl) (Nat.le_of_ble_eq_true rfl) (fun r w hp => ?_) (fun _ _ _ z => z.elim)
          obtain ⟨o4293, rfl, rfl, bo4293, ht4294⟩ := hp
          change G _ _ _ _ _ _ _ (.int o4293 :: _) _ _ _
          refine G_ws (ws' := [(q3894, .inr (14, [.ref q3895, .int p3897, .int p3898, .int p3899, .int g4250])), (q3895, .inr (15, [.ref q3896, .int p3901])), (q3896, .inl (I .byte, 8192, .inl f3902))]) (cs' := 0) (sl' := 0) rfl rfl rfl ?_
          refine G_if_eq 56 d_cX9_takeWord_48 (by decide +kernel) (fun hc4295 => ?_) (fun hc4295 => ?_)
          · have r4296 : o4293.toInt = 0 := gj_eq hc4295 (show Int32.toInt 0 = 0 by decide)
            have bo4293' : gB o4293 0 0 := ⟨by omega, by omega⟩
            refine G_aload_n 1 d_cX9_takeWord_56 rfl ?_
            refine G_ldcK (a := D.2 1000 1) d_cX9_takeWord_57 (fun _ _ _ h => gx_vk 1 rfl rfl h) ?_
            have hl1_4296 : (sb_1.length : Int) = 4 := rfl
            refine G_callV (As := [.ref (D.2 1000 1)]) (wr := []) (gV_ok D I) (ct_3921_Signs_isWord l hl0 D I q3894 q3895 q3896 (D.2 1000 1) (D.2 1001 1) sb_1 p3897 p3898 p3899 g4250 p3901 f3902 (gx_sc 1 rfl rfl) (by omega) bp3901 bf3902 (by omega)) d_cX9_takeWord_59 ⟨w_3_53, w_1_4, w_3_56, by decide, rfl, (Nat.le_of_ble_eq_true rfl), (Nat.le_of_ble_eq_true rfl)⟩ w_3_55 w_p_5 0 rfl rfl [0, 1, 2] [] rfl rfl rfl rfl (by decide) (Nat.le_of_ble_eq_true rfl) (Nat.le_of_ble_eq_true rfl) (Nat.le_of_ble_eq_true rfl) (fun r w hp => ?_) (fun _ _ _ z => z.elim)
            obtain ⟨o4298, rfl, rfl, bo4298, ht4299⟩ := hp
            change G _ _ _ _ _ _ _ (.int o4298 :: _) _ _ _
            refine G_ws (ws' := [(q3894, .inr (14, [.ref q3895, .int p3897, .int p3898, .int p3899, .int g4250])), (q3895, .inr (15, [.ref q3896, .int p3901])), (q3896, .inl (I .byte, 8192, .inl f3902))]) (cs' := 0) (sl' := 0) rfl rfl rfl ?_
            refine G_if_eq 70 d_cX9_takeWord_62 (by decide +kernel) (fun hc4300 => ?_) (fun hc4300 => ?_)
            · have r4301 : o4298.toInt = 0 := gj_eq hc4300 (show Int32.toInt 0 = 0 by decide)
              have bo4298' : gB o4298 0 0 := ⟨by omega, by omega⟩
              refine G_aload_n 1 d_cX9_takeWord_70 rfl ?_
              refine G_ldcK (a := D.2 1000 2) d_cX9_takeWord_71 (fun _ _ _ h => gx_vk 2 rfl rfl h) ?_
              have hl2_4301 : (sb_2.length : Int) = 2 := rfl
              refine G_callV (As := [.ref (D.2 1000 2)]) (wr := []) (gV_ok D I) (ct_3921_Signs_isWord l hl0 D I q3894 q3895 q3896 (D.2 1000 2) (D.2 1001 2) sb_2 p3897 p3898 p3899 g4250 p3901 f3902 (gx_sc 2 rfl rfl) (by omega) bp3901 bf3902 (by omega)) d_cX9_takeWord_73 ⟨w_3_53, w_1_4, w_3_56, by decide, rfl, (Nat.le_of_ble_eq_true rfl), (Nat.le_of_ble_eq_true rfl)⟩ w_3_55 w_p_5 0 rfl rfl [0, 1, 2] [] rfl rfl rfl rfl (by decide) (Nat.le_of_ble_eq_true rfl) (Nat.le_of_ble_eq_true rfl) (Nat.le_of_ble_eq_true rfl) (fun r w hp => ?_) (fun _ _ _ z => z.elim)
              obtain ⟨o4303, rfl, rfl, bo4303, ht4304⟩ := hp
              change G _ _ _ _ _ _ _ (.int o4303 :: _) _ _ _
              refine G_ws (ws' := [(q3894, .inr (14, [.ref q3895, .int p3897, .int p3898, .int p3899, .int g4250])), (q3895, .inr (15, [.ref q3896, .int p3901])), (q3896, .inl (I .byte, 8192, .inl f3902))]) (cs' := 0) (sl' := 0) rfl rfl rfl ?_
              refine G_if_eq 84 d_cX9_takeWord_76 (by decide +kernel) (fun hc4305 => ?_) (fun hc4305 => ?_)
              · have r4306 : o4303.toInt = 0 := gj_eq hc4305 (show Int32.toInt 0 = 0 by decide)
                have bo4303' : gB o4303 0 0 := ⟨by omega, by omega⟩
                refine G_aload_n 1 d_cX9_takeWord_84 rfl ?_
                refine G_ldcK (a := D.2 1000 3) d_cX9_takeWord_85 (fun _ _ _ h => gx_vk 3 rfl rfl h) ?_
                have hl3_4306 : (sb_3.length : Int) = 4 := rfl
                refine G_callV (As := [.ref (D.2 1000 3)]) (wr := []) (gV_ok D I) (ct_3921_Signs_isWord l hl0 D I q3894 q3895 q3896 (D.2 1000 3) (D.2 1001 3) sb_3 p3897 p3898 p3899 g4250 p3901 f3902 (gx_sc 3 rfl rfl) (by omega) bp3901 bf3902 (by omega)) d_cX9_takeWord_87 ⟨w_3_53, w_1_4, w_3_56, by decide, rfl, (Nat.le_of_ble_eq_true rfl), (Nat.le_of_ble_eq_true rfl)⟩ w_3_55 w_p_5 0 rfl rfl [0, 1, 2] [] rfl rfl rfl rfl (by decide) (Nat.le_of_ble_eq_true rfl) (Nat.le_of_ble_eq_true rfl) (Nat.le_of_ble_eq_true rfl) (fun r w hp => ?_) (fun _ _ _ z => z.elim)
                obtain ⟨o4308, rfl, rfl, bo4308, ht4309⟩ := hp
                change G _ _ _ _ _ _ _ (.int o4308 :: _) _ _ _
                refine G_ws (ws' := [(q3894, .inr (14, [.ref q3895, .int p3897, .int p3898, .int p3899, .int g4250])), (q3895, .inr (15, [.ref q3896, .int p3901])), (q3896, .inl (I .byte, 8192, .inl f3902))]) (cs' := 0) (sl' := 0) rfl rfl rfl ?_
                refine G_if_eq 98 d_cX9_takeWord_90 (by decide +kernel) (fun hc4310 => ?_) (fun hc4310 => ?_)
                · have r4311 : o4308.toInt = 0 := gj_eq hc4310 (show Int32.toInt 0 = 0 by decide)
                  have bo4308' : gB o4308 0 0 := ⟨by omega, by omega⟩
                  refine G_aload_n 1 d_cX9_takeWord_98 rfl ?_
                  refine G_ldcK (a := D.2 1000 4) d_cX9_takeWord_99 (fun _ _ _ h => gx_vk 4 rfl rfl h) ?_
                  have hl4_4311 : (sb_4.length : Int) = 3 := rfl
                  refine G_callV (As := [.ref (D.2 1000 4)]) (wr := []) (gV_ok D I) (ct_3921_Signs_isWord l hl0 D I q3894 q3895 q3896 (D.2 1000 4) (D.2 1001 4) sb_4 p3897 p3898 p3899 g4250 p3901 f3902 (gx_sc 4 rfl rfl) (by omega) bp3901 bf3902 (by omega)) d_cX9_takeWord_101 ⟨w_3_53, w_1_4, w_3_56, by decide, rfl, (Nat.le_of_ble_eq_true rfl), (Nat.le_of_ble_eq_true rfl)⟩ w_3_55 w_p_5 0 rfl rfl [0, 1, 2] [] rfl rfl rfl rfl (by decide) (Nat.le_of_ble_eq_true rfl) (Nat.le_of_ble_eq_true rfl) (Nat.le_of_ble_eq_true rfl) (fun r w hp => ?_) (fun _ _ _ z => z.elim)
                  obtain ⟨o4313, rfl, rfl, bo4313, ht4314⟩ := hp
                  change G _ _ _ _ _ _ _ (.int o4313 :: _) _ _ _
                  refine G_ws (ws' := [(q3894, .inr (14, [.ref q3895, .int p3897, .int p3898, .int p3899, .int g4250])), (q3895, .inr (15, [.ref q3896, .int p3901])), (q3896, .inl (I .byte, 8192, .inl f3902))]) (cs' := 0) (sl' := 0) rfl rfl rfl ?_
                  refine G_if_eq 112 d_cX9_takeWord_104 (by decide +kernel) (fun hc4315 => ?_) (fun hc4315 => ?_)
                  · have r4316 : o4313.toInt = 0 := gj_eq hc4315 (show Int32.toInt 0 = 0 by decide)
                    have bo4313' : gB o4313 0 0 := ⟨by omega, by omega⟩
                    refine G_iconst 0 d_cX9_takeWord_112 (by decide +kernel) ?_
                    refine G_putf (ws' := [(q3894, .inr (14, [.ref q3895, .int 0, .int p3898, .int p3899, .int g4250])), (q3895, .inr (15, [.ref q3896, .int p3901])), (q3896, .inl (I .byte, 8192, .inl f3902))]) 0 1 d_cX9_takeWord_113 rfl (gk_X9 D I) (Nat.le_of_ble_eq_true rfl) w_1_80 rfl rfl rfl (Nat.le_of_ble_eq_true rfl) rfl ?_
                    exact G_vret d_cX9_takeWord_116 rfl (Nat.le_of_ble_eq_true rfl) (Nat.le_of_ble_eq_true rfl) ⟨0, g4250, rfl, rfl, (gB_w (gBl (show Int32.toInt 0 = 0 by decide)) (by decide) (by decide)), (gB_w bg4250' (by decide) (by decide)), (by have qa0 : Int32.toInt 0 = 0 := (by decide); omega), (fun R c1 c2 c3 c4 c5 c6 => c1 g4250 o4293 o4298 o4303 o4308 o4313 hx4291 bo4293 ht4294 r4296 bo4298 ht4299 r4301 bo4303 ht4304 r4306 bo4308 ht4309 r4311 bo4313 ht4314 r4316)⟩
                  · have r4317 : o4313.toInt ≠ 0 := gj_neq hc4315 (show Int32.toInt 0 = 0 by decide)
                    have bo4313' : gB o4313 1 1 := ⟨by omega, by omega⟩
                    refine G_bipush 12 d_cX9_takeWord_107 (by decide +kernel) ?_
                    refine G_goto 113 d_cX9_takeWord_109 (by decide +kernel) ?_
                    refine G_putf (ws' := [(q3894, .inr (14, [.ref q3895, .int 12, .int p3898, .int p3899, .int g4250])), (q3895, .inr (15, [.ref q3896, .int p3901])), (q3896, .inl (I .byte, 8192, .inl f3902))]) 0 1 d_cX9_takeWord_113 rfl (gk_X9 D I) (Nat.le_of_ble_eq_true rfl) w_1_80 rfl rfl rfl (Nat.le_of_ble_eq_true rfl) rfl ?_
                    exact G_vret d_cX9_takeWord_116 rfl (Nat.le_of_ble_eq_true rfl) (Nat.le_of_ble_eq_true rfl) ⟨12, g4250, rfl, rfl, (gB_w (gBl (show Int32.toInt 12 = 12 by decide)) (by decide) (by decide)), (gB_w bg4250' (by decide) (by decide)), (by have qa0 : Int32.toInt 12 = 12 := (by decide); omega), (fun R c1 c2 c3 c4 c5 c6 => c2 g4250 o4293 o4298 o4303 o4308 o4313 hx4291 bo4293 ht4294 r4296 bo4298 ht4299 r4301 bo4303 ht4304 r4306 bo4308 ht4309 r4311 bo4313 ht4314 r4317)⟩
                · have r4318 : o4308.toInt ≠ 0 := gj_neq hc4310 (show Int32.toInt 0 = 0 by decide)
                  have bo4308' : gB o4308 1 1 := ⟨by omega, by omega⟩
                  refine G_bipush 11 d_cX9_takeWord_93 (by decide +kernel) ?_
                  refine G_goto 113 d_cX9_takeWord_95 (by decide +kernel) ?_
                  refine G_putf (ws' := [(q3894, .inr (14, [.ref q3895, .int 11, .int p3898, .int p3899, .int g4250])), (q3895, .inr (15, [.ref q3896, .int p3901])), (q3896, .inl (I .byte, 8192, .inl f3902))]) 0 1 d_cX9_takeWord_113 rfl (gk_X9 D I) (Nat.le_of_ble_eq_true rfl) w_1_80 rfl rfl rfl (Nat.le_of_ble_eq_true rfl) rfl ?_
                  exact G_vret d_cX9_takeWord_116 rfl (Nat.le_of_ble_eq_true rfl) (Nat.le_of_ble_eq_true rfl) ⟨11, g4250, rfl, rfl, (gB_w (gBl (show Int32.toInt 11 = 11 by decide)) (by decide) (by decide)), (gB_w bg4250' (by decide) (by decide)), (by have qa0 : Int32.toInt 11 = 11 := (by decide); omega), (fun R c1 c2 c3 c4 c5 c6 => c3 g4250 o4293 o4298 o4303 o4308 hx4291 bo4293 ht4294 r4296 bo4298 ht4299 r4301 bo4303 ht4304 r4306 bo4308 ht4309 r4318)⟩
              · have r4319 : o4303.toInt ≠ 0 := gj_neq hc4305 (show Int32.toInt 0 = 0 by decide)
                have bo4303' : gB o4303 1 1 := ⟨by omega, by omega⟩
                refine G_bipush 10 d_cX9_takeWord_79 (by decide +kernel) ?_
                refine G_goto 113 d_cX9_takeWord_81 (by decide +kernel) ?_
                refine G_putf (ws' := [(q3894, .inr (14, [.ref q3895, .int 10, .int p3898, .int p3899, .int g4250])), (q3895, .inr (15, [.ref q3896, .int p3901])), (q3896, .inl (I .byte, 8192, .inl f3902))]) 0 1 d_cX9_takeWord_113 rfl (gk_X9 D I) (Nat.le_of_ble_eq_true rfl) w_1_80 rfl rfl rfl (Nat.le_of_ble_eq_true rfl) rfl ?_
                exact G_vret d_cX9_takeWord_116 rfl (Nat.le_of_ble_eq_true rfl) (Nat.le_of_ble_eq_true rfl) ⟨10, g4250, rfl, rfl, (gB_w (gBl (show Int32.toInt 10 = 10 by decide)) (by decide) (by decide)), (gB_w bg4250' (by decide) (by decide)), (by have qa0 : Int32.toInt 10 = 10 := (by decide); omega), (fun R c1 c2 c3 c4 c5 c6 => c4 g4250 o4293 o4298 o4303 hx4291 bo4293 ht4294 r4296 bo4298 ht4299 r4301 bo4303 ht4304 r4319)⟩
            · have r4320 : o4298.toInt ≠ 0 := gj_neq hc4300 (show Int32.toInt 0 = 0 by decide)
              have bo4298' : gB o4298 1 1 := ⟨by omega, by omega⟩
              refine G_bipush 9 d_cX9_takeWord_65 (by decide +kernel) ?_
              refine G_goto 113 d_cX9_takeWord_67 (by decide +kernel) ?_
              refine G_putf (ws' := [(q3894, .inr (14, [.ref q3895, .int 9, .int p3898, .int p3899, .int g4250])), (q3895, .inr (15, [.ref q3896, .int p3901])), (q3896, .inl (I .byte, 8192, .inl f3902))]) 0 1 d_cX9_takeWord_113 rfl (gk_X9 D I) (Nat.le_of_ble_eq_true rfl) w_1_80 rfl rfl rfl (Nat.le_of_ble_eq_true rfl) rfl ?_
              exact G_vret d_cX9_takeWord_116 rfl (Nat.le_of_ble_eq_true rfl) (Nat.le_of_ble_eq_true rfl) ⟨9, g4250, rfl, rfl, (gB_w (gBl (show Int32.toInt 9 = 9 by decide)) (by decide) (by decide)), (gB_w bg4250' (by decide) (by decide)), (by have qa0 : Int32.toInt 9 = 9 := (by decide); omega), (fun R c1 c2 c3 c4 c5 c6 => c5 g4250 o4293 o4298 hx4291 bo4293 ht4294 r4296 bo4298 ht4299 r4320)⟩
          · have r4321 : o4293.toInt ≠ 0 := gj_neq hc4295 (show Int32.toInt 0 = 0 by decide)
            have bo4293' : gB o4293 1 1 := ⟨by omega, by omega⟩
            refine G_bipush 8 d_cX9_takeWord_51 (by decide +kernel) ?_
            refine G_goto 113 d_cX9_takeWord_53 (by decide +kernel) ?_
            refine G_putf (ws' := [(q3894, .inr (14, [.ref q3895, .int 8, .int p3898, .int p3899, .int g4250])), (q3895, .inr (15, [.ref q3896, .int p3901])), (q3896, .inl (I .byte, 8192, .inl f3902))]) 0 1 d_cX9_takeWord_113 rfl (gk_X9 D I) (Nat.le_of_ble_eq_true rfl) w_1_80 rfl rfl rfl (Nat.le_of_ble_eq_true rfl) rfl ?_
            exact G_vret d_cX9_takeWord_116 rfl (Nat.le_of_ble_eq_true rfl) (Nat.le_of_ble_eq_true rfl) ⟨8, g4250, rfl, rfl, (gB_w (gBl (show Int32.toInt 8 = 8 by decide)) (by decide) (by decide)), (gB_w bg4250' (by decide) (by decide)), (by have qa0 : Int32.toInt 8 = 8 := (by decide); omega), (fun R c1 c2 c3 c4 c5 c6 => c6 g4250 o4293 hx4291 bo4293 ht4294 r4321)⟩
        · have r4322 : o4287.toInt ≠ 0 := gj_neq hc4289 (show Int32.toInt 0 = 0 by decide)
          have bo4287' : gB o4287 1 1 := ⟨by omega, by omega⟩
          obtain ⟨z4323, hz4323⟩ : ∃ z : Int32, z = g4250 + Int32.ofInt 1 := ⟨_, rfl⟩
          have ez4323 : z4323.toInt = g4250.toInt + 1 := gI_inc hz4323 (by decide) bg4250' (by decide) (by decide)
          have bz4323 : gB z4323 (-2147483647) 8192 := ⟨by omega, by omega⟩
          refine G_iinc (L' := [(1, .int z4323), (0, .ref q3894)]) z4323 0 d_cX9_takeWord_30 rfl hz4323.symm (Nat.le_of_ble_eq_true rfl) rfl ?_
          refine G_goto 5 d_cX9_takeWord_33 (by decide +kernel) ?_
          exact ih5_4250 z4323 (gB_w bz4323 (by decide) (by decide)) (fun k e1 ht => kt5_4250 k e1 (fun R c1 c2 c3 => c3 g4250 o4285 o4287 z4323 k e1 r4284 bo4285 ht4286 bo4287 ht4288 r4322 ez4323 (ht R c1 c2 c3))) (by omega)
  exact hlp5_4250 (((2147483648 : Int) - p3899.toInt).toNat + 1) p3899 bp3899 (fun k e1 ht => ht) (Nat.lt_succ_self _)
/- tl_Signs_opOf_2: l2; out: l2 -/
def tl_Signs_opOf_2 (a0 : Int32) (a1 : Int32) (s1 : Int32) (k : Nat) (e1 : Int32) : Prop := ∀ R : (Int32) → Nat → (Int32) → Prop,
  (∀ (l2_1 : Int32), gB l2_1 0 14 → 14 ≤ l2_1.toInt → R l2_1 42 (0 : Int32)) →
  (∀ (l2_1 : Int32) (x1 : Int32) (x2 : Int32) (x3 : Int32) (k : Nat) (e1 : Int32), gB l2_1 0 14 → l2_1.toInt < 14 → x1.toInt = 2 * l2_1.toInt → gB x2 0 65535 → tr_String_charAt sb_5 x1 x2 → x2.toInt ≠ a0.toInt → x3.toInt = l2_1.toInt + 1 → R x3 k e1 → R l2_1 k e1) →
  (∀ (l2_1 : Int32) (x1 : Int32) (x2 : Int32) (x3 : Int32) (x4 : Int32) (x5 : Int32) (x6 : Int32) (k : Nat) (e1 : Int32), gB l2_1 0 14 → l2_1.toInt < 14 → x1.toInt = 2 * l2_1.toInt → gB x2 0 65535 → tr_String_charAt sb_5 x1 x2 → x2.toInt = a0.toInt → x3.toInt = 2 * l2_1.toInt → x4.toInt = x3.toInt + 1 → gB x5 0 65535 → tr_String_charAt sb_5 x4 x5 → x5.toInt ≠ a1.toInt → x6.toInt = l2_1.toInt + 1 → R x6 k e1 → R l2_1 k e1) →
  (∀ (l2_1 : Int32) (x1 : Int32) (x2 : Int32) (x3 : Int32) (x4 : Int32) (x5 : Int32), gB l2_1 0 14 → l2_1.toInt < 14 → x1.toInt = 2 * l2_1.toInt → gB x2 0 65535 → tr_String_charAt sb_5 x1 x2 → x2.toInt = a0.toInt → x3.toInt = 2 * l2_1.toInt → x4.toInt = x3.toInt + 1 → gB x5 0 65535 → tr_String_charAt sb_5 x4 x5 → x5.toInt = a1.toInt → R l2_1 34 l2_1) →
  R s1 k e1
/- tr_Signs_opOf: result -/
def tr_Signs_opOf (a0 : Int32) (a1 : Int32) (o1 : Int32) : Prop := ∀ R : (Int32) → Prop,
  (tl_Signs_opOf_2 a0 a1 (0 : Int32) 42 (0 : Int32) → R (-1 : Int32)) →
  (∀ (x1 : Int32), tl_Signs_opOf_2 a0 a1 (0 : Int32) 34 x1 → R x1) →
  R o1
