theorem d_cX7_perform_0 : decode cX7_perform 0 = .ok (.aload_n 0, 1) := by decide +kernel
theorem d_cX7_perform_1 : decode cX7_perform 1 = .ok (.getfield 15, 3) := by decide +kernel
theorem d_cX7_perform_4 : decode cX7_perform 4 = .ok (.iconst 0, 1) := by decide +kernel
theorem d_cX7_perform_5 : decode cX7_perform 5 = .ok (.invokestatic 59, 3) := by decide +kernel
theorem w_6_73 : (Jvm.Cond.methodLink "SpillForge$Machine" (59 : Nat) ({ cls := "java/util/Arrays", name := "fill", desc := "([II)V" } : Jvm.MethodName)) ∈ gw := gw_6 73 rfl rfl
theorem d_cX7_perform_8 : decode cX7_perform 8 = .ok (.aload_n 0, 1) := by decide +kernel
theorem d_cX7_perform_9 : decode cX7_perform 9 = .ok (.getfield 18, 3) := by decide +kernel
theorem d_cX7_perform_12 : decode cX7_perform 12 = .ok (.iconst 0, 1) := by decide +kernel
theorem d_cX7_perform_13 : decode cX7_perform 13 = .ok (.invokestatic 59, 3) := by decide +kernel
theorem d_cX7_perform_16 : decode cX7_perform 16 = .ok (.aload_n 0, 1) := by decide +kernel
theorem d_cX7_perform_17 : decode cX7_perform 17 = .ok (.iconst 0, 1) := by decide +kernel
theorem d_cX7_perform_18 : decode cX7_perform 18 = .ok (.putfield 65, 3) := by decide +kernel
theorem d_cX7_perform_21 : decode cX7_perform 21 = .ok (.aload_n 0, 1) := by decide +kernel
theorem d_cX7_perform_22 : decode cX7_perform 22 = .ok (.iconst 0, 1) := by decide +kernel
theorem d_cX7_perform_23 : decode cX7_perform 23 = .ok (.putfield 47, 3) := by decide +kernel
theorem d_cX7_perform_26 : decode cX7_perform 26 = .ok (.aload_n 0, 1) := by decide +kernel
theorem d_cX7_perform_27 : decode cX7_perform 27 = .ok (.iconst 0, 1) := by decide +kernel
theorem d_cX7_perform_28 : decode cX7_perform 28 = .ok (.putfield 50, 3) := by decide +kernel
theorem d_cX7_perform_31 : decode cX7_perform 31 = .ok (.aload_n 0, 1) := by decide +kernel
theorem d_cX7_perform_32 : decode cX7_perform 32 = .ok (.iconst 0, 1) := by decide +kernel
theorem d_cX7_perform_33 : decode cX7_perform 33 = .ok (.putfield 56, 3) := by decide +kernel
theorem d_cX7_perform_36 : decode cX7_perform 36 = .ok (.aload_n 0, 1) := by decide +kernel
theorem d_cX7_perform_37 : decode cX7_perform 37 = .ok (.bipush (-2), 2) := by decide +kernel
theorem d_cX7_perform_39 : decode cX7_perform 39 = .ok (.putfield 24, 3) := by decide +kernel
theorem d_cX7_perform_42 : decode cX7_perform 42 = .ok (.iconst 0, 1) := by decide +kernel
theorem d_cX7_perform_43 : decode cX7_perform 43 = .ok (.istore_n 3, 1) := by decide +kernel
theorem d_cX7_perform_44 : decode cX7_perform 44 = .ok (.aload_n 0, 1) := by decide +kernel
theorem d_cX7_perform_45 : decode cX7_perform 45 = .ok (.iconst 0, 1) := by decide +kernel
theorem d_cX7_perform_46 : decode cX7_perform 46 = .ok (.putfield 53, 3) := by decide +kernel
theorem w_2_168 : (Jvm.Cond.fieldLink "SpillForge$Machine" (53 : Nat) "SpillForge$Machine" "steps" "I") ∈ gw := gw_2 168 rfl rfl
theorem d_cX7_perform_49 : decode cX7_perform 49 = .ok (.aload_n 0, 1) := by decide +kernel
theorem d_cX7_perform_50 : decode cX7_perform 50 = .ok (.getfield 53, 3) := by decide +kernel
theorem d_cX7_perform_53 : decode cX7_perform 53 = .ok (.iload_n 2, 1) := by decide +kernel
theorem d_cX7_perform_54 : decode cX7_perform 54 = .ok (.if_icmp .ge 52, 3) := by decide +kernel
theorem d_cX7_perform_106 : decode cX7_perform 106 = .ok (.aload_n 0, 1) := by decide +kernel
theorem d_cX7_perform_107 : decode cX7_perform 107 = .ok (.getfield 24, 3) := by decide +kernel
theorem d_cX7_perform_110 : decode cX7_perform 110 = .ok (.bipush (-2), 2) := by decide +kernel
theorem d_cX7_perform_112 : decode cX7_perform 112 = .ok (.if_icmp .ne 8, 3) := by decide +kernel
theorem d_cX7_perform_120 : decode cX7_perform 120 = .ok (.return_, 1) := by decide +kernel
theorem d_cX7_perform_115 : decode cX7_perform 115 = .ok (.aload_n 0, 1) := by decide +kernel
theorem d_cX7_perform_116 : decode cX7_perform 116 = .ok (.iconst 4, 1) := by decide +kernel
theorem d_cX7_perform_117 : decode cX7_perform 117 = .ok (.putfield 24, 3) := by decide +kernel
theorem d_cX7_perform_57 : decode cX7_perform 57 = .ok (.aload_n 0, 1) := by decide +kernel
theorem d_cX7_perform_58 : decode cX7_perform 58 = .ok (.getfield 24, 3) := by decide +kernel
theorem d_cX7_perform_61 : decode cX7_perform 61 = .ok (.bipush (-2), 2) := by decide +kernel
theorem d_cX7_perform_63 : decode cX7_perform 63 = .ok (.if_icmp .ne 43, 3) := by decide +kernel
theorem d_cX7_perform_66 : decode cX7_perform 66 = .ok (.iload_n 3, 1) := by decide +kernel
theorem d_cX7_perform_67 : decode cX7_perform 67 = .ok (.ifCond .lt 20, 3) := by decide +kernel
theorem d_cX7_perform_87 : decode cX7_perform 87 = .ok (.aload_n 0, 1) := by decide +kernel
theorem d_cX7_perform_88 : decode cX7_perform 88 = .ok (.iconst 4, 1) := by decide +kernel
theorem d_cX7_perform_89 : decode cX7_perform 89 = .ok (.invokevirtual 77, 3) := by decide +kernel
theorem d_cX7_perform_92 : decode cX7_perform 92 = .ok (.istore_n 3, 1) := by decide +kernel
theorem d_cX7_perform_93 : decode cX7_perform 93 = .ok (.aload_n 0, 1) := by decide +kernel
theorem d_cX7_perform_94 : decode cX7_perform 94 = .ok (.dup, 1) := by decide +kernel
theorem d_cX7_perform_95 : decode cX7_perform 95 = .ok (.getfield 53, 3) := by decide +kernel
theorem d_cX7_perform_98 : decode cX7_perform 98 = .ok (.iconst 1, 1) := by decide +kernel
theorem d_cX7_perform_99 : decode cX7_perform 99 = .ok (.iadd, 1) := by decide +kernel
theorem d_cX7_perform_100 : decode cX7_perform 100 = .ok (.putfield 53, 3) := by decide +kernel
theorem d_cX7_perform_103 : decode cX7_perform 103 = .ok (.goto (-54), 3) := by decide +kernel
theorem d_cX7_perform_70 : decode cX7_perform 70 = .ok (.iload_n 3, 1) := by decide +kernel
theorem d_cX7_perform_71 : decode cX7_perform 71 = .ok (.aload_n 1, 1) := by decide +kernel
theorem d_cX7_perform_72 : decode cX7_perform 72 = .ok (.getfield 68, 3) := by decide +kernel
theorem d_cX7_perform_75 : decode cX7_perform 75 = .ok (.if_icmp .ge 12, 3) := by decide +kernel
theorem d_cX7_perform_78 : decode cX7_perform 78 = .ok (.aload_n 0, 1) := by decide +kernel
theorem d_cX7_perform_79 : decode cX7_perform 79 = .ok (.aload_n 1, 1) := by decide +kernel
theorem d_cX7_perform_80 : decode cX7_perform 80 = .ok (.iload_n 3, 1) := by decide +kernel
theorem d_cX7_perform_81 : decode cX7_perform 81 = .ok (.invokevirtual 73, 3) := by decide +kernel
theorem w_6_74 : (Jvm.Cond.methodLink "SpillForge$Machine" (73 : Nat) ({ cls := "SpillForge$Machine", name := "step", desc := "(LSpillForge$Code;I)I" } : Jvm.MethodName)) ∈ gw := gw_6 74 rfl rfl
theorem w_6_77 : (Jvm.Cond.code ({ cls := "SpillForge$Machine", name := "step", desc := "(LSpillForge$Code;I)I" } : Jvm.MethodName) prog_9_method_10_code (6 : Nat) (Option.some Jvm.ClassFile.FieldType.int)) ∈ gw := gw_6 77 rfl rfl
theorem w_6_76 : (Jvm.Cond.instanceMethod ({ cls := "SpillForge$Machine", name := "step", desc := "(LSpillForge$Code;I)I" } : Jvm.MethodName)) ∈ gw := gw_6 76 rfl rfl
theorem w_p_57 : Cond.selects "SpillForge$Machine" ⟨"SpillForge$Machine", "step", "(LSpillForge$Code;I)I"⟩ ⟨"SpillForge$Machine", "step", "(LSpillForge$Code;I)I"⟩ ∈ gw := gw_p _ 57 rfl rfl rfl
theorem d_cX7_perform_84 : decode cX7_perform 84 = .ok (.goto 8, 3) := by decide +kernel
theorem d_cJ0_coder_7d493_0 : decode cJ0_coder_7d493 0 = .ok (.getstatic 38, 3) := by decide +kernel
theorem w_3_65 : (Jvm.Cond.fieldLink "java/lang/String" (38 : Nat) "java/lang/String" "COMPACT_STRINGS" "Z") ∈ gw := gw_3 65 rfl rfl
theorem d_cJ0_coder_7d493_3 : decode cJ0_coder_7d493 3 = .ok (.ifCond .eq 10, 3) := by decide +kernel
theorem d_cJ0_coder_7d493_6 : decode cJ0_coder_7d493 6 = .ok (.aload_n 0, 1) := by decide +kernel
theorem d_cJ0_coder_7d493_7 : decode cJ0_coder_7d493 7 = .ok (.getfield 15, 3) := by decide +kernel
theorem w_8_183 : (Jvm.Cond.fieldLink "java/lang/String" (15 : Nat) "java/lang/String" "coder" "B") ∈ gw := gw_8 183 rfl rfl
theorem d_cJ0_coder_7d493_10 : decode cJ0_coder_7d493 10 = .ok (.goto 4, 3) := by decide +kernel
theorem d_cJ0_coder_7d493_14 : decode cJ0_coder_7d493 14 = .ok (.ireturn, 1) := by decide +kernel
theorem d_cJ0_length_8abf5_0 : decode cJ0_length_8abf5 0 = .ok (.aload_n 0, 1) := by decide +kernel
theorem d_cJ0_length_8abf5_1 : decode cJ0_length_8abf5 1 = .ok (.getfield 9, 3) := by decide +kernel
theorem w_8_182 : (Jvm.Cond.fieldLink "java/lang/String" (9 : Nat) "java/lang/String" "value" "[B") ∈ gw := gw_8 182 rfl rfl
theorem d_cJ0_length_8abf5_4 : decode cJ0_length_8abf5 4 = .ok (.arraylength, 1) := by decide +kernel
theorem d_cJ0_length_8abf5_5 : decode cJ0_length_8abf5 5 = .ok (.aload_n 0, 1) := by decide +kernel
theorem d_cJ0_length_8abf5_6 : decode cJ0_length_8abf5 6 = .ok (.invokevirtual 335, 3) := by decide +kernel
theorem w_3_61 : (Jvm.Cond.methodLink "java/lang/String" (335 : Nat) ({ cls := "java/lang/String", name := "coder", desc := "()B" } : Jvm.MethodName)) ∈ gw := gw_3 61 rfl rfl
theorem w_1_21 : (Jvm.Cond.initialized "java/lang/String") ∈ gw := gw_1 21 rfl rfl
theorem w_3_64 : (Jvm.Cond.code ({ cls := "java/lang/String", name := "coder", desc := "()B" } : Jvm.MethodName) prog_34_method_152_code (1 : Nat) (Option.some Jvm.ClassFile.FieldType.byte)) ∈ gw := gw_3 64 rfl rfl
theorem w_3_62 : (Jvm.Cond.instanceMethod ({ cls := "java/lang/String", name := "coder", desc := "()B" } : Jvm.MethodName)) ∈ gw := gw_3 62 rfl rfl
theorem w_3_63 : (Jvm.Cond.selects "java/lang/String" ({ cls := "java/lang/String", name := "coder", desc := "()B" } : Jvm.MethodName) ({ cls := "java/lang/String", name := "coder", desc := "()B" } : Jvm.MethodName)) ∈ gw := gw_3 63 rfl rfl
theorem d_cJ0_length_8abf5_9 : decode cJ0_length_8abf5 9 = .ok (.ishr, 1) := by decide +kernel
theorem d_cJ0_length_8abf5_10 : decode cJ0_length_8abf5 10 = .ok (.ireturn, 1) := by decide +kernel
theorem d_cJ0_isLatin1_aae02_0 : decode cJ0_isLatin1_aae02 0 = .ok (.getstatic 38, 3) := by decide +kernel
theorem d_cJ0_isLatin1_aae02_3 : decode cJ0_isLatin1_aae02 3 = .ok (.ifCond .eq 14, 3) := by decide +kernel
theorem d_cJ0_isLatin1_aae02_6 : decode cJ0_isLatin1_aae02 6 = .ok (.aload_n 0, 1) := by decide +kernel
theorem d_cJ0_isLatin1_aae02_7 : decode cJ0_isLatin1_aae02 7 = .ok (.getfield 15, 3) := by decide +kernel
theorem d_cJ0_isLatin1_aae02_10 : decode cJ0_isLatin1_aae02 10 = .ok (.ifCond .ne 7, 3) := by decide +kernel
theorem d_cJ0_isLatin1_aae02_13 : decode cJ0_isLatin1_aae02 13 = .ok (.iconst 1, 1) := by decide +kernel
theorem d_cJ0_isLatin1_aae02_14 : decode cJ0_isLatin1_aae02 14 = .ok (.goto 4, 3) := by decide +kernel
theorem d_cJ0_isLatin1_aae02_18 : decode cJ0_isLatin1_aae02 18 = .ok (.ireturn, 1) := by decide +kernel
theorem d_cJ3_checkIndex_8e157_0 : decode cJ3_checkIndex_8e157 0 = .ok (.iload_n 0, 1) := by decide +kernel
theorem d_cJ3_checkIndex_8e157_1 : decode cJ3_checkIndex_8e157 1 = .ok (.ifCond .lt 8, 3) := by decide +kernel
theorem d_cJ3_checkIndex_8e157_4 : decode cJ3_checkIndex_8e157 4 = .ok (.iload_n 0, 1) := by decide +kernel
theorem d_cJ3_checkIndex_8e157_5 : decode cJ3_checkIndex_8e157 5 = .ok (.iload_n 1, 1) := by decide +kernel
theorem d_cJ3_checkIndex_8e157_6 : decode cJ3_checkIndex_8e157 6 = .ok (.if_icmp .lt 10, 3) := by decide +kernel
theorem d_cJ3_checkIndex_8e157_16 : decode cJ3_checkIndex_8e157 16 = .ok (.iload_n 0, 1) := by decide +kernel
theorem d_cJ3_checkIndex_8e157_17 : decode cJ3_checkIndex_8e157 17 = .ok (.ireturn, 1) := by decide +kernel
theorem d_cJ0_checkIndex_df160_0 : decode cJ0_checkIndex_df160 0 = .ok (.iload_n 0, 1) := by decide +kernel
theorem d_cJ0_checkIndex_df160_1 : decode cJ0_checkIndex_df160 1 = .ok (.iload_n 1, 1) := by decide +kernel
theorem d_cJ0_checkIndex_df160_2 : decode cJ0_checkIndex_df160 2 = .ok (.getstatic 1053, 3) := by decide +kernel
theorem w_3_81 : (Jvm.Cond.fieldLink "java/lang/String" (1053 : Nat) "jdk/internal/util/Preconditions" "SIOOBE_FORMATTER" "Ljava/util/function/BiFunction;") ∈ gw := gw_3 81 rfl rfl
theorem d_cJ0_checkIndex_df160_5 : decode cJ0_checkIndex_df160 5 = .ok (.invokestatic 1059, 3) := by decide +kernel
theorem w_3_83 : (Jvm.Cond.methodLink "java/lang/String" (1059 : Nat) ({ cls := "jdk/internal/util/Preconditions", name := "checkIndex", desc := "(IILjava/util/function/BiFunction;)I" } : Jvm.MethodName)) ∈ gw := gw_3 83 rfl rfl
theorem w_1_29 : (Jvm.Cond.initialized "jdk/internal/util/Preconditions") ∈ gw := gw_1 29 rfl rfl
theorem w_3_85 : (Jvm.Cond.code ({ cls := "jdk/internal/util/Preconditions", name := "checkIndex", desc := "(IILjava/util/function/BiFunction;)I" } : Jvm.MethodName) prog_52_method_11_code (3 : Nat) (Option.some Jvm.ClassFile.FieldType.int)) ∈ gw := gw_3 85 rfl rfl
theorem w_3_84 : (Jvm.Cond.static ({ cls := "jdk/internal/util/Preconditions", name := "checkIndex", desc := "(IILjava/util/function/BiFunction;)I" } : Jvm.MethodName)) ∈ gw := gw_3 84 rfl rfl
theorem d_cJ0_checkIndex_df160_8 : decode cJ0_checkIndex_df160 8 = .ok (.pop, 1) := by decide +kernel
theorem d_cJ0_checkIndex_df160_9 : decode cJ0_checkIndex_df160 9 = .ok (.return_, 1) := by decide +kernel
theorem d_cJ1_charAt_3b067_0 : decode cJ1_charAt_3b067 0 = .ok (.iload_n 1, 1) := by decide +kernel
theorem d_cJ1_charAt_3b067_1 : decode cJ1_charAt_3b067 1 = .ok (.aload_n 0, 1) := by decide +kernel
theorem d_cJ1_charAt_3b067_2 : decode cJ1_charAt_3b067 2 = .ok (.arraylength, 1) := by decide +kernel
theorem d_cJ1_charAt_3b067_3 : decode cJ1_charAt_3b067 3 = .ok (.invokestatic 9, 3) := by decide +kernel
theorem w_3_78 : (Jvm.Cond.methodLink "java/lang/StringLatin1" (9 : Nat) ({ cls := "java/lang/String", name := "checkIndex", desc := "(II)V" } : Jvm.MethodName)) ∈ gw := gw_3 78 rfl rfl
theorem w_3_80 : (Jvm.Cond.code ({ cls := "java/lang/String", name := "checkIndex", desc := "(II)V" } : Jvm.MethodName) prog_34_method_155_code (2 : Nat) (Option.none : Option Jvm.ClassFile.FieldType)) ∈ gw := gw_3 80 rfl rfl
theorem w_3_79 : (Jvm.Cond.static ({ cls := "java/lang/String", name := "checkIndex", desc := "(II)V" } : Jvm.MethodName)) ∈ gw := gw_3 79 rfl rfl
theorem d_cJ1_charAt_3b067_6 : decode cJ1_charAt_3b067 6 = .ok (.aload_n 0, 1) := by decide +kernel
theorem d_cJ1_charAt_3b067_7 : decode cJ1_charAt_3b067 7 = .ok (.iload_n 1, 1) := by decide +kernel
theorem d_cJ1_charAt_3b067_8 : decode cJ1_charAt_3b067 8 = .ok (.baload, 1) := by decide +kernel
theorem d_cJ1_charAt_3b067_9 : decode cJ1_charAt_3b067 9 = .ok (.sipush 255, 3) := by decide +kernel
theorem d_cJ1_charAt_3b067_12 : decode cJ1_charAt_3b067 12 = .ok (.iand, 1) := by decide +kernel
theorem d_cJ1_charAt_3b067_13 : decode cJ1_charAt_3b067 13 = .ok (.i2c, 1) := by decide +kernel
theorem d_cJ1_charAt_3b067_14 : decode cJ1_charAt_3b067 14 = .ok (.ireturn, 1) := by decide +kernel
theorem d_cJ0_charAt_5068e_0 : decode cJ0_charAt_5068e 0 = .ok (.aload_n 0, 1) := by decide +kernel
theorem d_cJ0_charAt_5068e_1 : decode cJ0_charAt_5068e 1 = .ok (.invokevirtual 492, 3) := by decide +kernel
theorem w_3_71 : (Jvm.Cond.methodLink "java/lang/String" (492 : Nat) ({ cls := "java/lang/String", name := "isLatin1", desc := "()Z" } : Jvm.MethodName)) ∈ gw := gw_3 71 rfl rfl
theorem w_3_74 : (Jvm.Cond.code ({ cls := "java/lang/String", name := "isLatin1", desc := "()Z" } : Jvm.MethodName) prog_34_method_154_code (1 : Nat) (Option.some Jvm.ClassFile.FieldType.boolean)) ∈ gw := gw_3 74 rfl rfl
theorem w_3_72 : (Jvm.Cond.instanceMethod ({ cls := "java/lang/String", name := "isLatin1", desc := "()Z" } : Jvm.MethodName)) ∈ gw := gw_3 72 rfl rfl
theorem w_3_73 : (Jvm.Cond.selects "java/lang/String" ({ cls := "java/lang/String", name := "isLatin1", desc := "()Z" } : Jvm.MethodName) ({ cls := "java/lang/String", name := "isLatin1", desc := "()Z" } : Jvm.MethodName)) ∈ gw := gw_3 73 rfl rfl
theorem d_cJ0_charAt_5068e_4 : decode cJ0_charAt_5068e 4 = .ok (.ifCond .eq 12, 3) := by decide +kernel
theorem d_cJ0_charAt_5068e_7 : decode cJ0_charAt_5068e 7 = .ok (.aload_n 0, 1) := by decide +kernel
theorem d_cJ0_charAt_5068e_8 : decode cJ0_charAt_5068e 8 = .ok (.getfield 9, 3) := by decide +kernel
theorem d_cJ0_charAt_5068e_11 : decode cJ0_charAt_5068e 11 = .ok (.iload_n 1, 1) := by decide +kernel
theorem d_cJ0_charAt_5068e_12 : decode cJ0_charAt_5068e 12 = .ok (.invokestatic 495, 3) := by decide +kernel
theorem w_3_75 : (Jvm.Cond.methodLink "java/lang/String" (495 : Nat) ({ cls := "java/lang/StringLatin1", name := "charAt", desc := "([BI)C" } : Jvm.MethodName)) ∈ gw := gw_3 75 rfl rfl
theorem w_1_28 : (Jvm.Cond.initialized "java/lang/StringLatin1") ∈ gw := gw_1 28 rfl rfl
theorem w_3_77 : (Jvm.Cond.code ({ cls := "java/lang/StringLatin1", name := "charAt", desc := "([BI)C" } : Jvm.MethodName) prog_37_method_2_code (2 : Nat) (Option.some Jvm.ClassFile.FieldType.char)) ∈ gw := gw_3 77 rfl rfl
theorem w_3_76 : (Jvm.Cond.static ({ cls := "java/lang/StringLatin1", name := "charAt", desc := "([BI)C" } : Jvm.MethodName)) ∈ gw := gw_3 76 rfl rfl
theorem d_cJ0_charAt_5068e_15 : decode cJ0_charAt_5068e 15 = .ok (.ireturn, 1) := by decide +kernel
theorem d_cX9_isWord_0 : decode cX9_isWord 0 = .ok (.aload_n 0, 1) := by decide +kernel
theorem d_cX9_isWord_1 : decode cX9_isWord 1 = .ok (.getfield 25, 3) := by decide +kernel
theorem d_cX9_isWord_4 : decode cX9_isWord 4 = .ok (.aload_n 0, 1) := by decide +kernel
theorem d_cX9_isWord_5 : decode cX9_isWord 5 = .ok (.getfield 22, 3) := by decide +kernel
theorem d_cX9_isWord_8 : decode cX9_isWord 8 = .ok (.isub, 1) := by decide +kernel
theorem d_cX9_isWord_9 : decode cX9_isWord 9 = .ok (.aload_n 1, 1) := by decide +kernel
theorem d_cX9_isWord_10 : decode cX9_isWord 10 = .ok (.invokevirtual 95, 3) := by decide +kernel
theorem w_3_57 : (Jvm.Cond.methodLink "SpillForge$Signs" (95 : Nat) ({ cls := "java/lang/String", name := "length", desc := "()I" } : Jvm.MethodName)) ∈ gw := gw_3 57 rfl rfl
theorem w_3_60 : (Jvm.Cond.code ({ cls := "java/lang/String", name := "length", desc := "()I" } : Jvm.MethodName) prog_34_method_54_code (1 : Nat) (Option.some Jvm.ClassFile.FieldType.int)) ∈ gw := gw_3 60 rfl rfl
theorem w_3_58 : (Jvm.Cond.instanceMethod ({ cls := "java/lang/String", name := "length", desc := "()I" } : Jvm.MethodName)) ∈ gw := gw_3 58 rfl rfl
theorem w_3_59 : (Jvm.Cond.selects "java/lang/String" ({ cls := "java/lang/String", name := "length", desc := "()I" } : Jvm.MethodName) ({ cls := "java/lang/String", name := "length", desc := "()I" } : Jvm.MethodName)) ∈ gw := gw_3 59 rfl rfl
theorem d_cX9_isWord_13 : decode cX9_isWord 13 = .ok (.if_icmp .eq 5, 3) := by decide +kernel
theorem d_cX9_isWord_18 : decode cX9_isWord 18 = .ok (.iconst 0, 1) := by decide +kernel
theorem d_cX9_isWord_19 : decode cX9_isWord 19 = .ok (.istore_n 2, 1) := by decide +kernel
theorem d_cX9_isWord_20 : decode cX9_isWord 20 = .ok (.iload_n 2, 1) := by decide +kernel
theorem d_cX9_isWord_21 : decode cX9_isWord 21 = .ok (.aload_n 1, 1) := by decide +kernel
theorem d_cX9_isWord_22 : decode cX9_isWord 22 = .ok (.invokevirtual 95, 3) := by decide +kernel
theorem d_cX9_isWord_25 : decode cX9_isWord 25 = .ok (.if_icmp .ge 32, 3) := by decide +kernel
theorem d_cX9_isWord_57 : decode cX9_isWord 57 = .ok (.iconst 1, 1) := by decide +kernel
theorem d_cX9_isWord_58 : decode cX9_isWord 58 = .ok (.ireturn, 1) := by decide +kernel
theorem d_cX9_isWord_28 : decode cX9_isWord 28 = .ok (.aload_n 0, 1) := by decide +kernel
theorem d_cX9_isWord_29 : decode cX9_isWord 29 = .ok (.getfield 9, 3) := by decide +kernel
theorem d_cX9_isWord_32 : decode cX9_isWord 32 = .ok (.aload_n 0, 1) := by decide +kernel
theorem d_cX9_isWord_33 : decode cX9_isWord 33 = .ok (.getfield 22, 3) := by decide +kernel
theorem d_cX9_isWord_36 : decode cX9_isWord 36 = .ok (.iload_n 2, 1) := by decide +kernel
theorem d_cX9_isWord_37 : decode cX9_isWord 37 = .ok (.iadd, 1) := by decide +kernel
theorem d_cX9_isWord_38 : decode cX9_isWord 38 = .ok (.invokevirtual 35, 3) := by decide +kernel
theorem d_cX9_isWord_41 : decode cX9_isWord 41 = .ok (.aload_n 1, 1) := by decide +kernel
theorem d_cX9_isWord_42 : decode cX9_isWord 42 = .ok (.iload_n 2, 1) := by decide +kernel
theorem d_cX9_isWord_43 : decode cX9_isWord 43 = .ok (.invokevirtual 100, 3) := by decide +kernel
theorem w_3_67 : (Jvm.Cond.methodLink "SpillForge$Signs" (100 : Nat) ({ cls := "java/lang/String", name := "charAt", desc := "(I)C" } : Jvm.MethodName)) ∈ gw := gw_3 67 rfl rfl
theorem w_3_70 : (Jvm.Cond.code ({ cls := "java/lang/String", name := "charAt", desc := "(I)C" } : Jvm.MethodName) prog_34_method_56_code (2 : Nat) (Option.some Jvm.ClassFile.FieldType.char)) ∈ gw := gw_3 70 rfl rfl
theorem w_3_68 : (Jvm.Cond.instanceMethod ({ cls := "java/lang/String", name := "charAt", desc := "(I)C" } : Jvm.MethodName)) ∈ gw := gw_3 68 rfl rfl
theorem w_3_69 : (Jvm.Cond.selects "java/lang/String" ({ cls := "java/lang/String", name := "charAt", desc := "(I)C" } : Jvm.MethodName) ({ cls := "java/lang/String", name := "charAt", desc := "(I)C" } : Jvm.MethodName)) ∈ gw := gw_3 69 rfl rfl
theorem d_cX9_isWord_46 : decode cX9_isWord 46 = .ok (.if_icmp .eq 5, 3) := by decide +kernel
theorem d_cX9_isWord_49 : decode cX9_isWord 49 = .ok (.iconst 0, 1) := by decide +kernel
theorem d_cX9_isWord_50 : decode cX9_isWord 50 = .ok (.ireturn, 1) := by decide +kernel
theorem d_cX9_isWord_51 : decode cX9_isWord 51 = .ok (.iinc 2 1, 3) := by decide +kernel
theorem d_cX9_isWord_54 : decode cX9_isWord 54 = .ok (.goto (-34), 3) := by decide +kernel
theorem d_cX9_isWord_16 : decode cX9_isWord 16 = .ok (.iconst 0, 1) := by decide +kernel
theorem d_cX9_isWord_17 : decode cX9_isWord 17 = .ok (.ireturn, 1) := by decide +kernel
theorem d_cX9_takeWord_0 : decode cX9_takeWord 0 = .ok (.aload_n 0, 1) := by decide +kernel
theorem d_cX9_takeWord_1 : decode cX9_takeWord 1 = .ok (.getfield 22, 3) := by decide +kernel
theorem d_cX9_takeWord_4 : decode cX9_takeWord 4 = .ok (.istore_n 1, 1) := by decide +kernel
theorem d_cX9_takeWord_5 : decode cX9_takeWord 5 = .ok (.iload_n 1, 1) := by decide +kernel
theorem d_cX9_takeWord_6 : decode cX9_takeWord 6 = .ok (.aload_n 0, 1) := by decide +kernel
theorem d_cX9_takeWord_7 : decode cX9_takeWord 7 = .ok (.getfield 9, 3) := by decide +kernel
theorem d_cX9_takeWord_10 : decode cX9_takeWord 10 = .ok (.invokevirtual 61, 3) := by decide +kernel
theorem d_cX9_takeWord_13 : decode cX9_takeWord 13 = .ok (.if_icmp .ge 23, 3) := by decide +kernel
theorem d_cX9_takeWord_36 : decode cX9_takeWord 36 = .ok (.aload_n 0, 1) := by decide +kernel
theorem d_cX9_takeWord_37 : decode cX9_takeWord 37 = .ok (.iload_n 1, 1) := by decide +kernel
theorem d_cX9_takeWord_38 : decode cX9_takeWord 38 = .ok (.putfield 25, 3) := by decide +kernel
theorem d_cX9_takeWord_41 : decode cX9_takeWord 41 = .ok (.aload_n 0, 1) := by decide +kernel
theorem d_cX9_takeWord_42 : decode cX9_takeWord 42 = .ok (.aload_n 0, 1) := by decide +kernel
theorem d_cX9_takeWord_43 : decode cX9_takeWord 43 = .ok (.ldc 81, 2) := by decide +kernel
theorem d_cX9_takeWord_45 : decode cX9_takeWord 45 = .ok (.invokevirtual 83, 3) := by decide +kernel
theorem w_3_53 : (Jvm.Cond.methodLink "SpillForge$Signs" (83 : Nat) ({ cls := "SpillForge$Signs", name := "isWord", desc := "(Ljava/lang/String;)Z" } : Jvm.MethodName)) ∈ gw := gw_3 53 rfl rfl
theorem w_3_56 : (Jvm.Cond.code ({ cls := "SpillForge$Signs", name := "isWord", desc := "(Ljava/lang/String;)Z" } : Jvm.MethodName) prog_11_method_12_code (3 : Nat) (Option.some Jvm.ClassFile.FieldType.boolean)) ∈ gw := gw_3 56 rfl rfl
theorem w_3_55 : (Jvm.Cond.instanceMethod ({ cls := "SpillForge$Signs", name := "isWord", desc := "(Ljava/lang/String;)Z" } : Jvm.MethodName)) ∈ gw := gw_3 55 rfl rfl
theorem w_p_5 : Cond.selects "SpillForge$Signs" ⟨"SpillForge$Signs", "isWord", "(Ljava/lang/String;)Z"⟩ ⟨"SpillForge$Signs", "isWord", "(Ljava/lang/String;)Z"⟩ ∈ gw := gw_p _ 5 rfl rfl rfl
theorem d_cX9_takeWord_48 : decode cX9_takeWord 48 = .ok (.ifCond .eq 8, 3) := by decide +kernel
theorem d_cX9_takeWord_56 : decode cX9_takeWord 56 = .ok (.aload_n 0, 1) := by decide +kernel
theorem d_cX9_takeWord_57 : decode cX9_takeWord 57 = .ok (.ldc 87, 2) := by decide +kernel
theorem d_cX9_takeWord_59 : decode cX9_takeWord 59 = .ok (.invokevirtual 83, 3) := by decide +kernel
theorem d_cX9_takeWord_62 : decode cX9_takeWord 62 = .ok (.ifCond .eq 8, 3) := by decide +kernel
theorem d_cX9_takeWord_70 : decode cX9_takeWord 70 = .ok (.aload_n 0, 1) := by decide +kernel
theorem d_cX9_takeWord_71 : decode cX9_takeWord 71 = .ok (.ldc 89, 2) := by decide +kernel
theorem d_cX9_takeWord_73 : decode cX9_takeWord 73 = .ok (.invokevirtual 83, 3) := by decide +kernel
theorem d_cX9_takeWord_76 : decode cX9_takeWord 76 = .ok (.ifCond .eq 8, 3) := by decide +kernel
theorem d_cX9_takeWord_84 : decode cX9_takeWord 84 = .ok (.aload_n 0, 1) := by decide +kernel
theorem d_cX9_takeWord_85 : decode cX9_takeWord 85 = .ok (.ldc 91, 2) := by decide +kernel
theorem d_cX9_takeWord_87 : decode cX9_takeWord 87 = .ok (.invokevirtual 83, 3) := by decide +kernel
theorem d_cX9_takeWord_90 : decode cX9_takeWord 90 = .ok (.ifCond .eq 8, 3) := by decide +kernel
theorem d_cX9_takeWord_98 : decode cX9_takeWord 98 = .ok (.aload_n 0, 1) := by decide +kernel
theorem d_cX9_takeWord_99 : decode cX9_takeWord 99 = .ok (.ldc 93, 2) := by decide +kernel
theorem d_cX9_takeWord_101 : decode cX9_takeWord 101 = .ok (.invokevirtual 83, 3) := by decide +kernel
theorem d_cX9_takeWord_104 : decode cX9_takeWord 104 = .ok (.ifCond .eq 8, 3) := by decide +kernel
theorem d_cX9_takeWord_112 : decode cX9_takeWord 112 = .ok (.iconst 0, 1) := by decide +kernel
theorem d_cX9_takeWord_113 : decode cX9_takeWord 113 = .ok (.putfield 15, 3) := by decide +kernel
theorem d_cX9_takeWord_116 : decode cX9_takeWord 116 = .ok (.return_, 1) := by decide +kernel
theorem d_cX9_takeWord_107 : decode cX9_takeWord 107 = .ok (.bipush 12, 2) := by decide +kernel
theorem d_cX9_takeWord_109 : decode cX9_takeWord 109 = .ok (.goto 4, 3) := by decide +kernel
theorem d_cX9_takeWord_93 : decode cX9_takeWord 93 = .ok (.bipush 11, 2) := by decide +kernel
theorem d_cX9_takeWord_95 : decode cX9_takeWord 95 = .ok (.goto 18, 3) := by decide +kernel
theorem d_cX9_takeWord_79 : decode cX9_takeWord 79 = .ok (.bipush 10, 2) := by decide +kernel
theorem d_cX9_takeWord_81 : decode cX9_takeWord 81 = .ok (.goto 32, 3) := by decide +kernel
theorem d_cX9_takeWord_65 : decode cX9_takeWord 65 = .ok (.bipush 9, 2) := by decide +kernel
theorem d_cX9_takeWord_67 : decode cX9_takeWord 67 = .ok (.goto 46, 3) := by decide +kernel
theorem d_cX9_takeWord_51 : decode cX9_takeWord 51 = .ok (.bipush 8, 2) := by decide +kernel
theorem d_cX9_takeWord_53 : decode cX9_takeWord 53 = .ok (.goto 60, 3) := by decide +kernel
theorem d_cX9_takeWord_16 : decode cX9_takeWord 16 = .ok (.aload_n 0, 1) := by decide +kernel
theorem d_cX9_takeWord_17 : decode cX9_takeWord 17 = .ok (.getfield 9, 3) := by decide +kernel
theorem d_cX9_takeWord_20 : decode cX9_takeWord 20 = .ok (.iload_n 1, 1) := by decide +kernel
theorem d_cX9_takeWord_21 : decode cX9_takeWord 21 = .ok (.invokevirtual 35, 3) := by decide +kernel
theorem d_cX9_takeWord_24 : decode cX9_takeWord 24 = .ok (.invokestatic 52, 3) := by decide +kernel
theorem w_3_45 : (Jvm.Cond.methodLink "SpillForge$Signs" (52 : Nat) ({ cls := "SpillForge$Signs", name := "isLetter", desc := "(I)Z" } : Jvm.MethodName)) ∈ gw := gw_3 45 rfl rfl
theorem w_3_47 : (Jvm.Cond.code ({ cls := "SpillForge$Signs", name := "isLetter", desc := "(I)Z" } : Jvm.MethodName) prog_11_method_16_code (1 : Nat) (Option.some Jvm.ClassFile.FieldType.boolean)) ∈ gw := gw_3 47 rfl rfl
theorem w_3_46 : (Jvm.Cond.static ({ cls := "SpillForge$Signs", name := "isLetter", desc := "(I)Z" } : Jvm.MethodName)) ∈ gw := gw_3 46 rfl rfl
theorem d_cX9_takeWord_27 : decode cX9_takeWord 27 = .ok (.ifCond .eq 9, 3) := by decide +kernel
theorem d_cX9_takeWord_30 : decode cX9_takeWord 30 = .ok (.iinc 1 1, 3) := by decide +kernel
theorem d_cX9_takeWord_33 : decode cX9_takeWord 33 = .ok (.goto (-28), 3) := by decide +kernel
abbrev ky_2811_Machine_perform : gKey := (cX7_perform, 4, yX7_perform.cls, none, [], yX7_perform.name, fun _ _ => True)
abbrev po_2811_Machine_perform (I : FieldType → ClassId) (q2772 : Nat) (q2773 : Nat) (q2774 : Nat) (q2775 : Nat) (q2776 : Nat) (q2777 : Nat) (q2778 : Nat) (q2779 : Nat) (q2780 : Nat) (q2781 : Nat) (q2782 : Nat) (q2783 : Nat) (q2784 : Nat) (q2785 : Nat) (q2786 : Nat) (p2787 : Int32) (p2788 : Int32) (p2789 : Int32) (p2790 : Int32) (p2791 : Int32) (p2792 : Int32) (p2793 : Int32) (p2794 : Int32) (p2795 : Int32) (p2796 : Int32) (p2797 : Int32) (f2798 : Nat → Int32) (f2799 : Nat → Int32) (f2800 : Nat → Int32) (f2801 : Nat → Int32) (f2802 : Nat → Int32) (f2803 : Nat → Int32) (f2804 : Nat → Int32) (f2805 : Nat → Int32) (f2806 : Nat → Int32) (f2807 : Nat → Int32) (f2808 : Nat → Int32) (f2809 : Nat → Int32) (f2810 : Nat → Int32) : Option Value → va_W → Prop := fun r w => ∃ (o3782 : Int32) (o3783 : Int32) (o3784 : Int32) (o3785 : Int32) (o3786 : Int32) (o3787 : Int32) (f3788 : Nat → Int32) (f3789 : Nat → Int32) (f3790 : Nat → Int32), r = none ∧ w = [(q2772, .inr (12, [.ref q2774, .ref q2775, .ref q2776, .ref q2777, .int p2788, .int o3782, .int o3783, .int o3784, .int o3785, .int o3786, .int o3787])), (q2773, .inr (5, [.ref q2778, .ref q2779, .ref q2780, .ref q2781, .ref q2782, .ref q2783, .ref q2784, .ref q2785, .ref q2786, .int p2795, .int p2796, .int p2797])), (q2774, .inl (I .int, 2048, .inl f2798)), (q2775, .inl (I .int, 100, .inl f3788)), (q2776, .inl (I .int, 100, .inl f3789)), (q2777, .inl (I .int, 512, .inl f3790)), (q2778, .inl (I .int, 40, .inl f2802)), (q2779, .inl (I .int, 40, .inl f2803)), (q2780, .inl (I .int, 40, .inl f2804)), (q2781, .inl (I .int, 200, .inl f2805)), (q2782, .inl (I .int, 200, .inl f2806)), (q2783, .inl (I .int, 200, .inl f2807)), (q2784, .inl (I .int, 200, .inl f2808)), (q2785, .inl (I .int, 200, .inl f2809)), (q2786, .inl (I .int, 200, .inl f2810))] ∧ gB o3782 0 39 ∧ gB o3783 (-2147483648) 2147483647 ∧ gB o3784 0 512 ∧ gB o3785 0 100000 ∧ gB o3786 0 2048 ∧ gB o3787 (-2147483648) 2147483647 ∧ gF f3788 (-2147483648) 2147483647 ∧ gF f3789 (-2147483648) 2147483647 ∧ gF f3790 (-2147483648) 2147483647
set_option maxRecDepth 100000 in
set_option maxHeartbeats 4000000 in
theorem ct_2811_Machine_perform (l : Launch) (hl0 : l.stackTraces = false) (D : va_G) (I : FieldType → ClassId) (q2772 : Nat) (q2773 : Nat) (q2774 : Nat) (q2775 : Nat) (q2776 : Nat) (q2777 : Nat) (q2778 : Nat) (q2779 : Nat) (q2780 : Nat) (q2781 : Nat) (q2782 : Nat) (q2783 : Nat) (q2784 : Nat) (q2785 : Nat) (q2786 : Nat) (p2787 : Int32) (p2788 : Int32) (p2789 : Int32) (p2790 : Int32) (p2791 : Int32) (p2792 : Int32) (p2793 : Int32) (p2794 : Int32) (p2795 : Int32) (p2796 : Int32) (p2797 : Int32) (f2798 : Nat → Int32) (f2799 : Nat → Int32) (f2800 : Nat → Int32) (f2801 : Nat → Int32) (f2802 : Nat → Int32) (f2803 : Nat → Int32) (f2804 : Nat → Int32) (f2805 : Nat → Int32) (f2806 : Nat → Int32) (f2807 : Nat → Int32) (f2808 : Nat → Int32) (f2809 : Nat → Int32) (f2810 : Nat → Int32) (bp2787 : gB p2787 1 100000) (bp2788 : gB p2788 0 2048) (bp2789 : gB p2789 0 39) (bp2791 : gB p2791 0 512) (bp2793 : gB p2793 0 2048) (bp2795 : gB p2795 0 40) (bp2796 : gB p2796 0 200) (bp2797 : gB p2797 0 1) (bf2802 : gF f2802 0 200) (bf2805 : gF f2805 0 21) : Ct (gV D I) l yX7_perform cX7_perform 4 none 3 68 0 0 [.ref q2772, .ref q2773, .int p2787] [(q2772, .inr (12, [.ref q2774, .ref q2775, .ref q2776, .ref q2777, .int p2788, .int p2789, .int p2790, .int p2791, .int p2792, .int p2793, .int p2794])), (q2773, .inr (5, [.ref q2778, .ref q2779, .ref q2780, .ref q2781, .ref q2782, .ref q2783, .ref q2784, .ref q2785, .ref q2786, .int p2795, .int p2796, .int p2797])), (q2774, .inl (I .int, 2048, .inl f2798)), (q2775, .inl (I .int, 100, .inl f2799)), (q2776, .inl (I .int, 100, .inl f2800)), (q2777, .inl (I .int, 512, .inl f2801)), (q2778, .inl (I .int, 40, .inl f2802)), (q2779, .inl (I .int, 40, .inl f2803)), (q2780, .inl (I .int, 40, .inl f2804)), (q2781, .inl (I .int, 200, .inl f2805)), (q2782, .inl (I .int, 200, .inl f2806)), (q2783, .inl (I .int, 200, .inl f2807)), (q2784, .inl (I .int, 200, .inl f2808)), (q2785, .inl (I .int, 200, .inl f2809)), (q2786, .inl (I .int, 200, .inl f2810))] (po_2811_Machine_perform I q2772 q2773 q2774 q2775 q2776 q2777 q2778 q2779 q2780 q2781 q2782 q2783 q2784 q2785 q2786 p2787 p2788 p2789 p2790 p2791 p2792 p2793 p2794 p2795 p2796 p2797 f2798 f2799 f2800 f2801 f2802 f2803 f2804 f2805 f2806 f2807 f2808 f2809 f2810) gN := by
  refine Ct_of hl0 (by decide) (Nat.le_of_ble_eq_true rfl) ?_
  have bp2790 := gB_any p2790
  have bp2792 := gB_any p2792
  have bp2794 := gB_any p2794
  refine G_aload_n 0 d_cX7_perform_0 rfl ?_
  refine G_getf 0 1 d_cX7_perform_1 rfl (gk_X7 D I) (Nat.le_of_ble_eq_true rfl) w_2_161 rfl ?_
  refine G_iconst 0 d_cX7_perform_4 (by decide +kernel) ?_
  refine G_callS (As := [.ref q2775, .int 0]) (wr := [(q2772, .inr (12, [.ref q2774, .ref q2775, .ref q2776, .ref q2777, .int p2788, .int p2789, .int p2790, .int p2791, .int p2792, .int p2793, .int p2794])), (q2773, .inr (5, [.ref q2778, .ref q2779, .ref q2780, .ref q2781, .ref q2782, .ref q2783, .ref q2784, .ref q2785, .ref q2786, .int p2795, .int p2796, .int p2797])), (q2774, .inl (I .int, 2048, .inl f2798)), (q2776, .inl (I .int, 100, .inl f2800)), (q2777, .inl (I .int, 512, .inl f2801)), (q2778, .inl (I .int, 40, .inl f2802)), (q2779, .inl (I .int, 40, .inl f2803)), (q2780, .inl (I .int, 40, .inl f2804)), (q2781, .inl (I .int, 200, .inl f2805)), (q2782, .inl (I .int, 200, .inl f2806)), (q2783, .inl (I .int, 200, .inl f2807)), (q2784, .inl (I .int, 200, .inl f2808)), (q2785, .inl (I .int, 200, .inl f2809)), (q2786, .inl (I .int, 200, .inl f2810))]) (gV_ok D I) (ct_2815_Arrays_fill l hl0 D I q2775 0 f2799 ) d_cX7_perform_5 ⟨w_6_73, w_1_30, w_3_239, by decide, rfl, (Nat.le_of_ble_eq_true rfl), (Nat.le_of_ble_eq_true rfl)⟩ w_3_238 [3] [0, 1, 2, 4, 5, 6, 7, 8, 9, 10, 11, 12, 13, 14] rfl rfl rfl rfl (by decide) (Nat.le_of_ble_eq_true rfl) (Nat.le_of_ble_eq_true rfl) (Nat.le_of_ble_eq_true rfl) (fun r w hp => ?_) (fun _ _ _ z => z.elim)
  obtain ⟨f2851, rfl, rfl, bf2851⟩ := hp
  change G _ _ _ _ _ _ _ _ _ _ _
  refine G_ws (ws' := [(q2772, .inr (12, [.ref q2774, .ref q2775, .ref q2776, .ref q2777, .int p2788, .int p2789, .int p2790, .int p2791, .int p2792, .int p2793, .int p2794])), (q2773, .inr (5, [.ref q2778, .ref q2779, .ref q2780, .ref q2781, .ref q2782, .ref q2783, .ref q2784, .ref q2785, .ref q2786, .int p2795, .int p2796, .int p2797])), (q2774, .inl (I .int, 2048, .inl f2798)), (q2776, .inl (I .int, 100, .inl f2800)), (q2777, .inl (I .int, 512, .inl f2801)), (q2778, .inl (I .int, 40, .inl f2802)), (q2779, .inl (I .int, 40, .inl f2803)), (q2780, .inl (I .int, 40, .inl f2804)), (q2781, .inl (I .int, 200, .inl f2805)), (q2782, .inl (I .int, 200, .inl f2806)), (q2783, .inl (I .int, 200, .inl f2807)), (q2784, .inl (I .int, 200, .inl f2808)), (q2785, .inl (I .int, 200, .inl f2809)), (q2786, .inl (I .int, 200, .inl f2810)), (q2775, .inl (I .int, 100, .inl f2851))]) (cs' := 0) (sl' := 0) rfl rfl rfl ?_
  refine G_aload_n 0 d_cX7_perform_8 rfl ?_
  refine G_getf 0 2 d_cX7_perform_9 rfl (gk_X7 D I) (Nat.le_of_ble_eq_true rfl) w_2_162 rfl ?_
  refine G_iconst 0 d_cX7_perform_12 (by decide +kernel) ?_
  refine G_callS (As := [.ref q2776, .int 0]) (wr := [(q2772, .inr (12, [.ref q2774, .ref q2775, .ref q2776, .ref q2777, .int p2788, .int p2789, .int p2790, .int p2791, .int p2792, .int p2793, .int p2794])), (q2773, .inr (5, [.ref q2778, .ref q2779, .ref q2780, .ref q2781, .ref q2782, .ref q2783, .ref q2784, .ref q2785, .ref q2786, .int p2795, .int p2796, .int p2797])), (q2774, .inl (I .int, 2048, .inl f2798)), (q2777, .inl (I .int, 512, .inl f2801)), (q2778, .inl (I .int, 40, .inl f2802)), (q2779, .inl (I .int, 40, .inl f2803)), (q2780, .inl (I .int, 40, .inl f2804)), (q2781, .inl (I .int, 200, .inl f2805)), (q2782, .inl (I .int, 200, .inl f2806)), (q2783, .inl (I .int, 200, .inl f2807)), (q2784, .inl (I .int, 200, .inl f2808)), (q2785, .inl (I .int, 200, .inl f2809)), (q2786, .inl (I .int, 200, .inl f2810)), (q2775, .inl (I .int, 100, .inl f2851))]) (gV_ok D I) (ct_2815_Arrays_fill l hl0 D I q2776 0 f2800 ) d_cX7_perform_13 ⟨w_6_73, w_1_30, w_3_239, by decide, rfl, (Nat.le_of_ble_eq_true rfl), (Nat.le_of_ble_eq_true rfl)⟩ w_3_238 [3] [0, 1, 2, 4, 5, 6, 7, 8, 9, 10, 11, 12, 13, 14] rfl rfl rfl rfl (by decide) (Nat.le_of_ble_eq_true rfl) (Nat.le_of_ble_eq_true rfl) (Nat.le_of_ble_eq_true rfl) (fun r w hp => ?_) (fun _ _ _ z => z.elim)
  obtain ⟨f2852, rfl, rfl, bf2852⟩ := hp
  change G _ _ _ _ _ _ _ _ _ _ _
  refine G_ws (ws' := [(q2772, .inr (12, [.ref q2774, .ref q2775, .ref q2776, .ref q2777, .int p2788, .int p2789, .int p2790, .int p2791, .int p2792, .int p2793, .int p2794])), (q2773, .inr (5, [.ref q2778, .ref q2779, .ref q2780, .ref q2781, .ref q2782, .ref q2783, .ref q2784, .ref q2785, .ref q2786, .int p2795, .int p2796, .int p2797])), (q2774, .inl (I .int, 2048, .inl f2798)), (q2777, .inl (I .int, 512, .inl f2801)), (q2778, .inl (I .int, 40, .inl f2802)), (q2779, .inl (I .int, 40, .inl f2803)), (q2780, .inl (I .int, 40, .inl f2804)), (q2781, .inl (I .int, 200, .inl f2805)), (q2782, .inl (I .int, 200, .inl f2806)), (q2783, .inl (I .int, 200, .inl f2807)), (q2784, .inl (I .int, 200, .inl f2808)), (q2785, .inl (I .int, 200, .inl f2809)), (q2786, .inl (I .int, 200, .inl f2810)), (q2775, .inl (I .int, 100, .inl f2851)), (q2776, .inl (I .int, 100, .inl f2852))]) (cs' := 0) (sl' := 0) rfl rfl rfl ?_
  refine G_aload_n 0 d_cX7_perform_16 rfl ?_
  refine G_iconst 0 d_cX7_perform_17 (by decide +kernel) ?_
  refine G_putf (ws' := [(q2772, .inr (12, [.ref q2774, .ref q2775, .ref q2776, .ref q2777, .int p2788, .int 0, .int p2790, .int p2791, .int p2792, .int p2793, .int p2794])), (q2773, .inr (5, [.ref q2778, .ref q2779, .ref q2780, .ref q2781, .ref q2782, .ref q2783, .ref q2784, .ref q2785, .ref q2786, .int p2795, .int p2796, .int p2797])), (q2774, .inl (I .int, 2048, .inl f2798)), (q2777, .inl (I .int, 512, .inl f2801)), (q2778, .inl (I .int, 40, .inl f2802)), (q2779, .inl (I .int, 40, .inl f2803)), (q2780, .inl (I .int, 40, .inl f2804)), (q2781, .inl (I .int, 200, .inl f2805)), (q2782, .inl (I .int, 200, .inl f2806)), (q2783, .inl (I .int, 200, .inl f2807)), (q2784, .inl (I .int, 200, .inl f2808)), (q2785, .inl (I .int, 200, .inl f2809)), (q2786, .inl (I .int, 200, .inl f2810)), (q2775, .inl (I .int, 100, .inl f2851)), (q2776, .inl (I .int, 100, .inl f2852))]) 0 5 d_cX7_perform_18 rfl (gk_X7 D I) (Nat.le_of_ble_eq_true rfl) w_2_165 rfl rfl rfl (Nat.le_of_ble_eq_true rfl) rfl ?_
  refine G_aload_n 0 d_cX7_perform_21 rfl ?_
  refine G_iconst 0 d_cX7_perform_22 (by decide +kernel) ?_
  refine G_putf (ws' := [(q2772, .inr (12, [.ref q2774, .ref q2775, .ref q2776, .ref q2777, .int p2788, .int 0, .int 0, .int p2791, .int p2792, .int p2793, .int p2794])), (q2773, .inr (5, [.ref q2778, .ref q2779, .ref q2780, .ref q2781, .ref q2782, .ref q2783, .ref q2784, .ref q2785, .ref q2786, .int p2795, .int p2796, .int p2797])), (q2774, .inl (I .int, 2048, .inl f2798)), (q2777, .inl (I .int, 512, .inl f2801)), (q2778, .inl (I .int, 40, .inl f2802)), (q2779, .inl (I .int, 40, .inl f2803)), (q2780, .inl (I .int, 40, .inl f2804)), (q2781, .inl (I .int, 200, .inl f2805)), (q2782, .inl (I .int, 200, .inl f2806)), (q2783, .inl (I .int, 200, .inl f2807)), (q2784, .inl (I .int, 200, .inl f2808)), (q2785, .inl (I .int, 200, .inl f2809)), (q2786, .inl (I .int, 200, .inl f2810)), (q2775, .inl (I .int, 100, .inl f2851)), (q2776, .inl (I .int, 100, .inl f2852))]) 0 6 d_cX7_perform_23 rfl (gk_X7 D I) (Nat.le_of_ble_eq_true rfl) w_2_166 rfl rfl rfl (Nat.le_of_ble_eq_true rfl) rfl ?_
  refine G_aload_n 0 d_cX7_perform_26 rfl ?_
  refine G_iconst 0 d_cX7_perform_27 (by decide +kernel) ?_
  refine G_putf (ws' := [(q2772, .inr (12, [.ref q2774, .ref q2775, .ref q2776, .ref q2777, .int p2788, .int 0, .int 0, .int 0, .int p2792, .int p2793, .int p2794])), (q2773, .inr (5, [.ref q2778, .ref q2779, .ref q2780, .ref q2781, .ref q2782, .ref q2783, .ref q2784, .ref q2785, .ref q2786, .int p2795, .int p2796, .int p2797])), (q2774, .inl (I .int, 2048, .inl f2798)), (q2777, .inl (I .int, 512, .inl f2801)), (q2778, .inl (I .int, 40, .inl f2802)), (q2779, .inl (I .int, 40, .inl f2803)), (q2780, .inl (I .int, 40, .inl f2804)), (q2781, .inl (I .int, 200, .inl f2805)), (q2782, .inl (I .int, 200, .inl f2806)), (q2783, .inl (I .int, 200, .inl f2807)), (q2784, .inl (I .int, 200, .inl f2808)), (q2785, .inl (I .int, 200, .inl f2809)), (q2786, .inl (I .int, 200, .inl f2810)), (q2775, .inl (I .int, 100, .inl f2851)), (q2776, .inl (I .int, 100, .inl f2852))]) 0 7 d_cX7_perform_28 rfl (gk_X7 D I) (Nat.le_of_ble_eq_true rfl) w_2_167 rfl rfl rfl (Nat.le_of_ble_eq_true rfl) rfl ?_
  refine G_aload_n 0 d_cX7_perform_31 rfl ?_
  refine G_iconst 0 d_cX7_perform_32 (by decide +kernel) ?_
  refine G_putf (ws' := [(q2772, .inr (12, [.ref q2774, .ref q2775, .ref q2776, .ref q2777, .int p2788, .int 0, .int 0, .int 0, .int p2792, .int 0, .int p2794])), (q2773, .inr (5, [.ref q2778, .ref q2779, .ref q2780, .ref q2781, .ref q2782, .ref q2783, .ref q2784, .ref q2785, .ref q2786, .int p2795, .int p2796, .int p2797])), (q2774, .inl (I .int, 2048, .inl f2798)), (q2777, .inl (I .int, 512, .inl f2801)), (q2778, .inl (I .int, 40, .inl f2802)), (q2779, .inl (I .int, 40, .inl f2803)), (q2780, .inl (I .int, 40, .inl f2804)), (q2781, .inl (I .int, 200, .inl f2805)), (q2782, .inl (I .int, 200, .inl f2806)), (q2783, .inl (I .int, 200, .inl f2807)), (q2784, .inl (I .int, 200, .inl f2808)), (q2785, .inl (I .int, 200, .inl f2809)), (q2786, .inl (I .int, 200, .inl f2810)), (q2775, .inl (I .int, 100, .inl f2851)), (q2776, .inl (I .int, 100, .inl f2852))]) 0 9 d_cX7_perform_33 rfl (gk_X7 D I) (Nat.le_of_ble_eq_true rfl) w_2_169 rfl rfl rfl (Nat.le_of_ble_eq_true rfl) rfl ?_
  refine G_aload_n 0 d_cX7_perform_36 rfl ?_
  refine G_bipush (-2) d_cX7_perform_37 (by decide +kernel) ?_
  refine G_putf (ws' := [(q2772, .inr (12, [.ref q2774, .ref q2775, .ref q2776, .ref q2777, .int p2788, .int 0, .int 0, .int 0, .int p2792, .int 0, .int (-2)])), (q2773, .inr (5, [.ref q2778, .ref q2779, .ref q2780, .ref q2781, .ref q2782, .ref q2783, .ref q2784, .ref q2785, .ref q2786, .int p2795, .int p2796, .int p2797])), (q2774, .inl (I .int, 2048, .inl f2798)), (q2777, .inl (I .int, 512, .inl f2801)), (q2778, .inl (I .int, 40, .inl f2802)), (q2779, .inl (I .int, 40, .inl f2803)), (q2780, .inl (I .int, 40, .inl f2804)), (q2781, .inl (I .int, 200, .inl f2805)), (q2782, .inl (I .int, 200, .inl f2806)), (q2783, .inl (I .int, 200, .inl f2807)), (q2784, .inl (I .int, 200, .inl f2808)), (q2785, .inl (I .int, 200, .inl f2809)), (q2786, .inl (I .int, 200, .inl f2810)), (q2775, .inl (I .int, 100, .inl f2851)), (q2776, .inl (I .int, 100, .inl f2852))]) 0 10 d_cX7_perform_39 rfl (gk_X7 D I) (Nat.le_of_ble_eq_true rfl) w_2_170 rfl rfl rfl (Nat.le_of_ble_eq_true rfl) rfl ?_
  refine G_iconst 0 d_cX7_perform_42 (by decide +kernel) ?_
  refine G_istore_n (L' := [(3, .int 0), (0, .ref q2772), (1, .ref q2773), (2, .int p2787)]) d_cX7_perform_43 (Nat.le_of_ble_eq_true rfl) rfl ?_
  refine G_aload_n 1 d_cX7_perform_44 rfl ?_
  refine G_iconst 0 d_cX7_perform_45 (by decide +kernel) ?_
  refine G_putf (ws' := [(q2772, .inr (12, [.ref q2774, .ref q2775, .ref q2776, .ref q2777, .int p2788, .int 0, .int 0, .int 0, .int 0, .int 0, .int (-2)])), (q2773, .inr (5, [.ref q2778, .ref q2779, .ref q2780, .ref q2781, .ref q2782, .ref q2783, .ref q2784, .ref q2785, .ref q2786, .int p2795, .int p2796, .int p2797])), (q2774, .inl (I .int, 2048, .inl f2798)), (q2777, .inl (I .int, 512, .inl f2801)), (q2778, .inl (I .int, 40, .inl f2802)), (q2779, .inl (I .int, 40, .inl f2803)), (q2780, .inl (I .int, 40, .inl f2804)), (q2781, .inl (I .int, 200, .inl f2805)), (q2782, .inl (I .int, 200, .inl f2806)), (q2783, .inl (I .int, 200, .inl f2807)), (q2784, .inl (I .int, 200, .inl f2808)), (q2785, .inl (I .int, 200, .inl f2809)), (q2786, .inl (I .int, 200, .inl f2810)), (q2775, .inl (I .int, 100, .inl f2851)), (q2776, .inl (I .int, 100, .inl f2852))]) 0 8 d_cX7_perform_46 rfl (gk_X7 D I) (Nat.le_of_ble_eq_true rfl) w_2_168 rfl rfl rfl (Nat.le_of_ble_eq_true rfl) rfl ?_
  have hlp49_3749 : ∀ (n49_3749 : Nat) (g3740 : Int32) (g3741 : Int32) (g3742 : Int32) (g3743 : Int32) (g3744 : Int32) (g3745 : Int32) (g3746 : Int32) (f3747 : Nat → Int32) (f3748 : Nat → Int32) (f3749 : Nat → Int32), gB g3740 (-1) 200 → gB g3741 0 100000 → gB g3742 (-2147483648) 2147483647 → gB g3743 0 39 → gB g3744 (-2147483648) 2147483647 → gB g3745 0 512 → gB g3746 0 2048 → gF f3747 (-2147483648) 2147483647 → gF f3748 (-2147483648) 2147483647 → gF f3749 (-2147483648) 2147483647 → ((100001 : Int) - g3741.toInt).toNat < n49_3749 → G (gV D I) l (gRm 3 68 0 0) (gM (gV D I) (po_2811_Machine_perform I q2772 q2773 q2774 q2775 q2776 q2777 q2778 q2779 q2780 q2781 q2782 q2783 q2784 q2785 q2786 p2787 p2788 p2789 p2790 p2791 p2792 p2793 p2794 p2795 p2796 p2797 f2798 f2799 f2800 f2801 f2802 f2803 f2804 f2805 f2806 f2807 f2808 f2809 f2810) gN 0 0) ky_2811_Machine_perform 49 [(3, .int g3740), (0, .ref q2772), (1, .ref q2773), (2, .int p2787)] [] [(q2772, .inr (12, [.ref q2774, .ref q2775, .ref q2776, .ref q2777, .int p2788, .int g3743, .int g3744, .int g3745, .int g3741, .int g3746, .int g3742])), (q2773, .inr (5, [.ref q2778, .ref q2779, .ref q2780, .ref q2781, .ref q2782, .ref q2783, .ref q2784, .ref q2785, .ref q2786, .int p2795, .int p2796, .int p2797])), (q2774, .inl (I .int, 2048, .inl f2798)), (q2777, .inl (I .int, 512, .inl f3747)), (q2778, .inl (I .int, 40, .inl f2802)), (q2779, .inl (I .int, 40, .inl f2803)), (q2780, .inl (I .int, 40, .inl f2804)), (q2781, .inl (I .int, 200, .inl f2805)), (q2782, .inl (I .int, 200, .inl f2806)), (q2783, .inl (I .int, 200, .inl f2807)), (q2784, .inl (I .int, 200, .inl f2808)), (q2785, .inl (I .int, 200, .inl f2809)), (q2786, .inl (I .int, 200, .inl f2810)), (q2775, .inl (I .int, 100, .inl f3748)), (q2776, .inl (I .int, 100, .inl f3749))] 0 0 := by
    intro n49_3749
    induction n49_3749 with
    | zero => intro g3740 g3741 g3742 g3743 g3744 g3745 g3746 f3747 f3748 f3749 bg3740 bg3741 bg3742 bg3743 bg3744 bg3745 bg3746 bf3747 bf3748 bf3749 hm49_3749; exact absurd hm49_3749 (Nat.not_lt_zero _)
    | succ n49_3749 ih49_3749 =>
      intro g3740 g3741 g3742 g3743 g3744 g3745 g3746 f3747 f3748 f3749 bg3740 bg3741 bg3742 bg3743 bg3744 bg3745 bg3746 bf3747 bf3748 bf3749 hm49_3749
      refine G_aload_n 1 d_cX7_perform_49 rfl ?_
      refine G_getf 0 8 d_cX7_perform_50 rfl (gk_X7 D I) (Nat.le_of_ble_eq_true rfl) w_2_168 rfl ?_
      refine G_iload_n 3 d_cX7_perform_53 rfl ?_
      refine G_icmp_ge 106 d_cX7_perform_54 (by decide +kernel) (fun hc3750 => ?_) (fun hc3750 => ?_)
      · have r3751 : p2787.toInt ≤ g3741.toInt := gC_le hc3750
        have bg3741' : gB g3741 1 100000 := ⟨by omega, by omega⟩
        refine G_aload_n 1 d_cX7_perform_106 rfl ?_
        refine G_getf 0 10 d_cX7_perform_107 rfl (gk_X7 D I) (Nat.le_of_ble_eq_true rfl) w_2_170 rfl ?_
        refine G_bipush (-2) d_cX7_perform_110 (by decide +kernel) ?_
        refine G_icmp_ne 120 d_cX7_perform_112 (by decide +kernel) (fun hc3752 => ?_) (fun hc3752 => ?_)
        · have r3753 : g3742.toInt ≠ (-2) := gj_neq hc3752 (show Int32.toInt (-2) = (-2) by decide)
          refine G_sub (ws' := [(q2772, .inr (12, [.ref q2774, .ref q2775, .ref q2776, .ref q2777, .int p2788, .int g3743, .int g3744, .int g3745, .int g3741, .int g3746, .int g3742])), (q2773, .inr (5, [.ref q2778, .ref q2779, .ref q2780, .ref q2781, .ref q2782, .ref q2783, .ref q2784, .ref q2785, .ref q2786, .int p2795, .int p2796, .int p2797])), (q2774, .inl (I .int, 2048, .inl f2798)), (q2775, .inl (I .int, 100, .inl f3748)), (q2776, .inl (I .int, 100, .inl f3749)), (q2777, .inl (I .int, 512, .inl f3747)), (q2778, .inl (I .int, 40, .inl f2802)), (q2779, .inl (I .int, 40, .inl f2803)), (q2780, .inl (I .int, 40, .inl f2804)), (q2781, .inl (I .int, 200, .inl f2805)), (q2782, .inl (I .int, 200, .inl f2806)), (q2783, .inl (I .int, 200, .inl f2807)), (q2784, .inl (I .int, 200, .inl f2808)), (q2785, .inl (I .int, 200, .inl f2809)), (q2786, .inl (I .int, 200, .inl f2810))]) [0, 1, 2, 13, 14, 3, 4, 5, 6, 7, 8, 9, 10, 11, 12] rfl rfl ?_
          exact G_vret d_cX7_perform_120 rfl (Nat.le_of_ble_eq_true rfl) (Nat.le_of_ble_eq_true rfl) ⟨g3743, g3744, g3745, g3741, g3746, g3742, f3748, f3749, f3747, rfl, rfl, bg3743, bg3744, bg3745, (gB_w bg3741' (by decide) (by decide)), bg3746, bg3742, bf3748, bf3749, bf3747⟩
        · have r3754 : g3742.toInt = (-2) := gj_eq hc3752 (show Int32.toInt (-2) = (-2) by decide)
          have bg3742' : gB g3742 (-2) (-2) := ⟨by omega, by omega⟩
          refine G_aload_n 1 d_cX7_perform_115 rfl ?_
          refine G_iconst 4 d_cX7_perform_116 (by decide +kernel) ?_
          refine G_putf (ws' := [(q2772, .inr (12, [.ref q2774, .ref q2775, .ref q2776, .ref q2777, .int p2788, .int g3743, .int g3744, .int g3745, .int g3741, .int g3746, .int 4])), (q2773, .inr (5, [.ref q2778, .ref q2779, .ref q2780, .ref q2781, .ref q2782, .ref q2783, .ref q2784, .ref q2785, .ref q2786, .int p2795, .int p2796, .int p2797])), (q2774, .inl (I .int, 2048, .inl f2798)), (q2777, .inl (I .int, 512, .inl f3747)), (q2778, .inl (I .int, 40, .inl f2802)), (q2779, .inl (I .int, 40, .inl f2803)), (q2780, .inl (I .int, 40, .inl f2804)), (q2781, .inl (I .int, 200, .inl f2805)), (q2782, .inl (I .int, 200, .inl f2806)), (q2783, .inl (I .int, 200, .inl f2807)), (q2784, .inl (I .int, 200, .inl f2808)), (q2785, .inl (I .int, 200, .inl f2809)), (q2786, .inl (I .int, 200, .inl f2810)), (q2775, .inl (I .int, 100, .inl f3748)), (q2776, .inl (I .int, 100, .inl f3749))]) 0 10 d_cX7_perform_117 rfl (gk_X7 D I) (Nat.le_of_ble_eq_true rfl) w_2_170 rfl rfl rfl (Nat.le_of_ble_eq_true rfl) rfl ?_
          refine G_sub (ws' := [(q2772, .inr (12, [.ref q2774, .ref q2775, .ref q2776, .ref q2777, .int p2788, .int g3743, .int g3744, .int g3745, .int g3741, .int g3746, .int 4])), (q2773, .inr (5, [.ref q2778, .ref q2779, .ref q2780, .ref q2781, .ref q2782, .ref q2783, .ref q2784, .ref q2785, .ref q2786, .int p2795, .int p2796, .int p2797])), (q2774, .inl (I .int, 2048, .inl f2798)), (q2775, .inl (I .int, 100, .inl f3748)), (q2776, .inl (I .int, 100, .inl f3749)), (q2777, .inl (I .int, 512, .inl f3747)), (q2778, .inl (I .int, 40, .inl f2802)), (q2779, .inl (I .int, 40, .inl f2803)), (q2780, .inl (I .int, 40, .inl f2804)), (q2781, .inl (I .int, 200, .inl f2805)), (q2782, .inl (I .int, 200, .inl f2806)), (q2783, .inl (I .int, 200, .inl f2807)), (q2784, .inl (I .int, 200, .inl f2808)), (q2785, .inl (I .int, 200, .inl f2809)), (q2786, .inl (I .int, 200, .inl f2810))]) [0, 1, 2, 13, 14, 3, 4, 5, 6, 7, 8, 9, 10, 11, 12] rfl rfl ?_
          exact G_vret d_cX7_perform_120 rfl (Nat.le_of_ble_eq_true rfl) (Nat.le_of_ble_eq_true rfl) ⟨g3743, g3744, g3745, g3741, g3746, 4, f3748, f3749, f3747, rfl, rfl, bg3743, bg3744, bg3745, (gB_w bg3741' (by decide) (by decide)), bg3746, (gB_w (gBl (show Int32.toInt 4 = 4 by decide)) (by decide) (by decide)), bf3748, bf3749, bf3747⟩
      · have r3755 : g3741.toInt < p2787.toInt := gC_nle hc3750
        have bg3741' : gB g3741 0 99999 := ⟨by omega, by omega⟩
        refine G_aload_n 1 d_cX7_perform_57 rfl ?_
        refine G_getf 0 10 d_cX7_perform_58 rfl (gk_X7 D I) (Nat.le_of_ble_eq_true rfl) w_2_170 rfl ?_
        refine G_bipush (-2) d_cX7_perform_61 (by decide +kernel) ?_
        refine G_icmp_ne 106 d_cX7_perform_63 (by decide +kernel) (fun hc3756 => ?_) (fun hc3756 => ?_)
        · have r3757 : g3742.toInt ≠ (-2) := gj_neq hc3756 (show Int32.toInt (-2) = (-2) by decide)
          refine G_aload_n 1 d_cX7_perform_106 rfl ?_
          refine G_getf 0 10 d_cX7_perform_107 rfl (gk_X7 D I) (Nat.le_of_ble_eq_true rfl) w_2_170 rfl ?_
          refine G_bipush (-2) d_cX7_perform_110 (by decide +kernel) ?_
          refine G_icmp_ne 120 d_cX7_perform_112 (by decide +kernel) (fun hc3758 => ?_) (fun hc3758 => ?_)
          · have r3759 : g3742.toInt ≠ (-2) := gj_neq hc3758 (show Int32.toInt (-2) = (-2) by decide)
            refine G_sub (ws' := [(q2772, .inr (12, [.ref q2774, .ref q2775, .ref q2776, .ref q2777, .int p2788, .int g3743, .int g3744, .int g3745, .int g3741, .int g3746, .int g3742])), (q2773, .inr (5, [.ref q2778, .ref q2779, .ref q2780, .ref q2781, .ref q2782, .ref q2783, .ref q2784, .ref q2785, .ref q2786, .int p2795, .int p2796, .int p2797])), (q2774, .inl (I .int, 2048, .inl f2798)), (q2775, .inl (I .int, 100, .inl f3748)), (q2776, .inl (I .int, 100, .inl f3749)), (q2777, .inl (I .int, 512, .inl f3747)), (q2778, .inl (I .int, 40, .inl f2802)), (q2779, .inl (I .int, 40, .inl f2803)), (q2780, .inl (I .int, 40, .inl f2804)), (q2781, .inl (I .int, 200, .inl f2805)), (q2782, .inl (I .int, 200, .inl f2806)), (q2783, .inl (I .int, 200, .inl f2807)), (q2784, .inl (I .int, 200, .inl f2808)), (q2785, .inl (I .int, 200, .inl f2809)), (q2786, .inl (I .int, 200, .inl f2810))]) [0, 1, 2, 13, 14, 3, 4, 5, 6, 7, 8, 9, 10, 11, 12] rfl rfl ?_
            exact G_vret d_cX7_perform_120 rfl (Nat.le_of_ble_eq_true rfl) (Nat.le_of_ble_eq_true rfl) ⟨g3743, g3744, g3745, g3741, g3746, g3742, f3748, f3749, f3747, rfl, rfl, bg3743, bg3744, bg3745, (gB_w bg3741' (by decide) (by decide)), bg3746, bg3742, bf3748, bf3749, bf3747⟩
          · have r3760 : g3742.toInt = (-2) := gj_eq hc3758 (show Int32.toInt (-2) = (-2) by decide)
            have bg3742' : gB g3742 (-2) (-2) := ⟨by omega, by omega⟩
            refine G_aload_n 1 d_cX7_perform_115 rfl ?_
            refine G_iconst 4 d_cX7_perform_116 (by decide +kernel) ?_
            refine G_putf (ws' := [(q2772, .inr (12, [.ref q2774, .ref q2775, .ref q2776, .ref q2777, .int p2788, .int g3743, .int g3744, .int g3745, .int g3741, .int g3746, .int 4])), (q2773, .inr (5, [.ref q2778, .ref q2779, .ref q2780, .ref q2781, .ref q2782, .ref q2783, .ref q2784, .ref q2785, .ref q2786, .int p2795, .int p2796, .int p2797])), (q2774, .inl (I .int, 2048, .inl f2798)), (q2777, .inl (I .int, 512, .inl f3747)), (q2778, .inl (I .int, 40, .inl f2802)), (q2779, .inl (I .int, 40, .inl f2803)), (q2780, .inl (I .int, 40, .inl f2804)), (q2781, .inl (I .int, 200, .inl f2805)), (q2782, .inl (I .int, 200, .inl f2806)), (q2783, .inl (I .int, 200, .inl f2807)), (q2784, .inl (I .int, 200, .inl f2808)), (q2785, .inl (I .int, 200, .inl f2809)), (q2786, .inl (I .int, 200, .inl f2810)), (q2775, .inl (I .int, 100, .inl f3748)), (q2776, .inl (I .int, 100, .inl f3749))]) 0 10 d_cX7_perform_117 rfl (gk_X7 D I) (Nat.le_of_ble_eq_true rfl) w_2_170 rfl rfl rfl (Nat.le_of_ble_eq_true rfl) rfl ?_
            refine G_sub (ws' := [(q2772, .inr (12, [.ref q2774, .ref q2775, .ref q2776, .ref q2777, .int p2788, .int g3743, .int g3744, .int g3745, .int g3741, .int g3746, .int 4])), (q2773, .inr (5, [.ref q2778, .ref q2779, .ref q2780, .ref q2781, .ref q2782, .ref q2783, .ref q2784, .ref q2785, .ref q2786, .int p2795, .int p2796, .int p2797])), (q2774, .inl (I .int, 2048, .inl f2798)), (q2775, .inl (I .int, 100, .inl f3748)), (q2776, .inl (I .int, 100, .inl f3749)), (q2777, .inl (I .int, 512, .inl f3747)), (q2778, .inl (I .int, 40, .inl f2802)), (q2779, .inl (I .int, 40, .inl f2803)), (q2780, .inl (I .int, 40, .inl f2804)), (q2781, .inl (I .int, 200, .inl f2805)), (q2782, .inl (I .int, 200, .inl f2806)), (q2783, .inl (I .int, 200, .inl f2807)), (q2784, .inl (I .int, 200, .inl f2808)), (q2785, .inl (I .int, 200, .inl f2809)), (q2786, .inl (I .int, 200, .inl f2810))]) [0, 1, 2, 13, 14, 3, 4, 5, 6, 7, 8, 9, 10, 11, 12] rfl rfl ?_
            exact G_vret d_cX7_perform_120 rfl (Nat.le_of_ble_eq_true rfl) (Nat.le_of_ble_eq_true rfl) ⟨g3743, g3744, g3745, g3741, g3746, 4, f3748, f3749, f3747, rfl, rfl, bg3743, bg3744, bg3745, (gB_w bg3741' (by decide) (by decide)), bg3746, (gB_w (gBl (show Int32.toInt 4 = 4 by decide)) (by decide) (by decide)), bf3748, bf3749, bf3747⟩
        · have r3761 : g3742.toInt = (-2) := gj_eq hc3756 (show Int32.toInt (-2) = (-2) by decide)
          have bg3742' : gB g3742 (-2) (-2) := ⟨by omega, by omega⟩
          refine G_iload_n 0 d_cX7_perform_66 rfl ?_
          refine G_if_lt 87 d_cX7_perform_67 (by decide +kernel) (fun hc3762 => ?_) (fun hc3762 => ?_)
          · have r3763 : g3740.toInt < 0 := gj_lt hc3762 (show Int32.toInt 0 = 0 by decide)
            have bg3740' : gB g3740 (-1) (-1) := ⟨by omega, by omega⟩
            refine G_aload_n 1 d_cX7_perform_87 rfl ?_
            refine G_iconst 4 d_cX7_perform_88 (by decide +kernel) ?_
            refine G_callV (As := [.int 4]) (wr := [(q2773, .inr (5, [.ref q2778, .ref q2779, .ref q2780, .ref q2781, .ref q2782, .ref q2783, .ref q2784, .ref q2785, .ref q2786, .int p2795, .int p2796, .int p2797])), (q2778, .inl (I .int, 40, .inl f2802)), (q2779, .inl (I .int, 40, .inl f2803)), (q2780, .inl (I .int, 40, .inl f2804)), (q2781, .inl (I .int, 200, .inl f2805)), (q2782, .inl (I .int, 200, .inl f2806)), (q2783, .inl (I .int, 200, .inl f2807)), (q2784, .inl (I .int, 200, .inl f2808)), (q2785, .inl (I .int, 200, .inl f2809)), (q2786, .inl (I .int, 200, .inl f2810))]) (gV_ok D I) (ct_2872_Machine_halt l hl0 D I q2772 q2774 q2775 q2776 q2777 4 p2788 g3743 g3744 g3745 g3741 g3746 g3742 f2798 f3748 f3749 f3747 bp2788 bg3743 bg3745 bg3746) d_cX7_perform_89 ⟨w_6_86, w_1_12, w_6_89, by decide, rfl, (Nat.le_of_ble_eq_true rfl), (Nat.le_of_ble_eq_true rfl)⟩ w_6_88 w_p_60 0 rfl rfl [0, 2, 13, 14, 3] [1, 4, 5, 6, 7, 8, 9, 10, 11, 12] rfl rfl rfl rfl (by decide) (Nat.le_of_ble_eq_true rfl) (Nat.le_of_ble_eq_true rfl) (Nat.le_of_ble_eq_true rfl) (fun r w hp => ?_) (fun _ _ _ z => z.elim)
            obtain ⟨o3764, rfl, rfl, bo3764⟩ := hp
            change G _ _ _ _ _ _ _ (.int (-1) :: _) _ _ _
            refine G_ws (ws' := [(q2773, .inr (5, [.ref q2778, .ref q2779, .ref q2780, .ref q2781, .ref q2782, .ref q2783, .ref q2784, .ref q2785, .ref q2786, .int p2795, .int p2796, .int p2797])), (q2778, .inl (I .int, 40, .inl f2802)), (q2779, .inl (I .int, 40, .inl f2803)), (q2780, .inl (I .int, 40, .inl f2804)), (q2781, .inl (I .int, 200, .inl f2805)), (q2782, .inl (I .int, 200, .inl f2806)), (q2783, .inl (I .int, 200, .inl f2807)), (q2784, .inl (I .int, 200, .inl f2808)), (q2785, .inl (I .int, 200, .inl f2809)), (q2786, .inl (I .int, 200, .inl f2810)), (q2772, .inr (12, [.ref q2774, .ref q2775, .ref q2776, .ref q2777, .int p2788, .int g3743, .int g3744, .int g3745, .int g3741, .int g3746, .int o3764])), (q2774, .inl (I .int, 2048, .inl f2798)), (q2775, .inl (I .int, 100, .inl f3748)), (q2776, .inl (I .int, 100, .inl f3749)), (q2777, .inl (I .int, 512, .inl f3747))]) (cs' := 0) (sl' := 0) rfl rfl rfl ?_
            refine G_istore_n (L' := [(3, .int (-1)), (0, .ref q2772), (1, .ref q2773), (2, .int p2787)]) d_cX7_perform_92 (Nat.le_of_ble_eq_true rfl) rfl ?_
            refine G_aload_n 1 d_cX7_perform_93 rfl ?_
            refine G_dup d_cX7_perform_94 rfl ?_
            refine G_getf 10 8 d_cX7_perform_95 rfl (gk_X7 D I) (Nat.le_of_ble_eq_true rfl) w_2_168 rfl ?_
            refine G_iconst 1 d_cX7_perform_98 (by decide +kernel) ?_
            refine G_iadd d_cX7_perform_99 (G_nam fun z3765 hz3765 => ?_)
            have ez3765 : z3765.toInt = g3741.toInt + 1 := by rw [gI_add hz3765 bg3741' (gBl (show Int32.toInt 1 = 1 by decide)) (by decide) (by decide), show Int32.toInt 1 = 1 from by decide]
            have bz3765 : gB z3765 1 100000 := gB_add (gI_add hz3765 bg3741' (gBl (show Int32.toInt 1 = 1 by decide)) (by decide) (by decide)) bg3741' (gBl (show Int32.toInt 1 = 1 by decide)) (by decide) (by decide)
            refine G_putf (ws' := [(q2773, .inr (5, [.ref q2778, .ref q2779, .ref q2780, .ref q2781, .ref q2782, .ref q2783, .ref q2784, .ref q2785, .ref q2786, .int p2795, .int p2796, .int p2797])), (q2778, .inl (I .int, 40, .inl f2802)), (q2779, .inl (I .int, 40, .inl f2803)), (q2780, .inl (I .int, 40, .inl f2804)), (q2781, .inl (I .int, 200, .inl f2805)), (q2782, .inl (I .int, 200, .inl f2806)), (q2783, .inl (I .int, 200, .inl f2807)), (q2784, .inl (I .int, 200, .inl f2808)), (q2785, .inl (I .int, 200, .inl f2809)), (q2786, .inl (I .int, 200, .inl f2810)), (q2772, .inr (12, [.ref q2774, .ref q2775, .ref q2776, .ref q2777, .int p2788, .int g3743, .int g3744, .int g3745, .int z3765, .int g3746, .int o3764])), (q2774, .inl (I .int, 2048, .inl f2798)), (q2775, .inl (I .int, 100, .inl f3748)), (q2776, .inl (I .int, 100, .inl f3749)), (q2777, .inl (I .int, 512, .inl f3747))]) 10 8 d_cX7_perform_100 rfl (gk_X7 D I) (Nat.le_of_ble_eq_true rfl) w_2_168 rfl rfl rfl (Nat.le_of_ble_eq_true rfl) rfl ?_
            refine G_goto 49 d_cX7_perform_103 (by decide +kernel) ?_
            refine G_sub (ws' := [(q2772, .inr (12, [.ref q2774, .ref q2775, .ref q2776, .ref q2777, .int p2788, .int g3743, .int g3744, .int g3745, .int z3765, .int g3746, .int o3764])), (q2773, .inr (5, [.ref q2778, .ref q2779, .ref q2780, .ref q2781, .ref q2782, .ref q2783, .ref q2784, .ref q2785, .ref q2786, .int p2795, .int p2796, .int p2797])), (q2774, .inl (I .int, 2048, .inl f2798)), (q2777, .inl (I .int, 512, .inl f3747)), (q2778, .inl (I .int, 40, .inl f2802)), (q2779, .inl (I .int, 40, .inl f2803)), (q2780, .inl (I .int, 40, .inl f2804)), (q2781, .inl (I .int, 200, .inl f2805)), (q2782, .inl (I .int, 200, .inl f2806)), (q2783, .inl (I .int, 200, .inl f2807)), (q2784, .inl (I .int, 200, .inl f2808)), (q2785, .inl (I .int, 200, .inl f2809)), (q2786, .inl (I .int, 200, .inl f2810)), (q2775, .inl (I .int, 100, .inl f3748)), (q2776, .inl (I .int, 100, .inl f3749))]) [10, 0, 11, 14, 1, 2, 3, 4, 5, 6, 7, 8, 9, 12, 13] rfl rfl ?_
            exact ih49_3749 (-1) z3765 o3764 g3743 g3744 g3745 g3746 f3747 f3748 f3749 (gB_w (gBl (show Int32.toInt (-1) = (-1) by decide)) (by decide) (by decide)) (gB_w bz3765 (by decide) (by decide)) bo3764 bg3743 bg3744 bg3745 bg3746 bf3747 bf3748 bf3749 (by have qa0 : Int32.toInt (-1) = (-1) := (by decide); omega)
          · have r3766 : 0 ≤ g3740.toInt := gj_nlt hc3762 (show Int32.toInt 0 = 0 by decide)
            have bg3740' : gB g3740 0 200 := ⟨by omega, by omega⟩
            refine G_iload_n 0 d_cX7_perform_70 rfl ?_
            refine G_aload_n 2 d_cX7_perform_71 rfl ?_
            refine G_getfN 1 10 d_cX7_perform_72 rfl (gk_X0 D I) (Nat.le_of_ble_eq_true rfl) (fun _ _ _ h => gn_w 46 rfl h) rfl ?_
            refine G_icmp_ge 87 d_cX7_perform_75 (by decide +kernel) (fun hc3767 => ?_) (fun hc3767 => ?_)
            · have r3768 : p2796.toInt ≤ g3740.toInt := gC_le hc3767
              refine G_aload_n 1 d_cX7_perform_87 rfl ?_
              refine G_iconst 4 d_cX7_perform_88 (by decide +kernel) ?_
              refine G_callV (As := [.int 4]) (wr := [(q2773, .inr (5, [.ref q2778, .ref q2779, .ref q2780, .ref q2781, .ref q2782, .ref q2783, .ref q2784, .ref q2785, .ref q2786, .int p2795, .int p2796, .int p2797])), (q2778, .inl (I .int, 40, .inl f2802)), (q2779, .inl (I .int, 40, .inl f2803)), (q2780, .inl (I .int, 40, .inl f2804)), (q2781, .inl (I .int, 200, .inl f2805)), (q2782, .inl (I .int, 200, .inl f2806)), (q2783, .inl (I .int, 200, .inl f2807)), (q2784, .inl (I .int, 200, .inl f2808)), (q2785, .inl (I .int, 200, .inl f2809)), (q2786, .inl (I .int, 200, .inl f2810))]) (gV_ok D I) (ct_2872_Machine_halt l hl0 D I q2772 q2774 q2775 q2776 q2777 4 p2788 g3743 g3744 g3745 g3741 g3746 g3742 f2798 f3748 f3749 f3747 bp2788 bg3743 bg3745 bg3746) d_cX7_perform_89 ⟨w_6_86, w_1_12, w_6_89, by decide, rfl, (Nat.le_of_ble_eq_true rfl), (Nat.le_of_ble_eq_true rfl)⟩ w_6_88 w_p_60 0 rfl rfl [0, 2, 13, 14, 3] [1, 4, 5, 6, 7, 8, 9, 10, 11, 12] rfl rfl rfl rfl (by decide) (Nat.le_of_ble_eq_true rfl) (Nat.le_of_ble_eq_true rfl) (Nat.le_of_ble_eq_true rfl) (fun r w hp => ?_) (fun _ _ _ z => z.elim)
              obtain ⟨o3769, rfl, rfl, bo3769⟩ := hp
              change G _ _ _ _ _ _ _ (.int (-1) :: _) _ _ _
              refine G_ws (ws' := [(q2773, .inr (5, [.ref q2778, .ref q2779, .ref q2780, .ref q2781, .ref q2782, .ref q2783, .ref q2784, .ref q2785, .ref q2786, .int p2795, .int p2796, .int p2797])), (q2778, .inl (I .int, 40, .inl f2802)), (q2779, .inl (I .int, 40, .inl f2803)), (q2780, .inl (I .int, 40, .inl f2804)), (q2781, .inl (I .int, 200, .inl f2805)), (q2782, .inl (I .int, 200, .inl f2806)), (q2783, .inl (I .int, 200, .inl f2807)), (q2784, .inl (I .int, 200, .inl f2808)), (q2785, .inl (I .int, 200, .inl f2809)), (q2786, .inl (I .int, 200, .inl f2810)), (q2772, .inr (12, [.ref q2774, .ref q2775, .ref q2776, .ref q2777, .int p2788, .int g3743, .int g3744, .int g3745, .int g3741, .int g3746, .int o3769])), (q2774, .inl (I .int, 2048, .inl f2798)), (q2775, .inl (I .int, 100, .inl f3748)), (q2776, .inl (I .int, 100, .inl f3749)), (q2777, .inl (I .int, 512, .inl f3747))]) (cs' := 0) (sl' := 0) rfl rfl rfl ?_
              refine G_istore_n (L' := [(3, .int (-1)), (0, .ref q2772), (1, .ref q2773), (2, .int p2787)]) d_cX7_perform_92 (Nat.le_of_ble_eq_true rfl) rfl ?_
              refine G_aload_n 1 d_cX7_perform_93 rfl ?_
              refine G_dup d_cX7_perform_94 rfl ?_
              refine G_getf 10 8 d_cX7_perform_95 rfl (gk_X7 D I) (Nat.le_of_ble_eq_true rfl) w_2_168 rfl ?_
              refine G_iconst 1 d_cX7_perform_98 (by decide +kernel) ?_
              refine G_iadd d_cX7_perform_99 (G_nam fun z3770 hz3770 => ?_)
              have ez3770 : z3770.toInt = g3741.toInt + 1 := by rw [gI_add hz3770 bg3741' (gBl (show Int32.toInt 1 = 1 by decide)) (by decide) (by decide), show Int32.toInt 1 = 1 from by decide]
              have bz3770 : gB z3770 1 100000 := gB_add (gI_add hz3770 bg3741' (gBl (show Int32.toInt 1 = 1 by decide)) (by decide) (by decide)) bg3741' (gBl (show Int32.toInt 1 = 1 by decide)) (by decide) (by decide)
              refine G_putf (ws' := [(q2773, .inr (5, [.ref q2778, .ref q2779, .ref q2780, .ref q2781, .ref q2782, .ref q2783, .ref q2784, .ref q2785, .ref q2786, .int p2795, .int p2796, .int p2797])), (q2778, .inl (I .int, 40, .inl f2802)), (q2779, .inl (I .int, 40, .inl f2803)), (q2780, .inl (I .int, 40, .inl f2804)), (q2781, .inl (I .int, 200, .inl f2805)), (q2782, .inl (I .int, 200, .inl f2806)), (q2783, .inl (I .int, 200, .inl f2807)), (q2784, .inl (I .int, 200, .inl f2808)), (q2785, .inl (I .int, 200, .inl f2809)), (q2786, .inl (I .int, 200, .inl f2810)), (q2772, .inr (12, [.ref q2774, .ref q2775, .ref q2776, .ref q2777, .int p2788, .int g3743, .int g3744, .int g3745, .int z3770, .int g3746, .int o3769])), (q2774, .inl (I .int, 2048, .inl f2798)), (q2775, .inl (I .int, 100, .inl f3748)), (q2776, .inl (I .int, 100, .inl f3749)), (q2777, .inl (I .int, 512, .inl f3747))]) 10 8 d_cX7_perform_100 rfl (gk_X7 D I) (Nat.le_of_ble_eq_true rfl) w_2_168 rfl rfl rfl (Nat.le_of_ble_eq_true rfl) rfl ?_
              refine G_goto 49 d_cX7_perform_103 (by decide +kernel) ?_
              refine G_sub (ws' := [(q2772, .inr (12, [.ref q2774, .ref q2775, .ref q2776, .ref q2777, .int p2788, .int g3743, .int g3744, .int g3745, .int z3770, .int g3746, .int o3769])), (q2773, .inr (5, [.ref q2778, .ref q2779, .ref q2780, .ref q2781, .ref q2782, .ref q2783, .ref q2784, .ref q2785, .ref q2786, .int p2795, .int p2796, .int p2797])), (q2774, .inl (I .int, 2048, .inl f2798)), (q2777, .inl (I .int, 512, .inl f3747)), (q2778, .inl (I .int, 40, .inl f2802)), (q2779, .inl (I .int, 40, .inl f2803)), (q2780, .inl (I .int, 40, .inl f2804)), (q2781, .inl (I .int, 200, .inl f2805)), (q2782, .inl (I .int, 200, .inl f2806)), (q2783, .inl (I .int, 200, .inl f2807)), (q2784, .inl (I .int, 200, .inl f2808)), (q2785, .inl (I .int, 200, .inl f2809)), (q2786, .inl (I .int, 200, .inl f2810)), (q2775, .inl (I .int, 100, .inl f3748)), (q2776, .inl (I .int, 100, .inl f3749))]) [10, 0, 11, 14, 1, 2, 3, 4, 5, 6, 7, 8, 9, 12, 13] rfl rfl ?_
              exact ih49_3749 (-1) z3770 o3769 g3743 g3744 g3745 g3746 f3747 f3748 f3749 (gB_w (gBl (show Int32.toInt (-1) = (-1) by decide)) (by decide) (by decide)) (gB_w bz3770 (by decide) (by decide)) bo3769 bg3743 bg3744 bg3745 bg3746 bf3747 bf3748 bf3749 (by have qa0 : Int32.toInt (-1) = (-1) := (by decide); omega)
            · have r3771 : g3740.toInt < p2796.toInt := gC_nle hc3767
              have bg3740'' : gB g3740 0 199 := ⟨by omega, by omega⟩
              have bp2796' : gB p2796 1 200 := ⟨by omega, by omega⟩
              refine G_aload_n 1 d_cX7_perform_78 rfl ?_
              refine G_aload_n 2 d_cX7_perform_79 rfl ?_
              refine G_iload_n 0 d_cX7_perform_80 rfl ?_
              refine G_callV (As := [.ref q2773, .int g3740]) (wr := []) (gV_ok D I) (ct_2915_Machine_step l hl0 D I q2772 q2773 q2774 q2775 q2776 q2777 q2778 q2779 q2780 q2781 q2782 q2783 q2784 q2785 q2786 g3740 p2788 g3743 g3744 g3745 g3741 g3746 g3742 p2795 p2796 p2797 f2798 f3748 f3749 f3747 f2802 f2803 f2804 f2805 f2806 f2807 f2808 f2809 f2810 bg3740'' bp2788 bg3743 bg3745 bg3746 bp2795 (gB_w bp2796' (by decide) (by decide)) bp2797 bf2802 bf2805) d_cX7_perform_81 ⟨w_6_74, w_1_12, w_6_77, by decide, rfl, (Nat.le_of_ble_eq_true rfl), (Nat.le_of_ble_eq_true rfl)⟩ w_6_76 w_p_57 0 rfl rfl [0, 1, 2, 13, 14, 3, 4, 5, 6, 7, 8, 9, 10, 11, 12] [] rfl rfl rfl rfl (by decide) (Nat.le_of_ble_eq_true rfl) (Nat.le_of_ble_eq_true rfl) (Nat.le_of_ble_eq_true rfl) (fun r w hp => ?_) (fun _ _ _ z => z.elim)
              obtain ⟨o3772, f3773, o3774, o3775, o3776, f3777, f3778, o3779, o3780, rfl, rfl, bo3772, bf3773, bo3774, bo3775, bo3776, bf3777, bf3778, bo3779, bo3780⟩ := hp
              change G _ _ _ _ _ _ _ (.int o3772 :: _) _ _ _
              refine G_ws (ws' := [(q2772, .inr (12, [.ref q2774, .ref q2775, .ref q2776, .ref q2777, .int p2788, .int o3779, .int o3780, .int o3775, .int g3741, .int o3774, .int o3776])), (q2773, .inr (5, [.ref q2778, .ref q2779, .ref q2780, .ref q2781, .ref q2782, .ref q2783, .ref q2784, .ref q2785, .ref q2786, .int p2795, .int p2796, .int p2797])), (q2774, .inl (I .int, 2048, .inl f2798)), (q2775, .inl (I .int, 100, .inl f3773)), (q2776, .inl (I .int, 100, .inl f3778)), (q2777, .inl (I .int, 512, .inl f3777)), (q2778, .inl (I .int, 40, .inl f2802)), (q2779, .inl (I .int, 40, .inl f2803)), (q2780, .inl (I .int, 40, .inl f2804)), (q2781, .inl (I .int, 200, .inl f2805)), (q2782, .inl (I .int, 200, .inl f2806)), (q2783, .inl (I .int, 200, .inl f2807)), (q2784, .inl (I .int, 200, .inl f2808)), (q2785, .inl (I .int, 200, .inl f2809)), (q2786, .inl (I .int, 200, .inl f2810))]) (cs' := 0) (sl' := 0) rfl rfl rfl ?_
              refine G_goto 92 d_cX7_perform_84 (by decide +kernel) ?_
              refine G_istore_n (L' := [(3, .int o3772), (0, .ref q2772), (1, .ref q2773), (2, .int p2787)]) d_cX7_perform_92 (Nat.le_of_ble_eq_true rfl) rfl ?_
              refine G_aload_n 1 d_cX7_perform_93 rfl ?_
              refine G_dup d_cX7_perform_94 rfl ?_
              refine G_getf 0 8 d_cX7_perform_95 rfl (gk_X7 D I) (Nat.le_of_ble_eq_true rfl) w_2_168 rfl ?_
              refine G_iconst 1 d_cX7_perform_98 (by decide +kernel) ?_
              refine G_iadd d_cX7_perform_99 (G_nam fun z3781 hz3781 => ?_)
              have ez3781 : z3781.toInt = g3741.toInt + 1 := by rw [gI_add hz3781 bg3741' (gBl (show Int32.toInt 1 = 1 by decide)) (by decide) (by decide), show Int32.toInt 1 = 1 from by decide]
              have bz3781 : gB z3781 1 100000 := gB_add (gI_add hz3781 bg3741' (gBl (show Int32.toInt 1 = 1 by decide)) (by decide) (by decide)) bg3741' (gBl (show Int32.toInt 1 = 1 by decide)) (by decide) (by decide)
              refine G_putf (ws' := [(q2772, .inr (12, [.ref q2774, .ref q2775, .ref q2776, .ref q2777, .int p2788, .int o3779, .int o3780, .int o3775, .int z3781, .int o3774, .int o3776])), (q2773, .inr (5, [.ref q2778, .ref q2779, .ref q2780, .ref q2781, .ref q2782, .ref q2783, .ref q2784, .ref q2785, .ref q2786, .int p2795, .int p2796, .int p2797])), (q2774, .inl (I .int, 2048, .inl f2798)), (q2775, .inl (I .int, 100, .inl f3773)), (q2776, .inl (I .int, 100, .inl f3778)), (q2777, .inl (I .int, 512, .inl f3777)), (q2778, .inl (I .int, 40, .inl f2802)), (q2779, .inl (I .int, 40, .inl f2803)), (q2780, .inl (I .int, 40, .inl f2804)), (q2781, .inl (I .int, 200, .inl f2805)), (q2782, .inl (I .int, 200, .inl f2806)), (q2783, .inl (I .int, 200, .inl f2807)), (q2784, .inl (I .int, 200, .inl f2808)), (q2785, .inl (I .int, 200, .inl f2809)), (q2786, .inl (I .int, 200, .inl f2810))]) 0 8 d_cX7_perform_100 rfl (gk_X7 D I) (Nat.le_of_ble_eq_true rfl) w_2_168 rfl rfl rfl (Nat.le_of_ble_eq_true rfl) rfl ?_
              refine G_goto 49 d_cX7_perform_103 (by decide +kernel) ?_
              refine G_sub (ws' := [(q2772, .inr (12, [.ref q2774, .ref q2775, .ref q2776, .ref q2777, .int p2788, .int o3779, .int o3780, .int o3775, .int z3781, .int o3774, .int o3776])), (q2773, .inr (5, [.ref q2778, .ref q2779, .ref q2780, .ref q2781, .ref q2782, .ref q2783, .ref q2784, .ref q2785, .ref q2786, .int p2795, .int p2796, .int p2797])), (q2774, .inl (I .int, 2048, .inl f2798)), (q2777, .inl (I .int, 512, .inl f3777)), (q2778, .inl (I .int, 40, .inl f2802)), (q2779, .inl (I .int, 40, .inl f2803)), (q2780, .inl (I .int, 40, .inl f2804)), (q2781, .inl (I .int, 200, .inl f2805)), (q2782, .inl (I .int, 200, .inl f2806)), (q2783, .inl (I .int, 200, .inl f2807)), (q2784, .inl (I .int, 200, .inl f2808)), (q2785, .inl (I .int, 200, .inl f2809)), (q2786, .inl (I .int, 200, .inl f2810)), (q2775, .inl (I .int, 100, .inl f3773)), (q2776, .inl (I .int, 100, .inl f3778))]) [0, 1, 2, 5, 6, 7, 8, 9, 10, 11, 12, 13, 14, 3, 4] rfl rfl ?_
              exact ih49_3749 o3772 z3781 o3776 o3779 o3780 o3775 o3774 f3777 f3773 f3778 bo3772 (gB_w bz3781 (by decide) (by decide)) bo3776 bo3779 bo3780 bo3775 bo3774 bf3777 bf3773 bf3778 (by omega)
  exact hlp49_3749 (((100001 : Int) - 0).toNat + 1) 0 0 (-2) 0 0 0 0 f2801 f2851 f2852 (gB_w (gBl (show Int32.toInt 0 = 0 by decide)) (by decide) (by decide)) (gB_w (gBl (show Int32.toInt 0 = 0 by decide)) (by decide) (by decide)) (gB_w (gBl (show Int32.toInt (-2) = (-2) by decide)) (by decide) (by decide)) (gB_w (gBl (show Int32.toInt 0 = 0 by decide)) (by decide) (by decide)) (gB_w (gBl (show Int32.toInt 0 = 0 by decide)) (by decide) (by decide)) (gB_w (gBl (show Int32.toInt 0 = 0 by decide)) (by decide) (by decide)) (gB_w (gBl (show Int32.toInt 0 = 0 by decide)) (by decide) (by decide)) (gF_any f2801) bf2851 bf2852 (Nat.lt_succ_self _)
abbrev ky_3828_String_coder : gKey := (cJ0_coder_7d493, 1, yJ0_coder_7d493.cls, (some FieldType.byte), [], yJ0_coder_7d493.name, fun _ _ => True)
abbrev po_3828_String_coder (I : FieldType → ClassId) (qs3825 : Nat) (qb3826 : Nat) (bs3827 : List Int32) : Option Value → va_W → Prop := fun r w => r = some (.int 0) ∧ w = []
set_option maxRecDepth 100000 in
set_option maxHeartbeats 4000000 in
theorem ct_3828_String_coder (l : Launch) (hl0 : l.stackTraces = false) (D : va_G) (I : FieldType → ClassId) (qs3825 : Nat) (qb3826 : Nat) (bs3827 : List Int32) (hbs3827 : ∀ A s H, (gV D I).2.2.2.1 A s H → gSC qs3825 qb3826 bs3827 A s H) (nbs3827 : (bs3827.length : Int) ≤ 65535) : Ct (gV D I) l yJ0_coder_7d493 cJ0_coder_7d493 1 (some FieldType.byte) 0 0 0 0 [.ref qs3825] [] (po_3828_String_coder I qs3825 qb3826 bs3827) gN := by
  refine Ct_ofF hl0 (by decide +kernel) (Nat.le_of_ble_eq_true rfl) ?_
  refine G_gets d_cJ0_coder_7d493_0 w_3_65 gz_cs (fun x hx => ?_)
  subst hx
  refine G_if_eq 13 d_cJ0_coder_7d493_3 (by decide +kernel) (fun hc => absurd hc (by decide)) (fun _ => ?_)
  refine G_aload_n 0 d_cJ0_coder_7d493_6 rfl ?_
  refine G_kget d_cJ0_coder_7d493_7 w_8_183 (fun _ _ _ h => (hbs3827 _ _ _ h).2.1) ?_
  refine G_goto 14 d_cJ0_coder_7d493_10 (by decide +kernel) ?_
  exact G_zret FieldType.byte d_cJ0_coder_7d493_14 rfl rfl (Nat.le_of_ble_eq_true rfl) (Nat.le_of_ble_eq_true rfl) ⟨rfl, rfl⟩
abbrev ky_3823_String_length : gKey := (cJ0_length_8abf5, 1, yJ0_length_8abf5.cls, (some FieldType.int), [], yJ0_length_8abf5.name, fun _ _ => True)
abbrev po_3823_String_length (I : FieldType → ClassId) (qs3820 : Nat) (qb3821 : Nat) (bs3822 : List Int32) : Option Value → va_W → Prop := fun r w => ∃ (o3830 : Int32), r = some (.int o3830) ∧ w = [] ∧ gB o3830 0 65535 ∧ o3830.toInt = (bs3822.length : Int)
set_option maxRecDepth 100000 in
set_option maxHeartbeats 4000000 in
theorem ct_3823_String_length (l : Launch) (hl0 : l.stackTraces = false) (D : va_G) (I : FieldType → ClassId) (qs3820 : Nat) (qb3821 : Nat) (bs3822 : List Int32) (hbs3822 : ∀ A s H, (gV D I).2.2.2.1 A s H → gSC qs3820 qb3821 bs3822 A s H) (nbs3822 : (bs3822.length : Int) ≤ 65535) : Ct (gV D I) l yJ0_length_8abf5 cJ0_length_8abf5 1 (some FieldType.int) 1 20 0 0 [.ref qs3820] [] (po_3823_String_length I qs3820 qb3821 bs3822) gN := by
  refine Ct_ofF hl0 (by decide +kernel) (Nat.le_of_ble_eq_true rfl) ?_
  refine G_aload_n 0 d_cJ0_length_8abf5_0 rfl ?_
  refine G_kget d_cJ0_length_8abf5_1 w_8_182 (fun _ _ _ h => (hbs3822 _ _ _ h).2.2.1) ?_
  refine G_klen d_cJ0_length_8abf5_4 (fun _ _ _ h => (hbs3822 _ _ _ h).2.2.2) (G_nam fun z3824 hz3824 => ?_)
  have ez3824 : z3824.toInt = (bs3822.length : Int) := gI_ofN hz3824 (by omega)
  have bz3824 : gB z3824 0 65535 := ⟨by omega, by omega⟩
  refine G_aload_n 0 d_cJ0_length_8abf5_5 rfl ?_
  refine G_callVk (As := []) (wr := []) (gV_ok D I) (ct_3828_String_coder l hl0 D I qs3820 qb3821 bs3822 hbs3822 nbs3822) d_cJ0_length_8abf5_6 ⟨w_3_61, w_1_21, w_3_64, by decide, rfl, (Nat.le_of_ble_eq_true rfl), (Nat.le_of_ble_eq_true rfl)⟩ w_3_62 w_3_63 (fun _ _ _ h => (hbs3822 _ _ _ h).1) [] [] rfl rfl rfl rfl (by decide) (Nat.le_of_ble_eq_true rfl) (Nat.le_of_ble_eq_true rfl) (Nat.le_of_ble_eq_true rfl) (fun r w hp => ?_) (fun _ _ _ z => z.elim)
  obtain ⟨rfl, rfl⟩ := hp
  change G _ _ _ _ _ _ _ (.int 0 :: _) _ _ _
  refine G_ws (ws' := []) (cs' := 0) (sl' := 0) rfl rfl rfl ?_
  refine G_ishr d_cJ0_length_8abf5_9 (G_nam fun z3829 hz3829 => ?_)
  have ez3829 : z3829.toInt = z3824.toInt / 1 := gI_shr (k := 0) hz3829 (by decide)
  have bz3829 : gB z3829 0 65535 := ⟨by omega, by omega⟩
  exact G_iret d_cJ0_length_8abf5_10 rfl (Nat.le_of_ble_eq_true rfl) (Nat.le_of_ble_eq_true rfl) ⟨z3829, rfl, rfl, bz3829, (by omega)⟩
abbrev ky_3858_String_isLatin1 : gKey := (cJ0_isLatin1_aae02, 1, yJ0_isLatin1_aae02.cls, (some FieldType.boolean), [], yJ0_isLatin1_aae02.name, fun _ _ => True)
abbrev po_3858_String_isLatin1 (I : FieldType → ClassId) (qs3855 : Nat) (qb3856 : Nat) (bs3857 : List Int32) : Option Value → va_W → Prop := fun r w => r = some (.int 1) ∧ w = []
set_option maxRecDepth 100000 in
set_option maxHeartbeats 4000000 in
theorem ct_3858_String_isLatin1 (l : Launch) (hl0 : l.stackTraces = false) (D : va_G) (I : FieldType → ClassId) (qs3855 : Nat) (qb3856 : Nat) (bs3857 : List Int32) (hbs3857 : ∀ A s H, (gV D I).2.2.2.1 A s H → gSC qs3855 qb3856 bs3857 A s H) (nbs3857 : (bs3857.length : Int) ≤ 65535) : Ct (gV D I) l yJ0_isLatin1_aae02 cJ0_isLatin1_aae02 1 (some FieldType.boolean) 0 0 0 0 [.ref qs3855] [] (po_3858_String_isLatin1 I qs3855 qb3856 bs3857) gN := by
  refine Ct_ofF hl0 (by decide +kernel) (Nat.le_of_ble_eq_true rfl) ?_
  refine G_gets d_cJ0_isLatin1_aae02_0 w_3_65 gz_cs (fun x hx => ?_)
  subst hx
  refine G_if_eq 17 d_cJ0_isLatin1_aae02_3 (by decide +kernel) (fun hc => absurd hc (by decide)) (fun _ => ?_)
  refine G_aload_n 0 d_cJ0_isLatin1_aae02_6 rfl ?_
  refine G_kget d_cJ0_isLatin1_aae02_7 w_8_183 (fun _ _ _ h => (hbs3857 _ _ _ h).2.1) ?_
  refine G_if_ne 17 d_cJ0_isLatin1_aae02_10 (by decide +kernel) (fun hc => absurd hc (by decide)) (fun _ => ?_)
  refine G_iconst 1 d_cJ0_isLatin1_aae02_13 (by decide +kernel) ?_
  refine G_goto 18 d_cJ0_isLatin1_aae02_14 (by decide +kernel) ?_
  exact G_zret FieldType.boolean d_cJ0_isLatin1_aae02_18 rfl rfl (Nat.le_of_ble_eq_true rfl) (Nat.le_of_ble_eq_true rfl) ⟨rfl, rfl⟩
abbrev ky_3876_Preconditions_checkIndex : gKey := (cJ3_checkIndex_8e157, 3, yJ3_checkIndex_8e157.cls, (some FieldType.int), [], yJ3_checkIndex_8e157.name, fun _ _ => True)
abbrev po_3876_Preconditions_checkIndex (I : FieldType → ClassId) (p3872 : Int32) (p3873 : Int32) : Option Value → va_W → Prop := fun r w => r = some (.int p3872) ∧ w = []
set_option maxRecDepth 100000 in
set_option maxHeartbeats 4000000 in
theorem ct_3876_Preconditions_checkIndex (l : Launch) (hl0 : l.stackTraces = false) (D : va_G) (I : FieldType → ClassId) (p3872 : Int32) (p3873 : Int32) (x3874 : 0 ≤ p3872.toInt) (x3875 : p3872.toInt < p3873.toInt) : Ct (gV D I) l yJ3_checkIndex_8e157 cJ3_checkIndex_8e157 3 (some FieldType.int) 0 0 0 0 [.int p3872, .int p3873, .null] [] (po_3876_Preconditions_checkIndex I p3872 p3873) gN := by
  refine Ct_of hl0 (by decide) (Nat.le_of_ble_eq_true rfl) ?_
  have bp3872 := gB_any p3872
  have bp3873 := gB_any p3873
  refine G_iload_n 0 d_cJ3_checkIndex_8e157_0 rfl ?_
  refine G_if_lt 9 d_cJ3_checkIndex_8e157_1 (by decide +kernel) (fun hc3877 => ?_) (fun hc3877 => ?_)
  · have r3878 : p3872.toInt < 0 := gj_lt hc3877 (show Int32.toInt 0 = 0 by decide)
    have bp3872' : gB p3872 (-2147483648) (-1) := ⟨by omega, by omega⟩
    exact absurd (show False by omega) not_false
  · have r3879 : 0 ≤ p3872.toInt := gj_nlt hc3877 (show Int32.toInt 0 = 0 by decide)
    have bp3872' : gB p3872 0 2147483647 := ⟨by omega, by omega⟩
    refine G_iload_n 0 d_cJ3_checkIndex_8e157_4 rfl ?_
    refine G_iload_n 1 d_cJ3_checkIndex_8e157_5 rfl ?_
    refine G_icmp_lt 16 d_cJ3_checkIndex_8e157_6 (by decide +kernel) (fun hc3880 => ?_) (fun hc3880 => ?_)
    · have r3881 : p3872.toInt < p3873.toInt := gC_lt hc3880
      have bp3872'' : gB p3872 0 2147483646 := ⟨by omega, by omega⟩
      have bp3873' : gB p3873 1 2147483647 := ⟨by omega, by omega⟩
      refine G_iload_n 0 d_cJ3_checkIndex_8e157_16 rfl ?_
      exact G_iret d_cJ3_checkIndex_8e157_17 rfl (Nat.le_of_ble_eq_true rfl) (Nat.le_of_ble_eq_true rfl) ⟨rfl, rfl⟩
    · have r3882 : p3873.toInt ≤ p3872.toInt := gC_nlt hc3880
      exact absurd (show False by omega) not_false
abbrev ky_3888_Preconditions_checkIndex : gKey := (cJ3_checkIndex_8e157, 3, yJ3_checkIndex_8e157.cls, (some FieldType.int), [], yJ3_checkIndex_8e157.name, fun _ _ => True)
abbrev po_3888_Preconditions_checkIndex (I : FieldType → ClassId) (p3883 : Int32) (p3884 : Int32) (qo3885 : Nat) : Option Value → va_W → Prop := fun r w => r = some (.int p3883) ∧ w = []
set_option maxRecDepth 100000 in
set_option maxHeartbeats 4000000 in
theorem ct_3888_Preconditions_checkIndex (l : Launch) (hl0 : l.stackTraces = false) (D : va_G) (I : FieldType → ClassId) (p3883 : Int32) (p3884 : Int32) (qo3885 : Nat) (x3886 : 0 ≤ p3883.toInt) (x3887 : p3883.toInt < p3884.toInt) : Ct (gV D I) l yJ3_checkIndex_8e157 cJ3_checkIndex_8e157 3 (some FieldType.int) 0 0 0 0 [.int p3883, .int p3884, .ref qo3885] [] (po_3888_Preconditions_checkIndex I p3883 p3884 qo3885) gN := by
  refine Ct_of hl0 (by decide) (Nat.le_of_ble_eq_true rfl) ?_
  have bp3883 := gB_any p3883
  have bp3884 := gB_any p3884
  refine G_iload_n 0 d_cJ3_checkIndex_8e157_0 rfl ?_
  refine G_if_lt 9 d_cJ3_checkIndex_8e157_1 (by decide +kernel) (fun hc3889 => ?_) (fun hc3889 => ?_)
  · have r3890 : p3883.toInt < 0 := gj_lt hc3889 (show Int32.toInt 0 = 0 by decide)
    have bp3883' : gB p3883 (-2147483648) (-1) := ⟨by omega, by omega⟩
    exact absurd (show False by omega) not_false
  · have r3891 : 0 ≤ p3883.toInt := gj_nlt hc3889 (show Int32.toInt 0 = 0 by decide)
    have bp3883' : gB p3883 0 2147483647 := ⟨by omega, by omega⟩
    refine G_iload_n 0 d_cJ3_checkIndex_8e157_4 rfl ?_
    refine G_iload_n 1 d_cJ3_checkIndex_8e157_5 rfl ?_
    refine G_icmp_lt 16 d_cJ3_checkIndex_8e157_6 (by decide +kernel) (fun hc3892 => ?_) (fun hc3892 => ?_)
    · have r3893 : p3883.toInt < p3884.toInt := gC_lt hc3892
      have bp3883'' : gB p3883 0 2147483646 := ⟨by omega, by omega⟩
      have bp3884' : gB p3884 1 2147483647 := ⟨by omega, by omega⟩
      refine G_iload_n 0 d_cJ3_checkIndex_8e157_16 rfl ?_
      exact G_iret d_cJ3_checkIndex_8e157_17 rfl (Nat.le_of_ble_eq_true rfl) (Nat.le_of_ble_eq_true rfl) ⟨rfl, rfl⟩
    · have r3894 : p3884.toInt ≤ p3883.toInt := gC_nlt hc3892
      exact absurd (show False by omega) not_false
abbrev ky_3870_String_checkIndex : gKey := (cJ0_checkIndex_df160, 2, yJ0_checkIndex_df160.cls, none, [], yJ0_checkIndex_df160.name, fun _ _ => True)
abbrev po_3870_String_checkIndex (I : FieldType → ClassId) (p3866 : Int32) (p3867 : Int32) : Option Value → va_W → Prop := fun r w => r = none ∧ w = []
set_option maxRecDepth 100000 in
set_option maxHeartbeats 4000000 in
theorem ct_3870_String_checkIndex (l : Launch) (hl0 : l.stackTraces = false) (D : va_G) (I : FieldType → ClassId) (p3866 : Int32) (p3867 : Int32) (x3868 : 0 ≤ p3866.toInt) (x3869 : p3866.toInt < p3867.toInt) : Ct (gV D I) l yJ0_checkIndex_df160 cJ0_checkIndex_df160 2 none 1 22 0 0 [.int p3866, .int p3867] [] (po_3870_String_checkIndex I p3866 p3867) gN := by
  refine Ct_ofF hl0 (by decide +kernel) (Nat.le_of_ble_eq_true rfl) ?_
  have bp3866 := gB_any p3866
  have bp3867 := gB_any p3867
  refine G_iload_n 0 d_cJ0_checkIndex_df160_0 rfl ?_
  refine G_iload_n 1 d_cJ0_checkIndex_df160_1 rfl ?_
  refine G_gets d_cJ0_checkIndex_df160_2 w_3_81 gz_pf (fun x hx => ?_)
  rcases hx with rfl | ⟨t3871, rfl⟩
  · refine G_callS (As := [.int p3866, .int p3867, .null]) (wr := []) (gV_ok D I) (ct_3876_Preconditions_checkIndex l hl0 D I p3866 p3867 (by omega) (by omega)) d_cJ0_checkIndex_df160_5 ⟨w_3_83, w_1_29, w_3_85, by decide, rfl, (Nat.le_of_ble_eq_true rfl), (Nat.le_of_ble_eq_true rfl)⟩ w_3_84 [] [] rfl rfl rfl rfl (by decide) (Nat.le_of_ble_eq_true rfl) (Nat.le_of_ble_eq_true rfl) (Nat.le_of_ble_eq_true rfl) (fun r w hp => ?_) (fun _ _ _ z => z.elim)
    obtain ⟨rfl, rfl⟩ := hp
    change G _ _ _ _ _ _ _ (.int p3866 :: _) _ _ _
    refine G_ws (ws' := []) (cs' := 0) (sl' := 0) rfl rfl rfl ?_
    refine G_pop d_cJ0_checkIndex_df160_8 rfl ?_
    exact G_vret d_cJ0_checkIndex_df160_9 rfl (Nat.le_of_ble_eq_true rfl) (Nat.le_of_ble_eq_true rfl) ⟨rfl, rfl⟩
  · refine G_callS (As := [.int p3866, .int p3867, .ref t3871]) (wr := []) (gV_ok D I) (ct_3888_Preconditions_checkIndex l hl0 D I p3866 p3867 t3871 (by omega) (by omega)) d_cJ0_checkIndex_df160_5 ⟨w_3_83, w_1_29, w_3_85, by decide, rfl, (Nat.le_of_ble_eq_true rfl), (Nat.le_of_ble_eq_true rfl)⟩ w_3_84 [] [] rfl rfl rfl rfl (by decide) (Nat.le_of_ble_eq_true rfl) (Nat.le_of_ble_eq_true rfl) (Nat.le_of_ble_eq_true rfl) (fun r w hp => ?_) (fun _ _ _ z => z.elim)
    obtain ⟨rfl, rfl⟩ := hp
    change G _ _ _ _ _ _ _ (.int p3866 :: _) _ _ _
    refine G_ws (ws' := []) (cs' := 0) (sl' := 0) rfl rfl rfl ?_
    refine G_pop d_cJ0_checkIndex_df160_8 rfl ?_
    exact G_vret d_cJ0_checkIndex_df160_9 rfl (Nat.le_of_ble_eq_true rfl) (Nat.le_of_ble_eq_true rfl) ⟨rfl, rfl⟩
abbrev ky_3864_StringLatin1_charAt : gKey := (cJ1_charAt_3b067, 2, yJ1_charAt_3b067.cls, (some FieldType.char), [], yJ1_charAt_3b067.name, fun _ _ => True)
abbrev po_3864_StringLatin1_charAt (I : FieldType → ClassId) (qs3859 : Nat) (bs3860 : List Int32) (p3861 : Int32) : Option Value → va_W → Prop := fun r w => ∃ (o3898 : Int32), r = some (.int o3898) ∧ w = [] ∧ gB o3898 0 65535
set_option maxRecDepth 100000 in
set_option maxHeartbeats 4000000 in
theorem ct_3864_StringLatin1_charAt (l : Launch) (hl0 : l.stackTraces = false) (D : va_G) (I : FieldType → ClassId) (qs3859 : Nat) (bs3860 : List Int32) (p3861 : Int32) (hbs3860 : ∀ A s H, (gV D I).2.2.2.1 A s H → va_T .byte qs3859 bs3860.length (fun j => .int (bs3860.getD j 0)) A s H) (nbs3860 : (bs3860.length : Int) ≤ 65535) (x3862 : 0 ≤ p3861.toInt) (x3863 : p3861.toInt < (bs3860.length : Int)) : Ct (gV D I) l yJ1_charAt_3b067 cJ1_charAt_3b067 2 (some FieldType.char) 2 43 0 0 [.ref qs3859, .int p3861] [] (po_3864_StringLatin1_charAt I qs3859 bs3860 p3861) gN := by
  refine Ct_ofF hl0 (by decide +kernel) (Nat.le_of_ble_eq_true rfl) ?_
  have bp3861 := gB_any p3861
  refine G_iload_n 1 d_cJ1_charAt_3b067_0 rfl ?_
  refine G_aload_n 0 d_cJ1_charAt_3b067_1 rfl ?_
  refine G_klen d_cJ1_charAt_3b067_2 hbs3860 (G_nam fun z3865 hz3865 => ?_)
  have ez3865 : z3865.toInt = (bs3860.length : Int) := gI_ofN hz3865 nbs3860
  have bz3865 : gB z3865 0 65535 := ⟨by omega, by omega⟩
  refine G_callS (As := [.int p3861, .int z3865]) (wr := []) (gV_ok D I) (ct_3870_String_checkIndex l hl0 D I p3861 z3865 (by omega) (by omega)) d_cJ1_charAt_3b067_3 ⟨w_3_78, w_1_21, w_3_80, by decide, rfl, (Nat.le_of_ble_eq_true rfl), (Nat.le_of_ble_eq_true rfl)⟩ w_3_79 [] [] rfl rfl rfl rfl (by decide) (Nat.le_of_ble_eq_true rfl) (Nat.le_of_ble_eq_true rfl) (Nat.le_of_ble_eq_true rfl) (fun r w hp => ?_) (fun _ _ _ z => z.elim)
  obtain ⟨rfl, rfl⟩ := hp
  change G _ _ _ _ _ _ _ _ _ _ _
  refine G_ws (ws' := []) (cs' := 0) (sl' := 0) rfl rfl rfl ?_
  refine G_aload_n 0 d_cJ1_charAt_3b067_6 rfl ?_
  refine G_iload_n 1 d_cJ1_charAt_3b067_7 rfl ?_
  refine G_kbald (f := fun j => bs3860.getD j 0) d_cJ1_charAt_3b067_8 hbs3860 (gB_inr (by omega) (by omega)) (G_nam fun z3895 hz3895 => ?_)
  have bz3895 : gB z3895 (-2147483648) 2147483647 := gB_any z3895
  refine G_sipush 255 d_cJ1_charAt_3b067_9 (by decide +kernel) ?_
  refine G_iand d_cJ1_charAt_3b067_12 (G_nam fun z3896 hz3896 => ?_)
  have bz3896 : gB z3896 0 255 := gB_and hz3896 (gBl (show Int32.toInt 255 = 255 by decide)) (by decide)
  refine G_i2c d_cJ1_charAt_3b067_13 (G_nam fun z3897 hz3897 => ?_)
  have bz3897 : gB z3897 0 65535 := gB_i2c hz3897
  exact G_zret FieldType.char d_cJ1_charAt_3b067_14 rfl (gN_char bz3897) (Nat.le_of_ble_eq_true rfl) (Nat.le_of_ble_eq_true rfl) ⟨z3897, rfl, rfl, bz3897⟩
abbrev ky_3854_String_charAt : gKey := (cJ0_charAt_5068e, 2, yJ0_charAt_5068e.cls, (some FieldType.char), [], yJ0_charAt_5068e.name, fun _ _ => True)
abbrev po_3854_String_charAt (I : FieldType → ClassId) (qs3848 : Nat) (qb3849 : Nat) (bs3850 : List Int32) (p3851 : Int32) : Option Value → va_W → Prop := fun r w => ∃ (o3900 : Int32), r = some (.int o3900) ∧ w = [] ∧ gB o3900 0 65535
set_option maxRecDepth 100000 in
set_option maxHeartbeats 4000000 in
theorem ct_3854_String_charAt (l : Launch) (hl0 : l.stackTraces = false) (D : va_G) (I : FieldType → ClassId) (qs3848 : Nat) (qb3849 : Nat) (bs3850 : List Int32) (p3851 : Int32) (hbs3850 : ∀ A s H, (gV D I).2.2.2.1 A s H → gSC qs3848 qb3849 bs3850 A s H) (nbs3850 : (bs3850.length : Int) ≤ 65535) (x3852 : 0 ≤ p3851.toInt) (x3853 : p3851.toInt < (bs3850.length : Int)) : Ct (gV D I) l yJ0_charAt_5068e cJ0_charAt_5068e 2 (some FieldType.char) 3 64 0 0 [.ref qs3848, .int p3851] [] (po_3854_String_charAt I qs3848 qb3849 bs3850 p3851) gN := by
  refine Ct_ofF hl0 (by decide +kernel) (Nat.le_of_ble_eq_true rfl) ?_
  have bp3851 := gB_any p3851
  refine G_aload_n 0 d_cJ0_charAt_5068e_0 rfl ?_
  refine G_callVk (As := []) (wr := []) (gV_ok D I) (ct_3858_String_isLatin1 l hl0 D I qs3848 qb3849 bs3850 hbs3850 nbs3850) d_cJ0_charAt_5068e_1 ⟨w_3_71, w_1_21, w_3_74, by decide, rfl, (Nat.le_of_ble_eq_true rfl), (Nat.le_of_ble_eq_true rfl)⟩ w_3_72 w_3_73 (fun _ _ _ h => (hbs3850 _ _ _ h).1) [] [] rfl rfl rfl rfl (by decide) (Nat.le_of_ble_eq_true rfl) (Nat.le_of_ble_eq_true rfl) (Nat.le_of_ble_eq_true rfl) (fun r w hp => ?_) (fun _ _ _ z => z.elim)
  obtain ⟨rfl, rfl⟩ := hp
  change G _ _ _ _ _ _ _ (.int 1 :: _) _ _ _
  refine G_ws (ws' := []) (cs' := 0) (sl' := 0) rfl rfl rfl ?_
  refine G_if_eq 16 d_cJ0_charAt_5068e_4 (by decide +kernel) (fun hc => absurd hc (by decide)) (fun _ => ?_)
  refine G_aload_n 0 d_cJ0_charAt_5068e_7 rfl ?_
  refine G_kget d_cJ0_charAt_5068e_8 w_8_182 (fun _ _ _ h => (hbs3850 _ _ _ h).2.2.1) ?_
  refine G_iload_n 1 d_cJ0_charAt_5068e_11 rfl ?_
  refine G_callS (As := [.ref qb3849, .int p3851]) (wr := []) (gV_ok D I) (ct_3864_StringLatin1_charAt l hl0 D I qb3849 bs3850 p3851 (fun _ _ _ h => (hbs3850 _ _ _ h).2.2.2) (by omega) (by omega) (by omega)) d_cJ0_charAt_5068e_12 ⟨w_3_75, w_1_28, w_3_77, by decide, rfl, (Nat.le_of_ble_eq_true rfl), (Nat.le_of_ble_eq_true rfl)⟩ w_3_76 [] [] rfl rfl rfl rfl (by decide) (Nat.le_of_ble_eq_true rfl) (Nat.le_of_ble_eq_true rfl) (Nat.le_of_ble_eq_true rfl) (fun r w hp => ?_) (fun _ _ _ z => z.elim)
  obtain ⟨o3899, rfl, rfl, bo3899⟩ := hp
  change G _ _ _ _ _ _ _ (.int o3899 :: _) _ _ _
  refine G_ws (ws' := []) (cs' := 0) (sl' := 0) rfl rfl rfl ?_
  exact G_zret FieldType.char d_cJ0_charAt_5068e_15 rfl (gN_char bo3899) (Nat.le_of_ble_eq_true rfl) (Nat.le_of_ble_eq_true rfl) ⟨o3899, rfl, rfl, bo3899⟩
abbrev ky_3818_Signs_isWord : gKey := (cX9_isWord, 3, yX9_isWord.cls, (some FieldType.boolean), [], yX9_isWord.name, fun _ _ => True)
abbrev po_3818_Signs_isWord (I : FieldType → ClassId) (q3805 : Nat) (q3806 : Nat) (q3807 : Nat) (qs3808 : Nat) (qb3809 : Nat) (bs3810 : List Int32) (p3811 : Int32) (p3812 : Int32) (p3813 : Int32) (p3814 : Int32) (p3815 : Int32) (f3816 : Nat → Int32) : Option Value → va_W → Prop := fun r w => ∃ (o4034 : Int32), r = some (.int o4034) ∧ w = [(q3805, .inr (14, [.ref q3806, .int p3811, .int p3812, .int p3813, .int p3814])), (q3806, .inr (15, [.ref q3807, .int p3815])), (q3807, .inl (I .byte, 8192, .inl f3816))] ∧ gB o4034 0 1
set_option maxRecDepth 100000 in
set_option maxHeartbeats 4000000 in
theorem ct_3818_Signs_isWord (l : Launch) (hl0 : l.stackTraces = false) (D : va_G) (I : FieldType → ClassId) (q3805 : Nat) (q3806 : Nat) (q3807 : Nat) (qs3808 : Nat) (qb3809 : Nat) (bs3810 : List Int32) (p3811 : Int32) (p3812 : Int32) (p3813 : Int32) (p3814 : Int32) (p3815 : Int32) (f3816 : Nat → Int32) (hbs3810 : ∀ A s H, (gV D I).2.2.2.1 A s H → gSC qs3808 qb3809 bs3810 A s H) (nbs3810 : (bs3810.length : Int) ≤ 65535) (bp3815 : gB p3815 0 8192) (bf3816 : gF f3816 (-128) 127) (x3817 : (p3811.toInt ≠ 5 ∨ (0 ≤ p3812.toInt ∧ p3812.toInt ≤ 13))) : Ct (gV D I) l yX9_isWord cX9_isWord 3 (some FieldType.boolean) 4 85 0 0 [.ref q3805, .ref qs3808] [(q3805, .inr (14, [.ref q3806, .int p3811, .int p3812, .int p3813, .int p3814])), (q3806, .inr (15, [.ref q3807, .int p3815])), (q3807, .inl (I .byte, 8192, .inl f3816))] (po_3818_Signs_isWord I q3805 q3806 q3807 qs3808 qb3809 bs3810 p3811 p3812 p3813 p3814 p3815 f3816) gN := by
  refine Ct_of hl0 (by decide) (Nat.le_of_ble_eq_true rfl) ?_
  have bp3811 := gB_any p3811
  have bp3812 := gB_any p3812
  have bp3813 := gB_any p3813
  have bp3814 := gB_any p3814
  refine G_aload_n 0 d_cX9_isWord_0 rfl ?_
  refine G_getf 0 4 d_cX9_isWord_1 rfl (gk_X9 D I) (Nat.le_of_ble_eq_true rfl) w_1_83 rfl ?_
  refine G_aload_n 0 d_cX9_isWord_4 rfl ?_
  refine G_getf 0 3 d_cX9_isWord_5 rfl (gk_X9 D I) (Nat.le_of_ble_eq_true rfl) w_1_82 rfl ?_
  refine G_isub d_cX9_isWord_8 (G_nam fun z3819 hz3819 => ?_)
  have bz3819 : gB z3819 (-2147483648) 2147483647 := gB_any z3819
  refine G_aload_n 1 d_cX9_isWord_9 rfl ?_
  refine G_callVk (As := []) (wr := [(q3805, .inr (14, [.ref q3806, .int p3811, .int p3812, .int p3813, .int p3814])), (q3806, .inr (15, [.ref q3807, .int p3815])), (q3807, .inl (I .byte, 8192, .inl f3816))]) (gV_ok D I) (ct_3823_String_length l hl0 D I qs3808 qb3809 bs3810 hbs3810 nbs3810) d_cX9_isWord_10 ⟨w_3_57, w_1_21, w_3_60, by decide, rfl, (Nat.le_of_ble_eq_true rfl), (Nat.le_of_ble_eq_true rfl)⟩ w_3_58 w_3_59 (fun _ _ _ h => (hbs3810 _ _ _ h).1) [] [0, 1, 2] rfl rfl rfl rfl (by decide) (Nat.le_of_ble_eq_true rfl) (Nat.le_of_ble_eq_true rfl) (Nat.le_of_ble_eq_true rfl) (fun r w hp => ?_) (fun _ _ _ z => z.elim)
  obtain ⟨o3831, rfl, rfl, bo3831, x3832⟩ := hp
  change G _ _ _ _ _ _ _ (.int o3831 :: _) _ _ _
  refine G_ws (ws' := [(q3805, .inr (14, [.ref q3806, .int p3811, .int p3812, .int p3813, .int p3814])), (q3806, .inr (15, [.ref q3807, .int p3815])), (q3807, .inl (I .byte, 8192, .inl f3816))]) (cs' := 0) (sl' := 0) rfl rfl rfl ?_
  refine G_icmp_eq 18 d_cX9_isWord_13 (by decide +kernel) (fun hc3833 => ?_) (fun hc3833 => ?_)
  · have r3834 : z3819.toInt = o3831.toInt := gC_eq hc3833
    have bz3819' : gB z3819 0 65535 := ⟨by omega, by omega⟩
    refine G_iconst 0 d_cX9_isWord_18 (by decide +kernel) ?_
    refine G_istore_n (L' := [(2, .int 0), (0, .ref q3805), (1, .ref qs3808)]) d_cX9_isWord_19 (Nat.le_of_ble_eq_true rfl) rfl ?_
    have hlp20_4012 : ∀ (n20_4012 : Nat) (g4012 : Int32), gB g4012 0 65535 → ((65536 : Int) - g4012.toInt).toNat < n20_4012 → G (gV D I) l (gRm 4 85 0 0) (gM (gV D I) (po_3818_Signs_isWord I q3805 q3806 q3807 qs3808 qb3809 bs3810 p3811 p3812 p3813 p3814 p3815 f3816) gN 0 0) ky_3818_Signs_isWord 20 [(2, .int g4012), (0, .ref q3805), (1, .ref qs3808)] [] [(q3805, .inr (14, [.ref q3806, .int p3811, .int p3812, .int p3813, .int p3814])), (q3806, .inr (15, [.ref q3807, .int p3815])), (q3807, .inl (I .byte, 8192, .inl f3816))] 0 0 := by
      intro n20_4012
      induction n20_4012 with
      | zero => intro g4012 bg4012 hm20_4012; exact absurd hm20_4012 (Nat.not_lt_zero _)
      | succ n20_4012 ih20_4012 =>
        intro g4012 bg4012 hm20_4012
        refine G_iload_n 0 d_cX9_isWord_20 rfl ?_
        refine G_aload_n 2 d_cX9_isWord_21 rfl ?_
        refine G_callVk (As := []) (wr := [(q3805, .inr (14, [.ref q3806, .int p3811, .int p3812, .int p3813, .int p3814])), (q3806, .inr (15, [.ref q3807, .int p3815])), (q3807, .inl (I .byte, 8192, .inl f3816))]) (gV_ok D I) (ct_3823_String_length l hl0 D I qs3808 qb3809 bs3810 hbs3810 nbs3810) d_cX9_isWord_22 ⟨w_3_57, w_1_21, w_3_60, by decide, rfl, (Nat.le_of_ble_eq_true rfl), (Nat.le_of_ble_eq_true rfl)⟩ w_3_58 w_3_59 (fun _ _ _ h => (hbs3810 _ _ _ h).1) [] [0, 1, 2] rfl rfl rfl rfl (by decide) (Nat.le_of_ble_eq_true rfl) (Nat.le_of_ble_eq_true rfl) (Nat.le_of_ble_eq_true rfl) (fun r w hp => ?_) (fun _ _ _ z => z.elim)
        obtain ⟨o4013, rfl, rfl, bo4013, x4014⟩ := hp
        change G _ _ _ _ _ _ _ (.int o4013 :: _) _ _ _
        refine G_ws (ws' := [(q3805, .inr (14, [.ref q3806, .int p3811, .int p3812, .int p3813, .int p3814])), (q3806, .inr (15, [.ref q3807, .int p3815])), (q3807, .inl (I .byte, 8192, .inl f3816))]) (cs' := 0) (sl' := 0) rfl rfl rfl ?_
        refine G_icmp_ge 57 d_cX9_isWord_25 (by decide +kernel) (fun hc4015 => ?_) (fun hc4015 => ?_)
        · have r4016 : o4013.toInt ≤ g4012.toInt := gC_le hc4015
          refine G_iconst 1 d_cX9_isWord_57 (by decide +kernel) ?_
          exact G_zret FieldType.boolean d_cX9_isWord_58 rfl rfl (Nat.le_of_ble_eq_true rfl) (Nat.le_of_ble_eq_true rfl) ⟨1, rfl, rfl, (gB_w (gBl (show Int32.toInt 1 = 1 by decide)) (by decide) (by decide))⟩
        · have r4017 : g4012.toInt < o4013.toInt := gC_nle hc4015
          have bg4012' : gB g4012 0 65534 := ⟨by omega, by omega⟩
          have bo4013' : gB o4013 1 65535 := ⟨by omega, by omega⟩
          refine G_aload_n 1 d_cX9_isWord_28 rfl ?_
          refine G_getf 0 0 d_cX9_isWord_29 rfl (gk_X9 D I) (Nat.le_of_ble_eq_true rfl) w_1_79 rfl ?_
          refine G_aload_n 1 d_cX9_isWord_32 rfl ?_
          refine G_getf 0 3 d_cX9_isWord_33 rfl (gk_X9 D I) (Nat.le_of_ble_eq_true rfl) w_1_82 rfl ?_
          refine G_iload_n 0 d_cX9_isWord_36 rfl ?_
          refine G_iadd d_cX9_isWord_37 (G_nam fun z4018 hz4018 => ?_)
          have bz4018 : gB z4018 (-2147483648) 2147483647 := gB_any z4018
          refine G_callV (As := [.int z4018]) (wr := [(q3805, .inr (14, [.ref q3806, .int p3811, .int p3812, .int p3813, .int p3814]))]) (gV_ok D I) (ct_30_Tape_byteAt l hl0 D I q3806 q3807 z4018 p3815 f3816 bp3815 bf3816) d_cX9_isWord_38 ⟨w_3_20, w_1_2, w_3_23, by decide, rfl, (Nat.le_of_ble_eq_true rfl), (Nat.le_of_ble_eq_true rfl)⟩ w_3_21 w_3_22 1 rfl rfl [1, 2] [0] rfl rfl rfl rfl (by decide) (Nat.le_of_ble_eq_true rfl) (Nat.le_of_ble_eq_true rfl) (Nat.le_of_ble_eq_true rfl) (fun r w hp => ?_) (fun _ _ _ z => z.elim)
          rcases hp with ⟨rfl, rfl, r4019⟩ | ⟨rfl, rfl, r4020, r4021⟩ | ⟨z4022, rfl, rfl, r4023, r4024, r4025⟩
          · have bz4018' : gB z4018 (-2147483648) (-1) := ⟨by omega, by omega⟩
            change G _ _ _ _ _ _ _ (.int (-1) :: _) _ _ _
            refine G_ws (ws' := [(q3805, .inr (14, [.ref q3806, .int p3811, .int p3812, .int p3813, .int p3814])), (q3806, .inr (15, [.ref q3807, .int p3815])), (q3807, .inl (I .byte, 8192, .inl f3816))]) (cs' := 0) (sl' := 0) rfl rfl rfl ?_
            refine G_aload_n 2 d_cX9_isWord_41 rfl ?_
            refine G_iload_n 0 d_cX9_isWord_42 rfl ?_
            refine G_callVk (As := [.int g4012]) (wr := [(q3805, .inr (14, [.ref q3806, .int p3811, .int p3812, .int p3813, .int p3814])), (q3806, .inr (15, [.ref q3807, .int p3815])), (q3807, .inl (I .byte, 8192, .inl f3816))]) (gV_ok D I) (ct_3854_String_charAt l hl0 D I qs3808 qb3809 bs3810 g4012 hbs3810 nbs3810 (by omega) (by omega)) d_cX9_isWord_43 ⟨w_3_67, w_1_21, w_3_70, by decide, rfl, (Nat.le_of_ble_eq_true rfl), (Nat.le_of_ble_eq_true rfl)⟩ w_3_68 w_3_69 (fun _ _ _ h => (hbs3810 _ _ _ h).1) [] [0, 1, 2] rfl rfl rfl rfl (by decide) (Nat.le_of_ble_eq_true rfl) (Nat.le_of_ble_eq_true rfl) (Nat.le_of_ble_eq_true rfl) (fun r w hp => ?_) (fun _ _ _ z => z.elim)
            obtain ⟨o4026, rfl, rfl, bo4026⟩ := hp
            change G _ _ _ _ _ _ _ (.int o4026 :: _) _ _ _
            refine G_ws (ws' := [(q3805, .inr (14, [.ref q3806, .int p3811, .int p3812, .int p3813, .int p3814])), (q3806, .inr (15, [.ref q3807, .int p3815])), (q3807, .inl (I .byte, 8192, .inl f3816))]) (cs' := 0) (sl' := 0) rfl rfl rfl ?_
            refine G_icmp_eq 51 d_cX9_isWord_46 (by decide +kernel) (fun hc => absurd (show False by have := gj_eqL hc (show Int32.toInt (-1) = (-1) by decide); omega) not_false) (fun _ => ?_)
            refine G_iconst 0 d_cX9_isWord_49 (by decide +kernel) ?_
            exact G_zret FieldType.boolean d_cX9_isWord_50 rfl rfl (Nat.le_of_ble_eq_true rfl) (Nat.le_of_ble_eq_true rfl) ⟨0, rfl, rfl, (gB_w (gBl (show Int32.toInt 0 = 0 by decide)) (by decide) (by decide))⟩
          · have bz4018' : gB z4018 0 2147483647 := ⟨by omega, by omega⟩
            change G _ _ _ _ _ _ _ (.int (-1) :: _) _ _ _
            refine G_ws (ws' := [(q3805, .inr (14, [.ref q3806, .int p3811, .int p3812, .int p3813, .int p3814])), (q3806, .inr (15, [.ref q3807, .int p3815])), (q3807, .inl (I .byte, 8192, .inl f3816))]) (cs' := 0) (sl' := 0) rfl rfl rfl ?_
            refine G_aload_n 2 d_cX9_isWord_41 rfl ?_
            refine G_iload_n 0 d_cX9_isWord_42 rfl ?_
            refine G_callVk (As := [.int g4012]) (wr := [(q3805, .inr (14, [.ref q3806, .int p3811, .int p3812, .int p3813, .int p3814])), (q3806, .inr (15, [.ref q3807, .int p3815])), (q3807, .inl (I .byte, 8192, .inl f3816))]) (gV_ok D I) (ct_3854_String_charAt l hl0 D I qs3808 qb3809 bs3810 g4012 hbs3810 nbs3810 (by omega) (by omega)) d_cX9_isWord_43 ⟨w_3_67, w_1_21, w_3_70, by decide, rfl, (Nat.le_of_ble_eq_true rfl), (Nat.le_of_ble_eq_true rfl)⟩ w_3_68 w_3_69 (fun _ _ _ h => (hbs3810 _ _ _ h).1) [] [0, 1, 2] rfl rfl rfl rfl (by decide) (Nat.le_of_ble_eq_true rfl) (Nat.le_of_ble_eq_true rfl) (Nat.le_of_ble_eq_true rfl) (fun r w hp => ?_) (fun _ _ _ z => z.elim)
            obtain ⟨o4027, rfl, rfl, bo4027⟩ := hp
            change G _ _ _ _ _ _ _ (.int o4027 :: _) _ _ _
            refine G_ws (ws' := [(q3805, .inr (14, [.ref q3806, .int p3811, .int p3812, .int p3813, .int p3814])), (q3806, .inr (15, [.ref q3807, .int p3815])), (q3807, .inl (I .byte, 8192, .inl f3816))]) (cs' := 0) (sl' := 0) rfl rfl rfl ?_
            refine G_icmp_eq 51 d_cX9_isWord_46 (by decide +kernel) (fun hc => absurd (show False by have := gj_eqL hc (show Int32.toInt (-1) = (-1) by decide); omega) not_false) (fun _ => ?_)
            refine G_iconst 0 d_cX9_isWord_49 (by decide +kernel) ?_
            exact G_zret FieldType.boolean d_cX9_isWord_50 rfl rfl (Nat.le_of_ble_eq_true rfl) (Nat.le_of_ble_eq_true rfl) ⟨0, rfl, rfl, (gB_w (gBl (show Int32.toInt 0 = 0 by decide)) (by decide) (by decide))⟩
          · have bz4018' : gB z4018 0 2147483647 := ⟨by omega, by omega⟩
            have bz4018'' : gB z4018 0 8191 := ⟨by omega, by omega⟩
            have bp3815' : gB p3815 1 8192 := ⟨by omega, by omega⟩
            change G _ _ _ _ _ _ _ (.int z4022 :: _) _ _ _
            refine G_ws (ws' := [(q3805, .inr (14, [.ref q3806, .int p3811, .int p3812, .int p3813, .int p3814])), (q3806, .inr (15, [.ref q3807, .int p3815])), (q3807, .inl (I .byte, 8192, .inl f3816))]) (cs' := 0) (sl' := 0) rfl rfl rfl ?_
            refine G_aload_n 2 d_cX9_isWord_41 rfl ?_
            refine G_iload_n 0 d_cX9_isWord_42 rfl ?_
            refine G_callVk (As := [.int g4012]) (wr := [(q3805, .inr (14, [.ref q3806, .int p3811, .int p3812, .int p3813, .int p3814])), (q3806, .inr (15, [.ref q3807, .int p3815])), (q3807, .inl (I .byte, 8192, .inl f3816))]) (gV_ok D I) (ct_3854_String_charAt l hl0 D I qs3808 qb3809 bs3810 g4012 hbs3810 nbs3810 (by omega) (by omega)) d_cX9_isWord_43 ⟨w_3_67, w_1_21, w_3_70, by decide, rfl, (Nat.le_of_ble_eq_true rfl), (Nat.le_of_ble_eq_true rfl)⟩ w_3_68 w_3_69 (fun _ _ _ h => (hbs3810 _ _ _ h).1) [] [0, 1, 2] rfl rfl rfl rfl (by decide) (Nat.le_of_ble_eq_true rfl) (Nat.le_of_ble_eq_true rfl) (Nat.le_of_ble_eq_true rfl) (fun r w hp => ?_) (fun _ _ _ z => z.elim)
            obtain ⟨o4028, rfl, rfl, bo4028⟩ := hp
            change G _ _ _ _ _ _ _ (.int o4028 :: _) _ _ _
            refine G_ws (ws' := [(q3805, .inr (14, [.ref q3806, .int p3811, .int p3812, .int p3813, .int p3814])), (q3806, .inr (15, [.ref q3807, .int p3815])), (q3807, .inl (I .byte, 8192, .inl f3816))]) (cs' := 0) (sl' := 0) rfl rfl rfl ?_
            refine G_icmp_eq 51 d_cX9_isWord_46 (by decide +kernel) (fun hc4029 => ?_) (fun hc4029 => ?_)
            · have r4030 : z4022.toInt = o4028.toInt := gC_eq hc4029
              have bo4028' : gB o4028 0 255 := ⟨by omega, by omega⟩
              obtain ⟨z4031, hz4031⟩ : ∃ z : Int32, z = g4012 + Int32.ofInt 1 := ⟨_, rfl⟩
              have ez4031 : z4031.toInt = g4012.toInt + 1 := gI_inc hz4031 (by decide) bg4012' (by decide) (by decide)
              have bz4031 : gB z4031 1 65535 := ⟨by omega, by omega⟩
              refine G_iinc (L' := [(2, .int z4031), (0, .ref q3805), (1, .ref qs3808)]) z4031 0 d_cX9_isWord_51 rfl hz4031.symm (Nat.le_of_ble_eq_true rfl) rfl ?_
              refine G_goto 20 d_cX9_isWord_54 (by decide +kernel) ?_
              exact ih20_4012 z4031 (gB_w bz4031 (by decide) (by decide)) (by omega)
            · have r4032 : z4022.toInt ≠ o4028.toInt := gC_ne hc4029
              refine G_iconst 0 d_cX9_isWord_49 (by decide +kernel) ?_
              exact G_zret FieldType.boolean d_cX9_isWord_50 rfl rfl (Nat.le_of_ble_eq_true rfl) (Nat.le_of_ble_eq_true rfl) ⟨0, rfl, rfl, (gB_w (gBl (show Int32.toInt 0 = 0 by decide)) (by decide) (by decide))⟩
    exact hlp20_4012 (((65536 : Int) - 0).toNat + 1) 0 (gB_w (gBl (show Int32.toInt 0 = 0 by decide)) (by decide) (by decide)) (Nat.lt_succ_self _)
  · have r4033 : z3819.toInt ≠ o3831.toInt := gC_ne hc3833
    refine G_iconst 0 d_cX9_isWord_16 (by decide +kernel) ?_
    exact G_zret FieldType.boolean d_cX9_isWord_17 rfl rfl (Nat.le_of_ble_eq_true rfl) (Nat.le_of_ble_eq_true rfl) ⟨0, rfl, rfl, (gB_w (gBl (show Int32.toInt 0 = 0 by decide)) (by decide) (by decide))⟩
abbrev ky_3801_Signs_takeWord : gKey := (cX9_takeWord, 2, yX9_takeWord.cls, none, [], yX9_takeWord.name, fun _ _ => True)
abbrev po_3801_Signs_takeWord (I : FieldType → ClassId) (q3791 : Nat) (q3792 : Nat) (q3793 : Nat) (p3794 : Int32) (p3795 : Int32) (p3796 : Int32) (p3797 : Int32) (p3798 : Int32) (f3799 : Nat → Int32) : Option Value → va_W → Prop := fun r w => ∃ (o4487 : Int32) (o4488 : Int32), r = none ∧ w = [(q3791, .inr (14, [.ref q3792, .int o4487, .int p3795, .int p3796, .int o4488])), (q3792, .inr (15, [.ref q3793, .int p3798])), (q3793, .inl (I .byte, 8192, .inl f3799))] ∧ gB o4487 0 12 ∧ gB o4488 (-2147483648) 2147483647 ∧ (o4487.toInt ≠ 5 ∨ (0 ≤ p3795.toInt ∧ p3795.toInt ≤ 13))
set_option maxRecDepth 100000 in
set_option maxHeartbeats 4000000 in
theorem ct_3801_Signs_takeWord (l : Launch) (hl0 : l.stackTraces = false) (D : va_G) (I : FieldType → ClassId) (q3791 : Nat) (q3792 : Nat) (q3793 : Nat) (p3794 : Int32) (p3795 : Int32) (p3796 : Int32) (p3797 : Int32) (p3798 : Int32) (f3799 : Nat → Int32) (bp3798 : gB p3798 0 8192) (bf3799 : gF f3799 (-128) 127) (x3800 : (p3794.toInt ≠ 5 ∨ (0 ≤ p3795.toInt ∧ p3795.toInt ≤ 13))) : Ct (gV D I) l yX9_takeWord cX9_takeWord 2 none 5 107 0 0 [.ref q3791] [(q3791, .inr (14, [.ref q3792, .int p3794, .int p3795, .int p3796, .int p3797])), (q3792, .inr (15, [.ref q3793, .int p3798])), (q3793, .inl (I .byte, 8192, .inl f3799))] (po_3801_Signs_takeWord I q3791 q3792 q3793 p3794 p3795 p3796 p3797 p3798 f3799) gN := by
  refine Ct_of hl0 (by decide) (Nat.le_of_ble_eq_true rfl) ?_
  have bp3794 := gB_any p3794
  have bp3795 := gB_any p3795
  have bp3796 := gB_any p3796
  have bp3797 := gB_any p3797
  refine G_aload_n 0 d_cX9_takeWord_0 rfl ?_
  refine G_getf 0 3 d_cX9_takeWord_1 rfl (gk_X9 D I) (Nat.le_of_ble_eq_true rfl) w_1_82 rfl ?_
  refine G_istore_n (L' := [(1, .int p3796), (0, .ref q3791)]) d_cX9_takeWord_4 (Nat.le_of_ble_eq_true rfl) rfl ?_
  have hlp5_4335 : ∀ (n5_4335 : Nat) (g4335 : Int32), gB g4335 (-2147483648) 2147483647 → ((2147483648 : Int) - g4335.toInt).toNat < n5_4335 → G (gV D I) l (gRm 5 107 0 0) (gM (gV D I) (po_3801_Signs_takeWord I q3791 q3792 q3793 p3794 p3795 p3796 p3797 p3798 f3799) gN 0 0) ky_3801_Signs_takeWord 5 [(1, .int g4335), (0, .ref q3791)] [] [(q3791, .inr (14, [.ref q3792, .int p3794, .int p3795, .int p3796, .int p3797])), (q3792, .inr (15, [.ref q3793, .int p3798])), (q3793, .inl (I .byte, 8192, .inl f3799))] 0 0 := by
    intro n5_4335
    induction n5_4335 with
    | zero => intro g4335 bg4335 hm5_4335; exact absurd hm5_4335 (Nat.not_lt_zero _)
    | succ n5_4335 ih5_4335 =>
      intro g4335 bg4335 hm5_4335
      refine G_iload_n 0 d_cX9_takeWord_5 rfl ?_
      refine G_aload_n 1 d_cX9_takeWord_6 rfl ?_
      refine G_getf 0 0 d_cX9_takeWord_7 rfl (gk_X9 D I) (Nat.le_of_ble_eq_true rfl) w_1_79 rfl ?_
      refine G_callV (As := []) (wr := [(q3791, .inr (14, [.ref q3792, .int p3794, .int p3795, .int p3796, .int p3797]))]) (gV_ok D I) (ct_5_Tape_size l hl0 D I q3792 q3793 p3798 f3799 bp3798 bf3799) d_cX9_takeWord_10 ⟨w_3_16, w_1_2, w_3_19, by decide, rfl, (Nat.le_of_ble_eq_true rfl), (Nat.le_of_ble_eq_true rfl)⟩ w_3_17 w_3_18 1 rfl rfl [1, 2] [0] rfl rfl rfl rfl (by decide) (Nat.le_of_ble_eq_true rfl) (Nat.le_of_ble_eq_true rfl) (Nat.le_of_ble_eq_true rfl) (fun r w hp => ?_) (fun _ _ _ z => z.elim)
      obtain ⟨rfl, rfl⟩ := hp
      change G _ _ _ _ _ _ _ (.int p3798 :: _) _ _ _
      refine G_ws (ws' := [(q3791, .inr (14, [.ref q3792, .int p3794, .int p3795, .int p3796, .int p3797])), (q3792, .inr (15, [.ref q3793, .int p3798])), (q3793, .inl (I .byte, 8192, .inl f3799))]) (cs' := 0) (sl' := 0) rfl rfl rfl ?_
      refine G_icmp_ge 36 d_cX9_takeWord_13 (by decide +kernel) (fun hc4336 => ?_) (fun hc4336 => ?_)
      · have r4337 : p3798.toInt ≤ g4335.toInt := gC_le hc4336
        have bg4335' : gB g4335 0 2147483647 := ⟨by omega, by omega⟩
        refine G_aload_n 1 d_cX9_takeWord_36 rfl ?_
        refine G_iload_n 0 d_cX9_takeWord_37 rfl ?_
        refine G_putf (ws' := [(q3791, .inr (14, [.ref q3792, .int p3794, .int p3795, .int p3796, .int g4335])), (q3792, .inr (15, [.ref q3793, .int p3798])), (q3793, .inl (I .byte, 8192, .inl f3799))]) 0 4 d_cX9_takeWord_38 rfl (gk_X9 D I) (Nat.le_of_ble_eq_true rfl) w_1_83 rfl rfl rfl (Nat.le_of_ble_eq_true rfl) rfl ?_
        refine G_aload_n 1 d_cX9_takeWord_41 rfl ?_
        refine G_aload_n 1 d_cX9_takeWord_42 rfl ?_
        refine G_ldcK (a := D.2 1000 0) d_cX9_takeWord_43 (fun _ _ _ h => gx_vk 0 rfl rfl h) ?_
        have hl0_4337 : (sb_0.length : Int) = 2 := rfl
        refine G_callV (As := [.ref (D.2 1000 0)]) (wr := []) (gV_ok D I) (ct_3818_Signs_isWord l hl0 D I q3791 q3792 q3793 (D.2 1000 0) (D.2 1001 0) sb_0 p3794 p3795 p3796 g4335 p3798 f3799 (gx_sc 0 rfl rfl) (by omega) bp3798 bf3799 (by omega)) d_cX9_takeWord_45 ⟨w_3_53, w_1_4, w_3_56, by decide, rfl, (Nat.le_of_ble_eq_true rfl), (Nat.le_of_ble_eq_true rfl)⟩ w_3_55 w_p_5 0 rfl rfl [0, 1, 2] [] rfl rfl rfl rfl (by decide) (Nat.le_of_ble_eq_true rfl) (Nat.le_of_ble_eq_true rfl) (Nat.le_of_ble_eq_true rfl) (fun r w hp => ?_) (fun _ _ _ z => z.elim)
        obtain ⟨o4339, rfl, rfl, bo4339⟩ := hp
        change G _ _ _ _ _ _ _ (.int o4339 :: _) _ _ _
        refine G_ws (ws' := [(q3791, .inr (14, [.ref q3792, .int p3794, .int p3795, .int p3796, .int g4335])), (q3792, .inr (15, [.ref q3793, .int p3798])), (q3793, .inl (I .byte, 8192, .inl f3799))]) (cs' := 0) (sl' := 0) rfl rfl rfl ?_
        refine G_if_eq 56 d_cX9_takeWord_48 (by decide +kernel) (fun hc4340 => ?_) (fun hc4340 => ?_)
        · have r4341 : o4339.toInt = 0 := gj_eq hc4340 (show Int32.toInt 0 = 0 by decide)
          have bo4339' : gB o4339 0 0 := ⟨by omega, by omega⟩
          refine G_aload_n 1 d_cX9_takeWord_56 rfl ?_
          refine G_ldcK (a := D.2 1000 1) d_cX9_takeWord_57 (fun _ _ _ h => gx_vk 1 rfl rfl h) ?_
          have hl1_4341 : (sb_1.length : Int) = 4 := rfl
          refine G_callV (As := [.ref (D.2 1000 1)]) (wr := []) (gV_ok D I) (ct_3818_Signs_isWord l hl0 D I q3791 q3792 q3793 (D.2 1000 1) (D.2 1001 1) sb_1 p3794 p3795 p3796 g4335 p3798 f3799 (gx_sc 1 rfl rfl) (by omega) bp3798 bf3799 (by omega)) d_cX9_takeWord_59 ⟨w_3_53, w_1_4, w_3_56, by decide, rfl, (Nat.le_of_ble_eq_true rfl), (Nat.le_of_ble_eq_true rfl)⟩ w_3_55 w_p_5 0 rfl rfl [0, 1, 2] [] rfl rfl rfl rfl (by decide) (Nat.le_of_ble_eq_true rfl) (Nat.le_of_ble_eq_true rfl) (Nat.le_of_ble_eq_true rfl) (fun r w hp => ?_) (fun _ _ _ z => z.elim)
          obtain ⟨o4343, rfl, rfl, bo4343⟩ := hp
          change G _ _ _ _ _ _ _ (.int o4343 :: _) _ _ _
          refine G_ws (ws' := [(q3791, .inr (14, [.ref q3792, .int p3794, .int p3795, .int p3796, .int g4335])), (q3792, .inr (15, [.ref q3793, .int p3798])), (q3793, .inl (I .byte, 8192, .inl f3799))]) (cs' := 0) (sl' := 0) rfl rfl rfl ?_
          refine G_if_eq 70 d_cX9_takeWord_62 (by decide +kernel) (fun hc4344 => ?_) (fun hc4344 => ?_)
          · have r4345 : o4343.toInt = 0 := gj_eq hc4344 (show Int32.toInt 0 = 0 by decide)
            have bo4343' : gB o4343 0 0 := ⟨by omega, by omega⟩
            refine G_aload_n 1 d_cX9_takeWord_70 rfl ?_
            refine G_ldcK (a := D.2 1000 2) d_cX9_takeWord_71 (fun _ _ _ h => gx_vk 2 rfl rfl h) ?_
            have hl2_4345 : (sb_2.length : Int) = 2 := rfl
            refine G_callV (As := [.ref (D.2 1000 2)]) (wr := []) (gV_ok D I) (ct_3818_Signs_isWord l hl0 D I q3791 q3792 q3793 (D.2 1000 2) (D.2 1001 2) sb_2 p3794 p3795 p3796 g4335 p3798 f3799 (gx_sc 2 rfl rfl) (by omega) bp3798 bf3799 (by omega)) d_cX9_takeWord_73 ⟨w_3_53, w_1_4, w_3_56, by decide, rfl, (Nat.le_of_ble_eq_true rfl), (Nat.le_of_ble_eq_true rfl)⟩ w_3_55 w_p_5 0 rfl rfl [0, 1, 2] [] rfl rfl rfl rfl (by decide) (Nat.le_of_ble_eq_true rfl) (Nat.le_of_ble_eq_true rfl) (Nat.le_of_ble_eq_true rfl) (fun r w hp => ?_) (fun _ _ _ z => z.elim)
            obtain ⟨o4347, rfl, rfl, bo4347⟩ := hp
            change G _ _ _ _ _ _ _ (.int o4347 :: _) _ _ _
            refine G_ws (ws' := [(q3791, .inr (14, [.ref q3792, .int p3794, .int p3795, .int p3796, .int g4335])), (q3792, .inr (15, [.ref q3793, .int p3798])), (q3793, .inl (I .byte, 8192, .inl f3799))]) (cs' := 0) (sl' := 0) rfl rfl rfl ?_
            refine G_if_eq 84 d_cX9_takeWord_76 (by decide +kernel) (fun hc4348 => ?_) (fun hc4348 => ?_)
            · have r4349 : o4347.toInt = 0 := gj_eq hc4348 (show Int32.toInt 0 = 0 by decide)
              have bo4347' : gB o4347 0 0 := ⟨by omega, by omega⟩
              refine G_aload_n 1 d_cX9_takeWord_84 rfl ?_
              refine G_ldcK (a := D.2 1000 3) d_cX9_takeWord_85 (fun _ _ _ h => gx_vk 3 rfl rfl h) ?_
              have hl3_4349 : (sb_3.length : Int) = 4 := rfl
              refine G_callV (As := [.ref (D.2 1000 3)]) (wr := []) (gV_ok D I) (ct_3818_Signs_isWord l hl0 D I q3791 q3792 q3793 (D.2 1000 3) (D.2 1001 3) sb_3 p3794 p3795 p3796 g4335 p3798 f3799 (gx_sc 3 rfl rfl) (by omega) bp3798 bf3799 (by omega)) d_cX9_takeWord_87 ⟨w_3_53, w_1_4, w_3_56, by decide, rfl, (Nat.le_of_ble_eq_true rfl), (Nat.le_of_ble_eq_true rfl)⟩ w_3_55 w_p_5 0 rfl rfl [0, 1, 2] [] rfl rfl rfl rfl (by decide) (Nat.le_of_ble_eq_true rfl) (Nat.le_of_ble_eq_true rfl) (Nat.le_of_ble_eq_true rfl) (fun r w hp => ?_) (fun _ _ _ z => z.elim)
              obtain ⟨o4351, rfl, rfl, bo4351⟩ := hp
              change G _ _ _ _ _ _ _ (.int o4351 :: _) _ _ _
              refine G_ws (ws' := [(q3791, .inr (14, [.ref q3792, .int p3794, .int p3795, .int p3796, .int g4335])), (q3792, .inr (15, [.ref q3793, .int p3798])), (q3793, .inl (I .byte, 8192, .inl f3799))]) (cs' := 0) (sl' := 0) rfl rfl rfl ?_
              refine G_if_eq 98 d_cX9_takeWord_90 (by decide +kernel) (fun hc4352 => ?_) (fun hc4352 => ?_)
              · have r4353 : o4351.toInt = 0 := gj_eq hc4352 (show Int32.toInt 0 = 0 by decide)
                have bo4351' : gB o4351 0 0 := ⟨by omega, by omega⟩
                refine G_aload_n 1 d_cX9_takeWord_98 rfl ?_
                refine G_ldcK (a := D.2 1000 4) d_cX9_takeWord_99 (fun _ _ _ h => gx_vk 4 rfl rfl h) ?_
                have hl4_4353 : (sb_4.length : Int) = 3 := rfl
                refine G_callV (As := [.ref (D.2 1000 4)]) (wr := []) (gV_ok D I) (ct_3818_Signs_isWord l hl0 D I q3791 q3792 q3793 (D.2 1000 4) (D.2 1001 4) sb_4 p3794 p3795 p3796 g4335 p3798 f3799 (gx_sc 4 rfl rfl) (by omega) bp3798 bf3799 (by omega)) d_cX9_takeWord_101 ⟨w_3_53, w_1_4, w_3_56, by decide, rfl, (Nat.le_of_ble_eq_true rfl), (Nat.le_of_ble_eq_true rfl)⟩ w_3_55 w_p_5 0 rfl rfl [0, 1, 2] [] rfl rfl rfl rfl (by decide) (Nat.le_of_ble_eq_true rfl) (Nat.le_of_ble_eq_true rfl) (Nat.le_of_ble_eq_true rfl) (fun r w hp => ?_) (fun _ _ _ z => z.elim)
                obtain ⟨o4355, rfl, rfl, bo4355⟩ := hp
                change G _ _ _ _ _ _ _ (.int o4355 :: _) _ _ _
                refine G_ws (ws' := [(q3791, .inr (14, [.ref q3792, .int p3794, .int p3795, .int p3796, .int g4335])), (q3792, .inr (15, [.ref q3793, .int p3798])), (q3793, .inl (I .byte, 8192, .inl f3799))]) (cs' := 0) (sl' := 0) rfl rfl rfl ?_
                refine G_if_eq 112 d_cX9_takeWord_104 (by decide +kernel) (fun hc4356 => ?_) (fun hc4356 => ?_)
                · have r4357 : o4355.toInt = 0 := gj_eq hc4356 (show Int32.toInt 0 = 0 by decide)
                  have bo4355' : gB o4355 0 0 := ⟨by omega, by omega⟩
                  refine G_iconst 0 d_cX9_takeWord_112 (by decide +kernel) ?_
                  refine G_putf (ws' := [(q3791, .inr (14, [.ref q3792, .int 0, .int p3795, .int p3796, .int g4335])), (q3792, .inr (15, [.ref q3793, .int p3798])), (q3793, .inl (I .byte, 8192, .inl f3799))]) 0 1 d_cX9_takeWord_113 rfl (gk_X9 D I) (Nat.le_of_ble_eq_true rfl) w_1_80 rfl rfl rfl (Nat.le_of_ble_eq_true rfl) rfl ?_
                  exact G_vret d_cX9_takeWord_116 rfl (Nat.le_of_ble_eq_true rfl) (Nat.le_of_ble_eq_true rfl) ⟨0, g4335, rfl, rfl, (gB_w (gBl (show Int32.toInt 0 = 0 by decide)) (by decide) (by decide)), (gB_w bg4335' (by decide) (by decide)), (by have qa0 : Int32.toInt 0 = 0 := (by decide); omega)⟩
                · have r4358 : o4355.toInt ≠ 0 := gj_neq hc4356 (show Int32.toInt 0 = 0 by decide)
                  have bo4355' : gB o4355 1 1 := ⟨by omega, by omega⟩
                  refine G_bipush 12 d_cX9_takeWord_107 (by decide +kernel) ?_
                  refine G_goto 113 d_cX9_takeWord_109 (by decide +kernel) ?_
                  refine G_putf (ws' := [(q3791, .inr (14, [.ref q3792, .int 12, .int p3795, .int p3796, .int g4335])), (q3792, .inr (15, [.ref q3793, .int p3798])), (q3793, .inl (I .byte, 8192, .inl f3799))]) 0 1 d_cX9_takeWord_113 rfl (gk_X9 D I) (Nat.le_of_ble_eq_true rfl) w_1_80 rfl rfl rfl (Nat.le_of_ble_eq_true rfl) rfl ?_
                  exact G_vret d_cX9_takeWord_116 rfl (Nat.le_of_ble_eq_true rfl) (Nat.le_of_ble_eq_true rfl) ⟨12, g4335, rfl, rfl, (gB_w (gBl (show Int32.toInt 12 = 12 by decide)) (by decide) (by decide)), (gB_w bg4335' (by decide) (by decide)), (by have qa0 : Int32.toInt 12 = 12 := (by decide); omega)⟩
              · have r4359 : o4351.toInt ≠ 0 := gj_neq hc4352 (show Int32.toInt 0 = 0 by decide)
                have bo4351' : gB o4351 1 1 := ⟨by omega, by omega⟩
                refine G_bipush 11 d_cX9_takeWord_93 (by decide +kernel) ?_
                refine G_goto 113 d_cX9_takeWord_95 (by decide +kernel) ?_
                refine G_putf (ws' := [(q3791, .inr (14, [.ref q3792, .int 11, .int p3795, .int p3796, .int g4335])), (q3792, .inr (15, [.ref q3793, .int p3798])), (q3793, .inl (I .byte, 8192, .inl f3799))]) 0 1 d_cX9_takeWord_113 rfl (gk_X9 D I) (Nat.le_of_ble_eq_true rfl) w_1_80 rfl rfl rfl (Nat.le_of_ble_eq_true rfl) rfl ?_
                exact G_vret d_cX9_takeWord_116 rfl (Nat.le_of_ble_eq_true rfl) (Nat.le_of_ble_eq_true rfl) ⟨11, g4335, rfl, rfl, (gB_w (gBl (show Int32.toInt 11 = 11 by decide)) (by decide) (by decide)), (gB_w bg4335' (by decide) (by decide)), (by have qa0 : Int32.toInt 11 = 11 := (by decide); omega)⟩
            · have r4360 : o4347.toInt ≠ 0 := gj_neq hc4348 (show Int32.toInt 0 = 0 by decide)
              have bo4347' : gB o4347 1 1 := ⟨by omega, by omega⟩
              refine G_bipush 10 d_cX9_takeWord_79 (by decide +kernel) ?_
              refine G_goto 113 d_cX9_takeWord_81 (by decide +kernel) ?_
              refine G_putf (ws' := [(q3791, .inr (14, [.ref q3792, .int 10, .int p3795, .int p3796, .int g4335])), (q3792, .inr (15, [.ref q3793, .int p3798])), (q3793, .inl (I .byte, 8192, .inl f3799))]) 0 1 d_cX9_takeWord_113 rfl (gk_X9 D I) (Nat.le_of_ble_eq_true rfl) w_1_80 rfl rfl rfl (Nat.le_of_ble_eq_true rfl) rfl ?_
              exact G_vret d_cX9_takeWord_116 rfl (Nat.le_of_ble_eq_true rfl) (Nat.le_of_ble_eq_true rfl) ⟨10, g4335, rfl, rfl, (gB_w (gBl (show Int32.toInt 10 = 10 by decide)) (by decide) (by decide)), (gB_w bg4335' (by decide) (by decide)), (by have qa0 : Int32.toInt 10 = 10 := (by decide); omega)⟩
          · have r4361 : o4343.toInt ≠ 0 := gj_neq hc4344 (show Int32.toInt 0 = 0 by decide)
            have bo4343' : gB o4343 1 1 := ⟨by omega, by omega⟩
            refine G_bipush 9 d_cX9_takeWord_65 (by decide +kernel) ?_
            refine G_goto 113 d_cX9_takeWord_67 (by decide +kernel) ?_
            refine G_putf (ws' := [(q3791, .inr (14, [.ref q3792, .int 9, .int p3795, .int p3796, .int g4335])), (q3792, .inr (15, [.ref q3793, .int p3798])), (q3793, .inl (I .byte, 8192, .inl f3799))]) 0 1 d_cX9_takeWord_113 rfl (gk_X9 D I) (Nat.le_of_ble_eq_true rfl) w_1_80 rfl rfl rfl (Nat.le_of_ble_eq_true rfl) rfl ?_
            exact G_vret d_cX9_takeWord_116 rfl (Nat.le_of_ble_eq_true rfl) (Nat.le_of_ble_eq_true rfl) ⟨9, g4335, rfl, rfl, (gB_w (gBl (show Int32.toInt 9 = 9 by decide)) (by decide) (by decide)), (gB_w bg4335' (by decide) (by decide)), (by have qa0 : Int32.toInt 9 = 9 := (by decide); omega)⟩
        · have r4362 : o4339.toInt ≠ 0 := gj_neq hc4340 (show Int32.toInt 0 = 0 by decide)
          have bo4339' : gB o4339 1 1 := ⟨by omega, by omega⟩
          refine G_bipush 8 d_cX9_takeWord_51 (by decide +kernel) ?_
          refine G_goto 113 d_cX9_takeWord_53 (by decide +kernel) ?_
          refine G_putf (ws' := [(q3791, .inr (14, [.ref q3792, .int 8, .int p3795, .int p3796, .int g4335])), (q3792, .inr (15, [.ref q3793, .int p3798])), (q3793, .inl (I .byte, 8192, .inl f3799))]) 0 1 d_cX9_takeWord_113 rfl (gk_X9 D I) (Nat.le_of_ble_eq_true rfl) w_1_80 rfl rfl rfl (Nat.le_of_ble_eq_true rfl) rfl ?_
          exact G_vret d_cX9_takeWord_116 rfl (Nat.le_of_ble_eq_true rfl) (Nat.le_of_ble_eq_true rfl) ⟨8, g4335, rfl, rfl, (gB_w (gBl (show Int32.toInt 8 = 8 by decide)) (by decide) (by decide)), (gB_w bg4335' (by decide) (by decide)), (by have qa0 : Int32.toInt 8 = 8 := (by decide); omega)⟩
      · have r4363 : g4335.toInt < p3798.toInt := gC_nle hc4336
        have bg4335' : gB g4335 (-2147483648) 8191 := ⟨by omega, by omega⟩
        refine G_aload_n 1 d_cX9_takeWord_16 rfl ?_
        refine G_getf 0 0 d_cX9_takeWord_17 rfl (gk_X9 D I) (Nat.le_of_ble_eq_true rfl) w_1_79 rfl ?_
        refine G_iload_n 0 d_cX9_takeWord_20 rfl ?_
        refine G_callV (As := [.int g4335]) (wr := [(q3791, .inr (14, [.ref q3792, .int p3794, .int p3795, .int p3796, .int p3797]))]) (gV_ok D I) (ct_30_Tape_byteAt l hl0 D I q3792 q3793 g4335 p3798 f3799 bp3798 bf3799) d_cX9_takeWord_21 ⟨w_3_20, w_1_2, w_3_23, by decide, rfl, (Nat.le_of_ble_eq_true rfl), (Nat.le_of_ble_eq_true rfl)⟩ w_3_21 w_3_22 1 rfl rfl [1, 2] [0] rfl rfl rfl rfl (by decide) (Nat.le_of_ble_eq_true rfl) (Nat.le_of_ble_eq_true rfl) (Nat.le_of_ble_eq_true rfl) (fun r w hp => ?_) (fun _ _ _ z => z.elim)
        rcases hp with ⟨rfl, rfl, r4364⟩ | ⟨rfl, rfl, r4365, r4366⟩ | ⟨z4367, rfl, rfl, r4368, r4369, r4370⟩
        · have bg4335'' : gB g4335 (-2147483648) (-1) := ⟨by omega, by omega⟩
          change G _ _ _ _ _ _ _ (.int (-1) :: _) _ _ _
          refine G_ws (ws' := [(q3791, .inr (14, [.ref q3792, .int p3794, .int p3795, .int p3796, .int p3797])), (q3792, .inr (15, [.ref q3793, .int p3798])), (q3793, .inl (I .byte, 8192, .inl f3799))]) (cs' := 0) (sl' := 0) rfl rfl rfl ?_
          refine G_callS (As := [.int (-1)]) (wr := [(q3791, .inr (14, [.ref q3792, .int p3794, .int p3795, .int p3796, .int p3797])), (q3792, .inr (15, [.ref q3793, .int p3798])), (q3793, .inl (I .byte, 8192, .inl f3799))]) (gV_ok D I) (ct_308_Signs_isLetter l hl0 D I (-1) ) d_cX9_takeWord_24 ⟨w_3_45, w_1_4, w_3_47, by decide, rfl, (Nat.le_of_ble_eq_true rfl), (Nat.le_of_ble_eq_true rfl)⟩ w_3_46 [] [0, 1, 2] rfl rfl rfl rfl (by decide) (Nat.le_of_ble_eq_true rfl) (Nat.le_of_ble_eq_true rfl) (Nat.le_of_ble_eq_true rfl) (fun r w hp => ?_) (fun _ _ _ z => z.elim)
          rcases hp with ⟨rfl, rfl, r4371⟩ | ⟨rfl, rfl, r4372, r4373⟩ | ⟨rfl, rfl, r4374, r4375⟩
          · rw [show Int32.toInt (-1) = (-1) from by decide] at r4371
            change G _ _ _ _ _ _ _ (.int 0 :: _) _ _ _
            refine G_ws (ws' := [(q3791, .inr (14, [.ref q3792, .int p3794, .int p3795, .int p3796, .int p3797])), (q3792, .inr (15, [.ref q3793, .int p3798])), (q3793, .inl (I .byte, 8192, .inl f3799))]) (cs' := 0) (sl' := 0) rfl rfl rfl ?_
            refine G_if_eq 36 d_cX9_takeWord_27 (by decide +kernel) (fun _ => ?_) (fun hc => absurd hc (by decide))
            refine G_aload_n 1 d_cX9_takeWord_36 rfl ?_
            refine G_iload_n 0 d_cX9_takeWord_37 rfl ?_
            refine G_putf (ws' := [(q3791, .inr (14, [.ref q3792, .int p3794, .int p3795, .int p3796, .int g4335])), (q3792, .inr (15, [.ref q3793, .int p3798])), (q3793, .inl (I .byte, 8192, .inl f3799))]) 0 4 d_cX9_takeWord_38 rfl (gk_X9 D I) (Nat.le_of_ble_eq_true rfl) w_1_83 rfl rfl rfl (Nat.le_of_ble_eq_true rfl) rfl ?_
            refine G_aload_n 1 d_cX9_takeWord_41 rfl ?_
            refine G_aload_n 1 d_cX9_takeWord_42 rfl ?_
            refine G_ldcK (a := D.2 1000 0) d_cX9_takeWord_43 (fun _ _ _ h => gx_vk 0 rfl rfl h) ?_
            have hl0_4375 : (sb_0.length : Int) = 2 := rfl
            refine G_callV (As := [.ref (D.2 1000 0)]) (wr := []) (gV_ok D I) (ct_3818_Signs_isWord l hl0 D I q3791 q3792 q3793 (D.2 1000 0) (D.2 1001 0) sb_0 p3794 p3795 p3796 g4335 p3798 f3799 (gx_sc 0 rfl rfl) (by omega) bp3798 bf3799 (by omega)) d_cX9_takeWord_45 ⟨w_3_53, w_1_4, w_3_56, by decide, rfl, (Nat.le_of_ble_eq_true rfl), (Nat.le_of_ble_eq_true rfl)⟩ w_3_55 w_p_5 0 rfl rfl [0, 1, 2] [] rfl rfl rfl rfl (by decide) (Nat.le_of_ble_eq_true rfl) (Nat.le_of_ble_eq_true rfl) (Nat.le_of_ble_eq_true rfl) (fun r w hp => ?_) (fun _ _ _ z => z.elim)
            obtain ⟨o4377, rfl, rfl, bo4377⟩ := hp
            change G _ _ _ _ _ _ _ (.int o4377 :: _) _ _ _
            refine G_ws (ws' := [(q3791, .inr (14, [.ref q3792, .int p3794, .int p3795, .int p3796, .int g4335])), (q3792, .inr (15, [.ref q3793, .int p3798])), (q3793, .inl (I .byte, 8192, .inl f3799))]) (cs' := 0) (sl' := 0) rfl rfl rfl ?_
            refine G_if_eq 56 d_cX9_takeWord_48 (by decide +kernel) (fun hc4378 => ?_) (fun hc4378 => ?_)
            · have r4379 : o4377.toInt = 0 := gj_eq hc4378 (show Int32.toInt 0 = 0 by decide)
              have bo4377' : gB o4377 0 0 := ⟨by omega, by omega⟩
              refine G_aload_n 1 d_cX9_takeWord_56 rfl ?_
              refine G_ldcK (a := D.2 1000 1) d_cX9_takeWord_57 (fun _ _ _ h => gx_vk 1 rfl rfl h) ?_
              have hl1_4379 : (sb_1.length : Int) = 4 := rfl
              refine G_callV (As := [.ref (D.2 1000 1)]) (wr := []) (gV_ok D I) (ct_3818_Signs_isWord l hl0 D I q3791 q3792 q3793 (D.2 1000 1) (D.2 1001 1) sb_1 p3794 p3795 p3796 g4335 p3798 f3799 (gx_sc 1 rfl rfl) (by omega) bp3798 bf3799 (by omega)) d_cX9_takeWord_59 ⟨w_3_53, w_1_4, w_3_56, by decide, rfl, (Nat.le_of_ble_eq_true rfl), (Nat.le_of_ble_eq_true rfl)⟩ w_3_55 w_p_5 0 rfl rfl [0, 1, 2] [] rfl rfl rfl rfl (by decide) (Nat.le_of_ble_eq_true rfl) (Nat.le_of_ble_eq_true rfl) (Nat.le_of_ble_eq_true rfl) (fun r w hp => ?_) (fun _ _ _ z => z.elim)
              obtain ⟨o4381, rfl, rfl, bo4381⟩ := hp
              change G _ _ _ _ _ _ _ (.int o4381 :: _) _ _ _
              refine G_ws (ws' := [(q3791, .inr (14, [.ref q3792, .int p3794, .int p3795, .int p3796, .int g4335])), (q3792, .inr (15, [.ref q3793, .int p3798])), (q3793, .inl (I .byte, 8192, .inl f3799))]) (cs' := 0) (sl' := 0) rfl rfl rfl ?_
              refine G_if_eq 70 d_cX9_takeWord_62 (by decide +kernel) (fun hc4382 => ?_) (fun hc4382 => ?_)
              · have r4383 : o4381.toInt = 0 := gj_eq hc4382 (show Int32.toInt 0 = 0 by decide)
                have bo4381' : gB o4381 0 0 := ⟨by omega, by omega⟩
                refine G_aload_n 1 d_cX9_takeWord_70 rfl ?_
                refine G_ldcK (a := D.2 1000 2) d_cX9_takeWord_71 (fun _ _ _ h => gx_vk 2 rfl rfl h) ?_
                have hl2_4383 : (sb_2.length : Int) = 2 := rfl
                refine G_callV (As := [.ref (D.2 1000 2)]) (wr := []) (gV_ok D I) (ct_3818_Signs_isWord l hl0 D I q3791 q3792 q3793 (D.2 1000 2) (D.2 1001 2) sb_2 p3794 p3795 p3796 g4335 p3798 f3799 (gx_sc 2 rfl rfl) (by omega) bp3798 bf3799 (by omega)) d_cX9_takeWord_73 ⟨w_3_53, w_1_4, w_3_56, by decide, rfl, (Nat.le_of_ble_eq_true rfl), (Nat.le_of_ble_eq_true rfl)⟩ w_3_55 w_p_5 0 rfl rfl [0, 1, 2] [] rfl rfl rfl rfl (by decide) (Nat.le_of_ble_eq_true rfl) (Nat.le_of_ble_eq_true rfl) (Nat.le_of_ble_eq_true rfl) (fun r w hp => ?_) (fun _ _ _ z => z.elim)
                obtain ⟨o4385, rfl, rfl, bo4385⟩ := hp
                change G _ _ _ _ _ _ _ (.int o4385 :: _) _ _ _
                refine G_ws (ws' := [(q3791, .inr (14, [.ref q3792, .int p3794, .int p3795, .int p3796, .int g4335])), (q3792, .inr (15, [.ref q3793, .int p3798])), (q3793, .inl (I .byte, 8192, .inl f3799))]) (cs' := 0) (sl' := 0) rfl rfl rfl ?_
                refine G_if_eq 84 d_cX9_takeWord_76 (by decide +kernel) (fun hc4386 => ?_) (fun hc4386 => ?_)
                · have r4387 : o4385.toInt = 0 := gj_eq hc4386 (show Int32.toInt 0 = 0 by decide)
                  have bo4385' : gB o4385 0 0 := ⟨by omega, by omega⟩
                  refine G_aload_n 1 d_cX9_takeWord_84 rfl ?_
                  refine G_ldcK (a := D.2 1000 3) d_cX9_takeWord_85 (fun _ _ _ h => gx_vk 3 rfl rfl h) ?_
                  have hl3_4387 : (sb_3.length : Int) = 4 := rfl
                  refine G_callV (As := [.ref (D.2 1000 3)]) (wr := []) (gV_ok D I) (ct_3818_Signs_isWord l hl0 D I q3791 q3792 q3793 (D.2 1000 3) (D.2 1001 3) sb_3 p3794 p3795 p3796 g4335 p3798 f3799 (gx_sc 3 rfl rfl) (by omega) bp3798 bf3799 (by omega)) d_cX9_takeWord_87 ⟨w_3_53, w_1_4, w_3_56, by decide, rfl, (Nat.le_of_ble_eq_true rfl), (Nat.le_of_ble_eq_true rfl)⟩ w_3_55 w_p_5 0 rfl rfl [0, 1, 2] [] rfl rfl rfl rfl (by decide) (Nat.le_of_ble_eq_true rfl) (Nat.le_of_ble_eq_true rfl) (Nat.le_of_ble_eq_true rfl) (fun r w hp => ?_) (fun _ _ _ z => z.elim)
                  obtain ⟨o4389, rfl, rfl, bo4389⟩ := hp
                  change G _ _ _ _ _ _ _ (.int o4389 :: _) _ _ _
                  refine G_ws (ws' := [(q3791, .inr (14, [.ref q3792, .int p3794, .int p3795, .int p3796, .int g4335])), (q3792, .inr (15, [.ref q3793, .int p3798])), (q3793, .inl (I .byte, 8192, .inl f3799))]) (cs' := 0) (sl' := 0) rfl rfl rfl ?_
                  refine G_if_eq 98 d_cX9_takeWord_90 (by decide +kernel) (fun hc4390 => ?_) (fun hc4390 => ?_)
                  · have r4391 : o4389.toInt = 0 := gj_eq hc4390 (show Int32.toInt 0 = 0 by decide)
                    have bo4389' : gB o4389 0 0 := ⟨by omega, by omega⟩
                    refine G_aload_n 1 d_cX9_takeWord_98 rfl ?_
                    refine G_ldcK (a := D.2 1000 4) d_cX9_takeWord_99 (fun _ _ _ h => gx_vk 4 rfl rfl h) ?_
                    have hl4_4391 : (sb_4.length : Int) = 3 := rfl
                    refine G_callV (As := [.ref (D.2 1000 4)]) (wr := []) (gV_ok D I) (ct_3818_Signs_isWord l hl0 D I q3791 q3792 q3793 (D.2 1000 4) (D.2 1001 4) sb_4 p3794 p3795 p3796 g4335 p3798 f3799 (gx_sc 4 rfl rfl) (by omega) bp3798 bf3799 (by omega)) d_cX9_takeWord_101 ⟨w_3_53, w_1_4, w_3_56, by decide, rfl, (Nat.le_of_ble_eq_true rfl), (Nat.le_of_ble_eq_true rfl)⟩ w_3_55 w_p_5 0 rfl rfl [0, 1, 2] [] rfl rfl rfl rfl (by decide) (Nat.le_of_ble_eq_true rfl) (Nat.le_of_ble_eq_true rfl) (Nat.le_of_ble_eq_true rfl) (fun r w hp => ?_) (fun _ _ _ z => z.elim)
                    obtain ⟨o4393, rfl, rfl, bo4393⟩ := hp
                    change G _ _ _ _ _ _ _ (.int o4393 :: _) _ _ _
                    refine G_ws (ws' := [(q3791, .inr (14, [.ref q3792, .int p3794, .int p3795, .int p3796, .int g4335])), (q3792, .inr (15, [.ref q3793, .int p3798])), (q3793, .inl (I .byte, 8192, .inl f3799))]) (cs' := 0) (sl' := 0) rfl rfl rfl ?_
                    refine G_if_eq 112 d_cX9_takeWord_104 (by decide +kernel) (fun hc4394 => ?_) (fun hc4394 => ?_)
                    · have r4395 : o4393.toInt = 0 := gj_eq hc4394 (show Int32.toInt 0 = 0 by decide)
                      have bo4393' : gB o4393 0 0 := ⟨by omega, by omega⟩
                      refine G_iconst 0 d_cX9_takeWord_112 (by decide +kernel) ?_
                      refine G_putf (ws' := [(q3791, .inr (14, [.ref q3792, .int 0, .int p3795, .int p3796, .int g4335])), (q3792, .inr (15, [.ref q3793, .int p3798])), (q3793, .inl (I .byte, 8192, .inl f3799))]) 0 1 d_cX9_takeWord_113 rfl (gk_X9 D I) (Nat.le_of_ble_eq_true rfl) w_1_80 rfl rfl rfl (Nat.le_of_ble_eq_true rfl) rfl ?_
                      exact G_vret d_cX9_takeWord_116 rfl (Nat.le_of_ble_eq_true rfl) (Nat.le_of_ble_eq_true rfl) ⟨0, g4335, rfl, rfl, (gB_w (gBl (show Int32.toInt 0 = 0 by decide)) (by decide) (by decide)), (gB_w bg4335'' (by decide) (by decide)), (by have qa0 : Int32.toInt 0 = 0 := (by decide); omega)⟩
                    · have r4396 : o4393.toInt ≠ 0 := gj_neq hc4394 (show Int32.toInt 0 = 0 by decide)
                      have bo4393' : gB o4393 1 1 := ⟨by omega, by omega⟩
                      refine G_bipush 12 d_cX9_takeWord_107 (by decide +kernel) ?_
                      refine G_goto 113 d_cX9_takeWord_109 (by decide +kernel) ?_
                      refine G_putf (ws' := [(q3791, .inr (14, [.ref q3792, .int 12, .int p3795, .int p3796, .int g4335])), (q3792, .inr (15, [.ref q3793, .int p3798])), (q3793, .inl (I .byte, 8192, .inl f3799))]) 0 1 d_cX9_takeWord_113 rfl (gk_X9 D I) (Nat.le_of_ble_eq_true rfl) w_1_80 rfl rfl rfl (Nat.le_of_ble_eq_true rfl) rfl ?_
                      exact G_vret d_cX9_takeWord_116 rfl (Nat.le_of_ble_eq_true rfl) (Nat.le_of_ble_eq_true rfl) ⟨12, g4335, rfl, rfl, (gB_w (gBl (show Int32.toInt 12 = 12 by decide)) (by decide) (by decide)), (gB_w bg4335'' (by decide) (by decide)), (by have qa0 : Int32.toInt 12 = 12 := (by decide); omega)⟩
                  · have r4397 : o4389.toInt ≠ 0 := gj_neq hc4390 (show Int32.toInt 0 = 0 by decide)
                    have bo4389' : gB o4389 1 1 := ⟨by omega, by omega⟩
                    refine G_bipush 11 d_cX9_takeWord_93 (by decide +kernel) ?_
                    refine G_goto 113 d_cX9_takeWord_95 (by decide +kernel) ?_
                    refine G_putf (ws' := [(q3791, .inr (14, [.ref q3792, .int 11, .int p3795, .int p3796, .int g4335])), (q3792, .inr (15, [.ref q3793, .int p3798])), (q3793, .inl (I .byte, 8192, .inl f3799))]) 0 1 d_cX9_takeWord_113 rfl (gk_X9 D I) (Nat.le_of_ble_eq_true rfl) w_1_80 rfl rfl rfl (Nat.le_of_ble_eq_true rfl) rfl ?_
                    exact G_vret d_cX9_takeWord_116 rfl (Nat.le_of_ble_eq_true rfl) (Nat.le_of_ble_eq_true rfl) ⟨11, g4335, rfl, rfl, (gB_w (gBl (show Int32.toInt 11 = 11 by decide)) (by decide) (by decide)), (gB_w bg4335'' (by decide) (by decide)), (by have qa0 : Int32.toInt 11 = 11 := (by decide); omega)⟩
                · have r4398 : o4385.toInt ≠ 0 := gj_neq hc4386 (show Int32.toInt 0 = 0 by decide)
                  have bo4385' : gB o4385 1 1 := ⟨by omega, by omega⟩
                  refine G_bipush 10 d_cX9_takeWord_79 (by decide +kernel) ?_
                  refine G_goto 113 d_cX9_takeWord_81 (by decide +kernel) ?_
                  refine G_putf (ws' := [(q3791, .inr (14, [.ref q3792, .int 10, .int p3795, .int p3796, .int g4335])), (q3792, .inr (15, [.ref q3793, .int p3798])), (q3793, .inl (I .byte, 8192, .inl f3799))]) 0 1 d_cX9_takeWord_113 rfl (gk_X9 D I) (Nat.le_of_ble_eq_true rfl) w_1_80 rfl rfl rfl (Nat.le_of_ble_eq_true rfl) rfl ?_
                  exact G_vret d_cX9_takeWord_116 rfl (Nat.le_of_ble_eq_true rfl) (Nat.le_of_ble_eq_true rfl) ⟨10, g4335, rfl, rfl, (gB_w (gBl (show Int32.toInt 10 = 10 by decide)) (by decide) (by decide)), (gB_w bg4335'' (by decide) (by decide)), (by have qa0 : Int32.toInt 10 = 10 := (by decide); omega)⟩
              · have r4399 : o4381.toInt ≠ 0 := gj_neq hc4382 (show Int32.toInt 0 = 0 by decide)
                have bo4381' : gB o4381 1 1 := ⟨by omega, by omega⟩
                refine G_bipush 9 d_cX9_takeWord_65 (by decide +kernel) ?_
                refine G_goto 113 d_cX9_takeWord_67 (by decide +kernel) ?_
                refine G_putf (ws' := [(q3791, .inr (14, [.ref q3792, .int 9, .int p3795, .int p3796, .int g4335])), (q3792, .inr (15, [.ref q3793, .int p3798])), (q3793, .inl (I .byte, 8192, .inl f3799))]) 0 1 d_cX9_takeWord_113 rfl (gk_X9 D I) (Nat.le_of_ble_eq_true rfl) w_1_80 rfl rfl rfl (Nat.le_of_ble_eq_true rfl) rfl ?_
                exact G_vret d_cX9_takeWord_116 rfl (Nat.le_of_ble_eq_true rfl) (Nat.le_of_ble_eq_true rfl) ⟨9, g4335, rfl, rfl, (gB_w (gBl (show Int32.toInt 9 = 9 by decide)) (by decide) (by decide)), (gB_w bg4335'' (by decide) (by decide)), (by have qa0 : Int32.toInt 9 = 9 := (by decide); omega)⟩
            · have r4400 : o4377.toInt ≠ 0 := gj_neq hc4378 (show Int32.toInt 0 = 0 by decide)
              have bo4377' : gB o4377 1 1 := ⟨by omega, by omega⟩
              refine G_bipush 8 d_cX9_takeWord_51 (by decide +kernel) ?_
              refine G_goto 113 d_cX9_takeWord_53 (by decide +kernel) ?_
              refine G_putf (ws' := [(q3791, .inr (14, [.ref q3792, .int 8, .int p3795, .int p3796, .int g4335])), (q3792, .inr (15, [.ref q3793, .int p3798])), (q3793, .inl (I .byte, 8192, .inl f3799))]) 0 1 d_cX9_takeWord_113 rfl (gk_X9 D I) (Nat.le_of_ble_eq_true rfl) w_1_80 rfl rfl rfl (Nat.le_of_ble_eq_true rfl) rfl ?_
              exact G_vret d_cX9_takeWord_116 rfl (Nat.le_of_ble_eq_true rfl) (Nat.le_of_ble_eq_true rfl) ⟨8, g4335, rfl, rfl, (gB_w (gBl (show Int32.toInt 8 = 8 by decide)) (by decide) (by decide)), (gB_w bg4335'' (by decide) (by decide)), (by have qa0 : Int32.toInt 8 = 8 := (by decide); omega)⟩
          · rw [show Int32.toInt (-1) = (-1) from by decide] at r4372
            exact absurd (show False by omega) not_false
          · rw [show Int32.toInt (-1) = (-1) from by decide] at r4374
            exact absurd (show False by omega) not_false
        · have bg4335'' : gB g4335 0 8191 := ⟨by omega, by omega⟩
          have bp3798' : gB p3798 0 8191 := ⟨by omega, by omega⟩
          change G _ _ _ _ _ _ _ (.int (-1) :: _) _ _ _
          refine G_ws (ws' := [(q3791, .inr (14, [.ref q3792, .int p3794, .int p3795, .int p3796, .int p3797])), (q3792, .inr (15, [.ref q3793, .int p3798])), (q3793, .inl (I .byte, 8192, .inl f3799))]) (cs' := 0) (sl' := 0) rfl rfl rfl ?_
          refine G_callS (As := [.int (-1)]) (wr := [(q3791, .inr (14, [.ref q3792, .int p3794, .int p3795, .int p3796, .int p3797])), (q3792, .inr (15, [.ref q3793, .int p3798])), (q3793, .inl (I .byte, 8192, .inl f3799))]) (gV_ok D I) (ct_308_Signs_isLetter l hl0 D I (-1) ) d_cX9_takeWord_24 ⟨w_3_45, w_1_4, w_3_47, by decide, rfl, (Nat.le_of_ble_eq_true rfl), (Nat.le_of_ble_eq_true rfl)⟩ w_3_46 [] [0, 1, 2] rfl rfl rfl rfl (by decide) (Nat.le_of_ble_eq_true rfl) (Nat.le_of_ble_eq_true rfl) (Nat.le_of_ble_eq_true rfl) (fun r w hp => ?_) (fun _ _ _ z => z.elim)
          rcases hp with ⟨rfl, rfl, r4401⟩ | ⟨rfl, rfl, r4402, r4403⟩ | ⟨rfl, rfl, r4404, r4405⟩
          · rw [show Int32.toInt (-1) = (-1) from by decide] at r4401
            change G _ _ _ _ _ _ _ (.int 0 :: _) _ _ _
            refine G_ws (ws' := [(q3791, .inr (14, [.ref q3792, .int p3794, .int p3795, .int p3796, .int p3797])), (q3792, .inr (15, [.ref q3793, .int p3798])), (q3793, .inl (I .byte, 8192, .inl f3799))]) (cs' := 0) (sl' := 0) rfl rfl rfl ?_
            refine G_if_eq 36 d_cX9_takeWord_27 (by decide +kernel) (fun _ => ?_) (fun hc => absurd hc (by decide))
            refine G_aload_n 1 d_cX9_takeWord_36 rfl ?_
            refine G_iload_n 0 d_cX9_takeWord_37 rfl ?_
            refine G_putf (ws' := [(q3791, .inr (14, [.ref q3792, .int p3794, .int p3795, .int p3796, .int g4335])), (q3792, .inr (15, [.ref q3793, .int p3798])), (q3793, .inl (I .byte, 8192, .inl f3799))]) 0 4 d_cX9_takeWord_38 rfl (gk_X9 D I) (Nat.le_of_ble_eq_true rfl) w_1_83 rfl rfl rfl (Nat.le_of_ble_eq_true rfl) rfl ?_
            refine G_aload_n 1 d_cX9_takeWord_41 rfl ?_
            refine G_aload_n 1 d_cX9_takeWord_42 rfl ?_
            refine G_ldcK (a := D.2 1000 0) d_cX9_takeWord_43 (fun _ _ _ h => gx_vk 0 rfl rfl h) ?_
            have hl0_4405 : (sb_0.length : Int) = 2 := rfl
            refine G_callV (As := [.ref (D.2 1000 0)]) (wr := []) (gV_ok D I) (ct_3818_Signs_isWord l hl0 D I q3791 q3792 q3793 (D.2 1000 0) (D.2 1001 0) sb_0 p3794 p3795 p3796 g4335 p3798 f3799 (gx_sc 0 rfl rfl) (by omega) (gB_w bp3798' (by decide) (by decide)) bf3799 (by omega)) d_cX9_takeWord_45 ⟨w_3_53, w_1_4, w_3_56, by decide, rfl, (Nat.le_of_ble_eq_true rfl), (Nat.le_of_ble_eq_true rfl)⟩ w_3_55 w_p_5 0 rfl rfl [0, 1, 2] [] rfl rfl rfl rfl (by decide) (Nat.le_of_ble_eq_true rfl) (Nat.le_of_ble_eq_true rfl) (Nat.le_of_ble_eq_true rfl) (fun r w hp => ?_) (fun _ _ _ z => z.elim)
            obtain ⟨o4407, rfl, rfl, bo4407⟩ := hp
            change G _ _ _ _ _ _ _ (.int o4407 :: _) _ _ _
            refine G_ws (ws' := [(q3791, .inr (14, [.ref q3792, .int p3794, .int p3795, .int p3796, .int g4335])), (q3792, .inr (15, [.ref q3793, .int p3798])), (q3793, .inl (I .byte, 8192, .inl f3799))]) (cs' := 0) (sl' := 0) rfl rfl rfl ?_
            refine G_if_eq 56 d_cX9_takeWord_48 (by decide +kernel) (fun hc4408 => ?_) (fun hc4408 => ?_)
            · have r4409 : o4407.toInt = 0 := gj_eq hc4408 (show Int32.toInt 0 = 0 by decide)
              have bo4407' : gB o4407 0 0 := ⟨by omega, by omega⟩
              refine G_aload_n 1 d_cX9_takeWord_56 rfl ?_
              refine G_ldcK (a := D.2 1000 1) d_cX9_takeWord_57 (fun _ _ _ h => gx_vk 1 rfl rfl h) ?_
              have hl1_4409 : (sb_1.length : Int) = 4 := rfl
              refine G_callV (As := [.ref (D.2 1000 1)]) (wr := []) (gV_ok D I) (ct_3818_Signs_isWord l hl0 D I q3791 q3792 q3793 (D.2 1000 1) (D.2 1001 1) sb_1 p3794 p3795 p3796 g4335 p3798 f3799 (gx_sc 1 rfl rfl) (by omega) (gB_w bp3798' (by decide) (by decide)) bf3799 (by omega)) d_cX9_takeWord_59 ⟨w_3_53, w_1_4, w_3_56, by decide, rfl, (Nat.le_of_ble_eq_true rfl), (Nat.le_of_ble_eq_true rfl)⟩ w_3_55 w_p_5 0 rfl rfl [0, 1, 2] [] rfl rfl rfl rfl (by decide) (Nat.le_of_ble_eq_true rfl) (Nat.le_of_ble_eq_true rfl) (Nat.le_of_ble_eq_true rfl) (fun r w hp => ?_) (fun _ _ _ z => z.elim)
              obtain ⟨o4411, rfl, rfl, bo4411⟩ := hp
              change G _ _ _ _ _ _ _ (.int o4411 :: _) _ _ _
              refine G_ws (ws' := [(q3791, .inr (14, [.ref q3792, .int p3794, .int p3795, .int p3796, .int g4335])), (q3792, .inr (15, [.ref q3793, .int p3798])), (q3793, .inl (I .byte, 8192, .inl f3799))]) (cs' := 0) (sl' := 0) rfl rfl rfl ?_
              refine G_if_eq 70 d_cX9_takeWord_62 (by decide +kernel) (fun hc4412 => ?_) (fun hc4412 => ?_)
              · have r4413 : o4411.toInt = 0 := gj_eq hc4412 (show Int32.toInt 0 = 0 by decide)
                have bo4411' : gB o4411 0 0 := ⟨by omega, by omega⟩
                refine G_aload_n 1 d_cX9_takeWord_70 rfl ?_
                refine G_ldcK (a := D.2 1000 2) d_cX9_takeWord_71 (fun _ _ _ h => gx_vk 2 rfl rfl h) ?_
                have hl2_4413 : (sb_2.length : Int) = 2 := rfl
                refine G_callV (As := [.ref (D.2 1000 2)]) (wr := []) (gV_ok D I) (ct_3818_Signs_isWord l hl0 D I q3791 q3792 q3793 (D.2 1000 2) (D.2 1001 2) sb_2 p3794 p3795 p3796 g4335 p3798 f3799 (gx_sc 2 rfl rfl) (by omega) (gB_w bp3798' (by decide) (by decide)) bf3799 (by omega)) d_cX9_takeWord_73 ⟨w_3_53, w_1_4, w_3_56, by decide, rfl, (Nat.le_of_ble_eq_true rfl), (Nat.le_of_ble_eq_true rfl)⟩ w_3_55 w_p_5 0 rfl rfl [0, 1, 2] [] rfl rfl rfl rfl (by decide) (Nat.le_of_ble_eq_true rfl) (Nat.le_of_ble_eq_true rfl) (Nat.le_of_ble_eq_true rfl) (fun r w hp => ?_) (fun _ _ _ z => z.elim)
                obtain ⟨o4415, rfl, rfl, bo4415⟩ := hp
                change G _ _ _ _ _ _ _ (.int o4415 :: _) _ _ _
                refine G_ws (ws' := [(q3791, .inr (14, [.ref q3792, .int p3794, .int p3795, .int p3796, .int g4335])), (q3792, .inr (15, [.ref q3793, .int p3798])), (q3793, .inl (I .byte, 8192, .inl f3799))]) (cs' := 0) (sl' := 0) rfl rfl rfl ?_
                refine G_if_eq 84 d_cX9_takeWord_76 (by decide +kernel) (fun hc4416 => ?_) (fun hc4416 => ?_)
                · have r4417 : o4415.toInt = 0 := gj_eq hc4416 (show Int32.toInt 0 = 0 by decide)
                  have bo4415' : gB o4415 0 0 := ⟨by omega, by omega⟩
                  refine G_aload_n 1 d_cX9_takeWord_84 rfl ?_
                  refine G_ldcK (a := D.2 1000 3) d_cX9_takeWord_85 (fun _ _ _ h => gx_vk 3 rfl rfl h) ?_
                  have hl3_4417 : (sb_3.length : Int) = 4 := rfl
                  refine G_callV (As := [.ref (D.2 1000 3)]) (wr := []) (gV_ok D I) (ct_3818_Signs_isWord l hl0 D I q3791 q3792 q3793 (D.2 1000 3) (D.2 1001 3) sb_3 p3794 p3795 p3796 g4335 p3798 f3799 (gx_sc 3 rfl rfl) (by omega) (gB_w bp3798' (by decide) (by decide)) bf3799 (by omega)) d_cX9_takeWord_87 ⟨w_3_53, w_1_4, w_3_56, by decide, rfl, (Nat.le_of_ble_eq_true rfl), (Nat.le_of_ble_eq_true rfl)⟩ w_3_55 w_p_5 0 rfl rfl [0, 1, 2] [] rfl rfl rfl rfl (by decide) (Nat.le_of_ble_eq_true rfl) (Nat.le_of_ble_eq_true rfl) (Nat.le_of_ble_eq_true rfl) (fun r w hp => ?_) (fun _ _ _ z => z.elim)
                  obtain ⟨o4419, rfl, rfl, bo4419⟩ := hp
                  change G _ _ _ _ _ _ _ (.int o4419 :: _) _ _ _
                  refine G_ws (ws' := [(q3791, .inr (14, [.ref q3792, .int p3794, .int p3795, .int p3796, .int g4335])), (q3792, .inr (15, [.ref q3793, .int p3798])), (q3793, .inl (I .byte, 8192, .inl f3799))]) (cs' := 0) (sl' := 0) rfl rfl rfl ?_
                  refine G_if_eq 98 d_cX9_takeWord_90 (by decide +kernel) (fun hc4420 => ?_) (fun hc4420 => ?_)
                  · have r4421 : o4419.toInt = 0 := gj_eq hc4420 (show Int32.toInt 0 = 0 by decide)
                    have bo4419' : gB o4419 0 0 := ⟨by omega, by omega⟩
                    refine G_aload_n 1 d_cX9_takeWord_98 rfl ?_
                    refine G_ldcK (a := D.2 1000 4) d_cX9_takeWord_99 (fun _ _ _ h => gx_vk 4 rfl rfl h) ?_
                    have hl4_4421 : (sb_4.length : Int) = 3 := rfl
                    refine G_callV (As := [.ref (D.2 1000 4)]) (wr := []) (gV_ok D I) (ct_3818_Signs_isWord l hl0 D I q3791 q3792 q3793 (D.2 1000 4) (D.2 1001 4) sb_4 p3794 p3795 p3796 g4335 p3798 f3799 (gx_sc 4 rfl rfl) (by omega) (gB_w bp3798' (by decide) (by decide)) bf3799 (by omega)) d_cX9_takeWord_101 ⟨w_3_53, w_1_4, w_3_56, by decide, rfl, (Nat.le_of_ble_eq_true rfl), (Nat.le_of_ble_eq_true rfl)⟩ w_3_55 w_p_5 0 rfl rfl [0, 1, 2] [] rfl rfl rfl rfl (by decide) (Nat.le_of_ble_eq_true rfl) (Nat.le_of_ble_eq_true rfl) (Nat.le_of_ble_eq_true rfl) (fun r w hp => ?_) (fun _ _ _ z => z.elim)
                    obtain ⟨o4423, rfl, rfl, bo4423⟩ := hp
                    change G _ _ _ _ _ _ _ (.int o4423 :: _) _ _ _
                    refine G_ws (ws' := [(q3791, .inr (14, [.ref q3792, .int p3794, .int p3795, .int p3796, .int g4335])), (q3792, .inr (15, [.ref q3793, .int p3798])), (q3793, .inl (I .byte, 8192, .inl f3799))]) (cs' := 0) (sl' := 0) rfl rfl rfl ?_
                    refine G_if_eq 112 d_cX9_takeWord_104 (by decide +kernel) (fun hc4424 => ?_) (fun hc4424 => ?_)
                    · have r4425 : o4423.toInt = 0 := gj_eq hc4424 (show Int32.toInt 0 = 0 by decide)
                      have bo4423' : gB o4423 0 0 := ⟨by omega, by omega⟩
                      refine G_iconst 0 d_cX9_takeWord_112 (by decide +kernel) ?_
                      refine G_putf (ws' := [(q3791, .inr (14, [.ref q3792, .int 0, .int p3795, .int p3796, .int g4335])), (q3792, .inr (15, [.ref q3793, .int p3798])), (q3793, .inl (I .byte, 8192, .inl f3799))]) 0 1 d_cX9_takeWord_113 rfl (gk_X9 D I) (Nat.le_of_ble_eq_true rfl) w_1_80 rfl rfl rfl (Nat.le_of_ble_eq_true rfl) rfl ?_
                      exact G_vret d_cX9_takeWord_116 rfl (Nat.le_of_ble_eq_true rfl) (Nat.le_of_ble_eq_true rfl) ⟨0, g4335, rfl, rfl, (gB_w (gBl (show Int32.toInt 0 = 0 by decide)) (by decide) (by decide)), (gB_w bg4335'' (by decide) (by decide)), (by have qa0 : Int32.toInt 0 = 0 := (by decide); omega)⟩
                    · have r4426 : o4423.toInt ≠ 0 := gj_neq hc4424 (show Int32.toInt 0 = 0 by decide)
                      have bo4423' : gB o4423 1 1 := ⟨by omega, by omega⟩
                      refine G_bipush 12 d_cX9_takeWord_107 (by decide +kernel) ?_
                      refine G_goto 113 d_cX9_takeWord_109 (by decide +kernel) ?_
                      refine G_putf (ws' := [(q3791, .inr (14, [.ref q3792, .int 12, .int p3795, .int p3796, .int g4335])), (q3792, .inr (15, [.ref q3793, .int p3798])), (q3793, .inl (I .byte, 8192, .inl f3799))]) 0 1 d_cX9_takeWord_113 rfl (gk_X9 D I) (Nat.le_of_ble_eq_true rfl) w_1_80 rfl rfl rfl (Nat.le_of_ble_eq_true rfl) rfl ?_
                      exact G_vret d_cX9_takeWord_116 rfl (Nat.le_of_ble_eq_true rfl) (Nat.le_of_ble_eq_true rfl) ⟨12, g4335, rfl, rfl, (gB_w (gBl (show Int32.toInt 12 = 12 by decide)) (by decide) (by decide)), (gB_w bg4335'' (by decide) (by decide)), (by have qa0 : Int32.toInt 12 = 12 := (by decide); omega)⟩
                  · have r4427 : o4419.toInt ≠ 0 := gj_neq hc4420 (show Int32.toInt 0 = 0 by decide)
                    have bo4419' : gB o4419 1 1 := ⟨by omega, by omega⟩
                    refine G_bipush 11 d_cX9_takeWord_93 (by decide +kernel) ?_
                    refine G_goto 113 d_cX9_takeWord_95 (by decide +kernel) ?_
                    refine G_putf (ws' := [(q3791, .inr (14, [.ref q3792, .int 11, .int p3795, .int p3796, .int g4335])), (q3792, .inr (15, [.ref q3793, .int p3798])), (q3793, .inl (I .byte, 8192, .inl f3799))]) 0 1 d_cX9_takeWord_113 rfl (gk_X9 D I) (Nat.le_of_ble_eq_true rfl) w_1_80 rfl rfl rfl (Nat.le_of_ble_eq_true rfl) rfl ?_
                    exact G_vret d_cX9_takeWord_116 rfl (Nat.le_of_ble_eq_true rfl) (Nat.le_of_ble_eq_true rfl) ⟨11, g4335, rfl, rfl, (gB_w (gBl (show Int32.toInt 11 = 11 by decide)) (by decide) (by decide)), (gB_w bg4335'' (by decide) (by decide)), (by have qa0 : Int32.toInt 11 = 11 := (by decide); omega)⟩
                · have r4428 : o4415.toInt ≠ 0 := gj_neq hc4416 (show Int32.toInt 0 = 0 by decide)
                  have bo4415' : gB o4415 1 1 := ⟨by omega, by omega⟩
                  refine G_bipush 10 d_cX9_takeWord_79 (by decide +kernel) ?_
                  refine G_goto 113 d_cX9_takeWord_81 (by decide +kernel) ?_
                  refine G_putf (ws' := [(q3791, .inr (14, [.ref q3792, .int 10, .int p3795, .int p3796, .int g4335])), (q3792, .inr (15, [.ref q3793, .int p3798])), (q3793, .inl (I .byte, 8192, .inl f3799))]) 0 1 d_cX9_takeWord_113 rfl (gk_X9 D I) (Nat.le_of_ble_eq_true rfl) w_1_80 rfl rfl rfl (Nat.le_of_ble_eq_true rfl) rfl ?_
                  exact G_vret d_cX9_takeWord_116 rfl (Nat.le_of_ble_eq_true rfl) (Nat.le_of_ble_eq_true rfl) ⟨10, g4335, rfl, rfl, (gB_w (gBl (show Int32.toInt 10 = 10 by decide)) (by decide) (by decide)), (gB_w bg4335'' (by decide) (by decide)), (by have qa0 : Int32.toInt 10 = 10 := (by decide); omega)⟩
              · have r4429 : o4411.toInt ≠ 0 := gj_neq hc4412 (show Int32.toInt 0 = 0 by decide)
                have bo4411' : gB o4411 1 1 := ⟨by omega, by omega⟩
                refine G_bipush 9 d_cX9_takeWord_65 (by decide +kernel) ?_
                refine G_goto 113 d_cX9_takeWord_67 (by decide +kernel) ?_
                refine G_putf (ws' := [(q3791, .inr (14, [.ref q3792, .int 9, .int p3795, .int p3796, .int g4335])), (q3792, .inr (15, [.ref q3793, .int p3798])), (q3793, .inl (I .byte, 8192, .inl f3799))]) 0 1 d_cX9_takeWord_113 rfl (gk_X9 D I) (Nat.le_of_ble_eq_true rfl) w_1_80 rfl rfl rfl (Nat.le_of_ble_eq_true rfl) rfl ?_
                exact G_vret d_cX9_takeWord_116 rfl (Nat.le_of_ble_eq_true rfl) (Nat.le_of_ble_eq_true rfl) ⟨9, g4335, rfl, rfl, (gB_w (gBl (show Int32.toInt 9 = 9 by decide)) (by decide) (by decide)), (gB_w bg4335'' (by decide) (by decide)), (by have qa0 : Int32.toInt 9 = 9 := (by decide); omega)⟩
            · have r4430 : o4407.toInt ≠ 0 := gj_neq hc4408 (show Int32.toInt 0 = 0 by decide)
              have bo4407' : gB o4407 1 1 := ⟨by omega, by omega⟩
              refine G_bipush 8 d_cX9_takeWord_51 (by decide +kernel) ?_
              refine G_goto 113 d_cX9_takeWord_53 (by decide +kernel) ?_
              refine G_putf (ws' := [(q3791, .inr (14, [.ref q3792, .int 8, .int p3795, .int p3796, .int g4335])), (q3792, .inr (15, [.ref q3793, .int p3798])), (q3793, .inl (I .byte, 8192, .inl f3799))]) 0 1 d_cX9_takeWord_113 rfl (gk_X9 D I) (Nat.le_of_ble_eq_true rfl) w_1_80 rfl rfl rfl (Nat.le_of_ble_eq_true rfl) rfl ?_
              exact G_vret d_cX9_takeWord_116 rfl (Nat.le_of_ble_eq_true rfl) (Nat.le_of_ble_eq_true rfl) ⟨8, g4335, rfl, rfl, (gB_w (gBl (show Int32.toInt 8 = 8 by decide)) (by decide) (by decide)), (gB_w bg4335'' (by decide) (by decide)), (by have qa0 : Int32.toInt 8 = 8 := (by decide); omega)⟩
          · rw [show Int32.toInt (-1) = (-1) from by decide] at r4402
            exact absurd (show False by omega) not_false
          · rw [show Int32.toInt (-1) = (-1) from by decide] at r4404
            exact absurd (show False by omega) not_false
        · have bg4335'' : gB g4335 0 8191 := ⟨by omega, by omega⟩
          have bp3798' : gB p3798 1 8192 := ⟨by omega, by omega⟩
          change G _ _ _ _ _ _ _ (.int z4367 :: _) _ _ _
          refine G_ws (ws' := [(q3791, .inr (14, [.ref q3792, .int p3794, .int p3795, .int p3796, .int p3797])), (q3792, .inr (15, [.ref q3793, .int p3798])), (q3793, .inl (I .byte, 8192, .inl f3799))]) (cs' := 0) (sl' := 0) rfl rfl rfl ?_
          refine G_callS (As := [.int z4367]) (wr := [(q3791, .inr (14, [.ref q3792, .int p3794, .int p3795, .int p3796, .int p3797])), (q3792, .inr (15, [.ref q3793, .int p3798])), (q3793, .inl (I .byte, 8192, .inl f3799))]) (gV_ok D I) (ct_308_Signs_isLetter l hl0 D I z4367 ) d_cX9_takeWord_24 ⟨w_3_45, w_1_4, w_3_47, by decide, rfl, (Nat.le_of_ble_eq_true rfl), (Nat.le_of_ble_eq_true rfl)⟩ w_3_46 [] [0, 1, 2] rfl rfl rfl rfl (by decide) (Nat.le_of_ble_eq_true rfl) (Nat.le_of_ble_eq_true rfl) (Nat.le_of_ble_eq_true rfl) (fun r w hp => ?_) (fun _ _ _ z => z.elim)
          rcases hp with ⟨rfl, rfl, r4431⟩ | ⟨rfl, rfl, r4432, r4433⟩ | ⟨rfl, rfl, r4434, r4435⟩
          · have r4370' : gB z4367 0 96 := ⟨by omega, by omega⟩
            change G _ _ _ _ _ _ _ (.int 0 :: _) _ _ _
            refine G_ws (ws' := [(q3791, .inr (14, [.ref q3792, .int p3794, .int p3795, .int p3796, .int p3797])), (q3792, .inr (15, [.ref q3793, .int p3798])), (q3793, .inl (I .byte, 8192, .inl f3799))]) (cs' := 0) (sl' := 0) rfl rfl rfl ?_
            refine G_if_eq 36 d_cX9_takeWord_27 (by decide +kernel) (fun _ => ?_) (fun hc => absurd hc (by decide))
            refine G_aload_n 1 d_cX9_takeWord_36 rfl ?_
            refine G_iload_n 0 d_cX9_takeWord_37 rfl ?_
            refine G_putf (ws' := [(q3791, .inr (14, [.ref q3792, .int p3794, .int p3795, .int p3796, .int g4335])), (q3792, .inr (15, [.ref q3793, .int p3798])), (q3793, .inl (I .byte, 8192, .inl f3799))]) 0 4 d_cX9_takeWord_38 rfl (gk_X9 D I) (Nat.le_of_ble_eq_true rfl) w_1_83 rfl rfl rfl (Nat.le_of_ble_eq_true rfl) rfl ?_
            refine G_aload_n 1 d_cX9_takeWord_41 rfl ?_
            refine G_aload_n 1 d_cX9_takeWord_42 rfl ?_
            refine G_ldcK (a := D.2 1000 0) d_cX9_takeWord_43 (fun _ _ _ h => gx_vk 0 rfl rfl h) ?_
            have hl0_4435 : (sb_0.length : Int) = 2 := rfl
            refine G_callV (As := [.ref (D.2 1000 0)]) (wr := []) (gV_ok D I) (ct_3818_Signs_isWord l hl0 D I q3791 q3792 q3793 (D.2 1000 0) (D.2 1001 0) sb_0 p3794 p3795 p3796 g4335 p3798 f3799 (gx_sc 0 rfl rfl) (by omega) (gB_w bp3798' (by decide) (by decide)) bf3799 (by omega)) d_cX9_takeWord_45 ⟨w_3_53, w_1_4, w_3_56, by decide, rfl, (Nat.le_of_ble_eq_true rfl), (Nat.le_of_ble_eq_true rfl)⟩ w_3_55 w_p_5 0 rfl rfl [0, 1, 2] [] rfl rfl rfl rfl (by decide) (Nat.le_of_ble_eq_true rfl) (Nat.le_of_ble_eq_true rfl) (Nat.le_of_ble_eq_true rfl) (fun r w hp => ?_) (fun _ _ _ z => z.elim)
            obtain ⟨o4437, rfl, rfl, bo4437⟩ := hp
            change G _ _ _ _ _ _ _ (.int o4437 :: _) _ _ _
            refine G_ws (ws' := [(q3791, .inr (14, [.ref q3792, .int p3794, .int p3795, .int p3796, .int g4335])), (q3792, .inr (15, [.ref q3793, .int p3798])), (q3793, .inl (I .byte, 8192, .inl f3799))]) (cs' := 0) (sl' := 0) rfl rfl rfl ?_
            refine G_if_eq 56 d_cX9_takeWord_48 (by decide +kernel) (fun hc4438 => ?_) (fun hc4438 => ?_)
            · have r4439 : o4437.toInt = 0 := gj_eq hc4438 (show Int32.toInt 0 = 0 by decide)
              have bo4437' : gB o4437 0 0 := ⟨by omega, by omega⟩
              refine G_aload_n 1 d_cX9_takeWord_56 rfl ?_
              refine G_ldcK (a := D.2 1000 1) d_cX9_takeWord_57 (fun _ _ _ h => gx_vk 1 rfl rfl h) ?_
              have hl1_4439 : (sb_1.length : Int) = 4 := rfl
              refine G_callV (As := [.ref (D.2 1000 1)]) (wr := []) (gV_ok D I) (ct_3818_Signs_isWord l hl0 D I q3791 q3792 q3793 (D.2 1000 1) (D.2 1001 1) sb_1 p3794 p3795 p3796 g4335 p3798 f3799 (gx_sc 1 rfl rfl) (by omega) (gB_w bp3798' (by decide) (by decide)) bf3799 (by omega)) d_cX9_takeWord_59 ⟨w_3_53, w_1_4, w_3_56, by decide, rfl, (Nat.le_of_ble_eq_true rfl), (Nat.le_of_ble_eq_true rfl)⟩ w_3_55 w_p_5 0 rfl rfl [0, 1, 2] [] rfl rfl rfl rfl (by decide) (Nat.le_of_ble_eq_true rfl) (Nat.le_of_ble_eq_true rfl) (Nat.le_of_ble_eq_true rfl) (fun r w hp => ?_) (fun _ _ _ z => z.elim)
              obtain ⟨o4441, rfl, rfl, bo4441⟩ := hp
              change G _ _ _ _ _ _ _ (.int o4441 :: _) _ _ _
              refine G_ws (ws' := [(q3791, .inr (14, [.ref q3792, .int p3794, .int p3795, .int p3796, .int g4335])), (q3792, .inr (15, [.ref q3793, .int p3798])), (q3793, .inl (I .byte, 8192, .inl f3799))]) (cs' := 0) (sl' := 0) rfl rfl rfl ?_
              refine G_if_eq 70 d_cX9_takeWord_62 (by decide +kernel) (fun hc4442 => ?_) (fun hc4442 => ?_)
              · have r4443 : o4441.toInt = 0 := gj_eq hc4442 (show Int32.toInt 0 = 0 by decide)
                have bo4441' : gB o4441 0 0 := ⟨by omega, by omega⟩
                refine G_aload_n 1 d_cX9_takeWord_70 rfl ?_
                refine G_ldcK (a := D.2 1000 2) d_cX9_takeWord_71 (fun _ _ _ h => gx_vk 2 rfl rfl h) ?_
                have hl2_4443 : (sb_2.length : Int) = 2 := rfl
                refine G_callV (As := [.ref (D.2 1000 2)]) (wr := []) (gV_ok D I) (ct_3818_Signs_isWord l hl0 D I q3791 q3792 q3793 (D.2 1000 2) (D.2 1001 2) sb_2 p3794 p3795 p3796 g4335 p3798 f3799 (gx_sc 2 rfl rfl) (by omega) (gB_w bp3798' (by decide) (by decide)) bf3799 (by omega)) d_cX9_takeWord_73 ⟨w_3_53, w_1_4, w_3_56, by decide, rfl, (Nat.le_of_ble_eq_true rfl), (Nat.le_of_ble_eq_true rfl)⟩ w_3_55 w_p_5 0 rfl rfl [0, 1, 2] [] rfl rfl rfl rfl (by decide) (Nat.le_of_ble_eq_true rfl) (Nat.le_of_ble_eq_true rfl) (Nat.le_of_ble_eq_true rfl) (fun r w hp => ?_) (fun _ _ _ z => z.elim)
                obtain ⟨o4445, rfl, rfl, bo4445⟩ := hp
                change G _ _ _ _ _ _ _ (.int o4445 :: _) _ _ _
                refine G_ws (ws' := [(q3791, .inr (14, [.ref q3792, .int p3794, .int p3795, .int p3796, .int g4335])), (q3792, .inr (15, [.ref q3793, .int p3798])), (q3793, .inl (I .byte, 8192, .inl f3799))]) (cs' := 0) (sl' := 0) rfl rfl rfl ?_
                refine G_if_eq 84 d_cX9_takeWord_76 (by decide +kernel) (fun hc4446 => ?_) (fun hc4446 => ?_)
                · have r4447 : o4445.toInt = 0 := gj_eq hc4446 (show Int32.toInt 0 = 0 by decide)
                  have bo4445' : gB o4445 0 0 := ⟨by omega, by omega⟩
                  refine G_aload_n 1 d_cX9_takeWord_84 rfl ?_
                  refine G_ldcK (a := D.2 1000 3) d_cX9_takeWord_85 (fun _ _ _ h => gx_vk 3 rfl rfl h) ?_
                  have hl3_4447 : (sb_3.length : Int) = 4 := rfl
                  refine G_callV (As := [.ref (D.2 1000 3)]) (wr := []) (gV_ok D I) (ct_3818_Signs_isWord l hl0 D I q3791 q3792 q3793 (D.2 1000 3) (D.2 1001 3) sb_3 p3794 p3795 p3796 g4335 p3798 f3799 (gx_sc 3 rfl rfl) (by omega) (gB_w bp3798' (by decide) (by decide)) bf3799 (by omega)) d_cX9_takeWord_87 ⟨w_3_53, w_1_4, w_3_56, by decide, rfl, (Nat.le_of_ble_eq_true rfl), (Nat.le_of_ble_eq_true rfl)⟩ w_3_55 w_p_5 0 rfl rfl [0, 1, 2] [] rfl rfl rfl rfl (by decide) (Nat.le_of_ble_eq_true rfl) (Nat.le_of_ble_eq_true rfl) (Nat.le_of_ble_eq_true rfl) (fun r w hp => ?_) (fun _ _ _ z => z.elim)
                  obtain ⟨o4449, rfl, rfl, bo4449⟩ := hp
                  change G _ _ _ _ _ _ _ (.int o4449 :: _) _ _ _
                  refine G_ws (ws' := [(q3791, .inr (14, [.ref q3792, .int p3794, .int p3795, .int p3796, .int g4335])), (q3792, .inr (15, [.ref q3793, .int p3798])), (q3793, .inl (I .byte, 8192, .inl f3799))]) (cs' := 0) (sl' := 0) rfl rfl rfl ?_
                  refine G_if_eq 98 d_cX9_takeWord_90 (by decide +kernel) (fun hc4450 => ?_) (fun hc4450 => ?_)
                  · have r4451 : o4449.toInt = 0 := gj_eq hc4450 (show Int32.toInt 0 = 0 by decide)
                    have bo4449' : gB o4449 0 0 := ⟨by omega, by omega⟩
                    refine G_aload_n 1 d_cX9_takeWord_98 rfl ?_
                    refine G_ldcK (a := D.2 1000 4) d_cX9_takeWord_99 (fun _ _ _ h => gx_vk 4 rfl rfl h) ?_
                    have hl4_4451 : (sb_4.length : Int) = 3 := rfl
                    refine G_callV (As := [.ref (D.2 1000 4)]) (wr := []) (gV_ok D I) (ct_3818_Signs_isWord l hl0 D I q3791 q3792 q3793 (D.2 1000 4) (D.2 1001 4) sb_4 p3794 p3795 p3796 g4335 p3798 f3799 (gx_sc 4 rfl rfl) (by omega) (gB_w bp3798' (by decide) (by decide)) bf3799 (by omega)) d_cX9_takeWord_101 ⟨w_3_53, w_1_4, w_3_56, by decide, rfl, (Nat.le_of_ble_eq_true rfl), (Nat.le_of_ble_eq_true rfl)⟩ w_3_55 w_p_5 0 rfl rfl [0, 1, 2] [] rfl rfl rfl rfl (by decide) (Nat.le_of_ble_eq_true rfl) (Nat.le_of_ble_eq_true rfl) (Nat.le_of_ble_eq_true rfl) (fun r w hp => ?_) (fun _ _ _ z => z.elim)
                    obtain ⟨o4453, rfl, rfl, bo4453⟩ := hp
                    change G _ _ _ _ _ _ _ (.int o4453 :: _) _ _ _
                    refine G_ws (ws' := [(q3791, .inr (14, [.ref q3792, .int p3794, .int p3795, .int p3796, .int g4335])), (q3792, .inr (15, [.ref q3793, .int p3798])), (q3793, .inl (I .byte, 8192, .inl f3799))]) (cs' := 0) (sl' := 0) rfl rfl rfl ?_
                    refine G_if_eq 112 d_cX9_takeWord_104 (by decide +kernel) (fun hc4454 => ?_) (fun hc4454 => ?_)
                    · have r4455 : o4453.toInt = 0 := gj_eq hc4454 (show Int32.toInt 0 = 0 by decide)
                      have bo4453' : gB o4453 0 0 := ⟨by omega, by omega⟩
                      refine G_iconst 0 d_cX9_takeWord_112 (by decide +kernel) ?_
                      refine G_putf (ws' := [(q3791, .inr (14, [.ref q3792, .int 0, .int p3795, .int p3796, .int g4335])), (q3792, .inr (15, [.ref q3793, .int p3798])), (q3793, .inl (I .byte, 8192, .inl f3799))]) 0 1 d_cX9_takeWord_113 rfl (gk_X9 D I) (Nat.le_of_ble_eq_true rfl) w_1_80 rfl rfl rfl (Nat.le_of_ble_eq_true rfl) rfl ?_
                      exact G_vret d_cX9_takeWord_116 rfl (Nat.le_of_ble_eq_true rfl) (Nat.le_of_ble_eq_true rfl) ⟨0, g4335, rfl, rfl, (gB_w (gBl (show Int32.toInt 0 = 0 by decide)) (by decide) (by decide)), (gB_w bg4335'' (by decide) (by decide)), (by have qa0 : Int32.toInt 0 = 0 := (by decide); omega)⟩
                    · have r4456 : o4453.toInt ≠ 0 := gj_neq hc4454 (show Int32.toInt 0 = 0 by decide)
                      have bo4453' : gB o4453 1 1 := ⟨by omega, by omega⟩
                      refine G_bipush 12 d_cX9_takeWord_107 (by decide +kernel) ?_
                      refine G_goto 113 d_cX9_takeWord_109 (by decide +kernel) ?_
                      refine G_putf (ws' := [(q3791, .inr (14, [.ref q3792, .int 12, .int p3795, .int p3796, .int g4335])), (q3792, .inr (15, [.ref q3793, .int p3798])), (q3793, .inl (I .byte, 8192, .inl f3799))]) 0 1 d_cX9_takeWord_113 rfl (gk_X9 D I) (Nat.le_of_ble_eq_true rfl) w_1_80 rfl rfl rfl (Nat.le_of_ble_eq_true rfl) rfl ?_
                      exact G_vret d_cX9_takeWord_116 rfl (Nat.le_of_ble_eq_true rfl) (Nat.le_of_ble_eq_true rfl) ⟨12, g4335, rfl, rfl, (gB_w (gBl (show Int32.toInt 12 = 12 by decide)) (by decide) (by decide)), (gB_w bg4335'' (by decide) (by decide)), (by have qa0 : Int32.toInt 12 = 12 := (by decide); omega)⟩
                  · have r4457 : o4449.toInt ≠ 0 := gj_neq hc4450 (show Int32.toInt 0 = 0 by decide)
                    have bo4449' : gB o4449 1 1 := ⟨by omega, by omega⟩
                    refine G_bipush 11 d_cX9_takeWord_93 (by decide +kernel) ?_
                    refine G_goto 113 d_cX9_takeWord_95 (by decide +kernel) ?_
                    refine G_putf (ws' := [(q3791, .inr (14, [.ref q3792, .int 11, .int p3795, .int p3796, .int g4335])), (q3792, .inr (15, [.ref q3793, .int p3798])), (q3793, .inl (I .byte, 8192, .inl f3799))]) 0 1 d_cX9_takeWord_113 rfl (gk_X9 D I) (Nat.le_of_ble_eq_true rfl) w_1_80 rfl rfl rfl (Nat.le_of_ble_eq_true rfl) rfl ?_
                    exact G_vret d_cX9_takeWord_116 rfl (Nat.le_of_ble_eq_true rfl) (Nat.le_of_ble_eq_true rfl) ⟨11, g4335, rfl, rfl, (gB_w (gBl (show Int32.toInt 11 = 11 by decide)) (by decide) (by decide)), (gB_w bg4335'' (by decide) (by decide)), (by have qa0 : Int32.toInt 11 = 11 := (by decide); omega)⟩
                · have r4458 : o4445.toInt ≠ 0 := gj_neq hc4446 (show Int32.toInt 0 = 0 by decide)
                  have bo4445' : gB o4445 1 1 := ⟨by omega, by omega⟩
                  refine G_bipush 10 d_cX9_takeWord_79 (by decide +kernel) ?_
                  refine G_goto 113 d_cX9_takeWord_81 (by decide +kernel) ?_
                  refine G_putf (ws' := [(q3791, .inr (14, [.ref q3792, .int 10, .int p3795, .int p3796, .int g4335])), (q3792, .inr (15, [.ref q3793, .int p3798])), (q3793, .inl (I .byte, 8192, .inl f3799))]) 0 1 d_cX9_takeWord_113 rfl (gk_X9 D I) (Nat.le_of_ble_eq_true rfl) w_1_80 rfl rfl rfl (Nat.le_of_ble_eq_true rfl) rfl ?_
                  exact G_vret d_cX9_takeWord_116 rfl (Nat.le_of_ble_eq_true rfl) (Nat.le_of_ble_eq_true rfl) ⟨10, g4335, rfl, rfl, (gB_w (gBl (show Int32.toInt 10 = 10 by decide)) (by decide) (by decide)), (gB_w bg4335'' (by decide) (by decide)), (by have qa0 : Int32.toInt 10 = 10 := (by decide); omega)⟩
              · have r4459 : o4441.toInt ≠ 0 := gj_neq hc4442 (show Int32.toInt 0 = 0 by decide)
                have bo4441' : gB o4441 1 1 := ⟨by omega, by omega⟩
                refine G_bipush 9 d_cX9_takeWord_65 (by decide +kernel) ?_
                refine G_goto 113 d_cX9_takeWord_67 (by decide +kernel) ?_
                refine G_putf (ws' := [(q3791, .inr (14, [.ref q3792, .int 9, .int p3795, .int p3796, .int g4335])), (q3792, .inr (15, [.ref q3793, .int p3798])), (q3793, .inl (I .byte, 8192, .inl f3799))]) 0 1 d_cX9_takeWord_113 rfl (gk_X9 D I) (Nat.le_of_ble_eq_true rfl) w_1_80 rfl rfl rfl (Nat.le_of_ble_eq_true rfl) rfl ?_
                exact G_vret d_cX9_takeWord_116 rfl (Nat.le_of_ble_eq_true rfl) (Nat.le_of_ble_eq_true rfl) ⟨9, g4335, rfl, rfl, (gB_w (gBl (show Int32.toInt 9 = 9 by decide)) (by decide) (by decide)), (gB_w bg4335'' (by decide) (by decide)), (by have qa0 : Int32.toInt 9 = 9 := (by decide); omega)⟩
            · have r4460 : o4437.toInt ≠ 0 := gj_neq hc4438 (show Int32.toInt 0 = 0 by decide)
              have bo4437' : gB o4437 1 1 := ⟨by omega, by omega⟩
              refine G_bipush 8 d_cX9_takeWord_51 (by decide +kernel) ?_
              refine G_goto 113 d_cX9_takeWord_53 (by decide +kernel) ?_
              refine G_putf (ws' := [(q3791, .inr (14, [.ref q3792, .int 8, .int p3795, .int p3796, .int g4335])), (q3792, .inr (15, [.ref q3793, .int p3798])), (q3793, .inl (I .byte, 8192, .inl f3799))]) 0 1 d_cX9_takeWord_113 rfl (gk_X9 D I) (Nat.le_of_ble_eq_true rfl) w_1_80 rfl rfl rfl (Nat.le_of_ble_eq_true rfl) rfl ?_
              exact G_vret d_cX9_takeWord_116 rfl (Nat.le_of_ble_eq_true rfl) (Nat.le_of_ble_eq_true rfl) ⟨8, g4335, rfl, rfl, (gB_w (gBl (show Int32.toInt 8 = 8 by decide)) (by decide) (by decide)), (gB_w bg4335'' (by decide) (by decide)), (by have qa0 : Int32.toInt 8 = 8 := (by decide); omega)⟩
          · have r4370' : gB z4367 97 255 := ⟨by omega, by omega⟩
            have r4370'' : gB z4367 123 255 := ⟨by omega, by omega⟩
            change G _ _ _ _ _ _ _ (.int 0 :: _) _ _ _
            refine G_ws (ws' := [(q3791, .inr (14, [.ref q3792, .int p3794, .int p3795, .int p3796, .int p3797])), (q3792, .inr (15, [.ref q3793, .int p3798])), (q3793, .inl (I .byte, 8192, .inl f3799))]) (cs' := 0) (sl' := 0) rfl rfl rfl ?_
            refine G_if_eq 36 d_cX9_takeWord_27 (by decide +kernel) (fun _ => ?_) (fun hc => absurd hc (by decide))
            refine G_aload_n 1 d_cX9_takeWord_36 rfl ?_
            refine G_iload_n 0 d_cX9_takeWord_37 rfl ?_
            refine G_putf (ws' := [(q3791, .inr (14, [.ref q3792, .int p3794, .int p3795, .int p3796, .int g4335])), (q3792, .inr (15, [.ref q3793, .int p3798])), (q3793, .inl (I .byte, 8192, .inl f3799))]) 0 4 d_cX9_takeWord_38 rfl (gk_X9 D I) (Nat.le_of_ble_eq_true rfl) w_1_83 rfl rfl rfl (Nat.le_of_ble_eq_true rfl) rfl ?_
            refine G_aload_n 1 d_cX9_takeWord_41 rfl ?_
            refine G_aload_n 1 d_cX9_takeWord_42 rfl ?_
            refine G_ldcK (a := D.2 1000 0) d_cX9_takeWord_43 (fun _ _ _ h => gx_vk 0 rfl rfl h) ?_
            have hl0_4460 : (sb_0.length : Int) = 2 := rfl
            refine G_callV (As := [.ref (D.2 1000 0)]) (wr := []) (gV_ok D I) (ct_3818_Signs_isWord l hl0 D I q3791 q3792 q3793 (D.2 1000 0) (D.2 1001 0) sb_0 p3794 p3795 p3796 g4335 p3798 f3799 (gx_sc 0 rfl rfl) (by omega) (gB_w bp3798' (by decide) (by decide)) bf3799 (by omega)) d_cX9_takeWord_45 ⟨w_3_53, w_1_4, w_3_56, by decide, rfl, (Nat.le_of_ble_eq_true rfl), (Nat.le_of_ble_eq_true rfl)⟩ w_3_55 w_p_5 0 rfl rfl [0, 1, 2] [] rfl rfl rfl rfl (by decide) (Nat.le_of_ble_eq_true rfl) (Nat.le_of_ble_eq_true rfl) (Nat.le_of_ble_eq_true rfl) (fun r w hp => ?_) (fun _ _ _ z => z.elim)
            obtain ⟨o4462, rfl, rfl, bo4462⟩ := hp
            change G _ _ _ _ _ _ _ (.int o4462 :: _) _ _ _
            refine G_ws (ws' := [(q3791, .inr (14, [.ref q3792, .int p3794, .int p3795, .int p3796, .int g4335])), (q3792, .inr (15, [.ref q3793, .int p3798])), (q3793, .inl (I .byte, 8192, .inl f3799))]) (cs' := 0) (sl' := 0) rfl rfl rfl ?_
            refine G_if_eq 56 d_cX9_takeWord_48 (by decide +kernel) (fun hc4463 => ?_) (fun hc4463 => ?_)
            · have r4464 : o4462.toInt = 0 := gj_eq hc4463 (show Int32.toInt 0 = 0 by decide)
              have bo4462' : gB o4462 0 0 := ⟨by omega, by omega⟩
              refine G_aload_n 1 d_cX9_takeWord_56 rfl ?_
              refine G_ldcK (a := D.2 1000 1) d_cX9_takeWord_57 (fun _ _ _ h => gx_vk 1 rfl rfl h) ?_
              have hl1_4464 : (sb_1.length : Int) = 4 := rfl
              refine G_callV (As := [.ref (D.2 1000 1)]) (wr := []) (gV_ok D I) (ct_3818_Signs_isWord l hl0 D I q3791 q3792 q3793 (D.2 1000 1) (D.2 1001 1) sb_1 p3794 p3795 p3796 g4335 p3798 f3799 (gx_sc 1 rfl rfl) (by omega) (gB_w bp3798' (by decide) (by decide)) bf3799 (by omega)) d_cX9_takeWord_59 ⟨w_3_53, w_1_4, w_3_56, by decide, rfl, (Nat.le_of_ble_eq_true rfl), (Nat.le_of_ble_eq_true rfl)⟩ w_3_55 w_p_5 0 rfl rfl [0, 1, 2] [] rfl rfl rfl rfl (by decide) (Nat.le_of_ble_eq_true rfl) (Nat.le_of_ble_eq_true rfl) (Nat.le_of_ble_eq_true rfl) (fun r w hp => ?_) (fun _ _ _ z => z.elim)
              obtain ⟨o4466, rfl, rfl, bo4466⟩ := hp
              change G _ _ _ _ _ _ _ (.int o4466 :: _) _ _ _
              refine G_ws (ws' := [(q3791, .inr (14, [.ref q3792, .int p3794, .int p3795, .int p3796, .int g4335])), (q3792, .inr (15, [.ref q3793, .int p3798])), (q3793, .inl (I .byte, 8192, .inl f3799))]) (cs' := 0) (sl' := 0) rfl rfl rfl ?_
              refine G_if_eq 70 d_cX9_takeWord_62 (by decide +kernel) (fun hc4467 => ?_) (fun hc4467 => ?_)
              · have r4468 : o4466.toInt = 0 := gj_eq hc4467 (show Int32.toInt 0 = 0 by decide)
                have bo4466' : gB o4466 0 0 := ⟨by omega, by omega⟩
                refine G_aload_n 1 d_cX9_takeWord_70 rfl ?_
                refine G_ldcK (a := D.2 1000 2) d_cX9_takeWord_71 (fun _ _ _ h => gx_vk 2 rfl rfl h) ?_
                have hl2_4468 : (sb_2.length : Int) = 2 := rfl
                refine G_callV (As := [.ref (D.2 1000 2)]) (wr := []) (gV_ok D I) (ct_3818_Signs_isWord l hl0 D I q3791 q3792 q3793 (D.2 1000 2) (D.2 1001 2) sb_2 p3794 p3795 p3796 g4335 p3798 f3799 (gx_sc 2 rfl rfl) (by omega) (gB_w bp3798' (by decide) (by decide)) bf3799 (by omega)) d_cX9_takeWord_73 ⟨w_3_53, w_1_4, w_3_56, by decide, rfl, (Nat.le_of_ble_eq_true rfl), (Nat.le_of_ble_eq_true rfl)⟩ w_3_55 w_p_5 0 rfl rfl [0, 1, 2] [] rfl rfl rfl rfl (by decide) (Nat.le_of_ble_eq_true rfl) (Nat.le_of_ble_eq_true rfl) (Nat.le_of_ble_eq_true rfl) (fun r w hp => ?_) (fun _ _ _ z => z.elim)
                obtain ⟨o4470, rfl, rfl, bo4470⟩ := hp
                change G _ _ _ _ _ _ _ (.int o4470 :: _) _ _ _
                refine G_ws (ws' := [(q3791, .inr (14, [.ref q3792, .int p3794, .int p3795, .int p3796, .int g4335])), (q3792, .inr (15, [.ref q3793, .int p3798])), (q3793, .inl (I .byte, 8192, .inl f3799))]) (cs' := 0) (sl' := 0) rfl rfl rfl ?_
                refine G_if_eq 84 d_cX9_takeWord_76 (by decide +kernel) (fun hc4471 => ?_) (fun hc4471 => ?_)
                · have r4472 : o4470.toInt = 0 := gj_eq hc4471 (show Int32.toInt 0 = 0 by decide)
                  have bo4470' : gB o4470 0 0 := ⟨by omega, by omega⟩
                  refine G_aload_n 1 d_cX9_takeWord_84 rfl ?_
                  refine G_ldcK (a := D.2 1000 3) d_cX9_takeWord_85 (fun _ _ _ h => gx_vk 3 rfl rfl h) ?_
                  have hl3_4472 : (sb_3.length : Int) = 4 := rfl
                  refine G_callV (As := [.ref (D.2 1000 3)]) (wr := []) (gV_ok D I) (ct_3818_Signs_isWord l hl0 D I q3791 q3792 q3793 (D.2 1000 3) (D.2 1001 3) sb_3 p3794 p3795 p3796 g4335 p3798 f3799 (gx_sc 3 rfl rfl) (by omega) (gB_w bp3798' (by decide) (by decide)) bf3799 (by omega)) d_cX9_takeWord_87 ⟨w_3_53, w_1_4, w_3_56, by decide, rfl, (Nat.le_of_ble_eq_true rfl), (Nat.le_of_ble_eq_true rfl)⟩ w_3_55 w_p_5 0 rfl rfl [0, 1, 2] [] rfl rfl rfl rfl (by decide) (Nat.le_of_ble_eq_true rfl) (Nat.le_of_ble_eq_true rfl) (Nat.le_of_ble_eq_true rfl) (fun r w hp => ?_) (fun _ _ _ z => z.elim)
                  obtain ⟨o4474, rfl, rfl, bo4474⟩ := hp
                  change G _ _ _ _ _ _ _ (.int o4474 :: _) _ _ _
                  refine G_ws (ws' := [(q3791, .inr (14, [.ref q3792, .int p3794, .int p3795, .int p3796, .int g4335])), (q3792, .inr (15, [.ref q3793, .int p3798])), (q3793, .inl (I .byte, 8192, .inl f3799))]) (cs' := 0) (sl' := 0) rfl rfl rfl ?_
                  refine G_if_eq 98 d_cX9_takeWord_90 (by decide +kernel) (fun hc4475 => ?_) (fun hc4475 => ?_)
                  · have r4476 : o4474.toInt = 0 := gj_eq hc4475 (show Int32.toInt 0 = 0 by decide)
                    have bo4474' : gB o4474 0 0 := ⟨by omega, by omega⟩
                    refine G_aload_n 1 d_cX9_takeWord_98 rfl ?_
                    refine G_ldcK (a := D.2 1000 4) d_cX9_takeWord_99 (fun _ _ _ h => gx_vk 4 rfl rfl h) ?_
                    have hl4_4476 : (sb_4.length : Int) = 3 := rfl
                    refine G_callV (As := [.ref (D.2 1000 4)]) (wr := []) (gV_ok D I) (ct_3818_Signs_isWord l hl0 D I q3791 q3792 q3793 (D.2 1000 4) (D.2 1001 4) sb_4 p3794 p3795 p3796 g4335 p3798 f3799 (gx_sc 4 rfl rfl) (by omega) (gB_w bp3798' (by decide) (by decide)) bf3799 (by omega)) d_cX9_takeWord_101 ⟨w_3_53, w_1_4, w_3_56, by decide, rfl, (Nat.le_of_ble_eq_true rfl), (Nat.le_of_ble_eq_true rfl)⟩ w_3_55 w_p_5 0 rfl rfl [0, 1, 2] [] rfl rfl rfl rfl (by decide) (Nat.le_of_ble_eq_true rfl) (Nat.le_of_ble_eq_true rfl) (Nat.le_of_ble_eq_true rfl) (fun r w hp => ?_) (fun _ _ _ z => z.elim)
                    obtain ⟨o4478, rfl, rfl, bo4478⟩ := hp
                    change G _ _ _ _ _ _ _ (.int o4478 :: _) _ _ _
                    refine G_ws (ws' := [(q3791, .inr (14, [.ref q3792, .int p3794, .int p3795, .int p3796, .int g4335])), (q3792, .inr (15, [.ref q3793, .int p3798])), (q3793, .inl (I .byte, 8192, .inl f3799))]) (cs' := 0) (sl' := 0) rfl rfl rfl ?_
                    refine G_if_eq 112 d_cX9_takeWord_104 (by decide +kernel) (fun hc4479 => ?_) (fun hc4479 => ?_)
                    · have r4480 : o4478.toInt = 0 := gj_eq hc4479 (show Int32.toInt 0 = 0 by decide)
                      have bo4478' : gB o4478 0 0 := ⟨by omega, by omega⟩
                      refine G_iconst 0 d_cX9_takeWord_112 (by decide +kernel) ?_
                      refine G_putf (ws' := [(q3791, .inr (14, [.ref q3792, .int 0, .int p3795, .int p3796, .int g4335])), (q3792, .inr (15, [.ref q3793, .int p3798])), (q3793, .inl (I .byte, 8192, .inl f3799))]) 0 1 d_cX9_takeWord_113 rfl (gk_X9 D I) (Nat.le_of_ble_eq_true rfl) w_1_80 rfl rfl rfl (Nat.le_of_ble_eq_true rfl) rfl ?_
                      exact G_vret d_cX9_takeWord_116 rfl (Nat.le_of_ble_eq_true rfl) (Nat.le_of_ble_eq_true rfl) ⟨0, g4335, rfl, rfl, (gB_w (gBl (show Int32.toInt 0 = 0 by decide)) (by decide) (by decide)), (gB_w bg4335'' (by decide) (by decide)), (by have qa0 : Int32.toInt 0 = 0 := (by decide); omega)⟩
                    · have r4481 : o4478.toInt ≠ 0 := gj_neq hc4479 (show Int32.toInt 0 = 0 by decide)
                      have bo4478' : gB o4478 1 1 := ⟨by omega, by omega⟩
                      refine G_bipush 12 d_cX9_takeWord_107 (by decide +kernel) ?_
                      refine G_goto 113 d_cX9_takeWord_109 (by decide +kernel) ?_
                      refine G_putf (ws' := [(q3791, .inr (14, [.ref q3792, .int 12, .int p3795, .int p3796, .int g4335])), (q3792, .inr (15, [.ref q3793, .int p3798])), (q3793, .inl (I .byte, 8192, .inl f3799))]) 0 1 d_cX9_takeWord_113 rfl (gk_X9 D I) (Nat.le_of_ble_eq_true rfl) w_1_80 rfl rfl rfl (Nat.le_of_ble_eq_true rfl) rfl ?_
                      exact G_vret d_cX9_takeWord_116 rfl (Nat.le_of_ble_eq_true rfl) (Nat.le_of_ble_eq_true rfl) ⟨12, g4335, rfl, rfl, (gB_w (gBl (show Int32.toInt 12 = 12 by decide)) (by decide) (by decide)), (gB_w bg4335'' (by decide) (by decide)), (by have qa0 : Int32.toInt 12 = 12 := (by decide); omega)⟩
                  · have r4482 : o4474.toInt ≠ 0 := gj_neq hc4475 (show Int32.toInt 0 = 0 by decide)
                    have bo4474' : gB o4474 1 1 := ⟨by omega, by omega⟩
                    refine G_bipush 11 d_cX9_takeWord_93 (by decide +kernel) ?_
                    refine G_goto 113 d_cX9_takeWord_95 (by decide +kernel) ?_
                    refine G_putf (ws' := [(q3791, .inr (14, [.ref q3792, .int 11, .int p3795, .int p3796, .int g4335])), (q3792, .inr (15, [.ref q3793, .int p3798])), (q3793, .inl (I .byte, 8192, .inl f3799))]) 0 1 d_cX9_takeWord_113 rfl (gk_X9 D I) (Nat.le_of_ble_eq_true rfl) w_1_80 rfl rfl rfl (Nat.le_of_ble_eq_true rfl) rfl ?_
                    exact G_vret d_cX9_takeWord_116 rfl (Nat.le_of_ble_eq_true rfl) (Nat.le_of_ble_eq_true rfl) ⟨11, g4335, rfl, rfl, (gB_w (gBl (show Int32.toInt 11 = 11 by decide)) (by decide) (by decide)), (gB_w bg4335'' (by decide) (by decide)), (by have qa0 : Int32.toInt 11 = 11 := (by decide); omega)⟩
                · have r4483 : o4470.toInt ≠ 0 := gj_neq hc4471 (show Int32.toInt 0 = 0 by decide)
                  have bo4470' : gB o4470 1 1 := ⟨by omega, by omega⟩
                  refine G_bipush 10 d_cX9_takeWord_79 (by decide +kernel) ?_
                  refine G_goto 113 d_cX9_takeWord_81 (by decide +kernel) ?_
                  refine G_putf (ws' := [(q3791, .inr (14, [.ref q3792, .int 10, .int p3795, .int p3796, .int g4335])), (q3792, .inr (15, [.ref q3793, .int p3798])), (q3793, .inl (I .byte, 8192, .inl f3799))]) 0 1 d_cX9_takeWord_113 rfl (gk_X9 D I) (Nat.le_of_ble_eq_true rfl) w_1_80 rfl rfl rfl (Nat.le_of_ble_eq_true rfl) rfl ?_
                  exact G_vret d_cX9_takeWord_116 rfl (Nat.le_of_ble_eq_true rfl) (Nat.le_of_ble_eq_true rfl) ⟨10, g4335, rfl, rfl, (gB_w (gBl (show Int32.toInt 10 = 10 by decide)) (by decide) (by decide)), (gB_w bg4335'' (by decide) (by decide)), (by have qa0 : Int32.toInt 10 = 10 := (by decide); omega)⟩
              · have r4484 : o4466.toInt ≠ 0 := gj_neq hc4467 (show Int32.toInt 0 = 0 by decide)
                have bo4466' : gB o4466 1 1 := ⟨by omega, by omega⟩
                refine G_bipush 9 d_cX9_takeWord_65 (by decide +kernel) ?_
                refine G_goto 113 d_cX9_takeWord_67 (by decide +kernel) ?_
                refine G_putf (ws' := [(q3791, .inr (14, [.ref q3792, .int 9, .int p3795, .int p3796, .int g4335])), (q3792, .inr (15, [.ref q3793, .int p3798])), (q3793, .inl (I .byte, 8192, .inl f3799))]) 0 1 d_cX9_takeWord_113 rfl (gk_X9 D I) (Nat.le_of_ble_eq_true rfl) w_1_80 rfl rfl rfl (Nat.le_of_ble_eq_true rfl) rfl ?_
                exact G_vret d_cX9_takeWord_116 rfl (Nat.le_of_ble_eq_true rfl) (Nat.le_of_ble_eq_true rfl) ⟨9, g4335, rfl, rfl, (gB_w (gBl (show Int32.toInt 9 = 9 by decide)) (by decide) (by decide)), (gB_w bg4335'' (by decide) (by decide)), (by have qa0 : Int32.toInt 9 = 9 := (by decide); omega)⟩
            · have r4485 : o4462.toInt ≠ 0 := gj_neq hc4463 (show Int32.toInt 0 = 0 by decide)
              have bo4462' : gB o4462 1 1 := ⟨by omega, by omega⟩
              refine G_bipush 8 d_cX9_takeWord_51 (by decide +kernel) ?_
              refine G_goto 113 d_cX9_takeWord_53 (by decide +kernel) ?_
              refine G_putf (ws' := [(q3791, .inr (14, [.ref q3792, .int 8, .int p3795, .int p3796, .int g4335])), (q3792, .inr (15, [.ref q3793, .int p3798])), (q3793, .inl (I .byte, 8192, .inl f3799))]) 0 1 d_cX9_takeWord_113 rfl (gk_X9 D I) (Nat.le_of_ble_eq_true rfl) w_1_80 rfl rfl rfl (Nat.le_of_ble_eq_true rfl) rfl ?_
              exact G_vret d_cX9_takeWord_116 rfl (Nat.le_of_ble_eq_true rfl) (Nat.le_of_ble_eq_true rfl) ⟨8, g4335, rfl, rfl, (gB_w (gBl (show Int32.toInt 8 = 8 by decide)) (by decide) (by decide)), (gB_w bg4335'' (by decide) (by decide)), (by have qa0 : Int32.toInt 8 = 8 := (by decide); omega)⟩
          · have r4370' : gB z4367 97 255 := ⟨by omega, by omega⟩
            have r4370'' : gB z4367 97 122 := ⟨by omega, by omega⟩
            change G _ _ _ _ _ _ _ (.int 1 :: _) _ _ _
            refine G_ws (ws' := [(q3791, .inr (14, [.ref q3792, .int p3794, .int p3795, .int p3796, .int p3797])), (q3792, .inr (15, [.ref q3793, .int p3798])), (q3793, .inl (I .byte, 8192, .inl f3799))]) (cs' := 0) (sl' := 0) rfl rfl rfl ?_
            refine G_if_eq 36 d_cX9_takeWord_27 (by decide +kernel) (fun hc => absurd hc (by decide)) (fun _ => ?_)
            obtain ⟨z4486, hz4486⟩ : ∃ z : Int32, z = g4335 + Int32.ofInt 1 := ⟨_, rfl⟩
            have ez4486 : z4486.toInt = g4335.toInt + 1 := gI_inc hz4486 (by decide) bg4335'' (by decide) (by decide)
            have bz4486 : gB z4486 1 8192 := ⟨by omega, by omega⟩
            refine G_iinc (L' := [(1, .int z4486), (0, .ref q3791)]) z4486 0 d_cX9_takeWord_30 rfl hz4486.symm (Nat.le_of_ble_eq_true rfl) rfl ?_
            refine G_goto 5 d_cX9_takeWord_33 (by decide +kernel) ?_
            exact ih5_4335 z4486 (gB_w bz4486 (by decide) (by decide)) (by omega)
  exact hlp5_4335 (((2147483648 : Int) - p3796.toInt).toNat + 1) p3796 bp3796 (Nat.lt_succ_self _)
