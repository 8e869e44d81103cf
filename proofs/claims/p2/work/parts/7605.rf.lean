theorem dr_cJ6_numberOfTrailingZeros_0f7a4_0 : decode cJ6_numberOfTrailingZeros_0f7a4 0 = .ok (.iload_n 0, 1) := by decide +kernel
theorem dr_cJ6_numberOfTrailingZeros_0f7a4_1 : decode cJ6_numberOfTrailingZeros_0f7a4 1 = .ok (.iconst (-1), 1) := by decide +kernel
theorem dr_cJ6_numberOfTrailingZeros_0f7a4_2 : decode cJ6_numberOfTrailingZeros_0f7a4 2 = .ok (.ixor, 1) := by decide +kernel
theorem dr_cJ6_numberOfTrailingZeros_0f7a4_3 : decode cJ6_numberOfTrailingZeros_0f7a4 3 = .ok (.iload_n 0, 1) := by decide +kernel
theorem dr_cJ6_numberOfTrailingZeros_0f7a4_4 : decode cJ6_numberOfTrailingZeros_0f7a4 4 = .ok (.iconst 1, 1) := by decide +kernel
theorem dr_cJ6_numberOfTrailingZeros_0f7a4_5 : decode cJ6_numberOfTrailingZeros_0f7a4 5 = .ok (.isub, 1) := by decide +kernel
theorem dr_cJ6_numberOfTrailingZeros_0f7a4_6 : decode cJ6_numberOfTrailingZeros_0f7a4 6 = .ok (.iand, 1) := by decide +kernel
theorem dr_cJ6_numberOfTrailingZeros_0f7a4_7 : decode cJ6_numberOfTrailingZeros_0f7a4 7 = .ok (.istore_n 0, 1) := by decide +kernel
theorem dr_cJ6_numberOfTrailingZeros_0f7a4_8 : decode cJ6_numberOfTrailingZeros_0f7a4 8 = .ok (.iload_n 0, 1) := by decide +kernel
theorem dr_cJ6_numberOfTrailingZeros_0f7a4_9 : decode cJ6_numberOfTrailingZeros_0f7a4 9 = .ok (.ifCond .gt 8, 3) := by decide +kernel
theorem dr_cJ6_numberOfTrailingZeros_0f7a4_17 : decode cJ6_numberOfTrailingZeros_0f7a4 17 = .ok (.iconst 1, 1) := by decide +kernel
theorem dr_cJ6_numberOfTrailingZeros_0f7a4_18 : decode cJ6_numberOfTrailingZeros_0f7a4 18 = .ok (.istore_n 1, 1) := by decide +kernel
theorem dr_cJ6_numberOfTrailingZeros_0f7a4_19 : decode cJ6_numberOfTrailingZeros_0f7a4 19 = .ok (.iload_n 0, 1) := by decide +kernel
theorem dr_cJ6_numberOfTrailingZeros_0f7a4_20 : decode cJ6_numberOfTrailingZeros_0f7a4 20 = .ok (.ldc_w 264, 3) := by decide +kernel
theorem wr_11_7 : (Jvm.Cond.constant "java/lang/Integer" (264 : Nat) (65536 : Int32)) ∈ gw := gw_11 7 rfl rfl
theorem dr_cJ6_numberOfTrailingZeros_0f7a4_23 : decode cJ6_numberOfTrailingZeros_0f7a4 23 = .ok (.if_icmp .le 11, 3) := by decide +kernel
theorem dr_cJ6_numberOfTrailingZeros_0f7a4_34 : decode cJ6_numberOfTrailingZeros_0f7a4 34 = .ok (.iload_n 0, 1) := by decide +kernel
theorem dr_cJ6_numberOfTrailingZeros_0f7a4_35 : decode cJ6_numberOfTrailingZeros_0f7a4 35 = .ok (.sipush 256, 3) := by decide +kernel
theorem dr_cJ6_numberOfTrailingZeros_0f7a4_38 : decode cJ6_numberOfTrailingZeros_0f7a4 38 = .ok (.if_icmp .le 11, 3) := by decide +kernel
theorem dr_cJ6_numberOfTrailingZeros_0f7a4_49 : decode cJ6_numberOfTrailingZeros_0f7a4 49 = .ok (.iload_n 0, 1) := by decide +kernel
theorem dr_cJ6_numberOfTrailingZeros_0f7a4_50 : decode cJ6_numberOfTrailingZeros_0f7a4 50 = .ok (.bipush 16, 2) := by decide +kernel
theorem dr_cJ6_numberOfTrailingZeros_0f7a4_52 : decode cJ6_numberOfTrailingZeros_0f7a4 52 = .ok (.if_icmp .le 10, 3) := by decide +kernel
theorem dr_cJ6_numberOfTrailingZeros_0f7a4_62 : decode cJ6_numberOfTrailingZeros_0f7a4 62 = .ok (.iload_n 0, 1) := by decide +kernel
theorem dr_cJ6_numberOfTrailingZeros_0f7a4_63 : decode cJ6_numberOfTrailingZeros_0f7a4 63 = .ok (.iconst 4, 1) := by decide +kernel
theorem dr_cJ6_numberOfTrailingZeros_0f7a4_64 : decode cJ6_numberOfTrailingZeros_0f7a4 64 = .ok (.if_icmp .le 10, 3) := by decide +kernel
theorem dr_cJ6_numberOfTrailingZeros_0f7a4_74 : decode cJ6_numberOfTrailingZeros_0f7a4 74 = .ok (.iload_n 1, 1) := by decide +kernel
theorem dr_cJ6_numberOfTrailingZeros_0f7a4_75 : decode cJ6_numberOfTrailingZeros_0f7a4 75 = .ok (.iload_n 0, 1) := by decide +kernel
theorem dr_cJ6_numberOfTrailingZeros_0f7a4_76 : decode cJ6_numberOfTrailingZeros_0f7a4 76 = .ok (.iconst 1, 1) := by decide +kernel
theorem dr_cJ6_numberOfTrailingZeros_0f7a4_77 : decode cJ6_numberOfTrailingZeros_0f7a4 77 = .ok (.iushr, 1) := by decide +kernel
theorem dr_cJ6_numberOfTrailingZeros_0f7a4_78 : decode cJ6_numberOfTrailingZeros_0f7a4 78 = .ok (.iadd, 1) := by decide +kernel
theorem dr_cJ6_numberOfTrailingZeros_0f7a4_79 : decode cJ6_numberOfTrailingZeros_0f7a4 79 = .ok (.ireturn, 1) := by decide +kernel
theorem dr_cJ6_numberOfTrailingZeros_0f7a4_67 : decode cJ6_numberOfTrailingZeros_0f7a4 67 = .ok (.iinc 1 2, 3) := by decide +kernel
theorem dr_cJ6_numberOfTrailingZeros_0f7a4_70 : decode cJ6_numberOfTrailingZeros_0f7a4 70 = .ok (.iload_n 0, 1) := by decide +kernel
theorem dr_cJ6_numberOfTrailingZeros_0f7a4_71 : decode cJ6_numberOfTrailingZeros_0f7a4 71 = .ok (.iconst 2, 1) := by decide +kernel
theorem dr_cJ6_numberOfTrailingZeros_0f7a4_72 : decode cJ6_numberOfTrailingZeros_0f7a4 72 = .ok (.iushr, 1) := by decide +kernel
theorem dr_cJ6_numberOfTrailingZeros_0f7a4_73 : decode cJ6_numberOfTrailingZeros_0f7a4 73 = .ok (.istore_n 0, 1) := by decide +kernel
theorem dr_cJ6_numberOfTrailingZeros_0f7a4_55 : decode cJ6_numberOfTrailingZeros_0f7a4 55 = .ok (.iinc 1 4, 3) := by decide +kernel
theorem dr_cJ6_numberOfTrailingZeros_0f7a4_58 : decode cJ6_numberOfTrailingZeros_0f7a4 58 = .ok (.iload_n 0, 1) := by decide +kernel
theorem dr_cJ6_numberOfTrailingZeros_0f7a4_59 : decode cJ6_numberOfTrailingZeros_0f7a4 59 = .ok (.iconst 4, 1) := by decide +kernel
theorem dr_cJ6_numberOfTrailingZeros_0f7a4_60 : decode cJ6_numberOfTrailingZeros_0f7a4 60 = .ok (.iushr, 1) := by decide +kernel
theorem dr_cJ6_numberOfTrailingZeros_0f7a4_61 : decode cJ6_numberOfTrailingZeros_0f7a4 61 = .ok (.istore_n 0, 1) := by decide +kernel
theorem dr_cJ6_numberOfTrailingZeros_0f7a4_41 : decode cJ6_numberOfTrailingZeros_0f7a4 41 = .ok (.iinc 1 8, 3) := by decide +kernel
theorem dr_cJ6_numberOfTrailingZeros_0f7a4_44 : decode cJ6_numberOfTrailingZeros_0f7a4 44 = .ok (.iload_n 0, 1) := by decide +kernel
theorem dr_cJ6_numberOfTrailingZeros_0f7a4_45 : decode cJ6_numberOfTrailingZeros_0f7a4 45 = .ok (.bipush 8, 2) := by decide +kernel
theorem dr_cJ6_numberOfTrailingZeros_0f7a4_47 : decode cJ6_numberOfTrailingZeros_0f7a4 47 = .ok (.iushr, 1) := by decide +kernel
theorem dr_cJ6_numberOfTrailingZeros_0f7a4_48 : decode cJ6_numberOfTrailingZeros_0f7a4 48 = .ok (.istore_n 0, 1) := by decide +kernel
theorem dr_cJ6_numberOfTrailingZeros_0f7a4_26 : decode cJ6_numberOfTrailingZeros_0f7a4 26 = .ok (.iinc 1 16, 3) := by decide +kernel
theorem dr_cJ6_numberOfTrailingZeros_0f7a4_29 : decode cJ6_numberOfTrailingZeros_0f7a4 29 = .ok (.iload_n 0, 1) := by decide +kernel
theorem dr_cJ6_numberOfTrailingZeros_0f7a4_30 : decode cJ6_numberOfTrailingZeros_0f7a4 30 = .ok (.bipush 16, 2) := by decide +kernel
theorem dr_cJ6_numberOfTrailingZeros_0f7a4_32 : decode cJ6_numberOfTrailingZeros_0f7a4 32 = .ok (.iushr, 1) := by decide +kernel
theorem dr_cJ6_numberOfTrailingZeros_0f7a4_33 : decode cJ6_numberOfTrailingZeros_0f7a4 33 = .ok (.istore_n 0, 1) := by decide +kernel
theorem dr_cJ6_numberOfTrailingZeros_0f7a4_12 : decode cJ6_numberOfTrailingZeros_0f7a4 12 = .ok (.iload_n 0, 1) := by decide +kernel
theorem dr_cJ6_numberOfTrailingZeros_0f7a4_13 : decode cJ6_numberOfTrailingZeros_0f7a4 13 = .ok (.bipush 32, 2) := by decide +kernel
theorem dr_cJ6_numberOfTrailingZeros_0f7a4_15 : decode cJ6_numberOfTrailingZeros_0f7a4 15 = .ok (.iand, 1) := by decide +kernel
theorem dr_cJ6_numberOfTrailingZeros_0f7a4_16 : decode cJ6_numberOfTrailingZeros_0f7a4 16 = .ok (.ireturn, 1) := by decide +kernel
theorem dr_cJ13_numberOfTrailingZeros_95d88_0 : decode cJ13_numberOfTrailingZeros_95d88 0 = .ok (.lload_n 0, 1) := by decide +kernel
theorem dr_cJ13_numberOfTrailingZeros_95d88_1 : decode cJ13_numberOfTrailingZeros_95d88 1 = .ok (.l2i, 1) := by decide +kernel
theorem dr_cJ13_numberOfTrailingZeros_95d88_2 : decode cJ13_numberOfTrailingZeros_95d88 2 = .ok (.istore_n 2, 1) := by decide +kernel
theorem dr_cJ13_numberOfTrailingZeros_95d88_3 : decode cJ13_numberOfTrailingZeros_95d88 3 = .ok (.iload_n 2, 1) := by decide +kernel
theorem dr_cJ13_numberOfTrailingZeros_95d88_4 : decode cJ13_numberOfTrailingZeros_95d88 4 = .ok (.ifCond .ne 17, 3) := by decide +kernel
theorem dr_cJ13_numberOfTrailingZeros_95d88_21 : decode cJ13_numberOfTrailingZeros_95d88 21 = .ok (.iload_n 2, 1) := by decide +kernel
theorem dr_cJ13_numberOfTrailingZeros_95d88_22 : decode cJ13_numberOfTrailingZeros_95d88 22 = .ok (.invokestatic 311, 3) := by decide +kernel
theorem wr_11_4 : (Jvm.Cond.methodLink "java/lang/Long" (311 : Nat) ({ cls := "java/lang/Integer", name := "numberOfTrailingZeros", desc := "(I)I" } : Jvm.MethodName)) ∈ gw := gw_11 4 rfl rfl
theorem wr_1_35 : (Jvm.Cond.initialized "java/lang/Integer") ∈ gw := gw_1 35 rfl rfl
theorem wr_11_6 : (Jvm.Cond.code ({ cls := "java/lang/Integer", name := "numberOfTrailingZeros", desc := "(I)I" } : Jvm.MethodName) prog_29_method_48_code (2 : Nat) (Option.some Jvm.ClassFile.FieldType.int)) ∈ gw := gw_11 6 rfl rfl
theorem wr_11_5 : (Jvm.Cond.static ({ cls := "java/lang/Integer", name := "numberOfTrailingZeros", desc := "(I)I" } : Jvm.MethodName)) ∈ gw := gw_11 5 rfl rfl
theorem dr_cJ13_numberOfTrailingZeros_95d88_25 : decode cJ13_numberOfTrailingZeros_95d88 25 = .ok (.ireturn, 1) := by decide +kernel
theorem dr_cJ13_numberOfTrailingZeros_95d88_7 : decode cJ13_numberOfTrailingZeros_95d88 7 = .ok (.bipush 32, 2) := by decide +kernel
theorem dr_cJ13_numberOfTrailingZeros_95d88_9 : decode cJ13_numberOfTrailingZeros_95d88 9 = .ok (.lload_n 0, 1) := by decide +kernel
theorem dr_cJ13_numberOfTrailingZeros_95d88_10 : decode cJ13_numberOfTrailingZeros_95d88 10 = .ok (.bipush 32, 2) := by decide +kernel
theorem dr_cJ13_numberOfTrailingZeros_95d88_12 : decode cJ13_numberOfTrailingZeros_95d88 12 = .ok (.lushr, 1) := by decide +kernel
theorem dr_cJ13_numberOfTrailingZeros_95d88_13 : decode cJ13_numberOfTrailingZeros_95d88 13 = .ok (.l2i, 1) := by decide +kernel
theorem dr_cJ13_numberOfTrailingZeros_95d88_14 : decode cJ13_numberOfTrailingZeros_95d88 14 = .ok (.invokestatic 311, 3) := by decide +kernel
theorem dr_cJ13_numberOfTrailingZeros_95d88_17 : decode cJ13_numberOfTrailingZeros_95d88 17 = .ok (.iadd, 1) := by decide +kernel
theorem dr_cJ13_numberOfTrailingZeros_95d88_18 : decode cJ13_numberOfTrailingZeros_95d88 18 = .ok (.goto 7, 3) := by decide +kernel
theorem dr_cX14_isDigit_0 : decode cX14_isDigit 0 = .ok (.iload_n 0, 1) := by decide +kernel
theorem dr_cX14_isDigit_1 : decode cX14_isDigit 1 = .ok (.bipush 48, 2) := by decide +kernel
theorem dr_cX14_isDigit_3 : decode cX14_isDigit 3 = .ok (.if_icmp .lt 13, 3) := by decide +kernel
theorem dr_cX14_isDigit_16 : decode cX14_isDigit 16 = .ok (.iconst 0, 1) := by decide +kernel
theorem dr_cX14_isDigit_17 : decode cX14_isDigit 17 = .ok (.ireturn, 1) := by decide +kernel
theorem dr_cX14_isDigit_6 : decode cX14_isDigit 6 = .ok (.iload_n 0, 1) := by decide +kernel
theorem dr_cX14_isDigit_7 : decode cX14_isDigit 7 = .ok (.bipush 57, 2) := by decide +kernel
theorem dr_cX14_isDigit_9 : decode cX14_isDigit 9 = .ok (.if_icmp .gt 7, 3) := by decide +kernel
theorem dr_cX14_isDigit_12 : decode cX14_isDigit 12 = .ok (.iconst 1, 1) := by decide +kernel
theorem dr_cX14_isDigit_13 : decode cX14_isDigit 13 = .ok (.goto 4, 3) := by decide +kernel
theorem dr_cX14_isLetter_0 : decode cX14_isLetter 0 = .ok (.iload_n 0, 1) := by decide +kernel
theorem dr_cX14_isLetter_1 : decode cX14_isLetter 1 = .ok (.bipush 97, 2) := by decide +kernel
theorem dr_cX14_isLetter_3 : decode cX14_isLetter 3 = .ok (.if_icmp .lt 13, 3) := by decide +kernel
theorem dr_cX14_isLetter_16 : decode cX14_isLetter 16 = .ok (.iconst 0, 1) := by decide +kernel
theorem dr_cX14_isLetter_17 : decode cX14_isLetter 17 = .ok (.ireturn, 1) := by decide +kernel
theorem dr_cX14_isLetter_6 : decode cX14_isLetter 6 = .ok (.iload_n 0, 1) := by decide +kernel
theorem dr_cX14_isLetter_7 : decode cX14_isLetter 7 = .ok (.bipush 122, 2) := by decide +kernel
theorem dr_cX14_isLetter_9 : decode cX14_isLetter 9 = .ok (.if_icmp .gt 7, 3) := by decide +kernel
theorem dr_cX14_isLetter_12 : decode cX14_isLetter 12 = .ok (.iconst 1, 1) := by decide +kernel
theorem dr_cX14_isLetter_13 : decode cX14_isLetter 13 = .ok (.goto 4, 3) := by decide +kernel
theorem dr_cX17_back_0 : decode cX17_back 0 = .ok (.aload_n 1, 1) := by decide +kernel
theorem dr_cX17_back_1 : decode cX17_back 1 = .ok (.iload_n 2, 1) := by decide +kernel
theorem dr_cX17_back_2 : decode cX17_back 2 = .ok (.invokestatic 55, 3) := by decide +kernel
theorem wr_10_178 : (Jvm.Cond.methodLink "SpillForgeModel" (55 : Nat) ({ cls := "SpillForgeModel", name := "setOf", desc := "(LSpillForgeModel$Row;Z)I" } : Jvm.MethodName)) ∈ gw := gw_10 178 rfl rfl
theorem wr_1_14 : (Jvm.Cond.initialized "SpillForgeModel") ∈ gw := gw_1 14 rfl rfl
theorem wr_10_180 : (Jvm.Cond.code ({ cls := "SpillForgeModel", name := "setOf", desc := "(LSpillForgeModel$Row;Z)I" } : Jvm.MethodName) prog_14_method_6_code (2 : Nat) (Option.some Jvm.ClassFile.FieldType.int)) ∈ gw := gw_10 180 rfl rfl
theorem wr_10_179 : (Jvm.Cond.static ({ cls := "SpillForgeModel", name := "setOf", desc := "(LSpillForgeModel$Row;Z)I" } : Jvm.MethodName)) ∈ gw := gw_10 179 rfl rfl
theorem dr_cX17_back_5 : decode cX17_back 5 = .ok (.istore_n 3, 1) := by decide +kernel
theorem dr_cX17_back_6 : decode cX17_back 6 = .ok (.iload_n 3, 1) := by decide +kernel
theorem dr_cX17_back_7 : decode cX17_back 7 = .ok (.ifCond .lt 11, 3) := by decide +kernel
theorem dr_cX17_back_18 : decode cX17_back 18 = .ok (.iload_n 2, 1) := by decide +kernel
theorem dr_cX17_back_19 : decode cX17_back 19 = .ok (.ifCond .eq 24, 3) := by decide +kernel
theorem dr_cX17_back_43 : decode cX17_back 43 = .ok (.aload_n 1, 1) := by decide +kernel
theorem dr_cX17_back_44 : decode cX17_back 44 = .ok (.invokevirtual 70, 3) := by decide +kernel
theorem wr_10_192 : (Jvm.Cond.methodLink "SpillForgeModel" (70 : Nat) ({ cls := "SpillForgeModel$Row", name := "usesA", desc := "()Z" } : Jvm.MethodName)) ∈ gw := gw_10 192 rfl rfl
theorem wr_10_195 : (Jvm.Cond.code ({ cls := "SpillForgeModel$Row", name := "usesA", desc := "()Z" } : Jvm.MethodName) prog_18_method_3_code (1 : Nat) (Option.some Jvm.ClassFile.FieldType.boolean)) ∈ gw := gw_10 195 rfl rfl
theorem wr_10_193 : (Jvm.Cond.instanceMethod ({ cls := "SpillForgeModel$Row", name := "usesA", desc := "()Z" } : Jvm.MethodName)) ∈ gw := gw_10 193 rfl rfl
theorem wr_10_194 : (Jvm.Cond.selects "SpillForgeModel$Row" ({ cls := "SpillForgeModel$Row", name := "usesA", desc := "()Z" } : Jvm.MethodName) ({ cls := "SpillForgeModel$Row", name := "usesA", desc := "()Z" } : Jvm.MethodName)) ∈ gw := gw_10 194 rfl rfl
theorem dr_cX17_back_47 : decode cX17_back 47 = .ok (.ifCond .eq 14, 3) := by decide +kernel
theorem dr_cX17_back_61 : decode cX17_back 61 = .ok (.aload_n 1, 1) := by decide +kernel
theorem dr_cX17_back_62 : decode cX17_back 62 = .ok (.invokevirtual 76, 3) := by decide +kernel
theorem wr_10_196 : (Jvm.Cond.methodLink "SpillForgeModel" (76 : Nat) ({ cls := "SpillForgeModel$Row", name := "usesB", desc := "()Z" } : Jvm.MethodName)) ∈ gw := gw_10 196 rfl rfl
theorem wr_10_199 : (Jvm.Cond.code ({ cls := "SpillForgeModel$Row", name := "usesB", desc := "()Z" } : Jvm.MethodName) prog_18_method_4_code (1 : Nat) (Option.some Jvm.ClassFile.FieldType.boolean)) ∈ gw := gw_10 199 rfl rfl
theorem wr_10_197 : (Jvm.Cond.instanceMethod ({ cls := "SpillForgeModel$Row", name := "usesB", desc := "()Z" } : Jvm.MethodName)) ∈ gw := gw_10 197 rfl rfl
theorem wr_10_198 : (Jvm.Cond.selects "SpillForgeModel$Row" ({ cls := "SpillForgeModel$Row", name := "usesB", desc := "()Z" } : Jvm.MethodName) ({ cls := "SpillForgeModel$Row", name := "usesB", desc := "()Z" } : Jvm.MethodName)) ∈ gw := gw_10 198 rfl rfl
theorem dr_cX17_back_65 : decode cX17_back 65 = .ok (.ifCond .eq 14, 3) := by decide +kernel
theorem dr_cX17_back_79 : decode cX17_back 79 = .ok (.return_, 1) := by decide +kernel
theorem dr_cX17_back_68 : decode cX17_back 68 = .ok (.aload_n 0, 1) := by decide +kernel
theorem dr_cX17_back_69 : decode cX17_back 69 = .ok (.getfield 59, 3) := by decide +kernel
theorem wr_7_76 : (Jvm.Cond.fieldLink "SpillForgeModel" (59 : Nat) "SpillForgeModel" "now" "[J") ∈ gw := gw_7 76 rfl rfl
theorem dr_cX17_back_72 : decode cX17_back 72 = .ok (.aload_n 1, 1) := by decide +kernel
theorem dr_cX17_back_73 : decode cX17_back 73 = .ok (.getfield 79, 3) := by decide +kernel
theorem wr_9_190 : (Jvm.Cond.fieldLink "SpillForgeModel" (79 : Nat) "SpillForgeModel$Row" "b" "I") ∈ gw := gw_9 190 rfl rfl
theorem dr_cX17_back_76 : decode cX17_back 76 = .ok (.invokestatic 67, 3) := by decide +kernel
theorem wr_10_189 : (Jvm.Cond.methodLink "SpillForgeModel" (67 : Nat) ({ cls := "SpillForgeModel", name := "set", desc := "([JI)V" } : Jvm.MethodName)) ∈ gw := gw_10 189 rfl rfl
theorem wr_10_191 : (Jvm.Cond.code ({ cls := "SpillForgeModel", name := "set", desc := "([JI)V" } : Jvm.MethodName) prog_14_method_3_code (2 : Nat) (Option.none : Option Jvm.ClassFile.FieldType)) ∈ gw := gw_10 191 rfl rfl
theorem wr_10_190 : (Jvm.Cond.static ({ cls := "SpillForgeModel", name := "set", desc := "([JI)V" } : Jvm.MethodName)) ∈ gw := gw_10 190 rfl rfl
theorem dr_cX17_back_50 : decode cX17_back 50 = .ok (.aload_n 0, 1) := by decide +kernel
theorem dr_cX17_back_51 : decode cX17_back 51 = .ok (.getfield 59, 3) := by decide +kernel
theorem dr_cX17_back_54 : decode cX17_back 54 = .ok (.aload_n 1, 1) := by decide +kernel
theorem dr_cX17_back_55 : decode cX17_back 55 = .ok (.getfield 73, 3) := by decide +kernel
theorem wr_9_186 : (Jvm.Cond.fieldLink "SpillForgeModel" (73 : Nat) "SpillForgeModel$Row" "a" "I") ∈ gw := gw_9 186 rfl rfl
theorem dr_cX17_back_58 : decode cX17_back 58 = .ok (.invokestatic 67, 3) := by decide +kernel
theorem dr_cX17_back_22 : decode cX17_back 22 = .ok (.aload_n 1, 1) := by decide +kernel
theorem dr_cX17_back_23 : decode cX17_back 23 = .ok (.getfield 39, 3) := by decide +kernel
theorem dr_cX17_back_26 : decode cX17_back 26 = .ok (.bipush 21, 2) := by decide +kernel
theorem dr_cX17_back_28 : decode cX17_back 28 = .ok (.if_icmp .ne 14, 3) := by decide +kernel
theorem dr_cX17_back_42 : decode cX17_back 42 = .ok (.return_, 1) := by decide +kernel
theorem dr_cX17_back_31 : decode cX17_back 31 = .ok (.aload_n 0, 1) := by decide +kernel
theorem dr_cX17_back_32 : decode cX17_back 32 = .ok (.getfield 59, 3) := by decide +kernel
theorem dr_cX17_back_35 : decode cX17_back 35 = .ok (.aload_n 1, 1) := by decide +kernel
theorem dr_cX17_back_36 : decode cX17_back 36 = .ok (.getfield 45, 3) := by decide +kernel
theorem dr_cX17_back_39 : decode cX17_back 39 = .ok (.invokestatic 67, 3) := by decide +kernel
theorem dr_cX17_back_10 : decode cX17_back 10 = .ok (.aload_n 0, 1) := by decide +kernel
theorem dr_cX17_back_11 : decode cX17_back 11 = .ok (.getfield 59, 3) := by decide +kernel
theorem dr_cX17_back_14 : decode cX17_back 14 = .ok (.iload_n 3, 1) := by decide +kernel
theorem dr_cX17_back_15 : decode cX17_back 15 = .ok (.invokestatic 63, 3) := by decide +kernel
theorem wr_10_185 : (Jvm.Cond.methodLink "SpillForgeModel" (63 : Nat) ({ cls := "SpillForgeModel", name := "clear", desc := "([JI)V" } : Jvm.MethodName)) ∈ gw := gw_10 185 rfl rfl
theorem wr_10_187 : (Jvm.Cond.code ({ cls := "SpillForgeModel", name := "clear", desc := "([JI)V" } : Jvm.MethodName) prog_14_method_4_code (2 : Nat) (Option.none : Option Jvm.ClassFile.FieldType)) ∈ gw := gw_10 187 rfl rfl
theorem wr_10_186 : (Jvm.Cond.static ({ cls := "SpillForgeModel", name := "clear", desc := "([JI)V" } : Jvm.MethodName)) ∈ gw := gw_10 186 rfl rfl
abbrev ky_2110_Integer_numberOfTrailingZeros : gKey := (cJ6_numberOfTrailingZeros_0f7a4, 2, "java/lang/Integer", (some FieldType.int), [], "numberOfTrailingZeros", fun _ _ => True)
def pp_2110_Integer_numberOfTrailingZeros (D : va_G) (I : FieldType → ClassId) (P2107 : List Nat) (F2108 : Nat → va_E) (p2109 : Int32) : Option Value → va_W → Nat → Nat → Prop := fun r w dc ds => ∃ (o2210 : Int32), r = some (.int o2210) ∧ w = va_pl P2107 F2108 ∧ dc ≤ 0 ∧ ds ≤ 0
set_option maxRecDepth 100000 in
set_option maxHeartbeats 4000000 in
theorem cp_2110_Integer_numberOfTrailingZeros (l : Launch) (hl0 : l.stackTraces = false) (D : va_G) (I : FieldType → ClassId) (P2107 : List Nat) (F2108 : Nat → va_E) (p2109 : Int32)  : CtA (gV D I) l yJ6_numberOfTrailingZeros_0f7a4 cJ6_numberOfTrailingZeros_0f7a4 2 (some FieldType.int) 0 0 0 0 [.int p2109] (va_pl P2107 F2108) (pp_2110_Integer_numberOfTrailingZeros D I P2107 F2108 p2109) gNA := by
  refine CtA_ofF hl0 (by decide +kernel) (Nat.le_of_ble_eq_true rfl) ?_
  have bp2109 := gB_any p2109
  refine G_iload_n 0 dr_cJ6_numberOfTrailingZeros_0f7a4_0 rfl ?_
  refine G_iconst (-1) dr_cJ6_numberOfTrailingZeros_0f7a4_1 (by decide +kernel) ?_
  refine G_ixor dr_cJ6_numberOfTrailingZeros_0f7a4_2 (G_nam fun z2111 hz2111 => ?_)
  have bz2111 : gB z2111 (-2147483648) 2147483647 := gB_any z2111
  refine G_iload_n 0 dr_cJ6_numberOfTrailingZeros_0f7a4_3 rfl ?_
  refine G_iconst 1 dr_cJ6_numberOfTrailingZeros_0f7a4_4 (by decide +kernel) ?_
  refine G_isub dr_cJ6_numberOfTrailingZeros_0f7a4_5 (G_nam fun z2112 hz2112 => ?_)
  have bz2112 : gB z2112 (-2147483648) 2147483647 := gB_any z2112
  refine G_iand dr_cJ6_numberOfTrailingZeros_0f7a4_6 (G_nam fun z2113 hz2113 => ?_)
  have bz2113 : gB z2113 (-2147483648) 2147483647 := gB_any z2113
  refine G_istore_n (L' := [(0, .int z2113)]) dr_cJ6_numberOfTrailingZeros_0f7a4_7 (Nat.le_of_ble_eq_true rfl) rfl ?_
  refine G_iload_n 0 dr_cJ6_numberOfTrailingZeros_0f7a4_8 rfl ?_
  refine G_if_gt 17 dr_cJ6_numberOfTrailingZeros_0f7a4_9 (by decide +kernel) (fun hc2114 => ?_) (fun hc2114 => ?_)
  · have r2115 : 0 < z2113.toInt := gj_ltL hc2114 (show Int32.toInt 0 = 0 by decide)
    have bz2113' : gB z2113 1 2147483647 := ⟨by omega, by omega⟩
    refine G_iconst 1 dr_cJ6_numberOfTrailingZeros_0f7a4_17 (by decide +kernel) ?_
    refine G_istore_n (L' := [(1, .int 1), (0, .int z2113)]) dr_cJ6_numberOfTrailingZeros_0f7a4_18 (Nat.le_of_ble_eq_true rfl) rfl ?_
    refine G_iload_n 1 dr_cJ6_numberOfTrailingZeros_0f7a4_19 rfl ?_
    refine G_ldcw 65536 dr_cJ6_numberOfTrailingZeros_0f7a4_20 wr_11_7 ?_
    refine G_icmp_le 34 dr_cJ6_numberOfTrailingZeros_0f7a4_23 (by decide +kernel) (fun hc2116 => ?_) (fun hc2116 => ?_)
    · have r2117 : z2113.toInt ≤ 65536 := gj_le hc2116 (show Int32.toInt 65536 = 65536 by decide)
      have bz2113'' : gB z2113 1 65536 := ⟨by omega, by omega⟩
      refine G_iload_n 1 dr_cJ6_numberOfTrailingZeros_0f7a4_34 rfl ?_
      refine G_sipush 256 dr_cJ6_numberOfTrailingZeros_0f7a4_35 (by decide +kernel) ?_
      refine G_icmp_le 49 dr_cJ6_numberOfTrailingZeros_0f7a4_38 (by decide +kernel) (fun hc2118 => ?_) (fun hc2118 => ?_)
      · have r2119 : z2113.toInt ≤ 256 := gj_le hc2118 (show Int32.toInt 256 = 256 by decide)
        have bz2113''' : gB z2113 1 256 := ⟨by omega, by omega⟩
        refine G_iload_n 1 dr_cJ6_numberOfTrailingZeros_0f7a4_49 rfl ?_
        refine G_bipush 16 dr_cJ6_numberOfTrailingZeros_0f7a4_50 (by decide +kernel) ?_
        refine G_icmp_le 62 dr_cJ6_numberOfTrailingZeros_0f7a4_52 (by decide +kernel) (fun hc2120 => ?_) (fun hc2120 => ?_)
        · have r2121 : z2113.toInt ≤ 16 := gj_le hc2120 (show Int32.toInt 16 = 16 by decide)
          have bz2113'''' : gB z2113 1 16 := ⟨by omega, by omega⟩
          refine G_iload_n 1 dr_cJ6_numberOfTrailingZeros_0f7a4_62 rfl ?_
          refine G_iconst 4 dr_cJ6_numberOfTrailingZeros_0f7a4_63 (by decide +kernel) ?_
          refine G_icmp_le 74 dr_cJ6_numberOfTrailingZeros_0f7a4_64 (by decide +kernel) (fun hc2122 => ?_) (fun hc2122 => ?_)
          · have r2123 : z2113.toInt ≤ 4 := gj_le hc2122 (show Int32.toInt 4 = 4 by decide)
            have bz2113''''' : gB z2113 1 4 := ⟨by omega, by omega⟩
            refine G_iload_n 0 dr_cJ6_numberOfTrailingZeros_0f7a4_74 rfl ?_
            refine G_iload_n 1 dr_cJ6_numberOfTrailingZeros_0f7a4_75 rfl ?_
            refine G_iconst 1 dr_cJ6_numberOfTrailingZeros_0f7a4_76 (by decide +kernel) ?_
            refine G_iushr dr_cJ6_numberOfTrailingZeros_0f7a4_77 (G_nam fun z2124 hz2124 => ?_)
            have bz2124 : gB z2124 (-2147483648) 2147483647 := gB_any z2124
            refine G_iadd dr_cJ6_numberOfTrailingZeros_0f7a4_78 (G_nam fun z2125 hz2125 => ?_)
            have bz2125 : gB z2125 (-2147483648) 2147483647 := gB_any z2125
            exact G_iretA dr_cJ6_numberOfTrailingZeros_0f7a4_79 rfl (Nat.le_of_ble_eq_true rfl) (Nat.le_of_ble_eq_true rfl) ⟨z2125, rfl, rfl, (Nat.le_of_ble_eq_true rfl), (Nat.le_of_ble_eq_true rfl)⟩
          · have r2126 : 4 < z2113.toInt := gj_nle hc2122 (show Int32.toInt 4 = 4 by decide)
            have bz2113''''' : gB z2113 5 16 := ⟨by omega, by omega⟩
            refine G_iinc (L' := [(1, .int 3), (0, .int z2113)]) (3) 0 dr_cJ6_numberOfTrailingZeros_0f7a4_67 rfl (by decide) (Nat.le_of_ble_eq_true rfl) rfl ?_
            refine G_iload_n 1 dr_cJ6_numberOfTrailingZeros_0f7a4_70 rfl ?_
            refine G_iconst 2 dr_cJ6_numberOfTrailingZeros_0f7a4_71 (by decide +kernel) ?_
            refine G_iushr dr_cJ6_numberOfTrailingZeros_0f7a4_72 (G_nam fun z2127 hz2127 => ?_)
            have bz2127 : gB z2127 (-2147483648) 2147483647 := gB_any z2127
            refine G_istore_n (L' := [(0, .int z2127), (1, .int 3)]) dr_cJ6_numberOfTrailingZeros_0f7a4_73 (Nat.le_of_ble_eq_true rfl) rfl ?_
            refine G_iload_n 1 dr_cJ6_numberOfTrailingZeros_0f7a4_74 rfl ?_
            refine G_iload_n 0 dr_cJ6_numberOfTrailingZeros_0f7a4_75 rfl ?_
            refine G_iconst 1 dr_cJ6_numberOfTrailingZeros_0f7a4_76 (by decide +kernel) ?_
            refine G_iushr dr_cJ6_numberOfTrailingZeros_0f7a4_77 (G_nam fun z2128 hz2128 => ?_)
            have bz2128 : gB z2128 (-2147483648) 2147483647 := gB_any z2128
            refine G_iadd dr_cJ6_numberOfTrailingZeros_0f7a4_78 (G_nam fun z2129 hz2129 => ?_)
            have bz2129 : gB z2129 (-2147483648) 2147483647 := gB_any z2129
            exact G_iretA dr_cJ6_numberOfTrailingZeros_0f7a4_79 rfl (Nat.le_of_ble_eq_true rfl) (Nat.le_of_ble_eq_true rfl) ⟨z2129, rfl, rfl, (Nat.le_of_ble_eq_true rfl), (Nat.le_of_ble_eq_true rfl)⟩
        · have r2130 : 16 < z2113.toInt := gj_nle hc2120 (show Int32.toInt 16 = 16 by decide)
          have bz2113'''' : gB z2113 17 256 := ⟨by omega, by omega⟩
          refine G_iinc (L' := [(1, .int 5), (0, .int z2113)]) (5) 0 dr_cJ6_numberOfTrailingZeros_0f7a4_55 rfl (by decide) (Nat.le_of_ble_eq_true rfl) rfl ?_
          refine G_iload_n 1 dr_cJ6_numberOfTrailingZeros_0f7a4_58 rfl ?_
          refine G_iconst 4 dr_cJ6_numberOfTrailingZeros_0f7a4_59 (by decide +kernel) ?_
          refine G_iushr dr_cJ6_numberOfTrailingZeros_0f7a4_60 (G_nam fun z2131 hz2131 => ?_)
          have bz2131 : gB z2131 (-2147483648) 2147483647 := gB_any z2131
          refine G_istore_n (L' := [(0, .int z2131), (1, .int 5)]) dr_cJ6_numberOfTrailingZeros_0f7a4_61 (Nat.le_of_ble_eq_true rfl) rfl ?_
          refine G_iload_n 0 dr_cJ6_numberOfTrailingZeros_0f7a4_62 rfl ?_
          refine G_iconst 4 dr_cJ6_numberOfTrailingZeros_0f7a4_63 (by decide +kernel) ?_
          refine G_icmp_le 74 dr_cJ6_numberOfTrailingZeros_0f7a4_64 (by decide +kernel) (fun hc2132 => ?_) (fun hc2132 => ?_)
          · have r2133 : z2131.toInt ≤ 4 := gj_le hc2132 (show Int32.toInt 4 = 4 by decide)
            have bz2131' : gB z2131 (-2147483648) 4 := ⟨by omega, by omega⟩
            refine G_iload_n 1 dr_cJ6_numberOfTrailingZeros_0f7a4_74 rfl ?_
            refine G_iload_n 0 dr_cJ6_numberOfTrailingZeros_0f7a4_75 rfl ?_
            refine G_iconst 1 dr_cJ6_numberOfTrailingZeros_0f7a4_76 (by decide +kernel) ?_
            refine G_iushr dr_cJ6_numberOfTrailingZeros_0f7a4_77 (G_nam fun z2134 hz2134 => ?_)
            have bz2134 : gB z2134 (-2147483648) 2147483647 := gB_any z2134
            refine G_iadd dr_cJ6_numberOfTrailingZeros_0f7a4_78 (G_nam fun z2135 hz2135 => ?_)
            have bz2135 : gB z2135 (-2147483648) 2147483647 := gB_any z2135
            exact G_iretA dr_cJ6_numberOfTrailingZeros_0f7a4_79 rfl (Nat.le_of_ble_eq_true rfl) (Nat.le_of_ble_eq_true rfl) ⟨z2135, rfl, rfl, (Nat.le_of_ble_eq_true rfl), (Nat.le_of_ble_eq_true rfl)⟩
          · have r2136 : 4 < z2131.toInt := gj_nle hc2132 (show Int32.toInt 4 = 4 by decide)
            have bz2131' : gB z2131 5 2147483647 := ⟨by omega, by omega⟩
            refine G_iinc (L' := [(1, .int 7), (0, .int z2131)]) (7) 1 dr_cJ6_numberOfTrailingZeros_0f7a4_67 rfl (by decide) (Nat.le_of_ble_eq_true rfl) rfl ?_
            refine G_iload_n 1 dr_cJ6_numberOfTrailingZeros_0f7a4_70 rfl ?_
            refine G_iconst 2 dr_cJ6_numberOfTrailingZeros_0f7a4_71 (by decide +kernel) ?_
            refine G_iushr dr_cJ6_numberOfTrailingZeros_0f7a4_72 (G_nam fun z2137 hz2137 => ?_)
            have bz2137 : gB z2137 (-2147483648) 2147483647 := gB_any z2137
            refine G_istore_n (L' := [(0, .int z2137), (1, .int 7)]) dr_cJ6_numberOfTrailingZeros_0f7a4_73 (Nat.le_of_ble_eq_true rfl) rfl ?_
            refine G_iload_n 1 dr_cJ6_numberOfTrailingZeros_0f7a4_74 rfl ?_
            refine G_iload_n 0 dr_cJ6_numberOfTrailingZeros_0f7a4_75 rfl ?_
            refine G_iconst 1 dr_cJ6_numberOfTrailingZeros_0f7a4_76 (by decide +kernel) ?_
            refine G_iushr dr_cJ6_numberOfTrailingZeros_0f7a4_77 (G_nam fun z2138 hz2138 => ?_)
            have bz2138 : gB z2138 (-2147483648) 2147483647 := gB_any z2138
            refine G_iadd dr_cJ6_numberOfTrailingZeros_0f7a4_78 (G_nam fun z2139 hz2139 => ?_)
            have bz2139 : gB z2139 (-2147483648) 2147483647 := gB_any z2139
            exact G_iretA dr_cJ6_numberOfTrailingZeros_0f7a4_79 rfl (Nat.le_of_ble_eq_true rfl) (Nat.le_of_ble_eq_true rfl) ⟨z2139, rfl, rfl, (Nat.le_of_ble_eq_true rfl), (Nat.le_of_ble_eq_true rfl)⟩
      · have r2140 : 256 < z2113.toInt := gj_nle hc2118 (show Int32.toInt 256 = 256 by decide)
        have bz2113''' : gB z2113 257 65536 := ⟨by omega, by omega⟩
        refine G_iinc (L' := [(1, .int 9), (0, .int z2113)]) (9) 0 dr_cJ6_numberOfTrailingZeros_0f7a4_41 rfl (by decide) (Nat.le_of_ble_eq_true rfl) rfl ?_
        refine G_iload_n 1 dr_cJ6_numberOfTrailingZeros_0f7a4_44 rfl ?_
        refine G_bipush 8 dr_cJ6_numberOfTrailingZeros_0f7a4_45 (by decide +kernel) ?_
        refine G_iushr dr_cJ6_numberOfTrailingZeros_0f7a4_47 (G_nam fun z2141 hz2141 => ?_)
        have bz2141 : gB z2141 (-2147483648) 2147483647 := gB_any z2141
        refine G_istore_n (L' := [(0, .int z2141), (1, .int 9)]) dr_cJ6_numberOfTrailingZeros_0f7a4_48 (Nat.le_of_ble_eq_true rfl) rfl ?_
        refine G_iload_n 0 dr_cJ6_numberOfTrailingZeros_0f7a4_49 rfl ?_
        refine G_bipush 16 dr_cJ6_numberOfTrailingZeros_0f7a4_50 (by decide +kernel) ?_
        refine G_icmp_le 62 dr_cJ6_numberOfTrailingZeros_0f7a4_52 (by decide +kernel) (fun hc2142 => ?_) (fun hc2142 => ?_)
        · have r2143 : z2141.toInt ≤ 16 := gj_le hc2142 (show Int32.toInt 16 = 16 by decide)
          have bz2141' : gB z2141 (-2147483648) 16 := ⟨by omega, by omega⟩
          refine G_iload_n 0 dr_cJ6_numberOfTrailingZeros_0f7a4_62 rfl ?_
          refine G_iconst 4 dr_cJ6_numberOfTrailingZeros_0f7a4_63 (by decide +kernel) ?_
          refine G_icmp_le 74 dr_cJ6_numberOfTrailingZeros_0f7a4_64 (by decide +kernel) (fun hc2144 => ?_) (fun hc2144 => ?_)
          · have r2145 : z2141.toInt ≤ 4 := gj_le hc2144 (show Int32.toInt 4 = 4 by decide)
            have bz2141'' : gB z2141 (-2147483648) 4 := ⟨by omega, by omega⟩
            refine G_iload_n 1 dr_cJ6_numberOfTrailingZeros_0f7a4_74 rfl ?_
            refine G_iload_n 0 dr_cJ6_numberOfTrailingZeros_0f7a4_75 rfl ?_
            refine G_iconst 1 dr_cJ6_numberOfTrailingZeros_0f7a4_76 (by decide +kernel) ?_
            refine G_iushr dr_cJ6_numberOfTrailingZeros_0f7a4_77 (G_nam fun z2146 hz2146 => ?_)
            have bz2146 : gB z2146 (-2147483648) 2147483647 := gB_any z2146
            refine G_iadd dr_cJ6_numberOfTrailingZeros_0f7a4_78 (G_nam fun z2147 hz2147 => ?_)
            have bz2147 : gB z2147 (-2147483648) 2147483647 := gB_any z2147
            exact G_iretA dr_cJ6_numberOfTrailingZeros_0f7a4_79 rfl (Nat.le_of_ble_eq_true rfl) (Nat.le_of_ble_eq_true rfl) ⟨z2147, rfl, rfl, (Nat.le_of_ble_eq_true rfl), (Nat.le_of_ble_eq_true rfl)⟩
          · have r2148 : 4 < z2141.toInt := gj_nle hc2144 (show Int32.toInt 4 = 4 by decide)
            have bz2141'' : gB z2141 5 16 := ⟨by omega, by omega⟩
            refine G_iinc (L' := [(1, .int 11), (0, .int z2141)]) (11) 1 dr_cJ6_numberOfTrailingZeros_0f7a4_67 rfl (by decide) (Nat.le_of_ble_eq_true rfl) rfl ?_
            refine G_iload_n 1 dr_cJ6_numberOfTrailingZeros_0f7a4_70 rfl ?_
            refine G_iconst 2 dr_cJ6_numberOfTrailingZeros_0f7a4_71 (by decide +kernel) ?_
            refine G_iushr dr_cJ6_numberOfTrailingZeros_0f7a4_72 (G_nam fun z2149 hz2149 => ?_)
            have bz2149 : gB z2149 (-2147483648) 2147483647 := gB_any z2149
            refine G_istore_n (L' := [(0, .int z2149), (1, .int 11)]) dr_cJ6_numberOfTrailingZeros_0f7a4_73 (Nat.le_of_ble_eq_true rfl) rfl ?_
            refine G_iload_n 1 dr_cJ6_numberOfTrailingZeros_0f7a4_74 rfl ?_
            refine G_iload_n 0 dr_cJ6_numberOfTrailingZeros_0f7a4_75 rfl ?_
            refine G_iconst 1 dr_cJ6_numberOfTrailingZeros_0f7a4_76 (by decide +kernel) ?_
            refine G_iushr dr_cJ6_numberOfTrailingZeros_0f7a4_77 (G_nam fun z2150 hz2150 => ?_)
            have bz2150 : gB z2150 (-2147483648) 2147483647 := gB_any z2150
            refine G_iadd dr_cJ6_numberOfTrailingZeros_0f7a4_78 (G_nam fun z2151 hz2151 => ?_)
            have bz2151 : gB z2151 (-2147483648) 2147483647 := gB_any z2151
            exact G_iretA dr_cJ6_numberOfTrailingZeros_0f7a4_79 rfl (Nat.le_of_ble_eq_true rfl) (Nat.le_of_ble_eq_true rfl) ⟨z2151, rfl, rfl, (Nat.le_of_ble_eq_true rfl), (Nat.le_of_ble_eq_true rfl)⟩
        · have r2152 : 16 < z2141.toInt := gj_nle hc2142 (show Int32.toInt 16 = 16 by decide)
          have bz2141' : gB z2141 17 2147483647 := ⟨by omega, by omega⟩
          refine G_iinc (L' := [(1, .int 13), (0, .int z2141)]) (13) 1 dr_cJ6_numberOfTrailingZeros_0f7a4_55 rfl (by decide) (Nat.le_of_ble_eq_true rfl) rfl ?_
          refine G_iload_n 1 dr_cJ6_numberOfTrailingZeros_0f7a4_58 rfl ?_
          refine G_iconst 4 dr_cJ6_numberOfTrailingZeros_0f7a4_59 (by decide +kernel) ?_
          refine G_iushr dr_cJ6_numberOfTrailingZeros_0f7a4_60 (G_nam fun z2153 hz2153 => ?_)
          have bz2153 : gB z2153 (-2147483648) 2147483647 := gB_any z2153
          refine G_istore_n (L' := [(0, .int z2153), (1, .int 13)]) dr_cJ6_numberOfTrailingZeros_0f7a4_61 (Nat.le_of_ble_eq_true rfl) rfl ?_
          refine G_iload_n 0 dr_cJ6_numberOfTrailingZeros_0f7a4_62 rfl ?_
          refine G_iconst 4 dr_cJ6_numberOfTrailingZeros_0f7a4_63 (by decide +kernel) ?_
          refine G_icmp_le 74 dr_cJ6_numberOfTrailingZeros_0f7a4_64 (by decide +kernel) (fun hc2154 => ?_) (fun hc2154 => ?_)
          · have r2155 : z2153.toInt ≤ 4 := gj_le hc2154 (show Int32.toInt 4 = 4 by decide)
            have bz2153' : gB z2153 (-2147483648) 4 := ⟨by omega, by omega⟩
            refine G_iload_n 1 dr_cJ6_numberOfTrailingZeros_0f7a4_74 rfl ?_
            refine G_iload_n 0 dr_cJ6_numberOfTrailingZeros_0f7a4_75 rfl ?_
            refine G_iconst 1 dr_cJ6_numberOfTrailingZeros_0f7a4_76 (by decide +kernel) ?_
            refine G_iushr dr_cJ6_numberOfTrailingZeros_0f7a4_77 (G_nam fun z2156 hz2156 => ?_)
            have bz2156 : gB z2156 (-2147483648) 2147483647 := gB_any z2156
            refine G_iadd dr_cJ6_numberOfTrailingZeros_0f7a4_78 (G_nam fun z2157 hz2157 => ?_)
            have bz2157 : gB z2157 (-2147483648) 2147483647 := gB_any z2157
            exact G_iretA dr_cJ6_numberOfTrailingZeros_0f7a4_79 rfl (Nat.le_of_ble_eq_true rfl) (Nat.le_of_ble_eq_true rfl) ⟨z2157, rfl, rfl, (Nat.le_of_ble_eq_true rfl), (Nat.le_of_ble_eq_true rfl)⟩
          · have r2158 : 4 < z2153.toInt := gj_nle hc2154 (show Int32.toInt 4 = 4 by decide)
            have bz2153' : gB z2153 5 2147483647 := ⟨by omega, by omega⟩
            refine G_iinc (L' := [(1, .int 15), (0, .int z2153)]) (15) 1 dr_cJ6_numberOfTrailingZeros_0f7a4_67 rfl (by decide) (Nat.le_of_ble_eq_true rfl) rfl ?_
            refine G_iload_n 1 dr_cJ6_numberOfTrailingZeros_0f7a4_70 rfl ?_
            refine G_iconst 2 dr_cJ6_numberOfTrailingZeros_0f7a4_71 (by decide +kernel) ?_
            refine G_iushr dr_cJ6_numberOfTrailingZeros_0f7a4_72 (G_nam fun z2159 hz2159 => ?_)
            have bz2159 : gB z2159 (-2147483648) 2147483647 := gB_any z2159
            refine G_istore_n (L' := [(0, .int z2159), (1, .int 15)]) dr_cJ6_numberOfTrailingZeros_0f7a4_73 (Nat.le_of_ble_eq_true rfl) rfl ?_
            refine G_iload_n 1 dr_cJ6_numberOfTrailingZeros_0f7a4_74 rfl ?_
            refine G_iload_n 0 dr_cJ6_numberOfTrailingZeros_0f7a4_75 rfl ?_
            refine G_iconst 1 dr_cJ6_numberOfTrailingZeros_0f7a4_76 (by decide +kernel) ?_
            refine G_iushr dr_cJ6_numberOfTrailingZeros_0f7a4_77 (G_nam fun z2160 hz2160 => ?_)
            have bz2160 : gB z2160 (-2147483648) 2147483647 := gB_any z2160
            refine G_iadd dr_cJ6_numberOfTrailingZeros_0f7a4_78 (G_nam fun z2161 hz2161 => ?_)
            have bz2161 : gB z2161 (-2147483648) 2147483647 := gB_any z2161
            exact G_iretA dr_cJ6_numberOfTrailingZeros_0f7a4_79 rfl (Nat.le_of_ble_eq_true rfl) (Nat.le_of_ble_eq_true rfl) ⟨z2161, rfl, rfl, (Nat.le_of_ble_eq_true rfl), (Nat.le_of_ble_eq_true rfl)⟩
    · have r2162 : 65536 < z2113.toInt := gj_nle hc2116 (show Int32.toInt 65536 = 65536 by decide)
      have bz2113'' : gB z2113 65537 2147483647 := ⟨by omega, by omega⟩
      refine G_iinc (L' := [(1, .int 17), (0, .int z2113)]) (17) 0 dr_cJ6_numberOfTrailingZeros_0f7a4_26 rfl (by decide) (Nat.le_of_ble_eq_true rfl) rfl ?_
      refine G_iload_n 1 dr_cJ6_numberOfTrailingZeros_0f7a4_29 rfl ?_
      refine G_bipush 16 dr_cJ6_numberOfTrailingZeros_0f7a4_30 (by decide +kernel) ?_
      refine G_iushr dr_cJ6_numberOfTrailingZeros_0f7a4_32 (G_nam fun z2163 hz2163 => ?_)
      have bz2163 : gB z2163 (-2147483648) 2147483647 := gB_any z2163
      refine G_istore_n (L' := [(0, .int z2163), (1, .int 17)]) dr_cJ6_numberOfTrailingZeros_0f7a4_33 (Nat.le_of_ble_eq_true rfl) rfl ?_
      refine G_iload_n 0 dr_cJ6_numberOfTrailingZeros_0f7a4_34 rfl ?_
      refine G_sipush 256 dr_cJ6_numberOfTrailingZeros_0f7a4_35 (by decide +kernel) ?_
      refine G_icmp_le 49 dr_cJ6_numberOfTrailingZeros_0f7a4_38 (by decide +kernel) (fun hc2164 => ?_) (fun hc2164 => ?_)
      · have r2165 : z2163.toInt ≤ 256 := gj_le hc2164 (show Int32.toInt 256 = 256 by decide)
        have bz2163' : gB z2163 (-2147483648) 256 := ⟨by omega, by omega⟩
        refine G_iload_n 0 dr_cJ6_numberOfTrailingZeros_0f7a4_49 rfl ?_
        refine G_bipush 16 dr_cJ6_numberOfTrailingZeros_0f7a4_50 (by decide +kernel) ?_
        refine G_icmp_le 62 dr_cJ6_numberOfTrailingZeros_0f7a4_52 (by decide +kernel) (fun hc2166 => ?_) (fun hc2166 => ?_)
        · have r2167 : z2163.toInt ≤ 16 := gj_le hc2166 (show Int32.toInt 16 = 16 by decide)
          have bz2163'' : gB z2163 (-2147483648) 16 := ⟨by omega, by omega⟩
          refine G_iload_n 0 dr_cJ6_numberOfTrailingZeros_0f7a4_62 rfl ?_
          refine G_iconst 4 dr_cJ6_numberOfTrailingZeros_0f7a4_63 (by decide +kernel) ?_
          refine G_icmp_le 74 dr_cJ6_numberOfTrailingZeros_0f7a4_64 (by decide +kernel) (fun hc2168 => ?_) (fun hc2168 => ?_)
          · have r2169 : z2163.toInt ≤ 4 := gj_le hc2168 (show Int32.toInt 4 = 4 by decide)
            have bz2163''' : gB z2163 (-2147483648) 4 := ⟨by omega, by omega⟩
            refine G_iload_n 1 dr_cJ6_numberOfTrailingZeros_0f7a4_74 rfl ?_
            refine G_iload_n 0 dr_cJ6_numberOfTrailingZeros_0f7a4_75 rfl ?_
            refine G_iconst 1 dr_cJ6_numberOfTrailingZeros_0f7a4_76 (by decide +kernel) ?_
            refine G_iushr dr_cJ6_numberOfTrailingZeros_0f7a4_77 (G_nam fun z2170 hz2170 => ?_)
            have bz2170 : gB z2170 (-2147483648) 2147483647 := gB_any z2170
            refine G_iadd dr_cJ6_numberOfTrailingZeros_0f7a4_78 (G_nam fun z2171 hz2171 => ?_)
            have bz2171 : gB z2171 (-2147483648) 2147483647 := gB_any z2171
            exact G_iretA dr_cJ6_numberOfTrailingZeros_0f7a4_79 rfl (Nat.le_of_ble_eq_true rfl) (Nat.le_of_ble_eq_true rfl) ⟨z2171, rfl, rfl, (Nat.le_of_ble_eq_true rfl), (Nat.le_of_ble_eq_true rfl)⟩
          · have r2172 : 4 < z2163.toInt := gj_nle hc2168 (show Int32.toInt 4 = 4 by decide)
            have bz2163''' : gB z2163 5 16 := ⟨by omega, by omega⟩
            refine G_iinc (L' := [(1, .int 19), (0, .int z2163)]) (19) 1 dr_cJ6_numberOfTrailingZeros_0f7a4_67 rfl (by decide) (Nat.le_of_ble_eq_true rfl) rfl ?_
            refine G_iload_n 1 dr_cJ6_numberOfTrailingZeros_0f7a4_70 rfl ?_
            refine G_iconst 2 dr_cJ6_numberOfTrailingZeros_0f7a4_71 (by decide +kernel) ?_
            refine G_iushr dr_cJ6_numberOfTrailingZeros_0f7a4_72 (G_nam fun z2173 hz2173 => ?_)
            have bz2173 : gB z2173 (-2147483648) 2147483647 := gB_any z2173
            refine G_istore_n (L' := [(0, .int z2173), (1, .int 19)]) dr_cJ6_numberOfTrailingZeros_0f7a4_73 (Nat.le_of_ble_eq_true rfl) rfl ?_
            refine G_iload_n 1 dr_cJ6_numberOfTrailingZeros_0f7a4_74 rfl ?_
            refine G_iload_n 0 dr_cJ6_numberOfTrailingZeros_0f7a4_75 rfl ?_
            refine G_iconst 1 dr_cJ6_numberOfTrailingZeros_0f7a4_76 (by decide +kernel) ?_
            refine G_iushr dr_cJ6_numberOfTrailingZeros_0f7a4_77 (G_nam fun z2174 hz2174 => ?_)
            have bz2174 : gB z2174 (-2147483648) 2147483647 := gB_any z2174
            refine G_iadd dr_cJ6_numberOfTrailingZeros_0f7a4_78 (G_nam fun z2175 hz2175 => ?_)
            have bz2175 : gB z2175 (-2147483648) 2147483647 := gB_any z2175
            exact G_iretA dr_cJ6_numberOfTrailingZeros_0f7a4_79 rfl (Nat.le_of_ble_eq_true rfl) (Nat.le_of_ble_eq_true rfl) ⟨z2175, rfl, rfl, (Nat.le_of_ble_eq_true rfl), (Nat.le_of_ble_eq_true rfl)⟩
        · have r2176 : 16 < z2163.toInt := gj_nle hc2166 (show Int32.toInt 16 = 16 by decide)
          have bz2163'' : gB z2163 17 256 := ⟨by omega, by omega⟩
          refine G_iinc (L' := [(1, .int 21), (0, .int z2163)]) (21) 1 dr_cJ6_numberOfTrailingZeros_0f7a4_55 rfl (by decide) (Nat.le_of_ble_eq_true rfl) rfl ?_
          refine G_iload_n 1 dr_cJ6_numberOfTrailingZeros_0f7a4_58 rfl ?_
          refine G_iconst 4 dr_cJ6_numberOfTrailingZeros_0f7a4_59 (by decide +kernel) ?_
          refine G_iushr dr_cJ6_numberOfTrailingZeros_0f7a4_60 (G_nam fun z2177 hz2177 => ?_)
          have bz2177 : gB z2177 (-2147483648) 2147483647 := gB_any z2177
          refine G_istore_n (L' := [(0, .int z2177), (1, .int 21)]) dr_cJ6_numberOfTrailingZeros_0f7a4_61 (Nat.le_of_ble_eq_true rfl) rfl ?_
          refine G_iload_n 0 dr_cJ6_numberOfTrailingZeros_0f7a4_62 rfl ?_
          refine G_iconst 4 dr_cJ6_numberOfTrailingZeros_0f7a4_63 (by decide +kernel) ?_
          refine G_icmp_le 74 dr_cJ6_numberOfTrailingZeros_0f7a4_64 (by decide +kernel) (fun hc2178 => ?_) (fun hc2178 => ?_)
          · have r2179 : z2177.toInt ≤ 4 := gj_le hc2178 (show Int32.toInt 4 = 4 by decide)
            have bz2177' : gB z2177 (-2147483648) 4 := ⟨by omega, by omega⟩
            refine G_iload_n 1 dr_cJ6_numberOfTrailingZeros_0f7a4_74 rfl ?_
            refine G_iload_n 0 dr_cJ6_numberOfTrailingZeros_0f7a4_75 rfl ?_
            refine G_iconst 1 dr_cJ6_numberOfTrailingZeros_0f7a4_76 (by decide +kernel) ?_
            refine G_iushr dr_cJ6_numberOfTrailingZeros_0f7a4_77 (G_nam fun z2180 hz2180 => ?_)
            have bz2180 : gB z2180 (-2147483648) 2147483647 := gB_any z2180
            refine G_iadd dr_cJ6_numberOfTrailingZeros_0f7a4_78 (G_nam fun z2181 hz2181 => ?_)
            have bz2181 : gB z2181 (-2147483648) 2147483647 := gB_any z2181
            exact G_iretA dr_cJ6_numberOfTrailingZeros_0f7a4_79 rfl (Nat.le_of_ble_eq_true rfl) (Nat.le_of_ble_eq_true rfl) ⟨z2181, rfl, rfl, (Nat.le_of_ble_eq_true rfl), (Nat.le_of_ble_eq_true rfl)⟩
          · have r2182 : 4 < z2177.toInt := gj_nle hc2178 (show Int32.toInt 4 = 4 by decide)
            have bz2177' : gB z2177 5 2147483647 := ⟨by omega, by omega⟩
            refine G_iinc (L' := [(1, .int 23), (0, .int z2177)]) (23) 1 dr_cJ6_numberOfTrailingZeros_0f7a4_67 rfl (by decide) (Nat.le_of_ble_eq_true rfl) rfl ?_
            refine G_iload_n 1 dr_cJ6_numberOfTrailingZeros_0f7a4_70 rfl ?_
            refine G_iconst 2 dr_cJ6_numberOfTrailingZeros_0f7a4_71 (by decide +kernel) ?_
            refine G_iushr dr_cJ6_numberOfTrailingZeros_0f7a4_72 (G_nam fun z2183 hz2183 => ?_)
            have bz2183 : gB z2183 (-2147483648) 2147483647 := gB_any z2183
            refine G_istore_n (L' := [(0, .int z2183), (1, .int 23)]) dr_cJ6_numberOfTrailingZeros_0f7a4_73 (Nat.le_of_ble_eq_true rfl) rfl ?_
            refine G_iload_n 1 dr_cJ6_numberOfTrailingZeros_0f7a4_74 rfl ?_
            refine G_iload_n 0 dr_cJ6_numberOfTrailingZeros_0f7a4_75 rfl ?_
            refine G_iconst 1 dr_cJ6_numberOfTrailingZeros_0f7a4_76 (by decide +kernel) ?_
            refine G_iushr dr_cJ6_numberOfTrailingZeros_0f7a4_77 (G_nam fun z2184 hz2184 => ?_)
            have bz2184 : gB z2184 (-2147483648) 2147483647 := gB_any z2184
            refine G_iadd dr_cJ6_numberOfTrailingZeros_0f7a4_78 (G_nam fun z2185 hz2185 => ?_)
            have bz2185 : gB z2185 (-2147483648) 2147483647 := gB_any z2185
            exact G_iretA dr_cJ6_numberOfTrailingZeros_0f7a4_79 rfl (Nat.le_of_ble_eq_true rfl) (Nat.le_of_ble_eq_true rfl) ⟨z2185, rfl, rfl, (Nat.le_of_ble_eq_true rfl), (Nat.le_of_ble_eq_true rfl)⟩
      · have r2186 : 256 < z2163.toInt := gj_nle hc2164 (show Int32.toInt 256 = 256 by decide)
        have bz2163' : gB z2163 257 2147483647 := ⟨by omega, by omega⟩
        refine G_iinc (L' := [(1, .int 25), (0, .int z2163)]) (25) 1 dr_cJ6_numberOfTrailingZeros_0f7a4_41 rfl (by decide) (Nat.le_of_ble_eq_true rfl) rfl ?_
        refine G_iload_n 1 dr_cJ6_numberOfTrailingZeros_0f7a4_44 rfl ?_
        refine G_bipush 8 dr_cJ6_numberOfTrailingZeros_0f7a4_45 (by decide +kernel) ?_
        refine G_iushr dr_cJ6_numberOfTrailingZeros_0f7a4_47 (G_nam fun z2187 hz2187 => ?_)
        have bz2187 : gB z2187 (-2147483648) 2147483647 := gB_any z2187
        refine G_istore_n (L' := [(0, .int z2187), (1, .int 25)]) dr_cJ6_numberOfTrailingZeros_0f7a4_48 (Nat.le_of_ble_eq_true rfl) rfl ?_
        refine G_iload_n 0 dr_cJ6_numberOfTrailingZeros_0f7a4_49 rfl ?_
        refine G_bipush 16 dr_cJ6_numberOfTrailingZeros_0f7a4_50 (by decide +kernel) ?_
        refine G_icmp_le 62 dr_cJ6_numberOfTrailingZeros_0f7a4_52 (by decide +kernel) (fun hc2188 => ?_) (fun hc2188 => ?_)
        · have r2189 : z2187.toInt ≤ 16 := gj_le hc2188 (show Int32.toInt 16 = 16 by decide)
          have bz2187' : gB z2187 (-2147483648) 16 := ⟨by omega, by omega⟩
          refine G_iload_n 0 dr_cJ6_numberOfTrailingZeros_0f7a4_62 rfl ?_
          refine G_iconst 4 dr_cJ6_numberOfTrailingZeros_0f7a4_63 (by decide +kernel) ?_
          refine G_icmp_le 74 dr_cJ6_numberOfTrailingZeros_0f7a4_64 (by decide +kernel) (fun hc2190 => ?_) (fun hc2190 => ?_)
          · have r2191 : z2187.toInt ≤ 4 := gj_le hc2190 (show Int32.toInt 4 = 4 by decide)
            have bz2187'' : gB z2187 (-2147483648) 4 := ⟨by omega, by omega⟩
            refine G_iload_n 1 dr_cJ6_numberOfTrailingZeros_0f7a4_74 rfl ?_
            refine G_iload_n 0 dr_cJ6_numberOfTrailingZeros_0f7a4_75 rfl ?_
            refine G_iconst 1 dr_cJ6_numberOfTrailingZeros_0f7a4_76 (by decide +kernel) ?_
            refine G_iushr dr_cJ6_numberOfTrailingZeros_0f7a4_77 (G_nam fun z2192 hz2192 => ?_)
            have bz2192 : gB z2192 (-2147483648) 2147483647 := gB_any z2192
            refine G_iadd dr_cJ6_numberOfTrailingZeros_0f7a4_78 (G_nam fun z2193 hz2193 => ?_)
            have bz2193 : gB z2193 (-2147483648) 2147483647 := gB_any z2193
            exact G_iretA dr_cJ6_numberOfTrailingZeros_0f7a4_79 rfl (Nat.le_of_ble_eq_true rfl) (Nat.le_of_ble_eq_true rfl) ⟨z2193, rfl, rfl, (Nat.le_of_ble_eq_true rfl), (Nat.le_of_ble_eq_true rfl)⟩
          · have r2194 : 4 < z2187.toInt := gj_nle hc2190 (show Int32.toInt 4 = 4 by decide)
            have bz2187'' : gB z2187 5 16 := ⟨by omega, by omega⟩
            refine G_iinc (L' := [(1, .int 27), (0, .int z2187)]) (27) 1 dr_cJ6_numberOfTrailingZeros_0f7a4_67 rfl (by decide) (Nat.le_of_ble_eq_true rfl) rfl ?_
            refine G_iload_n 1 dr_cJ6_numberOfTrailingZeros_0f7a4_70 rfl ?_
            refine G_iconst 2 dr_cJ6_numberOfTrailingZeros_0f7a4_71 (by decide +kernel) ?_
            refine G_iushr dr_cJ6_numberOfTrailingZeros_0f7a4_72 (G_nam fun z2195 hz2195 => ?_)
            have bz2195 : gB z2195 (-2147483648) 2147483647 := gB_any z2195
            refine G_istore_n (L' := [(0, .int z2195), (1, .int 27)]) dr_cJ6_numberOfTrailingZeros_0f7a4_73 (Nat.le_of_ble_eq_true rfl) rfl ?_
            refine G_iload_n 1 dr_cJ6_numberOfTrailingZeros_0f7a4_74 rfl ?_
            refine G_iload_n 0 dr_cJ6_numberOfTrailingZeros_0f7a4_75 rfl ?_
            refine G_iconst 1 dr_cJ6_numberOfTrailingZeros_0f7a4_76 (by decide +kernel) ?_
            refine G_iushr dr_cJ6_numberOfTrailingZeros_0f7a4_77 (G_nam fun z2196 hz2196 => ?_)
            have bz2196 : gB z2196 (-2147483648) 2147483647 := gB_any z2196
            refine G_iadd dr_cJ6_numberOfTrailingZeros_0f7a4_78 (G_nam fun z2197 hz2197 => ?_)
            have bz2197 : gB z2197 (-2147483648) 2147483647 := gB_any z2197
            exact G_iretA dr_cJ6_numberOfTrailingZeros_0f7a4_79 rfl (Nat.le_of_ble_eq_true rfl) (Nat.le_of_ble_eq_true rfl) ⟨z2197, rfl, rfl, (Nat.le_of_ble_eq_true rfl), (Nat.le_of_ble_eq_true rfl)⟩
        · have r2198 : 16 < z2187.toInt := gj_nle hc2188 (show Int32.toInt 16 = 16 by decide)
          have bz2187' : gB z2187 17 2147483647 := ⟨by omega, by omega⟩
          refine G_iinc (L' := [(1, .int 29), (0, .int z2187)]) (29) 1 dr_cJ6_numberOfTrailingZeros_0f7a4_55 rfl (by decide) (Nat.le_of_ble_eq_true rfl) rfl ?_
          refine G_iload_n 1 dr_cJ6_numberOfTrailingZeros_0f7a4_58 rfl ?_
          refine G_iconst 4 dr_cJ6_numberOfTrailingZeros_0f7a4_59 (by decide +kernel) ?_
          refine G_iushr dr_cJ6_numberOfTrailingZeros_0f7a4_60 (G_nam fun z2199 hz2199 => ?_)
          have bz2199 : gB z2199 (-2147483648) 2147483647 := gB_any z2199
          refine G_istore_n (L' := [(0, .int z2199), (1, .int 29)]) dr_cJ6_numberOfTrailingZeros_0f7a4_61 (Nat.le_of_ble_eq_true rfl) rfl ?_
          refine G_iload_n 0 dr_cJ6_numberOfTrailingZeros_0f7a4_62 rfl ?_
          refine G_iconst 4 dr_cJ6_numberOfTrailingZeros_0f7a4_63 (by decide +kernel) ?_
          refine G_icmp_le 74 dr_cJ6_numberOfTrailingZeros_0f7a4_64 (by decide +kernel) (fun hc2200 => ?_) (fun hc2200 => ?_)
          · have r2201 : z2199.toInt ≤ 4 := gj_le hc2200 (show Int32.toInt 4 = 4 by decide)
            have bz2199' : gB z2199 (-2147483648) 4 := ⟨by omega, by omega⟩
            refine G_iload_n 1 dr_cJ6_numberOfTrailingZeros_0f7a4_74 rfl ?_
            refine G_iload_n 0 dr_cJ6_numberOfTrailingZeros_0f7a4_75 rfl ?_
            refine G_iconst 1 dr_cJ6_numberOfTrailingZeros_0f7a4_76 (by decide +kernel) ?_
            refine G_iushr dr_cJ6_numberOfTrailingZeros_0f7a4_77 (G_nam fun z2202 hz2202 => ?_)
            have bz2202 : gB z2202 (-2147483648) 2147483647 := gB_any z2202
            refine G_iadd dr_cJ6_numberOfTrailingZeros_0f7a4_78 (G_nam fun z2203 hz2203 => ?_)
            have bz2203 : gB z2203 (-2147483648) 2147483647 := gB_any z2203
            exact G_iretA dr_cJ6_numberOfTrailingZeros_0f7a4_79 rfl (Nat.le_of_ble_eq_true rfl) (Nat.le_of_ble_eq_true rfl) ⟨z2203, rfl, rfl, (Nat.le_of_ble_eq_true rfl), (Nat.le_of_ble_eq_true rfl)⟩
          · have r2204 : 4 < z2199.toInt := gj_nle hc2200 (show Int32.toInt 4 = 4 by decide)
            have bz2199' : gB z2199 5 2147483647 := ⟨by omega, by omega⟩
            refine G_iinc (L' := [(1, .int 31), (0, .int z2199)]) (31) 1 dr_cJ6_numberOfTrailingZeros_0f7a4_67 rfl (by decide) (Nat.le_of_ble_eq_true rfl) rfl ?_
            refine G_iload_n 1 dr_cJ6_numberOfTrailingZeros_0f7a4_70 rfl ?_
            refine G_iconst 2 dr_cJ6_numberOfTrailingZeros_0f7a4_71 (by decide +kernel) ?_
            refine G_iushr dr_cJ6_numberOfTrailingZeros_0f7a4_72 (G_nam fun z2205 hz2205 => ?_)
            have bz2205 : gB z2205 (-2147483648) 2147483647 := gB_any z2205
            refine G_istore_n (L' := [(0, .int z2205), (1, .int 31)]) dr_cJ6_numberOfTrailingZeros_0f7a4_73 (Nat.le_of_ble_eq_true rfl) rfl ?_
            refine G_iload_n 1 dr_cJ6_numberOfTrailingZeros_0f7a4_74 rfl ?_
            refine G_iload_n 0 dr_cJ6_numberOfTrailingZeros_0f7a4_75 rfl ?_
            refine G_iconst 1 dr_cJ6_numberOfTrailingZeros_0f7a4_76 (by decide +kernel) ?_
            refine G_iushr dr_cJ6_numberOfTrailingZeros_0f7a4_77 (G_nam fun z2206 hz2206 => ?_)
            have bz2206 : gB z2206 (-2147483648) 2147483647 := gB_any z2206
            refine G_iadd dr_cJ6_numberOfTrailingZeros_0f7a4_78 (G_nam fun z2207 hz2207 => ?_)
            have bz2207 : gB z2207 (-2147483648) 2147483647 := gB_any z2207
            exact G_iretA dr_cJ6_numberOfTrailingZeros_0f7a4_79 rfl (Nat.le_of_ble_eq_true rfl) (Nat.le_of_ble_eq_true rfl) ⟨z2207, rfl, rfl, (Nat.le_of_ble_eq_true rfl), (Nat.le_of_ble_eq_true rfl)⟩
  · have r2208 : z2113.toInt ≤ 0 := gj_nltL hc2114 (show Int32.toInt 0 = 0 by decide)
    have bz2113' : gB z2113 (-2147483648) 0 := ⟨by omega, by omega⟩
    refine G_iload_n 0 dr_cJ6_numberOfTrailingZeros_0f7a4_12 rfl ?_
    refine G_bipush 32 dr_cJ6_numberOfTrailingZeros_0f7a4_13 (by decide +kernel) ?_
    refine G_iand dr_cJ6_numberOfTrailingZeros_0f7a4_15 (G_nam fun z2209 hz2209 => ?_)
    have bz2209 : gB z2209 0 32 := gB_and hz2209 (gBl (show Int32.toInt 32 = 32 by decide)) (by decide)
    exact G_iretA dr_cJ6_numberOfTrailingZeros_0f7a4_16 rfl (Nat.le_of_ble_eq_true rfl) (Nat.le_of_ble_eq_true rfl) ⟨z2209, rfl, rfl, (Nat.le_of_ble_eq_true rfl), (Nat.le_of_ble_eq_true rfl)⟩
abbrev ky_2103_Long_numberOfTrailingZeros : gKey := (cJ13_numberOfTrailingZeros_95d88, 3, "java/lang/Long", (some FieldType.int), [], "numberOfTrailingZeros", fun _ _ => True)
def pp_2103_Long_numberOfTrailingZeros (D : va_G) (I : FieldType → ClassId) (P2100 : List Nat) (F2101 : Nat → va_E) (pl2102 : Int64) : Option Value → va_W → Nat → Nat → Prop := fun r w dc ds => (∃ (o2216 : Int32) (z2104 : Int32), r = some (.int o2216) ∧ w = va_pl P2100 F2101 ∧ dc ≤ 0 ∧ ds ≤ 0 ∧ z2104.toInt ≠ 0 ∧ gB o2216 (-2147483648) 2147483647 ∧ gB z2104 (-2147483648) 2147483647) ∨ (∃ (z2226 : Int32) (z2104 : Int32), r = some (.int z2226) ∧ w = va_pl P2100 F2101 ∧ dc ≤ 0 ∧ ds ≤ 0 ∧ z2104.toInt = 0 ∧ gB z2226 (-2147483648) 2147483647 ∧ gB z2104 0 0)
set_option maxRecDepth 100000 in
set_option maxHeartbeats 4000000 in
theorem cp_2103_Long_numberOfTrailingZeros (l : Launch) (hl0 : l.stackTraces = false) (D : va_G) (I : FieldType → ClassId) (P2100 : List Nat) (F2101 : Nat → va_E) (pl2102 : Int64)  : CtA (gV D I) l yJ13_numberOfTrailingZeros_95d88 cJ13_numberOfTrailingZeros_95d88 3 (some FieldType.int) 1 21 0 0 [.long pl2102] (va_pl P2100 F2101) (pp_2103_Long_numberOfTrailingZeros D I P2100 F2101 pl2102) gNA := by
  refine CtA_ofF hl0 (by decide +kernel) (Nat.le_of_ble_eq_true rfl) ?_
  refine G_lload_n 0 dr_cJ13_numberOfTrailingZeros_95d88_0 rfl ?_
  refine G_l2i dr_cJ13_numberOfTrailingZeros_95d88_1 (G_nam fun z2104 hz2104 => ?_)
  have bz2104 : gB z2104 (-2147483648) 2147483647 := gB_any z2104
  refine G_istore_n (L' := [(2, .int z2104), (0, .long pl2102)]) dr_cJ13_numberOfTrailingZeros_95d88_2 (Nat.le_of_ble_eq_true rfl) rfl ?_
  refine G_iload_n 0 dr_cJ13_numberOfTrailingZeros_95d88_3 rfl ?_
  refine G_if_ne 21 dr_cJ13_numberOfTrailingZeros_95d88_4 (by decide +kernel) (fun hc2105 => ?_) (fun hc2105 => ?_)
  · have r2106 : z2104.toInt ≠ 0 := gj_neq hc2105 (show Int32.toInt 0 = 0 by decide)
    refine G_iload_n 0 dr_cJ13_numberOfTrailingZeros_95d88_21 rfl ?_
    refine Gw_callS (As := [.int z2104]) (gV_ok D I) (cp_2110_Integer_numberOfTrailingZeros l hl0 D I P2100 F2101 z2104 ) dr_cJ13_numberOfTrailingZeros_95d88_22 ⟨wr_11_4, wr_1_35, wr_11_6, by decide, rfl, (Nat.le_of_ble_eq_true rfl), (Nat.le_of_ble_eq_true rfl)⟩ wr_11_5 (show 0 + 0 ≤ 0 by first | omega | decide) (show 0 + 0 ≤ 0 by first | omega | decide) (Nat.le_of_ble_eq_true rfl) (fun r2214 w2215 dc2211 ds2212 hp2213 => ?_) (fun _ _ _ _ _ z => z.elim)
    obtain ⟨o2216, rfl, rfl, hdc, hds⟩ := hp2213
    have bo2216 := gB_any o2216
    change G _ _ _ _ _ _ _ (.int o2216 :: _) _ _ _
    refine G_widen (cs' := 0) (sl' := 0) (by omega) (by omega) ?_
    exact G_iretA dr_cJ13_numberOfTrailingZeros_95d88_25 rfl (Nat.le_of_ble_eq_true rfl) (Nat.le_of_ble_eq_true rfl) (Or.inl ⟨o2216, z2104, rfl, rfl, (Nat.le_of_ble_eq_true rfl), (Nat.le_of_ble_eq_true rfl), r2106, bo2216, bz2104⟩)
  · have r2217 : z2104.toInt = 0 := gj_eq hc2105 (show Int32.toInt 0 = 0 by decide)
    have bz2104' : gB z2104 0 0 := ⟨by omega, by omega⟩
    refine G_bipush 32 dr_cJ13_numberOfTrailingZeros_95d88_7 (by decide +kernel) ?_
    refine G_lload_n 1 dr_cJ13_numberOfTrailingZeros_95d88_9 rfl ?_
    refine G_bipush 32 dr_cJ13_numberOfTrailingZeros_95d88_10 (by decide +kernel) ?_
    refine G_lushr dr_cJ13_numberOfTrailingZeros_95d88_12 (G_namL fun u2218 hu2218 => ?_)
    refine G_l2i dr_cJ13_numberOfTrailingZeros_95d88_13 (G_nam fun z2219 hz2219 => ?_)
    have bz2219 : gB z2219 (-2147483648) 2147483647 := gB_any z2219
    refine Gw_callS (As := [.int z2219]) (gV_ok D I) (cp_2110_Integer_numberOfTrailingZeros l hl0 D I P2100 F2101 z2219 ) dr_cJ13_numberOfTrailingZeros_95d88_14 ⟨wr_11_4, wr_1_35, wr_11_6, by decide, rfl, (Nat.le_of_ble_eq_true rfl), (Nat.le_of_ble_eq_true rfl)⟩ wr_11_5 (show 0 + 0 ≤ 0 by first | omega | decide) (show 0 + 0 ≤ 0 by first | omega | decide) (Nat.le_of_ble_eq_true rfl) (fun r2223 w2224 dc2220 ds2221 hp2222 => ?_) (fun _ _ _ _ _ z => z.elim)
    obtain ⟨o2225, rfl, rfl, hdc, hds⟩ := hp2222
    have bo2225 := gB_any o2225
    change G _ _ _ _ _ _ _ (.int o2225 :: _) _ _ _
    refine G_widen (cs' := 0) (sl' := 0) (by omega) (by omega) ?_
    refine G_iadd dr_cJ13_numberOfTrailingZeros_95d88_17 (G_nam fun z2226 hz2226 => ?_)
    have bz2226 : gB z2226 (-2147483648) 2147483647 := gB_any z2226
    refine G_goto 25 dr_cJ13_numberOfTrailingZeros_95d88_18 (by decide +kernel) ?_
    exact G_iretA dr_cJ13_numberOfTrailingZeros_95d88_25 rfl (Nat.le_of_ble_eq_true rfl) (Nat.le_of_ble_eq_true rfl) (Or.inr (⟨z2226, z2104, rfl, rfl, (Nat.le_of_ble_eq_true rfl), (Nat.le_of_ble_eq_true rfl), r2217, bz2226, bz2104'⟩))
abbrev ky_2230_Reader_isDigit : gKey := (cX14_isDigit, 1, "SpillForgeModel$Reader", (some FieldType.boolean), [], "isDigit", fun _ _ => True)
def pp_2230_Reader_isDigit (D : va_G) (I : FieldType → ClassId) (P2227 : List Nat) (F2228 : Nat → va_E) (p2229 : Int32) : Option Value → va_W → Nat → Nat → Prop := fun r w dc ds => (r = some (.int 0) ∧ w = va_pl P2227 F2228 ∧ dc ≤ 0 ∧ ds ≤ 0 ∧ p2229.toInt < 48) ∨ (r = some (.int 0) ∧ w = va_pl P2227 F2228 ∧ dc ≤ 0 ∧ ds ≤ 0 ∧ 48 ≤ p2229.toInt ∧ 57 < p2229.toInt) ∨ (r = some (.int 1) ∧ w = va_pl P2227 F2228 ∧ dc ≤ 0 ∧ ds ≤ 0 ∧ 48 ≤ p2229.toInt ∧ p2229.toInt ≤ 57)
set_option maxRecDepth 100000 in
set_option maxHeartbeats 4000000 in
theorem cp_2230_Reader_isDigit (l : Launch) (hl0 : l.stackTraces = false) (D : va_G) (I : FieldType → ClassId) (P2227 : List Nat) (F2228 : Nat → va_E) (p2229 : Int32)  : CtA (gV D I) l yX14_isDigit cX14_isDigit 1 (some FieldType.boolean) 0 0 0 0 [.int p2229] (va_pl P2227 F2228) (pp_2230_Reader_isDigit D I P2227 F2228 p2229) gNA := by
  refine CtA_of hl0 (by decide) (Nat.le_of_ble_eq_true rfl) ?_
  have bp2229 := gB_any p2229
  refine G_iload_n 0 dr_cX14_isDigit_0 rfl ?_
  refine G_bipush 48 dr_cX14_isDigit_1 (by decide +kernel) ?_
  refine G_icmp_lt 16 dr_cX14_isDigit_3 (by decide +kernel) (fun hc2231 => ?_) (fun hc2231 => ?_)
  · have r2232 : p2229.toInt < 48 := gj_lt hc2231 (show Int32.toInt 48 = 48 by decide)
    have bp2229' : gB p2229 (-2147483648) 47 := ⟨by omega, by omega⟩
    refine G_iconst 0 dr_cX14_isDigit_16 (by decide +kernel) ?_
    exact G_zretA FieldType.boolean dr_cX14_isDigit_17 rfl rfl (Nat.le_of_ble_eq_true rfl) (Nat.le_of_ble_eq_true rfl) (Or.inl ⟨rfl, rfl, (Nat.le_of_ble_eq_true rfl), (Nat.le_of_ble_eq_true rfl), r2232⟩)
  · have r2233 : 48 ≤ p2229.toInt := gj_nlt hc2231 (show Int32.toInt 48 = 48 by decide)
    have bp2229' : gB p2229 48 2147483647 := ⟨by omega, by omega⟩
    refine G_iload_n 0 dr_cX14_isDigit_6 rfl ?_
    refine G_bipush 57 dr_cX14_isDigit_7 (by decide +kernel) ?_
    refine G_icmp_gt 16 dr_cX14_isDigit_9 (by decide +kernel) (fun hc2234 => ?_) (fun hc2234 => ?_)
    · have r2235 : 57 < p2229.toInt := gj_ltL hc2234 (show Int32.toInt 57 = 57 by decide)
      have bp2229'' : gB p2229 58 2147483647 := ⟨by omega, by omega⟩
      refine G_iconst 0 dr_cX14_isDigit_16 (by decide +kernel) ?_
      exact G_zretA FieldType.boolean dr_cX14_isDigit_17 rfl rfl (Nat.le_of_ble_eq_true rfl) (Nat.le_of_ble_eq_true rfl) (Or.inr (Or.inl ⟨rfl, rfl, (Nat.le_of_ble_eq_true rfl), (Nat.le_of_ble_eq_true rfl), r2233, r2235⟩))
    · have r2236 : p2229.toInt ≤ 57 := gj_nltL hc2234 (show Int32.toInt 57 = 57 by decide)
      have bp2229'' : gB p2229 48 57 := ⟨by omega, by omega⟩
      refine G_iconst 1 dr_cX14_isDigit_12 (by decide +kernel) ?_
      refine G_goto 17 dr_cX14_isDigit_13 (by decide +kernel) ?_
      exact G_zretA FieldType.boolean dr_cX14_isDigit_17 rfl rfl (Nat.le_of_ble_eq_true rfl) (Nat.le_of_ble_eq_true rfl) (Or.inr (Or.inr (⟨rfl, rfl, (Nat.le_of_ble_eq_true rfl), (Nat.le_of_ble_eq_true rfl), r2233, r2236⟩)))
abbrev ky_2240_Reader_isLetter : gKey := (cX14_isLetter, 1, "SpillForgeModel$Reader", (some FieldType.boolean), [], "isLetter", fun _ _ => True)
def pp_2240_Reader_isLetter (D : va_G) (I : FieldType → ClassId) (P2237 : List Nat) (F2238 : Nat → va_E) (p2239 : Int32) : Option Value → va_W → Nat → Nat → Prop := fun r w dc ds => (r = some (.int 0) ∧ w = va_pl P2237 F2238 ∧ dc ≤ 0 ∧ ds ≤ 0 ∧ p2239.toInt < 97) ∨ (r = some (.int 0) ∧ w = va_pl P2237 F2238 ∧ dc ≤ 0 ∧ ds ≤ 0 ∧ 97 ≤ p2239.toInt ∧ 122 < p2239.toInt) ∨ (r = some (.int 1) ∧ w = va_pl P2237 F2238 ∧ dc ≤ 0 ∧ ds ≤ 0 ∧ 97 ≤ p2239.toInt ∧ p2239.toInt ≤ 122)
set_option maxRecDepth 100000 in
set_option maxHeartbeats 4000000 in
theorem cp_2240_Reader_isLetter (l : Launch) (hl0 : l.stackTraces = false) (D : va_G) (I : FieldType → ClassId) (P2237 : List Nat) (F2238 : Nat → va_E) (p2239 : Int32)  : CtA (gV D I) l yX14_isLetter cX14_isLetter 1 (some FieldType.boolean) 0 0 0 0 [.int p2239] (va_pl P2237 F2238) (pp_2240_Reader_isLetter D I P2237 F2238 p2239) gNA := by
  refine CtA_of hl0 (by decide) (Nat.le_of_ble_eq_true rfl) ?_
  have bp2239 := gB_any p2239
  refine G_iload_n 0 dr_cX14_isLetter_0 rfl ?_
  refine G_bipush 97 dr_cX14_isLetter_1 (by decide +kernel) ?_
  refine G_icmp_lt 16 dr_cX14_isLetter_3 (by decide +kernel) (fun hc2241 => ?_) (fun hc2241 => ?_)
  · have r2242 : p2239.toInt < 97 := gj_lt hc2241 (show Int32.toInt 97 = 97 by decide)
    have bp2239' : gB p2239 (-2147483648) 96 := ⟨by omega, by omega⟩
    refine G_iconst 0 dr_cX14_isLetter_16 (by decide +kernel) ?_
    exact G_zretA FieldType.boolean dr_cX14_isLetter_17 rfl rfl (Nat.le_of_ble_eq_true rfl) (Nat.le_of_ble_eq_true rfl) (Or.inl ⟨rfl, rfl, (Nat.le_of_ble_eq_true rfl), (Nat.le_of_ble_eq_true rfl), r2242⟩)
  · have r2243 : 97 ≤ p2239.toInt := gj_nlt hc2241 (show Int32.toInt 97 = 97 by decide)
    have bp2239' : gB p2239 97 2147483647 := ⟨by omega, by omega⟩
    refine G_iload_n 0 dr_cX14_isLetter_6 rfl ?_
    refine G_bipush 122 dr_cX14_isLetter_7 (by decide +kernel) ?_
    refine G_icmp_gt 16 dr_cX14_isLetter_9 (by decide +kernel) (fun hc2244 => ?_) (fun hc2244 => ?_)
    · have r2245 : 122 < p2239.toInt := gj_ltL hc2244 (show Int32.toInt 122 = 122 by decide)
      have bp2239'' : gB p2239 123 2147483647 := ⟨by omega, by omega⟩
      refine G_iconst 0 dr_cX14_isLetter_16 (by decide +kernel) ?_
      exact G_zretA FieldType.boolean dr_cX14_isLetter_17 rfl rfl (Nat.le_of_ble_eq_true rfl) (Nat.le_of_ble_eq_true rfl) (Or.inr (Or.inl ⟨rfl, rfl, (Nat.le_of_ble_eq_true rfl), (Nat.le_of_ble_eq_true rfl), r2243, r2245⟩))
    · have r2246 : p2239.toInt ≤ 122 := gj_nltL hc2244 (show Int32.toInt 122 = 122 by decide)
      have bp2239'' : gB p2239 97 122 := ⟨by omega, by omega⟩
      refine G_iconst 1 dr_cX14_isLetter_12 (by decide +kernel) ?_
      refine G_goto 17 dr_cX14_isLetter_13 (by decide +kernel) ?_
      exact G_zretA FieldType.boolean dr_cX14_isLetter_17 rfl rfl (Nat.le_of_ble_eq_true rfl) (Nat.le_of_ble_eq_true rfl) (Or.inr (Or.inr (⟨rfl, rfl, (Nat.le_of_ble_eq_true rfl), (Nat.le_of_ble_eq_true rfl), r2243, r2246⟩)))
abbrev ky_2252_SpillForgeModel_back : gKey := (cX17_back, 4, "SpillForgeModel", none, [], "back", fun _ _ => True)
def pt_2252_SpillForgeModel_back (D : va_G) (I : FieldType → ClassId) (γ el : Nat → Nat → Nat) (P2247 : List Nat) (F2248 : Nat → va_E) (q2249 : Nat) (q2250 : Nat) (p2251 : Int32) : Option Value → va_W → Nat → Nat → Prop := fun r w dc ds => ∃ (F2691 : Nat → va_E), r = none ∧ w = va_pl P2247 F2691 ∧ RS D I P2247 F2691 γ el ∧ rStr γ F2248 F2691 ∧ dc ≤ 0 ∧ ds ≤ 0
set_option maxRecDepth 100000 in
set_option maxHeartbeats 4000000 in
theorem ct_2252_SpillForgeModel_back (l : Launch) (hl0 : l.stackTraces = false) (D : va_G) (I : FieldType → ClassId) (γ el : Nat → Nat → Nat) (P2247 : List Nat) (F2248 : Nat → va_E) (q2249 : Nat) (q2250 : Nat) (p2251 : Int32) (hT : RS D I P2247 F2248 γ el) (htq2249 : rKd γ q2249 10) (htq2250 : rKd γ q2250 1) (bp2251 : gB p2251 0 1) : CtA (gV D I) l yX17_back cX17_back 4 none 2 41 0 0 [.ref q2249, .ref q2250, .int p2251] (va_pl P2247 F2248) (pt_2252_SpillForgeModel_back D I γ el P2247 F2248 q2249 q2250 p2251) gNA := by
  refine CtA_of hl0 (by decide) (Nat.le_of_ble_eq_true rfl) ?_
  refine G_aload_n 1 dr_cX17_back_0 rfl ?_
  refine G_iload_n 2 dr_cX17_back_1 rfl ?_
  have hm2253 : q2250 ∈ P2247 := RS_m hT htq2250 (by decide)
  obtain ⟨p2255, p2256, p2257, p2258, p2259, p2260, p2261, he2254, bp2255, bp2256, bp2259, bp2260, bp2261, r2262, r2263, r2264, r2265⟩ := show rk_1 γ q2250 (F2248 q2250) from RS_o hT htq2250
  have bp2257 := gB_any p2257
  have bp2258 := gB_any p2258
  refine Gw_callS (As := [.ref q2250, .int p2251]) (gV_ok D I) (cp_1778_SpillForgeModel_setOf l hl0 D I P2247 F2248 q2250 p2251 p2255 p2256 p2257 p2258 p2259 p2260 p2261 hm2253 he2254 bp2251 bp2255 bp2256 bp2259 bp2260 bp2261) dr_cX17_back_2 ⟨wr_10_178, wr_1_14, wr_10_180, by decide, rfl, (Nat.le_of_ble_eq_true rfl), (Nat.le_of_ble_eq_true rfl)⟩ wr_10_179 (show 0 + 0 ≤ 0 by first | omega | decide) (show 0 + 0 ≤ 0 by first | omega | decide) (Nat.le_of_ble_eq_true rfl) (fun r2269 w2270 dc2266 ds2267 hp2268 => ?_) (fun _ _ _ _ _ z => z.elim)
  obtain ⟨o2271, rfl, rfl, hdc, hds, bo2271⟩ := hp2268
  change G _ _ _ _ _ _ _ (.int o2271 :: _) _ _ _
  refine G_widen (cs' := 0) (sl' := 0) (by omega) (by omega) ?_
  refine G_istore_n (L' := [(3, .int o2271), (0, .ref q2249), (1, .ref q2250), (2, .int p2251)]) dr_cX17_back_5 (Nat.le_of_ble_eq_true rfl) rfl ?_
  refine G_iload_n 0 dr_cX17_back_6 rfl ?_
  refine G_if_lt 18 dr_cX17_back_7 (by decide +kernel) (fun hc2272 => ?_) (fun hc2272 => ?_)
  · have r2273 : o2271.toInt < 0 := gj_lt hc2272 (show Int32.toInt 0 = 0 by decide)
    have bo2271' : gB o2271 (-1) (-1) := ⟨by omega, by omega⟩
    refine G_iload_n 3 dr_cX17_back_18 rfl ?_
    refine G_if_eq 43 dr_cX17_back_19 (by decide +kernel) (fun hc2274 => ?_) (fun hc2274 => ?_)
    · have r2275 : p2251.toInt = 0 := gj_eq hc2274 (show Int32.toInt 0 = 0 by decide)
      have bp2251' : gB p2251 0 0 := ⟨by omega, by omega⟩
      refine G_aload_n 2 dr_cX17_back_43 rfl ?_
      refine Gw_callV (As := []) (gV_ok D I) (cp_1669_Row_usesA l hl0 D I P2247 F2248 q2250 p2255 p2256 p2257 p2258 p2259 p2260 p2261 hm2253 he2254 bp2255 bp2256 bp2259 bp2260 bp2261) dr_cX17_back_44 ⟨wr_10_192, wr_1_39, wr_10_195, by decide, rfl, (Nat.le_of_ble_eq_true rfl), (Nat.le_of_ble_eq_true rfl)⟩ wr_10_193 wr_10_194 hm2253 he2254 rfl (show 0 + 0 ≤ 0 by first | omega | decide) (show 0 + 0 ≤ 0 by first | omega | decide) (Nat.le_of_ble_eq_true rfl) (fun r2279 w2280 dc2276 ds2277 hp2278 => ?_) (fun _ _ _ _ _ z => z.elim)
      obtain ⟨o2281, rfl, rfl, hdc, hds, bo2281, x2282⟩ := hp2278
      change G _ _ _ _ _ _ _ (.int o2281 :: _) _ _ _
      refine G_widen (cs' := 0) (sl' := 0) (by omega) (by omega) ?_
      refine G_if_eq 61 dr_cX17_back_47 (by decide +kernel) (fun hc2283 => ?_) (fun hc2283 => ?_)
      · have r2284 : o2281.toInt = 0 := gj_eq hc2283 (show Int32.toInt 0 = 0 by decide)
        have bo2281' : gB o2281 0 0 := ⟨by omega, by omega⟩
        refine G_aload_n 2 dr_cX17_back_61 rfl ?_
        refine Gw_callV (As := []) (gV_ok D I) (cp_1693_Row_usesB l hl0 D I P2247 F2248 q2250 p2255 p2256 p2257 p2258 p2259 p2260 p2261 hm2253 he2254 bp2255 bp2256 bp2259 bp2260 bp2261) dr_cX17_back_62 ⟨wr_10_196, wr_1_39, wr_10_199, by decide, rfl, (Nat.le_of_ble_eq_true rfl), (Nat.le_of_ble_eq_true rfl)⟩ wr_10_197 wr_10_198 hm2253 he2254 rfl (show 0 + 0 ≤ 0 by first | omega | decide) (show 0 + 0 ≤ 0 by first | omega | decide) (Nat.le_of_ble_eq_true rfl) (fun r2288 w2289 dc2285 ds2286 hp2287 => ?_) (fun _ _ _ _ _ z => z.elim)
        obtain ⟨o2290, rfl, rfl, hdc, hds, bo2290, x2291⟩ := hp2287
        change G _ _ _ _ _ _ _ (.int o2290 :: _) _ _ _
        refine G_widen (cs' := 0) (sl' := 0) (by omega) (by omega) ?_
        refine G_if_eq 79 dr_cX17_back_65 (by decide +kernel) (fun hc2292 => ?_) (fun hc2292 => ?_)
        · have r2293 : o2290.toInt = 0 := gj_eq hc2292 (show Int32.toInt 0 = 0 by decide)
          have bo2290' : gB o2290 0 0 := ⟨by omega, by omega⟩
          exact G_vretA dr_cX17_back_79 rfl (Nat.le_of_ble_eq_true rfl) (Nat.le_of_ble_eq_true rfl) ⟨F2248, rfl, rfl, hT, (rStr_rf (γ := γ) (F := F2248)), (Nat.le_of_ble_eq_true rfl), (Nat.le_of_ble_eq_true rfl)⟩
        · have r2294 : o2290.toInt ≠ 0 := gj_neq hc2292 (show Int32.toInt 0 = 0 by decide)
          have bo2290' : gB o2290 1 1 := ⟨by omega, by omega⟩
          refine G_aload_n 1 dr_cX17_back_68 rfl ?_
          have hm2295 : q2249 ∈ P2247 := RS_m hT htq2249 (by decide)
          obtain ⟨q2297, q2298, p2299, p2300, p2301, p2302, p2303, p2304, p2305, p2306, p2307, p2308, p2309, p2310, p2311, p2312, p2313, he2296, hB2340, ht2314, ht2315, ht2316, ht2317, ht2318, ht2319, ht2320, ht2321, ht2322, ht2323, ht2324, ht2325, ht2326, ht2327, ht2328, ht2329, ht2330, ht2331, ht2332, ht2333, ht2334, ht2335, ht2336, ht2337, hB2341⟩ := show rk_10 γ (F2248 q2249) from RS_o hT htq2249
          refine Gp_get 2 hm2295 he2296 dr_cX17_back_69 (gk_X17 D I) (Nat.le_of_ble_eq_true rfl) wr_7_76 rfl ?_
          refine G_aload_n 2 dr_cX17_back_72 rfl ?_
          refine Gp_get 3 hm2253 he2254 dr_cX17_back_73 (gk_X15 D I) (Nat.le_of_ble_eq_true rfl) wr_9_190 rfl ?_
          have hm2342 : (γ 9 2) ∈ P2247 := RS_m hT ht2318 (by decide)
          obtain ⟨f2344, he2343, wf2344⟩ := show rk_35 I (F2248 (γ 9 2)) from RS_o hT ht2318
          refine Gw_callS (As := [.ref (γ 9 2), .int p2258]) (gV_ok D I) (cp_1853_SpillForgeModel_set l hl0 D I P2247 F2248 (γ 9 2) p2258 f2344 hm2342 he2343 ⟨by omega, by omega⟩ wf2344) dr_cX17_back_76 ⟨wr_10_189, wr_1_14, wr_10_191, by decide, rfl, (Nat.le_of_ble_eq_true rfl), (Nat.le_of_ble_eq_true rfl)⟩ wr_10_190 (show 0 + 0 ≤ 0 by first | omega | decide) (show 0 + 0 ≤ 0 by first | omega | decide) (Nat.le_of_ble_eq_true rfl) (fun r2348 w2349 dc2345 ds2346 hp2347 => ?_) (fun _ _ _ _ _ z => z.elim)
          obtain ⟨F2352, f2350, rfl, rfl, hfr2354, he2355, hdc, hds, x2351⟩ := hp2347
          have he2356 : F2352 q2250 = .inr (20, [.int p2255, .int p2256, .int p2257, .int p2258, .int p2259, .int p2260, .int p2261]) := (hfr2354 q2250 hm2253 (nm_c (rn_oa he2254 he2343) nm_n)).trans he2254
          have he2357 : F2352 q2249 = .inr (22, [.ref (γ 9 0), .ref (γ 9 1), .ref (γ 9 2), .ref (γ 9 3), .ref (γ 9 4), .ref (γ 9 5), .ref (γ 9 6), .ref (γ 9 7), .ref (γ 9 8), .int p2299, .int p2300, .int p2301, .int p2302, .int p2303, .int p2304, .ref (γ 9 15), .ref (γ 9 16), .ref (γ 9 17), .ref (γ 9 18), .ref (γ 9 19), .ref (γ 9 20), .ref (γ 9 21), .ref (γ 9 22), .int p2305, .int p2306, .int p2307, .int p2308, .int p2309, .ref q2297, .ref (γ 9 29), .int p2310, .ref (γ 9 31), .int p2311, .int p2312, .int p2313, .ref q2298]) := (hfr2354 q2249 hm2295 (nm_c (rn_oa he2296 he2343) nm_n)).trans he2296
          have hfr2358 : rFr [(γ 9 2)] P2247 F2248 F2352 := rFr_call (rSub_rf (P := P2247)) (rFr_rf (W := []) (P := P2247) (F := F2248)) hfr2354 (fun b hb hn => ⟨nm_n, (nm_c (fun e => hn (e ▸ List.mem_cons_self)) nm_n)⟩)
          change G _ _ _ _ _ _ _ _ _ _ _
          refine G_widen (cs' := 0) (sl' := 0) (by omega) (by omega) ?_
          have hT2359 : RS D I P2247 F2352 γ el := RS_fr hT hfr2358 ht2318 (by decide) ⟨f2350, he2355, x2351⟩
          have hs2360 : rStr γ F2248 F2352 := rStr_fr hT (rStr_rf (γ := γ) (F := F2248)) hfr2358 ht2318 (by decide)
          exact G_vretA dr_cX17_back_79 rfl (Nat.le_of_ble_eq_true rfl) (Nat.le_of_ble_eq_true rfl) ⟨F2352, rfl, rfl, hT2359, hs2360, (Nat.le_of_ble_eq_true rfl), (Nat.le_of_ble_eq_true rfl)⟩
      · have r2361 : o2281.toInt ≠ 0 := gj_neq hc2283 (show Int32.toInt 0 = 0 by decide)
        have bo2281' : gB o2281 1 1 := ⟨by omega, by omega⟩
        refine G_aload_n 1 dr_cX17_back_50 rfl ?_
        have hm2362 : q2249 ∈ P2247 := RS_m hT htq2249 (by decide)
        obtain ⟨q2364, q2365, p2366, p2367, p2368, p2369, p2370, p2371, p2372, p2373, p2374, p2375, p2376, p2377, p2378, p2379, p2380, he2363, hB2407, ht2381, ht2382, ht2383, ht2384, ht2385, ht2386, ht2387, ht2388, ht2389, ht2390, ht2391, ht2392, ht2393, ht2394, ht2395, ht2396, ht2397, ht2398, ht2399, ht2400, ht2401, ht2402, ht2403, ht2404, hB2408⟩ := show rk_10 γ (F2248 q2249) from RS_o hT htq2249
        refine Gp_get 2 hm2362 he2363 dr_cX17_back_51 (gk_X17 D I) (Nat.le_of_ble_eq_true rfl) wr_7_76 rfl ?_
        refine G_aload_n 2 dr_cX17_back_54 rfl ?_
        refine Gp_get 2 hm2253 he2254 dr_cX17_back_55 (gk_X15 D I) (Nat.le_of_ble_eq_true rfl) wr_9_186 rfl ?_
        have hm2409 : (γ 9 2) ∈ P2247 := RS_m hT ht2385 (by decide)
        obtain ⟨f2411, he2410, wf2411⟩ := show rk_35 I (F2248 (γ 9 2)) from RS_o hT ht2385
        refine Gw_callS (As := [.ref (γ 9 2), .int p2257]) (gV_ok D I) (cp_1853_SpillForgeModel_set l hl0 D I P2247 F2248 (γ 9 2) p2257 f2411 hm2409 he2410 ⟨by omega, by omega⟩ wf2411) dr_cX17_back_58 ⟨wr_10_189, wr_1_14, wr_10_191, by decide, rfl, (Nat.le_of_ble_eq_true rfl), (Nat.le_of_ble_eq_true rfl)⟩ wr_10_190 (show 0 + 0 ≤ 0 by first | omega | decide) (show 0 + 0 ≤ 0 by first | omega | decide) (Nat.le_of_ble_eq_true rfl) (fun r2415 w2416 dc2412 ds2413 hp2414 => ?_) (fun _ _ _ _ _ z => z.elim)
        obtain ⟨F2419, f2417, rfl, rfl, hfr2421, he2422, hdc, hds, x2418⟩ := hp2414
        have he2423 : F2419 q2250 = .inr (20, [.int p2255, .int p2256, .int p2257, .int p2258, .int p2259, .int p2260, .int p2261]) := (hfr2421 q2250 hm2253 (nm_c (rn_oa he2254 he2410) nm_n)).trans he2254
        have he2424 : F2419 q2249 = .inr (22, [.ref (γ 9 0), .ref (γ 9 1), .ref (γ 9 2), .ref (γ 9 3), .ref (γ 9 4), .ref (γ 9 5), .ref (γ 9 6), .ref (γ 9 7), .ref (γ 9 8), .int p2366, .int p2367, .int p2368, .int p2369, .int p2370, .int p2371, .ref (γ 9 15), .ref (γ 9 16), .ref (γ 9 17), .ref (γ 9 18), .ref (γ 9 19), .ref (γ 9 20), .ref (γ 9 21), .ref (γ 9 22), .int p2372, .int p2373, .int p2374, .int p2375, .int p2376, .ref q2364, .ref (γ 9 29), .int p2377, .ref (γ 9 31), .int p2378, .int p2379, .int p2380, .ref q2365]) := (hfr2421 q2249 hm2362 (nm_c (rn_oa he2363 he2410) nm_n)).trans he2363
        have hfr2425 : rFr [(γ 9 2)] P2247 F2248 F2419 := rFr_call (rSub_rf (P := P2247)) (rFr_rf (W := []) (P := P2247) (F := F2248)) hfr2421 (fun b hb hn => ⟨nm_n, (nm_c (fun e => hn (e ▸ List.mem_cons_self)) nm_n)⟩)
        change G _ _ _ _ _ _ _ _ _ _ _
        refine G_widen (cs' := 0) (sl' := 0) (by omega) (by omega) ?_
        have hT2426 : RS D I P2247 F2419 γ el := RS_fr hT hfr2425 ht2385 (by decide) ⟨f2417, he2422, x2418⟩
        have hs2427 : rStr γ F2248 F2419 := rStr_fr hT (rStr_rf (γ := γ) (F := F2248)) hfr2425 ht2385 (by decide)
        refine G_aload_n 2 dr_cX17_back_61 rfl ?_
        refine Gw_callV (As := []) (gV_ok D I) (cp_1693_Row_usesB l hl0 D I P2247 F2419 q2250 p2255 p2256 p2257 p2258 p2259 p2260 p2261 hm2253 he2423 bp2255 bp2256 bp2259 bp2260 bp2261) dr_cX17_back_62 ⟨wr_10_196, wr_1_39, wr_10_199, by decide, rfl, (Nat.le_of_ble_eq_true rfl), (Nat.le_of_ble_eq_true rfl)⟩ wr_10_197 wr_10_198 hm2253 he2423 rfl (show 0 + 0 ≤ 0 by first | omega | decide) (show 0 + 0 ≤ 0 by first | omega | decide) (Nat.le_of_ble_eq_true rfl) (fun r2431 w2432 dc2428 ds2429 hp2430 => ?_) (fun _ _ _ _ _ z => z.elim)
        obtain ⟨o2433, rfl, rfl, hdc, hds, bo2433, x2434⟩ := hp2430
        change G _ _ _ _ _ _ _ (.int o2433 :: _) _ _ _
        refine G_widen (cs' := 0) (sl' := 0) (by omega) (by omega) ?_
        refine G_if_eq 79 dr_cX17_back_65 (by decide +kernel) (fun hc2435 => ?_) (fun hc2435 => ?_)
        · have r2436 : o2433.toInt = 0 := gj_eq hc2435 (show Int32.toInt 0 = 0 by decide)
          have bo2433' : gB o2433 0 0 := ⟨by omega, by omega⟩
          exact G_vretA dr_cX17_back_79 rfl (Nat.le_of_ble_eq_true rfl) (Nat.le_of_ble_eq_true rfl) ⟨F2419, rfl, rfl, hT2426, hs2427, (Nat.le_of_ble_eq_true rfl), (Nat.le_of_ble_eq_true rfl)⟩
        · have r2437 : o2433.toInt ≠ 0 := gj_neq hc2435 (show Int32.toInt 0 = 0 by decide)
          have bo2433' : gB o2433 1 1 := ⟨by omega, by omega⟩
          refine G_aload_n 1 dr_cX17_back_68 rfl ?_
          refine Gp_get 2 hm2362 he2424 dr_cX17_back_69 (gk_X17 D I) (Nat.le_of_ble_eq_true rfl) wr_7_76 rfl ?_
          refine G_aload_n 2 dr_cX17_back_72 rfl ?_
          refine Gp_get 3 hm2253 he2423 dr_cX17_back_73 (gk_X15 D I) (Nat.le_of_ble_eq_true rfl) wr_9_190 rfl ?_
          refine Gw_callS (As := [.ref (γ 9 2), .int p2258]) (gV_ok D I) (cp_1853_SpillForgeModel_set l hl0 D I P2247 F2419 (γ 9 2) p2258 f2417 hm2409 he2422 ⟨by omega, by omega⟩ x2418) dr_cX17_back_76 ⟨wr_10_189, wr_1_14, wr_10_191, by decide, rfl, (Nat.le_of_ble_eq_true rfl), (Nat.le_of_ble_eq_true rfl)⟩ wr_10_190 (show 0 + 0 ≤ 0 by first | omega | decide) (show 0 + 0 ≤ 0 by first | omega | decide) (Nat.le_of_ble_eq_true rfl) (fun r2441 w2442 dc2438 ds2439 hp2440 => ?_) (fun _ _ _ _ _ z => z.elim)
          obtain ⟨F2445, f2443, rfl, rfl, hfr2447, he2448, hdc, hds, x2444⟩ := hp2440
          have he2449 : F2445 q2250 = .inr (20, [.int p2255, .int p2256, .int p2257, .int p2258, .int p2259, .int p2260, .int p2261]) := (hfr2447 q2250 hm2253 (nm_c (rn_oa he2423 he2422) nm_n)).trans he2423
          have he2450 : F2445 q2249 = .inr (22, [.ref (γ 9 0), .ref (γ 9 1), .ref (γ 9 2), .ref (γ 9 3), .ref (γ 9 4), .ref (γ 9 5), .ref (γ 9 6), .ref (γ 9 7), .ref (γ 9 8), .int p2366, .int p2367, .int p2368, .int p2369, .int p2370, .int p2371, .ref (γ 9 15), .ref (γ 9 16), .ref (γ 9 17), .ref (γ 9 18), .ref (γ 9 19), .ref (γ 9 20), .ref (γ 9 21), .ref (γ 9 22), .int p2372, .int p2373, .int p2374, .int p2375, .int p2376, .ref q2364, .ref (γ 9 29), .int p2377, .ref (γ 9 31), .int p2378, .int p2379, .int p2380, .ref q2365]) := (hfr2447 q2249 hm2362 (nm_c (rn_oa he2424 he2422) nm_n)).trans he2424
          have hfr2451 : rFr [(γ 9 2)] P2247 F2419 F2445 := rFr_call (rSub_rf (P := P2247)) (rFr_rf (W := []) (P := P2247) (F := F2419)) hfr2447 (fun b hb hn => ⟨nm_n, (nm_c (fun e => hn (e ▸ List.mem_cons_self)) nm_n)⟩)
          change G _ _ _ _ _ _ _ _ _ _ _
          refine G_widen (cs' := 0) (sl' := 0) (by omega) (by omega) ?_
          have hT2452 : RS D I P2247 F2445 γ el := RS_fr hT2426 hfr2451 ht2385 (by decide) ⟨f2443, he2448, x2444⟩
          have hs2453 : rStr γ F2248 F2445 := rStr_fr hT2426 hs2427 hfr2451 ht2385 (by decide)
          exact G_vretA dr_cX17_back_79 rfl (Nat.le_of_ble_eq_true rfl) (Nat.le_of_ble_eq_true rfl) ⟨F2445, rfl, rfl, hT2452, hs2453, (Nat.le_of_ble_eq_true rfl), (Nat.le_of_ble_eq_true rfl)⟩
    · have r2454 : p2251.toInt ≠ 0 := gj_neq hc2274 (show Int32.toInt 0 = 0 by decide)
      have bp2251' : gB p2251 1 1 := ⟨by omega, by omega⟩
      refine G_aload_n 2 dr_cX17_back_22 rfl ?_
      refine Gp_get 0 hm2253 he2254 dr_cX17_back_23 (gk_X15 D I) (Nat.le_of_ble_eq_true rfl) wr_9_177 rfl ?_
      refine G_bipush 21 dr_cX17_back_26 (by decide +kernel) ?_
      refine G_icmp_ne 42 dr_cX17_back_28 (by decide +kernel) (fun hc2455 => ?_) (fun hc2455 => ?_)
      · have r2456 : p2255.toInt ≠ 21 := gj_neq hc2455 (show Int32.toInt 21 = 21 by decide)
        exact G_vretA dr_cX17_back_42 rfl (Nat.le_of_ble_eq_true rfl) (Nat.le_of_ble_eq_true rfl) ⟨F2248, rfl, rfl, hT, (rStr_rf (γ := γ) (F := F2248)), (Nat.le_of_ble_eq_true rfl), (Nat.le_of_ble_eq_true rfl)⟩
      · have r2457 : p2255.toInt = 21 := gj_eq hc2455 (show Int32.toInt 21 = 21 by decide)
        have bp2255' : gB p2255 21 21 := ⟨by omega, by omega⟩
        refine G_aload_n 1 dr_cX17_back_31 rfl ?_
        have hm2458 : q2249 ∈ P2247 := RS_m hT htq2249 (by decide)
        obtain ⟨q2460, q2461, p2462, p2463, p2464, p2465, p2466, p2467, p2468, p2469, p2470, p2471, p2472, p2473, p2474, p2475, p2476, he2459, hB2503, ht2477, ht2478, ht2479, ht2480, ht2481, ht2482, ht2483, ht2484, ht2485, ht2486, ht2487, ht2488, ht2489, ht2490, ht2491, ht2492, ht2493, ht2494, ht2495, ht2496, ht2497, ht2498, ht2499, ht2500, hB2504⟩ := show rk_10 γ (F2248 q2249) from RS_o hT htq2249
        refine Gp_get 2 hm2458 he2459 dr_cX17_back_32 (gk_X17 D I) (Nat.le_of_ble_eq_true rfl) wr_7_76 rfl ?_
        refine G_aload_n 2 dr_cX17_back_35 rfl ?_
        refine Gp_get 4 hm2253 he2254 dr_cX17_back_36 (gk_X15 D I) (Nat.le_of_ble_eq_true rfl) wr_9_193 rfl ?_
        have hm2505 : (γ 9 2) ∈ P2247 := RS_m hT ht2481 (by decide)
        obtain ⟨f2507, he2506, wf2507⟩ := show rk_35 I (F2248 (γ 9 2)) from RS_o hT ht2481
        refine Gw_callS (As := [.ref (γ 9 2), .int p2259]) (gV_ok D I) (cp_1853_SpillForgeModel_set l hl0 D I P2247 F2248 (γ 9 2) p2259 f2507 hm2505 he2506 bp2259 wf2507) dr_cX17_back_39 ⟨wr_10_189, wr_1_14, wr_10_191, by decide, rfl, (Nat.le_of_ble_eq_true rfl), (Nat.le_of_ble_eq_true rfl)⟩ wr_10_190 (show 0 + 0 ≤ 0 by first | omega | decide) (show 0 + 0 ≤ 0 by first | omega | decide) (Nat.le_of_ble_eq_true rfl) (fun r2511 w2512 dc2508 ds2509 hp2510 => ?_) (fun _ _ _ _ _ z => z.elim)
        obtain ⟨F2515, f2513, rfl, rfl, hfr2517, he2518, hdc, hds, x2514⟩ := hp2510
        have he2519 : F2515 q2250 = .inr (20, [.int p2255, .int p2256, .int p2257, .int p2258, .int p2259, .int p2260, .int p2261]) := (hfr2517 q2250 hm2253 (nm_c (rn_oa he2254 he2506) nm_n)).trans he2254
        have he2520 : F2515 q2249 = .inr (22, [.ref (γ 9 0), .ref (γ 9 1), .ref (γ 9 2), .ref (γ 9 3), .ref (γ 9 4), .ref (γ 9 5), .ref (γ 9 6), .ref (γ 9 7), .ref (γ 9 8), .int p2462, .int p2463, .int p2464, .int p2465, .int p2466, .int p2467, .ref (γ 9 15), .ref (γ 9 16), .ref (γ 9 17), .ref (γ 9 18), .ref (γ 9 19), .ref (γ 9 20), .ref (γ 9 21), .ref (γ 9 22), .int p2468, .int p2469, .int p2470, .int p2471, .int p2472, .ref q2460, .ref (γ 9 29), .int p2473, .ref (γ 9 31), .int p2474, .int p2475, .int p2476, .ref q2461]) := (hfr2517 q2249 hm2458 (nm_c (rn_oa he2459 he2506) nm_n)).trans he2459
        have hfr2521 : rFr [(γ 9 2)] P2247 F2248 F2515 := rFr_call (rSub_rf (P := P2247)) (rFr_rf (W := []) (P := P2247) (F := F2248)) hfr2517 (fun b hb hn => ⟨nm_n, (nm_c (fun e => hn (e ▸ List.mem_cons_self)) nm_n)⟩)
        change G _ _ _ _ _ _ _ _ _ _ _
        refine G_widen (cs' := 0) (sl' := 0) (by omega) (by omega) ?_
        have hT2522 : RS D I P2247 F2515 γ el := RS_fr hT hfr2521 ht2481 (by decide) ⟨f2513, he2518, x2514⟩
        have hs2523 : rStr γ F2248 F2515 := rStr_fr hT (rStr_rf (γ := γ) (F := F2248)) hfr2521 ht2481 (by decide)
        exact G_vretA dr_cX17_back_42 rfl (Nat.le_of_ble_eq_true rfl) (Nat.le_of_ble_eq_true rfl) ⟨F2515, rfl, rfl, hT2522, hs2523, (Nat.le_of_ble_eq_true rfl), (Nat.le_of_ble_eq_true rfl)⟩
  · have r2524 : 0 ≤ o2271.toInt := gj_nlt hc2272 (show Int32.toInt 0 = 0 by decide)
    have bo2271' : gB o2271 0 1999 := ⟨by omega, by omega⟩
    refine G_aload_n 1 dr_cX17_back_10 rfl ?_
    have hm2525 : q2249 ∈ P2247 := RS_m hT htq2249 (by decide)
    obtain ⟨q2527, q2528, p2529, p2530, p2531, p2532, p2533, p2534, p2535, p2536, p2537, p2538, p2539, p2540, p2541, p2542, p2543, he2526, hB2570, ht2544, ht2545, ht2546, ht2547, ht2548, ht2549, ht2550, ht2551, ht2552, ht2553, ht2554, ht2555, ht2556, ht2557, ht2558, ht2559, ht2560, ht2561, ht2562, ht2563, ht2564, ht2565, ht2566, ht2567, hB2571⟩ := show rk_10 γ (F2248 q2249) from RS_o hT htq2249
    refine Gp_get 2 hm2525 he2526 dr_cX17_back_11 (gk_X17 D I) (Nat.le_of_ble_eq_true rfl) wr_7_76 rfl ?_
    refine G_iload_n 0 dr_cX17_back_14 rfl ?_
    have hm2572 : (γ 9 2) ∈ P2247 := RS_m hT ht2548 (by decide)
    obtain ⟨f2574, he2573, wf2574⟩ := show rk_35 I (F2248 (γ 9 2)) from RS_o hT ht2548
    refine Gw_callS (As := [.ref (γ 9 2), .int o2271]) (gV_ok D I) (cp_1873_SpillForgeModel_clear l hl0 D I P2247 F2248 (γ 9 2) o2271 f2574 hm2572 he2573 bo2271' wf2574) dr_cX17_back_15 ⟨wr_10_185, wr_1_14, wr_10_187, by decide, rfl, (Nat.le_of_ble_eq_true rfl), (Nat.le_of_ble_eq_true rfl)⟩ wr_10_186 (show 0 + 0 ≤ 0 by first | omega | decide) (show 0 + 0 ≤ 0 by first | omega | decide) (Nat.le_of_ble_eq_true rfl) (fun r2578 w2579 dc2575 ds2576 hp2577 => ?_) (fun _ _ _ _ _ z => z.elim)
    obtain ⟨F2582, f2580, rfl, rfl, hfr2584, he2585, hdc, hds, x2581⟩ := hp2577
    have he2586 : F2582 q2250 = .inr (20, [.int p2255, .int p2256, .int p2257, .int p2258, .int p2259, .int p2260, .int p2261]) := (hfr2584 q2250 hm2253 (nm_c (rn_oa he2254 he2573) nm_n)).trans he2254
    have he2587 : F2582 q2249 = .inr (22, [.ref (γ 9 0), .ref (γ 9 1), .ref (γ 9 2), .ref (γ 9 3), .ref (γ 9 4), .ref (γ 9 5), .ref (γ 9 6), .ref (γ 9 7), .ref (γ 9 8), .int p2529, .int p2530, .int p2531, .int p2532, .int p2533, .int p2534, .ref (γ 9 15), .ref (γ 9 16), .ref (γ 9 17), .ref (γ 9 18), .ref (γ 9 19), .ref (γ 9 20), .ref (γ 9 21), .ref (γ 9 22), .int p2535, .int p2536, .int p2537, .int p2538, .int p2539, .ref q2527, .ref (γ 9 29), .int p2540, .ref (γ 9 31), .int p2541, .int p2542, .int p2543, .ref q2528]) := (hfr2584 q2249 hm2525 (nm_c (rn_oa he2526 he2573) nm_n)).trans he2526
    have hfr2588 : rFr [(γ 9 2)] P2247 F2248 F2582 := rFr_call (rSub_rf (P := P2247)) (rFr_rf (W := []) (P := P2247) (F := F2248)) hfr2584 (fun b hb hn => ⟨nm_n, (nm_c (fun e => hn (e ▸ List.mem_cons_self)) nm_n)⟩)
    change G _ _ _ _ _ _ _ _ _ _ _
    refine G_widen (cs' := 0) (sl' := 0) (by omega) (by omega) ?_
    have hT2589 : RS D I P2247 F2582 γ el := RS_fr hT hfr2588 ht2548 (by decide) ⟨f2580, he2585, x2581⟩
    have hs2590 : rStr γ F2248 F2582 := rStr_fr hT (rStr_rf (γ := γ) (F := F2248)) hfr2588 ht2548 (by decide)
    refine G_iload_n 3 dr_cX17_back_18 rfl ?_
    refine G_if_eq 43 dr_cX17_back_19 (by decide +kernel) (fun hc2591 => ?_) (fun hc2591 => ?_)
    · have r2592 : p2251.toInt = 0 := gj_eq hc2591 (show Int32.toInt 0 = 0 by decide)
      have bp2251' : gB p2251 0 0 := ⟨by omega, by omega⟩
      refine G_aload_n 2 dr_cX17_back_43 rfl ?_
      refine Gw_callV (As := []) (gV_ok D I) (cp_1669_Row_usesA l hl0 D I P2247 F2582 q2250 p2255 p2256 p2257 p2258 p2259 p2260 p2261 hm2253 he2586 bp2255 bp2256 bp2259 bp2260 bp2261) dr_cX17_back_44 ⟨wr_10_192, wr_1_39, wr_10_195, by decide, rfl, (Nat.le_of_ble_eq_true rfl), (Nat.le_of_ble_eq_true rfl)⟩ wr_10_193 wr_10_194 hm2253 he2586 rfl (show 0 + 0 ≤ 0 by first | omega | decide) (show 0 + 0 ≤ 0 by first | omega | decide) (Nat.le_of_ble_eq_true rfl) (fun r2596 w2597 dc2593 ds2594 hp2595 => ?_) (fun _ _ _ _ _ z => z.elim)
      obtain ⟨o2598, rfl, rfl, hdc, hds, bo2598, x2599⟩ := hp2595
      change G _ _ _ _ _ _ _ (.int o2598 :: _) _ _ _
      refine G_widen (cs' := 0) (sl' := 0) (by omega) (by omega) ?_
      refine G_if_eq 61 dr_cX17_back_47 (by decide +kernel) (fun hc2600 => ?_) (fun hc2600 => ?_)
      · have r2601 : o2598.toInt = 0 := gj_eq hc2600 (show Int32.toInt 0 = 0 by decide)
        have bo2598' : gB o2598 0 0 := ⟨by omega, by omega⟩
        refine G_aload_n 2 dr_cX17_back_61 rfl ?_
        refine Gw_callV (As := []) (gV_ok D I) (cp_1693_Row_usesB l hl0 D I P2247 F2582 q2250 p2255 p2256 p2257 p2258 p2259 p2260 p2261 hm2253 he2586 bp2255 bp2256 bp2259 bp2260 bp2261) dr_cX17_back_62 ⟨wr_10_196, wr_1_39, wr_10_199, by decide, rfl, (Nat.le_of_ble_eq_true rfl), (Nat.le_of_ble_eq_true rfl)⟩ wr_10_197 wr_10_198 hm2253 he2586 rfl (show 0 + 0 ≤ 0 by first | omega | decide) (show 0 + 0 ≤ 0 by first | omega | decide) (Nat.le_of_ble_eq_true rfl) (fun r2605 w2606 dc2602 ds2603 hp2604 => ?_) (fun _ _ _ _ _ z => z.elim)
        obtain ⟨o2607, rfl, rfl, hdc, hds, bo2607, x2608⟩ := hp2604
        change G _ _ _ _ _ _ _ (.int o2607 :: _) _ _ _
        refine G_widen (cs' := 0) (sl' := 0) (by omega) (by omega) ?_
        refine G_if_eq 79 dr_cX17_back_65 (by decide +kernel) (fun hc2609 => ?_) (fun hc2609 => ?_)
        · have r2610 : o2607.toInt = 0 := gj_eq hc2609 (show Int32.toInt 0 = 0 by decide)
          have bo2607' : gB o2607 0 0 := ⟨by omega, by omega⟩
          exact G_vretA dr_cX17_back_79 rfl (Nat.le_of_ble_eq_true rfl) (Nat.le_of_ble_eq_true rfl) ⟨F2582, rfl, rfl, hT2589, hs2590, (Nat.le_of_ble_eq_true rfl), (Nat.le_of_ble_eq_true rfl)⟩
        · have r2611 : o2607.toInt ≠ 0 := gj_neq hc2609 (show Int32.toInt 0 = 0 by decide)
          have bo2607' : gB o2607 1 1 := ⟨by omega, by omega⟩
          refine G_aload_n 1 dr_cX17_back_68 rfl ?_
          refine Gp_get 2 hm2525 he2587 dr_cX17_back_69 (gk_X17 D I) (Nat.le_of_ble_eq_true rfl) wr_7_76 rfl ?_
          refine G_aload_n 2 dr_cX17_back_72 rfl ?_
          refine Gp_get 3 hm2253 he2586 dr_cX17_back_73 (gk_X15 D I) (Nat.le_of_ble_eq_true rfl) wr_9_190 rfl ?_
          refine Gw_callS (As := [.ref (γ 9 2), .int p2258]) (gV_ok D I) (cp_1853_SpillForgeModel_set l hl0 D I P2247 F2582 (γ 9 2) p2258 f2580 hm2572 he2585 ⟨by omega, by omega⟩ x2581) dr_cX17_back_76 ⟨wr_10_189, wr_1_14, wr_10_191, by decide, rfl, (Nat.le_of_ble_eq_true rfl), (Nat.le_of_ble_eq_true rfl)⟩ wr_10_190 (show 0 + 0 ≤ 0 by first | omega | decide) (show 0 + 0 ≤ 0 by first | omega | decide) (Nat.le_of_ble_eq_true rfl) (fun r2615 w2616 dc2612 ds2613 hp2614 => ?_) (fun _ _ _ _ _ z => z.elim)
          obtain ⟨F2619, f2617, rfl, rfl, hfr2621, he2622, hdc, hds, x2618⟩ := hp2614
          have he2623 : F2619 q2250 = .inr (20, [.int p2255, .int p2256, .int p2257, .int p2258, .int p2259, .int p2260, .int p2261]) := (hfr2621 q2250 hm2253 (nm_c (rn_oa he2586 he2585) nm_n)).trans he2586
          have he2624 : F2619 q2249 = .inr (22, [.ref (γ 9 0), .ref (γ 9 1), .ref (γ 9 2), .ref (γ 9 3), .ref (γ 9 4), .ref (γ 9 5), .ref (γ 9 6), .ref (γ 9 7), .ref (γ 9 8), .int p2529, .int p2530, .int p2531, .int p2532, .int p2533, .int p2534, .ref (γ 9 15), .ref (γ 9 16), .ref (γ 9 17), .ref (γ 9 18), .ref (γ 9 19), .ref (γ 9 20), .ref (γ 9 21), .ref (γ 9 22), .int p2535, .int p2536, .int p2537, .int p2538, .int p2539, .ref q2527, .ref (γ 9 29), .int p2540, .ref (γ 9 31), .int p2541, .int p2542, .int p2543, .ref q2528]) := (hfr2621 q2249 hm2525 (nm_c (rn_oa he2587 he2585) nm_n)).trans he2587
          have hfr2625 : rFr [(γ 9 2)] P2247 F2582 F2619 := rFr_call (rSub_rf (P := P2247)) (rFr_rf (W := []) (P := P2247) (F := F2582)) hfr2621 (fun b hb hn => ⟨nm_n, (nm_c (fun e => hn (e ▸ List.mem_cons_self)) nm_n)⟩)
          change G _ _ _ _ _ _ _ _ _ _ _
          refine G_widen (cs' := 0) (sl' := 0) (by omega) (by omega) ?_
          have hT2626 : RS D I P2247 F2619 γ el := RS_fr hT2589 hfr2625 ht2548 (by decide) ⟨f2617, he2622, x2618⟩
          have hs2627 : rStr γ F2248 F2619 := rStr_fr hT2589 hs2590 hfr2625 ht2548 (by decide)
          exact G_vretA dr_cX17_back_79 rfl (Nat.le_of_ble_eq_true rfl) (Nat.le_of_ble_eq_true rfl) ⟨F2619, rfl, rfl, hT2626, hs2627, (Nat.le_of_ble_eq_true rfl), (Nat.le_of_ble_eq_true rfl)⟩
      · have r2628 : o2598.toInt ≠ 0 := gj_neq hc2600 (show Int32.toInt 0 = 0 by decide)
        have bo2598' : gB o2598 1 1 := ⟨by omega, by omega⟩
        refine G_aload_n 1 dr_cX17_back_50 rfl ?_
        refine Gp_get 2 hm2525 he2587 dr_cX17_back_51 (gk_X17 D I) (Nat.le_of_ble_eq_true rfl) wr_7_76 rfl ?_
        refine G_aload_n 2 dr_cX17_back_54 rfl ?_
        refine Gp_get 2 hm2253 he2586 dr_cX17_back_55 (gk_X15 D I) (Nat.le_of_ble_eq_true rfl) wr_9_186 rfl ?_
        refine Gw_callS (As := [.ref (γ 9 2), .int p2257]) (gV_ok D I) (cp_1853_SpillForgeModel_set l hl0 D I P2247 F2582 (γ 9 2) p2257 f2580 hm2572 he2585 ⟨by omega, by omega⟩ x2581) dr_cX17_back_58 ⟨wr_10_189, wr_1_14, wr_10_191, by decide, rfl, (Nat.le_of_ble_eq_true rfl), (Nat.le_of_ble_eq_true rfl)⟩ wr_10_190 (show 0 + 0 ≤ 0 by first | omega | decide) (show 0 + 0 ≤ 0 by first | omega | decide) (Nat.le_of_ble_eq_true rfl) (fun r2632 w2633 dc2629 ds2630 hp2631 => ?_) (fun _ _ _ _ _ z => z.elim)
        obtain ⟨F2636, f2634, rfl, rfl, hfr2638, he2639, hdc, hds, x2635⟩ := hp2631
        have he2640 : F2636 q2250 = .inr (20, [.int p2255, .int p2256, .int p2257, .int p2258, .int p2259, .int p2260, .int p2261]) := (hfr2638 q2250 hm2253 (nm_c (rn_oa he2586 he2585) nm_n)).trans he2586
        have he2641 : F2636 q2249 = .inr (22, [.ref (γ 9 0), .ref (γ 9 1), .ref (γ 9 2), .ref (γ 9 3), .ref (γ 9 4), .ref (γ 9 5), .ref (γ 9 6), .ref (γ 9 7), .ref (γ 9 8), .int p2529, .int p2530, .int p2531, .int p2532, .int p2533, .int p2534, .ref (γ 9 15), .ref (γ 9 16), .ref (γ 9 17), .ref (γ 9 18), .ref (γ 9 19), .ref (γ 9 20), .ref (γ 9 21), .ref (γ 9 22), .int p2535, .int p2536, .int p2537, .int p2538, .int p2539, .ref q2527, .ref (γ 9 29), .int p2540, .ref (γ 9 31), .int p2541, .int p2542, .int p2543, .ref q2528]) := (hfr2638 q2249 hm2525 (nm_c (rn_oa he2587 he2585) nm_n)).trans he2587
        have hfr2642 : rFr [(γ 9 2)] P2247 F2582 F2636 := rFr_call (rSub_rf (P := P2247)) (rFr_rf (W := []) (P := P2247) (F := F2582)) hfr2638 (fun b hb hn => ⟨nm_n, (nm_c (fun e => hn (e ▸ List.mem_cons_self)) nm_n)⟩)
        change G _ _ _ _ _ _ _ _ _ _ _
        refine G_widen (cs' := 0) (sl' := 0) (by omega) (by omega) ?_
        have hT2643 : RS D I P2247 F2636 γ el := RS_fr hT2589 hfr2642 ht2548 (by decide) ⟨f2634, he2639, x2635⟩
        have hs2644 : rStr γ F2248 F2636 := rStr_fr hT2589 hs2590 hfr2642 ht2548 (by decide)
        refine G_aload_n 2 dr_cX17_back_61 rfl ?_
        refine Gw_callV (As := []) (gV_ok D I) (cp_1693_Row_usesB l hl0 D I P2247 F2636 q2250 p2255 p2256 p2257 p2258 p2259 p2260 p2261 hm2253 he2640 bp2255 bp2256 bp2259 bp2260 bp2261) dr_cX17_back_62 ⟨wr_10_196, wr_1_39, wr_10_199, by decide, rfl, (Nat.le_of_ble_eq_true rfl), (Nat.le_of_ble_eq_true rfl)⟩ wr_10_197 wr_10_198 hm2253 he2640 rfl (show 0 + 0 ≤ 0 by first | omega | decide) (show 0 + 0 ≤ 0 by first | omega | decide) (Nat.le_of_ble_eq_true rfl) (fun r2648 w2649 dc2645 ds2646 hp2647 => ?_) (fun _ _ _ _ _ z => z.elim)
        obtain ⟨o2650, rfl, rfl, hdc, hds, bo2650, x2651⟩ := hp2647
        change G _ _ _ _ _ _ _ (.int o2650 :: _) _ _ _
        refine G_widen (cs' := 0) (sl' := 0) (by omega) (by omega) ?_
        refine G_if_eq 79 dr_cX17_back_65 (by decide +kernel) (fun hc2652 => ?_) (fun hc2652 => ?_)
        · have r2653 : o2650.toInt = 0 := gj_eq hc2652 (show Int32.toInt 0 = 0 by decide)
          have bo2650' : gB o2650 0 0 := ⟨by omega, by omega⟩
          exact G_vretA dr_cX17_back_79 rfl (Nat.le_of_ble_eq_true rfl) (Nat.le_of_ble_eq_true rfl) ⟨F2636, rfl, rfl, hT2643, hs2644, (Nat.le_of_ble_eq_true rfl), (Nat.le_of_ble_eq_true rfl)⟩
        · have r2654 : o2650.toInt ≠ 0 := gj_neq hc2652 (show Int32.toInt 0 = 0 by decide)
          have bo2650' : gB o2650 1 1 := ⟨by omega, by omega⟩
          refine G_aload_n 1 dr_cX17_back_68 rfl ?_
          refine Gp_get 2 hm2525 he2641 dr_cX17_back_69 (gk_X17 D I) (Nat.le_of_ble_eq_true rfl) wr_7_76 rfl ?_
          refine G_aload_n 2 dr_cX17_back_72 rfl ?_
          refine Gp_get 3 hm2253 he2640 dr_cX17_back_73 (gk_X15 D I) (Nat.le_of_ble_eq_true rfl) wr_9_190 rfl ?_
          refine Gw_callS (As := [.ref (γ 9 2), .int p2258]) (gV_ok D I) (cp_1853_SpillForgeModel_set l hl0 D I P2247 F2636 (γ 9 2) p2258 f2634 hm2572 he2639 ⟨by omega, by omega⟩ x2635) dr_cX17_back_76 ⟨wr_10_189, wr_1_14, wr_10_191, by decide, rfl, (Nat.le_of_ble_eq_true rfl), (Nat.le_of_ble_eq_true rfl)⟩ wr_10_190 (show 0 + 0 ≤ 0 by first | omega | decide) (show 0 + 0 ≤ 0 by first | omega | decide) (Nat.le_of_ble_eq_true rfl) (fun r2658 w2659 dc2655 ds2656 hp2657 => ?_) (fun _ _ _ _ _ z => z.elim)
          obtain ⟨F2662, f2660, rfl, rfl, hfr2664, he2665, hdc, hds, x2661⟩ := hp2657
          have he2666 : F2662 q2250 = .inr (20, [.int p2255, .int p2256, .int p2257, .int p2258, .int p2259, .int p2260, .int p2261]) := (hfr2664 q2250 hm2253 (nm_c (rn_oa he2640 he2639) nm_n)).trans he2640
          have he2667 : F2662 q2249 = .inr (22, [.ref (γ 9 0), .ref (γ 9 1), .ref (γ 9 2), .ref (γ 9 3), .ref (γ 9 4), .ref (γ 9 5), .ref (γ 9 6), .ref (γ 9 7), .ref (γ 9 8), .int p2529, .int p2530, .int p2531, .int p2532, .int p2533, .int p2534, .ref (γ 9 15), .ref (γ 9 16), .ref (γ 9 17), .ref (γ 9 18), .ref (γ 9 19), .ref (γ 9 20), .ref (γ 9 21), .ref (γ 9 22), .int p2535, .int p2536, .int p2537, .int p2538, .int p2539, .ref q2527, .ref (γ 9 29), .int p2540, .ref (γ 9 31), .int p2541, .int p2542, .int p2543, .ref q2528]) := (hfr2664 q2249 hm2525 (nm_c (rn_oa he2641 he2639) nm_n)).trans he2641
          have hfr2668 : rFr [(γ 9 2)] P2247 F2636 F2662 := rFr_call (rSub_rf (P := P2247)) (rFr_rf (W := []) (P := P2247) (F := F2636)) hfr2664 (fun b hb hn => ⟨nm_n, (nm_c (fun e => hn (e ▸ List.mem_cons_self)) nm_n)⟩)
          change G _ _ _ _ _ _ _ _ _ _ _
          refine G_widen (cs' := 0) (sl' := 0) (by omega) (by omega) ?_
          have hT2669 : RS D I P2247 F2662 γ el := RS_fr hT2643 hfr2668 ht2548 (by decide) ⟨f2660, he2665, x2661⟩
          have hs2670 : rStr γ F2248 F2662 := rStr_fr hT2643 hs2644 hfr2668 ht2548 (by decide)
          exact G_vretA dr_cX17_back_79 rfl (Nat.le_of_ble_eq_true rfl) (Nat.le_of_ble_eq_true rfl) ⟨F2662, rfl, rfl, hT2669, hs2670, (Nat.le_of_ble_eq_true rfl), (Nat.le_of_ble_eq_true rfl)⟩
    · have r2671 : p2251.toInt ≠ 0 := gj_neq hc2591 (show Int32.toInt 0 = 0 by decide)
      have bp2251' : gB p2251 1 1 := ⟨by omega, by omega⟩
      refine G_aload_n 2 dr_cX17_back_22 rfl ?_
      refine Gp_get 0 hm2253 he2586 dr_cX17_back_23 (gk_X15 D I) (Nat.le_of_ble_eq_true rfl) wr_9_177 rfl ?_
      refine G_bipush 21 dr_cX17_back_26 (by decide +kernel) ?_
      refine G_icmp_ne 42 dr_cX17_back_28 (by decide +kernel) (fun hc2672 => ?_) (fun hc2672 => ?_)
      · have r2673 : p2255.toInt ≠ 21 := gj_neq hc2672 (show Int32.toInt 21 = 21 by decide)
        exact G_vretA dr_cX17_back_42 rfl (Nat.le_of_ble_eq_true rfl) (Nat.le_of_ble_eq_true rfl) ⟨F2582, rfl, rfl, hT2589, hs2590, (Nat.le_of_ble_eq_true rfl), (Nat.le_of_ble_eq_true rfl)⟩
      · have r2674 : p2255.toInt = 21 := gj_eq hc2672 (show Int32.toInt 21 = 21 by decide)
        have bp2255' : gB p2255 21 21 := ⟨by omega, by omega⟩
        refine G_aload_n 1 dr_cX17_back_31 rfl ?_
        refine Gp_get 2 hm2525 he2587 dr_cX17_back_32 (gk_X17 D I) (Nat.le_of_ble_eq_true rfl) wr_7_76 rfl ?_
        refine G_aload_n 2 dr_cX17_back_35 rfl ?_
        refine Gp_get 4 hm2253 he2586 dr_cX17_back_36 (gk_X15 D I) (Nat.le_of_ble_eq_true rfl) wr_9_193 rfl ?_
        refine Gw_callS (As := [.ref (γ 9 2), .int p2259]) (gV_ok D I) (cp_1853_SpillForgeModel_set l hl0 D I P2247 F2582 (γ 9 2) p2259 f2580 hm2572 he2585 bp2259 x2581) dr_cX17_back_39 ⟨wr_10_189, wr_1_14, wr_10_191, by decide, rfl, (Nat.le_of_ble_eq_true rfl), (Nat.le_of_ble_eq_true rfl)⟩ wr_10_190 (show 0 + 0 ≤ 0 by first | omega | decide) (show 0 + 0 ≤ 0 by first | omega | decide) (Nat.le_of_ble_eq_true rfl) (fun r2678 w2679 dc2675 ds2676 hp2677 => ?_) (fun _ _ _ _ _ z => z.elim)
        obtain ⟨F2682, f2680, rfl, rfl, hfr2684, he2685, hdc, hds, x2681⟩ := hp2677
        have he2686 : F2682 q2250 = .inr (20, [.int p2255, .int p2256, .int p2257, .int p2258, .int p2259, .int p2260, .int p2261]) := (hfr2684 q2250 hm2253 (nm_c (rn_oa he2586 he2585) nm_n)).trans he2586
        have he2687 : F2682 q2249 = .inr (22, [.ref (γ 9 0), .ref (γ 9 1), .ref (γ 9 2), .ref (γ 9 3), .ref (γ 9 4), .ref (γ 9 5), .ref (γ 9 6), .ref (γ 9 7), .ref (γ 9 8), .int p2529, .int p2530, .int p2531, .int p2532, .int p2533, .int p2534, .ref (γ 9 15), .ref (γ 9 16), .ref (γ 9 17), .ref (γ 9 18), .ref (γ 9 19), .ref (γ 9 20), .ref (γ 9 21), .ref (γ 9 22), .int p2535, .int p2536, .int p2537, .int p2538, .int p2539, .ref q2527, .ref (γ 9 29), .int p2540, .ref (γ 9 31), .int p2541, .int p2542, .int p2543, .ref q2528]) := (hfr2684 q2249 hm2525 (nm_c (rn_oa he2587 he2585) nm_n)).trans he2587
        have hfr2688 : rFr [(γ 9 2)] P2247 F2582 F2682 := rFr_call (rSub_rf (P := P2247)) (rFr_rf (W := []) (P := P2247) (F := F2582)) hfr2684 (fun b hb hn => ⟨nm_n, (nm_c (fun e => hn (e ▸ List.mem_cons_self)) nm_n)⟩)
        change G _ _ _ _ _ _ _ _ _ _ _
        refine G_widen (cs' := 0) (sl' := 0) (by omega) (by omega) ?_
        have hT2689 : RS D I P2247 F2682 γ el := RS_fr hT2589 hfr2688 ht2548 (by decide) ⟨f2680, he2685, x2681⟩
        have hs2690 : rStr γ F2248 F2682 := rStr_fr hT2589 hs2590 hfr2688 ht2548 (by decide)
        exact G_vretA dr_cX17_back_42 rfl (Nat.le_of_ble_eq_true rfl) (Nat.le_of_ble_eq_true rfl) ⟨F2682, rfl, rfl, hT2689, hs2690, (Nat.le_of_ble_eq_true rfl), (Nat.le_of_ble_eq_true rfl)⟩
