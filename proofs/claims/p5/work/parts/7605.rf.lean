theorem dr_cJ6_numberOfTrailingZeros_0f7a4_0 : decode cJ6_numberOfTrailingZeros_0f7a4 0 = .ok (.iload_n 0, 1) := by decide +kernel
theorem dr_cJ6_numberOfTrailingZeros_0f7a4_1 : decode cJ6_numberOfTrailingZeros_0f7a4 1 = .ok (.iconst (-1), 1) := by decide +kernel
theorem dr_cJ6_numberOfTrailingZeros_0f7a4_2 : decode cJ6_numberOfTrailingZeros_0f7a4 2 = .ok (.ixor, 1) := by decide +kernel
theorem dr_cJ6_numberOfTrailingZeros_0f7a4_3 : decode cJ6_numberOfTrailingZeros_0f7a4 3 = .ok (.iload_n 0, 1) := by decide +kernel
theorem dr_cJ6_numberOfTrailingZeros_0f7a4_4 : decode cJ6_numberOfTrailingZeros_0f7a4 4 = .ok (.iconst 1, 1) := by decide +kernel
theorem dr_cJ6_numberOfTrailingZeros_0f7a4_5 : decode cJ6_numberOfTrailingZeros_0f7a4 5 = .ok (.isub, 1) := by decide +kernel
theorem dr_cJ6_numberOfTrailingZeros_0f7a4_6 : decode cJ6_numberOfTrailingZeros_0f7a4 6 = .ok (.iand, 1) := by decide +kernel
theorem dr_cJ6_numberOfTrailingZeros_0f7a4_7 : decode cJ6_numberOfTrailingZeros_0f7a4 7 = .ok (.istore_n 0, 1) := by decide +kernel
theorem dr_cJ6_numberOfTrailingZeros_0f7a4_8 : decode cJ6_numberOfTrailingZeros_0f7a4 8 = .ok (.iload_n 0, 1) := by decide +kernel
theorem dr_cJ6_numberOfTrailingZeros_0f7a4_9 : decode cJ6_numberOfTrailingZeros_0f7a4 9 = .ok (.ifCond .gt 8, 3) := by decide +kernel
theorem dr_cJ6_numberOfTrailingZeros_0f7a4_17 : decode cJ6_numberOfTrailingZeros_0f7a4 17 = .ok (.iconst 1, 1) := by decide +kernel
theorem dr_cJ6_numberOfTrailingZeros_0f7a4_18 : decode cJ6_numberOfTrailingZeros_0f7a4 18 = .ok (.istore_n 1, 1) := by decide +kernel
theorem dr_cJ6_numberOfTrailingZeros_0f7a4_19 : decode cJ6_numberOfTrailingZeros_0f7a4 19 = .ok (.iload_n 0, 1) := by decide +kernel
theorem dr_cJ6_numberOfTrailingZeros_0f7a4_20 : decode cJ6_numberOfTrailingZeros_0f7a4 20 = .ok (.ldc_w 264, 3) := by decide +kernel
theorem wr_11_3 : (Jvm.Cond.constant "java/lang/Integer" (264 : Nat) (65536 : Int32)) ∈ gw := gw_11 3 rfl rfl
theorem dr_cJ6_numberOfTrailingZeros_0f7a4_23 : decode cJ6_numberOfTrailingZeros_0f7a4 23 = .ok (.if_icmp .le 11, 3) := by decide +kernel
theorem dr_cJ6_numberOfTrailingZeros_0f7a4_34 : decode cJ6_numberOfTrailingZeros_0f7a4 34 = .ok (.iload_n 0, 1) := by decide +kernel
theorem dr_cJ6_numberOfTrailingZeros_0f7a4_35 : decode cJ6_numberOfTrailingZeros_0f7a4 35 = .ok (.sipush 256, 3) := by decide +kernel
theorem dr_cJ6_numberOfTrailingZeros_0f7a4_38 : decode cJ6_numberOfTrailingZeros_0f7a4 38 = .ok (.if_icmp .le 11, 3) := by decide +kernel
theorem dr_cJ6_numberOfTrailingZeros_0f7a4_49 : decode cJ6_numberOfTrailingZeros_0f7a4 49 = .ok (.iload_n 0, 1) := by decide +kernel
theorem dr_cJ6_numberOfTrailingZeros_0f7a4_50 : decode cJ6_numberOfTrailingZeros_0f7a4 50 = .ok (.bipush 16, 2) := by decide +kernel
theorem dr_cJ6_numberOfTrailingZeros_0f7a4_52 : decode cJ6_numberOfTrailingZeros_0f7a4 52 = .ok (.if_icmp .le 10, 3) := by decide +kernel
theorem dr_cJ6_numberOfTrailingZeros_0f7a4_62 : decode cJ6_numberOfTrailingZeros_0f7a4 62 = .ok (.iload_n 0, 1) := by decide +kernel
theorem dr_cJ6_numberOfTrailingZeros_0f7a4_63 : decode cJ6_numberOfTrailingZeros_0f7a4 63 = .ok (.iconst 4, 1) := by decide +kernel
theorem dr_cJ6_numberOfTrailingZeros_0f7a4_64 : decode cJ6_numberOfTrailingZeros_0f7a4 64 = .ok (.if_icmp .le 10, 3) := by decide +kernel
theorem dr_cJ6_numberOfTrailingZeros_0f7a4_74 : decode cJ6_numberOfTrailingZeros_0f7a4 74 = .ok (.iload_n 1, 1) := by decide +kernel
theorem dr_cJ6_numberOfTrailingZeros_0f7a4_75 : decode cJ6_numberOfTrailingZeros_0f7a4 75 = .ok (.iload_n 0, 1) := by decide +kernel
theorem dr_cJ6_numberOfTrailingZeros_0f7a4_76 : decode cJ6_numberOfTrailingZeros_0f7a4 76 = .ok (.iconst 1, 1) := by decide +kernel
theorem dr_cJ6_numberOfTrailingZeros_0f7a4_77 : decode cJ6_numberOfTrailingZeros_0f7a4 77 = .ok (.iushr, 1) := by decide +kernel
theorem dr_cJ6_numberOfTrailingZeros_0f7a4_78 : decode cJ6_numberOfTrailingZeros_0f7a4 78 = .ok (.iadd, 1) := by decide +kernel
theorem dr_cJ6_numberOfTrailingZeros_0f7a4_79 : decode cJ6_numberOfTrailingZeros_0f7a4 79 = .ok (.ireturn, 1) := by decide +kernel
theorem dr_cJ6_numberOfTrailingZeros_0f7a4_67 : decode cJ6_numberOfTrailingZeros_0f7a4 67 = .ok (.iinc 1 2, 3) := by decide +kernel
theorem dr_cJ6_numberOfTrailingZeros_0f7a4_70 : decode cJ6_numberOfTrailingZeros_0f7a4 70 = .ok (.iload_n 0, 1) := by decide +kernel
theorem dr_cJ6_numberOfTrailingZeros_0f7a4_71 : decode cJ6_numberOfTrailingZeros_0f7a4 71 = .ok (.iconst 2, 1) := by decide +kernel
theorem dr_cJ6_numberOfTrailingZeros_0f7a4_72 : decode cJ6_numberOfTrailingZeros_0f7a4 72 = .ok (.iushr, 1) := by decide +kernel
theorem dr_cJ6_numberOfTrailingZeros_0f7a4_73 : decode cJ6_numberOfTrailingZeros_0f7a4 73 = .ok (.istore_n 0, 1) := by decide +kernel
theorem dr_cJ6_numberOfTrailingZeros_0f7a4_55 : decode cJ6_numberOfTrailingZeros_0f7a4 55 = .ok (.iinc 1 4, 3) := by decide +kernel
theorem dr_cJ6_numberOfTrailingZeros_0f7a4_58 : decode cJ6_numberOfTrailingZeros_0f7a4 58 = .ok (.iload_n 0, 1) := by decide +kernel
theorem dr_cJ6_numberOfTrailingZeros_0f7a4_59 : decode cJ6_numberOfTrailingZeros_0f7a4 59 = .ok (.iconst 4, 1) := by decide +kernel
theorem dr_cJ6_numberOfTrailingZeros_0f7a4_60 : decode cJ6_numberOfTrailingZeros_0f7a4 60 = .ok (.iushr, 1) := by decide +kernel
theorem dr_cJ6_numberOfTrailingZeros_0f7a4_61 : decode cJ6_numberOfTrailingZeros_0f7a4 61 = .ok (.istore_n 0, 1) := by decide +kernel
theorem dr_cJ6_numberOfTrailingZeros_0f7a4_41 : decode cJ6_numberOfTrailingZeros_0f7a4 41 = .ok (.iinc 1 8, 3) := by decide +kernel
theorem dr_cJ6_numberOfTrailingZeros_0f7a4_44 : decode cJ6_numberOfTrailingZeros_0f7a4 44 = .ok (.iload_n 0, 1) := by decide +kernel
theorem dr_cJ6_numberOfTrailingZeros_0f7a4_45 : decode cJ6_numberOfTrailingZeros_0f7a4 45 = .ok (.bipush 8, 2) := by decide +kernel
theorem dr_cJ6_numberOfTrailingZeros_0f7a4_47 : decode cJ6_numberOfTrailingZeros_0f7a4 47 = .ok (.iushr, 1) := by decide +kernel
theorem dr_cJ6_numberOfTrailingZeros_0f7a4_48 : decode cJ6_numberOfTrailingZeros_0f7a4 48 = .ok (.istore_n 0, 1) := by decide +kernel
theorem dr_cJ6_numberOfTrailingZeros_0f7a4_26 : decode cJ6_numberOfTrailingZeros_0f7a4 26 = .ok (.iinc 1 16, 3) := by decide +kernel
theorem dr_cJ6_numberOfTrailingZeros_0f7a4_29 : decode cJ6_numberOfTrailingZeros_0f7a4 29 = .ok (.iload_n 0, 1) := by decide +kernel
theorem dr_cJ6_numberOfTrailingZeros_0f7a4_30 : decode cJ6_numberOfTrailingZeros_0f7a4 30 = .ok (.bipush 16, 2) := by decide +kernel
theorem dr_cJ6_numberOfTrailingZeros_0f7a4_32 : decode cJ6_numberOfTrailingZeros_0f7a4 32 = .ok (.iushr, 1) := by decide +kernel
theorem dr_cJ6_numberOfTrailingZeros_0f7a4_33 : decode cJ6_numberOfTrailingZeros_0f7a4 33 = .ok (.istore_n 0, 1) := by decide +kernel
theorem dr_cJ6_numberOfTrailingZeros_0f7a4_12 : decode cJ6_numberOfTrailingZeros_0f7a4 12 = .ok (.iload_n 0, 1) := by decide +kernel
theorem dr_cJ6_numberOfTrailingZeros_0f7a4_13 : decode cJ6_numberOfTrailingZeros_0f7a4 13 = .ok (.bipush 32, 2) := by decide +kernel
theorem dr_cJ6_numberOfTrailingZeros_0f7a4_15 : decode cJ6_numberOfTrailingZeros_0f7a4 15 = .ok (.iand, 1) := by decide +kernel
theorem dr_cJ6_numberOfTrailingZeros_0f7a4_16 : decode cJ6_numberOfTrailingZeros_0f7a4 16 = .ok (.ireturn, 1) := by decide +kernel
theorem dr_cJ13_numberOfTrailingZeros_95d88_0 : decode cJ13_numberOfTrailingZeros_95d88 0 = .ok (.lload_n 0, 1) := by decide +kernel
theorem dr_cJ13_numberOfTrailingZeros_95d88_1 : decode cJ13_numberOfTrailingZeros_95d88 1 = .ok (.l2i, 1) := by decide +kernel
theorem dr_cJ13_numberOfTrailingZeros_95d88_2 : decode cJ13_numberOfTrailingZeros_95d88 2 = .ok (.istore_n 2, 1) := by decide +kernel
theorem dr_cJ13_numberOfTrailingZeros_95d88_3 : decode cJ13_numberOfTrailingZeros_95d88 3 = .ok (.iload_n 2, 1) := by decide +kernel
theorem dr_cJ13_numberOfTrailingZeros_95d88_4 : decode cJ13_numberOfTrailingZeros_95d88 4 = .ok (.ifCond .ne 17, 3) := by decide +kernel
theorem dr_cJ13_numberOfTrailingZeros_95d88_21 : decode cJ13_numberOfTrailingZeros_95d88 21 = .ok (.iload_n 2, 1) := by decide +kernel
theorem dr_cJ13_numberOfTrailingZeros_95d88_22 : decode cJ13_numberOfTrailingZeros_95d88 22 = .ok (.invokestatic 311, 3) := by decide +kernel
theorem wr_11_0 : (Jvm.Cond.methodLink "java/lang/Long" (311 : Nat) ({ cls := "java/lang/Integer", name := "numberOfTrailingZeros", desc := "(I)I" } : Jvm.MethodName)) ∈ gw := gw_11 0 rfl rfl
theorem wr_1_35 : (Jvm.Cond.initialized "java/lang/Integer") ∈ gw := gw_1 35 rfl rfl
theorem wr_11_2 : (Jvm.Cond.code ({ cls := "java/lang/Integer", name := "numberOfTrailingZeros", desc := "(I)I" } : Jvm.MethodName) prog_29_method_48_code (2 : Nat) (Option.some Jvm.ClassFile.FieldType.int)) ∈ gw := gw_11 2 rfl rfl
theorem wr_11_1 : (Jvm.Cond.static ({ cls := "java/lang/Integer", name := "numberOfTrailingZeros", desc := "(I)I" } : Jvm.MethodName)) ∈ gw := gw_11 1 rfl rfl
theorem dr_cJ13_numberOfTrailingZeros_95d88_25 : decode cJ13_numberOfTrailingZeros_95d88 25 = .ok (.ireturn, 1) := by decide +kernel
theorem dr_cJ13_numberOfTrailingZeros_95d88_7 : decode cJ13_numberOfTrailingZeros_95d88 7 = .ok (.bipush 32, 2) := by decide +kernel
theorem dr_cJ13_numberOfTrailingZeros_95d88_9 : decode cJ13_numberOfTrailingZeros_95d88 9 = .ok (.lload_n 0, 1) := by decide +kernel
theorem dr_cJ13_numberOfTrailingZeros_95d88_10 : decode cJ13_numberOfTrailingZeros_95d88 10 = .ok (.bipush 32, 2) := by decide +kernel
theorem dr_cJ13_numberOfTrailingZeros_95d88_12 : decode cJ13_numberOfTrailingZeros_95d88 12 = .ok (.lushr, 1) := by decide +kernel
theorem dr_cJ13_numberOfTrailingZeros_95d88_13 : decode cJ13_numberOfTrailingZeros_95d88 13 = .ok (.l2i, 1) := by decide +kernel
theorem dr_cJ13_numberOfTrailingZeros_95d88_14 : decode cJ13_numberOfTrailingZeros_95d88 14 = .ok (.invokestatic 311, 3) := by decide +kernel
theorem dr_cJ13_numberOfTrailingZeros_95d88_17 : decode cJ13_numberOfTrailingZeros_95d88 17 = .ok (.iadd, 1) := by decide +kernel
theorem dr_cJ13_numberOfTrailingZeros_95d88_18 : decode cJ13_numberOfTrailingZeros_95d88 18 = .ok (.goto 7, 3) := by decide +kernel
theorem dr_cX14_isDigit_0 : decode cX14_isDigit 0 = .ok (.iload_n 0, 1) := by decide +kernel
theorem dr_cX14_isDigit_1 : decode cX14_isDigit 1 = .ok (.bipush 48, 2) := by decide +kernel
theorem dr_cX14_isDigit_3 : decode cX14_isDigit 3 = .ok (.if_icmp .lt 13, 3) := by decide +kernel
theorem dr_cX14_isDigit_16 : decode cX14_isDigit 16 = .ok (.iconst 0, 1) := by decide +kernel
theorem dr_cX14_isDigit_17 : decode cX14_isDigit 17 = .ok (.ireturn, 1) := by decide +kernel
theorem dr_cX14_isDigit_6 : decode cX14_isDigit 6 = .ok (.iload_n 0, 1) := by decide +kernel
theorem dr_cX14_isDigit_7 : decode cX14_isDigit 7 = .ok (.bipush 57, 2) := by decide +kernel
theorem dr_cX14_isDigit_9 : decode cX14_isDigit 9 = .ok (.if_icmp .gt 7, 3) := by decide +kernel
theorem dr_cX14_isDigit_12 : decode cX14_isDigit 12 = .ok (.iconst 1, 1) := by decide +kernel
theorem dr_cX14_isDigit_13 : decode cX14_isDigit 13 = .ok (.goto 4, 3) := by decide +kernel
theorem dr_cX14_isLetter_0 : decode cX14_isLetter 0 = .ok (.iload_n 0, 1) := by decide +kernel
theorem dr_cX14_isLetter_1 : decode cX14_isLetter 1 = .ok (.bipush 97, 2) := by decide +kernel
theorem dr_cX14_isLetter_3 : decode cX14_isLetter 3 = .ok (.if_icmp .lt 13, 3) := by decide +kernel
theorem dr_cX14_isLetter_16 : decode cX14_isLetter 16 = .ok (.iconst 0, 1) := by decide +kernel
theorem dr_cX14_isLetter_17 : decode cX14_isLetter 17 = .ok (.ireturn, 1) := by decide +kernel
theorem dr_cX14_isLetter_6 : decode cX14_isLetter 6 = .ok (.iload_n 0, 1) := by decide +kernel
theorem dr_cX14_isLetter_7 : decode cX14_isLetter 7 = .ok (.bipush 122, 2) := by decide +kernel
theorem dr_cX14_isLetter_9 : decode cX14_isLetter 9 = .ok (.if_icmp .gt 7, 3) := by decide +kernel
theorem dr_cX14_isLetter_12 : decode cX14_isLetter 12 = .ok (.iconst 1, 1) := by decide +kernel
theorem dr_cX14_isLetter_13 : decode cX14_isLetter 13 = .ok (.goto 4, 3) := by decide +kernel
theorem dr_cX13_row_0 : decode cX13_row 0 = .ok (.aload_n 0, 1) := by decide +kernel
theorem dr_cX13_row_1 : decode cX13_row 1 = .ok (.getfield 19, 3) := by decide +kernel
theorem wr_7_32 : (Jvm.Cond.fieldLink "SpillForgeModel$Code" (19 : Nat) "SpillForgeModel$Code" "rowN" "I") ∈ gw := gw_7 32 rfl rfl
theorem dr_cX13_row_4 : decode cX13_row 4 = .ok (.aload_n 0, 1) := by decide +kernel
theorem dr_cX13_row_5 : decode cX13_row 5 = .ok (.getfield 16, 3) := by decide +kernel
theorem wr_7_31 : (Jvm.Cond.fieldLink "SpillForgeModel$Code" (16 : Nat) "SpillForgeModel$Code" "rows" "Ljava/util/ArrayList;") ∈ gw := gw_7 31 rfl rfl
theorem dr_cX13_row_8 : decode cX13_row 8 = .ok (.invokevirtual 26, 3) := by decide +kernel
theorem wr_9_153 : (Jvm.Cond.methodLink "SpillForgeModel$Code" (26 : Nat) ({ cls := "java/util/ArrayList", name := "size", desc := "()I" } : Jvm.MethodName)) ∈ gw := gw_9 153 rfl rfl
theorem wr_9_156 : (Jvm.Cond.code ({ cls := "java/util/ArrayList", name := "size", desc := "()I" } : Jvm.MethodName) prog_43_method_8_code (1 : Nat) (Option.some Jvm.ClassFile.FieldType.int)) ∈ gw := gw_9 156 rfl rfl
theorem wr_9_154 : (Jvm.Cond.instanceMethod ({ cls := "java/util/ArrayList", name := "size", desc := "()I" } : Jvm.MethodName)) ∈ gw := gw_9 154 rfl rfl
theorem wr_9_155 : (Jvm.Cond.selects "java/util/ArrayList" ({ cls := "java/util/ArrayList", name := "size", desc := "()I" } : Jvm.MethodName) ({ cls := "java/util/ArrayList", name := "size", desc := "()I" } : Jvm.MethodName)) ∈ gw := gw_9 155 rfl rfl
theorem dr_cX13_row_11 : decode cX13_row 11 = .ok (.if_icmp .ne 18, 3) := by decide +kernel
theorem dr_cX13_row_29 : decode cX13_row 29 = .ok (.aload_n 0, 1) := by decide +kernel
theorem dr_cX13_row_30 : decode cX13_row 30 = .ok (.getfield 16, 3) := by decide +kernel
theorem dr_cX13_row_33 : decode cX13_row 33 = .ok (.aload_n 0, 1) := by decide +kernel
theorem dr_cX13_row_34 : decode cX13_row 34 = .ok (.getfield 19, 3) := by decide +kernel
theorem dr_cX13_row_37 : decode cX13_row 37 = .ok (.invokevirtual 37, 3) := by decide +kernel
theorem wr_10_58 : (Jvm.Cond.methodLink "SpillForgeModel$Code" (37 : Nat) ({ cls := "java/util/ArrayList", name := "get", desc := "(I)Ljava/lang/Object;" } : Jvm.MethodName)) ∈ gw := gw_10 58 rfl rfl
theorem wr_10_61 : (Jvm.Cond.code ({ cls := "java/util/ArrayList", name := "get", desc := "(I)Ljava/lang/Object;" } : Jvm.MethodName) prog_43_method_20_code (2 : Nat) (Option.some (Jvm.ClassFile.FieldType.object "java/lang/Object"))) ∈ gw := gw_10 61 rfl rfl
theorem wr_10_59 : (Jvm.Cond.instanceMethod ({ cls := "java/util/ArrayList", name := "get", desc := "(I)Ljava/lang/Object;" } : Jvm.MethodName)) ∈ gw := gw_10 59 rfl rfl
theorem wr_10_60 : (Jvm.Cond.selects "java/util/ArrayList" ({ cls := "java/util/ArrayList", name := "get", desc := "(I)Ljava/lang/Object;" } : Jvm.MethodName) ({ cls := "java/util/ArrayList", name := "get", desc := "(I)Ljava/lang/Object;" } : Jvm.MethodName)) ∈ gw := gw_10 60 rfl rfl
theorem dr_cX13_row_40 : decode cX13_row 40 = .ok (.checkcast 45, 3) := by decide +kernel
theorem wr_10_79 : (Jvm.Cond.classLink "SpillForgeModel$Code" (45 : Nat) "SpillForgeModel$Row") ∈ gw := gw_10 79 rfl rfl
theorem dr_cX13_row_43 : decode cX13_row 43 = .ok (.astore_n 1, 1) := by decide +kernel
theorem dr_cX13_row_44 : decode cX13_row 44 = .ok (.aload_n 0, 1) := by decide +kernel
theorem dr_cX13_row_45 : decode cX13_row 45 = .ok (.dup, 1) := by decide +kernel
theorem dr_cX13_row_46 : decode cX13_row 46 = .ok (.getfield 19, 3) := by decide +kernel
theorem dr_cX13_row_49 : decode cX13_row 49 = .ok (.iconst 1, 1) := by decide +kernel
theorem dr_cX13_row_50 : decode cX13_row 50 = .ok (.iadd, 1) := by decide +kernel
theorem dr_cX13_row_51 : decode cX13_row 51 = .ok (.putfield 19, 3) := by decide +kernel
theorem dr_cX13_row_54 : decode cX13_row 54 = .ok (.aload_n 1, 1) := by decide +kernel
theorem dr_cX13_row_55 : decode cX13_row 55 = .ok (.iconst 0, 1) := by decide +kernel
theorem dr_cX13_row_56 : decode cX13_row 56 = .ok (.putfield 48, 3) := by decide +kernel
theorem wr_9_192 : (Jvm.Cond.fieldLink "SpillForgeModel$Code" (48 : Nat) "SpillForgeModel$Row" "regA" "Z") ∈ gw := gw_9 192 rfl rfl
theorem dr_cX13_row_59 : decode cX13_row 59 = .ok (.aload_n 1, 1) := by decide +kernel
theorem dr_cX13_row_60 : decode cX13_row 60 = .ok (.iconst 0, 1) := by decide +kernel
theorem dr_cX13_row_61 : decode cX13_row 61 = .ok (.putfield 52, 3) := by decide +kernel
theorem wr_9_196 : (Jvm.Cond.fieldLink "SpillForgeModel$Code" (52 : Nat) "SpillForgeModel$Row" "regB" "Z") ∈ gw := gw_9 196 rfl rfl
theorem dr_cX13_row_64 : decode cX13_row 64 = .ok (.aload_n 1, 1) := by decide +kernel
theorem dr_cX13_row_65 : decode cX13_row 65 = .ok (.iconst 0, 1) := by decide +kernel
theorem dr_cX13_row_66 : decode cX13_row 66 = .ok (.putfield 55, 3) := by decide +kernel
theorem wr_9_180 : (Jvm.Cond.fieldLink "SpillForgeModel$Code" (55 : Nat) "SpillForgeModel$Row" "a" "I") ∈ gw := gw_9 180 rfl rfl
theorem dr_cX13_row_69 : decode cX13_row 69 = .ok (.aload_n 1, 1) := by decide +kernel
theorem dr_cX13_row_70 : decode cX13_row 70 = .ok (.iconst 0, 1) := by decide +kernel
theorem dr_cX13_row_71 : decode cX13_row 71 = .ok (.putfield 58, 3) := by decide +kernel
theorem wr_9_184 : (Jvm.Cond.fieldLink "SpillForgeModel$Code" (58 : Nat) "SpillForgeModel$Row" "b" "I") ∈ gw := gw_9 184 rfl rfl
theorem dr_cX13_row_74 : decode cX13_row 74 = .ok (.aload_n 1, 1) := by decide +kernel
theorem dr_cX13_row_75 : decode cX13_row 75 = .ok (.iconst 0, 1) := by decide +kernel
theorem dr_cX13_row_76 : decode cX13_row 76 = .ok (.putfield 61, 3) := by decide +kernel
theorem wr_9_176 : (Jvm.Cond.fieldLink "SpillForgeModel$Code" (61 : Nat) "SpillForgeModel$Row" "t" "I") ∈ gw := gw_9 176 rfl rfl
theorem dr_cX13_row_79 : decode cX13_row 79 = .ok (.aload_n 1, 1) := by decide +kernel
theorem dr_cX13_row_80 : decode cX13_row 80 = .ok (.iconst 0, 1) := by decide +kernel
theorem dr_cX13_row_81 : decode cX13_row 81 = .ok (.putfield 64, 3) := by decide +kernel
theorem wr_9_188 : (Jvm.Cond.fieldLink "SpillForgeModel$Code" (64 : Nat) "SpillForgeModel$Row" "slot" "I") ∈ gw := gw_9 188 rfl rfl
theorem dr_cX13_row_84 : decode cX13_row 84 = .ok (.aload_n 1, 1) := by decide +kernel
theorem dr_cX13_row_85 : decode cX13_row 85 = .ok (.areturn, 1) := by decide +kernel
theorem dr_cX15_init_0 : decode cX15_init 0 = .ok (.aload_n 0, 1) := by decide +kernel
theorem dr_cX15_init_1 : decode cX15_init 1 = .ok (.invokespecial 3, 3) := by decide +kernel
theorem wr_9_170 : (Jvm.Cond.methodLink "SpillForgeModel$Row" (3 : Nat) ({ cls := "java/lang/Object", name := "<init>", desc := "()V" } : Jvm.MethodName)) ∈ gw := gw_9 170 rfl rfl
theorem dr_cX15_init_4 : decode cX15_init 4 = .ok (.return_, 1) := by decide +kernel
abbrev ky_2110_Integer_numberOfTrailingZeros : gKey := (cJ6_numberOfTrailingZeros_0f7a4, 2, "java/lang/Integer", (some FieldType.int), [], "numberOfTrailingZeros", fun _ _ => True)
def pp_2110_Integer_numberOfTrailingZeros (D : va_G) (I : FieldType → ClassId) (P2107 : List Nat) (F2108 : Nat → va_E) (p2109 : Int32) : Option Value → va_W → Nat → Nat → Prop := fun r w dc ds => ∃ (o2210 : Int32), r = some (.int o2210) ∧ w = va_pl P2107 F2108 ∧ dc ≤ 0 ∧ ds ≤ 0
set_option maxRecDepth 100000 in
set_option maxHeartbeats 4000000 in
theorem cp_2110_Integer_numberOfTrailingZeros (l : Launch) (hl0 : l.stackTraces = false) (D : va_G) (I : FieldType → ClassId) (P2107 : List Nat) (F2108 : Nat → va_E) (p2109 : Int32)  : CtA (gV D I) l yJ6_numberOfTrailingZeros_0f7a4 cJ6_numberOfTrailingZeros_0f7a4 2 (some FieldType.int) 0 0 0 0 [.int p2109] (va_pl P2107 F2108) (pp_2110_Integer_numberOfTrailingZeros D I P2107 F2108 p2109) gNA := by
  refine CtA_ofF hl0 (by decide +kernel) (Nat.le_of_ble_eq_true rfl) ?_
  have bp2109 := gB_any p2109
  refine G_iload_n 0 dr_cJ6_numberOfTrailingZeros_0f7a4_0 rfl ?_
  refine G_iconst (-1) dr_cJ6_numberOfTrailingZeros_0f7a4_1 (by decide +kernel) ?_
  refine G_ixor dr_cJ6_numberOfTrailingZeros_0f7a4_2 (G_nam fun z2111 hz2111 => ?_)
  have bz2111 : gB z2111 (-2147483648) 2147483647 := gB_any z2111
  refine G_iload_n 0 dr_cJ6_numberOfTrailingZeros_0f7a4_3 rfl ?_
  refine G_iconst 1 dr_cJ6_numberOfTrailingZeros_0f7a4_4 (by decide +kernel) ?_
  refine G_isub dr_cJ6_numberOfTrailingZeros_0f7a4_5 (G_nam fun z2112 hz2112 => ?_)
  have bz2112 : gB z2112 (-2147483648) 2147483647 := gB_any z2112
  refine G_iand dr_cJ6_numberOfTrailingZeros_0f7a4_6 (G_nam fun z2113 hz2113 => ?_)
  have bz2113 : gB z2113 (-2147483648) 2147483647 := gB_any z2113
  refine G_istore_n (L' := [(0, .int z2113)]) dr_cJ6_numberOfTrailingZeros_0f7a4_7 (Nat.le_of_ble_eq_true rfl) rfl ?_
  refine G_iload_n 0 dr_cJ6_numberOfTrailingZeros_0f7a4_8 rfl ?_
  refine G_if_gt 17 dr_cJ6_numberOfTrailingZeros_0f7a4_9 (by decide +kernel) (fun hc2114 => ?_) (fun hc2114 => ?_)
  · have r2115 : 0 < z2113.toInt := gj_ltL hc2114 (show Int32.toInt 0 = 0 by decide)
    have bz2113' : gB z2113 1 2147483647 := ⟨by omega, by omega⟩
    refine G_iconst 1 dr_cJ6_numberOfTrailingZeros_0f7a4_17 (by decide +kernel) ?_
    refine G_istore_n (L' := [(1, .int 1), (0, .int z2113)]) dr_cJ6_numberOfTrailingZeros_0f7a4_18 (Nat.le_of_ble_eq_true rfl) rfl ?_
    refine G_iload_n 1 dr_cJ6_numberOfTrailingZeros_0f7a4_19 rfl ?_
    refine G_ldcw 65536 dr_cJ6_numberOfTrailingZeros_0f7a4_20 wr_11_3 ?_
    refine G_icmp_le 34 dr_cJ6_numberOfTrailingZeros_0f7a4_23 (by decide +kernel) (fun hc2116 => ?_) (fun hc2116 => ?_)
    · have r2117 : z2113.toInt ≤ 65536 := gj_le hc2116 (show Int32.toInt 65536 = 65536 by decide)
      have bz2113'' : gB z2113 1 65536 := ⟨by omega, by omega⟩
      refine G_iload_n 1 dr_cJ6_numberOfTrailingZeros_0f7a4_34 rfl ?_
      refine G_sipush 256 dr_cJ6_numberOfTrailingZeros_0f7a4_35 (by decide +kernel) ?_
      refine G_icmp_le 49 dr_cJ6_numberOfTrailingZeros_0f7a4_38 (by decide +kernel) (fun hc2118 => ?_) (fun hc2118 => ?_)
      · have r2119 : z2113.toInt ≤ 256 := gj_le hc2118 (show Int32.toInt 256 = 256 by decide)
        have bz2113''' : gB z2113 1 256 := ⟨by omega, by omega⟩
        refine G_iload_n 1 dr_cJ6_numberOfTrailingZeros_0f7a4_49 rfl ?_
        refine G_bipush 16 dr_cJ6_numberOfTrailingZeros_0f7a4_50 (by decide +kernel) ?_
        refine G_icmp_le 62 dr_cJ6_numberOfTrailingZeros_0f7a4_52 (by decide +kernel) (fun hc2120 => ?_) (fun hc2120 => ?_)
        · have r2121 : z2113.toInt ≤ 16 := gj_le hc2120 (show Int32.toInt 16 = 16 by decide)
          have bz2113'''' : gB z2113 1 16 := ⟨by omega, by omega⟩
          refine G_iload_n 1 dr_cJ6_numberOfTrailingZeros_0f7a4_62 rfl ?_
          refine G_iconst 4 dr_cJ6_numberOfTrailingZeros_0f7a4_63 (by decide +kernel) ?_
          refine G_icmp_le 74 dr_cJ6_numberOfTrailingZeros_0f7a4_64 (by decide +kernel) (fun hc2122 => ?_) (fun hc2122 => ?_)
          · have r2123 : z2113.toInt ≤ 4 := gj_le hc2122 (show Int32.toInt 4 = 4 by decide)
            have bz2113''''' : gB z2113 1 4 := ⟨by omega, by omega⟩
            refine G_iload_n 0 dr_cJ6_numberOfTrailingZeros_0f7a4_74 rfl ?_
            refine G_iload_n 1 dr_cJ6_numberOfTrailingZeros_0f7a4_75 rfl ?_
            refine G_iconst 1 dr_cJ6_numberOfTrailingZeros_0f7a4_76 (by decide +kernel) ?_
            refine G_iushr dr_cJ6_numberOfTrailingZeros_0f7a4_77 (G_nam fun z2124 hz2124 => ?_)
            have bz2124 : gB z2124 (-2147483648) 2147483647 := gB_any z2124
            refine G_iadd dr_cJ6_numberOfTrailingZeros_0f7a4_78 (G_nam fun z2125 hz2125 => ?_)
            have bz2125 : gB z2125 (-2147483648) 2147483647 := gB_any z2125
            exact G_iretA dr_cJ6_numberOfTrailingZeros_0f7a4_79 rfl (Nat.le_of_ble_eq_true rfl) (Nat.le_of_ble_eq_true rfl) ⟨z2125, rfl, rfl, (Nat.le_of_ble_eq_true rfl), (Nat.le_of_ble_eq_true rfl)⟩
          · have r2126 : 4 < z2113.toInt := gj_nle hc2122 (show Int32.toInt 4 = 4 by decide)
            have bz2113''''' : gB z2113 5 16 := ⟨by omega, by omega⟩
            refine G_iinc (L' := [(1, .int 3), (0, .int z2113)]) (3) 0 dr_cJ6_numberOfTrailingZeros_0f7a4_67 rfl (by decide) (Nat.le_of_ble_eq_true rfl) rfl ?_
            refine G_iload_n 1 dr_cJ6_numberOfTrailingZeros_0f7a4_70 rfl ?_
            refine G_iconst 2 dr_cJ6_numberOfTrailingZeros_0f7a4_71 (by decide +kernel) ?_
            refine G_iushr dr_cJ6_numberOfTrailingZeros_0f7a4_72 (G_nam fun z2127 hz2127 => ?_)
            have bz2127 : gB z2127 (-2147483648) 2147483647 := gB_any z2127
            refine G_istore_n (L' := [(0, .int z2127), (1, .int 3)]) dr_cJ6_numberOfTrailingZeros_0f7a4_73 (Nat.le_of_ble_eq_true rfl) rfl ?_
            refine G_iload_n 1 dr_cJ6_numberOfTrailingZeros_0f7a4_74 rfl ?_
            refine G_iload_n 0 dr_cJ6_numberOfTrailingZeros_0f7a4_75 rfl ?_
            refine G_iconst 1 dr_cJ6_numberOfTrailingZeros_0f7a4_76 (by decide +kernel) ?_
            refine G_iushr dr_cJ6_numberOfTrailingZeros_0f7a4_77 (G_nam fun z2128 hz2128 => ?_)
            have bz2128 : gB z2128 (-2147483648) 2147483647 := gB_any z2128
            refine G_iadd dr_cJ6_numberOfTrailingZeros_0f7a4_78 (G_nam fun z2129 hz2129 => ?_)
            have bz2129 : gB z2129 (-2147483648) 2147483647 := gB_any z2129
            exact G_iretA dr_cJ6_numberOfTrailingZeros_0f7a4_79 rfl (Nat.le_of_ble_eq_true rfl) (Nat.le_of_ble_eq_true rfl) ⟨z2129, rfl, rfl, (Nat.le_of_ble_eq_true rfl), (Nat.le_of_ble_eq_true rfl)⟩
        · have r2130 : 16 < z2113.toInt := gj_nle hc2120 (show Int32.toInt 16 = 16 by decide)
          have bz2113'''' : gB z2113 17 256 := ⟨by omega, by omega⟩
          refine G_iinc (L' := [(1, .int 5), (0, .int z2113)]) (5) 0 dr_cJ6_numberOfTrailingZeros_0f7a4_55 rfl (by decide) (Nat.le_of_ble_eq_true rfl) rfl ?_
          refine G_iload_n 1 dr_cJ6_numberOfTrailingZeros_0f7a4_58 rfl ?_
          refine G_iconst 4 dr_cJ6_numberOfTrailingZeros_0f7a4_59 (by decide +kernel) ?_
          refine G_iushr dr_cJ6_numberOfTrailingZeros_0f7a4_60 (G_nam fun z2131 hz2131 => ?_)
          have bz2131 : gB z2131 (-2147483648) 2147483647 := gB_any z2131
          refine G_istore_n (L' := [(0, .int z2131), (1, .int 5)]) dr_cJ6_numberOfTrailingZeros_0f7a4_61 (Nat.le_of_ble_eq_true rfl) rfl ?_
          refine G_iload_n 0 dr_cJ6_numberOfTrailingZeros_0f7a4_62 rfl ?_
          refine G_iconst 4 dr_cJ6_numberOfTrailingZeros_0f7a4_63 (by decide +kernel) ?_
          refine G_icmp_le 74 dr_cJ6_numberOfTrailingZeros_0f7a4_64 (by decide +kernel) (fun hc2132 => ?_) (fun hc2132 => ?_)
          · have r2133 : z2131.toInt ≤ 4 := gj_le hc2132 (show Int32.toInt 4 = 4 by decide)
            have bz2131' : gB z2131 (-2147483648) 4 := ⟨by omega, by omega⟩
            refine G_iload_n 1 dr_cJ6_numberOfTrailingZeros_0f7a4_74 rfl ?_
            refine G_iload_n 0 dr_cJ6_numberOfTrailingZeros_0f7a4_75 rfl ?_
            refine G_iconst 1 dr_cJ6_numberOfTrailingZeros_0f7a4_76 (by decide +kernel) ?_
            refine G_iushr dr_cJ6_numberOfTrailingZeros_0f7a4_77 (G_nam fun z2134 hz2134 => ?_)
            have bz2134 : gB z2134 (-2147483648) 2147483647 := gB_any z2134
            refine G_iadd dr_cJ6_numberOfTrailingZeros_0f7a4_78 (G_nam fun z2135 hz2135 => ?_)
            have bz2135 : gB z2135 (-2147483648) 2147483647 := gB_any z2135
            exact G_iretA dr_cJ6_numberOfTrailingZeros_0f7a4_79 rfl (Nat.le_of_ble_eq_true rfl) (Nat.le_of_ble_eq_true rfl) ⟨z2135, rfl, rfl, (Nat.le_of_ble_eq_true rfl), (Nat.le_of_ble_eq_true rfl)⟩
          · have r2136 : 4 < z2131.toInt := gj_nle hc2132 (show Int32.toInt 4 = 4 by decide)
            have bz2131' : gB z2131 5 2147483647 := ⟨by omega, by omega⟩
            refine G_iinc (L' := [(1, .int 7), (0, .int z2131)]) (7) 1 dr_cJ6_numberOfTrailingZeros_0f7a4_67 rfl (by decide) (Nat.le_of_ble_eq_true rfl) rfl ?_
            refine G_iload_n 1 dr_cJ6_numberOfTrailingZeros_0f7a4_70 rfl ?_
            refine G_iconst 2 dr_cJ6_numberOfTrailingZeros_0f7a4_71 (by decide +kernel) ?_
            refine G_iushr dr_cJ6_numberOfTrailingZeros_0f7a4_72 (G_nam fun z2137 hz2137 => ?_)
            have bz2137 : gB z2137 (-2147483648) 2147483647 := gB_any z2137
            refine G_istore_n (L' := [(0, .int z2137), (1, .int 7)]) dr_cJ6_numberOfTrailingZeros_0f7a4_73 (Nat.le_of_ble_eq_true rfl) rfl ?_
            refine G_iload_n 1 dr_cJ6_numberOfTrailingZeros_0f7a4_74 rfl ?_
            refine G_iload_n 0 dr_cJ6_numberOfTrailingZeros_0f7a4_75 rfl ?_
            refine G_iconst 1 dr_cJ6_numberOfTrailingZeros_0f7a4_76 (by decide +kernel) ?_
            refine G_iushr dr_cJ6_numberOfTrailingZeros_0f7a4_77 (G_nam fun z2138 hz2138 => ?_)
            have bz2138 : gB z2138 (-2147483648) 2147483647 := gB_any z2138
            refine G_iadd dr_cJ6_numberOfTrailingZeros_0f7a4_78 (G_nam fun z2139 hz2139 => ?_)
            have bz2139 : gB z2139 (-2147483648) 2147483647 := gB_any z2139
            exact G_iretA dr_cJ6_numberOfTrailingZeros_0f7a4_79 rfl (Nat.le_of_ble_eq_true rfl) (Nat.le_of_ble_eq_true rfl) ⟨z2139, rfl, rfl, (Nat.le_of_ble_eq_true rfl), (Nat.le_of_ble_eq_true rfl)⟩
      · have r2140 : 256 < z2113.toInt := gj_nle hc2118 (show Int32.toInt 256 = 256 by decide)
        have bz2113''' : gB z2113 257 65536 := ⟨by omega, by omega⟩
        refine G_iinc (L' := [(1, .int 9), (0, .int z2113)]) (9) 0 dr_cJ6_numberOfTrailingZeros_0f7a4_41 rfl (by decide) (Nat.le_of_ble_eq_true rfl) rfl ?_
        refine G_iload_n 1 dr_cJ6_numberOfTrailingZeros_0f7a4_44 rfl ?_
        refine G_bipush 8 dr_cJ6_numberOfTrailingZeros_0f7a4_45 (by decide +kernel) ?_
        refine G_iushr dr_cJ6_numberOfTrailingZeros_0f7a4_47 (G_nam fun z2141 hz2141 => ?_)
        have bz2141 : gB z2141 (-2147483648) 2147483647 := gB_any z2141
        refine G_istore_n (L' := [(0, .int z2141), (1, .int 9)]) dr_cJ6_numberOfTrailingZeros_0f7a4_48 (Nat.le_of_ble_eq_true rfl) rfl ?_
        refine G_iload_n 0 dr_cJ6_numberOfTrailingZeros_0f7a4_49 rfl ?_
        refine G_bipush 16 dr_cJ6_numberOfTrailingZeros_0f7a4_50 (by decide +kernel) ?_
        refine G_icmp_le 62 dr_cJ6_numberOfTrailingZeros_0f7a4_52 (by decide +kernel) (fun hc2142 => ?_) (fun hc2142 => ?_)
        · have r2143 : z2141.toInt ≤ 16 := gj_le hc2142 (show Int32.toInt 16 = 16 by decide)
          have bz2141' : gB z2141 (-2147483648) 16 := ⟨by omega, by omega⟩
          refine G_iload_n 0 dr_cJ6_numberOfTrailingZeros_0f7a4_62 rfl ?_
          refine G_iconst 4 dr_cJ6_numberOfTrailingZeros_0f7a4_63 (by decide +kernel) ?_
          refine G_icmp_le 74 dr_cJ6_numberOfTrailingZeros_0f7a4_64 (by decide +kernel) (fun hc2144 => ?_) (fun hc2144 => ?_)
          · have r2145 : z2141.toInt ≤ 4 := gj_le hc2144 (show Int32.toInt 4 = 4 by decide)
            have bz2141'' : gB z2141 (-2147483648) 4 := ⟨by omega, by omega⟩
            refine G_iload_n 1 dr_cJ6_numberOfTrailingZeros_0f7a4_74 rfl ?_
            refine G_iload_n 0 dr_cJ6_numberOfTrailingZeros_0f7a4_75 rfl ?_
            refine G_iconst 1 dr_cJ6_numberOfTrailingZeros_0f7a4_76 (by decide +kernel) ?_
            refine G_iushr dr_cJ6_numberOfTrailingZeros_0f7a4_77 (G_nam fun z2146 hz2146 => ?_)
            have bz2146 : gB z2146 (-2147483648) 2147483647 := gB_any z2146
            refine G_iadd dr_cJ6_numberOfTrailingZeros_0f7a4_78 (G_nam fun z2147 hz2147 => ?_)
            have bz2147 : gB z2147 (-2147483648) 2147483647 := gB_any z2147
            exact G_iretA dr_cJ6_numberOfTrailingZeros_0f7a4_79 rfl (Nat.le_of_ble_eq_true rfl) (Nat.le_of_ble_eq_true rfl) ⟨z2147, rfl, rfl, (Nat.le_of_ble_eq_true rfl), (Nat.le_of_ble_eq_true rfl)⟩
          · have r2148 : 4 < z2141.toInt := gj_nle hc2144 (show Int32.toInt 4 = 4 by decide)
            have bz2141'' : gB z2141 5 16 := ⟨by omega, by omega⟩
            refine G_iinc (L' := [(1, .int 11), (0, .int z2141)]) (11) 1 dr_cJ6_numberOfTrailingZeros_0f7a4_67 rfl (by decide) (Nat.le_of_ble_eq_true rfl) rfl ?_
            refine G_iload_n 1 dr_cJ6_numberOfTrailingZeros_0f7a4_70 rfl ?_
            refine G_iconst 2 dr_cJ6_numberOfTrailingZeros_0f7a4_71 (by decide +kernel) ?_
            refine G_iushr dr_cJ6_numberOfTrailingZeros_0f7a4_72 (G_nam fun z2149 hz2149 => ?_)
            have bz2149 : gB z2149 (-2147483648) 2147483647 := gB_any z2149
            refine G_istore_n (L' := [(0, .int z2149), (1, .int 11)]) dr_cJ6_numberOfTrailingZeros_0f7a4_73 (Nat.le_of_ble_eq_true rfl) rfl ?_
            refine G_iload_n 1 dr_cJ6_numberOfTrailingZeros_0f7a4_74 rfl ?_
            refine G_iload_n 0 dr_cJ6_numberOfTrailingZeros_0f7a4_75 rfl ?_
            refine G_iconst 1 dr_cJ6_numberOfTrailingZeros_0f7a4_76 (by decide +kernel) ?_
            refine G_iushr dr_cJ6_numberOfTrailingZeros_0f7a4_77 (G_nam fun z2150 hz2150 => ?_)
            have bz2150 : gB z2150 (-2147483648) 2147483647 := gB_any z2150
            refine G_iadd dr_cJ6_numberOfTrailingZeros_0f7a4_78 (G_nam fun z2151 hz2151 => ?_)
            have bz2151 : gB z2151 (-2147483648) 2147483647 := gB_any z2151
            exact G_iretA dr_cJ6_numberOfTrailingZeros_0f7a4_79 rfl (Nat.le_of_ble_eq_true rfl) (Nat.le_of_ble_eq_true rfl) ⟨z2151, rfl, rfl, (Nat.le_of_ble_eq_true rfl), (Nat.le_of_ble_eq_true rfl)⟩
        · have r2152 : 16 < z2141.toInt := gj_nle hc2142 (show Int32.toInt 16 = 16 by decide)
          have bz2141' : gB z2141 17 2147483647 := ⟨by omega, by omega⟩
          refine G_iinc (L' := [(1, .int 13), (0, .int z2141)]) (13) 1 dr_cJ6_numberOfTrailingZeros_0f7a4_55 rfl (by decide) (Nat.le_of_ble_eq_true rfl) rfl ?_
          refine G_iload_n 1 dr_cJ6_numberOfTrailingZeros_0f7a4_58 rfl ?_
          refine G_iconst 4 dr_cJ6_numberOfTrailingZeros_0f7a4_59 (by decide +kernel) ?_
          refine G_iushr dr_cJ6_numberOfTrailingZeros_0f7a4_60 (G_nam fun z2153 hz2153 => ?_)
          have bz2153 : gB z2153 (-2147483648) 2147483647 := gB_any z2153
          refine G_istore_n (L' := [(0, .int z2153), (1, .int 13)]) dr_cJ6_numberOfTrailingZeros_0f7a4_61 (Nat.le_of_ble_eq_true rfl) rfl ?_
          refine G_iload_n 0 dr_cJ6_numberOfTrailingZeros_0f7a4_62 rfl ?_
          refine G_iconst 4 dr_cJ6_numberOfTrailingZeros_0f7a4_63 (by decide +kernel) ?_
          refine G_icmp_le 74 dr_cJ6_numberOfTrailingZeros_0f7a4_64 (by decide +kernel) (fun hc2154 => ?_) (fun hc2154 => ?_)
          · have r2155 : z2153.toInt ≤ 4 := gj_le hc2154 (show Int32.toInt 4 = 4 by decide)
            have bz2153' : gB z2153 (-2147483648) 4 := ⟨by omega, by omega⟩
            refine G_iload_n 1 dr_cJ6_numberOfTrailingZeros_0f7a4_74 rfl ?_
            refine G_iload_n 0 dr_cJ6_numberOfTrailingZeros_0f7a4_75 rfl ?_
            refine G_iconst 1 dr_cJ6_numberOfTrailingZeros_0f7a4_76 (by decide +kernel) ?_
            refine G_iushr dr_cJ6_numberOfTrailingZeros_0f7a4_77 (G_nam fun z2156 hz2156 => ?_)
            have bz2156 : gB z2156 (-2147483648) 2147483647 := gB_any z2156
            refine G_iadd dr_cJ6_numberOfTrailingZeros_0f7a4_78 (G_nam fun z2157 hz2157 => ?_)
            have bz2157 : gB z2157 (-2147483648) 2147483647 := gB_any z2157
            exact G_iretA dr_cJ6_numberOfTrailingZeros_0f7a4_79 rfl (Nat.le_of_ble_eq_true rfl) (Nat.le_of_ble_eq_true rfl) ⟨z2157, rfl, rfl, (Nat.le_of_ble_eq_true rfl), (Nat.le_of_ble_eq_true rfl)⟩
          · have r2158 : 4 < z2153.toInt := gj_nle hc2154 (show Int32.toInt 4 = 4 by decide)
            have bz2153' : gB z2153 5 2147483647 := ⟨by omega, by omega⟩
            refine G_iinc (L' := [(1, .int 15), (0, .int z2153)]) (15) 1 dr_cJ6_numberOfTrailingZeros_0f7a4_67 rfl (by decide) (Nat.le_of_ble_eq_true rfl) rfl ?_
            refine G_iload_n 1 dr_cJ6_numberOfTrailingZeros_0f7a4_70 rfl ?_
            refine G_iconst 2 dr_cJ6_numberOfTrailingZeros_0f7a4_71 (by decide +kernel) ?_
            refine G_iushr dr_cJ6_numberOfTrailingZeros_0f7a4_72 (G_nam fun z2159 hz2159 => ?_)
            have bz2159 : gB z2159 (-2147483648) 2147483647 := gB_any z2159
            refine G_istore_n (L' := [(0, .int z2159), (1, .int 15)]) dr_cJ6_numberOfTrailingZeros_0f7a4_73 (Nat.le_of_ble_eq_true rfl) rfl ?_
            refine G_iload_n 1 dr_cJ6_numberOfTrailingZeros_0f7a4_74 rfl ?_
            refine G_iload_n 0 dr_cJ6_numberOfTrailingZeros_0f7a4_75 rfl ?_
            refine G_iconst 1 dr_cJ6_numberOfTrailingZeros_0f7a4_76 (by decide +kernel) ?_
            refine G_iushr dr_cJ6_numberOfTrailingZeros_0f7a4_77 (G_nam fun z2160 hz2160 => ?_)
            have bz2160 : gB z2160 (-2147483648) 2147483647 := gB_any z2160
            refine G_iadd dr_cJ6_numberOfTrailingZeros_0f7a4_78 (G_nam fun z2161 hz2161 => ?_)
            have bz2161 : gB z2161 (-2147483648) 2147483647 := gB_any z2161
            exact G_iretA dr_cJ6_numberOfTrailingZeros_0f7a4_79 rfl (Nat.le_of_ble_eq_true rfl) (Nat.le_of_ble_eq_true rfl) ⟨z2161, rfl, rfl, (Nat.le_of_ble_eq_true rfl), (Nat.le_of_ble_eq_true rfl)⟩
    · have r2162 : 65536 < z2113.toInt := gj_nle hc2116 (show Int32.toInt 65536 = 65536 by decide)
      have bz2113'' : gB z2113 65537 2147483647 := ⟨by omega, by omega⟩
      refine G_iinc (L' := [(1, .int 17), (0, .int z2113)]) (17) 0 dr_cJ6_numberOfTrailingZeros_0f7a4_26 rfl (by decide) (Nat.le_of_ble_eq_true rfl) rfl ?_
      refine G_iload_n 1 dr_cJ6_numberOfTrailingZeros_0f7a4_29 rfl ?_
      refine G_bipush 16 dr_cJ6_numberOfTrailingZeros_0f7a4_30 (by decide +kernel) ?_
      refine G_iushr dr_cJ6_numberOfTrailingZeros_0f7a4_32 (G_nam fun z2163 hz2163 => ?_)
      have bz2163 : gB z2163 (-2147483648) 2147483647 := gB_any z2163
      refine G_istore_n (L' := [(0, .int z2163), (1, .int 17)]) dr_cJ6_numberOfTrailingZeros_0f7a4_33 (Nat.le_of_ble_eq_true rfl) rfl ?_
      refine G_iload_n 0 dr_cJ6_numberOfTrailingZeros_0f7a4_34 rfl ?_
      refine G_sipush 256 dr_cJ6_numberOfTrailingZeros_0f7a4_35 (by decide +kernel) ?_
      refine G_icmp_le 49 dr_cJ6_numberOfTrailingZeros_0f7a4_38 (by decide +kernel) (fun hc2164 => ?_) (fun hc2164 => ?_)
      · have r2165 : z2163.toInt ≤ 256 := gj_le hc2164 (show Int32.toInt 256 = 256 by decide)
        have bz2163' : gB z2163 (-2147483648) 256 := ⟨by omega, by omega⟩
        refine G_iload_n 0 dr_cJ6_numberOfTrailingZeros_0f7a4_49 rfl ?_
        refine G_bipush 16 dr_cJ6_numberOfTrailingZeros_0f7a4_50 (by decide +kernel) ?_
        refine G_icmp_le 62 dr_cJ6_numberOfTrailingZeros_0f7a4_52 (by decide +kernel) (fun hc2166 => ?_) (fun hc2166 => ?_)
        · have r2167 : z2163.toInt ≤ 16 := gj_le hc2166 (show Int32.toInt 16 = 16 by decide)
          have bz2163'' : gB z2163 (-2147483648) 16 := ⟨by omega, by omega⟩
          refine G_iload_n 0 dr_cJ6_numberOfTrailingZeros_0f7a4_62 rfl ?_
          refine G_iconst 4 dr_cJ6_numberOfTrailingZeros_0f7a4_63 (by decide +kernel) ?_
          refine G_icmp_le 74 dr_cJ6_numberOfTrailingZeros_0f7a4_64 (by decide +kernel) (fun hc2168 => ?_) (fun hc2168 => ?_)
          · have r2169 : z2163.toInt ≤ 4 := gj_le hc2168 (show Int32.toInt 4 = 4 by decide)
            have bz2163''' : gB z2163 (-2147483648) 4 := ⟨by omega, by omega⟩
            refine G_iload_n 1 dr_cJ6_numberOfTrailingZeros_0f7a4_74 rfl ?_
            refine G_iload_n 0 dr_cJ6_numberOfTrailingZeros_0f7a4_75 rfl ?_
            refine G_iconst 1 dr_cJ6_numberOfTrailingZeros_0f7a4_76 (by decide +kernel) ?_
            refine G_iushr dr_cJ6_numberOfTrailingZeros_0f7a4_77 (G_nam fun z2170 hz2170 => ?_)
            have bz2170 : gB z2170 (-2147483648) 2147483647 := gB_any z2170
            refine G_iadd dr_cJ6_numberOfTrailingZeros_0f7a4_78 (G_nam fun z2171 hz2171 => ?_)
            have bz2171 : gB z2171 (-2147483648) 2147483647 := gB_any z2171
            exact G_iretA dr_cJ6_numberOfTrailingZeros_0f7a4_79 rfl (Nat.le_of_ble_eq_true rfl) (Nat.le_of_ble_eq_true rfl) ⟨z2171, rfl, rfl, (Nat.le_of_ble_eq_true rfl), (Nat.le_of_ble_eq_true rfl)⟩
          · have r2172 : 4 < z2163.toInt := gj_nle hc2168 (show Int32.toInt 4 = 4 by decide)
            have bz2163''' : gB z2163 5 16 := ⟨by omega, by omega⟩
            refine G_iinc (L' := [(1, .int 19), (0, .int z2163)]) (19) 1 dr_cJ6_numberOfTrailingZeros_0f7a4_67 rfl (by decide) (Nat.le_of_ble_eq_true rfl) rfl ?_
            refine G_iload_n 1 dr_cJ6_numberOfTrailingZeros_0f7a4_70 rfl ?_
            refine G_iconst 2 dr_cJ6_numberOfTrailingZeros_0f7a4_71 (by decide +kernel) ?_
            refine G_iushr dr_cJ6_numberOfTrailingZeros_0f7a4_72 (G_nam fun z2173 hz2173 => ?_)
            have bz2173 : gB z2173 (-2147483648) 2147483647 := gB_any z2173
            refine G_istore_n (L' := [(0, .int z2173), (1, .int 19)]) dr_cJ6_numberOfTrailingZeros_0f7a4_73 (Nat.le_of_ble_eq_true rfl) rfl ?_
            refine G_iload_n 1 dr_cJ6_numberOfTrailingZeros_0f7a4_74 rfl ?_
            refine G_iload_n 0 dr_cJ6_numberOfTrailingZeros_0f7a4_75 rfl ?_
            refine G_iconst 1 dr_cJ6_numberOfTrailingZeros_0f7a4_76 (by decide +kernel) ?_
            refine G_iushr dr_cJ6_numberOfTrailingZeros_0f7a4_77 (G_nam fun z2174 hz2174 => ?_)
            have bz2174 : gB z2174 (-2147483648) 2147483647 := gB_any z2174
            refine G_iadd dr_cJ6_numberOfTrailingZeros_0f7a4_78 (G_nam fun z2175 hz2175 => ?_)
            have bz2175 : gB z2175 (-2147483648) 2147483647 := gB_any z2175
            exact G_iretA dr_cJ6_numberOfTrailingZeros_0f7a4_79 rfl (Nat.le_of_ble_eq_true rfl) (Nat.le_of_ble_eq_true rfl) ⟨z2175, rfl, rfl, (Nat.le_of_ble_eq_true rfl), (Nat.le_of_ble_eq_true rfl)⟩
        · have r2176 : 16 < z2163.toInt := gj_nle hc2166 (show Int32.toInt 16 = 16 by decide)
          have bz2163'' : gB z2163 17 256 := ⟨by omega, by omega⟩
          refine G_iinc (L' := [(1, .int 21), (0, .int z2163)]) (21) 1 dr_cJ6_numberOfTrailingZeros_0f7a4_55 rfl (by decide) (Nat.le_of_ble_eq_true rfl) rfl ?_
          refine G_iload_n 1 dr_cJ6_numberOfTrailingZeros_0f7a4_58 rfl ?_
          refine G_iconst 4 dr_cJ6_numberOfTrailingZeros_0f7a4_59 (by decide +kernel) ?_
          refine G_iushr dr_cJ6_numberOfTrailingZeros_0f7a4_60 (G_nam fun z2177 hz2177 => ?_)
          have bz2177 : gB z2177 (-2147483648) 2147483647 := gB_any z2177
          refine G_istore_n (L' := [(0, .int z2177), (1, .int 21)]) dr_cJ6_numberOfTrailingZeros_0f7a4_61 (Nat.le_of_ble_eq_true rfl) rfl ?_
          refine G_iload_n 0 dr_cJ6_numberOfTrailingZeros_0f7a4_62 rfl ?_
          refine G_iconst 4 dr_cJ6_numberOfTrailingZeros_0f7a4_63 (by decide +kernel) ?_
          refine G_icmp_le 74 dr_cJ6_numberOfTrailingZeros_0f7a4_64 (by decide +kernel) (fun hc2178 => ?_) (fun hc2178 => ?_)
          · have r2179 : z2177.toInt ≤ 4 := gj_le hc2178 (show Int32.toInt 4 = 4 by decide)
            have bz2177' : gB z2177 (-2147483648) 4 := ⟨by omega, by omega⟩
            refine G_iload_n 1 dr_cJ6_numberOfTrailingZeros_0f7a4_74 rfl ?_
            refine G_iload_n 0 dr_cJ6_numberOfTrailingZeros_0f7a4_75 rfl ?_
            refine G_iconst 1 dr_cJ6_numberOfTrailingZeros_0f7a4_76 (by decide +kernel) ?_
            refine G_iushr dr_cJ6_numberOfTrailingZeros_0f7a4_77 (G_nam fun z2180 hz2180 => ?_)
            have bz2180 : gB z2180 (-2147483648) 2147483647 := gB_any z2180
            refine G_iadd dr_cJ6_numberOfTrailingZeros_0f7a4_78 (G_nam fun z2181 hz2181 => ?_)
            have bz2181 : gB z2181 (-2147483648) 2147483647 := gB_any z2181
            exact G_iretA dr_cJ6_numberOfTrailingZeros_0f7a4_79 rfl (Nat.le_of_ble_eq_true rfl) (Nat.le_of_ble_eq_true rfl) ⟨z2181, rfl, rfl, (Nat.le_of_ble_eq_true rfl), (Nat.le_of_ble_eq_true rfl)⟩
          · have r2182 : 4 < z2177.toInt := gj_nle hc2178 (show Int32.toInt 4 = 4 by decide)
            have bz2177' : gB z2177 5 2147483647 := ⟨by omega, by omega⟩
            refine G_iinc (L' := [(1, .int 23), (0, .int z2177)]) (23) 1 dr_cJ6_numberOfTrailingZeros_0f7a4_67 rfl (by decide) (Nat.le_of_ble_eq_true rfl) rfl ?_
            refine G_iload_n 1 dr_cJ6_numberOfTrailingZeros_0f7a4_70 rfl ?_
            refine G_iconst 2 dr_cJ6_numberOfTrailingZeros_0f7a4_71 (by decide +kernel) ?_
            refine G_iushr dr_cJ6_numberOfTrailingZeros_0f7a4_72 (G_nam fun z2183 hz2183 => ?_)
            have bz2183 : gB z2183 (-2147483648) 2147483647 := gB_any z2183
            refine G_istore_n (L' := [(0, .int z2183), (1, .int 23)]) dr_cJ6_numberOfTrailingZeros_0f7a4_73 (Nat.le_of_ble_eq_true rfl) rfl ?_
            refine G_iload_n 1 dr_cJ6_numberOfTrailingZeros_0f7a4_74 rfl ?_
            refine G_iload_n 0 dr_cJ6_numberOfTrailingZeros_0f7a4_75 rfl ?_
            refine G_iconst 1 dr_cJ6_numberOfTrailingZeros_0f7a4_76 (by decide +kernel) ?_
            refine G_iushr dr_cJ6_numberOfTrailingZeros_0f7a4_77 (G_nam fun z2184 hz2184 => ?_)
            have bz2184 : gB z2184 (-2147483648) 2147483647 := gB_any z2184
            refine G_iadd dr_cJ6_numberOfTrailingZeros_0f7a4_78 (G_nam fun z2185 hz2185 => ?_)
            have bz2185 : gB z2185 (-2147483648) 2147483647 := gB_any z2185
            exact G_iretA dr_cJ6_numberOfTrailingZeros_0f7a4_79 rfl (Nat.le_of_ble_eq_true rfl) (Nat.le_of_ble_eq_true rfl) ⟨z2185, rfl, rfl, (Nat.le_of_ble_eq_true rfl), (Nat.le_of_ble_eq_true rfl)⟩
      · have r2186 : 256 < z2163.toInt := gj_nle hc2164 (show Int32.toInt 256 = 256 by decide)
        have bz2163' : gB z2163 257 2147483647 := ⟨by omega, by omega⟩
        refine G_iinc (L' := [(1, .int 25), (0, .int z2163)]) (25) 1 dr_cJ6_numberOfTrailingZeros_0f7a4_41 rfl (by decide) (Nat.le_of_ble_eq_true rfl) rfl ?_
        refine G_iload_n 1 dr_cJ6_numberOfTrailingZeros_0f7a4_44 rfl ?_
        refine G_bipush 8 dr_cJ6_numberOfTrailingZeros_0f7a4_45 (by decide +kernel) ?_
        refine G_iushr dr_cJ6_numberOfTrailingZeros_0f7a4_47 (G_nam fun z2187 hz2187 => ?_)
        have bz2187 : gB z2187 (-2147483648) 2147483647 := gB_any z2187
        refine G_istore_n (L' := [(0, .int z2187), (1, .int 25)]) dr_cJ6_numberOfTrailingZeros_0f7a4_48 (Nat.le_of_ble_eq_true rfl) rfl ?_
        refine G_iload_n 0 dr_cJ6_numberOfTrailingZeros_0f7a4_49 rfl ?_
        refine G_bipush 16 dr_cJ6_numberOfTrailingZeros_0f7a4_50 (by decide +kernel) ?_
        refine G_icmp_le 62 dr_cJ6_numberOfTrailingZeros_0f7a4_52 (by decide +kernel) (fun hc2188 => ?_) (fun hc2188 => ?_)
        · have r2189 : z2187.toInt ≤ 16 := gj_le hc2188 (show Int32.toInt 16 = 16 by decide)
          have bz2187' : gB z2187 (-2147483648) 16 := ⟨by omega, by omega⟩
          refine G_iload_n 0 dr_cJ6_numberOfTrailingZeros_0f7a4_62 rfl ?_
          refine G_iconst 4 dr_cJ6_numberOfTrailingZeros_0f7a4_63 (by decide +kernel) ?_
          refine G_icmp_le 74 dr_cJ6_numberOfTrailingZeros_0f7a4_64 (by decide +kernel) (fun hc2190 => ?_) (fun hc2190 => ?_)
          · have r2191 : z2187.toInt ≤ 4 := gj_le hc2190 (show Int32.toInt 4 = 4 by decide)
            have bz2187'' : gB z2187 (-2147483648) 4 := ⟨by omega, by omega⟩
            refine G_iload_n 1 dr_cJ6_numberOfTrailingZeros_0f7a4_74 rfl ?_
            refine G_iload_n 0 dr_cJ6_numberOfTrailingZeros_0f7a4_75 rfl ?_
            refine G_iconst 1 dr_cJ6_numberOfTrailingZeros_0f7a4_76 (by decide +kernel) ?_
            refine G_iushr dr_cJ6_numberOfTrailingZeros_0f7a4_77 (G_nam fun z2192 hz2192 => ?_)
            have bz2192 : gB z2192 (-2147483648) 2147483647 := gB_any z2192
            refine G_iadd dr_cJ6_numberOfTrailingZeros_0f7a4_78 (G_nam fun z2193 hz2193 => ?_)
            have bz2193 : gB z2193 (-2147483648) 2147483647 := gB_any z2193
            exact G_iretA dr_cJ6_numberOfTrailingZeros_0f7a4_79 rfl (Nat.le_of_ble_eq_true rfl) (Nat.le_of_ble_eq_true rfl) ⟨z2193, rfl, rfl, (Nat.le_of_ble_eq_true rfl), (Nat.le_of_ble_eq_true rfl)⟩
          · have r2194 : 4 < z2187.toInt := gj_nle hc2190 (show Int32.toInt 4 = 4 by decide)
            have bz2187'' : gB z2187 5 16 := ⟨by omega, by omega⟩
            refine G_iinc (L' := [(1, .int 27), (0, .int z2187)]) (27) 1 dr_cJ6_numberOfTrailingZeros_0f7a4_67 rfl (by decide) (Nat.le_of_ble_eq_true rfl) rfl ?_
            refine G_iload_n 1 dr_cJ6_numberOfTrailingZeros_0f7a4_70 rfl ?_
            refine G_iconst 2 dr_cJ6_numberOfTrailingZeros_0f7a4_71 (by decide +kernel) ?_
            refine G_iushr dr_cJ6_numberOfTrailingZeros_0f7a4_72 (G_nam fun z2195 hz2195 => ?_)
            have bz2195 : gB z2195 (-2147483648) 2147483647 := gB_any z2195
            refine G_istore_n (L' := [(0, .int z2195), (1, .int 27)]) dr_cJ6_numberOfTrailingZeros_0f7a4_73 (Nat.le_of_ble_eq_true rfl) rfl ?_
            refine G_iload_n 1 dr_cJ6_numberOfTrailingZeros_0f7a4_74 rfl ?_
            refine G_iload_n 0 dr_cJ6_numberOfTrailingZeros_0f7a4_75 rfl ?_
            refine G_iconst 1 dr_cJ6_numberOfTrailingZeros_0f7a4_76 (by decide +kernel) ?_
            refine G_iushr dr_cJ6_numberOfTrailingZeros_0f7a4_77 (G_nam fun z2196 hz2196 => ?_)
            have bz2196 : gB z2196 (-2147483648) 2147483647 := gB_any z2196
            refine G_iadd dr_cJ6_numberOfTrailingZeros_0f7a4_78 (G_nam fun z2197 hz2197 => ?_)
            have bz2197 : gB z2197 (-2147483648) 2147483647 := gB_any z2197
            exact G_iretA dr_cJ6_numberOfTrailingZeros_0f7a4_79 rfl (Nat.le_of_ble_eq_true rfl) (Nat.le_of_ble_eq_true rfl) ⟨z2197, rfl, rfl, (Nat.le_of_ble_eq_true rfl), (Nat.le_of_ble_eq_true rfl)⟩
        · have r2198 : 16 < z2187.toInt := gj_nle hc2188 (show Int32.toInt 16 = 16 by decide)
          have bz2187' : gB z2187 17 2147483647 := ⟨by omega, by omega⟩
          refine G_iinc (L' := [(1, .int 29), (0, .int z2187)]) (29) 1 dr_cJ6_numberOfTrailingZeros_0f7a4_55 rfl (by decide) (Nat.le_of_ble_eq_true rfl) rfl ?_
          refine G_iload_n 1 dr_cJ6_numberOfTrailingZeros_0f7a4_58 rfl ?_
          refine G_iconst 4 dr_cJ6_numberOfTrailingZeros_0f7a4_59 (by decide +kernel) ?_
          refine G_iushr dr_cJ6_numberOfTrailingZeros_0f7a4_60 (G_nam fun z2199 hz2199 => ?_)
          have bz2199 : gB z2199 (-2147483648) 2147483647 := gB_any z2199
          refine G_istore_n (L' := [(0, .int z2199), (1, .int 29)]) dr_cJ6_numberOfTrailingZeros_0f7a4_61 (Nat.le_of_ble_eq_true rfl) rfl ?_
          refine G_iload_n 0 dr_cJ6_numberOfTrailingZeros_0f7a4_62 rfl ?_
          refine G_iconst 4 dr_cJ6_numberOfTrailingZeros_0f7a4_63 (by decide +kernel) ?_
          refine G_icmp_le 74 dr_cJ6_numberOfTrailingZeros_0f7a4_64 (by decide +kernel) (fun hc2200 => ?_) (fun hc2200 => ?_)
          · have r2201 : z2199.toInt ≤ 4 := gj_le hc2200 (show Int32.toInt 4 = 4 by decide)
            have bz2199' : gB z2199 (-2147483648) 4 := ⟨by omega, by omega⟩
            refine G_iload_n 1 dr_cJ6_numberOfTrailingZeros_0f7a4_74 rfl ?_
            refine G_iload_n 0 dr_cJ6_numberOfTrailingZeros_0f7a4_75 rfl ?_
            refine G_iconst 1 dr_cJ6_numberOfTrailingZeros_0f7a4_76 (by decide +kernel) ?_
            refine G_iushr dr_cJ6_numberOfTrailingZeros_0f7a4_77 (G_nam fun z2202 hz2202 => ?_)
            have bz2202 : gB z2202 (-2147483648) 2147483647 := gB_any z2202
            refine G_iadd dr_cJ6_numberOfTrailingZeros_0f7a4_78 (G_nam fun z2203 hz2203 => ?_)
            have bz2203 : gB z2203 (-2147483648) 2147483647 := gB_any z2203
            exact G_iretA dr_cJ6_numberOfTrailingZeros_0f7a4_79 rfl (Nat.le_of_ble_eq_true rfl) (Nat.le_of_ble_eq_true rfl) ⟨z2203, rfl, rfl, (Nat.le_of_ble_eq_true rfl), (Nat.le_of_ble_eq_true rfl)⟩
          · have r2204 : 4 < z2199.toInt := gj_nle hc2200 (show Int32.toInt 4 = 4 by decide)
            have bz2199' : gB z2199 5 2147483647 := ⟨by omega, by omega⟩
            refine G_iinc (L' := [(1, .int 31), (0, .int z2199)]) (31) 1 dr_cJ6_numberOfTrailingZeros_0f7a4_67 rfl (by decide) (Nat.le_of_ble_eq_true rfl) rfl ?_
            refine G_iload_n 1 dr_cJ6_numberOfTrailingZeros_0f7a4_70 rfl ?_
            refine G_iconst 2 dr_cJ6_numberOfTrailingZeros_0f7a4_71 (by decide +kernel) ?_
            refine G_iushr dr_cJ6_numberOfTrailingZeros_0f7a4_72 (G_nam fun z2205 hz2205 => ?_)
            have bz2205 : gB z2205 (-2147483648) 2147483647 := gB_any z2205
            refine G_istore_n (L' := [(0, .int z2205), (1, .int 31)]) dr_cJ6_numberOfTrailingZeros_0f7a4_73 (Nat.le_of_ble_eq_true rfl) rfl ?_
            refine G_iload_n 1 dr_cJ6_numberOfTrailingZeros_0f7a4_74 rfl ?_
            refine G_iload_n 0 dr_cJ6_numberOfTrailingZeros_0f7a4_75 rfl ?_
            refine G_iconst 1 dr_cJ6_numberOfTrailingZeros_0f7a4_76 (by decide +kernel) ?_
            refine G_iushr dr_cJ6_numberOfTrailingZeros_0f7a4_77 (G_nam fun z2206 hz2206 => ?_)
            have bz2206 : gB z2206 (-2147483648) 2147483647 := gB_any z2206
            refine G_iadd dr_cJ6_numberOfTrailingZeros_0f7a4_78 (G_nam fun z2207 hz2207 => ?_)
            have bz2207 : gB z2207 (-2147483648) 2147483647 := gB_any z2207
            exact G_iretA dr_cJ6_numberOfTrailingZeros_0f7a4_79 rfl (Nat.le_of_ble_eq_true rfl) (Nat.le_of_ble_eq_true rfl) ⟨z2207, rfl, rfl, (Nat.le_of_ble_eq_true rfl), (Nat.le_of_ble_eq_true rfl)⟩
  · have r2208 : z2113.toInt ≤ 0 := gj_nltL hc2114 (show Int32.toInt 0 = 0 by decide)
    have bz2113' : gB z2113 (-2147483648) 0 := ⟨by omega, by omega⟩
    refine G_iload_n 0 dr_cJ6_numberOfTrailingZeros_0f7a4_12 rfl ?_
    refine G_bipush 32 dr_cJ6_numberOfTrailingZeros_0f7a4_13 (by decide +kernel) ?_
    refine G_iand dr_cJ6_numberOfTrailingZeros_0f7a4_15 (G_nam fun z2209 hz2209 => ?_)
    have bz2209 : gB z2209 0 32 := gB_and hz2209 (gBl (show Int32.toInt 32 = 32 by decide)) (by decide)
    exact G_iretA dr_cJ6_numberOfTrailingZeros_0f7a4_16 rfl (Nat.le_of_ble_eq_true rfl) (Nat.le_of_ble_eq_true rfl) ⟨z2209, rfl, rfl, (Nat.le_of_ble_eq_true rfl), (Nat.le_of_ble_eq_true rfl)⟩
abbrev ky_2103_Long_numberOfTrailingZeros : gKey := (cJ13_numberOfTrailingZeros_95d88, 3, "java/lang/Long", (some FieldType.int), [], "numberOfTrailingZeros", fun _ _ => True)
def pp_2103_Long_numberOfTrailingZeros (D : va_G) (I : FieldType → ClassId) (P2100 : List Nat) (F2101 : Nat → va_E) (pl2102 : Int64) : Option Value → va_W → Nat → Nat → Prop := fun r w dc ds => (∃ (o2216 : Int32) (z2104 : Int32), r = some (.int o2216) ∧ w = va_pl P2100 F2101 ∧ dc ≤ 0 ∧ ds ≤ 0 ∧ z2104.toInt ≠ 0 ∧ gB o2216 (-2147483648) 2147483647 ∧ gB z2104 (-2147483648) 2147483647) ∨ (∃ (z2226 : Int32) (z2104 : Int32), r = some (.int z2226) ∧ w = va_pl P2100 F2101 ∧ dc ≤ 0 ∧ ds ≤ 0 ∧ z2104.toInt = 0 ∧ gB z2226 (-2147483648) 2147483647 ∧ gB z2104 0 0)
set_option maxRecDepth 100000 in
set_option maxHeartbeats 4000000 in
theorem cp_2103_Long_numberOfTrailingZeros (l : Launch) (hl0 : l.stackTraces = false) (D : va_G) (I : FieldType → ClassId) (P2100 : List Nat) (F2101 : Nat → va_E) (pl2102 : Int64)  : CtA (gV D I) l yJ13_numberOfTrailingZeros_95d88 cJ13_numberOfTrailingZeros_95d88 3 (some FieldType.int) 1 21 0 0 [.long pl2102] (va_pl P2100 F2101) (pp_2103_Long_numberOfTrailingZeros D I P2100 F2101 pl2102) gNA := by
  refine CtA_ofF hl0 (by decide +kernel) (Nat.le_of_ble_eq_true rfl) ?_
  refine G_lload_n 0 dr_cJ13_numberOfTrailingZeros_95d88_0 rfl ?_
  refine G_l2i dr_cJ13_numberOfTrailingZeros_95d88_1 (G_nam fun z2104 hz2104 => ?_)
  have bz2104 : gB z2104 (-2147483648) 2147483647 := gB_any z2104
  refine G_istore_n (L' := [(2, .int z2104), (0, .long pl2102)]) dr_cJ13_numberOfTrailingZeros_95d88_2 (Nat.le_of_ble_eq_true rfl) rfl ?_
  refine G_iload_n 0 dr_cJ13_numberOfTrailingZeros_95d88_3 rfl ?_
  refine G_if_ne 21 dr_cJ13_numberOfTrailingZeros_95d88_4 (by decide +kernel) (fun hc2105 => ?_) (fun hc2105 => ?_)
  · have r2106 : z2104.toInt ≠ 0 := gj_neq hc2105 (show Int32.toInt 0 = 0 by decide)
    refine G_iload_n 0 dr_cJ13_numberOfTrailingZeros_95d88_21 rfl ?_
    refine Gw_callS (As := [.int z2104]) (gV_ok D I) (cp_2110_Integer_numberOfTrailingZeros l hl0 D I P2100 F2101 z2104 ) dr_cJ13_numberOfTrailingZeros_95d88_22 ⟨wr_11_0, wr_1_35, wr_11_2, by decide, rfl, (Nat.le_of_ble_eq_true rfl), (Nat.le_of_ble_eq_true rfl)⟩ wr_11_1 (show 0 + 0 ≤ 0 by first | omega | decide) (show 0 + 0 ≤ 0 by first | omega | decide) (Nat.le_of_ble_eq_true rfl) (fun r2214 w2215 dc2211 ds2212 hp2213 => ?_) (fun _ _ _ _ _ z => z.elim)
    obtain ⟨o2216, rfl, rfl, hdc, hds⟩ := hp2213
    have bo2216 := gB_any o2216
    change G _ _ _ _ _ _ _ (.int o2216 :: _) _ _ _
    refine G_widen (cs' := 0) (sl' := 0) (by omega) (by omega) ?_
    exact G_iretA dr_cJ13_numberOfTrailingZeros_95d88_25 rfl (Nat.le_of_ble_eq_true rfl) (Nat.le_of_ble_eq_true rfl) (Or.inl ⟨o2216, z2104, rfl, rfl, (Nat.le_of_ble_eq_true rfl), (Nat.le_of_ble_eq_true rfl), r2106, bo2216, bz2104⟩)
  · have r2217 : z2104.toInt = 0 := gj_eq hc2105 (show Int32.toInt 0 = 0 by decide)
    have bz2104' : gB z2104 0 0 := ⟨by omega, by omega⟩
    refine G_bipush 32 dr_cJ13_numberOfTrailingZeros_95d88_7 (by decide +kernel) ?_
    refine G_lload_n 1 dr_cJ13_numberOfTrailingZeros_95d88_9 rfl ?_
    refine G_bipush 32 dr_cJ13_numberOfTrailingZeros_95d88_10 (by decide +kernel) ?_
    refine G_lushr dr_cJ13_numberOfTrailingZeros_95d88_12 (G_namL fun u2218 hu2218 => ?_)
    refine G_l2i dr_cJ13_numberOfTrailingZeros_95d88_13 (G_nam fun z2219 hz2219 => ?_)
    have bz2219 : gB z2219 (-2147483648) 2147483647 := gB_any z2219
    refine Gw_callS (As := [.int z2219]) (gV_ok D I) (cp_2110_Integer_numberOfTrailingZeros l hl0 D I P2100 F2101 z2219 ) dr_cJ13_numberOfTrailingZeros_95d88_14 ⟨wr_11_0, wr_1_35, wr_11_2, by decide, rfl, (Nat.le_of_ble_eq_true rfl), (Nat.le_of_ble_eq_true rfl)⟩ wr_11_1 (show 0 + 0 ≤ 0 by first | omega | decide) (show 0 + 0 ≤ 0 by first | omega | decide) (Nat.le_of_ble_eq_true rfl) (fun r2223 w2224 dc2220 ds2221 hp2222 => ?_) (fun _ _ _ _ _ z => z.elim)
    obtain ⟨o2225, rfl, rfl, hdc, hds⟩ := hp2222
    have bo2225 := gB_any o2225
    change G _ _ _ _ _ _ _ (.int o2225 :: _) _ _ _
    refine G_widen (cs' := 0) (sl' := 0) (by omega) (by omega) ?_
    refine G_iadd dr_cJ13_numberOfTrailingZeros_95d88_17 (G_nam fun z2226 hz2226 => ?_)
    have bz2226 : gB z2226 (-2147483648) 2147483647 := gB_any z2226
    refine G_goto 25 dr_cJ13_numberOfTrailingZeros_95d88_18 (by decide +kernel) ?_
    exact G_iretA dr_cJ13_numberOfTrailingZeros_95d88_25 rfl (Nat.le_of_ble_eq_true rfl) (Nat.le_of_ble_eq_true rfl) (Or.inr (⟨z2226, z2104, rfl, rfl, (Nat.le_of_ble_eq_true rfl), (Nat.le_of_ble_eq_true rfl), r2217, bz2226, bz2104'⟩))
abbrev ky_2230_Reader_isDigit : gKey := (cX14_isDigit, 1, "SpillForgeModel$Reader", (some FieldType.boolean), [], "isDigit", fun _ _ => True)
def pp_2230_Reader_isDigit (D : va_G) (I : FieldType → ClassId) (P2227 : List Nat) (F2228 : Nat → va_E) (p2229 : Int32) : Option Value → va_W → Nat → Nat → Prop := fun r w dc ds => (r = some (.int 0) ∧ w = va_pl P2227 F2228 ∧ dc ≤ 0 ∧ ds ≤ 0 ∧ p2229.toInt < 48) ∨ (r = some (.int 0) ∧ w = va_pl P2227 F2228 ∧ dc ≤ 0 ∧ ds ≤ 0 ∧ 48 ≤ p2229.toInt ∧ 57 < p2229.toInt) ∨ (r = some (.int 1) ∧ w = va_pl P2227 F2228 ∧ dc ≤ 0 ∧ ds ≤ 0 ∧ 48 ≤ p2229.toInt ∧ p2229.toInt ≤ 57)
set_option maxRecDepth 100000 in
set_option maxHeartbeats 4000000 in
theorem cp_2230_Reader_isDigit (l : Launch) (hl0 : l.stackTraces = false) (D : va_G) (I : FieldType → ClassId) (P2227 : List Nat) (F2228 : Nat → va_E) (p2229 : Int32)  : CtA (gV D I) l yX14_isDigit cX14_isDigit 1 (some FieldType.boolean) 0 0 0 0 [.int p2229] (va_pl P2227 F2228) (pp_2230_Reader_isDigit D I P2227 F2228 p2229) gNA := by
  refine CtA_of hl0 (by decide) (Nat.le_of_ble_eq_true rfl) ?_
  have bp2229 := gB_any p2229
  refine G_iload_n 0 dr_cX14_isDigit_0 rfl ?_
  refine G_bipush 48 dr_cX14_isDigit_1 (by decide +kernel) ?_
  refine G_icmp_lt 16 dr_cX14_isDigit_3 (by decide +kernel) (fun hc2231 => ?_) (fun hc2231 => ?_)
  · have r2232 : p2229.toInt < 48 := gj_lt hc2231 (show Int32.toInt 48 = 48 by decide)
    have bp2229' : gB p2229 (-2147483648) 47 := ⟨by omega, by omega⟩
    refine G_iconst 0 dr_cX14_isDigit_16 (by decide +kernel) ?_
    exact G_zretA FieldType.boolean dr_cX14_isDigit_17 rfl rfl (Nat.le_of_ble_eq_true rfl) (Nat.le_of_ble_eq_true rfl) (Or.inl ⟨rfl, rfl, (Nat.le_of_ble_eq_true rfl), (Nat.le_of_ble_eq_true rfl), r2232⟩)
  · have r2233 : 48 ≤ p2229.toInt := gj_nlt hc2231 (show Int32.toInt 48 = 48 by decide)
    have bp2229' : gB p2229 48 2147483647 := ⟨by omega, by omega⟩
    refine G_iload_n 0 dr_cX14_isDigit_6 rfl ?_
    refine G_bipush 57 dr_cX14_isDigit_7 (by decide +kernel) ?_
    refine G_icmp_gt 16 dr_cX14_isDigit_9 (by decide +kernel) (fun hc2234 => ?_) (fun hc2234 => ?_)
    · have r2235 : 57 < p2229.toInt := gj_ltL hc2234 (show Int32.toInt 57 = 57 by decide)
      have bp2229'' : gB p2229 58 2147483647 := ⟨by omega, by omega⟩
      refine G_iconst 0 dr_cX14_isDigit_16 (by decide +kernel) ?_
      exact G_zretA FieldType.boolean dr_cX14_isDigit_17 rfl rfl (Nat.le_of_ble_eq_true rfl) (Nat.le_of_ble_eq_true rfl) (Or.inr (Or.inl ⟨rfl, rfl, (Nat.le_of_ble_eq_true rfl), (Nat.le_of_ble_eq_true rfl), r2233, r2235⟩))
    · have r2236 : p2229.toInt ≤ 57 := gj_nltL hc2234 (show Int32.toInt 57 = 57 by decide)
      have bp2229'' : gB p2229 48 57 := ⟨by omega, by omega⟩
      refine G_iconst 1 dr_cX14_isDigit_12 (by decide +kernel) ?_
      refine G_goto 17 dr_cX14_isDigit_13 (by decide +kernel) ?_
      exact G_zretA FieldType.boolean dr_cX14_isDigit_17 rfl rfl (Nat.le_of_ble_eq_true rfl) (Nat.le_of_ble_eq_true rfl) (Or.inr (Or.inr (⟨rfl, rfl, (Nat.le_of_ble_eq_true rfl), (Nat.le_of_ble_eq_true rfl), r2233, r2236⟩)))
abbrev ky_2240_Reader_isLetter : gKey := (cX14_isLetter, 1, "SpillForgeModel$Reader", (some FieldType.boolean), [], "isLetter", fun _ _ => True)
def pp_2240_Reader_isLetter (D : va_G) (I : FieldType → ClassId) (P2237 : List Nat) (F2238 : Nat → va_E) (p2239 : Int32) : Option Value → va_W → Nat → Nat → Prop := fun r w dc ds => (r = some (.int 0) ∧ w = va_pl P2237 F2238 ∧ dc ≤ 0 ∧ ds ≤ 0 ∧ p2239.toInt < 97) ∨ (r = some (.int 0) ∧ w = va_pl P2237 F2238 ∧ dc ≤ 0 ∧ ds ≤ 0 ∧ 97 ≤ p2239.toInt ∧ 122 < p2239.toInt) ∨ (r = some (.int 1) ∧ w = va_pl P2237 F2238 ∧ dc ≤ 0 ∧ ds ≤ 0 ∧ 97 ≤ p2239.toInt ∧ p2239.toInt ≤ 122)
set_option maxRecDepth 100000 in
set_option maxHeartbeats 4000000 in
theorem cp_2240_Reader_isLetter (l : Launch) (hl0 : l.stackTraces = false) (D : va_G) (I : FieldType → ClassId) (P2237 : List Nat) (F2238 : Nat → va_E) (p2239 : Int32)  : CtA (gV D I) l yX14_isLetter cX14_isLetter 1 (some FieldType.boolean) 0 0 0 0 [.int p2239] (va_pl P2237 F2238) (pp_2240_Reader_isLetter D I P2237 F2238 p2239) gNA := by
  refine CtA_of hl0 (by decide) (Nat.le_of_ble_eq_true rfl) ?_
  have bp2239 := gB_any p2239
  refine G_iload_n 0 dr_cX14_isLetter_0 rfl ?_
  refine G_bipush 97 dr_cX14_isLetter_1 (by decide +kernel) ?_
  refine G_icmp_lt 16 dr_cX14_isLetter_3 (by decide +kernel) (fun hc2241 => ?_) (fun hc2241 => ?_)
  · have r2242 : p2239.toInt < 97 := gj_lt hc2241 (show Int32.toInt 97 = 97 by decide)
    have bp2239' : gB p2239 (-2147483648) 96 := ⟨by omega, by omega⟩
    refine G_iconst 0 dr_cX14_isLetter_16 (by decide +kernel) ?_
    exact G_zretA FieldType.boolean dr_cX14_isLetter_17 rfl rfl (Nat.le_of_ble_eq_true rfl) (Nat.le_of_ble_eq_true rfl) (Or.inl ⟨rfl, rfl, (Nat.le_of_ble_eq_true rfl), (Nat.le_of_ble_eq_true rfl), r2242⟩)
  · have r2243 : 97 ≤ p2239.toInt := gj_nlt hc2241 (show Int32.toInt 97 = 97 by decide)
    have bp2239' : gB p2239 97 2147483647 := ⟨by omega, by omega⟩
    refine G_iload_n 0 dr_cX14_isLetter_6 rfl ?_
    refine G_bipush 122 dr_cX14_isLetter_7 (by decide +kernel) ?_
    refine G_icmp_gt 16 dr_cX14_isLetter_9 (by decide +kernel) (fun hc2244 => ?_) (fun hc2244 => ?_)
    · have r2245 : 122 < p2239.toInt := gj_ltL hc2244 (show Int32.toInt 122 = 122 by decide)
      have bp2239'' : gB p2239 123 2147483647 := ⟨by omega, by omega⟩
      refine G_iconst 0 dr_cX14_isLetter_16 (by decide +kernel) ?_
      exact G_zretA FieldType.boolean dr_cX14_isLetter_17 rfl rfl (Nat.le_of_ble_eq_true rfl) (Nat.le_of_ble_eq_true rfl) (Or.inr (Or.inl ⟨rfl, rfl, (Nat.le_of_ble_eq_true rfl), (Nat.le_of_ble_eq_true rfl), r2243, r2245⟩))
    · have r2246 : p2239.toInt ≤ 122 := gj_nltL hc2244 (show Int32.toInt 122 = 122 by decide)
      have bp2239'' : gB p2239 97 122 := ⟨by omega, by omega⟩
      refine G_iconst 1 dr_cX14_isLetter_12 (by decide +kernel) ?_
      refine G_goto 17 dr_cX14_isLetter_13 (by decide +kernel) ?_
      exact G_zretA FieldType.boolean dr_cX14_isLetter_17 rfl rfl (Nat.le_of_ble_eq_true rfl) (Nat.le_of_ble_eq_true rfl) (Or.inr (Or.inr (⟨rfl, rfl, (Nat.le_of_ble_eq_true rfl), (Nat.le_of_ble_eq_true rfl), r2243, r2246⟩)))
abbrev ky_2281_ArrayList_size : gKey := (cJx4a65c_size_8abf5, 1, "java/util/ArrayList", (some FieldType.int), [], "size", fun _ _ => True)
def pp_2281_ArrayList_size (D : va_G) (I : FieldType → ClassId) (P2272 : List Nat) (F2273 : Nat → va_E) (q2274 : Nat) (q2275 : Nat) (p2276 : Int32) (p2277 : Int32) (f2278 : Nat → Option Nat) (n2279 : Nat) : Option Value → va_W → Nat → Nat → Prop := fun r w dc ds => r = some (.int p2277) ∧ w = va_pl P2272 F2273 ∧ dc ≤ 0 ∧ ds ≤ 0
set_option maxRecDepth 100000 in
set_option maxHeartbeats 4000000 in
theorem cp_2281_ArrayList_size (l : Launch) (hl0 : l.stackTraces = false) (D : va_G) (I : FieldType → ClassId) (P2272 : List Nat) (F2273 : Nat → va_E) (q2274 : Nat) (q2275 : Nat) (p2276 : Int32) (p2277 : Int32) (f2278 : Nat → Option Nat) (n2279 : Nat) (hmq2274 : q2274 ∈ P2272) (hmq2275 : q2275 ∈ P2272) (heq2274 : F2273 q2274 = .inr (4, [.int p2276, .ref q2275, .int p2277])) (heq2275 : F2273 q2275 = .inl (I (.object "java/lang/Object"), n2279, .inr (.inr (.inr (.inr f2278))))) (bp2277 : gB p2277 0 16777216) (x2280 : ((n2279 : Int) ≤ 16777216)) : CtA (gV D I) l yJx4a65c_size_8abf5 cJx4a65c_size_8abf5 1 (some FieldType.int) 0 0 0 0 [.ref q2274] (va_pl P2272 F2273) (pp_2281_ArrayList_size D I P2272 F2273 q2274 q2275 p2276 p2277 f2278 n2279) gNA := by
  refine CtA_ofF hl0 (by decide +kernel) (Nat.le_of_ble_eq_true rfl) ?_
  have bp2276 := gB_any p2276
  refine G_aload_n 0 dr_cJx4a65c_size_8abf5_0 rfl ?_
  refine Gp_get 2 hmq2274 heq2274 dr_cJx4a65c_size_8abf5_1 (gk_Jx4a65c D I) (Nat.le_of_ble_eq_true rfl) wr_7_18 rfl ?_
  exact G_iretA dr_cJx4a65c_size_8abf5_4 rfl (Nat.le_of_ble_eq_true rfl) (Nat.le_of_ble_eq_true rfl) ⟨rfl, rfl, (Nat.le_of_ble_eq_true rfl), (Nat.le_of_ble_eq_true rfl)⟩
abbrev ky_2271_Code_row : gKey := (cX13_row, 2, "SpillForgeModel$Code", (some (FieldType.object "SpillForgeModel$Row")), [], "row", fun _ _ => True)
def pp_2271_Code_row (D : va_G) (I : FieldType → ClassId) (P2247 : List Nat) (F2248 : Nat → va_E) (q2249 : Nat) (q2250 : Nat) (q2251 : Nat) (qo2252 : Nat) (p2253 : Int32) (p2254 : Int32) (p2255 : Int32) (p2256 : Int32) (f2257 : Nat → Option Nat) (n2258 : Nat) (x2259 : Nat) (p2260 : Int32) (p2261 : Int32) (p2262 : Int32) (p2263 : Int32) (p2264 : Int32) (p2265 : Int32) (p2266 : Int32) : Option Value → va_W → Nat → Nat → Prop := fun r w dc ds => ∃ (F2354 : Nat → va_E) (o2352 : Int32), r = some (.ref x2259) ∧ w = va_pl P2247 F2354 ∧ rFr [x2259, q2249] P2247 F2248 F2354 ∧ F2354 q2249 = .inr (18, [.ref qo2252, .ref q2250, .int o2352, .int p2254]) ∧ F2354 q2250 = .inr (4, [.int p2255, .ref q2251, .int p2256]) ∧ F2354 q2251 = .inl (I (.object "java/lang/Object"), n2258, .inr (.inr (.inr (.inr f2257)))) ∧ F2354 x2259 = .inr (20, [.int p2260, .int 0, .int 0, .int 0, .int 0, .int 0, .int 0]) ∧ dc ≤ 0 ∧ ds ≤ 0 ∧ gB o2352 1 1000001 ∧ o2352.toInt = p2253.toInt + 1
set_option maxRecDepth 100000 in
set_option maxHeartbeats 4000000 in
theorem cp_2271_Code_row (l : Launch) (hl0 : l.stackTraces = false) (D : va_G) (I : FieldType → ClassId) (P2247 : List Nat) (F2248 : Nat → va_E) (q2249 : Nat) (q2250 : Nat) (q2251 : Nat) (qo2252 : Nat) (p2253 : Int32) (p2254 : Int32) (p2255 : Int32) (p2256 : Int32) (f2257 : Nat → Option Nat) (n2258 : Nat) (x2259 : Nat) (p2260 : Int32) (p2261 : Int32) (p2262 : Int32) (p2263 : Int32) (p2264 : Int32) (p2265 : Int32) (p2266 : Int32) (hmq2249 : q2249 ∈ P2247) (hmq2250 : q2250 ∈ P2247) (hmq2251 : q2251 ∈ P2247) (hmx2259 : x2259 ∈ P2247) (heq2249 : F2248 q2249 = .inr (18, [.ref qo2252, .ref q2250, .int p2253, .int p2254])) (heq2250 : F2248 q2250 = .inr (4, [.int p2255, .ref q2251, .int p2256])) (heq2251 : F2248 q2251 = .inl (I (.object "java/lang/Object"), n2258, .inr (.inr (.inr (.inr f2257))))) (hex2259 : F2248 x2259 = .inr (20, [.int p2260, .int p2261, .int p2262, .int p2263, .int p2264, .int p2265, .int p2266])) (bp2253 : gB p2253 0 1000000) (bp2254 : gB p2254 0 1000000) (bp2256 : gB p2256 0 1000000) (bp2260 : gB p2260 0 32) (bp2261 : gB p2261 0 1999) (bp2264 : gB p2264 0 1999) (bp2265 : gB p2265 0 1) (bp2266 : gB p2266 0 1) (x2267 : p2253.toInt < p2256.toInt) (x2268 : p2256.toInt ≤ (n2258 : Int)) (x2269 : f2257 p2253.toNatClampNeg = some x2259) (x2270 : ((n2258 : Int) ≤ 16777216)) : CtA (gV D I) l yX13_row cX13_row 2 (some (FieldType.object "SpillForgeModel$Row")) 3 64 0 0 [.ref q2249] (va_pl P2247 F2248) (pp_2271_Code_row D I P2247 F2248 q2249 q2250 q2251 qo2252 p2253 p2254 p2255 p2256 f2257 n2258 x2259 p2260 p2261 p2262 p2263 p2264 p2265 p2266) gNA := by
  refine CtA_of hl0 (by decide) (Nat.le_of_ble_eq_true rfl) ?_
  have bp2255 := gB_any p2255
  have bp2262 := gB_any p2262
  have bp2263 := gB_any p2263
  refine G_aload_n 0 dr_cX13_row_0 rfl ?_
  refine Gp_get 2 hmq2249 heq2249 dr_cX13_row_1 (gk_X13 D I) (Nat.le_of_ble_eq_true rfl) wr_7_32 rfl ?_
  refine G_aload_n 0 dr_cX13_row_4 rfl ?_
  refine Gp_get 1 hmq2249 heq2249 dr_cX13_row_5 (gk_X13 D I) (Nat.le_of_ble_eq_true rfl) wr_7_31 rfl ?_
  refine Gw_callV (As := []) (gV_ok D I) (cp_2281_ArrayList_size l hl0 D I P2247 F2248 q2250 q2251 p2255 p2256 f2257 n2258 hmq2250 hmq2251 heq2250 heq2251 (gB_w bp2256 (by decide) (by decide)) (by omega)) dr_cX13_row_8 ⟨wr_9_153, wr_1_18, wr_9_156, by decide, rfl, (Nat.le_of_ble_eq_true rfl), (Nat.le_of_ble_eq_true rfl)⟩ wr_9_154 wr_9_155 hmq2250 heq2250 rfl (show 0 + 0 ≤ 0 by first | omega | decide) (show 0 + 0 ≤ 0 by first | omega | decide) (Nat.le_of_ble_eq_true rfl) (fun r2285 w2286 dc2282 ds2283 hp2284 => ?_) (fun _ _ _ _ _ z => z.elim)
  obtain ⟨rfl, rfl, hdc, hds⟩ := hp2284
  change G _ _ _ _ _ _ _ (.int p2256 :: _) _ _ _
  refine G_widen (cs' := 0) (sl' := 0) (by omega) (by omega) ?_
  refine G_icmp_ne 29 dr_cX13_row_11 (by decide +kernel) (fun hc2287 => ?_) (fun hc => absurd (show False by have := gC_eq hc; omega) not_false)
  have r2289 : p2253.toInt ≠ p2256.toInt := gC_ne hc2287
  refine G_aload_n 0 dr_cX13_row_29 rfl ?_
  refine Gp_get 1 hmq2249 heq2249 dr_cX13_row_30 (gk_X13 D I) (Nat.le_of_ble_eq_true rfl) wr_7_31 rfl ?_
  refine G_aload_n 0 dr_cX13_row_33 rfl ?_
  refine Gp_get 2 hmq2249 heq2249 dr_cX13_row_34 (gk_X13 D I) (Nat.le_of_ble_eq_true rfl) wr_7_32 rfl ?_
  refine Gw_callV (As := [.int p2253]) (gV_ok D I) (cp_22_ArrayList_get l hl0 D I P2247 F2248 q2250 q2251 p2253 p2255 p2256 f2257 n2258 x2259 hmq2250 hmq2251 heq2250 heq2251 (gB_w bp2253 (by decide) (by decide)) (gB_w bp2256 (by decide) (by decide)) (by omega) (by omega) (by assumption) (by omega)) dr_cX13_row_37 ⟨wr_10_58, wr_1_18, wr_10_61, by decide, rfl, (Nat.le_of_ble_eq_true rfl), (Nat.le_of_ble_eq_true rfl)⟩ wr_10_59 wr_10_60 hmq2250 heq2250 rfl (show 0 + 0 ≤ 0 by first | omega | decide) (show 0 + 0 ≤ 0 by first | omega | decide) (Nat.le_of_ble_eq_true rfl) (fun r2293 w2294 dc2290 ds2291 hp2292 => ?_) (fun _ _ _ _ _ z => z.elim)
  obtain ⟨rfl, rfl, hdc, hds⟩ := hp2292
  change G _ _ _ _ _ _ _ (.ref x2259 :: _) _ _ _
  refine G_widen (cs' := 0) (sl' := 0) (by omega) (by omega) ?_
  refine Gp_cast hmx2259 hex2259 rfl dr_cX13_row_40 wr_10_79 (gr_cast 1 rfl) ?_
  refine G_astore_n (L' := [(1, .ref x2259), (0, .ref q2249)]) dr_cX13_row_43 (Nat.le_of_ble_eq_true rfl) rfl ?_
  refine G_aload_n 1 dr_cX13_row_44 rfl ?_
  refine G_dup dr_cX13_row_45 rfl ?_
  refine Gp_get 2 hmq2249 heq2249 dr_cX13_row_46 (gk_X13 D I) (Nat.le_of_ble_eq_true rfl) wr_7_32 rfl ?_
  refine G_iconst 1 dr_cX13_row_49 (by decide +kernel) ?_
  refine G_iadd dr_cX13_row_50 (G_nam fun z2295 hz2295 => ?_)
  have ez2295 : z2295.toInt = p2253.toInt + 1 := by rw [gI_add hz2295 bp2253 (gBl (show Int32.toInt 1 = 1 by decide)) (by decide) (by decide), show Int32.toInt 1 = 1 from by decide]
  have bz2295 : gB z2295 1 1000001 := gB_add (gI_add hz2295 bp2253 (gBl (show Int32.toInt 1 = 1 by decide)) (by decide) (by decide)) bp2253 (gBl (show Int32.toInt 1 = 1 by decide)) (by decide) (by decide)
  refine Gp_put 2 hmq2249 heq2249 dr_cX13_row_51 (gk_X13 D I) (Nat.le_of_ble_eq_true rfl) wr_7_32 rfl rfl rfl (Nat.le_of_ble_eq_true rfl) (fun F2296 e2297 n2298 => ?_)
  have he2299 : F2296 q2250 = .inr (4, [.int p2255, .ref q2251, .int p2256]) := (n2298 q2250 (rn_oo heq2250 heq2249 (by decide))).trans heq2250
  have he2300 : F2296 q2251 = .inl (I (.object "java/lang/Object"), n2258, .inr (.inr (.inr (.inr f2257)))) := (n2298 q2251 (rn_ao heq2251 heq2249)).trans heq2251
  have he2301 : F2296 x2259 = .inr (20, [.int p2260, .int p2261, .int p2262, .int p2263, .int p2264, .int p2265, .int p2266]) := (n2298 x2259 (rn_oo hex2259 heq2249 (by decide))).trans hex2259
  have he2302 : F2296 q2249 = .inr (18, [.ref qo2252, .ref q2250, .int z2295, .int p2254]) := e2297
  have hfr2303 : rFr [q2249] P2247 F2248 F2296 := rFr_put (rFr_rf (W := []) (P := P2247) (F := F2248)) n2298
  refine G_aload_n 0 dr_cX13_row_54 rfl ?_
  refine G_iconst 0 dr_cX13_row_55 (by decide +kernel) ?_
  refine Gp_put 5 hmx2259 he2301 dr_cX13_row_56 (gk_X15 D I) (Nat.le_of_ble_eq_true rfl) wr_9_192 rfl rfl rfl (Nat.le_of_ble_eq_true rfl) (fun F2304 e2305 n2306 => ?_)
  have he2307 : F2304 q2249 = .inr (18, [.ref qo2252, .ref q2250, .int z2295, .int p2254]) := (n2306 q2249 (rn_oo he2302 he2301 (by decide))).trans he2302
  have he2308 : F2304 q2250 = .inr (4, [.int p2255, .ref q2251, .int p2256]) := (n2306 q2250 (rn_oo he2299 he2301 (by decide))).trans he2299
  have he2309 : F2304 q2251 = .inl (I (.object "java/lang/Object"), n2258, .inr (.inr (.inr (.inr f2257)))) := (n2306 q2251 (rn_ao he2300 he2301)).trans he2300
  have he2310 : F2304 x2259 = .inr (20, [.int p2260, .int p2261, .int p2262, .int p2263, .int p2264, .int 0, .int p2266]) := e2305
  have hfr2311 : rFr [x2259, q2249] P2247 F2248 F2304 := rFr_put hfr2303 n2306
  refine G_aload_n 0 dr_cX13_row_59 rfl ?_
  refine G_iconst 0 dr_cX13_row_60 (by decide +kernel) ?_
  refine Gp_put 6 hmx2259 he2310 dr_cX13_row_61 (gk_X15 D I) (Nat.le_of_ble_eq_true rfl) wr_9_196 rfl rfl rfl (Nat.le_of_ble_eq_true rfl) (fun F2312 e2313 n2314 => ?_)
  have he2315 : F2312 q2249 = .inr (18, [.ref qo2252, .ref q2250, .int z2295, .int p2254]) := (n2314 q2249 (rn_oo he2307 he2310 (by decide))).trans he2307
  have he2316 : F2312 q2250 = .inr (4, [.int p2255, .ref q2251, .int p2256]) := (n2314 q2250 (rn_oo he2308 he2310 (by decide))).trans he2308
  have he2317 : F2312 q2251 = .inl (I (.object "java/lang/Object"), n2258, .inr (.inr (.inr (.inr f2257)))) := (n2314 q2251 (rn_ao he2309 he2310)).trans he2309
  have he2318 : F2312 x2259 = .inr (20, [.int p2260, .int p2261, .int p2262, .int p2263, .int p2264, .int 0, .int 0]) := e2313
  have hfr2319 : rFr [x2259, q2249] P2247 F2248 F2312 := rFr_put' List.mem_cons_self hfr2311 n2314
  refine G_aload_n 0 dr_cX13_row_64 rfl ?_
  refine G_iconst 0 dr_cX13_row_65 (by decide +kernel) ?_
  refine Gp_put 2 hmx2259 he2318 dr_cX13_row_66 (gk_X15 D I) (Nat.le_of_ble_eq_true rfl) wr_9_180 rfl rfl rfl (Nat.le_of_ble_eq_true rfl) (fun F2320 e2321 n2322 => ?_)
  have he2323 : F2320 q2249 = .inr (18, [.ref qo2252, .ref q2250, .int z2295, .int p2254]) := (n2322 q2249 (rn_oo he2315 he2318 (by decide))).trans he2315
  have he2324 : F2320 q2250 = .inr (4, [.int p2255, .ref q2251, .int p2256]) := (n2322 q2250 (rn_oo he2316 he2318 (by decide))).trans he2316
  have he2325 : F2320 q2251 = .inl (I (.object "java/lang/Object"), n2258, .inr (.inr (.inr (.inr f2257)))) := (n2322 q2251 (rn_ao he2317 he2318)).trans he2317
  have he2326 : F2320 x2259 = .inr (20, [.int p2260, .int p2261, .int 0, .int p2263, .int p2264, .int 0, .int 0]) := e2321
  have hfr2327 : rFr [x2259, q2249] P2247 F2248 F2320 := rFr_put' List.mem_cons_self hfr2319 n2322
  refine G_aload_n 0 dr_cX13_row_69 rfl ?_
  refine G_iconst 0 dr_cX13_row_70 (by decide +kernel) ?_
  refine Gp_put 3 hmx2259 he2326 dr_cX13_row_71 (gk_X15 D I) (Nat.le_of_ble_eq_true rfl) wr_9_184 rfl rfl rfl (Nat.le_of_ble_eq_true rfl) (fun F2328 e2329 n2330 => ?_)
  have he2331 : F2328 q2249 = .inr (18, [.ref qo2252, .ref q2250, .int z2295, .int p2254]) := (n2330 q2249 (rn_oo he2323 he2326 (by decide))).trans he2323
  have he2332 : F2328 q2250 = .inr (4, [.int p2255, .ref q2251, .int p2256]) := (n2330 q2250 (rn_oo he2324 he2326 (by decide))).trans he2324
  have he2333 : F2328 q2251 = .inl (I (.object "java/lang/Object"), n2258, .inr (.inr (.inr (.inr f2257)))) := (n2330 q2251 (rn_ao he2325 he2326)).trans he2325
  have he2334 : F2328 x2259 = .inr (20, [.int p2260, .int p2261, .int 0, .int 0, .int p2264, .int 0, .int 0]) := e2329
  have hfr2335 : rFr [x2259, q2249] P2247 F2248 F2328 := rFr_put' List.mem_cons_self hfr2327 n2330
  refine G_aload_n 0 dr_cX13_row_74 rfl ?_
  refine G_iconst 0 dr_cX13_row_75 (by decide +kernel) ?_
  refine Gp_put 1 hmx2259 he2334 dr_cX13_row_76 (gk_X15 D I) (Nat.le_of_ble_eq_true rfl) wr_9_176 rfl rfl rfl (Nat.le_of_ble_eq_true rfl) (fun F2336 e2337 n2338 => ?_)
  have he2339 : F2336 q2249 = .inr (18, [.ref qo2252, .ref q2250, .int z2295, .int p2254]) := (n2338 q2249 (rn_oo he2331 he2334 (by decide))).trans he2331
  have he2340 : F2336 q2250 = .inr (4, [.int p2255, .ref q2251, .int p2256]) := (n2338 q2250 (rn_oo he2332 he2334 (by decide))).trans he2332
  have he2341 : F2336 q2251 = .inl (I (.object "java/lang/Object"), n2258, .inr (.inr (.inr (.inr f2257)))) := (n2338 q2251 (rn_ao he2333 he2334)).trans he2333
  have he2342 : F2336 x2259 = .inr (20, [.int p2260, .int 0, .int 0, .int 0, .int p2264, .int 0, .int 0]) := e2337
  have hfr2343 : rFr [x2259, q2249] P2247 F2248 F2336 := rFr_put' List.mem_cons_self hfr2335 n2338
  refine G_aload_n 0 dr_cX13_row_79 rfl ?_
  refine G_iconst 0 dr_cX13_row_80 (by decide +kernel) ?_
  refine Gp_put 4 hmx2259 he2342 dr_cX13_row_81 (gk_X15 D I) (Nat.le_of_ble_eq_true rfl) wr_9_188 rfl rfl rfl (Nat.le_of_ble_eq_true rfl) (fun F2344 e2345 n2346 => ?_)
  have he2347 : F2344 q2249 = .inr (18, [.ref qo2252, .ref q2250, .int z2295, .int p2254]) := (n2346 q2249 (rn_oo he2339 he2342 (by decide))).trans he2339
  have he2348 : F2344 q2250 = .inr (4, [.int p2255, .ref q2251, .int p2256]) := (n2346 q2250 (rn_oo he2340 he2342 (by decide))).trans he2340
  have he2349 : F2344 q2251 = .inl (I (.object "java/lang/Object"), n2258, .inr (.inr (.inr (.inr f2257)))) := (n2346 q2251 (rn_ao he2341 he2342)).trans he2341
  have he2350 : F2344 x2259 = .inr (20, [.int p2260, .int 0, .int 0, .int 0, .int 0, .int 0, .int 0]) := e2345
  have hfr2351 : rFr [x2259, q2249] P2247 F2248 F2344 := rFr_put' List.mem_cons_self hfr2343 n2346
  refine G_aload_n 0 dr_cX13_row_84 rfl ?_
  exact G_aretA (FieldType.object "SpillForgeModel$Row") dr_cX13_row_85 rfl (by first | exact Or.inl ⟨_, rfl⟩ | exact Or.inr ⟨_, rfl⟩) (Or.inr ⟨_, rfl⟩) (Nat.le_of_ble_eq_true rfl) (Nat.le_of_ble_eq_true rfl) ⟨F2344, z2295, rfl, rfl, hfr2351, he2347, he2348, he2349, he2350, (Nat.le_of_ble_eq_true rfl), (Nat.le_of_ble_eq_true rfl), bz2295, (by have qa0 : Int32.toInt 0 = 0 := (by decide); omega)⟩
abbrev ky_2408_Row_init : gKey := (cX15_init, 1, "SpillForgeModel$Row", none, [], "<init>", fun _ _ => True)
def pp_2408_Row_init (D : va_G) (I : FieldType → ClassId) (P2398 : List Nat) (F2399 : Nat → va_E) (q2400 : Nat) (p2401 : Int32) (p2402 : Int32) (p2403 : Int32) (p2404 : Int32) (p2405 : Int32) (p2406 : Int32) (p2407 : Int32) : Option Value → va_W → Nat → Nat → Prop := fun r w dc ds => r = none ∧ w = va_pl P2398 F2399 ∧ dc ≤ 0 ∧ ds ≤ 0
set_option maxRecDepth 100000 in
set_option maxHeartbeats 4000000 in
theorem cp_2408_Row_init (l : Launch) (hl0 : l.stackTraces = false) (D : va_G) (I : FieldType → ClassId) (P2398 : List Nat) (F2399 : Nat → va_E) (q2400 : Nat) (p2401 : Int32) (p2402 : Int32) (p2403 : Int32) (p2404 : Int32) (p2405 : Int32) (p2406 : Int32) (p2407 : Int32) (hmq2400 : q2400 ∈ P2398) (heq2400 : F2399 q2400 = .inr (20, [.int p2401, .int p2402, .int p2403, .int p2404, .int p2405, .int p2406, .int p2407])) (bp2401 : gB p2401 0 32) (bp2402 : gB p2402 0 1999) (bp2405 : gB p2405 0 1999) (bp2406 : gB p2406 0 1) (bp2407 : gB p2407 0 1) : CtA (gV D I) l yX15_init cX15_init 1 none 1 12 0 0 [.ref q2400] (va_pl P2398 F2399) (pp_2408_Row_init D I P2398 F2399 q2400 p2401 p2402 p2403 p2404 p2405 p2406 p2407) gNA := by
  refine CtA_of hl0 (by decide) (Nat.le_of_ble_eq_true rfl) ?_
  have bp2403 := gB_any p2403
  have bp2404 := gB_any p2404
  refine G_aload_n 0 dr_cX15_init_0 rfl ?_
  refine G_obj dr_cX15_init_1 wr_9_170 wr_1_51 wr_1_52 (Nat.le_of_ble_eq_true rfl) (Nat.le_of_ble_eq_true rfl) ?_
  exact G_vretA dr_cX15_init_4 rfl (Nat.le_of_ble_eq_true rfl) (Nat.le_of_ble_eq_true rfl) ⟨rfl, rfl, (Nat.le_of_ble_eq_true rfl), (Nat.le_of_ble_eq_true rfl)⟩
