theorem w_1_60 : (Jvm.Cond.fieldLink "SpillForge$Tape" (15 : Nat) "SpillForge$Tape" "size" "I") ∈ gw := gw_1 60 rfl rfl
theorem w_1_59 : (Jvm.Cond.fieldLink "SpillForge$Tape" (9 : Nat) "SpillForge$Tape" "bytes" "[B") ∈ gw := gw_1 59 rfl rfl
theorem w_3_226 : (Jvm.Cond.methodLink "SpillForge$Tape" (19 : Nat) ({ cls := "java/lang/Math", name := "min", desc := "(II)I" } : Jvm.MethodName)) ∈ gw := gw_3 226 rfl rfl
theorem w_3_227 : (Jvm.Cond.static ({ cls := "java/lang/Math", name := "min", desc := "(II)I" } : Jvm.MethodName)) ∈ gw := gw_3 227 rfl rfl
theorem w_1_6 : (Jvm.Cond.initialized "java/lang/Math") ∈ gw := gw_1 6 rfl rfl
theorem w_3_228 : (Jvm.Cond.code ({ cls := "java/lang/Math", name := "min", desc := "(II)I" } : Jvm.MethodName) prog_32_method_69_code (2 : Nat) (Option.some Jvm.ClassFile.FieldType.int)) ∈ gw := gw_3 228 rfl rfl
theorem w_3_229 : (Jvm.Cond.methodLink "SpillForge$Tape" (25 : Nat) ({ cls := "java/lang/Math", name := "max", desc := "(II)I" } : Jvm.MethodName)) ∈ gw := gw_3 229 rfl rfl
theorem w_1_140 : (Jvm.Cond.static ({ cls := "java/lang/Math", name := "max", desc := "(II)I" } : Jvm.MethodName)) ∈ gw := gw_1 140 rfl rfl
theorem w_1_141 : (Jvm.Cond.code ({ cls := "java/lang/Math", name := "max", desc := "(II)I" } : Jvm.MethodName) prog_32_method_65_code (2 : Nat) (Option.some Jvm.ClassFile.FieldType.int)) ∈ gw := gw_1 141 rfl rfl
theorem w_4_182 : (Jvm.Cond.methodLink "SpillForge$Tape" (28 : Nat) ({ cls := "SpillForge$Tape", name := "byteAt", desc := "(I)I" } : Jvm.MethodName)) ∈ gw := gw_4 182 rfl rfl
theorem w_1_2 : (Jvm.Cond.initialized "SpillForge$Tape") ∈ gw := gw_1 2 rfl rfl
theorem w_3_23 : (Jvm.Cond.code ({ cls := "SpillForge$Tape", name := "byteAt", desc := "(I)I" } : Jvm.MethodName) prog_12_method_6_code (2 : Nat) (Option.some Jvm.ClassFile.FieldType.int)) ∈ gw := gw_3 23 rfl rfl
theorem w_3_21 : (Jvm.Cond.instanceMethod ({ cls := "SpillForge$Tape", name := "byteAt", desc := "(I)I" } : Jvm.MethodName)) ∈ gw := gw_3 21 rfl rfl
theorem w_3_22 : (Jvm.Cond.selects "SpillForge$Tape" ({ cls := "SpillForge$Tape", name := "byteAt", desc := "(I)I" } : Jvm.MethodName) ({ cls := "SpillForge$Tape", name := "byteAt", desc := "(I)I" } : Jvm.MethodName)) ∈ gw := gw_3 22 rfl rfl
theorem w_1_80 : (Jvm.Cond.fieldLink "SpillForge$Signs" (15 : Nat) "SpillForge$Signs" "kind" "I") ∈ gw := gw_1 80 rfl rfl
theorem w_1_81 : (Jvm.Cond.fieldLink "SpillForge$Signs" (19 : Nat) "SpillForge$Signs" "value" "I") ∈ gw := gw_1 81 rfl rfl
theorem w_1_82 : (Jvm.Cond.fieldLink "SpillForge$Signs" (22 : Nat) "SpillForge$Signs" "place" "I") ∈ gw := gw_1 82 rfl rfl
theorem w_1_79 : (Jvm.Cond.fieldLink "SpillForge$Signs" (9 : Nat) "SpillForge$Signs" "tape" "LSpillForge$Tape;") ∈ gw := gw_1 79 rfl rfl
theorem w_3_16 : (Jvm.Cond.methodLink "SpillForge$Signs" (61 : Nat) ({ cls := "SpillForge$Tape", name := "size", desc := "()I" } : Jvm.MethodName)) ∈ gw := gw_3 16 rfl rfl
theorem w_3_19 : (Jvm.Cond.code ({ cls := "SpillForge$Tape", name := "size", desc := "()I" } : Jvm.MethodName) prog_12_method_2_code (1 : Nat) (Option.some Jvm.ClassFile.FieldType.int)) ∈ gw := gw_3 19 rfl rfl
theorem w_3_17 : (Jvm.Cond.instanceMethod ({ cls := "SpillForge$Tape", name := "size", desc := "()I" } : Jvm.MethodName)) ∈ gw := gw_3 17 rfl rfl
theorem w_3_18 : (Jvm.Cond.selects "SpillForge$Tape" ({ cls := "SpillForge$Tape", name := "size", desc := "()I" } : Jvm.MethodName) ({ cls := "SpillForge$Tape", name := "size", desc := "()I" } : Jvm.MethodName)) ∈ gw := gw_3 18 rfl rfl
theorem w_3_20 : (Jvm.Cond.methodLink "SpillForge$Signs" (35 : Nat) ({ cls := "SpillForge$Tape", name := "byteAt", desc := "(I)I" } : Jvm.MethodName)) ∈ gw := gw_3 20 rfl rfl
theorem w_1_83 : (Jvm.Cond.fieldLink "SpillForge$Signs" (25 : Nat) "SpillForge$Signs" "behind" "I") ∈ gw := gw_1 83 rfl rfl
theorem w_3_24 : (Jvm.Cond.methodLink "SpillForge$Signs" (40 : Nat) ({ cls := "SpillForge$Signs", name := "isDigit", desc := "(I)Z" } : Jvm.MethodName)) ∈ gw := gw_3 24 rfl rfl
theorem w_1_4 : (Jvm.Cond.initialized "SpillForge$Signs") ∈ gw := gw_1 4 rfl rfl
theorem w_3_26 : (Jvm.Cond.code ({ cls := "SpillForge$Signs", name := "isDigit", desc := "(I)Z" } : Jvm.MethodName) prog_11_method_15_code (1 : Nat) (Option.some Jvm.ClassFile.FieldType.boolean)) ∈ gw := gw_3 26 rfl rfl
theorem w_3_25 : (Jvm.Cond.static ({ cls := "SpillForge$Signs", name := "isDigit", desc := "(I)Z" } : Jvm.MethodName)) ∈ gw := gw_3 25 rfl rfl
theorem w_3_35 : (Jvm.Cond.constantLong "SpillForge$Signs" (69 : Nat) (10 : Int64)) ∈ gw := gw_3 35 rfl rfl
theorem w_3_36 : (Jvm.Cond.constantLong "SpillForge$Signs" (71 : Nat) (48 : Int64)) ∈ gw := gw_3 36 rfl rfl
theorem w_3_37 : (Jvm.Cond.constantLong "SpillForge$Signs" (73 : Nat) (1099511627776 : Int64)) ∈ gw := gw_3 37 rfl rfl
theorem w_3_38 : (Jvm.Cond.methodLink "SpillForge$Signs" (75 : Nat) ({ cls := "java/lang/Math", name := "min", desc := "(JJ)J" } : Jvm.MethodName)) ∈ gw := gw_3 38 rfl rfl
theorem w_3_40 : (Jvm.Cond.code ({ cls := "java/lang/Math", name := "min", desc := "(JJ)J" } : Jvm.MethodName) prog_32_method_70_code (4 : Nat) (Option.some Jvm.ClassFile.FieldType.long)) ∈ gw := gw_3 40 rfl rfl
theorem w_3_39 : (Jvm.Cond.static ({ cls := "java/lang/Math", name := "min", desc := "(JJ)J" } : Jvm.MethodName)) ∈ gw := gw_3 39 rfl rfl
theorem w_3_31 : (Jvm.Cond.methodLink "SpillForge$Signs" (65 : Nat) ({ cls := "SpillForge$Signs", name := "takeDigits", desc := "(I)J" } : Jvm.MethodName)) ∈ gw := gw_3 31 rfl rfl
theorem w_3_34 : (Jvm.Cond.code ({ cls := "SpillForge$Signs", name := "takeDigits", desc := "(I)J" } : Jvm.MethodName) prog_11_method_10_code (5 : Nat) (Option.some Jvm.ClassFile.FieldType.long)) ∈ gw := gw_3 34 rfl rfl
theorem w_3_33 : (Jvm.Cond.instanceMethod ({ cls := "SpillForge$Signs", name := "takeDigits", desc := "(I)J" } : Jvm.MethodName)) ∈ gw := gw_3 33 rfl rfl
theorem w_p_2 : Cond.selects "SpillForge$Signs" ⟨"SpillForge$Signs", "takeDigits", "(I)J"⟩ ⟨"SpillForge$Signs", "takeDigits", "(I)J"⟩ ∈ gw := gw_p _ 2 rfl rfl rfl
theorem w_1_187 : (Jvm.Cond.fieldLink "SpillForge$Code" (45 : Nat) "SpillForge$Code" "blocks" "I") ∈ gw := gw_1 187 rfl rfl
theorem w_1_197 : (Jvm.Cond.fieldLink "SpillForge$Code" (49 : Nat) "SpillForge$Code" "lines" "I") ∈ gw := gw_1 197 rfl rfl
theorem w_1_200 : (Jvm.Cond.fieldLink "SpillForge$Code" (52 : Nat) "SpillForge$Code" "isFull" "Z") ∈ gw := gw_1 200 rfl rfl
theorem w_1_142 : (Jvm.Cond.fieldLink "SpillForge$Code" (9 : Nat) "SpillForge$Code" "first" "[I") ∈ gw := gw_1 142 rfl rfl
theorem w_1_154 : (Jvm.Cond.fieldLink "SpillForge$Code" (18 : Nat) "SpillForge$Code" "secondGoal" "[I") ∈ gw := gw_1 154 rfl rfl
theorem w_1_149 : (Jvm.Cond.fieldLink "SpillForge$Code" (15 : Nat) "SpillForge$Code" "firstGoal" "[I") ∈ gw := gw_1 149 rfl rfl
theorem w_1_159 : (Jvm.Cond.fieldLink "SpillForge$Code" (27 : Nat) "SpillForge$Code" "op" "[I") ∈ gw := gw_1 159 rfl rfl
theorem w_1_163 : (Jvm.Cond.fieldLink "SpillForge$Code" (30 : Nat) "SpillForge$Code" "set" "[I") ∈ gw := gw_1 163 rfl rfl
theorem w_1_168 : (Jvm.Cond.fieldLink "SpillForge$Code" (33 : Nat) "SpillForge$Code" "left" "[I") ∈ gw := gw_1 168 rfl rfl
theorem w_1_174 : (Jvm.Cond.fieldLink "SpillForge$Code" (36 : Nat) "SpillForge$Code" "leftNumber" "[I") ∈ gw := gw_1 174 rfl rfl
theorem w_1_178 : (Jvm.Cond.fieldLink "SpillForge$Code" (39 : Nat) "SpillForge$Code" "right" "[I") ∈ gw := gw_1 178 rfl rfl
theorem w_1_183 : (Jvm.Cond.fieldLink "SpillForge$Code" (42 : Nat) "SpillForge$Code" "rightNumber" "[I") ∈ gw := gw_1 183 rfl rfl
theorem w_5_154 : (Jvm.Cond.methodLink "SpillForge$Code" (70 : Nat) ({ cls := "SpillForge$Code", name := "nameIn", desc := "([II)I" } : Jvm.MethodName)) ∈ gw := gw_5 154 rfl rfl
theorem w_1_5 : (Jvm.Cond.initialized "SpillForge$Code") ∈ gw := gw_1 5 rfl rfl
theorem w_5_156 : (Jvm.Cond.code ({ cls := "SpillForge$Code", name := "nameIn", desc := "([II)I" } : Jvm.MethodName) prog_2_method_14_code (2 : Nat) (Option.some Jvm.ClassFile.FieldType.int)) ∈ gw := gw_5 156 rfl rfl
theorem w_5_155 : (Jvm.Cond.static ({ cls := "SpillForge$Code", name := "nameIn", desc := "([II)I" } : Jvm.MethodName)) ∈ gw := gw_5 155 rfl rfl
theorem d_cJ9_min_f86c9_0 : decode cJ9_min_f86c9 0 = .ok (.lload_n 0, 1) := by decide +kernel
theorem d_cJ9_min_f86c9_1 : decode cJ9_min_f86c9 1 = .ok (.lload_n 2, 1) := by decide +kernel
theorem d_cJ9_min_f86c9_2 : decode cJ9_min_f86c9 2 = .ok (.lcmp, 1) := by decide +kernel
theorem d_cJ9_min_f86c9_3 : decode cJ9_min_f86c9 3 = .ok (.ifCond .gt 7, 3) := by decide +kernel
theorem d_cJ9_min_f86c9_6 : decode cJ9_min_f86c9 6 = .ok (.lload_n 0, 1) := by decide +kernel
theorem d_cJ9_min_f86c9_7 : decode cJ9_min_f86c9 7 = .ok (.goto 4, 3) := by decide +kernel
theorem d_cJ9_min_f86c9_10 : decode cJ9_min_f86c9 10 = .ok (.lload_n 2, 1) := by decide +kernel
theorem d_cJ9_min_f86c9_11 : decode cJ9_min_f86c9 11 = .ok (.lreturn, 1) := by decide +kernel
theorem d_cX0_add_0 : decode cX0_add 0 = .ok (.aload_n 0, 1) := by decide +kernel
theorem d_cX0_add_1 : decode cX0_add 1 = .ok (.getfield 49, 3) := by decide +kernel
theorem d_cX0_add_4 : decode cX0_add 4 = .ok (.aload_n 0, 1) := by decide +kernel
theorem d_cX0_add_5 : decode cX0_add 5 = .ok (.getfield 27, 3) := by decide +kernel
theorem d_cX0_add_8 : decode cX0_add 8 = .ok (.arraylength, 1) := by decide +kernel
theorem d_cX0_add_9 : decode cX0_add 9 = .ok (.if_icmp .lt 9, 3) := by decide +kernel
theorem d_cX0_add_12 : decode cX0_add 12 = .ok (.aload_n 0, 1) := by decide +kernel
theorem d_cX0_add_13 : decode cX0_add 13 = .ok (.iconst 1, 1) := by decide +kernel
theorem d_cX0_add_14 : decode cX0_add 14 = .ok (.putfield 52, 3) := by decide +kernel
theorem d_cX0_add_17 : decode cX0_add 17 = .ok (.return_, 1) := by decide +kernel
theorem d_cX0_add_18 : decode cX0_add 18 = .ok (.aload_n 0, 1) := by decide +kernel
theorem d_cX0_add_19 : decode cX0_add 19 = .ok (.getfield 27, 3) := by decide +kernel
theorem d_cX0_add_22 : decode cX0_add 22 = .ok (.aload_n 0, 1) := by decide +kernel
theorem d_cX0_add_23 : decode cX0_add 23 = .ok (.getfield 49, 3) := by decide +kernel
theorem d_cX0_add_26 : decode cX0_add 26 = .ok (.iload_n 1, 1) := by decide +kernel
theorem d_cX0_add_27 : decode cX0_add 27 = .ok (.iastore, 1) := by decide +kernel
theorem d_cX0_add_28 : decode cX0_add 28 = .ok (.aload_n 0, 1) := by decide +kernel
theorem d_cX0_add_29 : decode cX0_add 29 = .ok (.getfield 30, 3) := by decide +kernel
theorem d_cX0_add_32 : decode cX0_add 32 = .ok (.aload_n 0, 1) := by decide +kernel
theorem d_cX0_add_33 : decode cX0_add 33 = .ok (.getfield 49, 3) := by decide +kernel
theorem d_cX0_add_36 : decode cX0_add 36 = .ok (.iload_n 2, 1) := by decide +kernel
theorem d_cX0_add_37 : decode cX0_add 37 = .ok (.iastore, 1) := by decide +kernel
theorem d_cX0_add_38 : decode cX0_add 38 = .ok (.aload_n 0, 1) := by decide +kernel
theorem d_cX0_add_39 : decode cX0_add 39 = .ok (.getfield 33, 3) := by decide +kernel
theorem d_cX0_add_42 : decode cX0_add 42 = .ok (.aload_n 0, 1) := by decide +kernel
theorem d_cX0_add_43 : decode cX0_add 43 = .ok (.getfield 49, 3) := by decide +kernel
theorem d_cX0_add_46 : decode cX0_add 46 = .ok (.iload_n 3, 1) := by decide +kernel
theorem d_cX0_add_47 : decode cX0_add 47 = .ok (.iastore, 1) := by decide +kernel
theorem d_cX0_add_48 : decode cX0_add 48 = .ok (.aload_n 0, 1) := by decide +kernel
theorem d_cX0_add_49 : decode cX0_add 49 = .ok (.getfield 36, 3) := by decide +kernel
theorem d_cX0_add_52 : decode cX0_add 52 = .ok (.aload_n 0, 1) := by decide +kernel
theorem d_cX0_add_53 : decode cX0_add 53 = .ok (.getfield 49, 3) := by decide +kernel
theorem d_cX0_add_56 : decode cX0_add 56 = .ok (.iload 4, 2) := by decide +kernel
theorem d_cX0_add_58 : decode cX0_add 58 = .ok (.iastore, 1) := by decide +kernel
theorem d_cX0_add_59 : decode cX0_add 59 = .ok (.aload_n 0, 1) := by decide +kernel
theorem d_cX0_add_60 : decode cX0_add 60 = .ok (.getfield 39, 3) := by decide +kernel
theorem d_cX0_add_63 : decode cX0_add 63 = .ok (.aload_n 0, 1) := by decide +kernel
theorem d_cX0_add_64 : decode cX0_add 64 = .ok (.getfield 49, 3) := by decide +kernel
theorem d_cX0_add_67 : decode cX0_add 67 = .ok (.iload 5, 2) := by decide +kernel
theorem d_cX0_add_69 : decode cX0_add 69 = .ok (.iastore, 1) := by decide +kernel
theorem d_cX0_add_70 : decode cX0_add 70 = .ok (.aload_n 0, 1) := by decide +kernel
theorem d_cX0_add_71 : decode cX0_add 71 = .ok (.getfield 42, 3) := by decide +kernel
theorem d_cX0_add_74 : decode cX0_add 74 = .ok (.aload_n 0, 1) := by decide +kernel
theorem d_cX0_add_75 : decode cX0_add 75 = .ok (.getfield 49, 3) := by decide +kernel
theorem d_cX0_add_78 : decode cX0_add 78 = .ok (.iload 6, 2) := by decide +kernel
theorem d_cX0_add_80 : decode cX0_add 80 = .ok (.iastore, 1) := by decide +kernel
theorem d_cX0_add_81 : decode cX0_add 81 = .ok (.aload_n 0, 1) := by decide +kernel
theorem d_cX0_add_82 : decode cX0_add 82 = .ok (.dup, 1) := by decide +kernel
theorem d_cX0_add_83 : decode cX0_add 83 = .ok (.getfield 49, 3) := by decide +kernel
theorem d_cX0_add_86 : decode cX0_add 86 = .ok (.iconst 1, 1) := by decide +kernel
theorem d_cX0_add_87 : decode cX0_add 87 = .ok (.iadd, 1) := by decide +kernel
theorem d_cX0_add_88 : decode cX0_add 88 = .ok (.putfield 49, 3) := by decide +kernel
theorem d_cX0_add_91 : decode cX0_add 91 = .ok (.return_, 1) := by decide +kernel
theorem d_cX0_addGoal_0 : decode cX0_addGoal 0 = .ok (.aload_n 0, 1) := by decide +kernel
theorem d_cX0_addGoal_1 : decode cX0_addGoal 1 = .ok (.getfield 45, 3) := by decide +kernel
theorem d_cX0_addGoal_4 : decode cX0_addGoal 4 = .ok (.iconst 1, 1) := by decide +kernel
theorem d_cX0_addGoal_5 : decode cX0_addGoal 5 = .ok (.isub, 1) := by decide +kernel
theorem d_cX0_addGoal_6 : decode cX0_addGoal 6 = .ok (.istore_n 2, 1) := by decide +kernel
theorem d_cX0_addGoal_7 : decode cX0_addGoal 7 = .ok (.iload_n 2, 1) := by decide +kernel
theorem d_cX0_addGoal_8 : decode cX0_addGoal 8 = .ok (.ifCond .ge 5, 3) := by decide +kernel
theorem d_cX0_addGoal_11 : decode cX0_addGoal 11 = .ok (.iconst (-1), 1) := by decide +kernel
theorem d_cX0_addGoal_12 : decode cX0_addGoal 12 = .ok (.ireturn, 1) := by decide +kernel
theorem d_cX0_addGoal_13 : decode cX0_addGoal 13 = .ok (.aload_n 0, 1) := by decide +kernel
theorem d_cX0_addGoal_14 : decode cX0_addGoal 14 = .ok (.getfield 15, 3) := by decide +kernel
theorem d_cX0_addGoal_17 : decode cX0_addGoal 17 = .ok (.iload_n 2, 1) := by decide +kernel
theorem d_cX0_addGoal_18 : decode cX0_addGoal 18 = .ok (.iaload, 1) := by decide +kernel
theorem d_cX0_addGoal_19 : decode cX0_addGoal 19 = .ok (.iconst (-1), 1) := by decide +kernel
theorem d_cX0_addGoal_20 : decode cX0_addGoal 20 = .ok (.if_icmp .eq 7, 3) := by decide +kernel
theorem d_cX0_addGoal_23 : decode cX0_addGoal 23 = .ok (.iconst 1, 1) := by decide +kernel
theorem d_cX0_addGoal_24 : decode cX0_addGoal 24 = .ok (.goto 4, 3) := by decide +kernel
theorem d_cX0_addGoal_27 : decode cX0_addGoal 27 = .ok (.iconst 0, 1) := by decide +kernel
theorem d_cX0_addGoal_28 : decode cX0_addGoal 28 = .ok (.istore_n 3, 1) := by decide +kernel
theorem d_cX0_addGoal_29 : decode cX0_addGoal 29 = .ok (.iload_n 3, 1) := by decide +kernel
theorem d_cX0_addGoal_30 : decode cX0_addGoal 30 = .ok (.ifCond .eq 10, 3) := by decide +kernel
theorem d_cX0_addGoal_33 : decode cX0_addGoal 33 = .ok (.aload_n 0, 1) := by decide +kernel
theorem d_cX0_addGoal_34 : decode cX0_addGoal 34 = .ok (.getfield 18, 3) := by decide +kernel
theorem d_cX0_addGoal_37 : decode cX0_addGoal 37 = .ok (.goto 7, 3) := by decide +kernel
theorem d_cX0_addGoal_40 : decode cX0_addGoal 40 = .ok (.aload_n 0, 1) := by decide +kernel
theorem d_cX0_addGoal_41 : decode cX0_addGoal 41 = .ok (.getfield 15, 3) := by decide +kernel
theorem d_cX0_addGoal_44 : decode cX0_addGoal 44 = .ok (.astore 4, 2) := by decide +kernel
theorem d_cX0_addGoal_46 : decode cX0_addGoal 46 = .ok (.aload 4, 2) := by decide +kernel
theorem d_cX0_addGoal_48 : decode cX0_addGoal 48 = .ok (.iload_n 2, 1) := by decide +kernel
theorem d_cX0_addGoal_49 : decode cX0_addGoal 49 = .ok (.iload_n 1, 1) := by decide +kernel
theorem d_cX0_addGoal_50 : decode cX0_addGoal 50 = .ok (.iastore, 1) := by decide +kernel
theorem d_cX0_addGoal_51 : decode cX0_addGoal 51 = .ok (.iload_n 3, 1) := by decide +kernel
theorem d_cX0_addGoal_52 : decode cX0_addGoal 52 = .ok (.ifCond .eq 11, 3) := by decide +kernel
theorem d_cX0_addGoal_55 : decode cX0_addGoal 55 = .ok (.iconst 2, 1) := by decide +kernel
theorem d_cX0_addGoal_56 : decode cX0_addGoal 56 = .ok (.iload_n 2, 1) := by decide +kernel
theorem d_cX0_addGoal_57 : decode cX0_addGoal 57 = .ok (.imul, 1) := by decide +kernel
theorem d_cX0_addGoal_58 : decode cX0_addGoal 58 = .ok (.iconst 1, 1) := by decide +kernel
theorem d_cX0_addGoal_59 : decode cX0_addGoal 59 = .ok (.iadd, 1) := by decide +kernel
theorem d_cX0_addGoal_60 : decode cX0_addGoal 60 = .ok (.goto 6, 3) := by decide +kernel
theorem d_cX0_addGoal_63 : decode cX0_addGoal 63 = .ok (.iconst 2, 1) := by decide +kernel
theorem d_cX0_addGoal_64 : decode cX0_addGoal 64 = .ok (.iload_n 2, 1) := by decide +kernel
theorem d_cX0_addGoal_65 : decode cX0_addGoal 65 = .ok (.imul, 1) := by decide +kernel
theorem d_cX0_addGoal_66 : decode cX0_addGoal 66 = .ok (.ireturn, 1) := by decide +kernel
theorem d_cX0_blockEnd_0 : decode cX0_blockEnd 0 = .ok (.iload_n 1, 1) := by decide +kernel
theorem d_cX0_blockEnd_1 : decode cX0_blockEnd 1 = .ok (.iconst 1, 1) := by decide +kernel
theorem d_cX0_blockEnd_2 : decode cX0_blockEnd 2 = .ok (.iadd, 1) := by decide +kernel
theorem d_cX0_blockEnd_3 : decode cX0_blockEnd 3 = .ok (.aload_n 0, 1) := by decide +kernel
theorem d_cX0_blockEnd_4 : decode cX0_blockEnd 4 = .ok (.getfield 45, 3) := by decide +kernel
theorem d_cX0_blockEnd_7 : decode cX0_blockEnd 7 = .ok (.if_icmp .ge 14, 3) := by decide +kernel
theorem d_cX0_blockEnd_10 : decode cX0_blockEnd 10 = .ok (.aload_n 0, 1) := by decide +kernel
theorem d_cX0_blockEnd_11 : decode cX0_blockEnd 11 = .ok (.getfield 9, 3) := by decide +kernel
theorem d_cX0_blockEnd_14 : decode cX0_blockEnd 14 = .ok (.iload_n 1, 1) := by decide +kernel
theorem d_cX0_blockEnd_15 : decode cX0_blockEnd 15 = .ok (.iconst 1, 1) := by decide +kernel
theorem d_cX0_blockEnd_16 : decode cX0_blockEnd 16 = .ok (.iadd, 1) := by decide +kernel
theorem d_cX0_blockEnd_17 : decode cX0_blockEnd 17 = .ok (.iaload, 1) := by decide +kernel
theorem d_cX0_blockEnd_18 : decode cX0_blockEnd 18 = .ok (.goto 7, 3) := by decide +kernel
theorem d_cX0_blockEnd_21 : decode cX0_blockEnd 21 = .ok (.aload_n 0, 1) := by decide +kernel
theorem d_cX0_blockEnd_22 : decode cX0_blockEnd 22 = .ok (.getfield 49, 3) := by decide +kernel
theorem d_cX0_blockEnd_25 : decode cX0_blockEnd 25 = .ok (.ireturn, 1) := by decide +kernel
theorem d_cX0_clear_0 : decode cX0_clear 0 = .ok (.aload_n 0, 1) := by decide +kernel
theorem d_cX0_clear_1 : decode cX0_clear 1 = .ok (.iconst 0, 1) := by decide +kernel
theorem d_cX0_clear_2 : decode cX0_clear 2 = .ok (.putfield 45, 3) := by decide +kernel
theorem d_cX0_clear_5 : decode cX0_clear 5 = .ok (.aload_n 0, 1) := by decide +kernel
theorem d_cX0_clear_6 : decode cX0_clear 6 = .ok (.iconst 0, 1) := by decide +kernel
theorem d_cX0_clear_7 : decode cX0_clear 7 = .ok (.putfield 49, 3) := by decide +kernel
theorem d_cX0_clear_10 : decode cX0_clear 10 = .ok (.aload_n 0, 1) := by decide +kernel
theorem d_cX0_clear_11 : decode cX0_clear 11 = .ok (.iconst 0, 1) := by decide +kernel
theorem d_cX0_clear_12 : decode cX0_clear 12 = .ok (.putfield 52, 3) := by decide +kernel
theorem d_cX0_clear_15 : decode cX0_clear 15 = .ok (.return_, 1) := by decide +kernel
theorem d_cX0_copiesRegister_0 : decode cX0_copiesRegister 0 = .ok (.aload_n 0, 1) := by decide +kernel
theorem d_cX0_copiesRegister_1 : decode cX0_copiesRegister 1 = .ok (.getfield 27, 3) := by decide +kernel
theorem d_cX0_copiesRegister_4 : decode cX0_copiesRegister 4 = .ok (.iload_n 1, 1) := by decide +kernel
theorem d_cX0_copiesRegister_5 : decode cX0_copiesRegister 5 = .ok (.iaload, 1) := by decide +kernel
theorem d_cX0_copiesRegister_6 : decode cX0_copiesRegister 6 = .ok (.bipush 14, 2) := by decide +kernel
theorem d_cX0_copiesRegister_8 : decode cX0_copiesRegister 8 = .ok (.if_icmp .ne 25, 3) := by decide +kernel
theorem d_cX0_copiesRegister_11 : decode cX0_copiesRegister 11 = .ok (.aload_n 0, 1) := by decide +kernel
theorem d_cX0_copiesRegister_12 : decode cX0_copiesRegister 12 = .ok (.getfield 30, 3) := by decide +kernel
theorem d_cX0_copiesRegister_15 : decode cX0_copiesRegister 15 = .ok (.iload_n 1, 1) := by decide +kernel
theorem d_cX0_copiesRegister_16 : decode cX0_copiesRegister 16 = .ok (.iaload, 1) := by decide +kernel
theorem d_cX0_copiesRegister_17 : decode cX0_copiesRegister 17 = .ok (.ifCond .lt 16, 3) := by decide +kernel
theorem d_cX0_copiesRegister_20 : decode cX0_copiesRegister 20 = .ok (.aload_n 0, 1) := by decide +kernel
theorem d_cX0_copiesRegister_21 : decode cX0_copiesRegister 21 = .ok (.getfield 33, 3) := by decide +kernel
theorem d_cX0_copiesRegister_24 : decode cX0_copiesRegister 24 = .ok (.iload_n 1, 1) := by decide +kernel
theorem d_cX0_copiesRegister_25 : decode cX0_copiesRegister 25 = .ok (.iaload, 1) := by decide +kernel
theorem d_cX0_copiesRegister_26 : decode cX0_copiesRegister 26 = .ok (.ifCond .lt 7, 3) := by decide +kernel
theorem d_cX0_copiesRegister_29 : decode cX0_copiesRegister 29 = .ok (.iconst 1, 1) := by decide +kernel
theorem d_cX0_copiesRegister_30 : decode cX0_copiesRegister 30 = .ok (.goto 4, 3) := by decide +kernel
theorem d_cX0_copiesRegister_33 : decode cX0_copiesRegister 33 = .ok (.iconst 0, 1) := by decide +kernel
theorem d_cX0_copiesRegister_34 : decode cX0_copiesRegister 34 = .ok (.ireturn, 1) := by decide +kernel
theorem d_cX0_firstUse_0 : decode cX0_firstUse 0 = .ok (.iload_n 2, 1) := by decide +kernel
theorem d_cX0_firstUse_1 : decode cX0_firstUse 1 = .ok (.ifCond .eq 25, 3) := by decide +kernel
theorem d_cX0_firstUse_4 : decode cX0_firstUse 4 = .ok (.aload_n 0, 1) := by decide +kernel
theorem d_cX0_firstUse_5 : decode cX0_firstUse 5 = .ok (.getfield 27, 3) := by decide +kernel
theorem d_cX0_firstUse_8 : decode cX0_firstUse 8 = .ok (.iload_n 1, 1) := by decide +kernel
theorem d_cX0_firstUse_9 : decode cX0_firstUse 9 = .ok (.iaload, 1) := by decide +kernel
theorem d_cX0_firstUse_10 : decode cX0_firstUse 10 = .ok (.bipush 17, 2) := by decide +kernel
theorem d_cX0_firstUse_12 : decode cX0_firstUse 12 = .ok (.if_icmp .ne 12, 3) := by decide +kernel
theorem d_cX0_firstUse_15 : decode cX0_firstUse 15 = .ok (.aload_n 0, 1) := by decide +kernel
theorem d_cX0_firstUse_16 : decode cX0_firstUse 16 = .ok (.getfield 42, 3) := by decide +kernel
theorem d_cX0_firstUse_19 : decode cX0_firstUse 19 = .ok (.iload_n 1, 1) := by decide +kernel
theorem d_cX0_firstUse_20 : decode cX0_firstUse 20 = .ok (.iaload, 1) := by decide +kernel
theorem d_cX0_firstUse_21 : decode cX0_firstUse 21 = .ok (.goto 4, 3) := by decide +kernel
theorem d_cX0_firstUse_24 : decode cX0_firstUse 24 = .ok (.iconst (-1), 1) := by decide +kernel
theorem d_cX0_firstUse_25 : decode cX0_firstUse 25 = .ok (.ireturn, 1) := by decide +kernel
theorem d_cX0_firstUse_26 : decode cX0_firstUse 26 = .ok (.aload_n 0, 1) := by decide +kernel
theorem d_cX0_firstUse_27 : decode cX0_firstUse 27 = .ok (.getfield 33, 3) := by decide +kernel
theorem d_cX0_firstUse_30 : decode cX0_firstUse 30 = .ok (.iload_n 1, 1) := by decide +kernel
theorem d_cX0_firstUse_31 : decode cX0_firstUse 31 = .ok (.iaload, 1) := by decide +kernel
theorem d_cX0_firstUse_32 : decode cX0_firstUse 32 = .ok (.ireturn, 1) := by decide +kernel
theorem d_cX0_goal_0 : decode cX0_goal 0 = .ok (.iload_n 2, 1) := by decide +kernel
theorem d_cX0_goal_1 : decode cX0_goal 1 = .ok (.ifCond .ne 12, 3) := by decide +kernel
theorem d_cX0_goal_4 : decode cX0_goal 4 = .ok (.aload_n 0, 1) := by decide +kernel
theorem d_cX0_goal_5 : decode cX0_goal 5 = .ok (.getfield 15, 3) := by decide +kernel
theorem d_cX0_goal_8 : decode cX0_goal 8 = .ok (.iload_n 1, 1) := by decide +kernel
theorem d_cX0_goal_9 : decode cX0_goal 9 = .ok (.iaload, 1) := by decide +kernel
theorem d_cX0_goal_10 : decode cX0_goal 10 = .ok (.goto 9, 3) := by decide +kernel
theorem d_cX0_goal_13 : decode cX0_goal 13 = .ok (.aload_n 0, 1) := by decide +kernel
theorem d_cX0_goal_14 : decode cX0_goal 14 = .ok (.getfield 18, 3) := by decide +kernel
theorem d_cX0_goal_17 : decode cX0_goal 17 = .ok (.iload_n 1, 1) := by decide +kernel
theorem d_cX0_goal_18 : decode cX0_goal 18 = .ok (.iaload, 1) := by decide +kernel
theorem d_cX0_goal_19 : decode cX0_goal 19 = .ok (.ireturn, 1) := by decide +kernel
theorem d_cX0_linesThat_0 : decode cX0_linesThat 0 = .ok (.iconst 0, 1) := by decide +kernel
theorem d_cX0_linesThat_1 : decode cX0_linesThat 1 = .ok (.istore_n 2, 1) := by decide +kernel
theorem d_cX0_linesThat_2 : decode cX0_linesThat 2 = .ok (.iconst 0, 1) := by decide +kernel
theorem d_cX0_linesThat_3 : decode cX0_linesThat 3 = .ok (.istore_n 3, 1) := by decide +kernel
theorem d_cX0_linesThat_4 : decode cX0_linesThat 4 = .ok (.iload_n 3, 1) := by decide +kernel
theorem d_cX0_linesThat_5 : decode cX0_linesThat 5 = .ok (.aload_n 0, 1) := by decide +kernel
theorem d_cX0_linesThat_6 : decode cX0_linesThat 6 = .ok (.getfield 49, 3) := by decide +kernel
theorem d_cX0_linesThat_9 : decode cX0_linesThat 9 = .ok (.if_icmp .ge 27, 3) := by decide +kernel
theorem d_cX0_linesThat_12 : decode cX0_linesThat 12 = .ok (.iload_n 2, 1) := by decide +kernel
theorem d_cX0_linesThat_13 : decode cX0_linesThat 13 = .ok (.aload_n 0, 1) := by decide +kernel
theorem d_cX0_linesThat_14 : decode cX0_linesThat 14 = .ok (.getfield 27, 3) := by decide +kernel
theorem d_cX0_linesThat_17 : decode cX0_linesThat 17 = .ok (.iload_n 3, 1) := by decide +kernel
theorem d_cX0_linesThat_18 : decode cX0_linesThat 18 = .ok (.iaload, 1) := by decide +kernel
theorem d_cX0_linesThat_19 : decode cX0_linesThat 19 = .ok (.iload_n 1, 1) := by decide +kernel
theorem d_cX0_linesThat_20 : decode cX0_linesThat 20 = .ok (.if_icmp .ne 7, 3) := by decide +kernel
theorem d_cX0_linesThat_23 : decode cX0_linesThat 23 = .ok (.iconst 1, 1) := by decide +kernel
theorem d_cX0_linesThat_24 : decode cX0_linesThat 24 = .ok (.goto 4, 3) := by decide +kernel
theorem d_cX0_linesThat_27 : decode cX0_linesThat 27 = .ok (.iconst 0, 1) := by decide +kernel
theorem d_cX0_linesThat_28 : decode cX0_linesThat 28 = .ok (.iadd, 1) := by decide +kernel
theorem d_cX0_linesThat_29 : decode cX0_linesThat 29 = .ok (.istore_n 2, 1) := by decide +kernel
theorem d_cX0_linesThat_30 : decode cX0_linesThat 30 = .ok (.iinc 3 1, 3) := by decide +kernel
theorem d_cX0_linesThat_33 : decode cX0_linesThat 33 = .ok (.goto (-29), 3) := by decide +kernel
theorem d_cX0_linesThat_36 : decode cX0_linesThat 36 = .ok (.iload_n 2, 1) := by decide +kernel
theorem d_cX0_linesThat_37 : decode cX0_linesThat 37 = .ok (.ireturn, 1) := by decide +kernel
theorem d_cX0_nameIn_0 : decode cX0_nameIn 0 = .ok (.iload_n 1, 1) := by decide +kernel
theorem d_cX0_nameIn_1 : decode cX0_nameIn 1 = .ok (.ifCond .lt 15, 3) := by decide +kernel
theorem d_cX0_nameIn_4 : decode cX0_nameIn 4 = .ok (.iload_n 1, 1) := by decide +kernel
theorem d_cX0_nameIn_5 : decode cX0_nameIn 5 = .ok (.aload_n 0, 1) := by decide +kernel
theorem d_cX0_nameIn_6 : decode cX0_nameIn 6 = .ok (.arraylength, 1) := by decide +kernel
theorem d_cX0_nameIn_7 : decode cX0_nameIn 7 = .ok (.if_icmp .ge 9, 3) := by decide +kernel
theorem d_cX0_nameIn_10 : decode cX0_nameIn 10 = .ok (.aload_n 0, 1) := by decide +kernel
theorem d_cX0_nameIn_11 : decode cX0_nameIn 11 = .ok (.iload_n 1, 1) := by decide +kernel
theorem d_cX0_nameIn_12 : decode cX0_nameIn 12 = .ok (.iaload, 1) := by decide +kernel
theorem d_cX0_nameIn_13 : decode cX0_nameIn 13 = .ok (.goto 4, 3) := by decide +kernel
theorem d_cX0_nameIn_16 : decode cX0_nameIn 16 = .ok (.iload_n 1, 1) := by decide +kernel
theorem d_cX0_nameIn_17 : decode cX0_nameIn 17 = .ok (.ireturn, 1) := by decide +kernel
theorem d_cX0_openBlock_0 : decode cX0_openBlock 0 = .ok (.aload_n 0, 1) := by decide +kernel
theorem d_cX0_openBlock_1 : decode cX0_openBlock 1 = .ok (.getfield 45, 3) := by decide +kernel
theorem d_cX0_openBlock_4 : decode cX0_openBlock 4 = .ok (.bipush 40, 2) := by decide +kernel
theorem d_cX0_openBlock_6 : decode cX0_openBlock 6 = .ok (.if_icmp .lt 5, 3) := by decide +kernel
theorem d_cX0_openBlock_9 : decode cX0_openBlock 9 = .ok (.iconst 0, 1) := by decide +kernel
theorem d_cX0_openBlock_10 : decode cX0_openBlock 10 = .ok (.ireturn, 1) := by decide +kernel
theorem d_cX0_openBlock_11 : decode cX0_openBlock 11 = .ok (.aload_n 0, 1) := by decide +kernel
theorem d_cX0_openBlock_12 : decode cX0_openBlock 12 = .ok (.getfield 9, 3) := by decide +kernel
theorem d_cX0_openBlock_15 : decode cX0_openBlock 15 = .ok (.aload_n 0, 1) := by decide +kernel
theorem d_cX0_openBlock_16 : decode cX0_openBlock 16 = .ok (.getfield 45, 3) := by decide +kernel
theorem d_cX0_openBlock_19 : decode cX0_openBlock 19 = .ok (.aload_n 0, 1) := by decide +kernel
theorem d_cX0_openBlock_20 : decode cX0_openBlock 20 = .ok (.getfield 49, 3) := by decide +kernel
theorem d_cX0_openBlock_23 : decode cX0_openBlock 23 = .ok (.iastore, 1) := by decide +kernel
theorem d_cX0_openBlock_24 : decode cX0_openBlock 24 = .ok (.aload_n 0, 1) := by decide +kernel
theorem d_cX0_openBlock_25 : decode cX0_openBlock 25 = .ok (.getfield 15, 3) := by decide +kernel
theorem d_cX0_openBlock_28 : decode cX0_openBlock 28 = .ok (.aload_n 0, 1) := by decide +kernel
theorem d_cX0_openBlock_29 : decode cX0_openBlock 29 = .ok (.getfield 45, 3) := by decide +kernel
theorem d_cX0_openBlock_32 : decode cX0_openBlock 32 = .ok (.iconst (-1), 1) := by decide +kernel
theorem d_cX0_openBlock_33 : decode cX0_openBlock 33 = .ok (.iastore, 1) := by decide +kernel
theorem d_cX0_openBlock_34 : decode cX0_openBlock 34 = .ok (.aload_n 0, 1) := by decide +kernel
theorem d_cX0_openBlock_35 : decode cX0_openBlock 35 = .ok (.getfield 18, 3) := by decide +kernel
theorem d_cX0_openBlock_38 : decode cX0_openBlock 38 = .ok (.aload_n 0, 1) := by decide +kernel
theorem d_cX0_openBlock_39 : decode cX0_openBlock 39 = .ok (.getfield 45, 3) := by decide +kernel
theorem d_cX0_openBlock_42 : decode cX0_openBlock 42 = .ok (.iconst (-1), 1) := by decide +kernel
theorem d_cX0_openBlock_43 : decode cX0_openBlock 43 = .ok (.iastore, 1) := by decide +kernel
theorem d_cX0_openBlock_44 : decode cX0_openBlock 44 = .ok (.aload_n 0, 1) := by decide +kernel
theorem d_cX0_openBlock_45 : decode cX0_openBlock 45 = .ok (.dup, 1) := by decide +kernel
theorem d_cX0_openBlock_46 : decode cX0_openBlock 46 = .ok (.getfield 45, 3) := by decide +kernel
theorem d_cX0_openBlock_49 : decode cX0_openBlock 49 = .ok (.iconst 1, 1) := by decide +kernel
theorem d_cX0_openBlock_50 : decode cX0_openBlock 50 = .ok (.iadd, 1) := by decide +kernel
theorem d_cX0_openBlock_51 : decode cX0_openBlock 51 = .ok (.putfield 45, 3) := by decide +kernel
theorem d_cX0_openBlock_54 : decode cX0_openBlock 54 = .ok (.iconst 1, 1) := by decide +kernel
theorem d_cX0_openBlock_55 : decode cX0_openBlock 55 = .ok (.ireturn, 1) := by decide +kernel
theorem d_cX0_openLike_0 : decode cX0_openLike 0 = .ok (.aload_n 0, 1) := by decide +kernel
theorem d_cX0_openLike_1 : decode cX0_openLike 1 = .ok (.getfield 45, 3) := by decide +kernel
theorem d_cX0_openLike_4 : decode cX0_openLike 4 = .ok (.istore_n 2, 1) := by decide +kernel
theorem d_cX0_openLike_5 : decode cX0_openLike 5 = .ok (.iload_n 2, 1) := by decide +kernel
theorem d_cX0_openLike_6 : decode cX0_openLike 6 = .ok (.aload_n 1, 1) := by decide +kernel
theorem d_cX0_openLike_7 : decode cX0_openLike 7 = .ok (.getfield 45, 3) := by decide +kernel
theorem d_cX0_openLike_10 : decode cX0_openLike 10 = .ok (.if_icmp .ge 34, 3) := by decide +kernel
theorem d_cX0_openLike_44 : decode cX0_openLike 44 = .ok (.return_, 1) := by decide +kernel
theorem d_cX0_rename_0 : decode cX0_rename 0 = .ok (.iconst 0, 1) := by decide +kernel
theorem d_cX0_rename_1 : decode cX0_rename 1 = .ok (.istore_n 2, 1) := by decide +kernel
theorem d_cX0_rename_2 : decode cX0_rename 2 = .ok (.iload_n 2, 1) := by decide +kernel
theorem d_cX0_rename_3 : decode cX0_rename 3 = .ok (.aload_n 0, 1) := by decide +kernel
theorem d_cX0_rename_4 : decode cX0_rename 4 = .ok (.getfield 49, 3) := by decide +kernel
theorem d_cX0_rename_7 : decode cX0_rename 7 = .ok (.if_icmp .ge 57, 3) := by decide +kernel
theorem d_cX0_rename_10 : decode cX0_rename 10 = .ok (.aload_n 0, 1) := by decide +kernel
theorem d_cX0_rename_11 : decode cX0_rename 11 = .ok (.getfield 30, 3) := by decide +kernel
theorem d_cX0_rename_14 : decode cX0_rename 14 = .ok (.iload_n 2, 1) := by decide +kernel
theorem d_cX0_rename_15 : decode cX0_rename 15 = .ok (.aload_n 1, 1) := by decide +kernel
theorem d_cX0_rename_16 : decode cX0_rename 16 = .ok (.aload_n 0, 1) := by decide +kernel
theorem d_cX0_rename_17 : decode cX0_rename 17 = .ok (.getfield 30, 3) := by decide +kernel
theorem d_cX0_rename_20 : decode cX0_rename 20 = .ok (.iload_n 2, 1) := by decide +kernel
theorem d_cX0_rename_21 : decode cX0_rename 21 = .ok (.iaload, 1) := by decide +kernel
theorem d_cX0_rename_22 : decode cX0_rename 22 = .ok (.invokestatic 70, 3) := by decide +kernel
theorem d_cX0_rename_25 : decode cX0_rename 25 = .ok (.iastore, 1) := by decide +kernel
theorem d_cX0_rename_26 : decode cX0_rename 26 = .ok (.aload_n 0, 1) := by decide +kernel
theorem d_cX0_rename_27 : decode cX0_rename 27 = .ok (.getfield 33, 3) := by decide +kernel
theorem d_cX0_rename_30 : decode cX0_rename 30 = .ok (.iload_n 2, 1) := by decide +kernel
theorem d_cX0_rename_31 : decode cX0_rename 31 = .ok (.aload_n 1, 1) := by decide +kernel
theorem d_cX0_rename_32 : decode cX0_rename 32 = .ok (.aload_n 0, 1) := by decide +kernel
theorem d_cX0_rename_33 : decode cX0_rename 33 = .ok (.getfield 33, 3) := by decide +kernel
theorem d_cX0_rename_36 : decode cX0_rename 36 = .ok (.iload_n 2, 1) := by decide +kernel
theorem d_cX0_rename_37 : decode cX0_rename 37 = .ok (.iaload, 1) := by decide +kernel
theorem d_cX0_rename_38 : decode cX0_rename 38 = .ok (.invokestatic 70, 3) := by decide +kernel
theorem d_cX0_rename_41 : decode cX0_rename 41 = .ok (.iastore, 1) := by decide +kernel
theorem d_cX0_rename_42 : decode cX0_rename 42 = .ok (.aload_n 0, 1) := by decide +kernel
theorem d_cX0_rename_43 : decode cX0_rename 43 = .ok (.getfield 39, 3) := by decide +kernel
theorem d_cX0_rename_46 : decode cX0_rename 46 = .ok (.iload_n 2, 1) := by decide +kernel
theorem d_cX0_rename_47 : decode cX0_rename 47 = .ok (.aload_n 1, 1) := by decide +kernel
theorem d_cX0_rename_48 : decode cX0_rename 48 = .ok (.aload_n 0, 1) := by decide +kernel
theorem d_cX0_rename_49 : decode cX0_rename 49 = .ok (.getfield 39, 3) := by decide +kernel
theorem d_cX0_rename_52 : decode cX0_rename 52 = .ok (.iload_n 2, 1) := by decide +kernel
theorem d_cX0_rename_53 : decode cX0_rename 53 = .ok (.iaload, 1) := by decide +kernel
theorem d_cX0_rename_54 : decode cX0_rename 54 = .ok (.invokestatic 70, 3) := by decide +kernel
theorem d_cX0_rename_57 : decode cX0_rename 57 = .ok (.iastore, 1) := by decide +kernel
theorem d_cX0_rename_58 : decode cX0_rename 58 = .ok (.iinc 2 1, 3) := by decide +kernel
theorem d_cX0_rename_61 : decode cX0_rename 61 = .ok (.goto (-59), 3) := by decide +kernel
theorem d_cX0_rename_64 : decode cX0_rename 64 = .ok (.return_, 1) := by decide +kernel
theorem d_cX0_renameSlots_0 : decode cX0_renameSlots 0 = .ok (.iconst 0, 1) := by decide +kernel
theorem d_cX0_renameSlots_1 : decode cX0_renameSlots 1 = .ok (.istore_n 2, 1) := by decide +kernel
theorem d_cX0_renameSlots_2 : decode cX0_renameSlots 2 = .ok (.iload_n 2, 1) := by decide +kernel
theorem d_cX0_renameSlots_3 : decode cX0_renameSlots 3 = .ok (.aload_n 0, 1) := by decide +kernel
theorem d_cX0_renameSlots_4 : decode cX0_renameSlots 4 = .ok (.getfield 49, 3) := by decide +kernel
theorem d_cX0_renameSlots_7 : decode cX0_renameSlots 7 = .ok (.if_icmp .ge 47, 3) := by decide +kernel
theorem d_cX0_renameSlots_10 : decode cX0_renameSlots 10 = .ok (.aload_n 0, 1) := by decide +kernel
theorem d_cX0_renameSlots_11 : decode cX0_renameSlots 11 = .ok (.getfield 27, 3) := by decide +kernel
theorem d_cX0_renameSlots_14 : decode cX0_renameSlots 14 = .ok (.iload_n 2, 1) := by decide +kernel
theorem d_cX0_renameSlots_15 : decode cX0_renameSlots 15 = .ok (.iaload, 1) := by decide +kernel
theorem d_cX0_renameSlots_16 : decode cX0_renameSlots 16 = .ok (.bipush 17, 2) := by decide +kernel
theorem d_cX0_renameSlots_18 : decode cX0_renameSlots 18 = .ok (.if_icmp .eq 14, 3) := by decide +kernel
theorem d_cX0_renameSlots_21 : decode cX0_renameSlots 21 = .ok (.aload_n 0, 1) := by decide +kernel
theorem d_cX0_renameSlots_22 : decode cX0_renameSlots 22 = .ok (.getfield 27, 3) := by decide +kernel
theorem d_cX0_renameSlots_25 : decode cX0_renameSlots 25 = .ok (.iload_n 2, 1) := by decide +kernel
theorem d_cX0_renameSlots_26 : decode cX0_renameSlots 26 = .ok (.iaload, 1) := by decide +kernel
theorem d_cX0_renameSlots_27 : decode cX0_renameSlots 27 = .ok (.bipush 18, 2) := by decide +kernel
theorem d_cX0_renameSlots_29 : decode cX0_renameSlots 29 = .ok (.if_icmp .ne 19, 3) := by decide +kernel
theorem d_cX0_renameSlots_32 : decode cX0_renameSlots 32 = .ok (.aload_n 0, 1) := by decide +kernel
theorem d_cX0_renameSlots_33 : decode cX0_renameSlots 33 = .ok (.getfield 42, 3) := by decide +kernel
theorem d_cX0_renameSlots_36 : decode cX0_renameSlots 36 = .ok (.iload_n 2, 1) := by decide +kernel
theorem d_cX0_renameSlots_37 : decode cX0_renameSlots 37 = .ok (.aload_n 1, 1) := by decide +kernel
theorem d_cX0_renameSlots_38 : decode cX0_renameSlots 38 = .ok (.aload_n 0, 1) := by decide +kernel
theorem d_cX0_renameSlots_39 : decode cX0_renameSlots 39 = .ok (.getfield 42, 3) := by decide +kernel
theorem d_cX0_renameSlots_42 : decode cX0_renameSlots 42 = .ok (.iload_n 2, 1) := by decide +kernel
theorem d_cX0_renameSlots_43 : decode cX0_renameSlots 43 = .ok (.iaload, 1) := by decide +kernel
theorem d_cX0_renameSlots_44 : decode cX0_renameSlots 44 = .ok (.invokestatic 70, 3) := by decide +kernel
theorem d_cX0_renameSlots_47 : decode cX0_renameSlots 47 = .ok (.iastore, 1) := by decide +kernel
theorem d_cX0_renameSlots_48 : decode cX0_renameSlots 48 = .ok (.iinc 2 1, 3) := by decide +kernel
theorem d_cX0_renameSlots_51 : decode cX0_renameSlots 51 = .ok (.goto (-49), 3) := by decide +kernel
theorem d_cX0_renameSlots_54 : decode cX0_renameSlots 54 = .ok (.return_, 1) := by decide +kernel
theorem d_cX0_replace_0 : decode cX0_replace 0 = .ok (.iconst 0, 1) := by decide +kernel
theorem d_cX0_replace_1 : decode cX0_replace 1 = .ok (.istore_n 3, 1) := by decide +kernel
theorem d_cX0_replace_2 : decode cX0_replace 2 = .ok (.iload_n 3, 1) := by decide +kernel
theorem d_cX0_replace_3 : decode cX0_replace 3 = .ok (.aload_n 0, 1) := by decide +kernel
theorem d_cX0_replace_4 : decode cX0_replace 4 = .ok (.getfield 49, 3) := by decide +kernel
theorem d_cX0_replace_7 : decode cX0_replace 7 = .ok (.if_icmp .ge 87, 3) := by decide +kernel
theorem d_cX0_replace_10 : decode cX0_replace 10 = .ok (.aload_n 0, 1) := by decide +kernel
theorem d_cX0_replace_11 : decode cX0_replace 11 = .ok (.getfield 30, 3) := by decide +kernel
theorem d_cX0_replace_14 : decode cX0_replace 14 = .ok (.iload_n 3, 1) := by decide +kernel
theorem d_cX0_replace_15 : decode cX0_replace 15 = .ok (.aload_n 0, 1) := by decide +kernel
theorem d_cX0_replace_16 : decode cX0_replace 16 = .ok (.getfield 30, 3) := by decide +kernel
theorem d_cX0_replace_19 : decode cX0_replace 19 = .ok (.iload_n 3, 1) := by decide +kernel
theorem d_cX0_replace_20 : decode cX0_replace 20 = .ok (.iaload, 1) := by decide +kernel
theorem d_cX0_replace_21 : decode cX0_replace 21 = .ok (.iload_n 1, 1) := by decide +kernel
theorem d_cX0_replace_22 : decode cX0_replace 22 = .ok (.if_icmp .ne 7, 3) := by decide +kernel
theorem d_cX0_replace_25 : decode cX0_replace 25 = .ok (.iload_n 2, 1) := by decide +kernel
theorem d_cX0_replace_26 : decode cX0_replace 26 = .ok (.goto 9, 3) := by decide +kernel
theorem d_cX0_replace_29 : decode cX0_replace 29 = .ok (.aload_n 0, 1) := by decide +kernel
theorem d_cX0_replace_30 : decode cX0_replace 30 = .ok (.getfield 30, 3) := by decide +kernel
theorem d_cX0_replace_33 : decode cX0_replace 33 = .ok (.iload_n 3, 1) := by decide +kernel
theorem d_cX0_replace_34 : decode cX0_replace 34 = .ok (.iaload, 1) := by decide +kernel
theorem d_cX0_replace_35 : decode cX0_replace 35 = .ok (.iastore, 1) := by decide +kernel
theorem d_cX0_replace_36 : decode cX0_replace 36 = .ok (.aload_n 0, 1) := by decide +kernel
theorem d_cX0_replace_37 : decode cX0_replace 37 = .ok (.getfield 33, 3) := by decide +kernel
theorem d_cX0_replace_40 : decode cX0_replace 40 = .ok (.iload_n 3, 1) := by decide +kernel
theorem d_cX0_replace_41 : decode cX0_replace 41 = .ok (.aload_n 0, 1) := by decide +kernel
theorem d_cX0_replace_42 : decode cX0_replace 42 = .ok (.getfield 33, 3) := by decide +kernel
theorem d_cX0_replace_45 : decode cX0_replace 45 = .ok (.iload_n 3, 1) := by decide +kernel
theorem d_cX0_replace_46 : decode cX0_replace 46 = .ok (.iaload, 1) := by decide +kernel
theorem d_cX0_replace_47 : decode cX0_replace 47 = .ok (.iload_n 1, 1) := by decide +kernel
theorem d_cX0_replace_48 : decode cX0_replace 48 = .ok (.if_icmp .ne 7, 3) := by decide +kernel
theorem d_cX0_replace_51 : decode cX0_replace 51 = .ok (.iload_n 2, 1) := by decide +kernel
theorem d_cX0_replace_52 : decode cX0_replace 52 = .ok (.goto 9, 3) := by decide +kernel
theorem d_cX0_replace_55 : decode cX0_replace 55 = .ok (.aload_n 0, 1) := by decide +kernel
theorem d_cX0_replace_56 : decode cX0_replace 56 = .ok (.getfield 33, 3) := by decide +kernel
theorem d_cX0_replace_59 : decode cX0_replace 59 = .ok (.iload_n 3, 1) := by decide +kernel
theorem d_cX0_replace_60 : decode cX0_replace 60 = .ok (.iaload, 1) := by decide +kernel
theorem d_cX0_replace_61 : decode cX0_replace 61 = .ok (.iastore, 1) := by decide +kernel
theorem d_cX0_replace_62 : decode cX0_replace 62 = .ok (.aload_n 0, 1) := by decide +kernel
theorem d_cX0_replace_63 : decode cX0_replace 63 = .ok (.getfield 39, 3) := by decide +kernel
theorem d_cX0_replace_66 : decode cX0_replace 66 = .ok (.iload_n 3, 1) := by decide +kernel
theorem d_cX0_replace_67 : decode cX0_replace 67 = .ok (.aload_n 0, 1) := by decide +kernel
theorem d_cX0_replace_68 : decode cX0_replace 68 = .ok (.getfield 39, 3) := by decide +kernel
theorem d_cX0_replace_71 : decode cX0_replace 71 = .ok (.iload_n 3, 1) := by decide +kernel
theorem d_cX0_replace_72 : decode cX0_replace 72 = .ok (.iaload, 1) := by decide +kernel
theorem d_cX0_replace_73 : decode cX0_replace 73 = .ok (.iload_n 1, 1) := by decide +kernel
theorem d_cX0_replace_74 : decode cX0_replace 74 = .ok (.if_icmp .ne 7, 3) := by decide +kernel
theorem d_cX0_replace_77 : decode cX0_replace 77 = .ok (.iload_n 2, 1) := by decide +kernel
theorem d_cX0_replace_78 : decode cX0_replace 78 = .ok (.goto 9, 3) := by decide +kernel
theorem d_cX0_replace_81 : decode cX0_replace 81 = .ok (.aload_n 0, 1) := by decide +kernel
theorem d_cX0_replace_82 : decode cX0_replace 82 = .ok (.getfield 39, 3) := by decide +kernel
theorem d_cX0_replace_85 : decode cX0_replace 85 = .ok (.iload_n 3, 1) := by decide +kernel
theorem d_cX0_replace_86 : decode cX0_replace 86 = .ok (.iaload, 1) := by decide +kernel
theorem d_cX0_replace_87 : decode cX0_replace 87 = .ok (.iastore, 1) := by decide +kernel
theorem d_cX0_replace_88 : decode cX0_replace 88 = .ok (.iinc 3 1, 3) := by decide +kernel
theorem d_cX0_replace_91 : decode cX0_replace 91 = .ok (.goto (-89), 3) := by decide +kernel
theorem d_cX0_replace_94 : decode cX0_replace 94 = .ok (.return_, 1) := by decide +kernel
theorem d_cX0_rows_0 : decode cX0_rows 0 = .ok (.aload_n 0, 1) := by decide +kernel
theorem d_cX0_rows_1 : decode cX0_rows 1 = .ok (.getfield 49, 3) := by decide +kernel
theorem d_cX0_rows_4 : decode cX0_rows 4 = .ok (.aload_n 0, 1) := by decide +kernel
theorem d_cX0_rows_5 : decode cX0_rows 5 = .ok (.getfield 45, 3) := by decide +kernel
theorem d_cX0_rows_8 : decode cX0_rows 8 = .ok (.isub, 1) := by decide +kernel
theorem d_cX0_rows_9 : decode cX0_rows 9 = .ok (.ireturn, 1) := by decide +kernel
theorem d_cX0_secondUse_0 : decode cX0_secondUse 0 = .ok (.iload_n 2, 1) := by decide +kernel
theorem d_cX0_secondUse_1 : decode cX0_secondUse 1 = .ok (.ifCond .eq 7, 3) := by decide +kernel
theorem d_cX0_secondUse_4 : decode cX0_secondUse 4 = .ok (.iconst (-1), 1) := by decide +kernel
theorem d_cX0_secondUse_5 : decode cX0_secondUse 5 = .ok (.goto 9, 3) := by decide +kernel
theorem d_cX0_secondUse_8 : decode cX0_secondUse 8 = .ok (.aload_n 0, 1) := by decide +kernel
theorem d_cX0_secondUse_9 : decode cX0_secondUse 9 = .ok (.getfield 39, 3) := by decide +kernel
theorem d_cX0_secondUse_12 : decode cX0_secondUse 12 = .ok (.iload_n 1, 1) := by decide +kernel
theorem d_cX0_secondUse_13 : decode cX0_secondUse 13 = .ok (.iaload, 1) := by decide +kernel
theorem d_cX0_secondUse_14 : decode cX0_secondUse 14 = .ok (.ireturn, 1) := by decide +kernel
theorem d_cX0_setBy_0 : decode cX0_setBy 0 = .ok (.iload_n 2, 1) := by decide +kernel
theorem d_cX0_setBy_1 : decode cX0_setBy 1 = .ok (.ifCond .eq 25, 3) := by decide +kernel
theorem d_cX0_setBy_4 : decode cX0_setBy 4 = .ok (.aload_n 0, 1) := by decide +kernel
theorem d_cX0_setBy_5 : decode cX0_setBy 5 = .ok (.getfield 27, 3) := by decide +kernel
theorem d_cX0_setBy_8 : decode cX0_setBy 8 = .ok (.iload_n 1, 1) := by decide +kernel
theorem d_cX0_setBy_9 : decode cX0_setBy 9 = .ok (.iaload, 1) := by decide +kernel
theorem d_cX0_setBy_10 : decode cX0_setBy 10 = .ok (.bipush 18, 2) := by decide +kernel
theorem d_cX0_setBy_12 : decode cX0_setBy 12 = .ok (.if_icmp .ne 12, 3) := by decide +kernel
theorem d_cX0_setBy_15 : decode cX0_setBy 15 = .ok (.aload_n 0, 1) := by decide +kernel
theorem d_cX0_setBy_16 : decode cX0_setBy 16 = .ok (.getfield 42, 3) := by decide +kernel
theorem d_cX0_setBy_19 : decode cX0_setBy 19 = .ok (.iload_n 1, 1) := by decide +kernel
theorem d_cX0_setBy_20 : decode cX0_setBy 20 = .ok (.iaload, 1) := by decide +kernel
theorem d_cX0_setBy_21 : decode cX0_setBy 21 = .ok (.goto 4, 3) := by decide +kernel
theorem d_cX0_setBy_24 : decode cX0_setBy 24 = .ok (.iconst (-1), 1) := by decide +kernel
theorem d_cX0_setBy_25 : decode cX0_setBy 25 = .ok (.ireturn, 1) := by decide +kernel
theorem d_cX0_setBy_26 : decode cX0_setBy 26 = .ok (.aload_n 0, 1) := by decide +kernel
theorem d_cX0_setBy_27 : decode cX0_setBy 27 = .ok (.getfield 30, 3) := by decide +kernel
theorem d_cX0_setBy_30 : decode cX0_setBy 30 = .ok (.iload_n 1, 1) := by decide +kernel
theorem d_cX0_setBy_31 : decode cX0_setBy 31 = .ok (.iaload, 1) := by decide +kernel
theorem d_cX0_setBy_32 : decode cX0_setBy 32 = .ok (.ireturn, 1) := by decide +kernel
theorem d_cX10_addInt_0 : decode cX10_addInt 0 = .ok (.bipush 24, 2) := by decide +kernel
theorem d_cX10_addInt_2 : decode cX10_addInt 2 = .ok (.istore_n 2, 1) := by decide +kernel
theorem d_cX10_addInt_3 : decode cX10_addInt 3 = .ok (.iload_n 2, 1) := by decide +kernel
theorem d_cX10_addInt_4 : decode cX10_addInt 4 = .ok (.ifCond .lt 44, 3) := by decide +kernel
theorem d_cX10_addInt_7 : decode cX10_addInt 7 = .ok (.aload_n 0, 1) := by decide +kernel
theorem d_cX10_addInt_8 : decode cX10_addInt 8 = .ok (.getfield 15, 3) := by decide +kernel
theorem d_cX10_addInt_11 : decode cX10_addInt 11 = .ok (.aload_n 0, 1) := by decide +kernel
theorem d_cX10_addInt_12 : decode cX10_addInt 12 = .ok (.getfield 9, 3) := by decide +kernel
theorem d_cX10_addInt_15 : decode cX10_addInt 15 = .ok (.arraylength, 1) := by decide +kernel
theorem d_cX10_addInt_16 : decode cX10_addInt 16 = .ok (.if_icmp .ge 32, 3) := by decide +kernel
theorem d_cX10_addInt_19 : decode cX10_addInt 19 = .ok (.aload_n 0, 1) := by decide +kernel
theorem d_cX10_addInt_20 : decode cX10_addInt 20 = .ok (.getfield 9, 3) := by decide +kernel
theorem d_cX10_addInt_23 : decode cX10_addInt 23 = .ok (.aload_n 0, 1) := by decide +kernel
theorem d_cX10_addInt_24 : decode cX10_addInt 24 = .ok (.getfield 15, 3) := by decide +kernel
theorem d_cX10_addInt_27 : decode cX10_addInt 27 = .ok (.iload_n 1, 1) := by decide +kernel
theorem d_cX10_addInt_28 : decode cX10_addInt 28 = .ok (.iload_n 2, 1) := by decide +kernel
theorem d_cX10_addInt_29 : decode cX10_addInt 29 = .ok (.ishr, 1) := by decide +kernel
theorem d_cX10_addInt_30 : decode cX10_addInt 30 = .ok (.i2b, 1) := by decide +kernel
theorem d_cX10_addInt_31 : decode cX10_addInt 31 = .ok (.bastore, 1) := by decide +kernel
theorem d_cX10_addInt_32 : decode cX10_addInt 32 = .ok (.aload_n 0, 1) := by decide +kernel
theorem d_cX10_addInt_33 : decode cX10_addInt 33 = .ok (.dup, 1) := by decide +kernel
theorem d_cX10_addInt_34 : decode cX10_addInt 34 = .ok (.getfield 15, 3) := by decide +kernel
theorem d_cX10_addInt_37 : decode cX10_addInt 37 = .ok (.iconst 1, 1) := by decide +kernel
theorem d_cX10_addInt_38 : decode cX10_addInt 38 = .ok (.iadd, 1) := by decide +kernel
theorem d_cX10_addInt_39 : decode cX10_addInt 39 = .ok (.putfield 15, 3) := by decide +kernel
theorem d_cX10_addInt_42 : decode cX10_addInt 42 = .ok (.iinc 2 (-8), 3) := by decide +kernel
theorem d_cX10_addInt_45 : decode cX10_addInt 45 = .ok (.goto (-42), 3) := by decide +kernel
theorem d_cX10_addInt_48 : decode cX10_addInt 48 = .ok (.return_, 1) := by decide +kernel
theorem d_cX10_byteAt_0 : decode cX10_byteAt 0 = .ok (.iload_n 1, 1) := by decide +kernel
theorem d_cX10_byteAt_1 : decode cX10_byteAt 1 = .ok (.ifCond .lt 24, 3) := by decide +kernel
theorem d_cX10_byteAt_4 : decode cX10_byteAt 4 = .ok (.iload_n 1, 1) := by decide +kernel
theorem d_cX10_byteAt_5 : decode cX10_byteAt 5 = .ok (.aload_n 0, 1) := by decide +kernel
theorem d_cX10_byteAt_6 : decode cX10_byteAt 6 = .ok (.getfield 15, 3) := by decide +kernel
theorem d_cX10_byteAt_9 : decode cX10_byteAt 9 = .ok (.if_icmp .ge 16, 3) := by decide +kernel
theorem d_cX10_byteAt_12 : decode cX10_byteAt 12 = .ok (.aload_n 0, 1) := by decide +kernel
theorem d_cX10_byteAt_13 : decode cX10_byteAt 13 = .ok (.getfield 9, 3) := by decide +kernel
theorem d_cX10_byteAt_16 : decode cX10_byteAt 16 = .ok (.iload_n 1, 1) := by decide +kernel
theorem d_cX10_byteAt_17 : decode cX10_byteAt 17 = .ok (.baload, 1) := by decide +kernel
theorem d_cX10_byteAt_18 : decode cX10_byteAt 18 = .ok (.sipush 255, 3) := by decide +kernel
theorem d_cX10_byteAt_21 : decode cX10_byteAt 21 = .ok (.iand, 1) := by decide +kernel
theorem d_cX10_byteAt_22 : decode cX10_byteAt 22 = .ok (.goto 4, 3) := by decide +kernel
theorem d_cX10_byteAt_25 : decode cX10_byteAt 25 = .ok (.iconst (-1), 1) := by decide +kernel
theorem d_cX10_byteAt_26 : decode cX10_byteAt 26 = .ok (.ireturn, 1) := by decide +kernel
theorem d_cX10_cutTo_0 : decode cX10_cutTo 0 = .ok (.aload_n 0, 1) := by decide +kernel
theorem d_cX10_cutTo_1 : decode cX10_cutTo 1 = .ok (.iconst 0, 1) := by decide +kernel
theorem d_cX10_cutTo_2 : decode cX10_cutTo 2 = .ok (.iload_n 1, 1) := by decide +kernel
theorem d_cX10_cutTo_3 : decode cX10_cutTo 3 = .ok (.aload_n 0, 1) := by decide +kernel
theorem d_cX10_cutTo_4 : decode cX10_cutTo 4 = .ok (.getfield 15, 3) := by decide +kernel
theorem d_cX10_cutTo_7 : decode cX10_cutTo 7 = .ok (.invokestatic 19, 3) := by decide +kernel
theorem d_cX10_cutTo_10 : decode cX10_cutTo 10 = .ok (.invokestatic 25, 3) := by decide +kernel
theorem d_cX10_cutTo_13 : decode cX10_cutTo 13 = .ok (.putfield 15, 3) := by decide +kernel
theorem d_cX10_cutTo_16 : decode cX10_cutTo 16 = .ok (.return_, 1) := by decide +kernel
theorem d_cX10_hasRoom_0 : decode cX10_hasRoom 0 = .ok (.aload_n 0, 1) := by decide +kernel
theorem d_cX10_hasRoom_1 : decode cX10_hasRoom 1 = .ok (.getfield 15, 3) := by decide +kernel
theorem d_cX10_hasRoom_4 : decode cX10_hasRoom 4 = .ok (.iload_n 1, 1) := by decide +kernel
theorem d_cX10_hasRoom_5 : decode cX10_hasRoom 5 = .ok (.iadd, 1) := by decide +kernel
theorem d_cX10_hasRoom_6 : decode cX10_hasRoom 6 = .ok (.aload_n 0, 1) := by decide +kernel
theorem d_cX10_hasRoom_7 : decode cX10_hasRoom 7 = .ok (.getfield 9, 3) := by decide +kernel
theorem d_cX10_hasRoom_10 : decode cX10_hasRoom 10 = .ok (.arraylength, 1) := by decide +kernel
theorem d_cX10_hasRoom_11 : decode cX10_hasRoom 11 = .ok (.if_icmp .gt 7, 3) := by decide +kernel
theorem d_cX10_hasRoom_14 : decode cX10_hasRoom 14 = .ok (.iconst 1, 1) := by decide +kernel
theorem d_cX10_hasRoom_15 : decode cX10_hasRoom 15 = .ok (.goto 4, 3) := by decide +kernel
theorem d_cX10_hasRoom_18 : decode cX10_hasRoom 18 = .ok (.iconst 0, 1) := by decide +kernel
theorem d_cX10_hasRoom_19 : decode cX10_hasRoom 19 = .ok (.ireturn, 1) := by decide +kernel
theorem d_cX10_intAt_0 : decode cX10_intAt 0 = .ok (.iconst 0, 1) := by decide +kernel
theorem d_cX10_intAt_1 : decode cX10_intAt 1 = .ok (.istore_n 2, 1) := by decide +kernel
theorem d_cX10_intAt_2 : decode cX10_intAt 2 = .ok (.iconst 0, 1) := by decide +kernel
theorem d_cX10_intAt_3 : decode cX10_intAt 3 = .ok (.istore_n 3, 1) := by decide +kernel
theorem d_cX10_intAt_4 : decode cX10_intAt 4 = .ok (.iload_n 3, 1) := by decide +kernel
theorem d_cX10_intAt_5 : decode cX10_intAt 5 = .ok (.iconst 4, 1) := by decide +kernel
theorem d_cX10_intAt_6 : decode cX10_intAt 6 = .ok (.if_icmp .ge 26, 3) := by decide +kernel
theorem d_cX10_intAt_9 : decode cX10_intAt 9 = .ok (.iload_n 2, 1) := by decide +kernel
theorem d_cX10_intAt_10 : decode cX10_intAt 10 = .ok (.bipush 8, 2) := by decide +kernel
theorem d_cX10_intAt_12 : decode cX10_intAt 12 = .ok (.ishl, 1) := by decide +kernel
theorem d_cX10_intAt_13 : decode cX10_intAt 13 = .ok (.aload_n 0, 1) := by decide +kernel
theorem d_cX10_intAt_14 : decode cX10_intAt 14 = .ok (.iload_n 1, 1) := by decide +kernel
theorem d_cX10_intAt_15 : decode cX10_intAt 15 = .ok (.iload_n 3, 1) := by decide +kernel
theorem d_cX10_intAt_16 : decode cX10_intAt 16 = .ok (.iadd, 1) := by decide +kernel
theorem d_cX10_intAt_17 : decode cX10_intAt 17 = .ok (.invokevirtual 28, 3) := by decide +kernel
theorem d_cX10_intAt_20 : decode cX10_intAt 20 = .ok (.sipush 255, 3) := by decide +kernel
theorem d_cX10_intAt_23 : decode cX10_intAt 23 = .ok (.iand, 1) := by decide +kernel
theorem d_cX10_intAt_24 : decode cX10_intAt 24 = .ok (.ior, 1) := by decide +kernel
theorem d_cX10_intAt_25 : decode cX10_intAt 25 = .ok (.istore_n 2, 1) := by decide +kernel
theorem d_cX10_intAt_26 : decode cX10_intAt 26 = .ok (.iinc 3 1, 3) := by decide +kernel
theorem d_cX10_intAt_29 : decode cX10_intAt 29 = .ok (.goto (-25), 3) := by decide +kernel
theorem d_cX10_intAt_32 : decode cX10_intAt 32 = .ok (.iload_n 2, 1) := by decide +kernel
theorem d_cX10_intAt_33 : decode cX10_intAt 33 = .ok (.ireturn, 1) := by decide +kernel
theorem d_cX10_size_0 : decode cX10_size 0 = .ok (.aload_n 0, 1) := by decide +kernel
theorem d_cX10_size_1 : decode cX10_size 1 = .ok (.getfield 15, 3) := by decide +kernel
theorem d_cX10_size_4 : decode cX10_size 4 = .ok (.ireturn, 1) := by decide +kernel
theorem d_cX9_isDigit_0 : decode cX9_isDigit 0 = .ok (.iload_n 0, 1) := by decide +kernel
theorem d_cX9_isDigit_1 : decode cX9_isDigit 1 = .ok (.bipush 48, 2) := by decide +kernel
theorem d_cX9_isDigit_3 : decode cX9_isDigit 3 = .ok (.if_icmp .lt 13, 3) := by decide +kernel
theorem d_cX9_isDigit_6 : decode cX9_isDigit 6 = .ok (.iload_n 0, 1) := by decide +kernel
theorem d_cX9_isDigit_7 : decode cX9_isDigit 7 = .ok (.bipush 57, 2) := by decide +kernel
theorem d_cX9_isDigit_9 : decode cX9_isDigit 9 = .ok (.if_icmp .gt 7, 3) := by decide +kernel
theorem d_cX9_isDigit_12 : decode cX9_isDigit 12 = .ok (.iconst 1, 1) := by decide +kernel
theorem d_cX9_isDigit_13 : decode cX9_isDigit 13 = .ok (.goto 4, 3) := by decide +kernel
theorem d_cX9_isDigit_16 : decode cX9_isDigit 16 = .ok (.iconst 0, 1) := by decide +kernel
theorem d_cX9_isDigit_17 : decode cX9_isDigit 17 = .ok (.ireturn, 1) := by decide +kernel
theorem d_cX9_isLetter_0 : decode cX9_isLetter 0 = .ok (.iload_n 0, 1) := by decide +kernel
theorem d_cX9_isLetter_1 : decode cX9_isLetter 1 = .ok (.bipush 97, 2) := by decide +kernel
theorem d_cX9_isLetter_3 : decode cX9_isLetter 3 = .ok (.if_icmp .lt 13, 3) := by decide +kernel
theorem d_cX9_isLetter_6 : decode cX9_isLetter 6 = .ok (.iload_n 0, 1) := by decide +kernel
theorem d_cX9_isLetter_7 : decode cX9_isLetter 7 = .ok (.bipush 122, 2) := by decide +kernel
theorem d_cX9_isLetter_9 : decode cX9_isLetter 9 = .ok (.if_icmp .gt 7, 3) := by decide +kernel
theorem d_cX9_isLetter_12 : decode cX9_isLetter 12 = .ok (.iconst 1, 1) := by decide +kernel
theorem d_cX9_isLetter_13 : decode cX9_isLetter 13 = .ok (.goto 4, 3) := by decide +kernel
theorem d_cX9_isLetter_16 : decode cX9_isLetter 16 = .ok (.iconst 0, 1) := by decide +kernel
theorem d_cX9_isLetter_17 : decode cX9_isLetter 17 = .ok (.ireturn, 1) := by decide +kernel
theorem d_cX9_kind_0 : decode cX9_kind 0 = .ok (.aload_n 0, 1) := by decide +kernel
theorem d_cX9_kind_1 : decode cX9_kind 1 = .ok (.getfield 15, 3) := by decide +kernel
theorem d_cX9_kind_4 : decode cX9_kind 4 = .ok (.ireturn, 1) := by decide +kernel
theorem d_cX9_place_0 : decode cX9_place 0 = .ok (.aload_n 0, 1) := by decide +kernel
theorem d_cX9_place_1 : decode cX9_place 1 = .ok (.getfield 22, 3) := by decide +kernel
theorem d_cX9_place_4 : decode cX9_place 4 = .ok (.ireturn, 1) := by decide +kernel
theorem d_cX9_skipBlanks_0 : decode cX9_skipBlanks 0 = .ok (.iconst 0, 1) := by decide +kernel
theorem d_cX9_skipBlanks_1 : decode cX9_skipBlanks 1 = .ok (.istore_n 2, 1) := by decide +kernel
theorem d_cX9_skipBlanks_2 : decode cX9_skipBlanks 2 = .ok (.iload_n 1, 1) := by decide +kernel
theorem d_cX9_skipBlanks_3 : decode cX9_skipBlanks 3 = .ok (.istore_n 3, 1) := by decide +kernel
theorem d_cX9_skipBlanks_4 : decode cX9_skipBlanks 4 = .ok (.iload_n 3, 1) := by decide +kernel
theorem d_cX9_skipBlanks_5 : decode cX9_skipBlanks 5 = .ok (.aload_n 0, 1) := by decide +kernel
theorem d_cX9_skipBlanks_6 : decode cX9_skipBlanks 6 = .ok (.getfield 9, 3) := by decide +kernel
theorem d_cX9_skipBlanks_9 : decode cX9_skipBlanks 9 = .ok (.invokevirtual 61, 3) := by decide +kernel
theorem d_cX9_skipBlanks_12 : decode cX9_skipBlanks 12 = .ok (.if_icmp .ge 77, 3) := by decide +kernel
theorem d_cX9_skipBlanks_15 : decode cX9_skipBlanks 15 = .ok (.aload_n 0, 1) := by decide +kernel
theorem d_cX9_skipBlanks_16 : decode cX9_skipBlanks 16 = .ok (.getfield 9, 3) := by decide +kernel
theorem d_cX9_skipBlanks_19 : decode cX9_skipBlanks 19 = .ok (.iload_n 3, 1) := by decide +kernel
theorem d_cX9_skipBlanks_20 : decode cX9_skipBlanks 20 = .ok (.invokevirtual 35, 3) := by decide +kernel
theorem d_cX9_skipBlanks_23 : decode cX9_skipBlanks 23 = .ok (.istore 4, 2) := by decide +kernel
theorem d_cX9_skipBlanks_25 : decode cX9_skipBlanks 25 = .ok (.iload 4, 2) := by decide +kernel
theorem d_cX9_skipBlanks_27 : decode cX9_skipBlanks 27 = .ok (.bipush 10, 2) := by decide +kernel
theorem d_cX9_skipBlanks_29 : decode cX9_skipBlanks 29 = .ok (.if_icmp .eq 18, 3) := by decide +kernel
theorem d_cX9_skipBlanks_32 : decode cX9_skipBlanks 32 = .ok (.iload_n 2, 1) := by decide +kernel
theorem d_cX9_skipBlanks_33 : decode cX9_skipBlanks 33 = .ok (.ifCond .ne 10, 3) := by decide +kernel
theorem d_cX9_skipBlanks_36 : decode cX9_skipBlanks 36 = .ok (.iload 4, 2) := by decide +kernel
theorem d_cX9_skipBlanks_38 : decode cX9_skipBlanks 38 = .ok (.bipush 59, 2) := by decide +kernel
theorem d_cX9_skipBlanks_40 : decode cX9_skipBlanks 40 = .ok (.if_icmp .ne 7, 3) := by decide +kernel
theorem d_cX9_skipBlanks_43 : decode cX9_skipBlanks 43 = .ok (.iconst 1, 1) := by decide +kernel
theorem d_cX9_skipBlanks_44 : decode cX9_skipBlanks 44 = .ok (.goto 4, 3) := by decide +kernel
theorem d_cX9_skipBlanks_47 : decode cX9_skipBlanks 47 = .ok (.iconst 0, 1) := by decide +kernel
theorem d_cX9_skipBlanks_48 : decode cX9_skipBlanks 48 = .ok (.istore_n 2, 1) := by decide +kernel
theorem d_cX9_skipBlanks_49 : decode cX9_skipBlanks 49 = .ok (.iload_n 2, 1) := by decide +kernel
theorem d_cX9_skipBlanks_50 : decode cX9_skipBlanks 50 = .ok (.ifCond .ne 33, 3) := by decide +kernel
theorem d_cX9_skipBlanks_53 : decode cX9_skipBlanks 53 = .ok (.iload 4, 2) := by decide +kernel
theorem d_cX9_skipBlanks_55 : decode cX9_skipBlanks 55 = .ok (.bipush 9, 2) := by decide +kernel
theorem d_cX9_skipBlanks_57 : decode cX9_skipBlanks 57 = .ok (.if_icmp .eq 26, 3) := by decide +kernel
theorem d_cX9_skipBlanks_60 : decode cX9_skipBlanks 60 = .ok (.iload 4, 2) := by decide +kernel
theorem d_cX9_skipBlanks_62 : decode cX9_skipBlanks 62 = .ok (.bipush 10, 2) := by decide +kernel
theorem d_cX9_skipBlanks_64 : decode cX9_skipBlanks 64 = .ok (.if_icmp .eq 19, 3) := by decide +kernel
theorem d_cX9_skipBlanks_67 : decode cX9_skipBlanks 67 = .ok (.iload 4, 2) := by decide +kernel
theorem d_cX9_skipBlanks_69 : decode cX9_skipBlanks 69 = .ok (.bipush 13, 2) := by decide +kernel
theorem d_cX9_skipBlanks_71 : decode cX9_skipBlanks 71 = .ok (.if_icmp .eq 12, 3) := by decide +kernel
theorem d_cX9_skipBlanks_74 : decode cX9_skipBlanks 74 = .ok (.iload 4, 2) := by decide +kernel
theorem d_cX9_skipBlanks_76 : decode cX9_skipBlanks 76 = .ok (.bipush 32, 2) := by decide +kernel
theorem d_cX9_skipBlanks_78 : decode cX9_skipBlanks 78 = .ok (.if_icmp .eq 5, 3) := by decide +kernel
theorem d_cX9_skipBlanks_81 : decode cX9_skipBlanks 81 = .ok (.iload_n 3, 1) := by decide +kernel
theorem d_cX9_skipBlanks_82 : decode cX9_skipBlanks 82 = .ok (.ireturn, 1) := by decide +kernel
theorem d_cX9_skipBlanks_83 : decode cX9_skipBlanks 83 = .ok (.iinc 3 1, 3) := by decide +kernel
theorem d_cX9_skipBlanks_86 : decode cX9_skipBlanks 86 = .ok (.goto (-82), 3) := by decide +kernel
theorem d_cX9_skipBlanks_89 : decode cX9_skipBlanks 89 = .ok (.aload_n 0, 1) := by decide +kernel
theorem d_cX9_skipBlanks_90 : decode cX9_skipBlanks 90 = .ok (.getfield 9, 3) := by decide +kernel
theorem d_cX9_skipBlanks_93 : decode cX9_skipBlanks 93 = .ok (.invokevirtual 61, 3) := by decide +kernel
theorem d_cX9_skipBlanks_96 : decode cX9_skipBlanks 96 = .ok (.ireturn, 1) := by decide +kernel
theorem d_cX9_takeDigits_0 : decode cX9_takeDigits 0 = .ok (.lconst 0, 1) := by decide +kernel
theorem d_cX9_takeDigits_1 : decode cX9_takeDigits 1 = .ok (.lstore_n 2, 1) := by decide +kernel
theorem d_cX9_takeDigits_2 : decode cX9_takeDigits 2 = .ok (.iload_n 1, 1) := by decide +kernel
theorem d_cX9_takeDigits_3 : decode cX9_takeDigits 3 = .ok (.istore 4, 2) := by decide +kernel
theorem d_cX9_takeDigits_5 : decode cX9_takeDigits 5 = .ok (.iload 4, 2) := by decide +kernel
theorem d_cX9_takeDigits_7 : decode cX9_takeDigits 7 = .ok (.aload_n 0, 1) := by decide +kernel
theorem d_cX9_takeDigits_8 : decode cX9_takeDigits 8 = .ok (.getfield 9, 3) := by decide +kernel
theorem d_cX9_takeDigits_11 : decode cX9_takeDigits 11 = .ok (.invokevirtual 61, 3) := by decide +kernel
theorem d_cX9_takeDigits_14 : decode cX9_takeDigits 14 = .ok (.if_icmp .ge 51, 3) := by decide +kernel
theorem d_cX9_takeDigits_17 : decode cX9_takeDigits 17 = .ok (.aload_n 0, 1) := by decide +kernel
theorem d_cX9_takeDigits_18 : decode cX9_takeDigits 18 = .ok (.getfield 9, 3) := by decide +kernel
theorem d_cX9_takeDigits_21 : decode cX9_takeDigits 21 = .ok (.iload 4, 2) := by decide +kernel
theorem d_cX9_takeDigits_23 : decode cX9_takeDigits 23 = .ok (.invokevirtual 35, 3) := by decide +kernel
theorem d_cX9_takeDigits_26 : decode cX9_takeDigits 26 = .ok (.invokestatic 40, 3) := by decide +kernel
theorem d_cX9_takeDigits_29 : decode cX9_takeDigits 29 = .ok (.ifCond .eq 36, 3) := by decide +kernel
theorem d_cX9_takeDigits_32 : decode cX9_takeDigits 32 = .ok (.lload_n 2, 1) := by decide +kernel
theorem d_cX9_takeDigits_33 : decode cX9_takeDigits 33 = .ok (.ldc2_w 69, 3) := by decide +kernel
theorem d_cX9_takeDigits_36 : decode cX9_takeDigits 36 = .ok (.lmul, 1) := by decide +kernel
theorem d_cX9_takeDigits_37 : decode cX9_takeDigits 37 = .ok (.aload_n 0, 1) := by decide +kernel
theorem d_cX9_takeDigits_38 : decode cX9_takeDigits 38 = .ok (.getfield 9, 3) := by decide +kernel
theorem d_cX9_takeDigits_41 : decode cX9_takeDigits 41 = .ok (.iload 4, 2) := by decide +kernel
theorem d_cX9_takeDigits_43 : decode cX9_takeDigits 43 = .ok (.invokevirtual 35, 3) := by decide +kernel
theorem d_cX9_takeDigits_46 : decode cX9_takeDigits 46 = .ok (.i2l, 1) := by decide +kernel
theorem d_cX9_takeDigits_47 : decode cX9_takeDigits 47 = .ok (.ladd, 1) := by decide +kernel
theorem d_cX9_takeDigits_48 : decode cX9_takeDigits 48 = .ok (.ldc2_w 71, 3) := by decide +kernel
theorem d_cX9_takeDigits_51 : decode cX9_takeDigits 51 = .ok (.lsub, 1) := by decide +kernel
theorem d_cX9_takeDigits_52 : decode cX9_takeDigits 52 = .ok (.ldc2_w 73, 3) := by decide +kernel
theorem d_cX9_takeDigits_55 : decode cX9_takeDigits 55 = .ok (.invokestatic 75, 3) := by decide +kernel
theorem d_cX9_takeDigits_58 : decode cX9_takeDigits 58 = .ok (.lstore_n 2, 1) := by decide +kernel
theorem d_cX9_takeDigits_59 : decode cX9_takeDigits 59 = .ok (.iinc 4 1, 3) := by decide +kernel
theorem d_cX9_takeDigits_62 : decode cX9_takeDigits 62 = .ok (.goto (-57), 3) := by decide +kernel
theorem d_cX9_takeDigits_65 : decode cX9_takeDigits 65 = .ok (.aload_n 0, 1) := by decide +kernel
theorem d_cX9_takeDigits_66 : decode cX9_takeDigits 66 = .ok (.iload 4, 2) := by decide +kernel
theorem d_cX9_takeDigits_68 : decode cX9_takeDigits 68 = .ok (.putfield 25, 3) := by decide +kernel
theorem d_cX9_takeDigits_71 : decode cX9_takeDigits 71 = .ok (.lload_n 2, 1) := by decide +kernel
theorem d_cX9_takeDigits_72 : decode cX9_takeDigits 72 = .ok (.lreturn, 1) := by decide +kernel
theorem d_cX9_takeNamed_0 : decode cX9_takeNamed 0 = .ok (.aload_n 0, 1) := by decide +kernel
theorem d_cX9_takeNamed_1 : decode cX9_takeNamed 1 = .ok (.aload_n 0, 1) := by decide +kernel
theorem d_cX9_takeNamed_2 : decode cX9_takeNamed 2 = .ok (.getfield 22, 3) := by decide +kernel
theorem d_cX9_takeNamed_5 : decode cX9_takeNamed 5 = .ok (.iconst 1, 1) := by decide +kernel
theorem d_cX9_takeNamed_6 : decode cX9_takeNamed 6 = .ok (.iadd, 1) := by decide +kernel
theorem d_cX9_takeNamed_7 : decode cX9_takeNamed 7 = .ok (.invokevirtual 65, 3) := by decide +kernel
theorem d_cX9_takeNamed_10 : decode cX9_takeNamed 10 = .ok (.lstore_n 3, 1) := by decide +kernel
theorem d_cX9_takeNamed_11 : decode cX9_takeNamed 11 = .ok (.aload_n 0, 1) := by decide +kernel
theorem d_cX9_takeNamed_12 : decode cX9_takeNamed 12 = .ok (.lload_n 3, 1) := by decide +kernel
theorem d_cX9_takeNamed_13 : decode cX9_takeNamed 13 = .ok (.l2i, 1) := by decide +kernel
theorem d_cX9_takeNamed_14 : decode cX9_takeNamed 14 = .ok (.putfield 19, 3) := by decide +kernel
theorem d_cX9_takeNamed_17 : decode cX9_takeNamed 17 = .ok (.aload_n 0, 1) := by decide +kernel
theorem d_cX9_takeNamed_18 : decode cX9_takeNamed 18 = .ok (.lload_n 3, 1) := by decide +kernel
theorem d_cX9_takeNamed_19 : decode cX9_takeNamed 19 = .ok (.iload_n 2, 1) := by decide +kernel
theorem d_cX9_takeNamed_20 : decode cX9_takeNamed 20 = .ok (.i2l, 1) := by decide +kernel
theorem d_cX9_takeNamed_21 : decode cX9_takeNamed 21 = .ok (.lcmp, 1) := by decide +kernel
theorem d_cX9_takeNamed_22 : decode cX9_takeNamed 22 = .ok (.ifCond .ge 7, 3) := by decide +kernel
theorem d_cX9_takeNamed_25 : decode cX9_takeNamed 25 = .ok (.iload_n 1, 1) := by decide +kernel
theorem d_cX9_takeNamed_26 : decode cX9_takeNamed 26 = .ok (.goto 4, 3) := by decide +kernel
theorem d_cX9_takeNamed_29 : decode cX9_takeNamed 29 = .ok (.iconst 0, 1) := by decide +kernel
theorem d_cX9_takeNamed_30 : decode cX9_takeNamed 30 = .ok (.putfield 15, 3) := by decide +kernel
theorem d_cX9_takeNamed_33 : decode cX9_takeNamed 33 = .ok (.return_, 1) := by decide +kernel
theorem d_cX9_takeNumber_0 : decode cX9_takeNumber 0 = .ok (.aload_n 0, 1) := by decide +kernel
theorem d_cX9_takeNumber_1 : decode cX9_takeNumber 1 = .ok (.iload_n 1, 1) := by decide +kernel
theorem d_cX9_takeNumber_2 : decode cX9_takeNumber 2 = .ok (.ifCond .eq 12, 3) := by decide +kernel
theorem d_cX9_takeNumber_5 : decode cX9_takeNumber 5 = .ok (.aload_n 0, 1) := by decide +kernel
theorem d_cX9_takeNumber_6 : decode cX9_takeNumber 6 = .ok (.getfield 22, 3) := by decide +kernel
theorem d_cX9_takeNumber_9 : decode cX9_takeNumber 9 = .ok (.iconst 1, 1) := by decide +kernel
theorem d_cX9_takeNumber_10 : decode cX9_takeNumber 10 = .ok (.iadd, 1) := by decide +kernel
theorem d_cX9_takeNumber_11 : decode cX9_takeNumber 11 = .ok (.goto 7, 3) := by decide +kernel
theorem d_cX9_takeNumber_14 : decode cX9_takeNumber 14 = .ok (.aload_n 0, 1) := by decide +kernel
theorem d_cX9_takeNumber_15 : decode cX9_takeNumber 15 = .ok (.getfield 22, 3) := by decide +kernel
theorem d_cX9_takeNumber_18 : decode cX9_takeNumber 18 = .ok (.invokevirtual 65, 3) := by decide +kernel
theorem d_cX9_takeNumber_21 : decode cX9_takeNumber 21 = .ok (.lstore_n 2, 1) := by decide +kernel
theorem d_cX9_takeNumber_22 : decode cX9_takeNumber 22 = .ok (.iload_n 1, 1) := by decide +kernel
theorem d_cX9_takeNumber_23 : decode cX9_takeNumber 23 = .ok (.ifCond .eq 8, 3) := by decide +kernel
theorem d_cX9_takeNumber_26 : decode cX9_takeNumber 26 = .ok (.lload_n 2, 1) := by decide +kernel
theorem d_cX9_takeNumber_27 : decode cX9_takeNumber 27 = .ok (.lneg, 1) := by decide +kernel
theorem d_cX9_takeNumber_28 : decode cX9_takeNumber 28 = .ok (.goto 4, 3) := by decide +kernel
theorem d_cX9_takeNumber_31 : decode cX9_takeNumber 31 = .ok (.lload_n 2, 1) := by decide +kernel
theorem d_cX9_takeNumber_32 : decode cX9_takeNumber 32 = .ok (.lstore 4, 2) := by decide +kernel
theorem d_cX9_takeNumber_34 : decode cX9_takeNumber 34 = .ok (.aload_n 0, 1) := by decide +kernel
theorem d_cX9_takeNumber_35 : decode cX9_takeNumber 35 = .ok (.lload 4, 2) := by decide +kernel
theorem d_cX9_takeNumber_37 : decode cX9_takeNumber 37 = .ok (.l2i, 1) := by decide +kernel
theorem d_cX9_takeNumber_38 : decode cX9_takeNumber 38 = .ok (.putfield 19, 3) := by decide +kernel
theorem d_cX9_takeNumber_41 : decode cX9_takeNumber 41 = .ok (.aload_n 0, 1) := by decide +kernel
theorem d_cX9_takeNumber_42 : decode cX9_takeNumber 42 = .ok (.aload_n 0, 1) := by decide +kernel
theorem d_cX9_takeNumber_43 : decode cX9_takeNumber 43 = .ok (.getfield 19, 3) := by decide +kernel
theorem d_cX9_takeNumber_46 : decode cX9_takeNumber 46 = .ok (.i2l, 1) := by decide +kernel
theorem d_cX9_takeNumber_47 : decode cX9_takeNumber 47 = .ok (.lload 4, 2) := by decide +kernel
theorem d_cX9_takeNumber_49 : decode cX9_takeNumber 49 = .ok (.lcmp, 1) := by decide +kernel
theorem d_cX9_takeNumber_50 : decode cX9_takeNumber 50 = .ok (.ifCond .ne 7, 3) := by decide +kernel
theorem d_cX9_takeNumber_53 : decode cX9_takeNumber 53 = .ok (.iconst 4, 1) := by decide +kernel
theorem d_cX9_takeNumber_54 : decode cX9_takeNumber 54 = .ok (.goto 4, 3) := by decide +kernel
theorem d_cX9_takeNumber_57 : decode cX9_takeNumber 57 = .ok (.iconst 0, 1) := by decide +kernel
theorem d_cX9_takeNumber_58 : decode cX9_takeNumber 58 = .ok (.putfield 15, 3) := by decide +kernel
theorem d_cX9_takeNumber_61 : decode cX9_takeNumber 61 = .ok (.return_, 1) := by decide +kernel
theorem d_cX9_value_0 : decode cX9_value 0 = .ok (.aload_n 0, 1) := by decide +kernel
theorem d_cX9_value_1 : decode cX9_value 1 = .ok (.getfield 19, 3) := by decide +kernel
theorem d_cX9_value_4 : decode cX9_value 4 = .ok (.ireturn, 1) := by decide +kernel
