theorem dr_cX17_back_0 : decode cX17_back 0 = .ok (.aload_n 1, 1) := by decide +kernel
theorem dr_cX17_back_1 : decode cX17_back 1 = .ok (.iload_n 2, 1) := by decide +kernel
theorem dr_cX17_back_2 : decode cX17_back 2 = .ok (.invokestatic 55, 3) := by decide +kernel
theorem wr_10_174 : (Jvm.Cond.methodLink "SpillForgeModel" (55 : Nat) ({ cls := "SpillForgeModel", name := "setOf", desc := "(LSpillForgeModel$Row;Z)I" } : Jvm.MethodName)) ∈ gw := gw_10 174 rfl rfl
theorem wr_1_14 : (Jvm.Cond.initialized "SpillForgeModel") ∈ gw := gw_1 14 rfl rfl
theorem wr_10_176 : (Jvm.Cond.code ({ cls := "SpillForgeModel", name := "setOf", desc := "(LSpillForgeModel$Row;Z)I" } : Jvm.MethodName) prog_14_method_6_code (2 : Nat) (Option.some Jvm.ClassFile.FieldType.int)) ∈ gw := gw_10 176 rfl rfl
theorem wr_10_175 : (Jvm.Cond.static ({ cls := "SpillForgeModel", name := "setOf", desc := "(LSpillForgeModel$Row;Z)I" } : Jvm.MethodName)) ∈ gw := gw_10 175 rfl rfl
theorem dr_cX17_back_5 : decode cX17_back 5 = .ok (.istore_n 3, 1) := by decide +kernel
theorem dr_cX17_back_6 : decode cX17_back 6 = .ok (.iload_n 3, 1) := by decide +kernel
theorem dr_cX17_back_7 : decode cX17_back 7 = .ok (.ifCond .lt 11, 3) := by decide +kernel
theorem dr_cX17_back_18 : decode cX17_back 18 = .ok (.iload_n 2, 1) := by decide +kernel
theorem dr_cX17_back_19 : decode cX17_back 19 = .ok (.ifCond .eq 24, 3) := by decide +kernel
theorem dr_cX17_back_43 : decode cX17_back 43 = .ok (.aload_n 1, 1) := by decide +kernel
theorem dr_cX17_back_44 : decode cX17_back 44 = .ok (.invokevirtual 70, 3) := by decide +kernel
theorem wr_10_188 : (Jvm.Cond.methodLink "SpillForgeModel" (70 : Nat) ({ cls := "SpillForgeModel$Row", name := "usesA", desc := "()Z" } : Jvm.MethodName)) ∈ gw := gw_10 188 rfl rfl
theorem wr_10_191 : (Jvm.Cond.code ({ cls := "SpillForgeModel$Row", name := "usesA", desc := "()Z" } : Jvm.MethodName) prog_18_method_3_code (1 : Nat) (Option.some Jvm.ClassFile.FieldType.boolean)) ∈ gw := gw_10 191 rfl rfl
theorem wr_10_189 : (Jvm.Cond.instanceMethod ({ cls := "SpillForgeModel$Row", name := "usesA", desc := "()Z" } : Jvm.MethodName)) ∈ gw := gw_10 189 rfl rfl
theorem wr_10_190 : (Jvm.Cond.selects "SpillForgeModel$Row" ({ cls := "SpillForgeModel$Row", name := "usesA", desc := "()Z" } : Jvm.MethodName) ({ cls := "SpillForgeModel$Row", name := "usesA", desc := "()Z" } : Jvm.MethodName)) ∈ gw := gw_10 190 rfl rfl
theorem dr_cX17_back_47 : decode cX17_back 47 = .ok (.ifCond .eq 14, 3) := by decide +kernel
theorem dr_cX17_back_61 : decode cX17_back 61 = .ok (.aload_n 1, 1) := by decide +kernel
theorem dr_cX17_back_62 : decode cX17_back 62 = .ok (.invokevirtual 76, 3) := by decide +kernel
theorem wr_10_192 : (Jvm.Cond.methodLink "SpillForgeModel" (76 : Nat) ({ cls := "SpillForgeModel$Row", name := "usesB", desc := "()Z" } : Jvm.MethodName)) ∈ gw := gw_10 192 rfl rfl
theorem wr_10_195 : (Jvm.Cond.code ({ cls := "SpillForgeModel$Row", name := "usesB", desc := "()Z" } : Jvm.MethodName) prog_18_method_4_code (1 : Nat) (Option.some Jvm.ClassFile.FieldType.boolean)) ∈ gw := gw_10 195 rfl rfl
theorem wr_10_193 : (Jvm.Cond.instanceMethod ({ cls := "SpillForgeModel$Row", name := "usesB", desc := "()Z" } : Jvm.MethodName)) ∈ gw := gw_10 193 rfl rfl
theorem wr_10_194 : (Jvm.Cond.selects "SpillForgeModel$Row" ({ cls := "SpillForgeModel$Row", name := "usesB", desc := "()Z" } : Jvm.MethodName) ({ cls := "SpillForgeModel$Row", name := "usesB", desc := "()Z" } : Jvm.MethodName)) ∈ gw := gw_10 194 rfl rfl
theorem dr_cX17_back_65 : decode cX17_back 65 = .ok (.ifCond .eq 14, 3) := by decide +kernel
theorem dr_cX17_back_79 : decode cX17_back 79 = .ok (.return_, 1) := by decide +kernel
theorem dr_cX17_back_68 : decode cX17_back 68 = .ok (.aload_n 0, 1) := by decide +kernel
theorem dr_cX17_back_69 : decode cX17_back 69 = .ok (.getfield 59, 3) := by decide +kernel
theorem wr_7_76 : (Jvm.Cond.fieldLink "SpillForgeModel" (59 : Nat) "SpillForgeModel" "now" "[J") ∈ gw := gw_7 76 rfl rfl
theorem dr_cX17_back_72 : decode cX17_back 72 = .ok (.aload_n 1, 1) := by decide +kernel
theorem dr_cX17_back_73 : decode cX17_back 73 = .ok (.getfield 79, 3) := by decide +kernel
theorem wr_9_186 : (Jvm.Cond.fieldLink "SpillForgeModel" (79 : Nat) "SpillForgeModel$Row" "b" "I") ∈ gw := gw_9 186 rfl rfl
theorem dr_cX17_back_76 : decode cX17_back 76 = .ok (.invokestatic 67, 3) := by decide +kernel
theorem wr_10_185 : (Jvm.Cond.methodLink "SpillForgeModel" (67 : Nat) ({ cls := "SpillForgeModel", name := "set", desc := "([JI)V" } : Jvm.MethodName)) ∈ gw := gw_10 185 rfl rfl
theorem wr_10_187 : (Jvm.Cond.code ({ cls := "SpillForgeModel", name := "set", desc := "([JI)V" } : Jvm.MethodName) prog_14_method_3_code (2 : Nat) (Option.none : Option Jvm.ClassFile.FieldType)) ∈ gw := gw_10 187 rfl rfl
theorem wr_10_186 : (Jvm.Cond.static ({ cls := "SpillForgeModel", name := "set", desc := "([JI)V" } : Jvm.MethodName)) ∈ gw := gw_10 186 rfl rfl
theorem dr_cX17_back_50 : decode cX17_back 50 = .ok (.aload_n 0, 1) := by decide +kernel
theorem dr_cX17_back_51 : decode cX17_back 51 = .ok (.getfield 59, 3) := by decide +kernel
theorem dr_cX17_back_54 : decode cX17_back 54 = .ok (.aload_n 1, 1) := by decide +kernel
theorem dr_cX17_back_55 : decode cX17_back 55 = .ok (.getfield 73, 3) := by decide +kernel
theorem wr_9_182 : (Jvm.Cond.fieldLink "SpillForgeModel" (73 : Nat) "SpillForgeModel$Row" "a" "I") ∈ gw := gw_9 182 rfl rfl
theorem dr_cX17_back_58 : decode cX17_back 58 = .ok (.invokestatic 67, 3) := by decide +kernel
theorem dr_cX17_back_22 : decode cX17_back 22 = .ok (.aload_n 1, 1) := by decide +kernel
theorem dr_cX17_back_23 : decode cX17_back 23 = .ok (.getfield 39, 3) := by decide +kernel
theorem dr_cX17_back_26 : decode cX17_back 26 = .ok (.bipush 21, 2) := by decide +kernel
theorem dr_cX17_back_28 : decode cX17_back 28 = .ok (.if_icmp .ne 14, 3) := by decide +kernel
theorem dr_cX17_back_42 : decode cX17_back 42 = .ok (.return_, 1) := by decide +kernel
theorem dr_cX17_back_31 : decode cX17_back 31 = .ok (.aload_n 0, 1) := by decide +kernel
theorem dr_cX17_back_32 : decode cX17_back 32 = .ok (.getfield 59, 3) := by decide +kernel
theorem dr_cX17_back_35 : decode cX17_back 35 = .ok (.aload_n 1, 1) := by decide +kernel
theorem dr_cX17_back_36 : decode cX17_back 36 = .ok (.getfield 45, 3) := by decide +kernel
theorem dr_cX17_back_39 : decode cX17_back 39 = .ok (.invokestatic 67, 3) := by decide +kernel
theorem dr_cX17_back_10 : decode cX17_back 10 = .ok (.aload_n 0, 1) := by decide +kernel
theorem dr_cX17_back_11 : decode cX17_back 11 = .ok (.getfield 59, 3) := by decide +kernel
theorem dr_cX17_back_14 : decode cX17_back 14 = .ok (.iload_n 3, 1) := by decide +kernel
theorem dr_cX17_back_15 : decode cX17_back 15 = .ok (.invokestatic 63, 3) := by decide +kernel
theorem wr_10_181 : (Jvm.Cond.methodLink "SpillForgeModel" (63 : Nat) ({ cls := "SpillForgeModel", name := "clear", desc := "([JI)V" } : Jvm.MethodName)) ∈ gw := gw_10 181 rfl rfl
theorem wr_10_183 : (Jvm.Cond.code ({ cls := "SpillForgeModel", name := "clear", desc := "([JI)V" } : Jvm.MethodName) prog_14_method_4_code (2 : Nat) (Option.none : Option Jvm.ClassFile.FieldType)) ∈ gw := gw_10 183 rfl rfl
theorem wr_10_182 : (Jvm.Cond.static ({ cls := "SpillForgeModel", name := "clear", desc := "([JI)V" } : Jvm.MethodName)) ∈ gw := gw_10 182 rfl rfl
theorem dr_cX17_stand_0 : decode cX17_stand 0 = .ok (.aload_n 1, 1) := by decide +kernel
theorem dr_cX17_stand_1 : decode cX17_stand 1 = .ok (.iload_n 2, 1) := by decide +kernel
theorem dr_cX17_stand_2 : decode cX17_stand 2 = .ok (.invokestatic 55, 3) := by decide +kernel
theorem dr_cX17_stand_5 : decode cX17_stand 5 = .ok (.istore_n 3, 1) := by decide +kernel
theorem dr_cX17_stand_6 : decode cX17_stand 6 = .ok (.iload_n 3, 1) := by decide +kernel
theorem dr_cX17_stand_7 : decode cX17_stand 7 = .ok (.ifCond .lt 10, 3) := by decide +kernel
theorem dr_cX17_stand_17 : decode cX17_stand 17 = .ok (.iload_n 2, 1) := by decide +kernel
theorem dr_cX17_stand_18 : decode cX17_stand 18 = .ok (.ifCond .eq 23, 3) := by decide +kernel
theorem dr_cX17_stand_41 : decode cX17_stand 41 = .ok (.aload_n 1, 1) := by decide +kernel
theorem dr_cX17_stand_42 : decode cX17_stand 42 = .ok (.invokevirtual 70, 3) := by decide +kernel
theorem dr_cX17_stand_45 : decode cX17_stand 45 = .ok (.ifCond .eq 13, 3) := by decide +kernel
theorem dr_cX17_stand_58 : decode cX17_stand 58 = .ok (.aload_n 1, 1) := by decide +kernel
theorem dr_cX17_stand_59 : decode cX17_stand 59 = .ok (.invokevirtual 76, 3) := by decide +kernel
theorem dr_cX17_stand_62 : decode cX17_stand 62 = .ok (.ifCond .eq 13, 3) := by decide +kernel
theorem dr_cX17_stand_75 : decode cX17_stand 75 = .ok (.return_, 1) := by decide +kernel
theorem dr_cX17_stand_65 : decode cX17_stand 65 = .ok (.aload_n 0, 1) := by decide +kernel
theorem dr_cX17_stand_66 : decode cX17_stand 66 = .ok (.getfield 131, 3) := by decide +kernel
theorem wr_7_77 : (Jvm.Cond.fieldLink "SpillForgeModel" (131 : Nat) "SpillForgeModel" "stands" "[Z") ∈ gw := gw_7 77 rfl rfl
theorem dr_cX17_stand_69 : decode cX17_stand 69 = .ok (.aload_n 1, 1) := by decide +kernel
theorem dr_cX17_stand_70 : decode cX17_stand 70 = .ok (.getfield 79, 3) := by decide +kernel
theorem dr_cX17_stand_73 : decode cX17_stand 73 = .ok (.iconst 1, 1) := by decide +kernel
theorem dr_cX17_stand_74 : decode cX17_stand 74 = .ok (.bastore, 1) := by decide +kernel
theorem dr_cX17_stand_48 : decode cX17_stand 48 = .ok (.aload_n 0, 1) := by decide +kernel
theorem dr_cX17_stand_49 : decode cX17_stand 49 = .ok (.getfield 131, 3) := by decide +kernel
theorem dr_cX17_stand_52 : decode cX17_stand 52 = .ok (.aload_n 1, 1) := by decide +kernel
theorem dr_cX17_stand_53 : decode cX17_stand 53 = .ok (.getfield 73, 3) := by decide +kernel
theorem dr_cX17_stand_56 : decode cX17_stand 56 = .ok (.iconst 1, 1) := by decide +kernel
theorem dr_cX17_stand_57 : decode cX17_stand 57 = .ok (.bastore, 1) := by decide +kernel
theorem dr_cX17_stand_21 : decode cX17_stand 21 = .ok (.aload_n 1, 1) := by decide +kernel
theorem dr_cX17_stand_22 : decode cX17_stand 22 = .ok (.getfield 39, 3) := by decide +kernel
theorem dr_cX17_stand_25 : decode cX17_stand 25 = .ok (.bipush 21, 2) := by decide +kernel
theorem dr_cX17_stand_27 : decode cX17_stand 27 = .ok (.if_icmp .ne 13, 3) := by decide +kernel
theorem dr_cX17_stand_40 : decode cX17_stand 40 = .ok (.return_, 1) := by decide +kernel
theorem dr_cX17_stand_30 : decode cX17_stand 30 = .ok (.aload_n 0, 1) := by decide +kernel
theorem dr_cX17_stand_31 : decode cX17_stand 31 = .ok (.getfield 131, 3) := by decide +kernel
theorem dr_cX17_stand_34 : decode cX17_stand 34 = .ok (.aload_n 1, 1) := by decide +kernel
theorem dr_cX17_stand_35 : decode cX17_stand 35 = .ok (.getfield 45, 3) := by decide +kernel
theorem dr_cX17_stand_38 : decode cX17_stand 38 = .ok (.iconst 1, 1) := by decide +kernel
theorem dr_cX17_stand_39 : decode cX17_stand 39 = .ok (.bastore, 1) := by decide +kernel
theorem dr_cX17_stand_10 : decode cX17_stand 10 = .ok (.aload_n 0, 1) := by decide +kernel
theorem dr_cX17_stand_11 : decode cX17_stand 11 = .ok (.getfield 131, 3) := by decide +kernel
theorem dr_cX17_stand_14 : decode cX17_stand 14 = .ok (.iload_n 3, 1) := by decide +kernel
theorem dr_cX17_stand_15 : decode cX17_stand 15 = .ok (.iconst 1, 1) := by decide +kernel
theorem dr_cX17_stand_16 : decode cX17_stand 16 = .ok (.bastore, 1) := by decide +kernel