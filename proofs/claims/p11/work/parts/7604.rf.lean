theorem dr_cJx4a65c_init_da8c8_0 : decode cJx4a65c_init_da8c8 0 = .ok (.aload_n 0, 1) := by decide +kernel
theorem dr_cJx4a65c_init_da8c8_1 : decode cJx4a65c_init_da8c8 1 = .ok (.invokespecial 1, 3) := by decide +kernel
theorem wr_7_8 : (Jvm.Cond.methodLink "java/util/ArrayList" (1 : Nat) ({ cls := "java/util/AbstractList", name := "<init>", desc := "()V" } : Jvm.MethodName)) ∈ gw := gw_7 8 rfl rfl
theorem wr_1_17 : (Jvm.Cond.initialized "java/util/AbstractList") ∈ gw := gw_1 17 rfl rfl
theorem wr_7_10 : (Jvm.Cond.code ({ cls := "java/util/AbstractList", name := "<init>", desc := "()V" } : Jvm.MethodName) prog_42_method_1_code (1 : Nat) (Option.none : Option Jvm.ClassFile.FieldType)) ∈ gw := gw_7 10 rfl rfl
theorem wr_7_9 : (Jvm.Cond.instanceMethod ({ cls := "java/util/AbstractList", name := "<init>", desc := "()V" } : Jvm.MethodName)) ∈ gw := gw_7 9 rfl rfl
theorem dr_cJx4a65c_init_da8c8_4 : decode cJx4a65c_init_da8c8 4 = .ok (.aload_n 0, 1) := by decide +kernel
theorem dr_cJx4a65c_init_da8c8_5 : decode cJx4a65c_init_da8c8 5 = .ok (.getstatic 39, 3) := by decide +kernel
theorem dr_cJx4a65c_init_da8c8_8 : decode cJx4a65c_init_da8c8 8 = .ok (.putfield 9, 3) := by decide +kernel
theorem dr_cJx4a65c_init_da8c8_11 : decode cJx4a65c_init_da8c8 11 = .ok (.return_, 1) := by decide +kernel
theorem dr_cX15_sets_0 : decode cX15_sets 0 = .ok (.aload_n 0, 1) := by decide +kernel
theorem dr_cX15_sets_1 : decode cX15_sets 1 = .ok (.getfield 9, 3) := by decide +kernel
theorem wr_9_175 : (Jvm.Cond.fieldLink "SpillForgeModel$Row" (9 : Nat) "SpillForgeModel$Row" "op" "I") ∈ gw := gw_9 175 rfl rfl
theorem dr_cX15_sets_4 : decode cX15_sets 4 = .ok (.bipush 21, 2) := by decide +kernel
theorem dr_cX15_sets_6 : decode cX15_sets 6 = .ok (.if_icmp .gt 7, 3) := by decide +kernel
theorem dr_cX15_sets_13 : decode cX15_sets 13 = .ok (.iconst 0, 1) := by decide +kernel
theorem dr_cX15_sets_14 : decode cX15_sets 14 = .ok (.ireturn, 1) := by decide +kernel
theorem dr_cX15_sets_9 : decode cX15_sets 9 = .ok (.iconst 1, 1) := by decide +kernel
theorem dr_cX15_sets_10 : decode cX15_sets 10 = .ok (.goto 4, 3) := by decide +kernel
theorem dr_cX15_usesA_0 : decode cX15_usesA 0 = .ok (.aload_n 0, 1) := by decide +kernel
theorem dr_cX15_usesA_1 : decode cX15_usesA 1 = .ok (.getfield 9, 3) := by decide +kernel
theorem dr_cX15_usesA_4 : decode cX15_usesA 4 = .ok (.bipush 20, 2) := by decide +kernel
theorem dr_cX15_usesA_6 : decode cX15_usesA 6 = .ok (.if_icmp .eq 32, 3) := by decide +kernel
theorem dr_cX15_usesA_38 : decode cX15_usesA 38 = .ok (.iconst 0, 1) := by decide +kernel
theorem dr_cX15_usesA_39 : decode cX15_usesA 39 = .ok (.ireturn, 1) := by decide +kernel
theorem dr_cX15_usesA_9 : decode cX15_usesA 9 = .ok (.aload_n 0, 1) := by decide +kernel
theorem dr_cX15_usesA_10 : decode cX15_usesA 10 = .ok (.getfield 9, 3) := by decide +kernel
theorem dr_cX15_usesA_13 : decode cX15_usesA 13 = .ok (.bipush 21, 2) := by decide +kernel
theorem dr_cX15_usesA_15 : decode cX15_usesA 15 = .ok (.if_icmp .eq 23, 3) := by decide +kernel
theorem dr_cX15_usesA_18 : decode cX15_usesA 18 = .ok (.aload_n 0, 1) := by decide +kernel
theorem dr_cX15_usesA_19 : decode cX15_usesA 19 = .ok (.getfield 9, 3) := by decide +kernel
theorem dr_cX15_usesA_22 : decode cX15_usesA 22 = .ok (.bipush 30, 2) := by decide +kernel
theorem dr_cX15_usesA_24 : decode cX15_usesA 24 = .ok (.if_icmp .eq 14, 3) := by decide +kernel
theorem dr_cX15_usesA_27 : decode cX15_usesA 27 = .ok (.aload_n 0, 1) := by decide +kernel
theorem dr_cX15_usesA_28 : decode cX15_usesA 28 = .ok (.getfield 15, 3) := by decide +kernel
theorem wr_9_195 : (Jvm.Cond.fieldLink "SpillForgeModel$Row" (15 : Nat) "SpillForgeModel$Row" "regA" "Z") ∈ gw := gw_9 195 rfl rfl
theorem dr_cX15_usesA_31 : decode cX15_usesA 31 = .ok (.ifCond .eq 7, 3) := by decide +kernel
theorem dr_cX15_usesA_34 : decode cX15_usesA 34 = .ok (.iconst 1, 1) := by decide +kernel
theorem dr_cX15_usesA_35 : decode cX15_usesA 35 = .ok (.goto 4, 3) := by decide +kernel
theorem dr_cX15_usesB_0 : decode cX15_usesB 0 = .ok (.aload_n 0, 1) := by decide +kernel
theorem dr_cX15_usesB_1 : decode cX15_usesB 1 = .ok (.getfield 9, 3) := by decide +kernel
theorem dr_cX15_usesB_4 : decode cX15_usesB 4 = .ok (.ifCond .le 23, 3) := by decide +kernel
theorem dr_cX15_usesB_27 : decode cX15_usesB 27 = .ok (.iconst 0, 1) := by decide +kernel
theorem dr_cX15_usesB_28 : decode cX15_usesB 28 = .ok (.ireturn, 1) := by decide +kernel
theorem dr_cX15_usesB_7 : decode cX15_usesB 7 = .ok (.aload_n 0, 1) := by decide +kernel
theorem dr_cX15_usesB_8 : decode cX15_usesB 8 = .ok (.getfield 9, 3) := by decide +kernel
theorem dr_cX15_usesB_11 : decode cX15_usesB 11 = .ok (.bipush 20, 2) := by decide +kernel
theorem dr_cX15_usesB_13 : decode cX15_usesB 13 = .ok (.if_icmp .ge 14, 3) := by decide +kernel
theorem dr_cX15_usesB_16 : decode cX15_usesB 16 = .ok (.aload_n 0, 1) := by decide +kernel
theorem dr_cX15_usesB_17 : decode cX15_usesB 17 = .ok (.getfield 19, 3) := by decide +kernel
theorem wr_9_199 : (Jvm.Cond.fieldLink "SpillForgeModel$Row" (19 : Nat) "SpillForgeModel$Row" "regB" "Z") ∈ gw := gw_9 199 rfl rfl
theorem dr_cX15_usesB_20 : decode cX15_usesB 20 = .ok (.ifCond .eq 7, 3) := by decide +kernel
theorem dr_cX15_usesB_23 : decode cX15_usesB 23 = .ok (.iconst 1, 1) := by decide +kernel
theorem dr_cX15_usesB_24 : decode cX15_usesB 24 = .ok (.goto 4, 3) := by decide +kernel
theorem dr_cX15_put_0 : decode cX15_put 0 = .ok (.aload_n 0, 1) := by decide +kernel
theorem dr_cX15_put_1 : decode cX15_put 1 = .ok (.aload_n 1, 1) := by decide +kernel
theorem dr_cX15_put_2 : decode cX15_put 2 = .ok (.getfield 9, 3) := by decide +kernel
theorem dr_cX15_put_5 : decode cX15_put 5 = .ok (.putfield 9, 3) := by decide +kernel
theorem dr_cX15_put_8 : decode cX15_put 8 = .ok (.aload_n 0, 1) := by decide +kernel
theorem dr_cX15_put_9 : decode cX15_put 9 = .ok (.aload_n 1, 1) := by decide +kernel
theorem dr_cX15_put_10 : decode cX15_put 10 = .ok (.getfield 35, 3) := by decide +kernel
theorem wr_9_181 : (Jvm.Cond.fieldLink "SpillForgeModel$Row" (35 : Nat) "SpillForgeModel$Row" "t" "I") ∈ gw := gw_9 181 rfl rfl
theorem dr_cX15_put_13 : decode cX15_put 13 = .ok (.putfield 35, 3) := by decide +kernel
theorem dr_cX15_put_16 : decode cX15_put 16 = .ok (.aload_n 0, 1) := by decide +kernel
theorem dr_cX15_put_17 : decode cX15_put 17 = .ok (.aload_n 1, 1) := by decide +kernel
theorem dr_cX15_put_18 : decode cX15_put 18 = .ok (.getfield 26, 3) := by decide +kernel
theorem wr_9_185 : (Jvm.Cond.fieldLink "SpillForgeModel$Row" (26 : Nat) "SpillForgeModel$Row" "a" "I") ∈ gw := gw_9 185 rfl rfl
theorem dr_cX15_put_21 : decode cX15_put 21 = .ok (.putfield 26, 3) := by decide +kernel
theorem dr_cX15_put_24 : decode cX15_put 24 = .ok (.aload_n 0, 1) := by decide +kernel
theorem dr_cX15_put_25 : decode cX15_put 25 = .ok (.aload_n 1, 1) := by decide +kernel
theorem dr_cX15_put_26 : decode cX15_put 26 = .ok (.getfield 32, 3) := by decide +kernel
theorem wr_9_189 : (Jvm.Cond.fieldLink "SpillForgeModel$Row" (32 : Nat) "SpillForgeModel$Row" "b" "I") ∈ gw := gw_9 189 rfl rfl
theorem dr_cX15_put_29 : decode cX15_put 29 = .ok (.putfield 32, 3) := by decide +kernel
theorem dr_cX15_put_32 : decode cX15_put 32 = .ok (.aload_n 0, 1) := by decide +kernel
theorem dr_cX15_put_33 : decode cX15_put 33 = .ok (.aload_n 1, 1) := by decide +kernel
theorem dr_cX15_put_34 : decode cX15_put 34 = .ok (.getfield 15, 3) := by decide +kernel
theorem dr_cX15_put_37 : decode cX15_put 37 = .ok (.putfield 15, 3) := by decide +kernel
theorem dr_cX15_put_40 : decode cX15_put 40 = .ok (.aload_n 0, 1) := by decide +kernel
theorem dr_cX15_put_41 : decode cX15_put 41 = .ok (.aload_n 1, 1) := by decide +kernel
theorem dr_cX15_put_42 : decode cX15_put 42 = .ok (.getfield 19, 3) := by decide +kernel
theorem dr_cX15_put_45 : decode cX15_put 45 = .ok (.putfield 19, 3) := by decide +kernel
theorem dr_cX15_put_48 : decode cX15_put 48 = .ok (.aload_n 0, 1) := by decide +kernel
theorem dr_cX15_put_49 : decode cX15_put 49 = .ok (.aload_n 1, 1) := by decide +kernel
theorem dr_cX15_put_50 : decode cX15_put 50 = .ok (.getfield 38, 3) := by decide +kernel
theorem wr_9_194 : (Jvm.Cond.fieldLink "SpillForgeModel$Row" (38 : Nat) "SpillForgeModel$Row" "slot" "I") ∈ gw := gw_9 194 rfl rfl
theorem dr_cX15_put_53 : decode cX15_put 53 = .ok (.putfield 38, 3) := by decide +kernel
theorem dr_cX15_put_56 : decode cX15_put 56 = .ok (.return_, 1) := by decide +kernel
theorem dr_cX17_setOf_0 : decode cX17_setOf 0 = .ok (.iload_n 1, 1) := by decide +kernel
theorem dr_cX17_setOf_1 : decode cX17_setOf 1 = .ok (.ifCond .eq 23, 3) := by decide +kernel
theorem dr_cX17_setOf_24 : decode cX17_setOf 24 = .ok (.aload_n 0, 1) := by decide +kernel
theorem dr_cX17_setOf_25 : decode cX17_setOf 25 = .ok (.invokevirtual 48, 3) := by decide +kernel
theorem wr_10_181 : (Jvm.Cond.methodLink "SpillForgeModel" (48 : Nat) ({ cls := "SpillForgeModel$Row", name := "sets", desc := "()Z" } : Jvm.MethodName)) ∈ gw := gw_10 181 rfl rfl
theorem wr_1_39 : (Jvm.Cond.initialized "SpillForgeModel$Row") ∈ gw := gw_1 39 rfl rfl
theorem wr_10_184 : (Jvm.Cond.code ({ cls := "SpillForgeModel$Row", name := "sets", desc := "()Z" } : Jvm.MethodName) prog_18_method_2_code (1 : Nat) (Option.some Jvm.ClassFile.FieldType.boolean)) ∈ gw := gw_10 184 rfl rfl
theorem wr_10_182 : (Jvm.Cond.instanceMethod ({ cls := "SpillForgeModel$Row", name := "sets", desc := "()Z" } : Jvm.MethodName)) ∈ gw := gw_10 182 rfl rfl
theorem wr_10_183 : (Jvm.Cond.selects "SpillForgeModel$Row" ({ cls := "SpillForgeModel$Row", name := "sets", desc := "()Z" } : Jvm.MethodName) ({ cls := "SpillForgeModel$Row", name := "sets", desc := "()Z" } : Jvm.MethodName)) ∈ gw := gw_10 183 rfl rfl
theorem dr_cX17_setOf_28 : decode cX17_setOf 28 = .ok (.ifCond .eq 10, 3) := by decide +kernel
theorem dr_cX17_setOf_38 : decode cX17_setOf 38 = .ok (.iconst (-1), 1) := by decide +kernel
theorem dr_cX17_setOf_39 : decode cX17_setOf 39 = .ok (.ireturn, 1) := by decide +kernel
theorem dr_cX17_setOf_31 : decode cX17_setOf 31 = .ok (.aload_n 0, 1) := by decide +kernel
theorem dr_cX17_setOf_32 : decode cX17_setOf 32 = .ok (.getfield 52, 3) := by decide +kernel
theorem wr_9_182 : (Jvm.Cond.fieldLink "SpillForgeModel" (52 : Nat) "SpillForgeModel$Row" "t" "I") ∈ gw := gw_9 182 rfl rfl
theorem dr_cX17_setOf_35 : decode cX17_setOf 35 = .ok (.goto 4, 3) := by decide +kernel
theorem dr_cX17_setOf_4 : decode cX17_setOf 4 = .ok (.aload_n 0, 1) := by decide +kernel
theorem dr_cX17_setOf_5 : decode cX17_setOf 5 = .ok (.getfield 39, 3) := by decide +kernel
theorem wr_9_177 : (Jvm.Cond.fieldLink "SpillForgeModel" (39 : Nat) "SpillForgeModel$Row" "op" "I") ∈ gw := gw_9 177 rfl rfl
theorem dr_cX17_setOf_8 : decode cX17_setOf 8 = .ok (.bipush 23, 2) := by decide +kernel
theorem dr_cX17_setOf_10 : decode cX17_setOf 10 = .ok (.if_icmp .ne 10, 3) := by decide +kernel
theorem dr_cX17_setOf_20 : decode cX17_setOf 20 = .ok (.iconst (-1), 1) := by decide +kernel
theorem dr_cX17_setOf_21 : decode cX17_setOf 21 = .ok (.goto 18, 3) := by decide +kernel
theorem dr_cX17_setOf_13 : decode cX17_setOf 13 = .ok (.aload_n 0, 1) := by decide +kernel
theorem dr_cX17_setOf_14 : decode cX17_setOf 14 = .ok (.getfield 45, 3) := by decide +kernel
theorem wr_9_193 : (Jvm.Cond.fieldLink "SpillForgeModel" (45 : Nat) "SpillForgeModel$Row" "slot" "I") ∈ gw := gw_9 193 rfl rfl
theorem dr_cX17_setOf_17 : decode cX17_setOf 17 = .ok (.goto 22, 3) := by decide +kernel
theorem dr_cX12_ways_0 : decode cX12_ways 0 = .ok (.aload_n 0, 1) := by decide +kernel
theorem dr_cX12_ways_1 : decode cX12_ways 1 = .ok (.getfield 21, 3) := by decide +kernel
theorem wr_9_222 : (Jvm.Cond.fieldLink "SpillForgeModel$Block" (21 : Nat) "SpillForgeModel$Block" "end" "LSpillForgeModel$Row;") ∈ gw := gw_9 222 rfl rfl
theorem dr_cX12_ways_4 : decode cX12_ways 4 = .ok (.getfield 25, 3) := by decide +kernel
theorem wr_9_176 : (Jvm.Cond.fieldLink "SpillForgeModel$Block" (25 : Nat) "SpillForgeModel$Row" "op" "I") ∈ gw := gw_9 176 rfl rfl
theorem dr_cX12_ways_7 : decode cX12_ways 7 = .ok (.bipush 32, 2) := by decide +kernel
theorem dr_cX12_ways_9 : decode cX12_ways 9 = .ok (.if_icmp .ne 7, 3) := by decide +kernel
theorem dr_cX12_ways_16 : decode cX12_ways 16 = .ok (.aload_n 0, 1) := by decide +kernel
theorem dr_cX12_ways_17 : decode cX12_ways 17 = .ok (.getfield 21, 3) := by decide +kernel
theorem dr_cX12_ways_20 : decode cX12_ways 20 = .ok (.getfield 25, 3) := by decide +kernel
theorem dr_cX12_ways_23 : decode cX12_ways 23 = .ok (.bipush 30, 2) := by decide +kernel
theorem dr_cX12_ways_25 : decode cX12_ways 25 = .ok (.if_icmp .eq 14, 3) := by decide +kernel
theorem dr_cX12_ways_39 : decode cX12_ways 39 = .ok (.iconst 1, 1) := by decide +kernel
theorem dr_cX12_ways_40 : decode cX12_ways 40 = .ok (.goto 4, 3) := by decide +kernel
theorem dr_cX12_ways_44 : decode cX12_ways 44 = .ok (.ireturn, 1) := by decide +kernel
theorem dr_cX12_ways_28 : decode cX12_ways 28 = .ok (.aload_n 0, 1) := by decide +kernel
theorem dr_cX12_ways_29 : decode cX12_ways 29 = .ok (.getfield 29, 3) := by decide +kernel
theorem wr_9_226 : (Jvm.Cond.fieldLink "SpillForgeModel$Block" (29 : Nat) "SpillForgeModel$Block" "first" "I") ∈ gw := gw_9 226 rfl rfl
theorem dr_cX12_ways_32 : decode cX12_ways 32 = .ok (.aload_n 0, 1) := by decide +kernel
theorem dr_cX12_ways_33 : decode cX12_ways 33 = .ok (.getfield 32, 3) := by decide +kernel
theorem wr_9_230 : (Jvm.Cond.fieldLink "SpillForgeModel$Block" (32 : Nat) "SpillForgeModel$Block" "second" "I") ∈ gw := gw_9 230 rfl rfl
theorem dr_cX12_ways_36 : decode cX12_ways 36 = .ok (.if_icmp .ne 7, 3) := by decide +kernel
theorem dr_cX12_ways_43 : decode cX12_ways 43 = .ok (.iconst 2, 1) := by decide +kernel
theorem dr_cX12_ways_12 : decode cX12_ways 12 = .ok (.iconst 0, 1) := by decide +kernel
theorem dr_cX12_ways_13 : decode cX12_ways 13 = .ok (.goto 31, 3) := by decide +kernel
theorem dr_cX12_way_0 : decode cX12_way 0 = .ok (.iload_n 1, 1) := by decide +kernel
theorem dr_cX12_way_1 : decode cX12_way 1 = .ok (.ifCond .ne 10, 3) := by decide +kernel
theorem dr_cX12_way_11 : decode cX12_way 11 = .ok (.aload_n 0, 1) := by decide +kernel
theorem dr_cX12_way_12 : decode cX12_way 12 = .ok (.getfield 32, 3) := by decide +kernel
theorem dr_cX12_way_15 : decode cX12_way 15 = .ok (.ireturn, 1) := by decide +kernel
theorem dr_cX12_way_4 : decode cX12_way 4 = .ok (.aload_n 0, 1) := by decide +kernel
theorem dr_cX12_way_5 : decode cX12_way 5 = .ok (.getfield 29, 3) := by decide +kernel
theorem dr_cX12_way_8 : decode cX12_way 8 = .ok (.goto 7, 3) := by decide +kernel
theorem dr_cX17_has_0 : decode cX17_has 0 = .ok (.aload_n 0, 1) := by decide +kernel
theorem dr_cX17_has_1 : decode cX17_has 1 = .ok (.iload_n 1, 1) := by decide +kernel
theorem dr_cX17_has_2 : decode cX17_has 2 = .ok (.bipush 6, 2) := by decide +kernel
theorem dr_cX17_has_4 : decode cX17_has 4 = .ok (.ishr, 1) := by decide +kernel
theorem dr_cX17_has_5 : decode cX17_has 5 = .ok (.laload, 1) := by decide +kernel
theorem dr_cX17_has_6 : decode cX17_has 6 = .ok (.iload_n 1, 1) := by decide +kernel
theorem dr_cX17_has_7 : decode cX17_has 7 = .ok (.lushr, 1) := by decide +kernel
theorem dr_cX17_has_8 : decode cX17_has 8 = .ok (.lconst 1, 1) := by decide +kernel
theorem dr_cX17_has_9 : decode cX17_has 9 = .ok (.land, 1) := by decide +kernel
theorem dr_cX17_has_10 : decode cX17_has 10 = .ok (.lconst 0, 1) := by decide +kernel
theorem dr_cX17_has_11 : decode cX17_has 11 = .ok (.lcmp, 1) := by decide +kernel
theorem dr_cX17_has_12 : decode cX17_has 12 = .ok (.ifCond .eq 7, 3) := by decide +kernel
theorem dr_cX17_has_19 : decode cX17_has 19 = .ok (.iconst 0, 1) := by decide +kernel
theorem dr_cX17_has_20 : decode cX17_has 20 = .ok (.ireturn, 1) := by decide +kernel
theorem dr_cX17_has_15 : decode cX17_has 15 = .ok (.iconst 1, 1) := by decide +kernel
theorem dr_cX17_has_16 : decode cX17_has 16 = .ok (.goto 4, 3) := by decide +kernel
theorem dr_cX17_set_0 : decode cX17_set 0 = .ok (.aload_n 0, 1) := by decide +kernel
theorem dr_cX17_set_1 : decode cX17_set 1 = .ok (.iload_n 1, 1) := by decide +kernel
theorem dr_cX17_set_2 : decode cX17_set 2 = .ok (.bipush 6, 2) := by decide +kernel
theorem dr_cX17_set_4 : decode cX17_set 4 = .ok (.ishr, 1) := by decide +kernel
theorem dr_cX17_set_5 : decode cX17_set 5 = .ok (.dup2, 1) := by decide +kernel
theorem dr_cX17_set_6 : decode cX17_set 6 = .ok (.laload, 1) := by decide +kernel
theorem dr_cX17_set_7 : decode cX17_set 7 = .ok (.lconst 1, 1) := by decide +kernel
theorem dr_cX17_set_8 : decode cX17_set 8 = .ok (.iload_n 1, 1) := by decide +kernel
theorem dr_cX17_set_9 : decode cX17_set 9 = .ok (.lshl, 1) := by decide +kernel
theorem dr_cX17_set_10 : decode cX17_set 10 = .ok (.lor, 1) := by decide +kernel
theorem dr_cX17_set_11 : decode cX17_set 11 = .ok (.lastore, 1) := by decide +kernel
theorem dr_cX17_set_12 : decode cX17_set 12 = .ok (.return_, 1) := by decide +kernel
theorem dr_cX17_clear_0 : decode cX17_clear 0 = .ok (.aload_n 0, 1) := by decide +kernel
theorem dr_cX17_clear_1 : decode cX17_clear 1 = .ok (.iload_n 1, 1) := by decide +kernel
theorem dr_cX17_clear_2 : decode cX17_clear 2 = .ok (.bipush 6, 2) := by decide +kernel
theorem dr_cX17_clear_4 : decode cX17_clear 4 = .ok (.ishr, 1) := by decide +kernel
theorem dr_cX17_clear_5 : decode cX17_clear 5 = .ok (.dup2, 1) := by decide +kernel
theorem dr_cX17_clear_6 : decode cX17_clear 6 = .ok (.laload, 1) := by decide +kernel
theorem dr_cX17_clear_7 : decode cX17_clear 7 = .ok (.lconst 1, 1) := by decide +kernel
theorem dr_cX17_clear_8 : decode cX17_clear 8 = .ok (.iload_n 1, 1) := by decide +kernel
theorem dr_cX17_clear_9 : decode cX17_clear 9 = .ok (.lshl, 1) := by decide +kernel
theorem dr_cX17_clear_10 : decode cX17_clear 10 = .ok (.ldc2_w 31, 3) := by decide +kernel
theorem wr_10_188 : (Jvm.Cond.constantLong "SpillForgeModel" (31 : Nat) (-1 : Int64)) ∈ gw := gw_10 188 rfl rfl
theorem dr_cX17_clear_13 : decode cX17_clear 13 = .ok (.lxor, 1) := by decide +kernel
theorem dr_cX17_clear_14 : decode cX17_clear 14 = .ok (.land, 1) := by decide +kernel
theorem dr_cX17_clear_15 : decode cX17_clear 15 = .ok (.lastore, 1) := by decide +kernel
theorem dr_cX17_clear_16 : decode cX17_clear 16 = .ok (.return_, 1) := by decide +kernel
theorem dr_cJ13_bitCount_95d88_0 : decode cJ13_bitCount_95d88 0 = .ok (.lload_n 0, 1) := by decide +kernel
theorem dr_cJ13_bitCount_95d88_1 : decode cJ13_bitCount_95d88 1 = .ok (.lload_n 0, 1) := by decide +kernel
theorem dr_cJ13_bitCount_95d88_2 : decode cJ13_bitCount_95d88 2 = .ok (.iconst 1, 1) := by decide +kernel
theorem dr_cJ13_bitCount_95d88_3 : decode cJ13_bitCount_95d88 3 = .ok (.lushr, 1) := by decide +kernel
theorem dr_cJ13_bitCount_95d88_4 : decode cJ13_bitCount_95d88 4 = .ok (.ldc2_w 314, 3) := by decide +kernel
theorem wr_4_96 : (Jvm.Cond.constantLong "java/lang/Long" (314 : Nat) (6148914691236517205 : Int64)) ∈ gw := gw_4 96 rfl rfl
theorem dr_cJ13_bitCount_95d88_7 : decode cJ13_bitCount_95d88 7 = .ok (.land, 1) := by decide +kernel
theorem dr_cJ13_bitCount_95d88_8 : decode cJ13_bitCount_95d88 8 = .ok (.lsub, 1) := by decide +kernel
theorem dr_cJ13_bitCount_95d88_9 : decode cJ13_bitCount_95d88 9 = .ok (.lstore_n 0, 1) := by decide +kernel
theorem dr_cJ13_bitCount_95d88_10 : decode cJ13_bitCount_95d88 10 = .ok (.lload_n 0, 1) := by decide +kernel
theorem dr_cJ13_bitCount_95d88_11 : decode cJ13_bitCount_95d88 11 = .ok (.ldc2_w 316, 3) := by decide +kernel
theorem wr_4_97 : (Jvm.Cond.constantLong "java/lang/Long" (316 : Nat) (3689348814741910323 : Int64)) ∈ gw := gw_4 97 rfl rfl
theorem dr_cJ13_bitCount_95d88_14 : decode cJ13_bitCount_95d88 14 = .ok (.land, 1) := by decide +kernel
theorem dr_cJ13_bitCount_95d88_15 : decode cJ13_bitCount_95d88 15 = .ok (.lload_n 0, 1) := by decide +kernel
theorem dr_cJ13_bitCount_95d88_16 : decode cJ13_bitCount_95d88 16 = .ok (.iconst 2, 1) := by decide +kernel
theorem dr_cJ13_bitCount_95d88_17 : decode cJ13_bitCount_95d88 17 = .ok (.lushr, 1) := by decide +kernel
theorem dr_cJ13_bitCount_95d88_18 : decode cJ13_bitCount_95d88 18 = .ok (.ldc2_w 316, 3) := by decide +kernel
theorem dr_cJ13_bitCount_95d88_21 : decode cJ13_bitCount_95d88 21 = .ok (.land, 1) := by decide +kernel
theorem dr_cJ13_bitCount_95d88_22 : decode cJ13_bitCount_95d88 22 = .ok (.ladd, 1) := by decide +kernel
theorem dr_cJ13_bitCount_95d88_23 : decode cJ13_bitCount_95d88 23 = .ok (.lstore_n 0, 1) := by decide +kernel
theorem dr_cJ13_bitCount_95d88_24 : decode cJ13_bitCount_95d88 24 = .ok (.lload_n 0, 1) := by decide +kernel
theorem dr_cJ13_bitCount_95d88_25 : decode cJ13_bitCount_95d88 25 = .ok (.lload_n 0, 1) := by decide +kernel
theorem dr_cJ13_bitCount_95d88_26 : decode cJ13_bitCount_95d88 26 = .ok (.iconst 4, 1) := by decide +kernel
theorem dr_cJ13_bitCount_95d88_27 : decode cJ13_bitCount_95d88 27 = .ok (.lushr, 1) := by decide +kernel
theorem dr_cJ13_bitCount_95d88_28 : decode cJ13_bitCount_95d88 28 = .ok (.ladd, 1) := by decide +kernel
theorem dr_cJ13_bitCount_95d88_29 : decode cJ13_bitCount_95d88 29 = .ok (.ldc2_w 318, 3) := by decide +kernel
theorem wr_4_98 : (Jvm.Cond.constantLong "java/lang/Long" (318 : Nat) (1085102592571150095 : Int64)) ∈ gw := gw_4 98 rfl rfl
theorem dr_cJ13_bitCount_95d88_32 : decode cJ13_bitCount_95d88 32 = .ok (.land, 1) := by decide +kernel
theorem dr_cJ13_bitCount_95d88_33 : decode cJ13_bitCount_95d88 33 = .ok (.lstore_n 0, 1) := by decide +kernel
theorem dr_cJ13_bitCount_95d88_34 : decode cJ13_bitCount_95d88 34 = .ok (.lload_n 0, 1) := by decide +kernel
theorem dr_cJ13_bitCount_95d88_35 : decode cJ13_bitCount_95d88 35 = .ok (.lload_n 0, 1) := by decide +kernel
theorem dr_cJ13_bitCount_95d88_36 : decode cJ13_bitCount_95d88 36 = .ok (.bipush 8, 2) := by decide +kernel
theorem dr_cJ13_bitCount_95d88_38 : decode cJ13_bitCount_95d88 38 = .ok (.lushr, 1) := by decide +kernel
theorem dr_cJ13_bitCount_95d88_39 : decode cJ13_bitCount_95d88 39 = .ok (.ladd, 1) := by decide +kernel
theorem dr_cJ13_bitCount_95d88_40 : decode cJ13_bitCount_95d88 40 = .ok (.lstore_n 0, 1) := by decide +kernel
theorem dr_cJ13_bitCount_95d88_41 : decode cJ13_bitCount_95d88 41 = .ok (.lload_n 0, 1) := by decide +kernel
theorem dr_cJ13_bitCount_95d88_42 : decode cJ13_bitCount_95d88 42 = .ok (.lload_n 0, 1) := by decide +kernel
theorem dr_cJ13_bitCount_95d88_43 : decode cJ13_bitCount_95d88 43 = .ok (.bipush 16, 2) := by decide +kernel
theorem dr_cJ13_bitCount_95d88_45 : decode cJ13_bitCount_95d88 45 = .ok (.lushr, 1) := by decide +kernel
theorem dr_cJ13_bitCount_95d88_46 : decode cJ13_bitCount_95d88 46 = .ok (.ladd, 1) := by decide +kernel
theorem dr_cJ13_bitCount_95d88_47 : decode cJ13_bitCount_95d88 47 = .ok (.lstore_n 0, 1) := by decide +kernel
theorem dr_cJ13_bitCount_95d88_48 : decode cJ13_bitCount_95d88 48 = .ok (.lload_n 0, 1) := by decide +kernel
theorem dr_cJ13_bitCount_95d88_49 : decode cJ13_bitCount_95d88 49 = .ok (.lload_n 0, 1) := by decide +kernel
theorem dr_cJ13_bitCount_95d88_50 : decode cJ13_bitCount_95d88 50 = .ok (.bipush 32, 2) := by decide +kernel
theorem dr_cJ13_bitCount_95d88_52 : decode cJ13_bitCount_95d88 52 = .ok (.lushr, 1) := by decide +kernel
theorem dr_cJ13_bitCount_95d88_53 : decode cJ13_bitCount_95d88 53 = .ok (.ladd, 1) := by decide +kernel
theorem dr_cJ13_bitCount_95d88_54 : decode cJ13_bitCount_95d88 54 = .ok (.lstore_n 0, 1) := by decide +kernel
theorem dr_cJ13_bitCount_95d88_55 : decode cJ13_bitCount_95d88 55 = .ok (.lload_n 0, 1) := by decide +kernel
theorem dr_cJ13_bitCount_95d88_56 : decode cJ13_bitCount_95d88 56 = .ok (.l2i, 1) := by decide +kernel
theorem dr_cJ13_bitCount_95d88_57 : decode cJ13_bitCount_95d88 57 = .ok (.bipush 127, 2) := by decide +kernel
theorem dr_cJ13_bitCount_95d88_59 : decode cJ13_bitCount_95d88 59 = .ok (.iand, 1) := by decide +kernel
theorem dr_cJ13_bitCount_95d88_60 : decode cJ13_bitCount_95d88 60 = .ok (.ireturn, 1) := by decide +kernel
theorem dr_cX17_count_0 : decode cX17_count 0 = .ok (.iconst 0, 1) := by decide +kernel
theorem dr_cX17_count_1 : decode cX17_count 1 = .ok (.istore_n 1, 1) := by decide +kernel
theorem dr_cX17_count_2 : decode cX17_count 2 = .ok (.iconst 0, 1) := by decide +kernel
theorem dr_cX17_count_3 : decode cX17_count 3 = .ok (.istore_n 2, 1) := by decide +kernel
theorem dr_cX17_count_4 : decode cX17_count 4 = .ok (.iload_n 2, 1) := by decide +kernel
theorem dr_cX17_count_5 : decode cX17_count 5 = .ok (.aload_n 0, 1) := by decide +kernel
theorem dr_cX17_count_6 : decode cX17_count 6 = .ok (.arraylength, 1) := by decide +kernel
theorem dr_cX17_count_7 : decode cX17_count 7 = .ok (.if_icmp .ge 18, 3) := by decide +kernel
theorem dr_cX17_count_25 : decode cX17_count 25 = .ok (.iload_n 1, 1) := by decide +kernel
theorem dr_cX17_count_26 : decode cX17_count 26 = .ok (.ireturn, 1) := by decide +kernel
theorem dr_cX17_count_10 : decode cX17_count 10 = .ok (.iload_n 1, 1) := by decide +kernel
theorem dr_cX17_count_11 : decode cX17_count 11 = .ok (.aload_n 0, 1) := by decide +kernel
theorem dr_cX17_count_12 : decode cX17_count 12 = .ok (.iload_n 2, 1) := by decide +kernel
theorem dr_cX17_count_13 : decode cX17_count 13 = .ok (.laload, 1) := by decide +kernel
theorem dr_cX17_count_14 : decode cX17_count 14 = .ok (.invokestatic 33, 3) := by decide +kernel
theorem wr_11_19 : (Jvm.Cond.methodLink "SpillForgeModel" (33 : Nat) ({ cls := "java/lang/Long", name := "bitCount", desc := "(J)I" } : Jvm.MethodName)) ∈ gw := gw_11 19 rfl rfl
theorem wr_1_31 : (Jvm.Cond.initialized "java/lang/Long") ∈ gw := gw_1 31 rfl rfl
theorem wr_4_95 : (Jvm.Cond.code ({ cls := "java/lang/Long", name := "bitCount", desc := "(J)I" } : Jvm.MethodName) prog_31_method_50_code (2 : Nat) (Option.some Jvm.ClassFile.FieldType.int)) ∈ gw := gw_4 95 rfl rfl
theorem wr_4_94 : (Jvm.Cond.static ({ cls := "java/lang/Long", name := "bitCount", desc := "(J)I" } : Jvm.MethodName)) ∈ gw := gw_4 94 rfl rfl
theorem dr_cX17_count_17 : decode cX17_count 17 = .ok (.iadd, 1) := by decide +kernel
theorem dr_cX17_count_18 : decode cX17_count 18 = .ok (.istore_n 1, 1) := by decide +kernel
theorem dr_cX17_count_19 : decode cX17_count 19 = .ok (.iinc 2 1, 3) := by decide +kernel
theorem dr_cX17_count_22 : decode cX17_count 22 = .ok (.goto (-18), 3) := by decide +kernel
abbrev ky_1606_ArrayList_init : gKey := (cJx4a65c_init_da8c8, 1, "java/util/ArrayList", none, [], "<init>", fun _ _ => True)
def pp_1606_ArrayList_init (D : va_G) (I : FieldType → ClassId) (P1601 : List Nat) (F1602 : Nat → va_E) (q1603 : Nat) (p1604 : Int32) (p1605 : Int32) : Option Value → va_W → Nat → Nat → Prop := fun r w dc ds => ∃ (F1649 : Nat → va_E), r = none ∧ w = va_pl P1601 F1649 ∧ rFr [q1603] P1601 F1602 F1649 ∧ F1649 q1603 = .inr (4, [.int 0, .ref (D.2 1002 1), .int p1605]) ∧ dc ≤ 0 ∧ ds ≤ 0
set_option maxRecDepth 100000 in
set_option maxHeartbeats 4000000 in
theorem cp_1606_ArrayList_init (l : Launch) (hl0 : l.stackTraces = false) (D : va_G) (I : FieldType → ClassId) (P1601 : List Nat) (F1602 : Nat → va_E) (q1603 : Nat) (p1604 : Int32) (p1605 : Int32) (hmq1603 : q1603 ∈ P1601) (heq1603 : F1602 q1603 = .inr (4, [.int p1604, .null, .int p1605])) : CtA (gV D I) l yJx4a65c_init_da8c8 cJx4a65c_init_da8c8 1 none 3 52 0 0 [.ref q1603] (va_pl P1601 F1602) (pp_1606_ArrayList_init D I P1601 F1602 q1603 p1604 p1605) gNA := by
  refine CtA_ofF hl0 (by decide +kernel) (Nat.le_of_ble_eq_true rfl) ?_
  have bp1604 := gB_any p1604
  have bp1605 := gB_any p1605
  refine G_aload_n 0 dr_cJx4a65c_init_da8c8_0 rfl ?_
  refine Gw_callI (As := []) (gV_ok D I) (cp_1612_AbstractList_init l hl0 D I P1601 F1602 q1603 p1604 p1605 hmq1603 heq1603) dr_cJx4a65c_init_da8c8_1 ⟨wr_7_8, wr_1_17, wr_7_10, by decide, rfl, (Nat.le_of_ble_eq_true rfl), (Nat.le_of_ble_eq_true rfl)⟩ wr_7_9 rfl (show 0 + 0 ≤ 0 by first | omega | decide) (show 0 + 0 ≤ 0 by first | omega | decide) (Nat.le_of_ble_eq_true rfl) (fun r1634 w1635 dc1631 ds1632 hp1633 => ?_)
  obtain ⟨F1636, rfl, rfl, hfr1638, he1639, hdc, hds⟩ := hp1633
  have hfr1640 : rFr [q1603] P1601 F1602 F1636 := rFr_call (rSub_rf (P := P1601)) (rFr_rf (W := []) (P := P1601) (F := F1602)) hfr1638 (fun b hb hn => ⟨nm_n, (nm_c (fun e => hn (e ▸ List.mem_cons_self)) nm_n)⟩)
  change G _ _ _ _ _ _ _ _ _ _ _
  refine G_widen (cs' := 0) (sl' := 0) (by omega) (by omega) ?_
  refine G_aload_n 0 dr_cJx4a65c_init_da8c8_4 rfl ?_
  refine G_gets dr_cJx4a65c_init_da8c8_5 wr_7_15 gr_de (fun x1642 hx1641 => ?_)
  subst hx1641
  refine Gp_put 1 hmq1603 he1639 dr_cJx4a65c_init_da8c8_8 (gk_Jx4a65c D I) (Nat.le_of_ble_eq_true rfl) wr_7_17 rfl rfl rfl (Nat.le_of_ble_eq_true rfl) (fun F1643 e1644 n1645 => ?_)
  have he1646 : F1643 q1603 = .inr (4, [.int 0, .ref (D.2 1002 1), .int p1605]) := e1644
  have hfr1647 : rFr [q1603] P1601 F1602 F1643 := rFr_put' List.mem_cons_self hfr1640 n1645
  exact G_vretA dr_cJx4a65c_init_da8c8_11 rfl (Nat.le_of_ble_eq_true rfl) (Nat.le_of_ble_eq_true rfl) ⟨F1643, rfl, rfl, hfr1647, he1646, (Nat.le_of_ble_eq_true rfl), (Nat.le_of_ble_eq_true rfl)⟩
/- tr_RRow_sets: result -/
def tr_RRow_sets (a0_op : Int32) (o1 : Int32) : Prop := ∀ R : (Int32) → Prop,
  (21 < a0_op.toInt → R (0 : Int32)) →
  (a0_op.toInt ≤ 21 → R (1 : Int32)) →
  R o1
abbrev ky_1660_Row_sets : gKey := (cX15_sets, 1, "SpillForgeModel$Row", (some FieldType.boolean), [], "sets", fun _ _ => True)
def pp_1660_Row_sets (D : va_G) (I : FieldType → ClassId) (P1650 : List Nat) (F1651 : Nat → va_E) (q1652 : Nat) (p1653 : Int32) (p1654 : Int32) (p1655 : Int32) (p1656 : Int32) (p1657 : Int32) (p1658 : Int32) (p1659 : Int32) : Option Value → va_W → Nat → Nat → Prop := fun r w dc ds => ∃ (o1664 : Int32), r = some (.int o1664) ∧ w = va_pl P1650 F1651 ∧ dc ≤ 0 ∧ ds ≤ 0 ∧ gB o1664 0 1 ∧ tr_RRow_sets p1653 o1664
set_option maxRecDepth 100000 in
set_option maxHeartbeats 4000000 in
theorem cp_1660_Row_sets (l : Launch) (hl0 : l.stackTraces = false) (D : va_G) (I : FieldType → ClassId) (P1650 : List Nat) (F1651 : Nat → va_E) (q1652 : Nat) (p1653 : Int32) (p1654 : Int32) (p1655 : Int32) (p1656 : Int32) (p1657 : Int32) (p1658 : Int32) (p1659 : Int32) (hmq1652 : q1652 ∈ P1650) (heq1652 : F1651 q1652 = .inr (20, [.int p1653, .int p1654, .int p1655, .int p1656, .int p1657, .int p1658, .int p1659])) (bp1653 : gB p1653 0 32) (bp1654 : gB p1654 0 1999) (bp1657 : gB p1657 0 1999) (bp1658 : gB p1658 0 1) (bp1659 : gB p1659 0 1) : CtA (gV D I) l yX15_sets cX15_sets 1 (some FieldType.boolean) 0 0 0 0 [.ref q1652] (va_pl P1650 F1651) (pp_1660_Row_sets D I P1650 F1651 q1652 p1653 p1654 p1655 p1656 p1657 p1658 p1659) gNA := by
  refine CtA_of hl0 (by decide) (Nat.le_of_ble_eq_true rfl) ?_
  have bp1655 := gB_any p1655
  have bp1656 := gB_any p1656
  refine G_aload_n 0 dr_cX15_sets_0 rfl ?_
  refine Gp_get 0 hmq1652 heq1652 dr_cX15_sets_1 (gk_X15 D I) (Nat.le_of_ble_eq_true rfl) wr_9_175 rfl ?_
  refine G_bipush 21 dr_cX15_sets_4 (by decide +kernel) ?_
  refine G_icmp_gt 13 dr_cX15_sets_6 (by decide +kernel) (fun hc1661 => ?_) (fun hc1661 => ?_)
  · have r1662 : 21 < p1653.toInt := gj_ltL hc1661 (show Int32.toInt 21 = 21 by decide)
    have bp1653' : gB p1653 22 32 := ⟨by omega, by omega⟩
    refine G_iconst 0 dr_cX15_sets_13 (by decide +kernel) ?_
    exact G_zretA FieldType.boolean dr_cX15_sets_14 rfl rfl (Nat.le_of_ble_eq_true rfl) (Nat.le_of_ble_eq_true rfl) ⟨0, rfl, rfl, (Nat.le_of_ble_eq_true rfl), (Nat.le_of_ble_eq_true rfl), (gB_w (gBl (show Int32.toInt 0 = 0 by decide)) (by decide) (by decide)), (fun R c1 c2 => c1 r1662)⟩
  · have r1663 : p1653.toInt ≤ 21 := gj_nltL hc1661 (show Int32.toInt 21 = 21 by decide)
    have bp1653' : gB p1653 0 21 := ⟨by omega, by omega⟩
    refine G_iconst 1 dr_cX15_sets_9 (by decide +kernel) ?_
    refine G_goto 14 dr_cX15_sets_10 (by decide +kernel) ?_
    exact G_zretA FieldType.boolean dr_cX15_sets_14 rfl rfl (Nat.le_of_ble_eq_true rfl) (Nat.le_of_ble_eq_true rfl) ⟨1, rfl, rfl, (Nat.le_of_ble_eq_true rfl), (Nat.le_of_ble_eq_true rfl), (gB_w (gBl (show Int32.toInt 1 = 1 by decide)) (by decide) (by decide)), (fun R c1 c2 => c2 r1663)⟩
/- tr_RRow_usesA: result -/
def tr_RRow_usesA (a0_op : Int32) (a0_regA : Int32) (o1 : Int32) : Prop := ∀ R : (Int32) → Prop,
  (a0_op.toInt = 20 → R (0 : Int32)) →
  (a0_op.toInt ≠ 20 → a0_op.toInt = 21 → R (0 : Int32)) →
  (a0_op.toInt ≠ 20 → a0_op.toInt ≠ 21 → a0_op.toInt = 30 → R (0 : Int32)) →
  (a0_op.toInt ≠ 20 → a0_op.toInt ≠ 21 → a0_op.toInt ≠ 30 → a0_regA.toInt = 0 → R (0 : Int32)) →
  (a0_op.toInt ≠ 20 → a0_op.toInt ≠ 21 → a0_op.toInt ≠ 30 → a0_regA.toInt ≠ 0 → R (1 : Int32)) →
  R o1
abbrev ky_1675_Row_usesA : gKey := (cX15_usesA, 1, "SpillForgeModel$Row", (some FieldType.boolean), [], "usesA", fun _ _ => True)
def pp_1675_Row_usesA (D : va_G) (I : FieldType → ClassId) (P1665 : List Nat) (F1666 : Nat → va_E) (q1667 : Nat) (p1668 : Int32) (p1669 : Int32) (p1670 : Int32) (p1671 : Int32) (p1672 : Int32) (p1673 : Int32) (p1674 : Int32) : Option Value → va_W → Nat → Nat → Prop := fun r w dc ds => ∃ (o1688 : Int32), r = some (.int o1688) ∧ w = va_pl P1665 F1666 ∧ dc ≤ 0 ∧ ds ≤ 0 ∧ gB o1688 0 1 ∧ (o1688.toInt = 0 ∨ p1673.toInt = 1) ∧ tr_RRow_usesA p1668 p1673 o1688
set_option maxRecDepth 100000 in
set_option maxHeartbeats 4000000 in
theorem cp_1675_Row_usesA (l : Launch) (hl0 : l.stackTraces = false) (D : va_G) (I : FieldType → ClassId) (P1665 : List Nat) (F1666 : Nat → va_E) (q1667 : Nat) (p1668 : Int32) (p1669 : Int32) (p1670 : Int32) (p1671 : Int32) (p1672 : Int32) (p1673 : Int32) (p1674 : Int32) (hmq1667 : q1667 ∈ P1665) (heq1667 : F1666 q1667 = .inr (20, [.int p1668, .int p1669, .int p1670, .int p1671, .int p1672, .int p1673, .int p1674])) (bp1668 : gB p1668 0 32) (bp1669 : gB p1669 0 1999) (bp1672 : gB p1672 0 1999) (bp1673 : gB p1673 0 1) (bp1674 : gB p1674 0 1) : CtA (gV D I) l yX15_usesA cX15_usesA 1 (some FieldType.boolean) 0 0 0 0 [.ref q1667] (va_pl P1665 F1666) (pp_1675_Row_usesA D I P1665 F1666 q1667 p1668 p1669 p1670 p1671 p1672 p1673 p1674) gNA := by
  refine CtA_of hl0 (by decide) (Nat.le_of_ble_eq_true rfl) ?_
  have bp1670 := gB_any p1670
  have bp1671 := gB_any p1671
  refine G_aload_n 0 dr_cX15_usesA_0 rfl ?_
  refine Gp_get 0 hmq1667 heq1667 dr_cX15_usesA_1 (gk_X15 D I) (Nat.le_of_ble_eq_true rfl) wr_9_175 rfl ?_
  refine G_bipush 20 dr_cX15_usesA_4 (by decide +kernel) ?_
  refine G_icmp_eq 38 dr_cX15_usesA_6 (by decide +kernel) (fun hc1676 => ?_) (fun hc1676 => ?_)
  · have r1677 : p1668.toInt = 20 := gj_eq hc1676 (show Int32.toInt 20 = 20 by decide)
    have bp1668' : gB p1668 20 20 := ⟨by omega, by omega⟩
    refine G_iconst 0 dr_cX15_usesA_38 (by decide +kernel) ?_
    exact G_zretA FieldType.boolean dr_cX15_usesA_39 rfl rfl (Nat.le_of_ble_eq_true rfl) (Nat.le_of_ble_eq_true rfl) ⟨0, rfl, rfl, (Nat.le_of_ble_eq_true rfl), (Nat.le_of_ble_eq_true rfl), (gB_w (gBl (show Int32.toInt 0 = 0 by decide)) (by decide) (by decide)), (by have qa0 : Int32.toInt 0 = 0 := (by decide); omega), (fun R c1 c2 c3 c4 c5 => c1 r1677)⟩
  · have r1678 : p1668.toInt ≠ 20 := gj_neq hc1676 (show Int32.toInt 20 = 20 by decide)
    refine G_aload_n 0 dr_cX15_usesA_9 rfl ?_
    refine Gp_get 0 hmq1667 heq1667 dr_cX15_usesA_10 (gk_X15 D I) (Nat.le_of_ble_eq_true rfl) wr_9_175 rfl ?_
    refine G_bipush 21 dr_cX15_usesA_13 (by decide +kernel) ?_
    refine G_icmp_eq 38 dr_cX15_usesA_15 (by decide +kernel) (fun hc1679 => ?_) (fun hc1679 => ?_)
    · have r1680 : p1668.toInt = 21 := gj_eq hc1679 (show Int32.toInt 21 = 21 by decide)
      have bp1668' : gB p1668 21 21 := ⟨by omega, by omega⟩
      refine G_iconst 0 dr_cX15_usesA_38 (by decide +kernel) ?_
      exact G_zretA FieldType.boolean dr_cX15_usesA_39 rfl rfl (Nat.le_of_ble_eq_true rfl) (Nat.le_of_ble_eq_true rfl) ⟨0, rfl, rfl, (Nat.le_of_ble_eq_true rfl), (Nat.le_of_ble_eq_true rfl), (gB_w (gBl (show Int32.toInt 0 = 0 by decide)) (by decide) (by decide)), (by have qa0 : Int32.toInt 0 = 0 := (by decide); omega), (fun R c1 c2 c3 c4 c5 => c2 r1678 r1680)⟩
    · have r1681 : p1668.toInt ≠ 21 := gj_neq hc1679 (show Int32.toInt 21 = 21 by decide)
      refine G_aload_n 0 dr_cX15_usesA_18 rfl ?_
      refine Gp_get 0 hmq1667 heq1667 dr_cX15_usesA_19 (gk_X15 D I) (Nat.le_of_ble_eq_true rfl) wr_9_175 rfl ?_
      refine G_bipush 30 dr_cX15_usesA_22 (by decide +kernel) ?_
      refine G_icmp_eq 38 dr_cX15_usesA_24 (by decide +kernel) (fun hc1682 => ?_) (fun hc1682 => ?_)
      · have r1683 : p1668.toInt = 30 := gj_eq hc1682 (show Int32.toInt 30 = 30 by decide)
        have bp1668' : gB p1668 30 30 := ⟨by omega, by omega⟩
        refine G_iconst 0 dr_cX15_usesA_38 (by decide +kernel) ?_
        exact G_zretA FieldType.boolean dr_cX15_usesA_39 rfl rfl (Nat.le_of_ble_eq_true rfl) (Nat.le_of_ble_eq_true rfl) ⟨0, rfl, rfl, (Nat.le_of_ble_eq_true rfl), (Nat.le_of_ble_eq_true rfl), (gB_w (gBl (show Int32.toInt 0 = 0 by decide)) (by decide) (by decide)), (by have qa0 : Int32.toInt 0 = 0 := (by decide); omega), (fun R c1 c2 c3 c4 c5 => c3 r1678 r1681 r1683)⟩
      · have r1684 : p1668.toInt ≠ 30 := gj_neq hc1682 (show Int32.toInt 30 = 30 by decide)
        refine G_aload_n 0 dr_cX15_usesA_27 rfl ?_
        refine Gp_get 5 hmq1667 heq1667 dr_cX15_usesA_28 (gk_X15 D I) (Nat.le_of_ble_eq_true rfl) wr_9_195 rfl ?_
        refine G_if_eq 38 dr_cX15_usesA_31 (by decide +kernel) (fun hc1685 => ?_) (fun hc1685 => ?_)
        · have r1686 : p1673.toInt = 0 := gj_eq hc1685 (show Int32.toInt 0 = 0 by decide)
          have bp1673' : gB p1673 0 0 := ⟨by omega, by omega⟩
          refine G_iconst 0 dr_cX15_usesA_38 (by decide +kernel) ?_
          exact G_zretA FieldType.boolean dr_cX15_usesA_39 rfl rfl (Nat.le_of_ble_eq_true rfl) (Nat.le_of_ble_eq_true rfl) ⟨0, rfl, rfl, (Nat.le_of_ble_eq_true rfl), (Nat.le_of_ble_eq_true rfl), (gB_w (gBl (show Int32.toInt 0 = 0 by decide)) (by decide) (by decide)), (by have qa0 : Int32.toInt 0 = 0 := (by decide); omega), (fun R c1 c2 c3 c4 c5 => c4 r1678 r1681 r1684 r1686)⟩
        · have r1687 : p1673.toInt ≠ 0 := gj_neq hc1685 (show Int32.toInt 0 = 0 by decide)
          have bp1673' : gB p1673 1 1 := ⟨by omega, by omega⟩
          refine G_iconst 1 dr_cX15_usesA_34 (by decide +kernel) ?_
          refine G_goto 39 dr_cX15_usesA_35 (by decide +kernel) ?_
          exact G_zretA FieldType.boolean dr_cX15_usesA_39 rfl rfl (Nat.le_of_ble_eq_true rfl) (Nat.le_of_ble_eq_true rfl) ⟨1, rfl, rfl, (Nat.le_of_ble_eq_true rfl), (Nat.le_of_ble_eq_true rfl), (gB_w (gBl (show Int32.toInt 1 = 1 by decide)) (by decide) (by decide)), (by have qa0 : Int32.toInt 1 = 1 := (by decide); omega), (fun R c1 c2 c3 c4 c5 => c5 r1678 r1681 r1684 r1687)⟩
/- tr_RRow_usesB: result -/
def tr_RRow_usesB (a0_op : Int32) (a0_regB : Int32) (o1 : Int32) : Prop := ∀ R : (Int32) → Prop,
  (a0_op.toInt ≤ 0 → R (0 : Int32)) →
  (0 < a0_op.toInt → 20 ≤ a0_op.toInt → R (0 : Int32)) →
  (0 < a0_op.toInt → a0_op.toInt < 20 → a0_regB.toInt = 0 → R (0 : Int32)) →
  (0 < a0_op.toInt → a0_op.toInt < 20 → a0_regB.toInt ≠ 0 → R (1 : Int32)) →
  R o1
abbrev ky_1699_Row_usesB : gKey := (cX15_usesB, 1, "SpillForgeModel$Row", (some FieldType.boolean), [], "usesB", fun _ _ => True)
def pp_1699_Row_usesB (D : va_G) (I : FieldType → ClassId) (P1689 : List Nat) (F1690 : Nat → va_E) (q1691 : Nat) (p1692 : Int32) (p1693 : Int32) (p1694 : Int32) (p1695 : Int32) (p1696 : Int32) (p1697 : Int32) (p1698 : Int32) : Option Value → va_W → Nat → Nat → Prop := fun r w dc ds => ∃ (o1709 : Int32), r = some (.int o1709) ∧ w = va_pl P1689 F1690 ∧ dc ≤ 0 ∧ ds ≤ 0 ∧ gB o1709 0 1 ∧ (o1709.toInt = 0 ∨ p1698.toInt = 1) ∧ tr_RRow_usesB p1692 p1698 o1709
set_option maxRecDepth 100000 in
set_option maxHeartbeats 4000000 in
theorem cp_1699_Row_usesB (l : Launch) (hl0 : l.stackTraces = false) (D : va_G) (I : FieldType → ClassId) (P1689 : List Nat) (F1690 : Nat → va_E) (q1691 : Nat) (p1692 : Int32) (p1693 : Int32) (p1694 : Int32) (p1695 : Int32) (p1696 : Int32) (p1697 : Int32) (p1698 : Int32) (hmq1691 : q1691 ∈ P1689) (heq1691 : F1690 q1691 = .inr (20, [.int p1692, .int p1693, .int p1694, .int p1695, .int p1696, .int p1697, .int p1698])) (bp1692 : gB p1692 0 32) (bp1693 : gB p1693 0 1999) (bp1696 : gB p1696 0 1999) (bp1697 : gB p1697 0 1) (bp1698 : gB p1698 0 1) : CtA (gV D I) l yX15_usesB cX15_usesB 1 (some FieldType.boolean) 0 0 0 0 [.ref q1691] (va_pl P1689 F1690) (pp_1699_Row_usesB D I P1689 F1690 q1691 p1692 p1693 p1694 p1695 p1696 p1697 p1698) gNA := by
  refine CtA_of hl0 (by decide) (Nat.le_of_ble_eq_true rfl) ?_
  have bp1694 := gB_any p1694
  have bp1695 := gB_any p1695
  refine G_aload_n 0 dr_cX15_usesB_0 rfl ?_
  refine Gp_get 0 hmq1691 heq1691 dr_cX15_usesB_1 (gk_X15 D I) (Nat.le_of_ble_eq_true rfl) wr_9_175 rfl ?_
  refine G_if_le 27 dr_cX15_usesB_4 (by decide +kernel) (fun hc1700 => ?_) (fun hc1700 => ?_)
  · have r1701 : p1692.toInt ≤ 0 := gj_le hc1700 (show Int32.toInt 0 = 0 by decide)
    have bp1692' : gB p1692 0 0 := ⟨by omega, by omega⟩
    refine G_iconst 0 dr_cX15_usesB_27 (by decide +kernel) ?_
    exact G_zretA FieldType.boolean dr_cX15_usesB_28 rfl rfl (Nat.le_of_ble_eq_true rfl) (Nat.le_of_ble_eq_true rfl) ⟨0, rfl, rfl, (Nat.le_of_ble_eq_true rfl), (Nat.le_of_ble_eq_true rfl), (gB_w (gBl (show Int32.toInt 0 = 0 by decide)) (by decide) (by decide)), (by have qa0 : Int32.toInt 0 = 0 := (by decide); omega), (fun R c1 c2 c3 c4 => c1 r1701)⟩
  · have r1702 : 0 < p1692.toInt := gj_nle hc1700 (show Int32.toInt 0 = 0 by decide)
    have bp1692' : gB p1692 1 32 := ⟨by omega, by omega⟩
    refine G_aload_n 0 dr_cX15_usesB_7 rfl ?_
    refine Gp_get 0 hmq1691 heq1691 dr_cX15_usesB_8 (gk_X15 D I) (Nat.le_of_ble_eq_true rfl) wr_9_175 rfl ?_
    refine G_bipush 20 dr_cX15_usesB_11 (by decide +kernel) ?_
    refine G_icmp_ge 27 dr_cX15_usesB_13 (by decide +kernel) (fun hc1703 => ?_) (fun hc1703 => ?_)
    · have r1704 : 20 ≤ p1692.toInt := gj_leL hc1703 (show Int32.toInt 20 = 20 by decide)
      have bp1692'' : gB p1692 20 32 := ⟨by omega, by omega⟩
      refine G_iconst 0 dr_cX15_usesB_27 (by decide +kernel) ?_
      exact G_zretA FieldType.boolean dr_cX15_usesB_28 rfl rfl (Nat.le_of_ble_eq_true rfl) (Nat.le_of_ble_eq_true rfl) ⟨0, rfl, rfl, (Nat.le_of_ble_eq_true rfl), (Nat.le_of_ble_eq_true rfl), (gB_w (gBl (show Int32.toInt 0 = 0 by decide)) (by decide) (by decide)), (by have qa0 : Int32.toInt 0 = 0 := (by decide); omega), (fun R c1 c2 c3 c4 => c2 r1702 r1704)⟩
    · have r1705 : p1692.toInt < 20 := gj_nleL hc1703 (show Int32.toInt 20 = 20 by decide)
      have bp1692'' : gB p1692 1 19 := ⟨by omega, by omega⟩
      refine G_aload_n 0 dr_cX15_usesB_16 rfl ?_
      refine Gp_get 6 hmq1691 heq1691 dr_cX15_usesB_17 (gk_X15 D I) (Nat.le_of_ble_eq_true rfl) wr_9_199 rfl ?_
      refine G_if_eq 27 dr_cX15_usesB_20 (by decide +kernel) (fun hc1706 => ?_) (fun hc1706 => ?_)
      · have r1707 : p1698.toInt = 0 := gj_eq hc1706 (show Int32.toInt 0 = 0 by decide)
        have bp1698' : gB p1698 0 0 := ⟨by omega, by omega⟩
        refine G_iconst 0 dr_cX15_usesB_27 (by decide +kernel) ?_
        exact G_zretA FieldType.boolean dr_cX15_usesB_28 rfl rfl (Nat.le_of_ble_eq_true rfl) (Nat.le_of_ble_eq_true rfl) ⟨0, rfl, rfl, (Nat.le_of_ble_eq_true rfl), (Nat.le_of_ble_eq_true rfl), (gB_w (gBl (show Int32.toInt 0 = 0 by decide)) (by decide) (by decide)), (by have qa0 : Int32.toInt 0 = 0 := (by decide); omega), (fun R c1 c2 c3 c4 => c3 r1702 r1705 r1707)⟩
      · have r1708 : p1698.toInt ≠ 0 := gj_neq hc1706 (show Int32.toInt 0 = 0 by decide)
        have bp1698' : gB p1698 1 1 := ⟨by omega, by omega⟩
        refine G_iconst 1 dr_cX15_usesB_23 (by decide +kernel) ?_
        refine G_goto 28 dr_cX15_usesB_24 (by decide +kernel) ?_
        exact G_zretA FieldType.boolean dr_cX15_usesB_28 rfl rfl (Nat.le_of_ble_eq_true rfl) (Nat.le_of_ble_eq_true rfl) ⟨1, rfl, rfl, (Nat.le_of_ble_eq_true rfl), (Nat.le_of_ble_eq_true rfl), (gB_w (gBl (show Int32.toInt 1 = 1 by decide)) (by decide) (by decide)), (by have qa0 : Int32.toInt 1 = 1 := (by decide); omega), (fun R c1 c2 c3 c4 => c4 r1702 r1705 r1708)⟩
abbrev ky_1728_Row_put : gKey := (cX15_put, 2, "SpillForgeModel$Row", none, [], "put", fun _ _ => True)
def pp_1728_Row_put (D : va_G) (I : FieldType → ClassId) (P1710 : List Nat) (F1711 : Nat → va_E) (q1712 : Nat) (q1713 : Nat) (p1714 : Int32) (p1715 : Int32) (p1716 : Int32) (p1717 : Int32) (p1718 : Int32) (p1719 : Int32) (p1720 : Int32) (p1721 : Int32) (p1722 : Int32) (p1723 : Int32) (p1724 : Int32) (p1725 : Int32) (p1726 : Int32) (p1727 : Int32) : Option Value → va_W → Nat → Nat → Prop := fun r w dc ds => ∃ (F1772 : Nat → va_E), r = none ∧ w = va_pl P1710 F1772 ∧ rFr [q1712] P1710 F1711 F1772 ∧ F1772 q1712 = .inr (20, [.int p1721, .int p1722, .int p1723, .int p1724, .int p1725, .int p1726, .int p1727]) ∧ F1772 q1713 = .inr (20, [.int p1721, .int p1722, .int p1723, .int p1724, .int p1725, .int p1726, .int p1727]) ∧ dc ≤ 0 ∧ ds ≤ 0
set_option maxRecDepth 100000 in
set_option maxHeartbeats 4000000 in
theorem cp_1728_Row_put (l : Launch) (hl0 : l.stackTraces = false) (D : va_G) (I : FieldType → ClassId) (P1710 : List Nat) (F1711 : Nat → va_E) (q1712 : Nat) (q1713 : Nat) (p1714 : Int32) (p1715 : Int32) (p1716 : Int32) (p1717 : Int32) (p1718 : Int32) (p1719 : Int32) (p1720 : Int32) (p1721 : Int32) (p1722 : Int32) (p1723 : Int32) (p1724 : Int32) (p1725 : Int32) (p1726 : Int32) (p1727 : Int32) (hmq1712 : q1712 ∈ P1710) (hmq1713 : q1713 ∈ P1710) (heq1712 : F1711 q1712 = .inr (20, [.int p1714, .int p1715, .int p1716, .int p1717, .int p1718, .int p1719, .int p1720])) (heq1713 : F1711 q1713 = .inr (20, [.int p1721, .int p1722, .int p1723, .int p1724, .int p1725, .int p1726, .int p1727])) (hneq1712q1713 : q1712 ≠ q1713) (bp1714 : gB p1714 0 32) (bp1715 : gB p1715 0 1999) (bp1718 : gB p1718 0 1999) (bp1719 : gB p1719 0 1) (bp1720 : gB p1720 0 1) (bp1721 : gB p1721 0 32) (bp1722 : gB p1722 0 1999) (bp1725 : gB p1725 0 1999) (bp1726 : gB p1726 0 1) (bp1727 : gB p1727 0 1) : CtA (gV D I) l yX15_put cX15_put 2 none 0 0 0 0 [.ref q1712, .ref q1713] (va_pl P1710 F1711) (pp_1728_Row_put D I P1710 F1711 q1712 q1713 p1714 p1715 p1716 p1717 p1718 p1719 p1720 p1721 p1722 p1723 p1724 p1725 p1726 p1727) gNA := by
  refine CtA_of hl0 (by decide) (Nat.le_of_ble_eq_true rfl) ?_
  have bp1716 := gB_any p1716
  have bp1717 := gB_any p1717
  have bp1723 := gB_any p1723
  have bp1724 := gB_any p1724
  refine G_aload_n 0 dr_cX15_put_0 rfl ?_
  refine G_aload_n 1 dr_cX15_put_1 rfl ?_
  refine Gp_get 0 hmq1713 heq1713 dr_cX15_put_2 (gk_X15 D I) (Nat.le_of_ble_eq_true rfl) wr_9_175 rfl ?_
  refine Gp_put 0 hmq1712 heq1712 dr_cX15_put_5 (gk_X15 D I) (Nat.le_of_ble_eq_true rfl) wr_9_175 rfl rfl rfl (Nat.le_of_ble_eq_true rfl) (fun F1729 e1730 n1731 => ?_)
  have he1732 : F1729 q1713 = .inr (20, [.int p1721, .int p1722, .int p1723, .int p1724, .int p1725, .int p1726, .int p1727]) := (n1731 q1713 (Ne.symm hneq1712q1713)).trans heq1713
  have he1733 : F1729 q1712 = .inr (20, [.int p1721, .int p1715, .int p1716, .int p1717, .int p1718, .int p1719, .int p1720]) := e1730
  have hfr1734 : rFr [q1712] P1710 F1711 F1729 := rFr_put (rFr_rf (W := []) (P := P1710) (F := F1711)) n1731
  refine G_aload_n 0 dr_cX15_put_8 rfl ?_
  refine G_aload_n 1 dr_cX15_put_9 rfl ?_
  refine Gp_get 1 hmq1713 he1732 dr_cX15_put_10 (gk_X15 D I) (Nat.le_of_ble_eq_true rfl) wr_9_181 rfl ?_
  refine Gp_put 1 hmq1712 he1733 dr_cX15_put_13 (gk_X15 D I) (Nat.le_of_ble_eq_true rfl) wr_9_181 rfl rfl rfl (Nat.le_of_ble_eq_true rfl) (fun F1735 e1736 n1737 => ?_)
  have he1738 : F1735 q1713 = .inr (20, [.int p1721, .int p1722, .int p1723, .int p1724, .int p1725, .int p1726, .int p1727]) := (n1737 q1713 (Ne.symm hneq1712q1713)).trans he1732
  have he1739 : F1735 q1712 = .inr (20, [.int p1721, .int p1722, .int p1716, .int p1717, .int p1718, .int p1719, .int p1720]) := e1736
  have hfr1740 : rFr [q1712] P1710 F1711 F1735 := rFr_put' List.mem_cons_self hfr1734 n1737
  refine G_aload_n 0 dr_cX15_put_16 rfl ?_
  refine G_aload_n 1 dr_cX15_put_17 rfl ?_
  refine Gp_get 2 hmq1713 he1738 dr_cX15_put_18 (gk_X15 D I) (Nat.le_of_ble_eq_true rfl) wr_9_185 rfl ?_
  refine Gp_put 2 hmq1712 he1739 dr_cX15_put_21 (gk_X15 D I) (Nat.le_of_ble_eq_true rfl) wr_9_185 rfl rfl rfl (Nat.le_of_ble_eq_true rfl) (fun F1741 e1742 n1743 => ?_)
  have he1744 : F1741 q1713 = .inr (20, [.int p1721, .int p1722, .int p1723, .int p1724, .int p1725, .int p1726, .int p1727]) := (n1743 q1713 (Ne.symm hneq1712q1713)).trans he1738
  have he1745 : F1741 q1712 = .inr (20, [.int p1721, .int p1722, .int p1723, .int p1717, .int p1718, .int p1719, .int p1720]) := e1742
  have hfr1746 : rFr [q1712] P1710 F1711 F1741 := rFr_put' List.mem_cons_self hfr1740 n1743
  refine G_aload_n 0 dr_cX15_put_24 rfl ?_
  refine G_aload_n 1 dr_cX15_put_25 rfl ?_
  refine Gp_get 3 hmq1713 he1744 dr_cX15_put_26 (gk_X15 D I) (Nat.le_of_ble_eq_true rfl) wr_9_189 rfl ?_
  refine Gp_put 3 hmq1712 he1745 dr_cX15_put_29 (gk_X15 D I) (Nat.le_of_ble_eq_true rfl) wr_9_189 rfl rfl rfl (Nat.le_of_ble_eq_true rfl) (fun F1747 e1748 n1749 => ?_)
  have he1750 : F1747 q1713 = .inr (20, [.int p1721, .int p1722, .int p1723, .int p1724, .int p1725, .int p1726, .int p1727]) := (n1749 q1713 (Ne.symm hneq1712q1713)).trans he1744
  have he1751 : F1747 q1712 = .inr (20, [.int p1721, .int p1722, .int p1723, .int p1724, .int p1718, .int p1719, .int p1720]) := e1748
  have hfr1752 : rFr [q1712] P1710 F1711 F1747 := rFr_put' List.mem_cons_self hfr1746 n1749
  refine G_aload_n 0 dr_cX15_put_32 rfl ?_
  refine G_aload_n 1 dr_cX15_put_33 rfl ?_
  refine Gp_get 5 hmq1713 he1750 dr_cX15_put_34 (gk_X15 D I) (Nat.le_of_ble_eq_true rfl) wr_9_195 rfl ?_
  refine Gp_put 5 hmq1712 he1751 dr_cX15_put_37 (gk_X15 D I) (Nat.le_of_ble_eq_true rfl) wr_9_195 rfl (gN_bool bp1726) (gT_bool bp1726) (Nat.le_of_ble_eq_true rfl) (fun F1753 e1754 n1755 => ?_)
  have he1756 : F1753 q1713 = .inr (20, [.int p1721, .int p1722, .int p1723, .int p1724, .int p1725, .int p1726, .int p1727]) := (n1755 q1713 (Ne.symm hneq1712q1713)).trans he1750
  have he1757 : F1753 q1712 = .inr (20, [.int p1721, .int p1722, .int p1723, .int p1724, .int p1718, .int p1726, .int p1720]) := e1754
  have hfr1758 : rFr [q1712] P1710 F1711 F1753 := rFr_put' List.mem_cons_self hfr1752 n1755
  refine G_aload_n 0 dr_cX15_put_40 rfl ?_
  refine G_aload_n 1 dr_cX15_put_41 rfl ?_
  refine Gp_get 6 hmq1713 he1756 dr_cX15_put_42 (gk_X15 D I) (Nat.le_of_ble_eq_true rfl) wr_9_199 rfl ?_
  refine Gp_put 6 hmq1712 he1757 dr_cX15_put_45 (gk_X15 D I) (Nat.le_of_ble_eq_true rfl) wr_9_199 rfl (gN_bool bp1727) (gT_bool bp1727) (Nat.le_of_ble_eq_true rfl) (fun F1759 e1760 n1761 => ?_)
  have he1762 : F1759 q1713 = .inr (20, [.int p1721, .int p1722, .int p1723, .int p1724, .int p1725, .int p1726, .int p1727]) := (n1761 q1713 (Ne.symm hneq1712q1713)).trans he1756
  have he1763 : F1759 q1712 = .inr (20, [.int p1721, .int p1722, .int p1723, .int p1724, .int p1718, .int p1726, .int p1727]) := e1760
  have hfr1764 : rFr [q1712] P1710 F1711 F1759 := rFr_put' List.mem_cons_self hfr1758 n1761
  refine G_aload_n 0 dr_cX15_put_48 rfl ?_
  refine G_aload_n 1 dr_cX15_put_49 rfl ?_
  refine Gp_get 4 hmq1713 he1762 dr_cX15_put_50 (gk_X15 D I) (Nat.le_of_ble_eq_true rfl) wr_9_194 rfl ?_
  refine Gp_put 4 hmq1712 he1763 dr_cX15_put_53 (gk_X15 D I) (Nat.le_of_ble_eq_true rfl) wr_9_194 rfl rfl rfl (Nat.le_of_ble_eq_true rfl) (fun F1765 e1766 n1767 => ?_)
  have he1768 : F1765 q1713 = .inr (20, [.int p1721, .int p1722, .int p1723, .int p1724, .int p1725, .int p1726, .int p1727]) := (n1767 q1713 (Ne.symm hneq1712q1713)).trans he1762
  have he1769 : F1765 q1712 = .inr (20, [.int p1721, .int p1722, .int p1723, .int p1724, .int p1725, .int p1726, .int p1727]) := e1766
  have hfr1770 : rFr [q1712] P1710 F1711 F1765 := rFr_put' List.mem_cons_self hfr1764 n1767
  exact G_vretA dr_cX15_put_56 rfl (Nat.le_of_ble_eq_true rfl) (Nat.le_of_ble_eq_true rfl) ⟨F1765, rfl, rfl, hfr1770, he1769, he1768, (Nat.le_of_ble_eq_true rfl), (Nat.le_of_ble_eq_true rfl)⟩
/- tr_RModel_setOf: result -/
def tr_RModel_setOf (a1 : Int32) (a0_op : Int32) (a0_t : Int32) (a0_slot : Int32) (o1 : Int32) : Prop := ∀ R : (Int32) → Prop,
  (∀ (x1 : Int32), a1.toInt = 0 → gB x1 0 1 → tr_RRow_sets a0_op x1 → x1.toInt = 0 → R (-1 : Int32)) →
  (∀ (x1 : Int32), a1.toInt = 0 → gB x1 0 1 → tr_RRow_sets a0_op x1 → x1.toInt ≠ 0 → R a0_t) →
  (a1.toInt ≠ 0 → a0_op.toInt ≠ 23 → R (-1 : Int32)) →
  (a1.toInt ≠ 0 → a0_op.toInt = 23 → R a0_slot) →
  R o1
abbrev ky_1784_SpillForgeModel_setOf : gKey := (cX17_setOf, 2, "SpillForgeModel", (some FieldType.int), [], "setOf", fun _ _ => True)
def pp_1784_SpillForgeModel_setOf (D : va_G) (I : FieldType → ClassId) (P1773 : List Nat) (F1774 : Nat → va_E) (q1775 : Nat) (p1776 : Int32) (p1777 : Int32) (p1778 : Int32) (p1779 : Int32) (p1780 : Int32) (p1781 : Int32) (p1782 : Int32) (p1783 : Int32) : Option Value → va_W → Nat → Nat → Prop := fun r w dc ds => ∃ (o1801 : Int32), r = some (.int o1801) ∧ w = va_pl P1773 F1774 ∧ dc ≤ 0 ∧ ds ≤ 0 ∧ gB o1801 (-1) 1999 ∧ tr_RModel_setOf p1776 p1777 p1778 p1781 o1801
set_option maxRecDepth 100000 in
set_option maxHeartbeats 4000000 in
theorem cp_1784_SpillForgeModel_setOf (l : Launch) (hl0 : l.stackTraces = false) (D : va_G) (I : FieldType → ClassId) (P1773 : List Nat) (F1774 : Nat → va_E) (q1775 : Nat) (p1776 : Int32) (p1777 : Int32) (p1778 : Int32) (p1779 : Int32) (p1780 : Int32) (p1781 : Int32) (p1782 : Int32) (p1783 : Int32) (hmq1775 : q1775 ∈ P1773) (heq1775 : F1774 q1775 = .inr (20, [.int p1777, .int p1778, .int p1779, .int p1780, .int p1781, .int p1782, .int p1783])) (bp1776 : gB p1776 0 1) (bp1777 : gB p1777 0 32) (bp1778 : gB p1778 0 1999) (bp1781 : gB p1781 0 1999) (bp1782 : gB p1782 0 1) (bp1783 : gB p1783 0 1) : CtA (gV D I) l yX17_setOf cX17_setOf 2 (some FieldType.int) 1 20 0 0 [.ref q1775, .int p1776] (va_pl P1773 F1774) (pp_1784_SpillForgeModel_setOf D I P1773 F1774 q1775 p1776 p1777 p1778 p1779 p1780 p1781 p1782 p1783) gNA := by
  refine CtA_of hl0 (by decide) (Nat.le_of_ble_eq_true rfl) ?_
  have bp1779 := gB_any p1779
  have bp1780 := gB_any p1780
  refine G_iload_n 1 dr_cX17_setOf_0 rfl ?_
  refine G_if_eq 24 dr_cX17_setOf_1 (by decide +kernel) (fun hc1785 => ?_) (fun hc1785 => ?_)
  · have r1786 : p1776.toInt = 0 := gj_eq hc1785 (show Int32.toInt 0 = 0 by decide)
    have bp1776' : gB p1776 0 0 := ⟨by omega, by omega⟩
    refine G_aload_n 0 dr_cX17_setOf_24 rfl ?_
    refine Gw_callV (As := []) (gV_ok D I) (cp_1660_Row_sets l hl0 D I P1773 F1774 q1775 p1777 p1778 p1779 p1780 p1781 p1782 p1783 hmq1775 heq1775 bp1777 bp1778 bp1781 bp1782 bp1783) dr_cX17_setOf_25 ⟨wr_10_181, wr_1_39, wr_10_184, by decide, rfl, (Nat.le_of_ble_eq_true rfl), (Nat.le_of_ble_eq_true rfl)⟩ wr_10_182 wr_10_183 hmq1775 heq1775 rfl (show 0 + 0 ≤ 0 by first | omega | decide) (show 0 + 0 ≤ 0 by first | omega | decide) (Nat.le_of_ble_eq_true rfl) (fun r1790 w1791 dc1787 ds1788 hp1789 => ?_) (fun _ _ _ _ _ z => z.elim)
    obtain ⟨o1792, rfl, rfl, hdc, hds, bo1792, ht1793⟩ := hp1789
    change G _ _ _ _ _ _ _ (.int o1792 :: _) _ _ _
    refine G_widen (cs' := 0) (sl' := 0) (by omega) (by omega) ?_
    refine G_if_eq 38 dr_cX17_setOf_28 (by decide +kernel) (fun hc1794 => ?_) (fun hc1794 => ?_)
    · have r1795 : o1792.toInt = 0 := gj_eq hc1794 (show Int32.toInt 0 = 0 by decide)
      have bo1792' : gB o1792 0 0 := ⟨by omega, by omega⟩
      refine G_iconst (-1) dr_cX17_setOf_38 (by decide +kernel) ?_
      exact G_iretA dr_cX17_setOf_39 rfl (Nat.le_of_ble_eq_true rfl) (Nat.le_of_ble_eq_true rfl) ⟨(-1), rfl, rfl, (Nat.le_of_ble_eq_true rfl), (Nat.le_of_ble_eq_true rfl), (gB_w (gBl (show Int32.toInt (-1) = (-1) by decide)) (by decide) (by decide)), (fun R c1 c2 c3 c4 => c1 o1792 r1786 bo1792 ht1793 r1795)⟩
    · have r1796 : o1792.toInt ≠ 0 := gj_neq hc1794 (show Int32.toInt 0 = 0 by decide)
      have bo1792' : gB o1792 1 1 := ⟨by omega, by omega⟩
      refine G_aload_n 0 dr_cX17_setOf_31 rfl ?_
      refine Gp_get 1 hmq1775 heq1775 dr_cX17_setOf_32 (gk_X15 D I) (Nat.le_of_ble_eq_true rfl) wr_9_182 rfl ?_
      refine G_goto 39 dr_cX17_setOf_35 (by decide +kernel) ?_
      exact G_iretA dr_cX17_setOf_39 rfl (Nat.le_of_ble_eq_true rfl) (Nat.le_of_ble_eq_true rfl) ⟨p1778, rfl, rfl, (Nat.le_of_ble_eq_true rfl), (Nat.le_of_ble_eq_true rfl), (gB_w bp1778 (by decide) (by decide)), (fun R c1 c2 c3 c4 => c2 o1792 r1786 bo1792 ht1793 r1796)⟩
  · have r1797 : p1776.toInt ≠ 0 := gj_neq hc1785 (show Int32.toInt 0 = 0 by decide)
    have bp1776' : gB p1776 1 1 := ⟨by omega, by omega⟩
    refine G_aload_n 0 dr_cX17_setOf_4 rfl ?_
    refine Gp_get 0 hmq1775 heq1775 dr_cX17_setOf_5 (gk_X15 D I) (Nat.le_of_ble_eq_true rfl) wr_9_177 rfl ?_
    refine G_bipush 23 dr_cX17_setOf_8 (by decide +kernel) ?_
    refine G_icmp_ne 20 dr_cX17_setOf_10 (by decide +kernel) (fun hc1798 => ?_) (fun hc1798 => ?_)
    · have r1799 : p1777.toInt ≠ 23 := gj_neq hc1798 (show Int32.toInt 23 = 23 by decide)
      refine G_iconst (-1) dr_cX17_setOf_20 (by decide +kernel) ?_
      refine G_goto 39 dr_cX17_setOf_21 (by decide +kernel) ?_
      exact G_iretA dr_cX17_setOf_39 rfl (Nat.le_of_ble_eq_true rfl) (Nat.le_of_ble_eq_true rfl) ⟨(-1), rfl, rfl, (Nat.le_of_ble_eq_true rfl), (Nat.le_of_ble_eq_true rfl), (gB_w (gBl (show Int32.toInt (-1) = (-1) by decide)) (by decide) (by decide)), (fun R c1 c2 c3 c4 => c3 r1797 r1799)⟩
    · have r1800 : p1777.toInt = 23 := gj_eq hc1798 (show Int32.toInt 23 = 23 by decide)
      have bp1777' : gB p1777 23 23 := ⟨by omega, by omega⟩
      refine G_aload_n 0 dr_cX17_setOf_13 rfl ?_
      refine Gp_get 4 hmq1775 heq1775 dr_cX17_setOf_14 (gk_X15 D I) (Nat.le_of_ble_eq_true rfl) wr_9_193 rfl ?_
      refine G_goto 39 dr_cX17_setOf_17 (by decide +kernel) ?_
      exact G_iretA dr_cX17_setOf_39 rfl (Nat.le_of_ble_eq_true rfl) (Nat.le_of_ble_eq_true rfl) ⟨p1781, rfl, rfl, (Nat.le_of_ble_eq_true rfl), (Nat.le_of_ble_eq_true rfl), (gB_w bp1781 (by decide) (by decide)), (fun R c1 c2 c3 c4 => c4 r1797 r1800)⟩
/- tr_RBlock_ways: result -/
def tr_RBlock_ways (a0_first : Int32) (a0_second : Int32) (a0_end_op : Int32) (o1 : Int32) : Prop := ∀ R : (Int32) → Prop,
  (a0_end_op.toInt ≠ 32 → a0_end_op.toInt = 30 → R (1 : Int32)) →
  (a0_end_op.toInt ≠ 32 → a0_end_op.toInt ≠ 30 → a0_first.toInt ≠ a0_second.toInt → R (2 : Int32)) →
  (a0_end_op.toInt ≠ 32 → a0_end_op.toInt ≠ 30 → a0_first.toInt = a0_second.toInt → R (1 : Int32)) →
  (a0_end_op.toInt = 32 → R (0 : Int32)) →
  R o1
abbrev ky_1816_Block_ways : gKey := (cX12_ways, 1, "SpillForgeModel$Block", (some FieldType.int), [], "ways", fun _ _ => True)
def pp_1816_Block_ways (D : va_G) (I : FieldType → ClassId) (P1802 : List Nat) (F1803 : Nat → va_E) (q1804 : Nat) (q1805 : Nat) (qo1806 : Nat) (p1807 : Int32) (p1808 : Int32) (p1809 : Int32) (p1810 : Int32) (p1811 : Int32) (p1812 : Int32) (p1813 : Int32) (p1814 : Int32) (p1815 : Int32) : Option Value → va_W → Nat → Nat → Prop := fun r w dc ds => ∃ (o1826 : Int32), r = some (.int o1826) ∧ w = va_pl P1802 F1803 ∧ dc ≤ 0 ∧ ds ≤ 0 ∧ gB o1826 0 2 ∧ tr_RBlock_ways p1807 p1808 p1809 o1826
set_option maxRecDepth 100000 in
set_option maxHeartbeats 4000000 in
theorem cp_1816_Block_ways (l : Launch) (hl0 : l.stackTraces = false) (D : va_G) (I : FieldType → ClassId) (P1802 : List Nat) (F1803 : Nat → va_E) (q1804 : Nat) (q1805 : Nat) (qo1806 : Nat) (p1807 : Int32) (p1808 : Int32) (p1809 : Int32) (p1810 : Int32) (p1811 : Int32) (p1812 : Int32) (p1813 : Int32) (p1814 : Int32) (p1815 : Int32) (hmq1804 : q1804 ∈ P1802) (hmq1805 : q1805 ∈ P1802) (heq1804 : F1803 q1804 = .inr (17, [.ref qo1806, .ref q1805, .int p1807, .int p1808])) (heq1805 : F1803 q1805 = .inr (20, [.int p1809, .int p1810, .int p1811, .int p1812, .int p1813, .int p1814, .int p1815])) (bp1807 : gB p1807 0 39) (bp1808 : gB p1808 0 39) (bp1809 : gB p1809 0 32) (bp1810 : gB p1810 0 1999) (bp1813 : gB p1813 0 1999) (bp1814 : gB p1814 0 1) (bp1815 : gB p1815 0 1) : CtA (gV D I) l yX12_ways cX12_ways 1 (some FieldType.int) 0 0 0 0 [.ref q1804] (va_pl P1802 F1803) (pp_1816_Block_ways D I P1802 F1803 q1804 q1805 qo1806 p1807 p1808 p1809 p1810 p1811 p1812 p1813 p1814 p1815) gNA := by
  refine CtA_of hl0 (by decide) (Nat.le_of_ble_eq_true rfl) ?_
  have bp1811 := gB_any p1811
  have bp1812 := gB_any p1812
  refine G_aload_n 0 dr_cX12_ways_0 rfl ?_
  refine Gp_get 1 hmq1804 heq1804 dr_cX12_ways_1 (gk_X12 D I) (Nat.le_of_ble_eq_true rfl) wr_9_222 rfl ?_
  refine Gp_get 0 hmq1805 heq1805 dr_cX12_ways_4 (gk_X15 D I) (Nat.le_of_ble_eq_true rfl) wr_9_176 rfl ?_
  refine G_bipush 32 dr_cX12_ways_7 (by decide +kernel) ?_
  refine G_icmp_ne 16 dr_cX12_ways_9 (by decide +kernel) (fun hc1817 => ?_) (fun hc1817 => ?_)
  · have r1818 : p1809.toInt ≠ 32 := gj_neq hc1817 (show Int32.toInt 32 = 32 by decide)
    have bp1809' : gB p1809 0 31 := ⟨by omega, by omega⟩
    refine G_aload_n 0 dr_cX12_ways_16 rfl ?_
    refine Gp_get 1 hmq1804 heq1804 dr_cX12_ways_17 (gk_X12 D I) (Nat.le_of_ble_eq_true rfl) wr_9_222 rfl ?_
    refine Gp_get 0 hmq1805 heq1805 dr_cX12_ways_20 (gk_X15 D I) (Nat.le_of_ble_eq_true rfl) wr_9_176 rfl ?_
    refine G_bipush 30 dr_cX12_ways_23 (by decide +kernel) ?_
    refine G_icmp_eq 39 dr_cX12_ways_25 (by decide +kernel) (fun hc1819 => ?_) (fun hc1819 => ?_)
    · have r1820 : p1809.toInt = 30 := gj_eq hc1819 (show Int32.toInt 30 = 30 by decide)
      have bp1809'' : gB p1809 30 30 := ⟨by omega, by omega⟩
      refine G_iconst 1 dr_cX12_ways_39 (by decide +kernel) ?_
      refine G_goto 44 dr_cX12_ways_40 (by decide +kernel) ?_
      exact G_iretA dr_cX12_ways_44 rfl (Nat.le_of_ble_eq_true rfl) (Nat.le_of_ble_eq_true rfl) ⟨1, rfl, rfl, (Nat.le_of_ble_eq_true rfl), (Nat.le_of_ble_eq_true rfl), (gB_w (gBl (show Int32.toInt 1 = 1 by decide)) (by decide) (by decide)), (fun R c1 c2 c3 c4 => c1 r1818 r1820)⟩
    · have r1821 : p1809.toInt ≠ 30 := gj_neq hc1819 (show Int32.toInt 30 = 30 by decide)
      refine G_aload_n 0 dr_cX12_ways_28 rfl ?_
      refine Gp_get 2 hmq1804 heq1804 dr_cX12_ways_29 (gk_X12 D I) (Nat.le_of_ble_eq_true rfl) wr_9_226 rfl ?_
      refine G_aload_n 0 dr_cX12_ways_32 rfl ?_
      refine Gp_get 3 hmq1804 heq1804 dr_cX12_ways_33 (gk_X12 D I) (Nat.le_of_ble_eq_true rfl) wr_9_230 rfl ?_
      refine G_icmp_ne 43 dr_cX12_ways_36 (by decide +kernel) (fun hc1822 => ?_) (fun hc1822 => ?_)
      · have r1823 : p1807.toInt ≠ p1808.toInt := gC_ne hc1822
        refine G_iconst 2 dr_cX12_ways_43 (by decide +kernel) ?_
        exact G_iretA dr_cX12_ways_44 rfl (Nat.le_of_ble_eq_true rfl) (Nat.le_of_ble_eq_true rfl) ⟨2, rfl, rfl, (Nat.le_of_ble_eq_true rfl), (Nat.le_of_ble_eq_true rfl), (gB_w (gBl (show Int32.toInt 2 = 2 by decide)) (by decide) (by decide)), (fun R c1 c2 c3 c4 => c2 r1818 r1821 r1823)⟩
      · have r1824 : p1807.toInt = p1808.toInt := gC_eq hc1822
        refine G_iconst 1 dr_cX12_ways_39 (by decide +kernel) ?_
        refine G_goto 44 dr_cX12_ways_40 (by decide +kernel) ?_
        exact G_iretA dr_cX12_ways_44 rfl (Nat.le_of_ble_eq_true rfl) (Nat.le_of_ble_eq_true rfl) ⟨1, rfl, rfl, (Nat.le_of_ble_eq_true rfl), (Nat.le_of_ble_eq_true rfl), (gB_w (gBl (show Int32.toInt 1 = 1 by decide)) (by decide) (by decide)), (fun R c1 c2 c3 c4 => c3 r1818 r1821 r1824)⟩
  · have r1825 : p1809.toInt = 32 := gj_eq hc1817 (show Int32.toInt 32 = 32 by decide)
    have bp1809' : gB p1809 32 32 := ⟨by omega, by omega⟩
    refine G_iconst 0 dr_cX12_ways_12 (by decide +kernel) ?_
    refine G_goto 44 dr_cX12_ways_13 (by decide +kernel) ?_
    exact G_iretA dr_cX12_ways_44 rfl (Nat.le_of_ble_eq_true rfl) (Nat.le_of_ble_eq_true rfl) ⟨0, rfl, rfl, (Nat.le_of_ble_eq_true rfl), (Nat.le_of_ble_eq_true rfl), (gB_w (gBl (show Int32.toInt 0 = 0 by decide)) (by decide) (by decide)), (fun R c1 c2 c3 c4 => c4 r1825)⟩
/- tr_RBlock_way: result -/
def tr_RBlock_way (a1 : Int32) (a0_first : Int32) (a0_second : Int32) (o1 : Int32) : Prop := ∀ R : (Int32) → Prop,
  (a1.toInt ≠ 0 → R a0_second) →
  (a1.toInt = 0 → R a0_first) →
  R o1
abbrev ky_1835_Block_way : gKey := (cX12_way, 2, "SpillForgeModel$Block", (some FieldType.int), [], "way", fun _ _ => True)
def pp_1835_Block_way (D : va_G) (I : FieldType → ClassId) (P1827 : List Nat) (F1828 : Nat → va_E) (q1829 : Nat) (p1830 : Int32) (qo1831 : Nat) (qo1832 : Nat) (p1833 : Int32) (p1834 : Int32) : Option Value → va_W → Nat → Nat → Prop := fun r w dc ds => ∃ (o1839 : Int32), r = some (.int o1839) ∧ w = va_pl P1827 F1828 ∧ dc ≤ 0 ∧ ds ≤ 0 ∧ gB o1839 0 39 ∧ tr_RBlock_way p1830 p1833 p1834 o1839
set_option maxRecDepth 100000 in
set_option maxHeartbeats 4000000 in
theorem cp_1835_Block_way (l : Launch) (hl0 : l.stackTraces = false) (D : va_G) (I : FieldType → ClassId) (P1827 : List Nat) (F1828 : Nat → va_E) (q1829 : Nat) (p1830 : Int32) (qo1831 : Nat) (qo1832 : Nat) (p1833 : Int32) (p1834 : Int32) (hmq1829 : q1829 ∈ P1827) (heq1829 : F1828 q1829 = .inr (17, [.ref qo1831, .ref qo1832, .int p1833, .int p1834])) (bp1833 : gB p1833 0 39) (bp1834 : gB p1834 0 39) : CtA (gV D I) l yX12_way cX12_way 2 (some FieldType.int) 0 0 0 0 [.ref q1829, .int p1830] (va_pl P1827 F1828) (pp_1835_Block_way D I P1827 F1828 q1829 p1830 qo1831 qo1832 p1833 p1834) gNA := by
  refine CtA_of hl0 (by decide) (Nat.le_of_ble_eq_true rfl) ?_
  have bp1830 := gB_any p1830
  refine G_iload_n 1 dr_cX12_way_0 rfl ?_
  refine G_if_ne 11 dr_cX12_way_1 (by decide +kernel) (fun hc1836 => ?_) (fun hc1836 => ?_)
  · have r1837 : p1830.toInt ≠ 0 := gj_neq hc1836 (show Int32.toInt 0 = 0 by decide)
    refine G_aload_n 0 dr_cX12_way_11 rfl ?_
    refine Gp_get 3 hmq1829 heq1829 dr_cX12_way_12 (gk_X12 D I) (Nat.le_of_ble_eq_true rfl) wr_9_230 rfl ?_
    exact G_iretA dr_cX12_way_15 rfl (Nat.le_of_ble_eq_true rfl) (Nat.le_of_ble_eq_true rfl) ⟨p1834, rfl, rfl, (Nat.le_of_ble_eq_true rfl), (Nat.le_of_ble_eq_true rfl), bp1834, (fun R c1 c2 => c1 r1837)⟩
  · have r1838 : p1830.toInt = 0 := gj_eq hc1836 (show Int32.toInt 0 = 0 by decide)
    have bp1830' : gB p1830 0 0 := ⟨by omega, by omega⟩
    refine G_aload_n 0 dr_cX12_way_4 rfl ?_
    refine Gp_get 2 hmq1829 heq1829 dr_cX12_way_5 (gk_X12 D I) (Nat.le_of_ble_eq_true rfl) wr_9_226 rfl ?_
    refine G_goto 15 dr_cX12_way_8 (by decide +kernel) ?_
    exact G_iretA dr_cX12_way_15 rfl (Nat.le_of_ble_eq_true rfl) (Nat.le_of_ble_eq_true rfl) ⟨p1833, rfl, rfl, (Nat.le_of_ble_eq_true rfl), (Nat.le_of_ble_eq_true rfl), bp1833, (fun R c1 c2 => c2 r1838)⟩
/- tr_RModel_has: result -/
def tr_RModel_has (a1 : Int32) (a0_v : Nat → Int64) (o1 : Int32) : Prop := ∀ R : (Int32) → Prop,
  (∀ (x1 : Int32) (x2 : Int64) (x3 : Int64) (x4 : Int64), x1.toInt = a1.toInt / 64 → x2 = a0_v x1.toNatClampNeg → x3 = (x2.toUInt64 >>> (a1.toInt64.toUInt64 &&& Int64.toUInt64 63)).toInt64 → x4 = x3 &&& (1 : Int64) → x4 = (0 : Int64) → R (0 : Int32)) →
  (∀ (x1 : Int32) (x2 : Int64) (x3 : Int64) (x4 : Int64), x1.toInt = a1.toInt / 64 → x2 = a0_v x1.toNatClampNeg → x3 = (x2.toUInt64 >>> (a1.toInt64.toUInt64 &&& Int64.toUInt64 63)).toInt64 → x4 = x3 &&& (1 : Int64) → (¬ x4 = (0 : Int64)) → R (1 : Int32)) →
  R o1
abbrev ky_1845_SpillForgeModel_has : gKey := (cX17_has, 2, "SpillForgeModel", (some FieldType.boolean), [], "has", fun _ _ => True)
def pp_1845_SpillForgeModel_has (D : va_G) (I : FieldType → ClassId) (P1840 : List Nat) (F1841 : Nat → va_E) (q1842 : Nat) (p1843 : Int32) (f1844 : Nat → Int64) : Option Value → va_W → Nat → Nat → Prop := fun r w dc ds => (∃ (z1846 : Int32) (z1850 : Int32), r = some (.int 0) ∧ w = va_pl P1840 F1841 ∧ dc ≤ 0 ∧ ds ≤ 0 ∧ z1846.toInt = p1843.toInt / 64 ∧ z1850.toInt = 0 ∧ gB z1846 0 31 ∧ gB z1850 0 0 ∧ tr_RModel_has p1843 f1844 (0 : Int32)) ∨ (∃ (z1846 : Int32) (z1850 : Int32), r = some (.int 1) ∧ w = va_pl P1840 F1841 ∧ dc ≤ 0 ∧ ds ≤ 0 ∧ z1846.toInt = p1843.toInt / 64 ∧ z1850.toInt ≠ 0 ∧ gB z1846 0 31 ∧ gB z1850 (-1) 1 ∧ tr_RModel_has p1843 f1844 (1 : Int32))
set_option maxRecDepth 100000 in
set_option maxHeartbeats 4000000 in
theorem cp_1845_SpillForgeModel_has (l : Launch) (hl0 : l.stackTraces = false) (D : va_G) (I : FieldType → ClassId) (P1840 : List Nat) (F1841 : Nat → va_E) (q1842 : Nat) (p1843 : Int32) (f1844 : Nat → Int64) (hmq1842 : q1842 ∈ P1840) (heq1842 : F1841 q1842 = .inl (I .long, 32, .inr (.inl f1844))) (bp1843 : gB p1843 0 2047) : CtA (gV D I) l yX17_has cX17_has 2 (some FieldType.boolean) 0 0 0 0 [.ref q1842, .int p1843] (va_pl P1840 F1841) (pp_1845_SpillForgeModel_has D I P1840 F1841 q1842 p1843 f1844) gNA := by
  refine CtA_of hl0 (by decide) (Nat.le_of_ble_eq_true rfl) ?_
  refine G_aload_n 0 dr_cX17_has_0 rfl ?_
  refine G_iload_n 1 dr_cX17_has_1 rfl ?_
  refine G_bipush 6 dr_cX17_has_2 (by decide +kernel) ?_
  refine G_ishr dr_cX17_has_4 (G_nam fun z1846 hz1846 => ?_)
  have ez1846 : z1846.toInt = p1843.toInt / 64 := gI_shr (k := 6) hz1846 (by decide)
  have bz1846 : gB z1846 0 31 := ⟨by omega, by omega⟩
  refine Gp_lald 2 hmq1842 heq1842 dr_cX17_has_5 rfl (gB_in bz1846 (by decide) (by decide)) (G_namL fun u1847 hu1847 => ?_)
  refine G_iload_n 1 dr_cX17_has_6 rfl ?_
  refine G_lushr dr_cX17_has_7 (G_namL fun u1848 hu1848 => ?_)
  refine G_lconst 1 dr_cX17_has_8 rfl ?_
  refine G_land dr_cX17_has_9 (G_namL fun u1849 hu1849 => ?_)
  refine G_lconst 0 dr_cX17_has_10 rfl ?_
  refine G_lcmp dr_cX17_has_11 (G_nam fun z1850 hz1850 => ?_)
  have bz1850 : gB z1850 (-1) 1 := gB_cmp hz1850
  refine G_if_eq 19 dr_cX17_has_12 (by decide +kernel) (fun hc1851 => ?_) (fun hc1851 => ?_)
  · have r1852 : z1850.toInt = 0 := gj_eq hc1851 (show Int32.toInt 0 = 0 by decide)
    have bz1850' : gB z1850 0 0 := ⟨by omega, by omega⟩
    have lhc1851 := gC_cmpE hz1850 hc1851
    refine G_iconst 0 dr_cX17_has_19 (by decide +kernel) ?_
    exact G_zretA FieldType.boolean dr_cX17_has_20 rfl rfl (Nat.le_of_ble_eq_true rfl) (Nat.le_of_ble_eq_true rfl) (Or.inl ⟨z1846, z1850, rfl, rfl, (Nat.le_of_ble_eq_true rfl), (Nat.le_of_ble_eq_true rfl), ez1846, r1852, bz1846, bz1850', (fun R c1 c2 => c1 z1846 u1847 u1848 u1849 ez1846 hu1847 hu1848 hu1849 lhc1851)⟩)
  · have r1853 : z1850.toInt ≠ 0 := gj_neq hc1851 (show Int32.toInt 0 = 0 by decide)
    have lhc1851 := gC_cmpN hz1850 hc1851
    refine G_iconst 1 dr_cX17_has_15 (by decide +kernel) ?_
    refine G_goto 20 dr_cX17_has_16 (by decide +kernel) ?_
    exact G_zretA FieldType.boolean dr_cX17_has_20 rfl rfl (Nat.le_of_ble_eq_true rfl) (Nat.le_of_ble_eq_true rfl) (Or.inr (⟨z1846, z1850, rfl, rfl, (Nat.le_of_ble_eq_true rfl), (Nat.le_of_ble_eq_true rfl), ez1846, r1853, bz1846, bz1850, (fun R c1 c2 => c2 z1846 u1847 u1848 u1849 ez1846 hu1847 hu1848 hu1849 lhc1851)⟩))
/- tr_RModel_set: a.0.[] -/
def tr_RModel_set (a1 : Int32) (a0_v : Nat → Int64) (o1 : Nat → Int64) : Prop := ∀ R : (Nat → Int64) → Prop,
  (∀ (x1 : Int32) (x2 : Int64) (x3 : Int64) (x4 : Int64) (x5 : Nat → Int64), x1.toInt = a1.toInt / 64 → x2 = a0_v x1.toNatClampNeg → x3 = (1 : Int64) <<< (a1.toInt64 &&& 63) → x4 = x2 ||| x3 → x5 = vp_updL a0_v x1.toNatClampNeg x4 → R x5) →
  R o1
abbrev ky_1860_SpillForgeModel_set : gKey := (cX17_set, 2, "SpillForgeModel", none, [], "set", fun _ _ => True)
def pp_1860_SpillForgeModel_set (D : va_G) (I : FieldType → ClassId) (P1854 : List Nat) (F1855 : Nat → va_E) (q1856 : Nat) (p1857 : Int32) (f1858 : Nat → Int64) : Option Value → va_W → Nat → Nat → Prop := fun r w dc ds => ∃ (F1873 : Nat → va_E) (f1871 : Nat → Int64), r = none ∧ w = va_pl P1854 F1873 ∧ rFr [q1856] P1854 F1855 F1873 ∧ F1873 q1856 = .inl (I .long, 32, .inr (.inl f1871)) ∧ dc ≤ 0 ∧ ds ≤ 0 ∧ lb_W f1871 (32) (32) (2000) ∧ tr_RModel_set p1857 f1858 f1871
set_option maxRecDepth 100000 in
set_option maxHeartbeats 4000000 in
theorem cp_1860_SpillForgeModel_set (l : Launch) (hl0 : l.stackTraces = false) (D : va_G) (I : FieldType → ClassId) (P1854 : List Nat) (F1855 : Nat → va_E) (q1856 : Nat) (p1857 : Int32) (f1858 : Nat → Int64) (hmq1856 : q1856 ∈ P1854) (heq1856 : F1855 q1856 = .inl (I .long, 32, .inr (.inl f1858))) (bp1857 : gB p1857 0 1999) (x1859 : lb_W f1858 (32) (32) (2000)) : CtA (gV D I) l yX17_set cX17_set 2 none 0 0 0 0 [.ref q1856, .int p1857] (va_pl P1854 F1855) (pp_1860_SpillForgeModel_set D I P1854 F1855 q1856 p1857 f1858) gNA := by
  refine CtA_of hl0 (by decide) (Nat.le_of_ble_eq_true rfl) ?_
  refine G_aload_n 0 dr_cX17_set_0 rfl ?_
  refine G_iload_n 1 dr_cX17_set_1 rfl ?_
  refine G_bipush 6 dr_cX17_set_2 (by decide +kernel) ?_
  refine G_ishr dr_cX17_set_4 (G_nam fun z1861 hz1861 => ?_)
  have ez1861 : z1861.toInt = p1857.toInt / 64 := gI_shr (k := 6) hz1861 (by decide)
  have bz1861 : gB z1861 0 31 := ⟨by omega, by omega⟩
  refine G_dup2_11 dr_cX17_set_5 rfl rfl ?_
  refine Gp_lald 2 hmq1856 heq1856 dr_cX17_set_6 rfl (gB_in bz1861 (by decide) (by decide)) (G_namL fun u1862 hu1862 => ?_)
  have qu1862 : lb_Q u1862 (2000 - 64 * z1861.toInt) := lb_Wld hu1862 x1859 (by omega) (by omega) (lb_Mod0 (by omega) (by omega))
  refine G_lconst 1 dr_cX17_set_7 rfl ?_
  refine G_iload_n 1 dr_cX17_set_8 rfl ?_
  refine G_lshl dr_cX17_set_9 (G_namL fun u1863 hu1863 => ?_)
  have qu1863 : lb_Q u1863 (p1857.toInt % 64 + 1) := lb_Qshl hu1863 (by omega)
  refine G_lor dr_cX17_set_10 (G_namL fun u1864 hu1864 => ?_)
  have qu1864 : lb_Q u1864 (2000 - 64 * z1861.toInt) := lb_Qor hu1864 qu1862 (lb_Qw qu1863 (by omega))
  refine Gp_last 2 hmq1856 heq1856 dr_cX17_set_11 rfl (gB_in bz1861 (by decide) (by decide)) (fun F1865 e1866 n1867 => ?_)
  obtain ⟨f1868, hf1868⟩ : ∃ z, z = vp_updL f1858 z1861.toNatClampNeg u1864 := ⟨_, rfl⟩
  rw [← hf1868] at e1866
  have he1869 : F1865 q1856 = .inl (I .long, 32, .inr (.inl f1868)) := e1866
  have hfr1870 : rFr [q1856] P1854 F1855 F1865 := rFr_put (rFr_rf (W := []) (P := P1854) (F := F1855)) n1867
  have wf1868 : lb_W f1868 (32) (32) (2000) := lb_Wst hf1868 x1859 (by omega) (lb_Mod0 (by omega) (by omega)) qu1864
  exact G_vretA dr_cX17_set_12 rfl (Nat.le_of_ble_eq_true rfl) (Nat.le_of_ble_eq_true rfl) ⟨F1865, f1868, rfl, rfl, hfr1870, he1869, (Nat.le_of_ble_eq_true rfl), (Nat.le_of_ble_eq_true rfl), wf1868, (fun R c1 => c1 z1861 u1862 u1863 u1864 f1868 ez1861 hu1862 hu1863 hu1864 hf1868)⟩
/- tr_RModel_clear: a.0.[] -/
def tr_RModel_clear (a1 : Int32) (a0_v : Nat → Int64) (o1 : Nat → Int64) : Prop := ∀ R : (Nat → Int64) → Prop,
  (∀ (x1 : Int32) (x2 : Int64) (x3 : Int64) (x4 : Int64) (x5 : Int64) (x6 : Nat → Int64), x1.toInt = a1.toInt / 64 → x2 = a0_v x1.toNatClampNeg → x3 = (1 : Int64) <<< (a1.toInt64 &&& 63) → x4 = x3 ^^^ (-1 : Int64) → x5 = x2 &&& x4 → x6 = vp_updL a0_v x1.toNatClampNeg x5 → R x6) →
  R o1
abbrev ky_1880_SpillForgeModel_clear : gKey := (cX17_clear, 2, "SpillForgeModel", none, [], "clear", fun _ _ => True)
def pp_1880_SpillForgeModel_clear (D : va_G) (I : FieldType → ClassId) (P1874 : List Nat) (F1875 : Nat → va_E) (q1876 : Nat) (p1877 : Int32) (f1878 : Nat → Int64) : Option Value → va_W → Nat → Nat → Prop := fun r w dc ds => ∃ (F1894 : Nat → va_E) (f1892 : Nat → Int64), r = none ∧ w = va_pl P1874 F1894 ∧ rFr [q1876] P1874 F1875 F1894 ∧ F1894 q1876 = .inl (I .long, 32, .inr (.inl f1892)) ∧ dc ≤ 0 ∧ ds ≤ 0 ∧ lb_W f1892 (32) (32) (2000) ∧ tr_RModel_clear p1877 f1878 f1892
set_option maxRecDepth 100000 in
set_option maxHeartbeats 4000000 in
theorem cp_1880_SpillForgeModel_clear (l : Launch) (hl0 : l.stackTraces = false) (D : va_G) (I : FieldType → ClassId) (P1874 : List Nat) (F1875 : Nat → va_E) (q1876 : Nat) (p1877 : Int32) (f1878 : Nat → Int64) (hmq1876 : q1876 ∈ P1874) (heq1876 : F1875 q1876 = .inl (I .long, 32, .inr (.inl f1878))) (bp1877 : gB p1877 0 1999) (x1879 : lb_W f1878 (32) (32) (2000)) : CtA (gV D I) l yX17_clear cX17_clear 2 none 0 0 0 0 [.ref q1876, .int p1877] (va_pl P1874 F1875) (pp_1880_SpillForgeModel_clear D I P1874 F1875 q1876 p1877 f1878) gNA := by
  refine CtA_of hl0 (by decide) (Nat.le_of_ble_eq_true rfl) ?_
  refine G_aload_n 0 dr_cX17_clear_0 rfl ?_
  refine G_iload_n 1 dr_cX17_clear_1 rfl ?_
  refine G_bipush 6 dr_cX17_clear_2 (by decide +kernel) ?_
  refine G_ishr dr_cX17_clear_4 (G_nam fun z1881 hz1881 => ?_)
  have ez1881 : z1881.toInt = p1877.toInt / 64 := gI_shr (k := 6) hz1881 (by decide)
  have bz1881 : gB z1881 0 31 := ⟨by omega, by omega⟩
  refine G_dup2_11 dr_cX17_clear_5 rfl rfl ?_
  refine Gp_lald 2 hmq1876 heq1876 dr_cX17_clear_6 rfl (gB_in bz1881 (by decide) (by decide)) (G_namL fun u1882 hu1882 => ?_)
  have qu1882 : lb_Q u1882 (2000 - 64 * z1881.toInt) := lb_Wld hu1882 x1879 (by omega) (by omega) (lb_Mod0 (by omega) (by omega))
  refine G_lconst 1 dr_cX17_clear_7 rfl ?_
  refine G_iload_n 1 dr_cX17_clear_8 rfl ?_
  refine G_lshl dr_cX17_clear_9 (G_namL fun u1883 hu1883 => ?_)
  have qu1883 : lb_Q u1883 (p1877.toInt % 64 + 1) := lb_Qshl hu1883 (by omega)
  refine G_ldc2 (-1) dr_cX17_clear_10 wr_10_188 ?_
  refine G_lxor dr_cX17_clear_13 (G_namL fun u1884 hu1884 => ?_)
  refine G_land dr_cX17_clear_14 (G_namL fun u1885 hu1885 => ?_)
  have qu1885 : lb_Q u1885 (2000 - 64 * z1881.toInt) := lb_QandL hu1885 qu1882
  refine Gp_last 2 hmq1876 heq1876 dr_cX17_clear_15 rfl (gB_in bz1881 (by decide) (by decide)) (fun F1886 e1887 n1888 => ?_)
  obtain ⟨f1889, hf1889⟩ : ∃ z, z = vp_updL f1878 z1881.toNatClampNeg u1885 := ⟨_, rfl⟩
  rw [← hf1889] at e1887
  have he1890 : F1886 q1876 = .inl (I .long, 32, .inr (.inl f1889)) := e1887
  have hfr1891 : rFr [q1876] P1874 F1875 F1886 := rFr_put (rFr_rf (W := []) (P := P1874) (F := F1875)) n1888
  have wf1889 : lb_W f1889 (32) (32) (2000) := lb_Wst hf1889 x1879 (by omega) (lb_Mod0 (by omega) (by omega)) qu1885
  exact G_vretA dr_cX17_clear_16 rfl (Nat.le_of_ble_eq_true rfl) (Nat.le_of_ble_eq_true rfl) ⟨F1886, f1889, rfl, rfl, hfr1891, he1890, (Nat.le_of_ble_eq_true rfl), (Nat.le_of_ble_eq_true rfl), wf1889, (fun R c1 => c1 z1881 u1882 u1883 u1884 u1885 f1889 ez1881 hu1882 hu1883 hu1884 hu1885 hf1889)⟩
/- tr_RLong_bitCount: result -/
def tr_RLong_bitCount (a0 : Int64) (o1 : Int32) : Prop := ∀ R : (Int32) → Prop,
  (∀ (x1 : Int64) (x2 : Int64) (x3 : Int64) (x4 : Int64) (x5 : Int64) (x6 : Int64) (x7 : Int64) (x8 : Int64) (x9 : Int64) (x10 : Int64) (x11 : Int64) (x12 : Int64) (x13 : Int64) (x14 : Int64) (x15 : Int64) (x16 : Int64) (x17 : Int32) (x18 : Int32), x1 = (a0.toUInt64 >>> ((1 : Int32).toInt64.toUInt64 &&& Int64.toUInt64 63)).toInt64 → x2 = x1 &&& (6148914691236517205 : Int64) → x3 = a0 - x2 → x4 = x3 &&& (3689348814741910323 : Int64) → x5 = (x3.toUInt64 >>> ((2 : Int32).toInt64.toUInt64 &&& Int64.toUInt64 63)).toInt64 → x6 = x5 &&& (3689348814741910323 : Int64) → x7 = x4 + x6 → x8 = (x7.toUInt64 >>> ((4 : Int32).toInt64.toUInt64 &&& Int64.toUInt64 63)).toInt64 → x9 = x7 + x8 → x10 = x9 &&& (1085102592571150095 : Int64) → x11 = (x10.toUInt64 >>> ((8 : Int32).toInt64.toUInt64 &&& Int64.toUInt64 63)).toInt64 → x12 = x10 + x11 → x13 = (x12.toUInt64 >>> ((16 : Int32).toInt64.toUInt64 &&& Int64.toUInt64 63)).toInt64 → x14 = x12 + x13 → x15 = (x14.toUInt64 >>> ((32 : Int32).toInt64.toUInt64 &&& Int64.toUInt64 63)).toInt64 → x16 = x14 + x15 → x17 = x16.toInt32 → x18 = x17 &&& (127 : Int32) → R x18) →
  R o1
abbrev ky_1904_Long_bitCount : gKey := (cJ13_bitCount_95d88, 2, "java/lang/Long", (some FieldType.int), [], "bitCount", fun _ _ => True)
def pp_1904_Long_bitCount (D : va_G) (I : FieldType → ClassId) (P1901 : List Nat) (F1902 : Nat → va_E) (pl1903 : Int64) : Option Value → va_W → Nat → Nat → Prop := fun r w dc ds => ∃ (o1923 : Int32), r = some (.int o1923) ∧ w = va_pl P1901 F1902 ∧ dc ≤ 0 ∧ ds ≤ 0 ∧ gB o1923 0 127 ∧ tr_RLong_bitCount pl1903 o1923
set_option maxRecDepth 100000 in
set_option maxHeartbeats 4000000 in
theorem cp_1904_Long_bitCount (l : Launch) (hl0 : l.stackTraces = false) (D : va_G) (I : FieldType → ClassId) (P1901 : List Nat) (F1902 : Nat → va_E) (pl1903 : Int64)  : CtA (gV D I) l yJ13_bitCount_95d88 cJ13_bitCount_95d88 2 (some FieldType.int) 0 0 0 0 [.long pl1903] (va_pl P1901 F1902) (pp_1904_Long_bitCount D I P1901 F1902 pl1903) gNA := by
  refine CtA_ofF hl0 (by decide +kernel) (Nat.le_of_ble_eq_true rfl) ?_
  refine G_lload_n 0 dr_cJ13_bitCount_95d88_0 rfl ?_
  refine G_lload_n 0 dr_cJ13_bitCount_95d88_1 rfl ?_
  refine G_iconst 1 dr_cJ13_bitCount_95d88_2 (by decide +kernel) ?_
  refine G_lushr dr_cJ13_bitCount_95d88_3 (G_namL fun u1905 hu1905 => ?_)
  refine G_ldc2 6148914691236517205 dr_cJ13_bitCount_95d88_4 wr_4_96 ?_
  refine G_land dr_cJ13_bitCount_95d88_7 (G_namL fun u1906 hu1906 => ?_)
  refine G_lsub dr_cJ13_bitCount_95d88_8 (G_namL fun u1907 hu1907 => ?_)
  refine G_lstore_n (L' := [(0, .long u1907)]) dr_cJ13_bitCount_95d88_9 (Nat.le_of_ble_eq_true rfl) rfl ?_
  refine G_lload_n 0 dr_cJ13_bitCount_95d88_10 rfl ?_
  refine G_ldc2 3689348814741910323 dr_cJ13_bitCount_95d88_11 wr_4_97 ?_
  refine G_land dr_cJ13_bitCount_95d88_14 (G_namL fun u1908 hu1908 => ?_)
  refine G_lload_n 0 dr_cJ13_bitCount_95d88_15 rfl ?_
  refine G_iconst 2 dr_cJ13_bitCount_95d88_16 (by decide +kernel) ?_
  refine G_lushr dr_cJ13_bitCount_95d88_17 (G_namL fun u1909 hu1909 => ?_)
  refine G_ldc2 3689348814741910323 dr_cJ13_bitCount_95d88_18 wr_4_97 ?_
  refine G_land dr_cJ13_bitCount_95d88_21 (G_namL fun u1910 hu1910 => ?_)
  refine G_ladd dr_cJ13_bitCount_95d88_22 (G_namL fun u1911 hu1911 => ?_)
  refine G_lstore_n (L' := [(0, .long u1911)]) dr_cJ13_bitCount_95d88_23 (Nat.le_of_ble_eq_true rfl) rfl ?_
  refine G_lload_n 0 dr_cJ13_bitCount_95d88_24 rfl ?_
  refine G_lload_n 0 dr_cJ13_bitCount_95d88_25 rfl ?_
  refine G_iconst 4 dr_cJ13_bitCount_95d88_26 (by decide +kernel) ?_
  refine G_lushr dr_cJ13_bitCount_95d88_27 (G_namL fun u1912 hu1912 => ?_)
  refine G_ladd dr_cJ13_bitCount_95d88_28 (G_namL fun u1913 hu1913 => ?_)
  refine G_ldc2 1085102592571150095 dr_cJ13_bitCount_95d88_29 wr_4_98 ?_
  refine G_land dr_cJ13_bitCount_95d88_32 (G_namL fun u1914 hu1914 => ?_)
  refine G_lstore_n (L' := [(0, .long u1914)]) dr_cJ13_bitCount_95d88_33 (Nat.le_of_ble_eq_true rfl) rfl ?_
  refine G_lload_n 0 dr_cJ13_bitCount_95d88_34 rfl ?_
  refine G_lload_n 0 dr_cJ13_bitCount_95d88_35 rfl ?_
  refine G_bipush 8 dr_cJ13_bitCount_95d88_36 (by decide +kernel) ?_
  refine G_lushr dr_cJ13_bitCount_95d88_38 (G_namL fun u1915 hu1915 => ?_)
  refine G_ladd dr_cJ13_bitCount_95d88_39 (G_namL fun u1916 hu1916 => ?_)
  refine G_lstore_n (L' := [(0, .long u1916)]) dr_cJ13_bitCount_95d88_40 (Nat.le_of_ble_eq_true rfl) rfl ?_
  refine G_lload_n 0 dr_cJ13_bitCount_95d88_41 rfl ?_
  refine G_lload_n 0 dr_cJ13_bitCount_95d88_42 rfl ?_
  refine G_bipush 16 dr_cJ13_bitCount_95d88_43 (by decide +kernel) ?_
  refine G_lushr dr_cJ13_bitCount_95d88_45 (G_namL fun u1917 hu1917 => ?_)
  refine G_ladd dr_cJ13_bitCount_95d88_46 (G_namL fun u1918 hu1918 => ?_)
  refine G_lstore_n (L' := [(0, .long u1918)]) dr_cJ13_bitCount_95d88_47 (Nat.le_of_ble_eq_true rfl) rfl ?_
  refine G_lload_n 0 dr_cJ13_bitCount_95d88_48 rfl ?_
  refine G_lload_n 0 dr_cJ13_bitCount_95d88_49 rfl ?_
  refine G_bipush 32 dr_cJ13_bitCount_95d88_50 (by decide +kernel) ?_
  refine G_lushr dr_cJ13_bitCount_95d88_52 (G_namL fun u1919 hu1919 => ?_)
  refine G_ladd dr_cJ13_bitCount_95d88_53 (G_namL fun u1920 hu1920 => ?_)
  refine G_lstore_n (L' := [(0, .long u1920)]) dr_cJ13_bitCount_95d88_54 (Nat.le_of_ble_eq_true rfl) rfl ?_
  refine G_lload_n 0 dr_cJ13_bitCount_95d88_55 rfl ?_
  refine G_l2i dr_cJ13_bitCount_95d88_56 (G_nam fun z1921 hz1921 => ?_)
  have bz1921 : gB z1921 (-2147483648) 2147483647 := gB_any z1921
  refine G_bipush 127 dr_cJ13_bitCount_95d88_57 (by decide +kernel) ?_
  refine G_iand dr_cJ13_bitCount_95d88_59 (G_nam fun z1922 hz1922 => ?_)
  have bz1922 : gB z1922 0 127 := gB_and hz1922 (gBl (show Int32.toInt 127 = 127 by decide)) (by decide)
  exact G_iretA dr_cJ13_bitCount_95d88_60 rfl (Nat.le_of_ble_eq_true rfl) (Nat.le_of_ble_eq_true rfl) ⟨z1922, rfl, rfl, (Nat.le_of_ble_eq_true rfl), (Nat.le_of_ble_eq_true rfl), bz1922, (fun R c1 => c1 u1905 u1906 u1907 u1908 u1909 u1910 u1911 u1912 u1913 u1914 u1915 u1916 u1917 u1918 u1919 u1920 z1921 z1922 hu1905 hu1906 hu1907 hu1908 hu1909 hu1910 hu1911 hu1912 hu1913 hu1914 hu1915 hu1916 hu1917 hu1918 hu1919 hu1920 hz1921 hz1922)⟩
/- tl_RModel_count_4: l2, l1; out: l1 -/
def tl_RModel_count_4 (a0_v : Nat → Int64) (s1 : Int32) (s2 : Int32) (k : Nat) (e1 : Int32) : Prop := ∀ R : (Int32) → (Int32) → Nat → (Int32) → Prop,
  (∀ (l2_1 : Int32) (l1_1 : Int32), gB l2_1 0 32 → 32 ≤ l2_1.toInt → R l2_1 l1_1 25 l1_1) →
  (∀ (l2_1 : Int32) (l1_1 : Int32) (x1 : Int64) (x2 : Int32) (x3 : Int32) (x4 : Int32) (k : Nat) (e1 : Int32), gB l2_1 0 32 → l2_1.toInt < 32 → x1 = a0_v l2_1.toNatClampNeg → gB x2 0 127 → tr_RLong_bitCount x1 x2 → x3 = l1_1 + x2 → x4.toInt = l2_1.toInt + 1 → R x4 x3 k e1 → R l2_1 l1_1 k e1) →
  R s1 s2 k e1
/- tr_RModel_count: result -/
def tr_RModel_count (a0_v : Nat → Int64) (o1 : Int32) : Prop := ∀ R : (Int32) → Prop,
  (∀ (x1 : Int32), tl_RModel_count_4 a0_v (0 : Int32) (0 : Int32) 25 x1 → R x1) →
  R o1
abbrev ky_1899_SpillForgeModel_count : gKey := (cX17_count, 3, "SpillForgeModel", (some FieldType.int), [], "count", fun _ _ => True)
def pp_1899_SpillForgeModel_count (D : va_G) (I : FieldType → ClassId) (P1895 : List Nat) (F1896 : Nat → va_E) (q1897 : Nat) (f1898 : Nat → Int64) : Option Value → va_W → Nat → Nat → Prop := fun r w dc ds => ∃ (o2029 : Int32), r = some (.int o2029) ∧ w = va_pl P1895 F1896 ∧ dc ≤ 0 ∧ ds ≤ 0 ∧ tr_RModel_count f1898 o2029
set_option maxRecDepth 100000 in
set_option maxHeartbeats 4000000 in
theorem cp_1899_SpillForgeModel_count (l : Launch) (hl0 : l.stackTraces = false) (D : va_G) (I : FieldType → ClassId) (P1895 : List Nat) (F1896 : Nat → va_E) (q1897 : Nat) (f1898 : Nat → Int64) (hmq1897 : q1897 ∈ P1895) (heq1897 : F1896 q1897 = .inl (I .long, 32, .inr (.inl f1898))) : CtA (gV D I) l yX17_count cX17_count 3 (some FieldType.int) 1 21 0 0 [.ref q1897] (va_pl P1895 F1896) (pp_1899_SpillForgeModel_count D I P1895 F1896 q1897 f1898) gNA := by
  refine CtA_of hl0 (by decide) (Nat.le_of_ble_eq_true rfl) ?_
  refine G_iconst 0 dr_cX17_count_0 (by decide +kernel) ?_
  refine G_istore_n (L' := [(1, .int 0), (0, .ref q1897)]) dr_cX17_count_1 (Nat.le_of_ble_eq_true rfl) rfl ?_
  refine G_iconst 0 dr_cX17_count_2 (by decide +kernel) ?_
  refine G_istore_n (L' := [(2, .int 0), (1, .int 0), (0, .ref q1897)]) dr_cX17_count_3 (Nat.le_of_ble_eq_true rfl) rfl ?_
  have hlp4_2014 : ∀ (n4_2014 : Nat) (g2013 : Int32) (g2014 : Int32), gB g2013 0 32 → (∀ (k : Nat) (e1 : Int32), tl_RModel_count_4 f1898 g2013 g2014 k e1 → tl_RModel_count_4 f1898 (0 : Int32) (0 : Int32) k e1) → ((33 : Int) - g2013.toInt).toNat < n4_2014 → G (gV D I) l (gRm 1 21 0 0) (gMA (gV D I) (pp_1899_SpillForgeModel_count D I P1895 F1896 q1897 f1898) gNA 0 0) ky_1899_SpillForgeModel_count 4 [(2, .int g2013), (1, .int g2014), (0, .ref q1897)] [] (va_pl P1895 F1896) 0 0 := by
    intro n4_2014
    induction n4_2014 with
    | zero => intro g2013 g2014 bg2013 kt4_2014 hm4_2014; exact absurd hm4_2014 (Nat.not_lt_zero _)
    | succ n4_2014 ih4_2014 =>
      intro g2013 g2014 bg2013 kt4_2014 hm4_2014
      have bg2014 := gB_any g2014
      refine G_iload_n 0 dr_cX17_count_4 rfl ?_
      refine G_aload_n 2 dr_cX17_count_5 rfl ?_
      refine Gp_alen 32 2 hmq1897 heq1897 dr_cX17_count_6 rfl rfl ?_
      refine G_icmp_ge 25 dr_cX17_count_7 (by decide +kernel) (fun hc2015 => ?_) (fun hc2015 => ?_)
      · have r2016 : 32 ≤ g2013.toInt := gj_leL hc2015 (show Int32.toInt 32 = 32 by decide)
        have bg2013' : gB g2013 32 32 := ⟨by omega, by omega⟩
        have hx2017 : tl_RModel_count_4 f1898 (0 : Int32) (0 : Int32) 25 g2014 := kt4_2014 25 g2014 (fun R c1 c2 => c1 g2013 g2014 bg2013 r2016)
        refine G_iload_n 1 dr_cX17_count_25 rfl ?_
        exact G_iretA dr_cX17_count_26 rfl (Nat.le_of_ble_eq_true rfl) (Nat.le_of_ble_eq_true rfl) ⟨g2014, rfl, rfl, (Nat.le_of_ble_eq_true rfl), (Nat.le_of_ble_eq_true rfl), (fun R c1 => c1 g2014 hx2017)⟩
      · have r2018 : g2013.toInt < 32 := gj_nleL hc2015 (show Int32.toInt 32 = 32 by decide)
        have bg2013' : gB g2013 0 31 := ⟨by omega, by omega⟩
        refine G_iload_n 1 dr_cX17_count_10 rfl ?_
        refine G_aload_n 2 dr_cX17_count_11 rfl ?_
        refine G_iload_n 0 dr_cX17_count_12 rfl ?_
        refine Gp_lald 2 hmq1897 heq1897 dr_cX17_count_13 rfl (gB_in bg2013' (by decide) (by decide)) (G_namL fun u2019 hu2019 => ?_)
        refine Gw_callS (As := [.long u2019]) (gV_ok D I) (cp_1904_Long_bitCount l hl0 D I P1895 F1896 u2019 ) dr_cX17_count_14 ⟨wr_11_19, wr_1_31, wr_4_95, by decide, rfl, (Nat.le_of_ble_eq_true rfl), (Nat.le_of_ble_eq_true rfl)⟩ wr_4_94 (show 0 + 0 ≤ 0 by first | omega | decide) (show 0 + 0 ≤ 0 by first | omega | decide) (Nat.le_of_ble_eq_true rfl) (fun r2023 w2024 dc2020 ds2021 hp2022 => ?_) (fun _ _ _ _ _ z => z.elim)
        obtain ⟨o2025, rfl, rfl, hdc, hds, bo2025, ht2026⟩ := hp2022
        change G _ _ _ _ _ _ _ (.int o2025 :: _) _ _ _
        refine G_widen (cs' := 0) (sl' := 0) (by omega) (by omega) ?_
        refine G_iadd dr_cX17_count_17 (G_nam fun z2027 hz2027 => ?_)
        have bz2027 : gB z2027 (-2147483648) 2147483647 := gB_any z2027
        refine G_istore_n (L' := [(1, .int z2027), (2, .int g2013), (0, .ref q1897)]) dr_cX17_count_18 (Nat.le_of_ble_eq_true rfl) rfl ?_
        obtain ⟨z2028, hz2028⟩ : ∃ z : Int32, z = g2013 + Int32.ofInt 1 := ⟨_, rfl⟩
        have ez2028 : z2028.toInt = g2013.toInt + 1 := gI_inc hz2028 (by decide) bg2013' (by decide) (by decide)
        have bz2028 : gB z2028 1 32 := ⟨by omega, by omega⟩
        refine G_iinc (L' := [(2, .int z2028), (1, .int z2027), (0, .ref q1897)]) z2028 1 dr_cX17_count_19 rfl hz2028.symm (Nat.le_of_ble_eq_true rfl) rfl ?_
        refine G_goto 4 dr_cX17_count_22 (by decide +kernel) ?_
        exact ih4_2014 z2028 z2027 (gB_w bz2028 (by decide) (by decide)) (fun k e1 ht => kt4_2014 k e1 (fun R c1 c2 => c2 g2013 g2014 u2019 o2025 z2027 z2028 k e1 bg2013 r2018 hu2019 bo2025 ht2026 hz2027 ez2028 (ht R c1 c2))) (by omega)
  exact hlp4_2014 (((33 : Int) - 0).toNat + 1) 0 0 (gB_w (gBl (show Int32.toInt 0 = 0 by decide)) (by decide) (by decide)) (fun k e1 ht => ht) (Nat.lt_succ_self _)
/- tr_RModel_result: result -/
def tr_RModel_result (a0 : Int32) (a1 : Int32) (a2 : Int32) (o1 : Int64) : Prop := ∀ R : (Int64) → Prop,
  (∀ (x1 : Int32) (x2 : Int64) (x3 : Int64), a0.toInt = 1 → x1 = a1 + a2 → x2 = x1.toInt64 → x3 = x2 &&& (4294967295 : Int64) → R x3) →
  (∀ (x1 : Int32) (x2 : Int64) (x3 : Int64), a0.toInt = 2 → x1 = a1 - a2 → x2 = x1.toInt64 → x3 = x2 &&& (4294967295 : Int64) → R x3) →
  (∀ (x1 : Int32) (x2 : Int64) (x3 : Int64), a0.toInt = 3 → x1 = a1 * a2 → x2 = x1.toInt64 → x3 = x2 &&& (4294967295 : Int64) → R x3) →
  (∀ (x1 : Int32) (x2 : Int64) (x3 : Int64), a0.toInt = 4 → a2.toInt ≠ 0 → x1 = a1 / a2 → x2 = x1.toInt64 → x3 = x2 &&& (4294967295 : Int64) → R x3) →
  (a0.toInt = 4 → a2.toInt = 0 → R (4294967296 : Int64)) →
  (∀ (x1 : Int32) (x2 : Int64) (x3 : Int64), a0.toInt = 5 → a2.toInt ≠ 0 → x1 = a1 - a1 / a2 * a2 → x2 = x1.toInt64 → x3 = x2 &&& (4294967295 : Int64) → R x3) →
  (a0.toInt = 5 → a2.toInt = 0 → R (4294967296 : Int64)) →
  (∀ (x1 : Int32) (x2 : Int64) (x3 : Int64), a0.toInt = 6 → x1 = a1 &&& a2 → x2 = x1.toInt64 → x3 = x2 &&& (4294967295 : Int64) → R x3) →
  (∀ (x1 : Int32) (x2 : Int64) (x3 : Int64), a0.toInt = 7 → x1 = a1 ||| a2 → x2 = x1.toInt64 → x3 = x2 &&& (4294967295 : Int64) → R x3) →
  (∀ (x1 : Int32) (x2 : Int64) (x3 : Int64), a0.toInt = 8 → x1 = a1 ^^^ a2 → x2 = x1.toInt64 → x3 = x2 &&& (4294967295 : Int64) → R x3) →
  (∀ (x1 : Int32) (x2 : Int32) (x3 : Int64) (x4 : Int64), a0.toInt = 9 → x1 = a2 &&& (31 : Int32) → x2 = a1 <<< (x1 &&& 31) → x3 = x2.toInt64 → x4 = x3 &&& (4294967295 : Int64) → R x4) →
  (∀ (x1 : Int32) (x2 : Int32) (x3 : Int64) (x4 : Int64), a0.toInt = 10 → x1 = a2 &&& (31 : Int32) → x2 = a1 >>> (x1 &&& 31) → x3 = x2.toInt64 → x4 = x3 &&& (4294967295 : Int64) → R x4) →
  (∀ (x1 : Int64) (x2 : Int64), a0.toInt = 11 → a2.toInt ≤ a1.toInt → x1 = (0 : Int32).toInt64 → x2 = x1 &&& (4294967295 : Int64) → R x2) →
  (∀ (x1 : Int64) (x2 : Int64), a0.toInt = 11 → a1.toInt < a2.toInt → x1 = (1 : Int32).toInt64 → x2 = x1 &&& (4294967295 : Int64) → R x2) →
  (∀ (x1 : Int64) (x2 : Int64), a0.toInt = 12 → a2.toInt < a1.toInt → x1 = (0 : Int32).toInt64 → x2 = x1 &&& (4294967295 : Int64) → R x2) →
  (∀ (x1 : Int64) (x2 : Int64), a0.toInt = 12 → a1.toInt ≤ a2.toInt → x1 = (1 : Int32).toInt64 → x2 = x1 &&& (4294967295 : Int64) → R x2) →
  (∀ (x1 : Int64) (x2 : Int64), a0.toInt = 13 → a1.toInt ≠ a2.toInt → x1 = (0 : Int32).toInt64 → x2 = x1 &&& (4294967295 : Int64) → R x2) →
  (∀ (x1 : Int64) (x2 : Int64), a0.toInt = 13 → a1.toInt = a2.toInt → x1 = (1 : Int32).toInt64 → x2 = x1 &&& (4294967295 : Int64) → R x2) →
  (∀ (x1 : Int64) (x2 : Int64), a0.toInt ≠ 1 → a0.toInt ≠ 2 → a0.toInt ≠ 3 → a0.toInt ≠ 4 → a0.toInt ≠ 5 → a0.toInt ≠ 6 → a0.toInt ≠ 7 → a0.toInt ≠ 8 → a0.toInt ≠ 9 → a0.toInt ≠ 10 → a0.toInt ≠ 11 → a0.toInt ≠ 12 → a0.toInt ≠ 13 → a1.toInt = a2.toInt → x1 = (0 : Int32).toInt64 → x2 = x1 &&& (4294967295 : Int64) → R x2) →
  (∀ (x1 : Int64) (x2 : Int64), a0.toInt ≠ 1 → a0.toInt ≠ 2 → a0.toInt ≠ 3 → a0.toInt ≠ 4 → a0.toInt ≠ 5 → a0.toInt ≠ 6 → a0.toInt ≠ 7 → a0.toInt ≠ 8 → a0.toInt ≠ 9 → a0.toInt ≠ 10 → a0.toInt ≠ 11 → a0.toInt ≠ 12 → a0.toInt ≠ 13 → a1.toInt ≠ a2.toInt → x1 = (1 : Int32).toInt64 → x2 = x1 &&& (4294967295 : Int64) → R x2) →
  R o1
