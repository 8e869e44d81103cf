theorem dr_cJx4a65c_init_da8c8_0 : decode cJx4a65c_init_da8c8 0 = .ok (.aload_n 0, 1) := by decide +kernel
theorem dr_cJx4a65c_init_da8c8_1 : decode cJx4a65c_init_da8c8 1 = .ok (.invokespecial 1, 3) := by decide +kernel
theorem wr_7_8 : (Jvm.Cond.methodLink "java/util/ArrayList" (1 : Nat) ({ cls := "java/util/AbstractList", name := "<init>", desc := "()V" } : Jvm.MethodName)) ∈ gw := gw_7 8 rfl rfl
theorem wr_1_17 : (Jvm.Cond.initialized "java/util/AbstractList") ∈ gw := gw_1 17 rfl rfl
theorem wr_7_10 : (Jvm.Cond.code ({ cls := "java/util/AbstractList", name := "<init>", desc := "()V" } : Jvm.MethodName) prog_42_method_1_code (1 : Nat) (Option.none : Option Jvm.ClassFile.FieldType)) ∈ gw := gw_7 10 rfl rfl
theorem wr_7_9 : (Jvm.Cond.instanceMethod ({ cls := "java/util/AbstractList", name := "<init>", desc := "()V" } : Jvm.MethodName)) ∈ gw := gw_7 9 rfl rfl
theorem dr_cJx4a65c_init_da8c8_4 : decode cJx4a65c_init_da8c8 4 = .ok (.aload_n 0, 1) := by decide +kernel
theorem dr_cJx4a65c_init_da8c8_5 : decode cJx4a65c_init_da8c8 5 = .ok (.getstatic 39, 3) := by decide +kernel
theorem dr_cJx4a65c_init_da8c8_8 : decode cJx4a65c_init_da8c8 8 = .ok (.putfield 9, 3) := by decide +kernel
theorem dr_cJx4a65c_init_da8c8_11 : decode cJx4a65c_init_da8c8 11 = .ok (.return_, 1) := by decide +kernel
theorem dr_cX15_sets_0 : decode cX15_sets 0 = .ok (.aload_n 0, 1) := by decide +kernel
theorem dr_cX15_sets_1 : decode cX15_sets 1 = .ok (.getfield 9, 3) := by decide +kernel
theorem wr_9_175 : (Jvm.Cond.fieldLink "SpillForgeModel$Row" (9 : Nat) "SpillForgeModel$Row" "op" "I") ∈ gw := gw_9 175 rfl rfl
theorem dr_cX15_sets_4 : decode cX15_sets 4 = .ok (.bipush 21, 2) := by decide +kernel
theorem dr_cX15_sets_6 : decode cX15_sets 6 = .ok (.if_icmp .gt 7, 3) := by decide +kernel
theorem dr_cX15_sets_13 : decode cX15_sets 13 = .ok (.iconst 0, 1) := by decide +kernel
theorem dr_cX15_sets_14 : decode cX15_sets 14 = .ok (.ireturn, 1) := by decide +kernel
theorem dr_cX15_sets_9 : decode cX15_sets 9 = .ok (.iconst 1, 1) := by decide +kernel
theorem dr_cX15_sets_10 : decode cX15_sets 10 = .ok (.goto 4, 3) := by decide +kernel
theorem dr_cX15_usesA_0 : decode cX15_usesA 0 = .ok (.aload_n 0, 1) := by decide +kernel
theorem dr_cX15_usesA_1 : decode cX15_usesA 1 = .ok (.getfield 9, 3) := by decide +kernel
theorem dr_cX15_usesA_4 : decode cX15_usesA 4 = .ok (.bipush 20, 2) := by decide +kernel
theorem dr_cX15_usesA_6 : decode cX15_usesA 6 = .ok (.if_icmp .eq 32, 3) := by decide +kernel
theorem dr_cX15_usesA_38 : decode cX15_usesA 38 = .ok (.iconst 0, 1) := by decide +kernel
theorem dr_cX15_usesA_39 : decode cX15_usesA 39 = .ok (.ireturn, 1) := by decide +kernel
theorem dr_cX15_usesA_9 : decode cX15_usesA 9 = .ok (.aload_n 0, 1) := by decide +kernel
theorem dr_cX15_usesA_10 : decode cX15_usesA 10 = .ok (.getfield 9, 3) := by decide +kernel
theorem dr_cX15_usesA_13 : decode cX15_usesA 13 = .ok (.bipush 21, 2) := by decide +kernel
theorem dr_cX15_usesA_15 : decode cX15_usesA 15 = .ok (.if_icmp .eq 23, 3) := by decide +kernel
theorem dr_cX15_usesA_18 : decode cX15_usesA 18 = .ok (.aload_n 0, 1) := by decide +kernel
theorem dr_cX15_usesA_19 : decode cX15_usesA 19 = .ok (.getfield 9, 3) := by decide +kernel
theorem dr_cX15_usesA_22 : decode cX15_usesA 22 = .ok (.bipush 30, 2) := by decide +kernel
theorem dr_cX15_usesA_24 : decode cX15_usesA 24 = .ok (.if_icmp .eq 14, 3) := by decide +kernel
theorem dr_cX15_usesA_27 : decode cX15_usesA 27 = .ok (.aload_n 0, 1) := by decide +kernel
theorem dr_cX15_usesA_28 : decode cX15_usesA 28 = .ok (.getfield 15, 3) := by decide +kernel
theorem wr_9_195 : (Jvm.Cond.fieldLink "SpillForgeModel$Row" (15 : Nat) "SpillForgeModel$Row" "regA" "Z") ∈ gw := gw_9 195 rfl rfl
theorem dr_cX15_usesA_31 : decode cX15_usesA 31 = .ok (.ifCond .eq 7, 3) := by decide +kernel
theorem dr_cX15_usesA_34 : decode cX15_usesA 34 = .ok (.iconst 1, 1) := by decide +kernel
theorem dr_cX15_usesA_35 : decode cX15_usesA 35 = .ok (.goto 4, 3) := by decide +kernel
theorem dr_cX15_usesB_0 : decode cX15_usesB 0 = .ok (.aload_n 0, 1) := by decide +kernel
theorem dr_cX15_usesB_1 : decode cX15_usesB 1 = .ok (.getfield 9, 3) := by decide +kernel
theorem dr_cX15_usesB_4 : decode cX15_usesB 4 = .ok (.ifCond .le 23, 3) := by decide +kernel
theorem dr_cX15_usesB_27 : decode cX15_usesB 27 = .ok (.iconst 0, 1) := by decide +kernel
theorem dr_cX15_usesB_28 : decode cX15_usesB 28 = .ok (.ireturn, 1) := by decide +kernel
theorem dr_cX15_usesB_7 : decode cX15_usesB 7 = .ok (.aload_n 0, 1) := by decide +kernel
theorem dr_cX15_usesB_8 : decode cX15_usesB 8 = .ok (.getfield 9, 3) := by decide +kernel
theorem dr_cX15_usesB_11 : decode cX15_usesB 11 = .ok (.bipush 20, 2) := by decide +kernel
theorem dr_cX15_usesB_13 : decode cX15_usesB 13 = .ok (.if_icmp .ge 14, 3) := by decide +kernel
theorem dr_cX15_usesB_16 : decode cX15_usesB 16 = .ok (.aload_n 0, 1) := by decide +kernel
theorem dr_cX15_usesB_17 : decode cX15_usesB 17 = .ok (.getfield 19, 3) := by decide +kernel
theorem wr_9_199 : (Jvm.Cond.fieldLink "SpillForgeModel$Row" (19 : Nat) "SpillForgeModel$Row" "regB" "Z") ∈ gw := gw_9 199 rfl rfl
theorem dr_cX15_usesB_20 : decode cX15_usesB 20 = .ok (.ifCond .eq 7, 3) := by decide +kernel
theorem dr_cX15_usesB_23 : decode cX15_usesB 23 = .ok (.iconst 1, 1) := by decide +kernel
theorem dr_cX15_usesB_24 : decode cX15_usesB 24 = .ok (.goto 4, 3) := by decide +kernel
theorem dr_cX15_put_0 : decode cX15_put 0 = .ok (.aload_n 0, 1) := by decide +kernel
theorem dr_cX15_put_1 : decode cX15_put 1 = .ok (.aload_n 1, 1) := by decide +kernel
theorem dr_cX15_put_2 : decode cX15_put 2 = .ok (.getfield 9, 3) := by decide +kernel
theorem dr_cX15_put_5 : decode cX15_put 5 = .ok (.putfield 9, 3) := by decide +kernel
theorem dr_cX15_put_8 : decode cX15_put 8 = .ok (.aload_n 0, 1) := by decide +kernel
theorem dr_cX15_put_9 : decode cX15_put 9 = .ok (.aload_n 1, 1) := by decide +kernel
theorem dr_cX15_put_10 : decode cX15_put 10 = .ok (.getfield 35, 3) := by decide +kernel
theorem wr_9_181 : (Jvm.Cond.fieldLink "SpillForgeModel$Row" (35 : Nat) "SpillForgeModel$Row" "t" "I") ∈ gw := gw_9 181 rfl rfl
theorem dr_cX15_put_13 : decode cX15_put 13 = .ok (.putfield 35, 3) := by decide +kernel
theorem dr_cX15_put_16 : decode cX15_put 16 = .ok (.aload_n 0, 1) := by decide +kernel
theorem dr_cX15_put_17 : decode cX15_put 17 = .ok (.aload_n 1, 1) := by decide +kernel
theorem dr_cX15_put_18 : decode cX15_put 18 = .ok (.getfield 26, 3) := by decide +kernel
theorem wr_9_185 : (Jvm.Cond.fieldLink "SpillForgeModel$Row" (26 : Nat) "SpillForgeModel$Row" "a" "I") ∈ gw := gw_9 185 rfl rfl
theorem dr_cX15_put_21 : decode cX15_put 21 = .ok (.putfield 26, 3) := by decide +kernel
theorem dr_cX15_put_24 : decode cX15_put 24 = .ok (.aload_n 0, 1) := by decide +kernel
theorem dr_cX15_put_25 : decode cX15_put 25 = .ok (.aload_n 1, 1) := by decide +kernel
theorem dr_cX15_put_26 : decode cX15_put 26 = .ok (.getfield 32, 3) := by decide +kernel
theorem wr_9_189 : (Jvm.Cond.fieldLink "SpillForgeModel$Row" (32 : Nat) "SpillForgeModel$Row" "b" "I") ∈ gw := gw_9 189 rfl rfl
theorem dr_cX15_put_29 : decode cX15_put 29 = .ok (.putfield 32, 3) := by decide +kernel
theorem dr_cX15_put_32 : decode cX15_put 32 = .ok (.aload_n 0, 1) := by decide +kernel
theorem dr_cX15_put_33 : decode cX15_put 33 = .ok (.aload_n 1, 1) := by decide +kernel
theorem dr_cX15_put_34 : decode cX15_put 34 = .ok (.getfield 15, 3) := by decide +kernel
theorem dr_cX15_put_37 : decode cX15_put 37 = .ok (.putfield 15, 3) := by decide +kernel
theorem dr_cX15_put_40 : decode cX15_put 40 = .ok (.aload_n 0, 1) := by decide +kernel
theorem dr_cX15_put_41 : decode cX15_put 41 = .ok (.aload_n 1, 1) := by decide +kernel
theorem dr_cX15_put_42 : decode cX15_put 42 = .ok (.getfield 19, 3) := by decide +kernel
theorem dr_cX15_put_45 : decode cX15_put 45 = .ok (.putfield 19, 3) := by decide +kernel
theorem dr_cX15_put_48 : decode cX15_put 48 = .ok (.aload_n 0, 1) := by decide +kernel
theorem dr_cX15_put_49 : decode cX15_put 49 = .ok (.aload_n 1, 1) := by decide +kernel
theorem dr_cX15_put_50 : decode cX15_put 50 = .ok (.getfield 38, 3) := by decide +kernel
theorem wr_9_194 : (Jvm.Cond.fieldLink "SpillForgeModel$Row" (38 : Nat) "SpillForgeModel$Row" "slot" "I") ∈ gw := gw_9 194 rfl rfl
theorem dr_cX15_put_53 : decode cX15_put 53 = .ok (.putfield 38, 3) := by decide +kernel
theorem dr_cX15_put_56 : decode cX15_put 56 = .ok (.return_, 1) := by decide +kernel
theorem dr_cX17_setOf_0 : decode cX17_setOf 0 = .ok (.iload_n 1, 1) := by decide +kernel
theorem dr_cX17_setOf_1 : decode cX17_setOf 1 = .ok (.ifCond .eq 23, 3) := by decide +kernel
theorem dr_cX17_setOf_24 : decode cX17_setOf 24 = .ok (.aload_n 0, 1) := by decide +kernel
theorem dr_cX17_setOf_25 : decode cX17_setOf 25 = .ok (.invokevirtual 48, 3) := by decide +kernel
theorem wr_10_181 : (Jvm.Cond.methodLink "SpillForgeModel" (48 : Nat) ({ cls := "SpillForgeModel$Row", name := "sets", desc := "()Z" } : Jvm.MethodName)) ∈ gw := gw_10 181 rfl rfl
theorem wr_1_39 : (Jvm.Cond.initialized "SpillForgeModel$Row") ∈ gw := gw_1 39 rfl rfl
theorem wr_10_184 : (Jvm.Cond.code ({ cls := "SpillForgeModel$Row", name := "sets", desc := "()Z" } : Jvm.MethodName) prog_18_method_2_code (1 : Nat) (Option.some Jvm.ClassFile.FieldType.boolean)) ∈ gw := gw_10 184 rfl rfl
theorem wr_10_182 : (Jvm.Cond.instanceMethod ({ cls := "SpillForgeModel$Row", name := "sets", desc := "()Z" } : Jvm.MethodName)) ∈ gw := gw_10 182 rfl rfl
theorem wr_10_183 : (Jvm.Cond.selects "SpillForgeModel$Row" ({ cls := "SpillForgeModel$Row", name := "sets", desc := "()Z" } : Jvm.MethodName) ({ cls := "SpillForgeModel$Row", name := "sets", desc := "()Z" } : Jvm.MethodName)) ∈ gw := gw_10 183 rfl rfl
theorem dr_cX17_setOf_28 : decode cX17_setOf 28 = .ok (.ifCond .eq 10, 3) := by decide +kernel
theorem dr_cX17_setOf_38 : decode cX17_setOf 38 = .ok (.iconst (-1), 1) := by decide +kernel
theorem dr_cX17_setOf_39 : decode cX17_setOf 39 = .ok (.ireturn, 1) := by decide +kernel
theorem dr_cX17_setOf_31 : decode cX17_setOf 31 = .ok (.aload_n 0, 1) := by decide +kernel
theorem dr_cX17_setOf_32 : decode cX17_setOf 32 = .ok (.getfield 52, 3) := by decide +kernel
theorem wr_9_182 : (Jvm.Cond.fieldLink "SpillForgeModel" (52 : Nat) "SpillForgeModel$Row" "t" "I") ∈ gw := gw_9 182 rfl rfl
theorem dr_cX17_setOf_35 : decode cX17_setOf 35 = .ok (.goto 4, 3) := by decide +kernel
theorem dr_cX17_setOf_4 : decode cX17_setOf 4 = .ok (.aload_n 0, 1) := by decide +kernel
theorem dr_cX17_setOf_5 : decode cX17_setOf 5 = .ok (.getfield 39, 3) := by decide +kernel
theorem wr_9_177 : (Jvm.Cond.fieldLink "SpillForgeModel" (39 : Nat) "SpillForgeModel$Row" "op" "I") ∈ gw := gw_9 177 rfl rfl
theorem dr_cX17_setOf_8 : decode cX17_setOf 8 = .ok (.bipush 23, 2) := by decide +kernel
theorem dr_cX17_setOf_10 : decode cX17_setOf 10 = .ok (.if_icmp .ne 10, 3) := by decide +kernel
theorem dr_cX17_setOf_20 : decode cX17_setOf 20 = .ok (.iconst (-1), 1) := by decide +kernel
theorem dr_cX17_setOf_21 : decode cX17_setOf 21 = .ok (.goto 18, 3) := by decide +kernel
theorem dr_cX17_setOf_13 : decode cX17_setOf 13 = .ok (.aload_n 0, 1) := by decide +kernel
theorem dr_cX17_setOf_14 : decode cX17_setOf 14 = .ok (.getfield 45, 3) := by decide +kernel
theorem wr_9_193 : (Jvm.Cond.fieldLink "SpillForgeModel" (45 : Nat) "SpillForgeModel$Row" "slot" "I") ∈ gw := gw_9 193 rfl rfl
theorem dr_cX17_setOf_17 : decode cX17_setOf 17 = .ok (.goto 22, 3) := by decide +kernel
theorem dr_cX12_ways_0 : decode cX12_ways 0 = .ok (.aload_n 0, 1) := by decide +kernel
theorem dr_cX12_ways_1 : decode cX12_ways 1 = .ok (.getfield 21, 3) := by decide +kernel
theorem wr_9_222 : (Jvm.Cond.fieldLink "SpillForgeModel$Block" (21 : Nat) "SpillForgeModel$Block" "end" "LSpillForgeModel$Row;") ∈ gw := gw_9 222 rfl rfl
theorem dr_cX12_ways_4 : decode cX12_ways 4 = .ok (.getfield 25, 3) := by decide +kernel
theorem wr_9_176 : (Jvm.Cond.fieldLink "SpillForgeModel$Block" (25 : Nat) "SpillForgeModel$Row" "op" "I") ∈ gw := gw_9 176 rfl rfl
theorem dr_cX12_ways_7 : decode cX12_ways 7 = .ok (.bipush 32, 2) := by decide +kernel
theorem dr_cX12_ways_9 : decode cX12_ways 9 = .ok (.if_icmp .ne 7, 3) := by decide +kernel
theorem dr_cX12_ways_16 : decode cX12_ways 16 = .ok (.aload_n 0, 1) := by decide +kernel
theorem dr_cX12_ways_17 : decode cX12_ways 17 = .ok (.getfield 21, 3) := by decide +kernel
theorem dr_cX12_ways_20 : decode cX12_ways 20 = .ok (.getfield 25, 3) := by decide +kernel
theorem dr_cX12_ways_23 : decode cX12_ways 23 = .ok (.bipush 30, 2) := by decide +kernel
theorem dr_cX12_ways_25 : decode cX12_ways 25 = .ok (.if_icmp .eq 14, 3) := by decide +kernel
theorem dr_cX12_ways_39 : decode cX12_ways 39 = .ok (.iconst 1, 1) := by decide +kernel
theorem dr_cX12_ways_40 : decode cX12_ways 40 = .ok (.goto 4, 3) := by decide +kernel
theorem dr_cX12_ways_44 : decode cX12_ways 44 = .ok (.ireturn, 1) := by decide +kernel
theorem dr_cX12_ways_28 : decode cX12_ways 28 = .ok (.aload_n 0, 1) := by decide +kernel
theorem dr_cX12_ways_29 : decode cX12_ways 29 = .ok (.getfield 29, 3) := by decide +kernel
theorem wr_9_226 : (Jvm.Cond.fieldLink "SpillForgeModel$Block" (29 : Nat) "SpillForgeModel$Block" "first" "I") ∈ gw := gw_9 226 rfl rfl
theorem dr_cX12_ways_32 : decode cX12_ways 32 = .ok (.aload_n 0, 1) := by decide +kernel
theorem dr_cX12_ways_33 : decode cX12_ways 33 = .ok (.getfield 32, 3) := by decide +kernel
theorem wr_9_230 : (Jvm.Cond.fieldLink "SpillForgeModel$Block" (32 : Nat) "SpillForgeModel$Block" "second" "I") ∈ gw := gw_9 230 rfl rfl
theorem dr_cX12_ways_36 : decode cX12_ways 36 = .ok (.if_icmp .ne 7, 3) := by decide +kernel
theorem dr_cX12_ways_43 : decode cX12_ways 43 = .ok (.iconst 2, 1) := by decide +kernel
theorem dr_cX12_ways_12 : decode cX12_ways 12 = .ok (.iconst 0, 1) := by decide +kernel
theorem dr_cX12_ways_13 : decode cX12_ways 13 = .ok (.goto 31, 3) := by decide +kernel
theorem dr_cX12_way_0 : decode cX12_way 0 = .ok (.iload_n 1, 1) := by decide +kernel
theorem dr_cX12_way_1 : decode cX12_way 1 = .ok (.ifCond .ne 10, 3) := by decide +kernel
theorem dr_cX12_way_11 : decode cX12_way 11 = .ok (.aload_n 0, 1) := by decide +kernel
theorem dr_cX12_way_12 : decode cX12_way 12 = .ok (.getfield 32, 3) := by decide +kernel
theorem dr_cX12_way_15 : decode cX12_way 15 = .ok (.ireturn, 1) := by decide +kernel
theorem dr_cX12_way_4 : decode cX12_way 4 = .ok (.aload_n 0, 1) := by decide +kernel
theorem dr_cX12_way_5 : decode cX12_way 5 = .ok (.getfield 29, 3) := by decide +kernel
theorem dr_cX12_way_8 : decode cX12_way 8 = .ok (.goto 7, 3) := by decide +kernel
theorem dr_cX17_has_0 : decode cX17_has 0 = .ok (.aload_n 0, 1) := by decide +kernel
theorem dr_cX17_has_1 : decode cX17_has 1 = .ok (.iload_n 1, 1) := by decide +kernel
theorem dr_cX17_has_2 : decode cX17_has 2 = .ok (.bipush 6, 2) := by decide +kernel
theorem dr_cX17_has_4 : decode cX17_has 4 = .ok (.ishr, 1) := by decide +kernel
theorem dr_cX17_has_5 : decode cX17_has 5 = .ok (.laload, 1) := by decide +kernel
theorem dr_cX17_has_6 : decode cX17_has 6 = .ok (.iload_n 1, 1) := by decide +kernel
theorem dr_cX17_has_7 : decode cX17_has 7 = .ok (.lushr, 1) := by decide +kernel
theorem dr_cX17_has_8 : decode cX17_has 8 = .ok (.lconst 1, 1) := by decide +kernel
theorem dr_cX17_has_9 : decode cX17_has 9 = .ok (.land, 1) := by decide +kernel
theorem dr_cX17_has_10 : decode cX17_has 10 = .ok (.lconst 0, 1) := by decide +kernel
theorem dr_cX17_has_11 : decode cX17_has 11 = .ok (.lcmp, 1) := by decide +kernel
theorem dr_cX17_has_12 : decode cX17_has 12 = .ok (.ifCond .eq 7, 3) := by decide +kernel
theorem dr_cX17_has_19 : decode cX17_has 19 = .ok (.iconst 0, 1) := by decide +kernel
theorem dr_cX17_has_20 : decode cX17_has 20 = .ok (.ireturn, 1) := by decide +kernel
theorem dr_cX17_has_15 : decode cX17_has 15 = .ok (.iconst 1, 1) := by decide +kernel
theorem dr_cX17_has_16 : decode cX17_has 16 = .ok (.goto 4, 3) := by decide +kernel
theorem dr_cX17_set_0 : decode cX17_set 0 = .ok (.aload_n 0, 1) := by decide +kernel
theorem dr_cX17_set_1 : decode cX17_set 1 = .ok (.iload_n 1, 1) := by decide +kernel
theorem dr_cX17_set_2 : decode cX17_set 2 = .ok (.bipush 6, 2) := by decide +kernel
theorem dr_cX17_set_4 : decode cX17_set 4 = .ok (.ishr, 1) := by decide +kernel
theorem dr_cX17_set_5 : decode cX17_set 5 = .ok (.dup2, 1) := by decide +kernel
theorem dr_cX17_set_6 : decode cX17_set 6 = .ok (.laload, 1) := by decide +kernel
theorem dr_cX17_set_7 : decode cX17_set 7 = .ok (.lconst 1, 1) := by decide +kernel
theorem dr_cX17_set_8 : decode cX17_set 8 = .ok (.iload_n 1, 1) := by decide +kernel
theorem dr_cX17_set_9 : decode cX17_set 9 = .ok (.lshl, 1) := by decide +kernel
theorem dr_cX17_set_10 : decode cX17_set 10 = .ok (.lor, 1) := by decide +kernel
theorem dr_cX17_set_11 : decode cX17_set 11 = .ok (.lastore, 1) := by decide +kernel
theorem dr_cX17_set_12 : decode cX17_set 12 = .ok (.return_, 1) := by decide +kernel
theorem dr_cX17_clear_0 : decode cX17_clear 0 = .ok (.aload_n 0, 1) := by decide +kernel
theorem dr_cX17_clear_1 : decode cX17_clear 1 = .ok (.iload_n 1, 1) := by decide +kernel
theorem dr_cX17_clear_2 : decode cX17_clear 2 = .ok (.bipush 6, 2) := by decide +kernel
theorem dr_cX17_clear_4 : decode cX17_clear 4 = .ok (.ishr, 1) := by decide +kernel
theorem dr_cX17_clear_5 : decode cX17_clear 5 = .ok (.dup2, 1) := by decide +kernel
theorem dr_cX17_clear_6 : decode cX17_clear 6 = .ok (.laload, 1) := by decide +kernel
theorem dr_cX17_clear_7 : decode cX17_clear 7 = .ok (.lconst 1, 1) := by decide +kernel
theorem dr_cX17_clear_8 : decode cX17_clear 8 = .ok (.iload_n 1, 1) := by decide +kernel
theorem dr_cX17_clear_9 : decode cX17_clear 9 = .ok (.lshl, 1) := by decide +kernel
theorem dr_cX17_clear_10 : decode cX17_clear 10 = .ok (.ldc2_w 31, 3) := by decide +kernel
theorem wr_10_188 : (Jvm.Cond.constantLong "SpillForgeModel" (31 : Nat) (-1 : Int64)) ∈ gw := gw_10 188 rfl rfl
theorem dr_cX17_clear_13 : decode cX17_clear 13 = .ok (.lxor, 1) := by decide +kernel
theorem dr_cX17_clear_14 : decode cX17_clear 14 = .ok (.land, 1) := by decide +kernel
theorem dr_cX17_clear_15 : decode cX17_clear 15 = .ok (.lastore, 1) := by decide +kernel
theorem dr_cX17_clear_16 : decode cX17_clear 16 = .ok (.return_, 1) := by decide +kernel
theorem dr_cJ13_bitCount_95d88_0 : decode cJ13_bitCount_95d88 0 = .ok (.lload_n 0, 1) := by decide +kernel
theorem dr_cJ13_bitCount_95d88_1 : decode cJ13_bitCount_95d88 1 = .ok (.lload_n 0, 1) := by decide +kernel
theorem dr_cJ13_bitCount_95d88_2 : decode cJ13_bitCount_95d88 2 = .ok (.iconst 1, 1) := by decide +kernel
theorem dr_cJ13_bitCount_95d88_3 : decode cJ13_bitCount_95d88 3 = .ok (.lushr, 1) := by decide +kernel
theorem dr_cJ13_bitCount_95d88_4 : decode cJ13_bitCount_95d88 4 = .ok (.ldc2_w 314, 3) := by decide +kernel
theorem wr_4_96 : (Jvm.Cond.constantLong "java/lang/Long" (314 : Nat) (6148914691236517205 : Int64)) ∈ gw := gw_4 96 rfl rfl
theorem dr_cJ13_bitCount_95d88_7 : decode cJ13_bitCount_95d88 7 = .ok (.land, 1) := by decide +kernel
theorem dr_cJ13_bitCount_95d88_8 : decode cJ13_bitCount_95d88 8 = .ok (.lsub, 1) := by decide +kernel
theorem dr_cJ13_bitCount_95d88_9 : decode cJ13_bitCount_95d88 9 = .ok (.lstore_n 0, 1) := by decide +kernel
theorem dr_cJ13_bitCount_95d88_10 : decode cJ13_bitCount_95d88 10 = .ok (.lload_n 0, 1) := by decide +kernel
theorem dr_cJ13_bitCount_95d88_11 : decode cJ13_bitCount_95d88 11 = .ok (.ldc2_w 316, 3) := by decide +kernel
theorem wr_4_97 : (Jvm.Cond.constantLong "java/lang/Long" (316 : Nat) (3689348814741910323 : Int64)) ∈ gw := gw_4 97 rfl rfl
theorem dr_cJ13_bitCount_95d88_14 : decode cJ13_bitCount_95d88 14 = .ok (.land, 1) := by decide +kernel
theorem dr_cJ13_bitCount_95d88_15 : decode cJ13_bitCount_95d88 15 = .ok (.lload_n 0, 1) := by decide +kernel
theorem dr_cJ13_bitCount_95d88_16 : decode cJ13_bitCount_95d88 16 = .ok (.iconst 2, 1) := by decide +kernel
theorem dr_cJ13_bitCount_95d88_17 : decode cJ13_bitCount_95d88 17 = .ok (.lushr, 1) := by decide +kernel
theorem dr_cJ13_bitCount_95d88_18 : decode cJ13_bitCount_95d88 18 = .ok (.ldc2_w 316, 3) := by decide +kernel
theorem dr_cJ13_bitCount_95d88_21 : decode cJ13_bitCount_95d88 21 = .ok (.land, 1) := by decide +kernel
theorem dr_cJ13_bitCount_95d88_22 : decode cJ13_bitCount_95d88 22 = .ok (.ladd, 1) := by decide +kernel
theorem dr_cJ13_bitCount_95d88_23 : decode cJ13_bitCount_95d88 23 = .ok (.lstore_n 0, 1) := by decide +kernel
theorem dr_cJ13_bitCount_95d88_24 : decode cJ13_bitCount_95d88 24 = .ok (.lload_n 0, 1) := by decide +kernel
theorem dr_cJ13_bitCount_95d88_25 : decode cJ13_bitCount_95d88 25 = .ok (.lload_n 0, 1) := by decide +kernel
theorem dr_cJ13_bitCount_95d88_26 : decode cJ13_bitCount_95d88 26 = .ok (.iconst 4, 1) := by decide +kernel
theorem dr_cJ13_bitCount_95d88_27 : decode cJ13_bitCount_95d88 27 = .ok (.lushr, 1) := by decide +kernel
theorem dr_cJ13_bitCount_95d88_28 : decode cJ13_bitCount_95d88 28 = .ok (.ladd, 1) := by decide +kernel
theorem dr_cJ13_bitCount_95d88_29 : decode cJ13_bitCount_95d88 29 = .ok (.ldc2_w 318, 3) := by decide +kernel
theorem wr_4_98 : (Jvm.Cond.constantLong "java/lang/Long" (318 : Nat) (1085102592571150095 : Int64)) ∈ gw := gw_4 98 rfl rfl
theorem dr_cJ13_bitCount_95d88_32 : decode cJ13_bitCount_95d88 32 = .ok (.land, 1) := by decide +kernel
theorem dr_cJ13_bitCount_95d88_33 : decode cJ13_bitCount_95d88 33 = .ok (.lstore_n 0, 1) := by decide +kernel
theorem dr_cJ13_bitCount_95d88_34 : decode cJ13_bitCount_95d88 34 = .ok (.lload_n 0, 1) := by decide +kernel
theorem dr_cJ13_bitCount_95d88_35 : decode cJ13_bitCount_95d88 35 = .ok (.lload_n 0, 1) := by decide +kernel
theorem dr_cJ13_bitCount_95d88_36 : decode cJ13_bitCount_95d88 36 = .ok (.bipush 8, 2) := by decide +kernel
theorem dr_cJ13_bitCount_95d88_38 : decode cJ13_bitCount_95d88 38 = .ok (.lushr, 1) := by decide +kernel
theorem dr_cJ13_bitCount_95d88_39 : decode cJ13_bitCount_95d88 39 = .ok (.ladd, 1) := by decide +kernel
theorem dr_cJ13_bitCount_95d88_40 : decode cJ13_bitCount_95d88 40 = .ok (.lstore_n 0, 1) := by decide +kernel
theorem dr_cJ13_bitCount_95d88_41 : decode cJ13_bitCount_95d88 41 = .ok (.lload_n 0, 1) := by decide +kernel
theorem dr_cJ13_bitCount_95d88_42 : decode cJ13_bitCount_95d88 42 = .ok (.lload_n 0, 1) := by decide +kernel
theorem dr_cJ13_bitCount_95d88_43 : decode cJ13_bitCount_95d88 43 = .ok (.bipush 16, 2) := by decide +kernel
theorem dr_cJ13_bitCount_95d88_45 : decode cJ13_bitCount_95d88 45 = .ok (.lushr, 1) := by decide +kernel
theorem dr_cJ13_bitCount_95d88_46 : decode cJ13_bitCount_95d88 46 = .ok (.ladd, 1) := by decide +kernel
theorem dr_cJ13_bitCount_95d88_47 : decode cJ13_bitCount_95d88 47 = .ok (.lstore_n 0, 1) := by decide +kernel
theorem dr_cJ13_bitCount_95d88_48 : decode cJ13_bitCount_95d88 48 = .ok (.lload_n 0, 1) := by decide +kernel
theorem dr_cJ13_bitCount_95d88_49 : decode cJ13_bitCount_95d88 49 = .ok (.lload_n 0, 1) := by decide +kernel
theorem dr_cJ13_bitCount_95d88_50 : decode cJ13_bitCount_95d88 50 = .ok (.bipush 32, 2) := by decide +kernel
theorem dr_cJ13_bitCount_95d88_52 : decode cJ13_bitCount_95d88 52 = .ok (.lushr, 1) := by decide +kernel
theorem dr_cJ13_bitCount_95d88_53 : decode cJ13_bitCount_95d88 53 = .ok (.ladd, 1) := by decide +kernel
theorem dr_cJ13_bitCount_95d88_54 : decode cJ13_bitCount_95d88 54 = .ok (.lstore_n 0, 1) := by decide +kernel
theorem dr_cJ13_bitCount_95d88_55 : decode cJ13_bitCount_95d88 55 = .ok (.lload_n 0, 1) := by decide +kernel
theorem dr_cJ13_bitCount_95d88_56 : decode cJ13_bitCount_95d88 56 = .ok (.l2i, 1) := by decide +kernel
theorem dr_cJ13_bitCount_95d88_57 : decode cJ13_bitCount_95d88 57 = .ok (.bipush 127, 2) := by decide +kernel
theorem dr_cJ13_bitCount_95d88_59 : decode cJ13_bitCount_95d88 59 = .ok (.iand, 1) := by decide +kernel
theorem dr_cJ13_bitCount_95d88_60 : decode cJ13_bitCount_95d88 60 = .ok (.ireturn, 1) := by decide +kernel
theorem dr_cX17_count_0 : decode cX17_count 0 = .ok (.iconst 0, 1) := by decide +kernel
theorem dr_cX17_count_1 : decode cX17_count 1 = .ok (.istore_n 1, 1) := by decide +kernel
theorem dr_cX17_count_2 : decode cX17_count 2 = .ok (.iconst 0, 1) := by decide +kernel
theorem dr_cX17_count_3 : decode cX17_count 3 = .ok (.istore_n 2, 1) := by decide +kernel
theorem dr_cX17_count_4 : decode cX17_count 4 = .ok (.iload_n 2, 1) := by decide +kernel
theorem dr_cX17_count_5 : decode cX17_count 5 = .ok (.aload_n 0, 1) := by decide +kernel
theorem dr_cX17_count_6 : decode cX17_count 6 = .ok (.arraylength, 1) := by decide +kernel
theorem dr_cX17_count_7 : decode cX17_count 7 = .ok (.if_icmp .ge 18, 3) := by decide +kernel
theorem dr_cX17_count_25 : decode cX17_count 25 = .ok (.iload_n 1, 1) := by decide +kernel
theorem dr_cX17_count_26 : decode cX17_count 26 = .ok (.ireturn, 1) := by decide +kernel
theorem dr_cX17_count_10 : decode cX17_count 10 = .ok (.iload_n 1, 1) := by decide +kernel
theorem dr_cX17_count_11 : decode cX17_count 11 = .ok (.aload_n 0, 1) := by decide +kernel
theorem dr_cX17_count_12 : decode cX17_count 12 = .ok (.iload_n 2, 1) := by decide +kernel
theorem dr_cX17_count_13 : decode cX17_count 13 = .ok (.laload, 1) := by decide +kernel
theorem dr_cX17_count_14 : decode cX17_count 14 = .ok (.invokestatic 33, 3) := by decide +kernel
theorem wr_11_19 : (Jvm.Cond.methodLink "SpillForgeModel" (33 : Nat) ({ cls := "java/lang/Long", name := "bitCount", desc := "(J)I" } : Jvm.MethodName)) ∈ gw := gw_11 19 rfl rfl
theorem wr_1_31 : (Jvm.Cond.initialized "java/lang/Long") ∈ gw := gw_1 31 rfl rfl
theorem wr_4_95 : (Jvm.Cond.code ({ cls := "java/lang/Long", name := "bitCount", desc := "(J)I" } : Jvm.MethodName) prog_31_method_50_code (2 : Nat) (Option.some Jvm.ClassFile.FieldType.int)) ∈ gw := gw_4 95 rfl rfl
theorem wr_4_94 : (Jvm.Cond.static ({ cls := "java/lang/Long", name := "bitCount", desc := "(J)I" } : Jvm.MethodName)) ∈ gw := gw_4 94 rfl rfl
theorem dr_cX17_count_17 : decode cX17_count 17 = .ok (.iadd, 1) := by decide +kernel
theorem dr_cX17_count_18 : decode cX17_count 18 = .ok (.istore_n 1, 1) := by decide +kernel
theorem dr_cX17_count_19 : decode cX17_count 19 = .ok (.iinc 2 1, 3) := by decide +kernel
theorem dr_cX17_count_22 : decode cX17_count 22 = .ok (.goto (-18), 3) := by decide +kernel
theorem dr_cX17_result_0 : decode cX17_result 0 = .ok (.iload_n 0, 1) := by decide +kernel
theorem dr_cX17_result_1 : decode cX17_result 1 = .ok (.tableswitch 201 1 13 #[67, 74, 81, 88, 103, 118, 125, 132, 139, 149, 159, 173, 187], 67) := by decide +kernel
theorem dr_cX17_result_68 : decode cX17_result 68 = .ok (.iload_n 1, 1) := by decide +kernel
theorem dr_cX17_result_69 : decode cX17_result 69 = .ok (.iload_n 2, 1) := by decide +kernel
theorem dr_cX17_result_70 : decode cX17_result 70 = .ok (.iadd, 1) := by decide +kernel
theorem dr_cX17_result_71 : decode cX17_result 71 = .ok (.istore_n 3, 1) := by decide +kernel
theorem dr_cX17_result_72 : decode cX17_result 72 = .ok (.goto 141, 3) := by decide +kernel
theorem dr_cX17_result_213 : decode cX17_result 213 = .ok (.iload_n 3, 1) := by decide +kernel
theorem dr_cX17_result_214 : decode cX17_result 214 = .ok (.i2l, 1) := by decide +kernel
theorem dr_cX17_result_215 : decode cX17_result 215 = .ok (.ldc2_w 269, 3) := by decide +kernel
theorem wr_11_108 : (Jvm.Cond.constantLong "SpillForgeModel" (269 : Nat) (4294967295 : Int64)) ∈ gw := gw_11 108 rfl rfl
theorem dr_cX17_result_218 : decode cX17_result 218 = .ok (.land, 1) := by decide +kernel
theorem dr_cX17_result_219 : decode cX17_result 219 = .ok (.lreturn, 1) := by decide +kernel
theorem dr_cX17_result_75 : decode cX17_result 75 = .ok (.iload_n 1, 1) := by decide +kernel
theorem dr_cX17_result_76 : decode cX17_result 76 = .ok (.iload_n 2, 1) := by decide +kernel
theorem dr_cX17_result_77 : decode cX17_result 77 = .ok (.isub, 1) := by decide +kernel
theorem dr_cX17_result_78 : decode cX17_result 78 = .ok (.istore_n 3, 1) := by decide +kernel
theorem dr_cX17_result_79 : decode cX17_result 79 = .ok (.goto 134, 3) := by decide +kernel
theorem dr_cX17_result_82 : decode cX17_result 82 = .ok (.iload_n 1, 1) := by decide +kernel
theorem dr_cX17_result_83 : decode cX17_result 83 = .ok (.iload_n 2, 1) := by decide +kernel
theorem dr_cX17_result_84 : decode cX17_result 84 = .ok (.imul, 1) := by decide +kernel
theorem dr_cX17_result_85 : decode cX17_result 85 = .ok (.istore_n 3, 1) := by decide +kernel
theorem dr_cX17_result_86 : decode cX17_result 86 = .ok (.goto 127, 3) := by decide +kernel
theorem dr_cX17_result_89 : decode cX17_result 89 = .ok (.iload_n 2, 1) := by decide +kernel
theorem dr_cX17_result_90 : decode cX17_result 90 = .ok (.ifCond .ne 7, 3) := by decide +kernel
theorem dr_cX17_result_97 : decode cX17_result 97 = .ok (.iload_n 1, 1) := by decide +kernel
theorem dr_cX17_result_98 : decode cX17_result 98 = .ok (.iload_n 2, 1) := by decide +kernel
theorem dr_cX17_result_99 : decode cX17_result 99 = .ok (.idiv, 1) := by decide +kernel
theorem dr_cX17_result_100 : decode cX17_result 100 = .ok (.istore_n 3, 1) := by decide +kernel
theorem dr_cX17_result_101 : decode cX17_result 101 = .ok (.goto 112, 3) := by decide +kernel
theorem dr_cX17_result_93 : decode cX17_result 93 = .ok (.ldc2_w 267, 3) := by decide +kernel
theorem wr_11_107 : (Jvm.Cond.constantLong "SpillForgeModel" (267 : Nat) (4294967296 : Int64)) ∈ gw := gw_11 107 rfl rfl
theorem dr_cX17_result_96 : decode cX17_result 96 = .ok (.lreturn, 1) := by decide +kernel
theorem dr_cX17_result_104 : decode cX17_result 104 = .ok (.iload_n 2, 1) := by decide +kernel
theorem dr_cX17_result_105 : decode cX17_result 105 = .ok (.ifCond .ne 7, 3) := by decide +kernel
theorem dr_cX17_result_112 : decode cX17_result 112 = .ok (.iload_n 1, 1) := by decide +kernel
theorem dr_cX17_result_113 : decode cX17_result 113 = .ok (.iload_n 2, 1) := by decide +kernel
theorem dr_cX17_result_114 : decode cX17_result 114 = .ok (.irem, 1) := by decide +kernel
theorem dr_cX17_result_115 : decode cX17_result 115 = .ok (.istore_n 3, 1) := by decide +kernel
theorem dr_cX17_result_116 : decode cX17_result 116 = .ok (.goto 97, 3) := by decide +kernel
theorem dr_cX17_result_108 : decode cX17_result 108 = .ok (.ldc2_w 267, 3) := by decide +kernel
theorem dr_cX17_result_111 : decode cX17_result 111 = .ok (.lreturn, 1) := by decide +kernel
theorem dr_cX17_result_119 : decode cX17_result 119 = .ok (.iload_n 1, 1) := by decide +kernel
theorem dr_cX17_result_120 : decode cX17_result 120 = .ok (.iload_n 2, 1) := by decide +kernel
theorem dr_cX17_result_121 : decode cX17_result 121 = .ok (.iand, 1) := by decide +kernel
theorem dr_cX17_result_122 : decode cX17_result 122 = .ok (.istore_n 3, 1) := by decide +kernel
theorem dr_cX17_result_123 : decode cX17_result 123 = .ok (.goto 90, 3) := by decide +kernel
theorem dr_cX17_result_126 : decode cX17_result 126 = .ok (.iload_n 1, 1) := by decide +kernel
theorem dr_cX17_result_127 : decode cX17_result 127 = .ok (.iload_n 2, 1) := by decide +kernel
theorem dr_cX17_result_128 : decode cX17_result 128 = .ok (.ior, 1) := by decide +kernel
theorem dr_cX17_result_129 : decode cX17_result 129 = .ok (.istore_n 3, 1) := by decide +kernel
theorem dr_cX17_result_130 : decode cX17_result 130 = .ok (.goto 83, 3) := by decide +kernel
theorem dr_cX17_result_133 : decode cX17_result 133 = .ok (.iload_n 1, 1) := by decide +kernel
theorem dr_cX17_result_134 : decode cX17_result 134 = .ok (.iload_n 2, 1) := by decide +kernel
theorem dr_cX17_result_135 : decode cX17_result 135 = .ok (.ixor, 1) := by decide +kernel
theorem dr_cX17_result_136 : decode cX17_result 136 = .ok (.istore_n 3, 1) := by decide +kernel
theorem dr_cX17_result_137 : decode cX17_result 137 = .ok (.goto 76, 3) := by decide +kernel
theorem dr_cX17_result_140 : decode cX17_result 140 = .ok (.iload_n 1, 1) := by decide +kernel
theorem dr_cX17_result_141 : decode cX17_result 141 = .ok (.iload_n 2, 1) := by decide +kernel
theorem dr_cX17_result_142 : decode cX17_result 142 = .ok (.bipush 31, 2) := by decide +kernel
theorem dr_cX17_result_144 : decode cX17_result 144 = .ok (.iand, 1) := by decide +kernel
theorem dr_cX17_result_145 : decode cX17_result 145 = .ok (.ishl, 1) := by decide +kernel
theorem dr_cX17_result_146 : decode cX17_result 146 = .ok (.istore_n 3, 1) := by decide +kernel
theorem dr_cX17_result_147 : decode cX17_result 147 = .ok (.goto 66, 3) := by decide +kernel
theorem dr_cX17_result_150 : decode cX17_result 150 = .ok (.iload_n 1, 1) := by decide +kernel
theorem dr_cX17_result_151 : decode cX17_result 151 = .ok (.iload_n 2, 1) := by decide +kernel
theorem dr_cX17_result_152 : decode cX17_result 152 = .ok (.bipush 31, 2) := by decide +kernel
theorem dr_cX17_result_154 : decode cX17_result 154 = .ok (.iand, 1) := by decide +kernel
theorem dr_cX17_result_155 : decode cX17_result 155 = .ok (.ishr, 1) := by decide +kernel
theorem dr_cX17_result_156 : decode cX17_result 156 = .ok (.istore_n 3, 1) := by decide +kernel
theorem dr_cX17_result_157 : decode cX17_result 157 = .ok (.goto 56, 3) := by decide +kernel
theorem dr_cX17_result_160 : decode cX17_result 160 = .ok (.iload_n 1, 1) := by decide +kernel
theorem dr_cX17_result_161 : decode cX17_result 161 = .ok (.iload_n 2, 1) := by decide +kernel
theorem dr_cX17_result_162 : decode cX17_result 162 = .ok (.if_icmp .ge 7, 3) := by decide +kernel
theorem dr_cX17_result_169 : decode cX17_result 169 = .ok (.iconst 0, 1) := by decide +kernel
theorem dr_cX17_result_170 : decode cX17_result 170 = .ok (.istore_n 3, 1) := by decide +kernel
theorem dr_cX17_result_171 : decode cX17_result 171 = .ok (.goto 42, 3) := by decide +kernel
theorem dr_cX17_result_165 : decode cX17_result 165 = .ok (.iconst 1, 1) := by decide +kernel
theorem dr_cX17_result_166 : decode cX17_result 166 = .ok (.goto 4, 3) := by decide +kernel
theorem dr_cX17_result_174 : decode cX17_result 174 = .ok (.iload_n 1, 1) := by decide +kernel
theorem dr_cX17_result_175 : decode cX17_result 175 = .ok (.iload_n 2, 1) := by decide +kernel
theorem dr_cX17_result_176 : decode cX17_result 176 = .ok (.if_icmp .gt 7, 3) := by decide +kernel
theorem dr_cX17_result_183 : decode cX17_result 183 = .ok (.iconst 0, 1) := by decide +kernel
theorem dr_cX17_result_184 : decode cX17_result 184 = .ok (.istore_n 3, 1) := by decide +kernel
theorem dr_cX17_result_185 : decode cX17_result 185 = .ok (.goto 28, 3) := by decide +kernel
theorem dr_cX17_result_179 : decode cX17_result 179 = .ok (.iconst 1, 1) := by decide +kernel
theorem dr_cX17_result_180 : decode cX17_result 180 = .ok (.goto 4, 3) := by decide +kernel
theorem dr_cX17_result_188 : decode cX17_result 188 = .ok (.iload_n 1, 1) := by decide +kernel
theorem dr_cX17_result_189 : decode cX17_result 189 = .ok (.iload_n 2, 1) := by decide +kernel
theorem dr_cX17_result_190 : decode cX17_result 190 = .ok (.if_icmp .ne 7, 3) := by decide +kernel
theorem dr_cX17_result_197 : decode cX17_result 197 = .ok (.iconst 0, 1) := by decide +kernel
theorem dr_cX17_result_198 : decode cX17_result 198 = .ok (.istore_n 3, 1) := by decide +kernel
theorem dr_cX17_result_199 : decode cX17_result 199 = .ok (.goto 14, 3) := by decide +kernel
theorem dr_cX17_result_193 : decode cX17_result 193 = .ok (.iconst 1, 1) := by decide +kernel
theorem dr_cX17_result_194 : decode cX17_result 194 = .ok (.goto 4, 3) := by decide +kernel
theorem dr_cX17_result_202 : decode cX17_result 202 = .ok (.iload_n 1, 1) := by decide +kernel
theorem dr_cX17_result_203 : decode cX17_result 203 = .ok (.iload_n 2, 1) := by decide +kernel
theorem dr_cX17_result_204 : decode cX17_result 204 = .ok (.if_icmp .eq 7, 3) := by decide +kernel
theorem dr_cX17_result_211 : decode cX17_result 211 = .ok (.iconst 0, 1) := by decide +kernel
theorem dr_cX17_result_212 : decode cX17_result 212 = .ok (.istore_n 3, 1) := by decide +kernel
theorem dr_cX17_result_207 : decode cX17_result 207 = .ok (.iconst 1, 1) := by decide +kernel
theorem dr_cX17_result_208 : decode cX17_result 208 = .ok (.goto 4, 3) := by decide +kernel
abbrev ky_1600_ArrayList_init : gKey := (cJx4a65c_init_da8c8, 1, "java/util/ArrayList", none, [], "<init>", fun _ _ => True)
def pp_1600_ArrayList_init (D : va_G) (I : FieldType → ClassId) (P1595 : List Nat) (F1596 : Nat → va_E) (q1597 : Nat) (p1598 : Int32) (p1599 : Int32) : Option Value → va_W → Nat → Nat → Prop := fun r w dc ds => ∃ (F1643 : Nat → va_E), r = none ∧ w = va_pl P1595 F1643 ∧ rFr [q1597] P1595 F1596 F1643 ∧ F1643 q1597 = .inr (4, [.int 0, .ref (D.2 1002 1), .int p1599]) ∧ dc ≤ 0 ∧ ds ≤ 0
set_option maxRecDepth 100000 in
set_option maxHeartbeats 4000000 in
theorem cp_1600_ArrayList_init (l : Launch) (hl0 : l.stackTraces = false) (D : va_G) (I : FieldType → ClassId) (P1595 : List Nat) (F1596 : Nat → va_E) (q1597 : Nat) (p1598 : Int32) (p1599 : Int32) (hmq1597 : q1597 ∈ P1595) (heq1597 : F1596 q1597 = .inr (4, [.int p1598, .null, .int p1599])) : CtA (gV D I) l yJx4a65c_init_da8c8 cJx4a65c_init_da8c8 1 none 3 52 0 0 [.ref q1597] (va_pl P1595 F1596) (pp_1600_ArrayList_init D I P1595 F1596 q1597 p1598 p1599) gNA := by
  refine CtA_ofF hl0 (by decide +kernel) (Nat.le_of_ble_eq_true rfl) ?_
  have bp1598 := gB_any p1598
  have bp1599 := gB_any p1599
  refine G_aload_n 0 dr_cJx4a65c_init_da8c8_0 rfl ?_
  refine Gw_callI (As := []) (gV_ok D I) (cp_1606_AbstractList_init l hl0 D I P1595 F1596 q1597 p1598 p1599 hmq1597 heq1597) dr_cJx4a65c_init_da8c8_1 ⟨wr_7_8, wr_1_17, wr_7_10, by decide, rfl, (Nat.le_of_ble_eq_true rfl), (Nat.le_of_ble_eq_true rfl)⟩ wr_7_9 rfl (show 0 + 0 ≤ 0 by first | omega | decide) (show 0 + 0 ≤ 0 by first | omega | decide) (Nat.le_of_ble_eq_true rfl) (fun r1628 w1629 dc1625 ds1626 hp1627 => ?_)
  obtain ⟨F1630, rfl, rfl, hfr1632, he1633, hdc, hds⟩ := hp1627
  have hfr1634 : rFr [q1597] P1595 F1596 F1630 := rFr_call (rSub_rf (P := P1595)) (rFr_rf (W := []) (P := P1595) (F := F1596)) hfr1632 (fun b hb hn => ⟨nm_n, (nm_c (fun e => hn (e ▸ List.mem_cons_self)) nm_n)⟩)
  change G _ _ _ _ _ _ _ _ _ _ _
  refine G_widen (cs' := 0) (sl' := 0) (by omega) (by omega) ?_
  refine G_aload_n 0 dr_cJx4a65c_init_da8c8_4 rfl ?_
  refine G_gets dr_cJx4a65c_init_da8c8_5 wr_7_15 gr_de (fun x1636 hx1635 => ?_)
  subst hx1635
  refine Gp_put 1 hmq1597 he1633 dr_cJx4a65c_init_da8c8_8 (gk_Jx4a65c D I) (Nat.le_of_ble_eq_true rfl) wr_7_17 rfl rfl rfl (Nat.le_of_ble_eq_true rfl) (fun F1637 e1638 n1639 => ?_)
  have he1640 : F1637 q1597 = .inr (4, [.int 0, .ref (D.2 1002 1), .int p1599]) := e1638
  have hfr1641 : rFr [q1597] P1595 F1596 F1637 := rFr_put' List.mem_cons_self hfr1634 n1639
  exact G_vretA dr_cJx4a65c_init_da8c8_11 rfl (Nat.le_of_ble_eq_true rfl) (Nat.le_of_ble_eq_true rfl) ⟨F1637, rfl, rfl, hfr1641, he1640, (Nat.le_of_ble_eq_true rfl), (Nat.le_of_ble_eq_true rfl)⟩
abbrev ky_1654_Row_sets : gKey := (cX15_sets, 1, "SpillForgeModel$Row", (some FieldType.boolean), [], "sets", fun _ _ => True)
def pp_1654_Row_sets (D : va_G) (I : FieldType → ClassId) (P1644 : List Nat) (F1645 : Nat → va_E) (q1646 : Nat) (p1647 : Int32) (p1648 : Int32) (p1649 : Int32) (p1650 : Int32) (p1651 : Int32) (p1652 : Int32) (p1653 : Int32) : Option Value → va_W → Nat → Nat → Prop := fun r w dc ds => (r = some (.int 0) ∧ w = va_pl P1644 F1645 ∧ dc ≤ 0 ∧ ds ≤ 0 ∧ 21 < p1647.toInt) ∨ (r = some (.int 1) ∧ w = va_pl P1644 F1645 ∧ dc ≤ 0 ∧ ds ≤ 0 ∧ p1647.toInt ≤ 21)
set_option maxRecDepth 100000 in
set_option maxHeartbeats 4000000 in
theorem cp_1654_Row_sets (l : Launch) (hl0 : l.stackTraces = false) (D : va_G) (I : FieldType → ClassId) (P1644 : List Nat) (F1645 : Nat → va_E) (q1646 : Nat) (p1647 : Int32) (p1648 : Int32) (p1649 : Int32) (p1650 : Int32) (p1651 : Int32) (p1652 : Int32) (p1653 : Int32) (hmq1646 : q1646 ∈ P1644) (heq1646 : F1645 q1646 = .inr (20, [.int p1647, .int p1648, .int p1649, .int p1650, .int p1651, .int p1652, .int p1653])) (bp1647 : gB p1647 0 32) (bp1648 : gB p1648 0 1999) (bp1651 : gB p1651 0 1999) (bp1652 : gB p1652 0 1) (bp1653 : gB p1653 0 1) : CtA (gV D I) l yX15_sets cX15_sets 1 (some FieldType.boolean) 0 0 0 0 [.ref q1646] (va_pl P1644 F1645) (pp_1654_Row_sets D I P1644 F1645 q1646 p1647 p1648 p1649 p1650 p1651 p1652 p1653) gNA := by
  refine CtA_of hl0 (by decide) (Nat.le_of_ble_eq_true rfl) ?_
  have bp1649 := gB_any p1649
  have bp1650 := gB_any p1650
  refine G_aload_n 0 dr_cX15_sets_0 rfl ?_
  refine Gp_get 0 hmq1646 heq1646 dr_cX15_sets_1 (gk_X15 D I) (Nat.le_of_ble_eq_true rfl) wr_9_175 rfl ?_
  refine G_bipush 21 dr_cX15_sets_4 (by decide +kernel) ?_
  refine G_icmp_gt 13 dr_cX15_sets_6 (by decide +kernel) (fun hc1655 => ?_) (fun hc1655 => ?_)
  · have r1656 : 21 < p1647.toInt := gj_ltL hc1655 (show Int32.toInt 21 = 21 by decide)
    have bp1647' : gB p1647 22 32 := ⟨by omega, by omega⟩
    refine G_iconst 0 dr_cX15_sets_13 (by decide +kernel) ?_
    exact G_zretA FieldType.boolean dr_cX15_sets_14 rfl rfl (Nat.le_of_ble_eq_true rfl) (Nat.le_of_ble_eq_true rfl) (Or.inl ⟨rfl, rfl, (Nat.le_of_ble_eq_true rfl), (Nat.le_of_ble_eq_true rfl), r1656⟩)
  · have r1657 : p1647.toInt ≤ 21 := gj_nltL hc1655 (show Int32.toInt 21 = 21 by decide)
    have bp1647' : gB p1647 0 21 := ⟨by omega, by omega⟩
    refine G_iconst 1 dr_cX15_sets_9 (by decide +kernel) ?_
    refine G_goto 14 dr_cX15_sets_10 (by decide +kernel) ?_
    exact G_zretA FieldType.boolean dr_cX15_sets_14 rfl rfl (Nat.le_of_ble_eq_true rfl) (Nat.le_of_ble_eq_true rfl) (Or.inr (⟨rfl, rfl, (Nat.le_of_ble_eq_true rfl), (Nat.le_of_ble_eq_true rfl), r1657⟩))
abbrev ky_1668_Row_usesA : gKey := (cX15_usesA, 1, "SpillForgeModel$Row", (some FieldType.boolean), [], "usesA", fun _ _ => True)
def pp_1668_Row_usesA (D : va_G) (I : FieldType → ClassId) (P1658 : List Nat) (F1659 : Nat → va_E) (q1660 : Nat) (p1661 : Int32) (p1662 : Int32) (p1663 : Int32) (p1664 : Int32) (p1665 : Int32) (p1666 : Int32) (p1667 : Int32) : Option Value → va_W → Nat → Nat → Prop := fun r w dc ds => (r = some (.int 0) ∧ w = va_pl P1658 F1659 ∧ dc ≤ 0 ∧ ds ≤ 0 ∧ p1661.toInt = 20) ∨ (r = some (.int 0) ∧ w = va_pl P1658 F1659 ∧ dc ≤ 0 ∧ ds ≤ 0 ∧ p1661.toInt ≠ 20 ∧ p1661.toInt = 21) ∨ (r = some (.int 0) ∧ w = va_pl P1658 F1659 ∧ dc ≤ 0 ∧ ds ≤ 0 ∧ p1661.toInt ≠ 20 ∧ p1661.toInt ≠ 21 ∧ p1661.toInt = 30) ∨ (r = some (.int 0) ∧ w = va_pl P1658 F1659 ∧ dc ≤ 0 ∧ ds ≤ 0 ∧ p1661.toInt ≠ 20 ∧ p1661.toInt ≠ 21 ∧ p1661.toInt ≠ 30 ∧ p1666.toInt = 0) ∨ (r = some (.int 1) ∧ w = va_pl P1658 F1659 ∧ dc ≤ 0 ∧ ds ≤ 0 ∧ p1661.toInt ≠ 20 ∧ p1661.toInt ≠ 21 ∧ p1661.toInt ≠ 30 ∧ p1666.toInt ≠ 0)
set_option maxRecDepth 100000 in
set_option maxHeartbeats 4000000 in
theorem cp_1668_Row_usesA (l : Launch) (hl0 : l.stackTraces = false) (D : va_G) (I : FieldType → ClassId) (P1658 : List Nat) (F1659 : Nat → va_E) (q1660 : Nat) (p1661 : Int32) (p1662 : Int32) (p1663 : Int32) (p1664 : Int32) (p1665 : Int32) (p1666 : Int32) (p1667 : Int32) (hmq1660 : q1660 ∈ P1658) (heq1660 : F1659 q1660 = .inr (20, [.int p1661, .int p1662, .int p1663, .int p1664, .int p1665, .int p1666, .int p1667])) (bp1661 : gB p1661 0 32) (bp1662 : gB p1662 0 1999) (bp1665 : gB p1665 0 1999) (bp1666 : gB p1666 0 1) (bp1667 : gB p1667 0 1) : CtA (gV D I) l yX15_usesA cX15_usesA 1 (some FieldType.boolean) 0 0 0 0 [.ref q1660] (va_pl P1658 F1659) (pp_1668_Row_usesA D I P1658 F1659 q1660 p1661 p1662 p1663 p1664 p1665 p1666 p1667) gNA := by
  refine CtA_of hl0 (by decide) (Nat.le_of_ble_eq_true rfl) ?_
  have bp1663 := gB_any p1663
  have bp1664 := gB_any p1664
  refine G_aload_n 0 dr_cX15_usesA_0 rfl ?_
  refine Gp_get 0 hmq1660 heq1660 dr_cX15_usesA_1 (gk_X15 D I) (Nat.le_of_ble_eq_true rfl) wr_9_175 rfl ?_
  refine G_bipush 20 dr_cX15_usesA_4 (by decide +kernel) ?_
  refine G_icmp_eq 38 dr_cX15_usesA_6 (by decide +kernel) (fun hc1669 => ?_) (fun hc1669 => ?_)
  · have r1670 : p1661.toInt = 20 := gj_eq hc1669 (show Int32.toInt 20 = 20 by decide)
    have bp1661' : gB p1661 20 20 := ⟨by omega, by omega⟩
    refine G_iconst 0 dr_cX15_usesA_38 (by decide +kernel) ?_
    exact G_zretA FieldType.boolean dr_cX15_usesA_39 rfl rfl (Nat.le_of_ble_eq_true rfl) (Nat.le_of_ble_eq_true rfl) (Or.inl ⟨rfl, rfl, (Nat.le_of_ble_eq_true rfl), (Nat.le_of_ble_eq_true rfl), r1670⟩)
  · have r1671 : p1661.toInt ≠ 20 := gj_neq hc1669 (show Int32.toInt 20 = 20 by decide)
    refine G_aload_n 0 dr_cX15_usesA_9 rfl ?_
    refine Gp_get 0 hmq1660 heq1660 dr_cX15_usesA_10 (gk_X15 D I) (Nat.le_of_ble_eq_true rfl) wr_9_175 rfl ?_
    refine G_bipush 21 dr_cX15_usesA_13 (by decide +kernel) ?_
    refine G_icmp_eq 38 dr_cX15_usesA_15 (by decide +kernel) (fun hc1672 => ?_) (fun hc1672 => ?_)
    · have r1673 : p1661.toInt = 21 := gj_eq hc1672 (show Int32.toInt 21 = 21 by decide)
      have bp1661' : gB p1661 21 21 := ⟨by omega, by omega⟩
      refine G_iconst 0 dr_cX15_usesA_38 (by decide +kernel) ?_
      exact G_zretA FieldType.boolean dr_cX15_usesA_39 rfl rfl (Nat.le_of_ble_eq_true rfl) (Nat.le_of_ble_eq_true rfl) (Or.inr (Or.inl ⟨rfl, rfl, (Nat.le_of_ble_eq_true rfl), (Nat.le_of_ble_eq_true rfl), r1671, r1673⟩))
    · have r1674 : p1661.toInt ≠ 21 := gj_neq hc1672 (show Int32.toInt 21 = 21 by decide)
      refine G_aload_n 0 dr_cX15_usesA_18 rfl ?_
      refine Gp_get 0 hmq1660 heq1660 dr_cX15_usesA_19 (gk_X15 D I) (Nat.le_of_ble_eq_true rfl) wr_9_175 rfl ?_
      refine G_bipush 30 dr_cX15_usesA_22 (by decide +kernel) ?_
      refine G_icmp_eq 38 dr_cX15_usesA_24 (by decide +kernel) (fun hc1675 => ?_) (fun hc1675 => ?_)
      · have r1676 : p1661.toInt = 30 := gj_eq hc1675 (show Int32.toInt 30 = 30 by decide)
        have bp1661' : gB p1661 30 30 := ⟨by omega, by omega⟩
        refine G_iconst 0 dr_cX15_usesA_38 (by decide +kernel) ?_
        exact G_zretA FieldType.boolean dr_cX15_usesA_39 rfl rfl (Nat.le_of_ble_eq_true rfl) (Nat.le_of_ble_eq_true rfl) (Or.inr (Or.inr (Or.inl ⟨rfl, rfl, (Nat.le_of_ble_eq_true rfl), (Nat.le_of_ble_eq_true rfl), r1671, r1674, r1676⟩)))
      · have r1677 : p1661.toInt ≠ 30 := gj_neq hc1675 (show Int32.toInt 30 = 30 by decide)
        refine G_aload_n 0 dr_cX15_usesA_27 rfl ?_
        refine Gp_get 5 hmq1660 heq1660 dr_cX15_usesA_28 (gk_X15 D I) (Nat.le_of_ble_eq_true rfl) wr_9_195 rfl ?_
        refine G_if_eq 38 dr_cX15_usesA_31 (by decide +kernel) (fun hc1678 => ?_) (fun hc1678 => ?_)
        · have r1679 : p1666.toInt = 0 := gj_eq hc1678 (show Int32.toInt 0 = 0 by decide)
          have bp1666' : gB p1666 0 0 := ⟨by omega, by omega⟩
          refine G_iconst 0 dr_cX15_usesA_38 (by decide +kernel) ?_
          exact G_zretA FieldType.boolean dr_cX15_usesA_39 rfl rfl (Nat.le_of_ble_eq_true rfl) (Nat.le_of_ble_eq_true rfl) (Or.inr (Or.inr (Or.inr (Or.inl ⟨rfl, rfl, (Nat.le_of_ble_eq_true rfl), (Nat.le_of_ble_eq_true rfl), r1671, r1674, r1677, r1679⟩))))
        · have r1680 : p1666.toInt ≠ 0 := gj_neq hc1678 (show Int32.toInt 0 = 0 by decide)
          have bp1666' : gB p1666 1 1 := ⟨by omega, by omega⟩
          refine G_iconst 1 dr_cX15_usesA_34 (by decide +kernel) ?_
          refine G_goto 39 dr_cX15_usesA_35 (by decide +kernel) ?_
          exact G_zretA FieldType.boolean dr_cX15_usesA_39 rfl rfl (Nat.le_of_ble_eq_true rfl) (Nat.le_of_ble_eq_true rfl) (Or.inr (Or.inr (Or.inr (Or.inr (⟨rfl, rfl, (Nat.le_of_ble_eq_true rfl), (Nat.le_of_ble_eq_true rfl), r1671, r1674, r1677, r1680⟩)))))
abbrev ky_1691_Row_usesB : gKey := (cX15_usesB, 1, "SpillForgeModel$Row", (some FieldType.boolean), [], "usesB", fun _ _ => True)
def pp_1691_Row_usesB (D : va_G) (I : FieldType → ClassId) (P1681 : List Nat) (F1682 : Nat → va_E) (q1683 : Nat) (p1684 : Int32) (p1685 : Int32) (p1686 : Int32) (p1687 : Int32) (p1688 : Int32) (p1689 : Int32) (p1690 : Int32) : Option Value → va_W → Nat → Nat → Prop := fun r w dc ds => (r = some (.int 0) ∧ w = va_pl P1681 F1682 ∧ dc ≤ 0 ∧ ds ≤ 0 ∧ p1684.toInt ≤ 0) ∨ (r = some (.int 0) ∧ w = va_pl P1681 F1682 ∧ dc ≤ 0 ∧ ds ≤ 0 ∧ 0 < p1684.toInt ∧ 20 ≤ p1684.toInt) ∨ (r = some (.int 0) ∧ w = va_pl P1681 F1682 ∧ dc ≤ 0 ∧ ds ≤ 0 ∧ 0 < p1684.toInt ∧ p1684.toInt < 20 ∧ p1690.toInt = 0) ∨ (r = some (.int 1) ∧ w = va_pl P1681 F1682 ∧ dc ≤ 0 ∧ ds ≤ 0 ∧ 0 < p1684.toInt ∧ p1684.toInt < 20 ∧ p1690.toInt ≠ 0)
set_option maxRecDepth 100000 in
set_option maxHeartbeats 4000000 in
theorem cp_1691_Row_usesB (l : Launch) (hl0 : l.stackTraces = false) (D : va_G) (I : FieldType → ClassId) (P1681 : List Nat) (F1682 : Nat → va_E) (q1683 : Nat) (p1684 : Int32) (p1685 : Int32) (p1686 : Int32) (p1687 : Int32) (p1688 : Int32) (p1689 : Int32) (p1690 : Int32) (hmq1683 : q1683 ∈ P1681) (heq1683 : F1682 q1683 = .inr (20, [.int p1684, .int p1685, .int p1686, .int p1687, .int p1688, .int p1689, .int p1690])) (bp1684 : gB p1684 0 32) (bp1685 : gB p1685 0 1999) (bp1688 : gB p1688 0 1999) (bp1689 : gB p1689 0 1) (bp1690 : gB p1690 0 1) : CtA (gV D I) l yX15_usesB cX15_usesB 1 (some FieldType.boolean) 0 0 0 0 [.ref q1683] (va_pl P1681 F1682) (pp_1691_Row_usesB D I P1681 F1682 q1683 p1684 p1685 p1686 p1687 p1688 p1689 p1690) gNA := by
  refine CtA_of hl0 (by decide) (Nat.le_of_ble_eq_true rfl) ?_
  have bp1686 := gB_any p1686
  have bp1687 := gB_any p1687
  refine G_aload_n 0 dr_cX15_usesB_0 rfl ?_
  refine Gp_get 0 hmq1683 heq1683 dr_cX15_usesB_1 (gk_X15 D I) (Nat.le_of_ble_eq_true rfl) wr_9_175 rfl ?_
  refine G_if_le 27 dr_cX15_usesB_4 (by decide +kernel) (fun hc1692 => ?_) (fun hc1692 => ?_)
  · have r1693 : p1684.toInt ≤ 0 := gj_le hc1692 (show Int32.toInt 0 = 0 by decide)
    have bp1684' : gB p1684 0 0 := ⟨by omega, by omega⟩
    refine G_iconst 0 dr_cX15_usesB_27 (by decide +kernel) ?_
    exact G_zretA FieldType.boolean dr_cX15_usesB_28 rfl rfl (Nat.le_of_ble_eq_true rfl) (Nat.le_of_ble_eq_true rfl) (Or.inl ⟨rfl, rfl, (Nat.le_of_ble_eq_true rfl), (Nat.le_of_ble_eq_true rfl), r1693⟩)
  · have r1694 : 0 < p1684.toInt := gj_nle hc1692 (show Int32.toInt 0 = 0 by decide)
    have bp1684' : gB p1684 1 32 := ⟨by omega, by omega⟩
    refine G_aload_n 0 dr_cX15_usesB_7 rfl ?_
    refine Gp_get 0 hmq1683 heq1683 dr_cX15_usesB_8 (gk_X15 D I) (Nat.le_of_ble_eq_true rfl) wr_9_175 rfl ?_
    refine G_bipush 20 dr_cX15_usesB_11 (by decide +kernel) ?_
    refine G_icmp_ge 27 dr_cX15_usesB_13 (by decide +kernel) (fun hc1695 => ?_) (fun hc1695 => ?_)
    · have r1696 : 20 ≤ p1684.toInt := gj_leL hc1695 (show Int32.toInt 20 = 20 by decide)
      have bp1684'' : gB p1684 20 32 := ⟨by omega, by omega⟩
      refine G_iconst 0 dr_cX15_usesB_27 (by decide +kernel) ?_
      exact G_zretA FieldType.boolean dr_cX15_usesB_28 rfl rfl (Nat.le_of_ble_eq_true rfl) (Nat.le_of_ble_eq_true rfl) (Or.inr (Or.inl ⟨rfl, rfl, (Nat.le_of_ble_eq_true rfl), (Nat.le_of_ble_eq_true rfl), r1694, r1696⟩))
    · have r1697 : p1684.toInt < 20 := gj_nleL hc1695 (show Int32.toInt 20 = 20 by decide)
      have bp1684'' : gB p1684 1 19 := ⟨by omega, by omega⟩
      refine G_aload_n 0 dr_cX15_usesB_16 rfl ?_
      refine Gp_get 6 hmq1683 heq1683 dr_cX15_usesB_17 (gk_X15 D I) (Nat.le_of_ble_eq_true rfl) wr_9_199 rfl ?_
      refine G_if_eq 27 dr_cX15_usesB_20 (by decide +kernel) (fun hc1698 => ?_) (fun hc1698 => ?_)
      · have r1699 : p1690.toInt = 0 := gj_eq hc1698 (show Int32.toInt 0 = 0 by decide)
        have bp1690' : gB p1690 0 0 := ⟨by omega, by omega⟩
        refine G_iconst 0 dr_cX15_usesB_27 (by decide +kernel) ?_
        exact G_zretA FieldType.boolean dr_cX15_usesB_28 rfl rfl (Nat.le_of_ble_eq_true rfl) (Nat.le_of_ble_eq_true rfl) (Or.inr (Or.inr (Or.inl ⟨rfl, rfl, (Nat.le_of_ble_eq_true rfl), (Nat.le_of_ble_eq_true rfl), r1694, r1697, r1699⟩)))
      · have r1700 : p1690.toInt ≠ 0 := gj_neq hc1698 (show Int32.toInt 0 = 0 by decide)
        have bp1690' : gB p1690 1 1 := ⟨by omega, by omega⟩
        refine G_iconst 1 dr_cX15_usesB_23 (by decide +kernel) ?_
        refine G_goto 28 dr_cX15_usesB_24 (by decide +kernel) ?_
        exact G_zretA FieldType.boolean dr_cX15_usesB_28 rfl rfl (Nat.le_of_ble_eq_true rfl) (Nat.le_of_ble_eq_true rfl) (Or.inr (Or.inr (Or.inr (⟨rfl, rfl, (Nat.le_of_ble_eq_true rfl), (Nat.le_of_ble_eq_true rfl), r1694, r1697, r1700⟩))))
abbrev ky_1719_Row_put : gKey := (cX15_put, 2, "SpillForgeModel$Row", none, [], "put", fun _ _ => True)
def pp_1719_Row_put (D : va_G) (I : FieldType → ClassId) (P1701 : List Nat) (F1702 : Nat → va_E) (q1703 : Nat) (q1704 : Nat) (p1705 : Int32) (p1706 : Int32) (p1707 : Int32) (p1708 : Int32) (p1709 : Int32) (p1710 : Int32) (p1711 : Int32) (p1712 : Int32) (p1713 : Int32) (p1714 : Int32) (p1715 : Int32) (p1716 : Int32) (p1717 : Int32) (p1718 : Int32) : Option Value → va_W → Nat → Nat → Prop := fun r w dc ds => ∃ (F1763 : Nat → va_E), r = none ∧ w = va_pl P1701 F1763 ∧ rFr [q1703] P1701 F1702 F1763 ∧ F1763 q1703 = .inr (20, [.int p1712, .int p1713, .int p1714, .int p1715, .int p1716, .int p1717, .int p1718]) ∧ F1763 q1704 = .inr (20, [.int p1712, .int p1713, .int p1714, .int p1715, .int p1716, .int p1717, .int p1718]) ∧ dc ≤ 0 ∧ ds ≤ 0
set_option maxRecDepth 100000 in
set_option maxHeartbeats 4000000 in
theorem cp_1719_Row_put (l : Launch) (hl0 : l.stackTraces = false) (D : va_G) (I : FieldType → ClassId) (P1701 : List Nat) (F1702 : Nat → va_E) (q1703 : Nat) (q1704 : Nat) (p1705 : Int32) (p1706 : Int32) (p1707 : Int32) (p1708 : Int32) (p1709 : Int32) (p1710 : Int32) (p1711 : Int32) (p1712 : Int32) (p1713 : Int32) (p1714 : Int32) (p1715 : Int32) (p1716 : Int32) (p1717 : Int32) (p1718 : Int32) (hmq1703 : q1703 ∈ P1701) (hmq1704 : q1704 ∈ P1701) (heq1703 : F1702 q1703 = .inr (20, [.int p1705, .int p1706, .int p1707, .int p1708, .int p1709, .int p1710, .int p1711])) (heq1704 : F1702 q1704 = .inr (20, [.int p1712, .int p1713, .int p1714, .int p1715, .int p1716, .int p1717, .int p1718])) (hneq1703q1704 : q1703 ≠ q1704) (bp1705 : gB p1705 0 32) (bp1706 : gB p1706 0 1999) (bp1709 : gB p1709 0 1999) (bp1710 : gB p1710 0 1) (bp1711 : gB p1711 0 1) (bp1712 : gB p1712 0 32) (bp1713 : gB p1713 0 1999) (bp1716 : gB p1716 0 1999) (bp1717 : gB p1717 0 1) (bp1718 : gB p1718 0 1) : CtA (gV D I) l yX15_put cX15_put 2 none 0 0 0 0 [.ref q1703, .ref q1704] (va_pl P1701 F1702) (pp_1719_Row_put D I P1701 F1702 q1703 q1704 p1705 p1706 p1707 p1708 p1709 p1710 p1711 p1712 p1713 p1714 p1715 p1716 p1717 p1718) gNA := by
  refine CtA_of hl0 (by decide) (Nat.le_of_ble_eq_true rfl) ?_
  have bp1707 := gB_any p1707
  have bp1708 := gB_any p1708
  have bp1714 := gB_any p1714
  have bp1715 := gB_any p1715
  refine G_aload_n 0 dr_cX15_put_0 rfl ?_
  refine G_aload_n 1 dr_cX15_put_1 rfl ?_
  refine Gp_get 0 hmq1704 heq1704 dr_cX15_put_2 (gk_X15 D I) (Nat.le_of_ble_eq_true rfl) wr_9_175 rfl ?_
  refine Gp_put 0 hmq1703 heq1703 dr_cX15_put_5 (gk_X15 D I) (Nat.le_of_ble_eq_true rfl) wr_9_175 rfl rfl rfl (Nat.le_of_ble_eq_true rfl) (fun F1720 e1721 n1722 => ?_)
  have he1723 : F1720 q1704 = .inr (20, [.int p1712, .int p1713, .int p1714, .int p1715, .int p1716, .int p1717, .int p1718]) := (n1722 q1704 (Ne.symm hneq1703q1704)).trans heq1704
  have he1724 : F1720 q1703 = .inr (20, [.int p1712, .int p1706, .int p1707, .int p1708, .int p1709, .int p1710, .int p1711]) := e1721
  have hfr1725 : rFr [q1703] P1701 F1702 F1720 := rFr_put (rFr_rf (W := []) (P := P1701) (F := F1702)) n1722
  refine G_aload_n 0 dr_cX15_put_8 rfl ?_
  refine G_aload_n 1 dr_cX15_put_9 rfl ?_
  refine Gp_get 1 hmq1704 he1723 dr_cX15_put_10 (gk_X15 D I) (Nat.le_of_ble_eq_true rfl) wr_9_181 rfl ?_
  refine Gp_put 1 hmq1703 he1724 dr_cX15_put_13 (gk_X15 D I) (Nat.le_of_ble_eq_true rfl) wr_9_181 rfl rfl rfl (Nat.le_of_ble_eq_true rfl) (fun F1726 e1727 n1728 => ?_)
  have he1729 : F1726 q1704 = .inr (20, [.int p1712, .int p1713, .int p1714, .int p1715, .int p1716, .int p1717, .int p1718]) := (n1728 q1704 (Ne.symm hneq1703q1704)).trans he1723
  have he1730 : F1726 q1703 = .inr (20, [.int p1712, .int p1713, .int p1707, .int p1708, .int p1709, .int p1710, .int p1711]) := e1727
  have hfr1731 : rFr [q1703] P1701 F1702 F1726 := rFr_put' List.mem_cons_self hfr1725 n1728
  refine G_aload_n 0 dr_cX15_put_16 rfl ?_
  refine G_aload_n 1 dr_cX15_put_17 rfl ?_
  refine Gp_get 2 hmq1704 he1729 dr_cX15_put_18 (gk_X15 D I) (Nat.le_of_ble_eq_true rfl) wr_9_185 rfl ?_
  refine Gp_put 2 hmq1703 he1730 dr_cX15_put_21 (gk_X15 D I) (Nat.le_of_ble_eq_true rfl) wr_9_185 rfl rfl rfl (Nat.le_of_ble_eq_true rfl) (fun F1732 e1733 n1734 => ?_)
  have he1735 : F1732 q1704 = .inr (20, [.int p1712, .int p1713, .int p1714, .int p1715, .int p1716, .int p1717, .int p1718]) := (n1734 q1704 (Ne.symm hneq1703q1704)).trans he1729
  have he1736 : F1732 q1703 = .inr (20, [.int p1712, .int p1713, .int p1714, .int p1708, .int p1709, .int p1710, .int p1711]) := e1733
  have hfr1737 : rFr [q1703] P1701 F1702 F1732 := rFr_put' List.mem_cons_self hfr1731 n1734
  refine G_aload_n 0 dr_cX15_put_24 rfl ?_
  refine G_aload_n 1 dr_cX15_put_25 rfl ?_
  refine Gp_get 3 hmq1704 he1735 dr_cX15_put_26 (gk_X15 D I) (Nat.le_of_ble_eq_true rfl) wr_9_189 rfl ?_
  refine Gp_put 3 hmq1703 he1736 dr_cX15_put_29 (gk_X15 D I) (Nat.le_of_ble_eq_true rfl) wr_9_189 rfl rfl rfl (Nat.le_of_ble_eq_true rfl) (fun F1738 e1739 n1740 => ?_)
  have he1741 : F1738 q1704 = .inr (20, [.int p1712, .int p1713, .int p1714, .int p1715, .int p1716, .int p1717, .int p1718]) := (n1740 q1704 (Ne.symm hneq1703q1704)).trans he1735
  have he1742 : F1738 q1703 = .inr (20, [.int p1712, .int p1713, .int p1714, .int p1715, .int p1709, .int p1710, .int p1711]) := e1739
  have hfr1743 : rFr [q1703] P1701 F1702 F1738 := rFr_put' List.mem_cons_self hfr1737 n1740
  refine G_aload_n 0 dr_cX15_put_32 rfl ?_
  refine G_aload_n 1 dr_cX15_put_33 rfl ?_
  refine Gp_get 5 hmq1704 he1741 dr_cX15_put_34 (gk_X15 D I) (Nat.le_of_ble_eq_true rfl) wr_9_195 rfl ?_
  refine Gp_put 5 hmq1703 he1742 dr_cX15_put_37 (gk_X15 D I) (Nat.le_of_ble_eq_true rfl) wr_9_195 rfl (gN_bool bp1717) (gT_bool bp1717) (Nat.le_of_ble_eq_true rfl) (fun F1744 e1745 n1746 => ?_)
  have he1747 : F1744 q1704 = .inr (20, [.int p1712, .int p1713, .int p1714, .int p1715, .int p1716, .int p1717, .int p1718]) := (n1746 q1704 (Ne.symm hneq1703q1704)).trans he1741
  have he1748 : F1744 q1703 = .inr (20, [.int p1712, .int p1713, .int p1714, .int p1715, .int p1709, .int p1717, .int p1711]) := e1745
  have hfr1749 : rFr [q1703] P1701 F1702 F1744 := rFr_put' List.mem_cons_self hfr1743 n1746
  refine G_aload_n 0 dr_cX15_put_40 rfl ?_
  refine G_aload_n 1 dr_cX15_put_41 rfl ?_
  refine Gp_get 6 hmq1704 he1747 dr_cX15_put_42 (gk_X15 D I) (Nat.le_of_ble_eq_true rfl) wr_9_199 rfl ?_
  refine Gp_put 6 hmq1703 he1748 dr_cX15_put_45 (gk_X15 D I) (Nat.le_of_ble_eq_true rfl) wr_9_199 rfl (gN_bool bp1718) (gT_bool bp1718) (Nat.le_of_ble_eq_true rfl) (fun F1750 e1751 n1752 => ?_)
  have he1753 : F1750 q1704 = .inr (20, [.int p1712, .int p1713, .int p1714, .int p1715, .int p1716, .int p1717, .int p1718]) := (n1752 q1704 (Ne.symm hneq1703q1704)).trans he1747
  have he1754 : F1750 q1703 = .inr (20, [.int p1712, .int p1713, .int p1714, .int p1715, .int p1709, .int p1717, .int p1718]) := e1751
  have hfr1755 : rFr [q1703] P1701 F1702 F1750 := rFr_put' List.mem_cons_self hfr1749 n1752
  refine G_aload_n 0 dr_cX15_put_48 rfl ?_
  refine G_aload_n 1 dr_cX15_put_49 rfl ?_
  refine Gp_get 4 hmq1704 he1753 dr_cX15_put_50 (gk_X15 D I) (Nat.le_of_ble_eq_true rfl) wr_9_194 rfl ?_
  refine Gp_put 4 hmq1703 he1754 dr_cX15_put_53 (gk_X15 D I) (Nat.le_of_ble_eq_true rfl) wr_9_194 rfl rfl rfl (Nat.le_of_ble_eq_true rfl) (fun F1756 e1757 n1758 => ?_)
  have he1759 : F1756 q1704 = .inr (20, [.int p1712, .int p1713, .int p1714, .int p1715, .int p1716, .int p1717, .int p1718]) := (n1758 q1704 (Ne.symm hneq1703q1704)).trans he1753
  have he1760 : F1756 q1703 = .inr (20, [.int p1712, .int p1713, .int p1714, .int p1715, .int p1716, .int p1717, .int p1718]) := e1757
  have hfr1761 : rFr [q1703] P1701 F1702 F1756 := rFr_put' List.mem_cons_self hfr1755 n1758
  exact G_vretA dr_cX15_put_56 rfl (Nat.le_of_ble_eq_true rfl) (Nat.le_of_ble_eq_true rfl) ⟨F1756, rfl, rfl, hfr1761, he1760, he1759, (Nat.le_of_ble_eq_true rfl), (Nat.le_of_ble_eq_true rfl)⟩
abbrev ky_1775_SpillForgeModel_setOf : gKey := (cX17_setOf, 2, "SpillForgeModel", (some FieldType.int), [], "setOf", fun _ _ => True)
def pp_1775_SpillForgeModel_setOf (D : va_G) (I : FieldType → ClassId) (P1764 : List Nat) (F1765 : Nat → va_E) (q1766 : Nat) (p1767 : Int32) (p1768 : Int32) (p1769 : Int32) (p1770 : Int32) (p1771 : Int32) (p1772 : Int32) (p1773 : Int32) (p1774 : Int32) : Option Value → va_W → Nat → Nat → Prop := fun r w dc ds => (r = some (.int (-1)) ∧ w = va_pl P1764 F1765 ∧ dc ≤ 0 ∧ ds ≤ 0 ∧ p1767.toInt = 0 ∧ 21 < p1768.toInt) ∨ (r = some (.int p1769) ∧ w = va_pl P1764 F1765 ∧ dc ≤ 0 ∧ ds ≤ 0 ∧ p1767.toInt = 0 ∧ p1768.toInt ≤ 21) ∨ (r = some (.int (-1)) ∧ w = va_pl P1764 F1765 ∧ dc ≤ 0 ∧ ds ≤ 0 ∧ p1767.toInt ≠ 0 ∧ p1768.toInt ≠ 23) ∨ (r = some (.int p1772) ∧ w = va_pl P1764 F1765 ∧ dc ≤ 0 ∧ ds ≤ 0 ∧ p1767.toInt ≠ 0 ∧ p1768.toInt = 23)
set_option maxRecDepth 100000 in
set_option maxHeartbeats 4000000 in
theorem cp_1775_SpillForgeModel_setOf (l : Launch) (hl0 : l.stackTraces = false) (D : va_G) (I : FieldType → ClassId) (P1764 : List Nat) (F1765 : Nat → va_E) (q1766 : Nat) (p1767 : Int32) (p1768 : Int32) (p1769 : Int32) (p1770 : Int32) (p1771 : Int32) (p1772 : Int32) (p1773 : Int32) (p1774 : Int32) (hmq1766 : q1766 ∈ P1764) (heq1766 : F1765 q1766 = .inr (20, [.int p1768, .int p1769, .int p1770, .int p1771, .int p1772, .int p1773, .int p1774])) (bp1767 : gB p1767 0 1) (bp1768 : gB p1768 0 32) (bp1769 : gB p1769 0 1999) (bp1772 : gB p1772 0 1999) (bp1773 : gB p1773 0 1) (bp1774 : gB p1774 0 1) : CtA (gV D I) l yX17_setOf cX17_setOf 2 (some FieldType.int) 1 20 0 0 [.ref q1766, .int p1767] (va_pl P1764 F1765) (pp_1775_SpillForgeModel_setOf D I P1764 F1765 q1766 p1767 p1768 p1769 p1770 p1771 p1772 p1773 p1774) gNA := by
  refine CtA_of hl0 (by decide) (Nat.le_of_ble_eq_true rfl) ?_
  have bp1770 := gB_any p1770
  have bp1771 := gB_any p1771
  refine G_iload_n 1 dr_cX17_setOf_0 rfl ?_
  refine G_if_eq 24 dr_cX17_setOf_1 (by decide +kernel) (fun hc1776 => ?_) (fun hc1776 => ?_)
  · have r1777 : p1767.toInt = 0 := gj_eq hc1776 (show Int32.toInt 0 = 0 by decide)
    have bp1767' : gB p1767 0 0 := ⟨by omega, by omega⟩
    refine G_aload_n 0 dr_cX17_setOf_24 rfl ?_
    refine Gw_callV (As := []) (gV_ok D I) (cp_1654_Row_sets l hl0 D I P1764 F1765 q1766 p1768 p1769 p1770 p1771 p1772 p1773 p1774 hmq1766 heq1766 bp1768 bp1769 bp1772 bp1773 bp1774) dr_cX17_setOf_25 ⟨wr_10_181, wr_1_39, wr_10_184, by decide, rfl, (Nat.le_of_ble_eq_true rfl), (Nat.le_of_ble_eq_true rfl)⟩ wr_10_182 wr_10_183 hmq1766 heq1766 rfl (show 0 + 0 ≤ 0 by first | omega | decide) (show 0 + 0 ≤ 0 by first | omega | decide) (Nat.le_of_ble_eq_true rfl) (fun r1781 w1782 dc1778 ds1779 hp1780 => ?_) (fun _ _ _ _ _ z => z.elim)
    rcases hp1780 with ⟨rfl, rfl, hdc, hds, r1783⟩ | ⟨rfl, rfl, hdc, hds, r1784⟩
    · have bp1768' : gB p1768 22 32 := ⟨by omega, by omega⟩
      change G _ _ _ _ _ _ _ (.int 0 :: _) _ _ _
      refine G_widen (cs' := 0) (sl' := 0) (by omega) (by omega) ?_
      refine G_if_eq 38 dr_cX17_setOf_28 (by decide +kernel) (fun _ => ?_) (fun hc => absurd hc (by decide))
      refine G_iconst (-1) dr_cX17_setOf_38 (by decide +kernel) ?_
      exact G_iretA dr_cX17_setOf_39 rfl (Nat.le_of_ble_eq_true rfl) (Nat.le_of_ble_eq_true rfl) (Or.inl ⟨rfl, rfl, (Nat.le_of_ble_eq_true rfl), (Nat.le_of_ble_eq_true rfl), r1777, r1783⟩)
    · have bp1768' : gB p1768 0 21 := ⟨by omega, by omega⟩
      change G _ _ _ _ _ _ _ (.int 1 :: _) _ _ _
      refine G_widen (cs' := 0) (sl' := 0) (by omega) (by omega) ?_
      refine G_if_eq 38 dr_cX17_setOf_28 (by decide +kernel) (fun hc => absurd hc (by decide)) (fun _ => ?_)
      refine G_aload_n 0 dr_cX17_setOf_31 rfl ?_
      refine Gp_get 1 hmq1766 heq1766 dr_cX17_setOf_32 (gk_X15 D I) (Nat.le_of_ble_eq_true rfl) wr_9_182 rfl ?_
      refine G_goto 39 dr_cX17_setOf_35 (by decide +kernel) ?_
      exact G_iretA dr_cX17_setOf_39 rfl (Nat.le_of_ble_eq_true rfl) (Nat.le_of_ble_eq_true rfl) (Or.inr (Or.inl ⟨rfl, rfl, (Nat.le_of_ble_eq_true rfl), (Nat.le_of_ble_eq_true rfl), r1777, r1784⟩))
  · have r1786 : p1767.toInt ≠ 0 := gj_neq hc1776 (show Int32.toInt 0 = 0 by decide)
    have bp1767' : gB p1767 1 1 := ⟨by omega, by omega⟩
    refine G_aload_n 0 dr_cX17_setOf_4 rfl ?_
    refine Gp_get 0 hmq1766 heq1766 dr_cX17_setOf_5 (gk_X15 D I) (Nat.le_of_ble_eq_true rfl) wr_9_177 rfl ?_
    refine G_bipush 23 dr_cX17_setOf_8 (by decide +kernel) ?_
    refine G_icmp_ne 20 dr_cX17_setOf_10 (by decide +kernel) (fun hc1787 => ?_) (fun hc1787 => ?_)
    · have r1788 : p1768.toInt ≠ 23 := gj_neq hc1787 (show Int32.toInt 23 = 23 by decide)
      refine G_iconst (-1) dr_cX17_setOf_20 (by decide +kernel) ?_
      refine G_goto 39 dr_cX17_setOf_21 (by decide +kernel) ?_
      exact G_iretA dr_cX17_setOf_39 rfl (Nat.le_of_ble_eq_true rfl) (Nat.le_of_ble_eq_true rfl) (Or.inr (Or.inr (Or.inl ⟨rfl, rfl, (Nat.le_of_ble_eq_true rfl), (Nat.le_of_ble_eq_true rfl), r1786, r1788⟩)))
    · have r1789 : p1768.toInt = 23 := gj_eq hc1787 (show Int32.toInt 23 = 23 by decide)
      have bp1768' : gB p1768 23 23 := ⟨by omega, by omega⟩
      refine G_aload_n 0 dr_cX17_setOf_13 rfl ?_
      refine Gp_get 4 hmq1766 heq1766 dr_cX17_setOf_14 (gk_X15 D I) (Nat.le_of_ble_eq_true rfl) wr_9_193 rfl ?_
      refine G_goto 39 dr_cX17_setOf_17 (by decide +kernel) ?_
      exact G_iretA dr_cX17_setOf_39 rfl (Nat.le_of_ble_eq_true rfl) (Nat.le_of_ble_eq_true rfl) (Or.inr (Or.inr (Or.inr (⟨rfl, rfl, (Nat.le_of_ble_eq_true rfl), (Nat.le_of_ble_eq_true rfl), r1786, r1789⟩))))
abbrev ky_1804_Block_ways : gKey := (cX12_ways, 1, "SpillForgeModel$Block", (some FieldType.int), [], "ways", fun _ _ => True)
def pp_1804_Block_ways (D : va_G) (I : FieldType → ClassId) (P1790 : List Nat) (F1791 : Nat → va_E) (q1792 : Nat) (q1793 : Nat) (qo1794 : Nat) (p1795 : Int32) (p1796 : Int32) (p1797 : Int32) (p1798 : Int32) (p1799 : Int32) (p1800 : Int32) (p1801 : Int32) (p1802 : Int32) (p1803 : Int32) : Option Value → va_W → Nat → Nat → Prop := fun r w dc ds => (r = some (.int 1) ∧ w = va_pl P1790 F1791 ∧ dc ≤ 0 ∧ ds ≤ 0 ∧ p1797.toInt ≠ 32 ∧ p1797.toInt = 30) ∨ (r = some (.int 2) ∧ w = va_pl P1790 F1791 ∧ dc ≤ 0 ∧ ds ≤ 0 ∧ p1797.toInt ≠ 32 ∧ p1797.toInt ≠ 30 ∧ p1795.toInt ≠ p1796.toInt) ∨ (r = some (.int 1) ∧ w = va_pl P1790 F1791 ∧ dc ≤ 0 ∧ ds ≤ 0 ∧ p1797.toInt ≠ 32 ∧ p1797.toInt ≠ 30 ∧ p1795.toInt = p1796.toInt) ∨ (r = some (.int 0) ∧ w = va_pl P1790 F1791 ∧ dc ≤ 0 ∧ ds ≤ 0 ∧ p1797.toInt = 32)
set_option maxRecDepth 100000 in
set_option maxHeartbeats 4000000 in
theorem cp_1804_Block_ways (l : Launch) (hl0 : l.stackTraces = false) (D : va_G) (I : FieldType → ClassId) (P1790 : List Nat) (F1791 : Nat → va_E) (q1792 : Nat) (q1793 : Nat) (qo1794 : Nat) (p1795 : Int32) (p1796 : Int32) (p1797 : Int32) (p1798 : Int32) (p1799 : Int32) (p1800 : Int32) (p1801 : Int32) (p1802 : Int32) (p1803 : Int32) (hmq1792 : q1792 ∈ P1790) (hmq1793 : q1793 ∈ P1790) (heq1792 : F1791 q1792 = .inr (17, [.ref qo1794, .ref q1793, .int p1795, .int p1796])) (heq1793 : F1791 q1793 = .inr (20, [.int p1797, .int p1798, .int p1799, .int p1800, .int p1801, .int p1802, .int p1803])) (bp1795 : gB p1795 0 39) (bp1796 : gB p1796 0 39) (bp1797 : gB p1797 0 32) (bp1798 : gB p1798 0 1999) (bp1801 : gB p1801 0 1999) (bp1802 : gB p1802 0 1) (bp1803 : gB p1803 0 1) : CtA (gV D I) l yX12_ways cX12_ways 1 (some FieldType.int) 0 0 0 0 [.ref q1792] (va_pl P1790 F1791) (pp_1804_Block_ways D I P1790 F1791 q1792 q1793 qo1794 p1795 p1796 p1797 p1798 p1799 p1800 p1801 p1802 p1803) gNA := by
  refine CtA_of hl0 (by decide) (Nat.le_of_ble_eq_true rfl) ?_
  have bp1799 := gB_any p1799
  have bp1800 := gB_any p1800
  refine G_aload_n 0 dr_cX12_ways_0 rfl ?_
  refine Gp_get 1 hmq1792 heq1792 dr_cX12_ways_1 (gk_X12 D I) (Nat.le_of_ble_eq_true rfl) wr_9_222 rfl ?_
  refine Gp_get 0 hmq1793 heq1793 dr_cX12_ways_4 (gk_X15 D I) (Nat.le_of_ble_eq_true rfl) wr_9_176 rfl ?_
  refine G_bipush 32 dr_cX12_ways_7 (by decide +kernel) ?_
  refine G_icmp_ne 16 dr_cX12_ways_9 (by decide +kernel) (fun hc1805 => ?_) (fun hc1805 => ?_)
  · have r1806 : p1797.toInt ≠ 32 := gj_neq hc1805 (show Int32.toInt 32 = 32 by decide)
    have bp1797' : gB p1797 0 31 := ⟨by omega, by omega⟩
    refine G_aload_n 0 dr_cX12_ways_16 rfl ?_
    refine Gp_get 1 hmq1792 heq1792 dr_cX12_ways_17 (gk_X12 D I) (Nat.le_of_ble_eq_true rfl) wr_9_222 rfl ?_
    refine Gp_get 0 hmq1793 heq1793 dr_cX12_ways_20 (gk_X15 D I) (Nat.le_of_ble_eq_true rfl) wr_9_176 rfl ?_
    refine G_bipush 30 dr_cX12_ways_23 (by decide +kernel) ?_
    refine G_icmp_eq 39 dr_cX12_ways_25 (by decide +kernel) (fun hc1807 => ?_) (fun hc1807 => ?_)
    · have r1808 : p1797.toInt = 30 := gj_eq hc1807 (show Int32.toInt 30 = 30 by decide)
      have bp1797'' : gB p1797 30 30 := ⟨by omega, by omega⟩
      refine G_iconst 1 dr_cX12_ways_39 (by decide +kernel) ?_
      refine G_goto 44 dr_cX12_ways_40 (by decide +kernel) ?_
      exact G_iretA dr_cX12_ways_44 rfl (Nat.le_of_ble_eq_true rfl) (Nat.le_of_ble_eq_true rfl) (Or.inl ⟨rfl, rfl, (Nat.le_of_ble_eq_true rfl), (Nat.le_of_ble_eq_true rfl), r1806, r1808⟩)
    · have r1809 : p1797.toInt ≠ 30 := gj_neq hc1807 (show Int32.toInt 30 = 30 by decide)
      refine G_aload_n 0 dr_cX12_ways_28 rfl ?_
      refine Gp_get 2 hmq1792 heq1792 dr_cX12_ways_29 (gk_X12 D I) (Nat.le_of_ble_eq_true rfl) wr_9_226 rfl ?_
      refine G_aload_n 0 dr_cX12_ways_32 rfl ?_
      refine Gp_get 3 hmq1792 heq1792 dr_cX12_ways_33 (gk_X12 D I) (Nat.le_of_ble_eq_true rfl) wr_9_230 rfl ?_
      refine G_icmp_ne 43 dr_cX12_ways_36 (by decide +kernel) (fun hc1810 => ?_) (fun hc1810 => ?_)
      · have r1811 : p1795.toInt ≠ p1796.toInt := gC_ne hc1810
        refine G_iconst 2 dr_cX12_ways_43 (by decide +kernel) ?_
        exact G_iretA dr_cX12_ways_44 rfl (Nat.le_of_ble_eq_true rfl) (Nat.le_of_ble_eq_true rfl) (Or.inr (Or.inl ⟨rfl, rfl, (Nat.le_of_ble_eq_true rfl), (Nat.le_of_ble_eq_true rfl), r1806, r1809, r1811⟩))
      · have r1812 : p1795.toInt = p1796.toInt := gC_eq hc1810
        refine G_iconst 1 dr_cX12_ways_39 (by decide +kernel) ?_
        refine G_goto 44 dr_cX12_ways_40 (by decide +kernel) ?_
        exact G_iretA dr_cX12_ways_44 rfl (Nat.le_of_ble_eq_true rfl) (Nat.le_of_ble_eq_true rfl) (Or.inr (Or.inr (Or.inl ⟨rfl, rfl, (Nat.le_of_ble_eq_true rfl), (Nat.le_of_ble_eq_true rfl), r1806, r1809, r1812⟩)))
  · have r1813 : p1797.toInt = 32 := gj_eq hc1805 (show Int32.toInt 32 = 32 by decide)
    have bp1797' : gB p1797 32 32 := ⟨by omega, by omega⟩
    refine G_iconst 0 dr_cX12_ways_12 (by decide +kernel) ?_
    refine G_goto 44 dr_cX12_ways_13 (by decide +kernel) ?_
    exact G_iretA dr_cX12_ways_44 rfl (Nat.le_of_ble_eq_true rfl) (Nat.le_of_ble_eq_true rfl) (Or.inr (Or.inr (Or.inr (⟨rfl, rfl, (Nat.le_of_ble_eq_true rfl), (Nat.le_of_ble_eq_true rfl), r1813⟩))))
abbrev ky_1822_Block_way : gKey := (cX12_way, 2, "SpillForgeModel$Block", (some FieldType.int), [], "way", fun _ _ => True)
def pp_1822_Block_way (D : va_G) (I : FieldType → ClassId) (P1814 : List Nat) (F1815 : Nat → va_E) (q1816 : Nat) (p1817 : Int32) (qo1818 : Nat) (qo1819 : Nat) (p1820 : Int32) (p1821 : Int32) : Option Value → va_W → Nat → Nat → Prop := fun r w dc ds => (r = some (.int p1821) ∧ w = va_pl P1814 F1815 ∧ dc ≤ 0 ∧ ds ≤ 0 ∧ p1817.toInt ≠ 0) ∨ (r = some (.int p1820) ∧ w = va_pl P1814 F1815 ∧ dc ≤ 0 ∧ ds ≤ 0 ∧ p1817.toInt = 0)
set_option maxRecDepth 100000 in
set_option maxHeartbeats 4000000 in
theorem cp_1822_Block_way (l : Launch) (hl0 : l.stackTraces = false) (D : va_G) (I : FieldType → ClassId) (P1814 : List Nat) (F1815 : Nat → va_E) (q1816 : Nat) (p1817 : Int32) (qo1818 : Nat) (qo1819 : Nat) (p1820 : Int32) (p1821 : Int32) (hmq1816 : q1816 ∈ P1814) (heq1816 : F1815 q1816 = .inr (17, [.ref qo1818, .ref qo1819, .int p1820, .int p1821])) (bp1820 : gB p1820 0 39) (bp1821 : gB p1821 0 39) : CtA (gV D I) l yX12_way cX12_way 2 (some FieldType.int) 0 0 0 0 [.ref q1816, .int p1817] (va_pl P1814 F1815) (pp_1822_Block_way D I P1814 F1815 q1816 p1817 qo1818 qo1819 p1820 p1821) gNA := by
  refine CtA_of hl0 (by decide) (Nat.le_of_ble_eq_true rfl) ?_
  have bp1817 := gB_any p1817
  refine G_iload_n 1 dr_cX12_way_0 rfl ?_
  refine G_if_ne 11 dr_cX12_way_1 (by decide +kernel) (fun hc1823 => ?_) (fun hc1823 => ?_)
  · have r1824 : p1817.toInt ≠ 0 := gj_neq hc1823 (show Int32.toInt 0 = 0 by decide)
    refine G_aload_n 0 dr_cX12_way_11 rfl ?_
    refine Gp_get 3 hmq1816 heq1816 dr_cX12_way_12 (gk_X12 D I) (Nat.le_of_ble_eq_true rfl) wr_9_230 rfl ?_
    exact G_iretA dr_cX12_way_15 rfl (Nat.le_of_ble_eq_true rfl) (Nat.le_of_ble_eq_true rfl) (Or.inl ⟨rfl, rfl, (Nat.le_of_ble_eq_true rfl), (Nat.le_of_ble_eq_true rfl), r1824⟩)
  · have r1825 : p1817.toInt = 0 := gj_eq hc1823 (show Int32.toInt 0 = 0 by decide)
    have bp1817' : gB p1817 0 0 := ⟨by omega, by omega⟩
    refine G_aload_n 0 dr_cX12_way_4 rfl ?_
    refine Gp_get 2 hmq1816 heq1816 dr_cX12_way_5 (gk_X12 D I) (Nat.le_of_ble_eq_true rfl) wr_9_226 rfl ?_
    refine G_goto 15 dr_cX12_way_8 (by decide +kernel) ?_
    exact G_iretA dr_cX12_way_15 rfl (Nat.le_of_ble_eq_true rfl) (Nat.le_of_ble_eq_true rfl) (Or.inr (⟨rfl, rfl, (Nat.le_of_ble_eq_true rfl), (Nat.le_of_ble_eq_true rfl), r1825⟩))
abbrev ky_1831_SpillForgeModel_has : gKey := (cX17_has, 2, "SpillForgeModel", (some FieldType.boolean), [], "has", fun _ _ => True)
def pp_1831_SpillForgeModel_has (D : va_G) (I : FieldType → ClassId) (P1826 : List Nat) (F1827 : Nat → va_E) (q1828 : Nat) (p1829 : Int32) (f1830 : Nat → Int64) : Option Value → va_W → Nat → Nat → Prop := fun r w dc ds => (∃ (z1832 : Int32) (z1836 : Int32), r = some (.int 0) ∧ w = va_pl P1826 F1827 ∧ dc ≤ 0 ∧ ds ≤ 0 ∧ z1832.toInt = p1829.toInt / 64 ∧ z1836.toInt = 0 ∧ gB z1832 0 31 ∧ gB z1836 0 0) ∨ (∃ (z1832 : Int32) (z1836 : Int32), r = some (.int 1) ∧ w = va_pl P1826 F1827 ∧ dc ≤ 0 ∧ ds ≤ 0 ∧ z1832.toInt = p1829.toInt / 64 ∧ z1836.toInt ≠ 0 ∧ gB z1832 0 31 ∧ gB z1836 (-1) 1)
set_option maxRecDepth 100000 in
set_option maxHeartbeats 4000000 in
theorem cp_1831_SpillForgeModel_has (l : Launch) (hl0 : l.stackTraces = false) (D : va_G) (I : FieldType → ClassId) (P1826 : List Nat) (F1827 : Nat → va_E) (q1828 : Nat) (p1829 : Int32) (f1830 : Nat → Int64) (hmq1828 : q1828 ∈ P1826) (heq1828 : F1827 q1828 = .inl (I .long, 32, .inr (.inl f1830))) (bp1829 : gB p1829 0 2047) : CtA (gV D I) l yX17_has cX17_has 2 (some FieldType.boolean) 0 0 0 0 [.ref q1828, .int p1829] (va_pl P1826 F1827) (pp_1831_SpillForgeModel_has D I P1826 F1827 q1828 p1829 f1830) gNA := by
  refine CtA_of hl0 (by decide) (Nat.le_of_ble_eq_true rfl) ?_
  refine G_aload_n 0 dr_cX17_has_0 rfl ?_
  refine G_iload_n 1 dr_cX17_has_1 rfl ?_
  refine G_bipush 6 dr_cX17_has_2 (by decide +kernel) ?_
  refine G_ishr dr_cX17_has_4 (G_nam fun z1832 hz1832 => ?_)
  have ez1832 : z1832.toInt = p1829.toInt / 64 := gI_shr (k := 6) hz1832 (by decide)
  have bz1832 : gB z1832 0 31 := ⟨by omega, by omega⟩
  refine Gp_lald 2 hmq1828 heq1828 dr_cX17_has_5 rfl (gB_in bz1832 (by decide) (by decide)) (G_namL fun u1833 hu1833 => ?_)
  refine G_iload_n 1 dr_cX17_has_6 rfl ?_
  refine G_lushr dr_cX17_has_7 (G_namL fun u1834 hu1834 => ?_)
  refine G_lconst 1 dr_cX17_has_8 rfl ?_
  refine G_land dr_cX17_has_9 (G_namL fun u1835 hu1835 => ?_)
  refine G_lconst 0 dr_cX17_has_10 rfl ?_
  refine G_lcmp dr_cX17_has_11 (G_nam fun z1836 hz1836 => ?_)
  have bz1836 : gB z1836 (-1) 1 := gB_cmp hz1836
  refine G_if_eq 19 dr_cX17_has_12 (by decide +kernel) (fun hc1837 => ?_) (fun hc1837 => ?_)
  · have r1838 : z1836.toInt = 0 := gj_eq hc1837 (show Int32.toInt 0 = 0 by decide)
    have bz1836' : gB z1836 0 0 := ⟨by omega, by omega⟩
    have lhc1837 := gC_cmpE hz1836 hc1837
    refine G_iconst 0 dr_cX17_has_19 (by decide +kernel) ?_
    exact G_zretA FieldType.boolean dr_cX17_has_20 rfl rfl (Nat.le_of_ble_eq_true rfl) (Nat.le_of_ble_eq_true rfl) (Or.inl ⟨z1832, z1836, rfl, rfl, (Nat.le_of_ble_eq_true rfl), (Nat.le_of_ble_eq_true rfl), ez1832, r1838, bz1832, bz1836'⟩)
  · have r1839 : z1836.toInt ≠ 0 := gj_neq hc1837 (show Int32.toInt 0 = 0 by decide)
    have lhc1837 := gC_cmpN hz1836 hc1837
    refine G_iconst 1 dr_cX17_has_15 (by decide +kernel) ?_
    refine G_goto 20 dr_cX17_has_16 (by decide +kernel) ?_
    exact G_zretA FieldType.boolean dr_cX17_has_20 rfl rfl (Nat.le_of_ble_eq_true rfl) (Nat.le_of_ble_eq_true rfl) (Or.inr (⟨z1832, z1836, rfl, rfl, (Nat.le_of_ble_eq_true rfl), (Nat.le_of_ble_eq_true rfl), ez1832, r1839, bz1832, bz1836⟩))
abbrev ky_1846_SpillForgeModel_set : gKey := (cX17_set, 2, "SpillForgeModel", none, [], "set", fun _ _ => True)
def pp_1846_SpillForgeModel_set (D : va_G) (I : FieldType → ClassId) (P1840 : List Nat) (F1841 : Nat → va_E) (q1842 : Nat) (p1843 : Int32) (f1844 : Nat → Int64) : Option Value → va_W → Nat → Nat → Prop := fun r w dc ds => ∃ (F1859 : Nat → va_E) (f1857 : Nat → Int64), r = none ∧ w = va_pl P1840 F1859 ∧ rFr [q1842] P1840 F1841 F1859 ∧ F1859 q1842 = .inl (I .long, 32, .inr (.inl f1857)) ∧ dc ≤ 0 ∧ ds ≤ 0 ∧ lb_W f1857 (32) (32) (2000)
set_option maxRecDepth 100000 in
set_option maxHeartbeats 4000000 in
theorem cp_1846_SpillForgeModel_set (l : Launch) (hl0 : l.stackTraces = false) (D : va_G) (I : FieldType → ClassId) (P1840 : List Nat) (F1841 : Nat → va_E) (q1842 : Nat) (p1843 : Int32) (f1844 : Nat → Int64) (hmq1842 : q1842 ∈ P1840) (heq1842 : F1841 q1842 = .inl (I .long, 32, .inr (.inl f1844))) (bp1843 : gB p1843 0 1999) (x1845 : lb_W f1844 (32) (32) (2000)) : CtA (gV D I) l yX17_set cX17_set 2 none 0 0 0 0 [.ref q1842, .int p1843] (va_pl P1840 F1841) (pp_1846_SpillForgeModel_set D I P1840 F1841 q1842 p1843 f1844) gNA := by
  refine CtA_of hl0 (by decide) (Nat.le_of_ble_eq_true rfl) ?_
  refine G_aload_n 0 dr_cX17_set_0 rfl ?_
  refine G_iload_n 1 dr_cX17_set_1 rfl ?_
  refine G_bipush 6 dr_cX17_set_2 (by decide +kernel) ?_
  refine G_ishr dr_cX17_set_4 (G_nam fun z1847 hz1847 => ?_)
  have ez1847 : z1847.toInt = p1843.toInt / 64 := gI_shr (k := 6) hz1847 (by decide)
  have bz1847 : gB z1847 0 31 := ⟨by omega, by omega⟩
  refine G_dup2_11 dr_cX17_set_5 rfl rfl ?_
  refine Gp_lald 2 hmq1842 heq1842 dr_cX17_set_6 rfl (gB_in bz1847 (by decide) (by decide)) (G_namL fun u1848 hu1848 => ?_)
  have qu1848 : lb_Q u1848 (2000 - 64 * z1847.toInt) := lb_Wld hu1848 x1845 (by omega) (by omega) (lb_Mod0 (by omega) (by omega))
  refine G_lconst 1 dr_cX17_set_7 rfl ?_
  refine G_iload_n 1 dr_cX17_set_8 rfl ?_
  refine G_lshl dr_cX17_set_9 (G_namL fun u1849 hu1849 => ?_)
  have qu1849 : lb_Q u1849 (p1843.toInt % 64 + 1) := lb_Qshl hu1849 (by omega)
  refine G_lor dr_cX17_set_10 (G_namL fun u1850 hu1850 => ?_)
  have qu1850 : lb_Q u1850 (2000 - 64 * z1847.toInt) := lb_Qor hu1850 qu1848 (lb_Qw qu1849 (by omega))
  refine Gp_last 2 hmq1842 heq1842 dr_cX17_set_11 rfl (gB_in bz1847 (by decide) (by decide)) (fun F1851 e1852 n1853 => ?_)
  obtain ⟨f1854, hf1854⟩ : ∃ z, z = vp_updL f1844 z1847.toNatClampNeg u1850 := ⟨_, rfl⟩
  rw [← hf1854] at e1852
  have he1855 : F1851 q1842 = .inl (I .long, 32, .inr (.inl f1854)) := e1852
  have hfr1856 : rFr [q1842] P1840 F1841 F1851 := rFr_put (rFr_rf (W := []) (P := P1840) (F := F1841)) n1853
  have wf1854 : lb_W f1854 (32) (32) (2000) := lb_Wst hf1854 x1845 (by omega) (lb_Mod0 (by omega) (by omega)) qu1850
  exact G_vretA dr_cX17_set_12 rfl (Nat.le_of_ble_eq_true rfl) (Nat.le_of_ble_eq_true rfl) ⟨F1851, f1854, rfl, rfl, hfr1856, he1855, (Nat.le_of_ble_eq_true rfl), (Nat.le_of_ble_eq_true rfl), wf1854⟩
abbrev ky_1866_SpillForgeModel_clear : gKey := (cX17_clear, 2, "SpillForgeModel", none, [], "clear", fun _ _ => True)
def pp_1866_SpillForgeModel_clear (D : va_G) (I : FieldType → ClassId) (P1860 : List Nat) (F1861 : Nat → va_E) (q1862 : Nat) (p1863 : Int32) (f1864 : Nat → Int64) : Option Value → va_W → Nat → Nat → Prop := fun r w dc ds => ∃ (F1880 : Nat → va_E) (f1878 : Nat → Int64), r = none ∧ w = va_pl P1860 F1880 ∧ rFr [q1862] P1860 F1861 F1880 ∧ F1880 q1862 = .inl (I .long, 32, .inr (.inl f1878)) ∧ dc ≤ 0 ∧ ds ≤ 0 ∧ lb_W f1878 (32) (32) (2000)
set_option maxRecDepth 100000 in
set_option maxHeartbeats 4000000 in
theorem cp_1866_SpillForgeModel_clear (l : Launch) (hl0 : l.stackTraces = false) (D : va_G) (I : FieldType → ClassId) (P1860 : List Nat) (F1861 : Nat → va_E) (q1862 : Nat) (p1863 : Int32) (f1864 : Nat → Int64) (hmq1862 : q1862 ∈ P1860) (heq1862 : F1861 q1862 = .inl (I .long, 32, .inr (.inl f1864))) (bp1863 : gB p1863 0 1999) (x1865 : lb_W f1864 (32) (32) (2000)) : CtA (gV D I) l yX17_clear cX17_clear 2 none 0 0 0 0 [.ref q1862, .int p1863] (va_pl P1860 F1861) (pp_1866_SpillForgeModel_clear D I P1860 F1861 q1862 p1863 f1864) gNA := by
  refine CtA_of hl0 (by decide) (Nat.le_of_ble_eq_true rfl) ?_
  refine G_aload_n 0 dr_cX17_clear_0 rfl ?_
  refine G_iload_n 1 dr_cX17_clear_1 rfl ?_
  refine G_bipush 6 dr_cX17_clear_2 (by decide +kernel) ?_
  refine G_ishr dr_cX17_clear_4 (G_nam fun z1867 hz1867 => ?_)
  have ez1867 : z1867.toInt = p1863.toInt / 64 := gI_shr (k := 6) hz1867 (by decide)
  have bz1867 : gB z1867 0 31 := ⟨by omega, by omega⟩
  refine G_dup2_11 dr_cX17_clear_5 rfl rfl ?_
  refine Gp_lald 2 hmq1862 heq1862 dr_cX17_clear_6 rfl (gB_in bz1867 (by decide) (by decide)) (G_namL fun u1868 hu1868 => ?_)
  have qu1868 : lb_Q u1868 (2000 - 64 * z1867.toInt) := lb_Wld hu1868 x1865 (by omega) (by omega) (lb_Mod0 (by omega) (by omega))
  refine G_lconst 1 dr_cX17_clear_7 rfl ?_
  refine G_iload_n 1 dr_cX17_clear_8 rfl ?_
  refine G_lshl dr_cX17_clear_9 (G_namL fun u1869 hu1869 => ?_)
  have qu1869 : lb_Q u1869 (p1863.toInt % 64 + 1) := lb_Qshl hu1869 (by omega)
  refine G_ldc2 (-1) dr_cX17_clear_10 wr_10_188 ?_
  refine G_lxor dr_cX17_clear_13 (G_namL fun u1870 hu1870 => ?_)
  refine G_land dr_cX17_clear_14 (G_namL fun u1871 hu1871 => ?_)
  have qu1871 : lb_Q u1871 (2000 - 64 * z1867.toInt) := lb_QandL hu1871 qu1868
  refine Gp_last 2 hmq1862 heq1862 dr_cX17_clear_15 rfl (gB_in bz1867 (by decide) (by decide)) (fun F1872 e1873 n1874 => ?_)
  obtain ⟨f1875, hf1875⟩ : ∃ z, z = vp_updL f1864 z1867.toNatClampNeg u1871 := ⟨_, rfl⟩
  rw [← hf1875] at e1873
  have he1876 : F1872 q1862 = .inl (I .long, 32, .inr (.inl f1875)) := e1873
  have hfr1877 : rFr [q1862] P1860 F1861 F1872 := rFr_put (rFr_rf (W := []) (P := P1860) (F := F1861)) n1874
  have wf1875 : lb_W f1875 (32) (32) (2000) := lb_Wst hf1875 x1865 (by omega) (lb_Mod0 (by omega) (by omega)) qu1871
  exact G_vretA dr_cX17_clear_16 rfl (Nat.le_of_ble_eq_true rfl) (Nat.le_of_ble_eq_true rfl) ⟨F1872, f1875, rfl, rfl, hfr1877, he1876, (Nat.le_of_ble_eq_true rfl), (Nat.le_of_ble_eq_true rfl), wf1875⟩
abbrev ky_1890_Long_bitCount : gKey := (cJ13_bitCount_95d88, 2, "java/lang/Long", (some FieldType.int), [], "bitCount", fun _ _ => True)
def pp_1890_Long_bitCount (D : va_G) (I : FieldType → ClassId) (P1887 : List Nat) (F1888 : Nat → va_E) (pl1889 : Int64) : Option Value → va_W → Nat → Nat → Prop := fun r w dc ds => ∃ (o1909 : Int32), r = some (.int o1909) ∧ w = va_pl P1887 F1888 ∧ dc ≤ 0 ∧ ds ≤ 0 ∧ gB o1909 0 127
set_option maxRecDepth 100000 in
set_option maxHeartbeats 4000000 in
theorem cp_1890_Long_bitCount (l : Launch) (hl0 : l.stackTraces = false) (D : va_G) (I : FieldType → ClassId) (P1887 : List Nat) (F1888 : Nat → va_E) (pl1889 : Int64)  : CtA (gV D I) l yJ13_bitCount_95d88 cJ13_bitCount_95d88 2 (some FieldType.int) 0 0 0 0 [.long pl1889] (va_pl P1887 F1888) (pp_1890_Long_bitCount D I P1887 F1888 pl1889) gNA := by
  refine CtA_ofF hl0 (by decide +kernel) (Nat.le_of_ble_eq_true rfl) ?_
  refine G_lload_n 0 dr_cJ13_bitCount_95d88_0 rfl ?_
  refine G_lload_n 0 dr_cJ13_bitCount_95d88_1 rfl ?_
  refine G_iconst 1 dr_cJ13_bitCount_95d88_2 (by decide +kernel) ?_
  refine G_lushr dr_cJ13_bitCount_95d88_3 (G_namL fun u1891 hu1891 => ?_)
  refine G_ldc2 6148914691236517205 dr_cJ13_bitCount_95d88_4 wr_4_96 ?_
  refine G_land dr_cJ13_bitCount_95d88_7 (G_namL fun u1892 hu1892 => ?_)
  refine G_lsub dr_cJ13_bitCount_95d88_8 (G_namL fun u1893 hu1893 => ?_)
  refine G_lstore_n (L' := [(0, .long u1893)]) dr_cJ13_bitCount_95d88_9 (Nat.le_of_ble_eq_true rfl) rfl ?_
  refine G_lload_n 0 dr_cJ13_bitCount_95d88_10 rfl ?_
  refine G_ldc2 3689348814741910323 dr_cJ13_bitCount_95d88_11 wr_4_97 ?_
  refine G_land dr_cJ13_bitCount_95d88_14 (G_namL fun u1894 hu1894 => ?_)
  refine G_lload_n 0 dr_cJ13_bitCount_95d88_15 rfl ?_
  refine G_iconst 2 dr_cJ13_bitCount_95d88_16 (by decide +kernel) ?_
  refine G_lushr dr_cJ13_bitCount_95d88_17 (G_namL fun u1895 hu1895 => ?_)
  refine G_ldc2 3689348814741910323 dr_cJ13_bitCount_95d88_18 wr_4_97 ?_
  refine G_land dr_cJ13_bitCount_95d88_21 (G_namL fun u1896 hu1896 => ?_)
  refine G_ladd dr_cJ13_bitCount_95d88_22 (G_namL fun u1897 hu1897 => ?_)
  refine G_lstore_n (L' := [(0, .long u1897)]) dr_cJ13_bitCount_95d88_23 (Nat.le_of_ble_eq_true rfl) rfl ?_
  refine G_lload_n 0 dr_cJ13_bitCount_95d88_24 rfl ?_
  refine G_lload_n 0 dr_cJ13_bitCount_95d88_25 rfl ?_
  refine G_iconst 4 dr_cJ13_bitCount_95d88_26 (by decide +kernel) ?_
  refine G_lushr dr_cJ13_bitCount_95d88_27 (G_namL fun u1898 hu1898 => ?_)
  refine G_ladd dr_cJ13_bitCount_95d88_28 (G_namL fun u1899 hu1899 => ?_)
  refine G_ldc2 1085102592571150095 dr_cJ13_bitCount_95d88_29 wr_4_98 ?_
  refine G_land dr_cJ13_bitCount_95d88_32 (G_namL fun u1900 hu1900 => ?_)
  refine G_lstore_n (L' := [(0, .long u1900)]) dr_cJ13_bitCount_95d88_33 (Nat.le_of_ble_eq_true rfl) rfl ?_
  refine G_lload_n 0 dr_cJ13_bitCount_95d88_34 rfl ?_
  refine G_lload_n 0 dr_cJ13_bitCount_95d88_35 rfl ?_
  refine G_bipush 8 dr_cJ13_bitCount_95d88_36 (by decide +kernel) ?_
  refine G_lushr dr_cJ13_bitCount_95d88_38 (G_namL fun u1901 hu1901 => ?_)
  refine G_ladd dr_cJ13_bitCount_95d88_39 (G_namL fun u1902 hu1902 => ?_)
  refine G_lstore_n (L' := [(0, .long u1902)]) dr_cJ13_bitCount_95d88_40 (Nat.le_of_ble_eq_true rfl) rfl ?_
  refine G_lload_n 0 dr_cJ13_bitCount_95d88_41 rfl ?_
  refine G_lload_n 0 dr_cJ13_bitCount_95d88_42 rfl ?_
  refine G_bipush 16 dr_cJ13_bitCount_95d88_43 (by decide +kernel) ?_
  refine G_lushr dr_cJ13_bitCount_95d88_45 (G_namL fun u1903 hu1903 => ?_)
  refine G_ladd dr_cJ13_bitCount_95d88_46 (G_namL fun u1904 hu1904 => ?_)
  refine G_lstore_n (L' := [(0, .long u1904)]) dr_cJ13_bitCount_95d88_47 (Nat.le_of_ble_eq_true rfl) rfl ?_
  refine G_lload_n 0 dr_cJ13_bitCount_95d88_48 rfl ?_
  refine G_lload_n 0 dr_cJ13_bitCount_95d88_49 rfl ?_
  refine G_bipush 32 dr_cJ13_bitCount_95d88_50 (by decide +kernel) ?_
  refine G_lushr dr_cJ13_bitCount_95d88_52 (G_namL fun u1905 hu1905 => ?_)
  refine G_ladd dr_cJ13_bitCount_95d88_53 (G_namL fun u1906 hu1906 => ?_)
  refine G_lstore_n (L' := [(0, .long u1906)]) dr_cJ13_bitCount_95d88_54 (Nat.le_of_ble_eq_true rfl) rfl ?_
  refine G_lload_n 0 dr_cJ13_bitCount_95d88_55 rfl ?_
  refine G_l2i dr_cJ13_bitCount_95d88_56 (G_nam fun z1907 hz1907 => ?_)
  have bz1907 : gB z1907 (-2147483648) 2147483647 := gB_any z1907
  refine G_bipush 127 dr_cJ13_bitCount_95d88_57 (by decide +kernel) ?_
  refine G_iand dr_cJ13_bitCount_95d88_59 (G_nam fun z1908 hz1908 => ?_)
  have bz1908 : gB z1908 0 127 := gB_and hz1908 (gBl (show Int32.toInt 127 = 127 by decide)) (by decide)
  exact G_iretA dr_cJ13_bitCount_95d88_60 rfl (Nat.le_of_ble_eq_true rfl) (Nat.le_of_ble_eq_true rfl) ⟨z1908, rfl, rfl, (Nat.le_of_ble_eq_true rfl), (Nat.le_of_ble_eq_true rfl), bz1908⟩
abbrev ky_1885_SpillForgeModel_count : gKey := (cX17_count, 3, "SpillForgeModel", (some FieldType.int), [], "count", fun _ _ => True)
def pp_1885_SpillForgeModel_count (D : va_G) (I : FieldType → ClassId) (P1881 : List Nat) (F1882 : Nat → va_E) (q1883 : Nat) (f1884 : Nat → Int64) : Option Value → va_W → Nat → Nat → Prop := fun r w dc ds => ∃ (o2006 : Int32), r = some (.int o2006) ∧ w = va_pl P1881 F1882 ∧ dc ≤ 0 ∧ ds ≤ 0
set_option maxRecDepth 100000 in
set_option maxHeartbeats 4000000 in
theorem cp_1885_SpillForgeModel_count (l : Launch) (hl0 : l.stackTraces = false) (D : va_G) (I : FieldType → ClassId) (P1881 : List Nat) (F1882 : Nat → va_E) (q1883 : Nat) (f1884 : Nat → Int64) (hmq1883 : q1883 ∈ P1881) (heq1883 : F1882 q1883 = .inl (I .long, 32, .inr (.inl f1884))) : CtA (gV D I) l yX17_count cX17_count 3 (some FieldType.int) 1 21 0 0 [.ref q1883] (va_pl P1881 F1882) (pp_1885_SpillForgeModel_count D I P1881 F1882 q1883 f1884) gNA := by
  refine CtA_of hl0 (by decide) (Nat.le_of_ble_eq_true rfl) ?_
  refine G_iconst 0 dr_cX17_count_0 (by decide +kernel) ?_
  refine G_istore_n (L' := [(1, .int 0), (0, .ref q1883)]) dr_cX17_count_1 (Nat.le_of_ble_eq_true rfl) rfl ?_
  refine G_iconst 0 dr_cX17_count_2 (by decide +kernel) ?_
  refine G_istore_n (L' := [(2, .int 0), (1, .int 0), (0, .ref q1883)]) dr_cX17_count_3 (Nat.le_of_ble_eq_true rfl) rfl ?_
  have hlp4_1993 : ∀ (n4_1993 : Nat) (g1992 : Int32) (g1993 : Int32), gB g1992 0 32 → ((33 : Int) - g1992.toInt).toNat < n4_1993 → G (gV D I) l (gRm 1 21 0 0) (gMA (gV D I) (pp_1885_SpillForgeModel_count D I P1881 F1882 q1883 f1884) gNA 0 0) ky_1885_SpillForgeModel_count 4 [(2, .int g1992), (1, .int g1993), (0, .ref q1883)] [] (va_pl P1881 F1882) 0 0 := by
    intro n4_1993
    induction n4_1993 with
    | zero => intro g1992 g1993 bg1992 hm4_1993; exact absurd hm4_1993 (Nat.not_lt_zero _)
    | succ n4_1993 ih4_1993 =>
      intro g1992 g1993 bg1992 hm4_1993
      refine G_iload_n 0 dr_cX17_count_4 rfl ?_
      refine G_aload_n 2 dr_cX17_count_5 rfl ?_
      refine Gp_alen 32 2 hmq1883 heq1883 dr_cX17_count_6 rfl rfl ?_
      refine G_icmp_ge 25 dr_cX17_count_7 (by decide +kernel) (fun hc1994 => ?_) (fun hc1994 => ?_)
      · have r1995 : 32 ≤ g1992.toInt := gj_leL hc1994 (show Int32.toInt 32 = 32 by decide)
        have bg1992' : gB g1992 32 32 := ⟨by omega, by omega⟩
        refine G_iload_n 1 dr_cX17_count_25 rfl ?_
        exact G_iretA dr_cX17_count_26 rfl (Nat.le_of_ble_eq_true rfl) (Nat.le_of_ble_eq_true rfl) ⟨g1993, rfl, rfl, (Nat.le_of_ble_eq_true rfl), (Nat.le_of_ble_eq_true rfl)⟩
      · have r1996 : g1992.toInt < 32 := gj_nleL hc1994 (show Int32.toInt 32 = 32 by decide)
        have bg1992' : gB g1992 0 31 := ⟨by omega, by omega⟩
        refine G_iload_n 1 dr_cX17_count_10 rfl ?_
        refine G_aload_n 2 dr_cX17_count_11 rfl ?_
        refine G_iload_n 0 dr_cX17_count_12 rfl ?_
        refine Gp_lald 2 hmq1883 heq1883 dr_cX17_count_13 rfl (gB_in bg1992' (by decide) (by decide)) (G_namL fun u1997 hu1997 => ?_)
        refine Gw_callS (As := [.long u1997]) (gV_ok D I) (cp_1890_Long_bitCount l hl0 D I P1881 F1882 u1997 ) dr_cX17_count_14 ⟨wr_11_19, wr_1_31, wr_4_95, by decide, rfl, (Nat.le_of_ble_eq_true rfl), (Nat.le_of_ble_eq_true rfl)⟩ wr_4_94 (show 0 + 0 ≤ 0 by first | omega | decide) (show 0 + 0 ≤ 0 by first | omega | decide) (Nat.le_of_ble_eq_true rfl) (fun r2001 w2002 dc1998 ds1999 hp2000 => ?_) (fun _ _ _ _ _ z => z.elim)
        obtain ⟨o2003, rfl, rfl, hdc, hds, bo2003⟩ := hp2000
        change G _ _ _ _ _ _ _ (.int o2003 :: _) _ _ _
        refine G_widen (cs' := 0) (sl' := 0) (by omega) (by omega) ?_
        refine G_iadd dr_cX17_count_17 (G_nam fun z2004 hz2004 => ?_)
        have bz2004 : gB z2004 (-2147483648) 2147483647 := gB_any z2004
        refine G_istore_n (L' := [(1, .int z2004), (2, .int g1992), (0, .ref q1883)]) dr_cX17_count_18 (Nat.le_of_ble_eq_true rfl) rfl ?_
        obtain ⟨z2005, hz2005⟩ : ∃ z : Int32, z = g1992 + Int32.ofInt 1 := ⟨_, rfl⟩
        have ez2005 : z2005.toInt = g1992.toInt + 1 := gI_inc hz2005 (by decide) bg1992' (by decide) (by decide)
        have bz2005 : gB z2005 1 32 := ⟨by omega, by omega⟩
        refine G_iinc (L' := [(2, .int z2005), (1, .int z2004), (0, .ref q1883)]) z2005 1 dr_cX17_count_19 rfl hz2005.symm (Nat.le_of_ble_eq_true rfl) rfl ?_
        refine G_goto 4 dr_cX17_count_22 (by decide +kernel) ?_
        exact ih4_1993 z2005 z2004 (gB_w bz2005 (by decide) (by decide)) (by omega)
  exact hlp4_1993 (((33 : Int) - 0).toNat + 1) 0 0 (gB_w (gBl (show Int32.toInt 0 = 0 by decide)) (by decide) (by decide)) (Nat.lt_succ_self _)
abbrev ky_2012_SpillForgeModel_result : gKey := (cX17_result, 4, "SpillForgeModel", (some FieldType.long), [], "result", fun _ _ => True)
def pp_2012_SpillForgeModel_result (D : va_G) (I : FieldType → ClassId) (P2007 : List Nat) (F2008 : Nat → va_E) (p2009 : Int32) (p2010 : Int32) (p2011 : Int32) : Option Value → va_W → Nat → Nat → Prop := fun r w dc ds => ∃ (ol2092 : Int64), r = some (.long ol2092) ∧ w = va_pl P2007 F2008 ∧ dc ≤ 0 ∧ ds ≤ 0
set_option maxRecDepth 100000 in
set_option maxHeartbeats 4000000 in
theorem cp_2012_SpillForgeModel_result (l : Launch) (hl0 : l.stackTraces = false) (D : va_G) (I : FieldType → ClassId) (P2007 : List Nat) (F2008 : Nat → va_E) (p2009 : Int32) (p2010 : Int32) (p2011 : Int32)  : CtA (gV D I) l yX17_result cX17_result 4 (some FieldType.long) 0 0 0 0 [.int p2009, .int p2010, .int p2011] (va_pl P2007 F2008) (pp_2012_SpillForgeModel_result D I P2007 F2008 p2009 p2010 p2011) gNA := by
  refine CtA_of hl0 (by decide) (Nat.le_of_ble_eq_true rfl) ?_
  have bp2009 := gB_any p2009
  have bp2010 := gB_any p2010
  have bp2011 := gB_any p2011
  refine G_iload_n 0 dr_cX17_result_0 rfl ?_
  by_cases hs2013 : p2009 = 1
  · have ehs2013 : p2009.toInt = 1 := gj_eq hs2013 (show Int32.toInt 1 = 1 by decide)
    have bp2009' : gB p2009 1 1 := ⟨by omega, by omega⟩
    refine G_eqi (y := 1) hs2013 ?_
    refine G_tableIn 68 dr_cX17_result_1 (by decide) (by decide) (by first | rfl | decide) (by decide) ?_
    refine G_iload_n 1 dr_cX17_result_68 rfl ?_
    refine G_iload_n 2 dr_cX17_result_69 rfl ?_
    refine G_iadd dr_cX17_result_70 (G_nam fun z2014 hz2014 => ?_)
    have bz2014 : gB z2014 (-2147483648) 2147483647 := gB_any z2014
    refine G_istore_n (L' := [(3, .int z2014), (0, .int p2009), (1, .int p2010), (2, .int p2011)]) dr_cX17_result_71 (Nat.le_of_ble_eq_true rfl) rfl ?_
    refine G_goto 213 dr_cX17_result_72 (by decide +kernel) ?_
    refine G_iload_n 0 dr_cX17_result_213 rfl ?_
    refine G_i2l dr_cX17_result_214 (G_namL fun u2015 hu2015 => ?_)
    refine G_ldc2 4294967295 dr_cX17_result_215 wr_11_108 ?_
    refine G_land dr_cX17_result_218 (G_namL fun u2016 hu2016 => ?_)
    exact G_lretA dr_cX17_result_219 rfl (Nat.le_of_ble_eq_true rfl) (Nat.le_of_ble_eq_true rfl) ⟨u2016, rfl, rfl, (Nat.le_of_ble_eq_true rfl), (Nat.le_of_ble_eq_true rfl)⟩
  by_cases hs2017 : p2009 = 2
  · have ehs2017 : p2009.toInt = 2 := gj_eq hs2017 (show Int32.toInt 2 = 2 by decide)
    have bp2009' : gB p2009 2 2 := ⟨by omega, by omega⟩
    refine G_eqi (y := 2) hs2017 ?_
    refine G_tableIn 75 dr_cX17_result_1 (by decide) (by decide) (by first | rfl | decide) (by decide) ?_
    refine G_iload_n 1 dr_cX17_result_75 rfl ?_
    refine G_iload_n 2 dr_cX17_result_76 rfl ?_
    refine G_isub dr_cX17_result_77 (G_nam fun z2018 hz2018 => ?_)
    have bz2018 : gB z2018 (-2147483648) 2147483647 := gB_any z2018
    refine G_istore_n (L' := [(3, .int z2018), (0, .int p2009), (1, .int p2010), (2, .int p2011)]) dr_cX17_result_78 (Nat.le_of_ble_eq_true rfl) rfl ?_
    refine G_goto 213 dr_cX17_result_79 (by decide +kernel) ?_
    refine G_iload_n 0 dr_cX17_result_213 rfl ?_
    refine G_i2l dr_cX17_result_214 (G_namL fun u2019 hu2019 => ?_)
    refine G_ldc2 4294967295 dr_cX17_result_215 wr_11_108 ?_
    refine G_land dr_cX17_result_218 (G_namL fun u2020 hu2020 => ?_)
    exact G_lretA dr_cX17_result_219 rfl (Nat.le_of_ble_eq_true rfl) (Nat.le_of_ble_eq_true rfl) ⟨u2020, rfl, rfl, (Nat.le_of_ble_eq_true rfl), (Nat.le_of_ble_eq_true rfl)⟩
  by_cases hs2021 : p2009 = 3
  · have ehs2021 : p2009.toInt = 3 := gj_eq hs2021 (show Int32.toInt 3 = 3 by decide)
    have bp2009' : gB p2009 3 3 := ⟨by omega, by omega⟩
    refine G_eqi (y := 3) hs2021 ?_
    refine G_tableIn 82 dr_cX17_result_1 (by decide) (by decide) (by first | rfl | decide) (by decide) ?_
    refine G_iload_n 1 dr_cX17_result_82 rfl ?_
    refine G_iload_n 2 dr_cX17_result_83 rfl ?_
    refine G_imul dr_cX17_result_84 (G_nam fun z2022 hz2022 => ?_)
    have bz2022 : gB z2022 (-2147483648) 2147483647 := gB_any z2022
    refine G_istore_n (L' := [(3, .int z2022), (0, .int p2009), (1, .int p2010), (2, .int p2011)]) dr_cX17_result_85 (Nat.le_of_ble_eq_true rfl) rfl ?_
    refine G_goto 213 dr_cX17_result_86 (by decide +kernel) ?_
    refine G_iload_n 0 dr_cX17_result_213 rfl ?_
    refine G_i2l dr_cX17_result_214 (G_namL fun u2023 hu2023 => ?_)
    refine G_ldc2 4294967295 dr_cX17_result_215 wr_11_108 ?_
    refine G_land dr_cX17_result_218 (G_namL fun u2024 hu2024 => ?_)
    exact G_lretA dr_cX17_result_219 rfl (Nat.le_of_ble_eq_true rfl) (Nat.le_of_ble_eq_true rfl) ⟨u2024, rfl, rfl, (Nat.le_of_ble_eq_true rfl), (Nat.le_of_ble_eq_true rfl)⟩
  by_cases hs2025 : p2009 = 4
  · have ehs2025 : p2009.toInt = 4 := gj_eq hs2025 (show Int32.toInt 4 = 4 by decide)
    have bp2009' : gB p2009 4 4 := ⟨by omega, by omega⟩
    refine G_eqi (y := 4) hs2025 ?_
    refine G_tableIn 89 dr_cX17_result_1 (by decide) (by decide) (by first | rfl | decide) (by decide) ?_
    refine G_iload_n 2 dr_cX17_result_89 rfl ?_
    refine G_if_ne 97 dr_cX17_result_90 (by decide +kernel) (fun hc2026 => ?_) (fun hc2026 => ?_)
    · have r2027 : p2011.toInt ≠ 0 := gj_neq hc2026 (show Int32.toInt 0 = 0 by decide)
      refine G_iload_n 1 dr_cX17_result_97 rfl ?_
      refine G_iload_n 2 dr_cX17_result_98 rfl ?_
      refine G_idiv dr_cX17_result_99 hc2026 (G_nam fun z2028 hz2028 => ?_)
      have bz2028 : gB z2028 (-2147483648) 2147483647 := gB_any z2028
      refine G_istore_n (L' := [(3, .int z2028), (0, .int p2009), (1, .int p2010), (2, .int p2011)]) dr_cX17_result_100 (Nat.le_of_ble_eq_true rfl) rfl ?_
      refine G_goto 213 dr_cX17_result_101 (by decide +kernel) ?_
      refine G_iload_n 0 dr_cX17_result_213 rfl ?_
      refine G_i2l dr_cX17_result_214 (G_namL fun u2029 hu2029 => ?_)
      refine G_ldc2 4294967295 dr_cX17_result_215 wr_11_108 ?_
      refine G_land dr_cX17_result_218 (G_namL fun u2030 hu2030 => ?_)
      exact G_lretA dr_cX17_result_219 rfl (Nat.le_of_ble_eq_true rfl) (Nat.le_of_ble_eq_true rfl) ⟨u2030, rfl, rfl, (Nat.le_of_ble_eq_true rfl), (Nat.le_of_ble_eq_true rfl)⟩
    · have r2031 : p2011.toInt = 0 := gj_eq hc2026 (show Int32.toInt 0 = 0 by decide)
      have bp2011' : gB p2011 0 0 := ⟨by omega, by omega⟩
      refine G_ldc2 4294967296 dr_cX17_result_93 wr_11_107 ?_
      exact G_lretA dr_cX17_result_96 rfl (Nat.le_of_ble_eq_true rfl) (Nat.le_of_ble_eq_true rfl) ⟨4294967296, rfl, rfl, (Nat.le_of_ble_eq_true rfl), (Nat.le_of_ble_eq_true rfl)⟩
  by_cases hs2032 : p2009 = 5
  · have ehs2032 : p2009.toInt = 5 := gj_eq hs2032 (show Int32.toInt 5 = 5 by decide)
    have bp2009' : gB p2009 5 5 := ⟨by omega, by omega⟩
    refine G_eqi (y := 5) hs2032 ?_
    refine G_tableIn 104 dr_cX17_result_1 (by decide) (by decide) (by first | rfl | decide) (by decide) ?_
    refine G_iload_n 2 dr_cX17_result_104 rfl ?_
    refine G_if_ne 112 dr_cX17_result_105 (by decide +kernel) (fun hc2033 => ?_) (fun hc2033 => ?_)
    · have r2034 : p2011.toInt ≠ 0 := gj_neq hc2033 (show Int32.toInt 0 = 0 by decide)
      refine G_iload_n 1 dr_cX17_result_112 rfl ?_
      refine G_iload_n 2 dr_cX17_result_113 rfl ?_
      refine G_irem dr_cX17_result_114 hc2033 (G_nam fun z2035 hz2035 => ?_)
      have bz2035 : gB z2035 (-2147483648) 2147483647 := gB_any z2035
      refine G_istore_n (L' := [(3, .int z2035), (0, .int p2009), (1, .int p2010), (2, .int p2011)]) dr_cX17_result_115 (Nat.le_of_ble_eq_true rfl) rfl ?_
      refine G_goto 213 dr_cX17_result_116 (by decide +kernel) ?_
      refine G_iload_n 0 dr_cX17_result_213 rfl ?_
      refine G_i2l dr_cX17_result_214 (G_namL fun u2036 hu2036 => ?_)
      refine G_ldc2 4294967295 dr_cX17_result_215 wr_11_108 ?_
      refine G_land dr_cX17_result_218 (G_namL fun u2037 hu2037 => ?_)
      exact G_lretA dr_cX17_result_219 rfl (Nat.le_of_ble_eq_true rfl) (Nat.le_of_ble_eq_true rfl) ⟨u2037, rfl, rfl, (Nat.le_of_ble_eq_true rfl), (Nat.le_of_ble_eq_true rfl)⟩
    · have r2038 : p2011.toInt = 0 := gj_eq hc2033 (show Int32.toInt 0 = 0 by decide)
      have bp2011' : gB p2011 0 0 := ⟨by omega, by omega⟩
      refine G_ldc2 4294967296 dr_cX17_result_108 wr_11_107 ?_
      exact G_lretA dr_cX17_result_111 rfl (Nat.le_of_ble_eq_true rfl) (Nat.le_of_ble_eq_true rfl) ⟨4294967296, rfl, rfl, (Nat.le_of_ble_eq_true rfl), (Nat.le_of_ble_eq_true rfl)⟩
  by_cases hs2039 : p2009 = 6
  · have ehs2039 : p2009.toInt = 6 := gj_eq hs2039 (show Int32.toInt 6 = 6 by decide)
    have bp2009' : gB p2009 6 6 := ⟨by omega, by omega⟩
    refine G_eqi (y := 6) hs2039 ?_
    refine G_tableIn 119 dr_cX17_result_1 (by decide) (by decide) (by first | rfl | decide) (by decide) ?_
    refine G_iload_n 1 dr_cX17_result_119 rfl ?_
    refine G_iload_n 2 dr_cX17_result_120 rfl ?_
    refine G_iand dr_cX17_result_121 (G_nam fun z2040 hz2040 => ?_)
    have bz2040 : gB z2040 (-2147483648) 2147483647 := gB_any z2040
    refine G_istore_n (L' := [(3, .int z2040), (0, .int p2009), (1, .int p2010), (2, .int p2011)]) dr_cX17_result_122 (Nat.le_of_ble_eq_true rfl) rfl ?_
    refine G_goto 213 dr_cX17_result_123 (by decide +kernel) ?_
    refine G_iload_n 0 dr_cX17_result_213 rfl ?_
    refine G_i2l dr_cX17_result_214 (G_namL fun u2041 hu2041 => ?_)
    refine G_ldc2 4294967295 dr_cX17_result_215 wr_11_108 ?_
    refine G_land dr_cX17_result_218 (G_namL fun u2042 hu2042 => ?_)
    exact G_lretA dr_cX17_result_219 rfl (Nat.le_of_ble_eq_true rfl) (Nat.le_of_ble_eq_true rfl) ⟨u2042, rfl, rfl, (Nat.le_of_ble_eq_true rfl), (Nat.le_of_ble_eq_true rfl)⟩
  by_cases hs2043 : p2009 = 7
  · have ehs2043 : p2009.toInt = 7 := gj_eq hs2043 (show Int32.toInt 7 = 7 by decide)
    have bp2009' : gB p2009 7 7 := ⟨by omega, by omega⟩
    refine G_eqi (y := 7) hs2043 ?_
    refine G_tableIn 126 dr_cX17_result_1 (by decide) (by decide) (by first | rfl | decide) (by decide) ?_
    refine G_iload_n 1 dr_cX17_result_126 rfl ?_
    refine G_iload_n 2 dr_cX17_result_127 rfl ?_
    refine G_ior dr_cX17_result_128 (G_nam fun z2044 hz2044 => ?_)
    have bz2044 : gB z2044 (-2147483648) 2147483647 := gB_any z2044
    refine G_istore_n (L' := [(3, .int z2044), (0, .int p2009), (1, .int p2010), (2, .int p2011)]) dr_cX17_result_129 (Nat.le_of_ble_eq_true rfl) rfl ?_
    refine G_goto 213 dr_cX17_result_130 (by decide +kernel) ?_
    refine G_iload_n 0 dr_cX17_result_213 rfl ?_
    refine G_i2l dr_cX17_result_214 (G_namL fun u2045 hu2045 => ?_)
    refine G_ldc2 4294967295 dr_cX17_result_215 wr_11_108 ?_
    refine G_land dr_cX17_result_218 (G_namL fun u2046 hu2046 => ?_)
    exact G_lretA dr_cX17_result_219 rfl (Nat.le_of_ble_eq_true rfl) (Nat.le_of_ble_eq_true rfl) ⟨u2046, rfl, rfl, (Nat.le_of_ble_eq_true rfl), (Nat.le_of_ble_eq_true rfl)⟩
  by_cases hs2047 : p2009 = 8
  · have ehs2047 : p2009.toInt = 8 := gj_eq hs2047 (show Int32.toInt 8 = 8 by decide)
    have bp2009' : gB p2009 8 8 := ⟨by omega, by omega⟩
    refine G_eqi (y := 8) hs2047 ?_
    refine G_tableIn 133 dr_cX17_result_1 (by decide) (by decide) (by first | rfl | decide) (by decide) ?_
    refine G_iload_n 1 dr_cX17_result_133 rfl ?_
    refine G_iload_n 2 dr_cX17_result_134 rfl ?_
    refine G_ixor dr_cX17_result_135 (G_nam fun z2048 hz2048 => ?_)
    have bz2048 : gB z2048 (-2147483648) 2147483647 := gB_any z2048
    refine G_istore_n (L' := [(3, .int z2048), (0, .int p2009), (1, .int p2010), (2, .int p2011)]) dr_cX17_result_136 (Nat.le_of_ble_eq_true rfl) rfl ?_
    refine G_goto 213 dr_cX17_result_137 (by decide +kernel) ?_
    refine G_iload_n 0 dr_cX17_result_213 rfl ?_
    refine G_i2l dr_cX17_result_214 (G_namL fun u2049 hu2049 => ?_)
    refine G_ldc2 4294967295 dr_cX17_result_215 wr_11_108 ?_
    refine G_land dr_cX17_result_218 (G_namL fun u2050 hu2050 => ?_)
    exact G_lretA dr_cX17_result_219 rfl (Nat.le_of_ble_eq_true rfl) (Nat.le_of_ble_eq_true rfl) ⟨u2050, rfl, rfl, (Nat.le_of_ble_eq_true rfl), (Nat.le_of_ble_eq_true rfl)⟩
  by_cases hs2051 : p2009 = 9
  · have ehs2051 : p2009.toInt = 9 := gj_eq hs2051 (show Int32.toInt 9 = 9 by decide)
    have bp2009' : gB p2009 9 9 := ⟨by omega, by omega⟩
    refine G_eqi (y := 9) hs2051 ?_
    refine G_tableIn 140 dr_cX17_result_1 (by decide) (by decide) (by first | rfl | decide) (by decide) ?_
    refine G_iload_n 1 dr_cX17_result_140 rfl ?_
    refine G_iload_n 2 dr_cX17_result_141 rfl ?_
    refine G_bipush 31 dr_cX17_result_142 (by decide +kernel) ?_
    refine G_iand dr_cX17_result_144 (G_nam fun z2052 hz2052 => ?_)
    have bz2052 : gB z2052 0 31 := gB_and hz2052 (gBl (show Int32.toInt 31 = 31 by decide)) (by decide)
    refine G_ishl dr_cX17_result_145 (G_nam fun z2053 hz2053 => ?_)
    have bz2053 : gB z2053 (-2147483648) 2147483647 := gB_any z2053
    refine G_istore_n (L' := [(3, .int z2053), (0, .int p2009), (1, .int p2010), (2, .int p2011)]) dr_cX17_result_146 (Nat.le_of_ble_eq_true rfl) rfl ?_
    refine G_goto 213 dr_cX17_result_147 (by decide +kernel) ?_
    refine G_iload_n 0 dr_cX17_result_213 rfl ?_
    refine G_i2l dr_cX17_result_214 (G_namL fun u2054 hu2054 => ?_)
    refine G_ldc2 4294967295 dr_cX17_result_215 wr_11_108 ?_
    refine G_land dr_cX17_result_218 (G_namL fun u2055 hu2055 => ?_)
    exact G_lretA dr_cX17_result_219 rfl (Nat.le_of_ble_eq_true rfl) (Nat.le_of_ble_eq_true rfl) ⟨u2055, rfl, rfl, (Nat.le_of_ble_eq_true rfl), (Nat.le_of_ble_eq_true rfl)⟩
  by_cases hs2056 : p2009 = 10
  · have ehs2056 : p2009.toInt = 10 := gj_eq hs2056 (show Int32.toInt 10 = 10 by decide)
    have bp2009' : gB p2009 10 10 := ⟨by omega, by omega⟩
    refine G_eqi (y := 10) hs2056 ?_
    refine G_tableIn 150 dr_cX17_result_1 (by decide) (by decide) (by first | rfl | decide) (by decide) ?_
    refine G_iload_n 1 dr_cX17_result_150 rfl ?_
    refine G_iload_n 2 dr_cX17_result_151 rfl ?_
    refine G_bipush 31 dr_cX17_result_152 (by decide +kernel) ?_
    refine G_iand dr_cX17_result_154 (G_nam fun z2057 hz2057 => ?_)
    have bz2057 : gB z2057 0 31 := gB_and hz2057 (gBl (show Int32.toInt 31 = 31 by decide)) (by decide)
    refine G_ishr dr_cX17_result_155 (G_nam fun z2058 hz2058 => ?_)
    have bz2058 : gB z2058 (-2147483648) 2147483647 := gB_any z2058
    refine G_istore_n (L' := [(3, .int z2058), (0, .int p2009), (1, .int p2010), (2, .int p2011)]) dr_cX17_result_156 (Nat.le_of_ble_eq_true rfl) rfl ?_
    refine G_goto 213 dr_cX17_result_157 (by decide +kernel) ?_
    refine G_iload_n 0 dr_cX17_result_213 rfl ?_
    refine G_i2l dr_cX17_result_214 (G_namL fun u2059 hu2059 => ?_)
    refine G_ldc2 4294967295 dr_cX17_result_215 wr_11_108 ?_
    refine G_land dr_cX17_result_218 (G_namL fun u2060 hu2060 => ?_)
    exact G_lretA dr_cX17_result_219 rfl (Nat.le_of_ble_eq_true rfl) (Nat.le_of_ble_eq_true rfl) ⟨u2060, rfl, rfl, (Nat.le_of_ble_eq_true rfl), (Nat.le_of_ble_eq_true rfl)⟩
  by_cases hs2061 : p2009 = 11
  · have ehs2061 : p2009.toInt = 11 := gj_eq hs2061 (show Int32.toInt 11 = 11 by decide)
    have bp2009' : gB p2009 11 11 := ⟨by omega, by omega⟩
    refine G_eqi (y := 11) hs2061 ?_
    refine G_tableIn 160 dr_cX17_result_1 (by decide) (by decide) (by first | rfl | decide) (by decide) ?_
    refine G_iload_n 1 dr_cX17_result_160 rfl ?_
    refine G_iload_n 2 dr_cX17_result_161 rfl ?_
    refine G_icmp_ge 169 dr_cX17_result_162 (by decide +kernel) (fun hc2062 => ?_) (fun hc2062 => ?_)
    · have r2063 : p2011.toInt ≤ p2010.toInt := gC_le hc2062
      refine G_iconst 0 dr_cX17_result_169 (by decide +kernel) ?_
      refine G_istore_n (L' := [(3, .int 0), (0, .int p2009), (1, .int p2010), (2, .int p2011)]) dr_cX17_result_170 (Nat.le_of_ble_eq_true rfl) rfl ?_
      refine G_goto 213 dr_cX17_result_171 (by decide +kernel) ?_
      refine G_iload_n 0 dr_cX17_result_213 rfl ?_
      refine G_i2l dr_cX17_result_214 (G_namL fun u2064 hu2064 => ?_)
      refine G_ldc2 4294967295 dr_cX17_result_215 wr_11_108 ?_
      refine G_land dr_cX17_result_218 (G_namL fun u2065 hu2065 => ?_)
      exact G_lretA dr_cX17_result_219 rfl (Nat.le_of_ble_eq_true rfl) (Nat.le_of_ble_eq_true rfl) ⟨u2065, rfl, rfl, (Nat.le_of_ble_eq_true rfl), (Nat.le_of_ble_eq_true rfl)⟩
    · have r2066 : p2010.toInt < p2011.toInt := gC_nle hc2062
      have bp2010' : gB p2010 (-2147483648) 2147483646 := ⟨by omega, by omega⟩
      have bp2011' : gB p2011 (-2147483647) 2147483647 := ⟨by omega, by omega⟩
      refine G_iconst 1 dr_cX17_result_165 (by decide +kernel) ?_
      refine G_goto 170 dr_cX17_result_166 (by decide +kernel) ?_
      refine G_istore_n (L' := [(3, .int 1), (0, .int p2009), (1, .int p2010), (2, .int p2011)]) dr_cX17_result_170 (Nat.le_of_ble_eq_true rfl) rfl ?_
      refine G_goto 213 dr_cX17_result_171 (by decide +kernel) ?_
      refine G_iload_n 0 dr_cX17_result_213 rfl ?_
      refine G_i2l dr_cX17_result_214 (G_namL fun u2067 hu2067 => ?_)
      refine G_ldc2 4294967295 dr_cX17_result_215 wr_11_108 ?_
      refine G_land dr_cX17_result_218 (G_namL fun u2068 hu2068 => ?_)
      exact G_lretA dr_cX17_result_219 rfl (Nat.le_of_ble_eq_true rfl) (Nat.le_of_ble_eq_true rfl) ⟨u2068, rfl, rfl, (Nat.le_of_ble_eq_true rfl), (Nat.le_of_ble_eq_true rfl)⟩
  by_cases hs2069 : p2009 = 12
  · have ehs2069 : p2009.toInt = 12 := gj_eq hs2069 (show Int32.toInt 12 = 12 by decide)
    have bp2009' : gB p2009 12 12 := ⟨by omega, by omega⟩
    refine G_eqi (y := 12) hs2069 ?_
    refine G_tableIn 174 dr_cX17_result_1 (by decide) (by decide) (by first | rfl | decide) (by decide) ?_
    refine G_iload_n 1 dr_cX17_result_174 rfl ?_
    refine G_iload_n 2 dr_cX17_result_175 rfl ?_
    refine G_icmp_gt 183 dr_cX17_result_176 (by decide +kernel) (fun hc2070 => ?_) (fun hc2070 => ?_)
    · have r2071 : p2011.toInt < p2010.toInt := gC_lt hc2070
      have bp2011' : gB p2011 (-2147483648) 2147483646 := ⟨by omega, by omega⟩
      have bp2010' : gB p2010 (-2147483647) 2147483647 := ⟨by omega, by omega⟩
      refine G_iconst 0 dr_cX17_result_183 (by decide +kernel) ?_
      refine G_istore_n (L' := [(3, .int 0), (0, .int p2009), (1, .int p2010), (2, .int p2011)]) dr_cX17_result_184 (Nat.le_of_ble_eq_true rfl) rfl ?_
      refine G_goto 213 dr_cX17_result_185 (by decide +kernel) ?_
      refine G_iload_n 0 dr_cX17_result_213 rfl ?_
      refine G_i2l dr_cX17_result_214 (G_namL fun u2072 hu2072 => ?_)
      refine G_ldc2 4294967295 dr_cX17_result_215 wr_11_108 ?_
      refine G_land dr_cX17_result_218 (G_namL fun u2073 hu2073 => ?_)
      exact G_lretA dr_cX17_result_219 rfl (Nat.le_of_ble_eq_true rfl) (Nat.le_of_ble_eq_true rfl) ⟨u2073, rfl, rfl, (Nat.le_of_ble_eq_true rfl), (Nat.le_of_ble_eq_true rfl)⟩
    · have r2074 : p2010.toInt ≤ p2011.toInt := gC_nlt hc2070
      refine G_iconst 1 dr_cX17_result_179 (by decide +kernel) ?_
      refine G_goto 184 dr_cX17_result_180 (by decide +kernel) ?_
      refine G_istore_n (L' := [(3, .int 1), (0, .int p2009), (1, .int p2010), (2, .int p2011)]) dr_cX17_result_184 (Nat.le_of_ble_eq_true rfl) rfl ?_
      refine G_goto 213 dr_cX17_result_185 (by decide +kernel) ?_
      refine G_iload_n 0 dr_cX17_result_213 rfl ?_
      refine G_i2l dr_cX17_result_214 (G_namL fun u2075 hu2075 => ?_)
      refine G_ldc2 4294967295 dr_cX17_result_215 wr_11_108 ?_
      refine G_land dr_cX17_result_218 (G_namL fun u2076 hu2076 => ?_)
      exact G_lretA dr_cX17_result_219 rfl (Nat.le_of_ble_eq_true rfl) (Nat.le_of_ble_eq_true rfl) ⟨u2076, rfl, rfl, (Nat.le_of_ble_eq_true rfl), (Nat.le_of_ble_eq_true rfl)⟩
  by_cases hs2077 : p2009 = 13
  · have ehs2077 : p2009.toInt = 13 := gj_eq hs2077 (show Int32.toInt 13 = 13 by decide)
    have bp2009' : gB p2009 13 13 := ⟨by omega, by omega⟩
    refine G_eqi (y := 13) hs2077 ?_
    refine G_tableIn 188 dr_cX17_result_1 (by decide) (by decide) (by first | rfl | decide) (by decide) ?_
    refine G_iload_n 1 dr_cX17_result_188 rfl ?_
    refine G_iload_n 2 dr_cX17_result_189 rfl ?_
    refine G_icmp_ne 197 dr_cX17_result_190 (by decide +kernel) (fun hc2078 => ?_) (fun hc2078 => ?_)
    · have r2079 : p2010.toInt ≠ p2011.toInt := gC_ne hc2078
      refine G_iconst 0 dr_cX17_result_197 (by decide +kernel) ?_
      refine G_istore_n (L' := [(3, .int 0), (0, .int p2009), (1, .int p2010), (2, .int p2011)]) dr_cX17_result_198 (Nat.le_of_ble_eq_true rfl) rfl ?_
      refine G_goto 213 dr_cX17_result_199 (by decide +kernel) ?_
      refine G_iload_n 0 dr_cX17_result_213 rfl ?_
      refine G_i2l dr_cX17_result_214 (G_namL fun u2080 hu2080 => ?_)
      refine G_ldc2 4294967295 dr_cX17_result_215 wr_11_108 ?_
      refine G_land dr_cX17_result_218 (G_namL fun u2081 hu2081 => ?_)
      exact G_lretA dr_cX17_result_219 rfl (Nat.le_of_ble_eq_true rfl) (Nat.le_of_ble_eq_true rfl) ⟨u2081, rfl, rfl, (Nat.le_of_ble_eq_true rfl), (Nat.le_of_ble_eq_true rfl)⟩
    · have r2082 : p2010.toInt = p2011.toInt := gC_eq hc2078
      refine G_iconst 1 dr_cX17_result_193 (by decide +kernel) ?_
      refine G_goto 198 dr_cX17_result_194 (by decide +kernel) ?_
      refine G_istore_n (L' := [(3, .int 1), (0, .int p2009), (1, .int p2010), (2, .int p2011)]) dr_cX17_result_198 (Nat.le_of_ble_eq_true rfl) rfl ?_
      refine G_goto 213 dr_cX17_result_199 (by decide +kernel) ?_
      refine G_iload_n 0 dr_cX17_result_213 rfl ?_
      refine G_i2l dr_cX17_result_214 (G_namL fun u2083 hu2083 => ?_)
      refine G_ldc2 4294967295 dr_cX17_result_215 wr_11_108 ?_
      refine G_land dr_cX17_result_218 (G_namL fun u2084 hu2084 => ?_)
      exact G_lretA dr_cX17_result_219 rfl (Nat.le_of_ble_eq_true rfl) (Nat.le_of_ble_eq_true rfl) ⟨u2084, rfl, rfl, (Nat.le_of_ble_eq_true rfl), (Nat.le_of_ble_eq_true rfl)⟩
  have ehs2013 := lv_neT hs2013 (show Int32.toInt 1 = 1 by decide)
  have ehs2017 := lv_neT hs2017 (show Int32.toInt 2 = 2 by decide)
  have ehs2021 := lv_neT hs2021 (show Int32.toInt 3 = 3 by decide)
  have ehs2025 := lv_neT hs2025 (show Int32.toInt 4 = 4 by decide)
  have ehs2032 := lv_neT hs2032 (show Int32.toInt 5 = 5 by decide)
  have ehs2039 := lv_neT hs2039 (show Int32.toInt 6 = 6 by decide)
  have ehs2043 := lv_neT hs2043 (show Int32.toInt 7 = 7 by decide)
  have ehs2047 := lv_neT hs2047 (show Int32.toInt 8 = 8 by decide)
  have ehs2051 := lv_neT hs2051 (show Int32.toInt 9 = 9 by decide)
  have ehs2056 := lv_neT hs2056 (show Int32.toInt 10 = 10 by decide)
  have ehs2061 := lv_neT hs2061 (show Int32.toInt 11 = 11 by decide)
  have ehs2069 := lv_neT hs2069 (show Int32.toInt 12 = 12 by decide)
  have ehs2077 := lv_neT hs2077 (show Int32.toInt 13 = 13 by decide)
  refine G_tableOut 202 dr_cX17_result_1 (by omega) (by decide) ?_
  refine G_iload_n 1 dr_cX17_result_202 rfl ?_
  refine G_iload_n 2 dr_cX17_result_203 rfl ?_
  refine G_icmp_eq 211 dr_cX17_result_204 (by decide +kernel) (fun hc2085 => ?_) (fun hc2085 => ?_)
  · have r2086 : p2010.toInt = p2011.toInt := gC_eq hc2085
    refine G_iconst 0 dr_cX17_result_211 (by decide +kernel) ?_
    refine G_istore_n (L' := [(3, .int 0), (0, .int p2009), (1, .int p2010), (2, .int p2011)]) dr_cX17_result_212 (Nat.le_of_ble_eq_true rfl) rfl ?_
    refine G_iload_n 0 dr_cX17_result_213 rfl ?_
    refine G_i2l dr_cX17_result_214 (G_namL fun u2087 hu2087 => ?_)
    refine G_ldc2 4294967295 dr_cX17_result_215 wr_11_108 ?_
    refine G_land dr_cX17_result_218 (G_namL fun u2088 hu2088 => ?_)
    exact G_lretA dr_cX17_result_219 rfl (Nat.le_of_ble_eq_true rfl) (Nat.le_of_ble_eq_true rfl) ⟨u2088, rfl, rfl, (Nat.le_of_ble_eq_true rfl), (Nat.le_of_ble_eq_true rfl)⟩
  · have r2089 : p2010.toInt ≠ p2011.toInt := gC_ne hc2085
    refine G_iconst 1 dr_cX17_result_207 (by decide +kernel) ?_
    refine G_goto 212 dr_cX17_result_208 (by decide +kernel) ?_
    refine G_istore_n (L' := [(3, .int 1), (0, .int p2009), (1, .int p2010), (2, .int p2011)]) dr_cX17_result_212 (Nat.le_of_ble_eq_true rfl) rfl ?_
    refine G_iload_n 0 dr_cX17_result_213 rfl ?_
    refine G_i2l dr_cX17_result_214 (G_namL fun u2090 hu2090 => ?_)
    refine G_ldc2 4294967295 dr_cX17_result_215 wr_11_108 ?_
    refine G_land dr_cX17_result_218 (G_namL fun u2091 hu2091 => ?_)
    exact G_lretA dr_cX17_result_219 rfl (Nat.le_of_ble_eq_true rfl) (Nat.le_of_ble_eq_true rfl) ⟨u2091, rfl, rfl, (Nat.le_of_ble_eq_true rfl), (Nat.le_of_ble_eq_true rfl)⟩
