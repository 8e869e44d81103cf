theorem dr_cJx4a65c_init_da8c8_0 : decode cJx4a65c_init_da8c8 0 = .ok (.aload_n 0, 1) := by decide +kernel
theorem dr_cJx4a65c_init_da8c8_1 : decode cJx4a65c_init_da8c8 1 = .ok (.invokespecial 1, 3) := by decide +kernel
theorem wr_7_8 : (Jvm.Cond.methodLink "java/util/ArrayList" (1 : Nat) ({ cls := "java/util/AbstractList", name := "<init>", desc := "()V" } : Jvm.MethodName)) ∈ gw := gw_7 8 rfl rfl
theorem wr_1_17 : (Jvm.Cond.initialized "java/util/AbstractList") ∈ gw := gw_1 17 rfl rfl
theorem wr_7_10 : (Jvm.Cond.code ({ cls := "java/util/AbstractList", name := "<init>", desc := "()V" } : Jvm.MethodName) prog_42_method_1_code (1 : Nat) (Option.none : Option Jvm.ClassFile.FieldType)) ∈ gw := gw_7 10 rfl rfl
theorem wr_7_9 : (Jvm.Cond.instanceMethod ({ cls := "java/util/AbstractList", name := "<init>", desc := "()V" } : Jvm.MethodName)) ∈ gw := gw_7 9 rfl rfl
theorem dr_cJx4a65c_init_da8c8_4 : decode cJx4a65c_init_da8c8 4 = .ok (.aload_n 0, 1) := by decide +kernel
theorem dr_cJx4a65c_init_da8c8_5 : decode cJx4a65c_init_da8c8 5 = .ok (.getstatic 39, 3) := by decide +kernel
theorem dr_cJx4a65c_init_da8c8_8 : decode cJx4a65c_init_da8c8 8 = .ok (.putfield 9, 3) := by decide +kernel
theorem dr_cJx4a65c_init_da8c8_11 : decode cJx4a65c_init_da8c8 11 = .ok (.return_, 1) := by decide +kernel
theorem dr_cX15_sets_0 : decode cX15_sets 0 = .ok (.aload_n 0, 1) := by decide +kernel
theorem dr_cX15_sets_1 : decode cX15_sets 1 = .ok (.getfield 9, 3) := by decide +kernel
theorem wr_9_171 : (Jvm.Cond.fieldLink "SpillForgeModel$Row" (9 : Nat) "SpillForgeModel$Row" "op" "I") ∈ gw := gw_9 171 rfl rfl
theorem dr_cX15_sets_4 : decode cX15_sets 4 = .ok (.bipush 21, 2) := by decide +kernel
theorem dr_cX15_sets_6 : decode cX15_sets 6 = .ok (.if_icmp .gt 7, 3) := by decide +kernel
theorem dr_cX15_sets_13 : decode cX15_sets 13 = .ok (.iconst 0, 1) := by decide +kernel
theorem dr_cX15_sets_14 : decode cX15_sets 14 = .ok (.ireturn, 1) := by decide +kernel
theorem dr_cX15_sets_9 : decode cX15_sets 9 = .ok (.iconst 1, 1) := by decide +kernel
theorem dr_cX15_sets_10 : decode cX15_sets 10 = .ok (.goto 4, 3) := by decide +kernel
theorem dr_cX15_usesA_0 : decode cX15_usesA 0 = .ok (.aload_n 0, 1) := by decide +kernel
theorem dr_cX15_usesA_1 : decode cX15_usesA 1 = .ok (.getfield 9, 3) := by decide +kernel
theorem dr_cX15_usesA_4 : decode cX15_usesA 4 = .ok (.bipush 20, 2) := by decide +kernel
theorem dr_cX15_usesA_6 : decode cX15_usesA 6 = .ok (.if_icmp .eq 32, 3) := by decide +kernel
theorem dr_cX15_usesA_38 : decode cX15_usesA 38 = .ok (.iconst 0, 1) := by decide +kernel
theorem dr_cX15_usesA_39 : decode cX15_usesA 39 = .ok (.ireturn, 1) := by decide +kernel
theorem dr_cX15_usesA_9 : decode cX15_usesA 9 = .ok (.aload_n 0, 1) := by decide +kernel
theorem dr_cX15_usesA_10 : decode cX15_usesA 10 = .ok (.getfield 9, 3) := by decide +kernel
theorem dr_cX15_usesA_13 : decode cX15_usesA 13 = .ok (.bipush 21, 2) := by decide +kernel
theorem dr_cX15_usesA_15 : decode cX15_usesA 15 = .ok (.if_icmp .eq 23, 3) := by decide +kernel
theorem dr_cX15_usesA_18 : decode cX15_usesA 18 = .ok (.aload_n 0, 1) := by decide +kernel
theorem dr_cX15_usesA_19 : decode cX15_usesA 19 = .ok (.getfield 9, 3) := by decide +kernel
theorem dr_cX15_usesA_22 : decode cX15_usesA 22 = .ok (.bipush 30, 2) := by decide +kernel
theorem dr_cX15_usesA_24 : decode cX15_usesA 24 = .ok (.if_icmp .eq 14, 3) := by decide +kernel
theorem dr_cX15_usesA_27 : decode cX15_usesA 27 = .ok (.aload_n 0, 1) := by decide +kernel
theorem dr_cX15_usesA_28 : decode cX15_usesA 28 = .ok (.getfield 15, 3) := by decide +kernel
theorem wr_9_191 : (Jvm.Cond.fieldLink "SpillForgeModel$Row" (15 : Nat) "SpillForgeModel$Row" "regA" "Z") ∈ gw := gw_9 191 rfl rfl
theorem dr_cX15_usesA_31 : decode cX15_usesA 31 = .ok (.ifCond .eq 7, 3) := by decide +kernel
theorem dr_cX15_usesA_34 : decode cX15_usesA 34 = .ok (.iconst 1, 1) := by decide +kernel
theorem dr_cX15_usesA_35 : decode cX15_usesA 35 = .ok (.goto 4, 3) := by decide +kernel
theorem dr_cX15_usesB_0 : decode cX15_usesB 0 = .ok (.aload_n 0, 1) := by decide +kernel
theorem dr_cX15_usesB_1 : decode cX15_usesB 1 = .ok (.getfield 9, 3) := by decide +kernel
theorem dr_cX15_usesB_4 : decode cX15_usesB 4 = .ok (.ifCond .le 23, 3) := by decide +kernel
theorem dr_cX15_usesB_27 : decode cX15_usesB 27 = .ok (.iconst 0, 1) := by decide +kernel
theorem dr_cX15_usesB_28 : decode cX15_usesB 28 = .ok (.ireturn, 1) := by decide +kernel
theorem dr_cX15_usesB_7 : decode cX15_usesB 7 = .ok (.aload_n 0, 1) := by decide +kernel
theorem dr_cX15_usesB_8 : decode cX15_usesB 8 = .ok (.getfield 9, 3) := by decide +kernel
theorem dr_cX15_usesB_11 : decode cX15_usesB 11 = .ok (.bipush 20, 2) := by decide +kernel
theorem dr_cX15_usesB_13 : decode cX15_usesB 13 = .ok (.if_icmp .ge 14, 3) := by decide +kernel
theorem dr_cX15_usesB_16 : decode cX15_usesB 16 = .ok (.aload_n 0, 1) := by decide +kernel
theorem dr_cX15_usesB_17 : decode cX15_usesB 17 = .ok (.getfield 19, 3) := by decide +kernel
theorem wr_9_195 : (Jvm.Cond.fieldLink "SpillForgeModel$Row" (19 : Nat) "SpillForgeModel$Row" "regB" "Z") ∈ gw := gw_9 195 rfl rfl
theorem dr_cX15_usesB_20 : decode cX15_usesB 20 = .ok (.ifCond .eq 7, 3) := by decide +kernel
theorem dr_cX15_usesB_23 : decode cX15_usesB 23 = .ok (.iconst 1, 1) := by decide +kernel
theorem dr_cX15_usesB_24 : decode cX15_usesB 24 = .ok (.goto 4, 3) := by decide +kernel
theorem dr_cX15_put_0 : decode cX15_put 0 = .ok (.aload_n 0, 1) := by decide +kernel
theorem dr_cX15_put_1 : decode cX15_put 1 = .ok (.aload_n 1, 1) := by decide +kernel
theorem dr_cX15_put_2 : decode cX15_put 2 = .ok (.getfield 9, 3) := by decide +kernel
theorem dr_cX15_put_5 : decode cX15_put 5 = .ok (.putfield 9, 3) := by decide +kernel
theorem dr_cX15_put_8 : decode cX15_put 8 = .ok (.aload_n 0, 1) := by decide +kernel
theorem dr_cX15_put_9 : decode cX15_put 9 = .ok (.aload_n 1, 1) := by decide +kernel
theorem dr_cX15_put_10 : decode cX15_put 10 = .ok (.getfield 35, 3) := by decide +kernel
theorem wr_9_177 : (Jvm.Cond.fieldLink "SpillForgeModel$Row" (35 : Nat) "SpillForgeModel$Row" "t" "I") ∈ gw := gw_9 177 rfl rfl
theorem dr_cX15_put_13 : decode cX15_put 13 = .ok (.putfield 35, 3) := by decide +kernel
theorem dr_cX15_put_16 : decode cX15_put 16 = .ok (.aload_n 0, 1) := by decide +kernel
theorem dr_cX15_put_17 : decode cX15_put 17 = .ok (.aload_n 1, 1) := by decide +kernel
theorem dr_cX15_put_18 : decode cX15_put 18 = .ok (.getfield 26, 3) := by decide +kernel
theorem wr_9_181 : (Jvm.Cond.fieldLink "SpillForgeModel$Row" (26 : Nat) "SpillForgeModel$Row" "a" "I") ∈ gw := gw_9 181 rfl rfl
theorem dr_cX15_put_21 : decode cX15_put 21 = .ok (.putfield 26, 3) := by decide +kernel
theorem dr_cX15_put_24 : decode cX15_put 24 = .ok (.aload_n 0, 1) := by decide +kernel
theorem dr_cX15_put_25 : decode cX15_put 25 = .ok (.aload_n 1, 1) := by decide +kernel
theorem dr_cX15_put_26 : decode cX15_put 26 = .ok (.getfield 32, 3) := by decide +kernel
theorem wr_9_185 : (Jvm.Cond.fieldLink "SpillForgeModel$Row" (32 : Nat) "SpillForgeModel$Row" "b" "I") ∈ gw := gw_9 185 rfl rfl
theorem dr_cX15_put_29 : decode cX15_put 29 = .ok (.putfield 32, 3) := by decide +kernel
theorem dr_cX15_put_32 : decode cX15_put 32 = .ok (.aload_n 0, 1) := by decide +kernel
theorem dr_cX15_put_33 : decode cX15_put 33 = .ok (.aload_n 1, 1) := by decide +kernel
theorem dr_cX15_put_34 : decode cX15_put 34 = .ok (.getfield 15, 3) := by decide +kernel
theorem dr_cX15_put_37 : decode cX15_put 37 = .ok (.putfield 15, 3) := by decide +kernel
theorem dr_cX15_put_40 : decode cX15_put 40 = .ok (.aload_n 0, 1) := by decide +kernel
theorem dr_cX15_put_41 : decode cX15_put 41 = .ok (.aload_n 1, 1) := by decide +kernel
theorem dr_cX15_put_42 : decode cX15_put 42 = .ok (.getfield 19, 3) := by decide +kernel
theorem dr_cX15_put_45 : decode cX15_put 45 = .ok (.putfield 19, 3) := by decide +kernel
theorem dr_cX15_put_48 : decode cX15_put 48 = .ok (.aload_n 0, 1) := by decide +kernel
theorem dr_cX15_put_49 : decode cX15_put 49 = .ok (.aload_n 1, 1) := by decide +kernel
theorem dr_cX15_put_50 : decode cX15_put 50 = .ok (.getfield 38, 3) := by decide +kernel
theorem wr_9_190 : (Jvm.Cond.fieldLink "SpillForgeModel$Row" (38 : Nat) "SpillForgeModel$Row" "slot" "I") ∈ gw := gw_9 190 rfl rfl
theorem dr_cX15_put_53 : decode cX15_put 53 = .ok (.putfield 38, 3) := by decide +kernel
theorem dr_cX15_put_56 : decode cX15_put 56 = .ok (.return_, 1) := by decide +kernel
theorem dr_cX17_setOf_0 : decode cX17_setOf 0 = .ok (.iload_n 1, 1) := by decide +kernel
theorem dr_cX17_setOf_1 : decode cX17_setOf 1 = .ok (.ifCond .eq 23, 3) := by decide +kernel
theorem dr_cX17_setOf_24 : decode cX17_setOf 24 = .ok (.aload_n 0, 1) := by decide +kernel
theorem dr_cX17_setOf_25 : decode cX17_setOf 25 = .ok (.invokevirtual 48, 3) := by decide +kernel
theorem wr_10_177 : (Jvm.Cond.methodLink "SpillForgeModel" (48 : Nat) ({ cls := "SpillForgeModel$Row", name := "sets", desc := "()Z" } : Jvm.MethodName)) ∈ gw := gw_10 177 rfl rfl
theorem wr_1_39 : (Jvm.Cond.initialized "SpillForgeModel$Row") ∈ gw := gw_1 39 rfl rfl
theorem wr_10_180 : (Jvm.Cond.code ({ cls := "SpillForgeModel$Row", name := "sets", desc := "()Z" } : Jvm.MethodName) prog_18_method_2_code (1 : Nat) (Option.some Jvm.ClassFile.FieldType.boolean)) ∈ gw := gw_10 180 rfl rfl
theorem wr_10_178 : (Jvm.Cond.instanceMethod ({ cls := "SpillForgeModel$Row", name := "sets", desc := "()Z" } : Jvm.MethodName)) ∈ gw := gw_10 178 rfl rfl
theorem wr_10_179 : (Jvm.Cond.selects "SpillForgeModel$Row" ({ cls := "SpillForgeModel$Row", name := "sets", desc := "()Z" } : Jvm.MethodName) ({ cls := "SpillForgeModel$Row", name := "sets", desc := "()Z" } : Jvm.MethodName)) ∈ gw := gw_10 179 rfl rfl
theorem dr_cX17_setOf_28 : decode cX17_setOf 28 = .ok (.ifCond .eq 10, 3) := by decide +kernel
theorem dr_cX17_setOf_38 : decode cX17_setOf 38 = .ok (.iconst (-1), 1) := by decide +kernel
theorem dr_cX17_setOf_39 : decode cX17_setOf 39 = .ok (.ireturn, 1) := by decide +kernel
theorem dr_cX17_setOf_31 : decode cX17_setOf 31 = .ok (.aload_n 0, 1) := by decide +kernel
theorem dr_cX17_setOf_32 : decode cX17_setOf 32 = .ok (.getfield 52, 3) := by decide +kernel
theorem wr_9_178 : (Jvm.Cond.fieldLink "SpillForgeModel" (52 : Nat) "SpillForgeModel$Row" "t" "I") ∈ gw := gw_9 178 rfl rfl
theorem dr_cX17_setOf_35 : decode cX17_setOf 35 = .ok (.goto 4, 3) := by decide +kernel
theorem dr_cX17_setOf_4 : decode cX17_setOf 4 = .ok (.aload_n 0, 1) := by decide +kernel
theorem dr_cX17_setOf_5 : decode cX17_setOf 5 = .ok (.getfield 39, 3) := by decide +kernel
theorem wr_9_173 : (Jvm.Cond.fieldLink "SpillForgeModel" (39 : Nat) "SpillForgeModel$Row" "op" "I") ∈ gw := gw_9 173 rfl rfl
theorem dr_cX17_setOf_8 : decode cX17_setOf 8 = .ok (.bipush 23, 2) := by decide +kernel
theorem dr_cX17_setOf_10 : decode cX17_setOf 10 = .ok (.if_icmp .ne 10, 3) := by decide +kernel
theorem dr_cX17_setOf_20 : decode cX17_setOf 20 = .ok (.iconst (-1), 1) := by decide +kernel
theorem dr_cX17_setOf_21 : decode cX17_setOf 21 = .ok (.goto 18, 3) := by decide +kernel
theorem dr_cX17_setOf_13 : decode cX17_setOf 13 = .ok (.aload_n 0, 1) := by decide +kernel
theorem dr_cX17_setOf_14 : decode cX17_setOf 14 = .ok (.getfield 45, 3) := by decide +kernel
theorem wr_9_189 : (Jvm.Cond.fieldLink "SpillForgeModel" (45 : Nat) "SpillForgeModel$Row" "slot" "I") ∈ gw := gw_9 189 rfl rfl
theorem dr_cX17_setOf_17 : decode cX17_setOf 17 = .ok (.goto 22, 3) := by decide +kernel
theorem dr_cX12_ways_0 : decode cX12_ways 0 = .ok (.aload_n 0, 1) := by decide +kernel
theorem dr_cX12_ways_1 : decode cX12_ways 1 = .ok (.getfield 21, 3) := by decide +kernel
theorem wr_9_218 : (Jvm.Cond.fieldLink "SpillForgeModel$Block" (21 : Nat) "SpillForgeModel$Block" "end" "LSpillForgeModel$Row;") ∈ gw := gw_9 218 rfl rfl
theorem dr_cX12_ways_4 : decode cX12_ways 4 = .ok (.getfield 25, 3) := by decide +kernel
theorem wr_9_172 : (Jvm.Cond.fieldLink "SpillForgeModel$Block" (25 : Nat) "SpillForgeModel$Row" "op" "I") ∈ gw := gw_9 172 rfl rfl
theorem dr_cX12_ways_7 : decode cX12_ways 7 = .ok (.bipush 32, 2) := by decide +kernel
theorem dr_cX12_ways_9 : decode cX12_ways 9 = .ok (.if_icmp .ne 7, 3) := by decide +kernel
theorem dr_cX12_ways_16 : decode cX12_ways 16 = .ok (.aload_n 0, 1) := by decide +kernel
theorem dr_cX12_ways_17 : decode cX12_ways 17 = .ok (.getfield 21, 3) := by decide +kernel
theorem dr_cX12_ways_20 : decode cX12_ways 20 = .ok (.getfield 25, 3) := by decide +kernel
theorem dr_cX12_ways_23 : decode cX12_ways 23 = .ok (.bipush 30, 2) := by decide +kernel
theorem dr_cX12_ways_25 : decode cX12_ways 25 = .ok (.if_icmp .eq 14, 3) := by decide +kernel
theorem dr_cX12_ways_39 : decode cX12_ways 39 = .ok (.iconst 1, 1) := by decide +kernel
theorem dr_cX12_ways_40 : decode cX12_ways 40 = .ok (.goto 4, 3) := by decide +kernel
theorem dr_cX12_ways_44 : decode cX12_ways 44 = .ok (.ireturn, 1) := by decide +kernel
theorem dr_cX12_ways_28 : decode cX12_ways 28 = .ok (.aload_n 0, 1) := by decide +kernel
theorem dr_cX12_ways_29 : decode cX12_ways 29 = .ok (.getfield 29, 3) := by decide +kernel
theorem wr_9_222 : (Jvm.Cond.fieldLink "SpillForgeModel$Block" (29 : Nat) "SpillForgeModel$Block" "first" "I") ∈ gw := gw_9 222 rfl rfl
theorem dr_cX12_ways_32 : decode cX12_ways 32 = .ok (.aload_n 0, 1) := by decide +kernel
theorem dr_cX12_ways_33 : decode cX12_ways 33 = .ok (.getfield 32, 3) := by decide +kernel
theorem wr_9_226 : (Jvm.Cond.fieldLink "SpillForgeModel$Block" (32 : Nat) "SpillForgeModel$Block" "second" "I") ∈ gw := gw_9 226 rfl rfl
theorem dr_cX12_ways_36 : decode cX12_ways 36 = .ok (.if_icmp .ne 7, 3) := by decide +kernel
theorem dr_cX12_ways_43 : decode cX12_ways 43 = .ok (.iconst 2, 1) := by decide +kernel
theorem dr_cX12_ways_12 : decode cX12_ways 12 = .ok (.iconst 0, 1) := by decide +kernel
theorem dr_cX12_ways_13 : decode cX12_ways 13 = .ok (.goto 31, 3) := by decide +kernel
theorem dr_cX12_way_0 : decode cX12_way 0 = .ok (.iload_n 1, 1) := by decide +kernel
theorem dr_cX12_way_1 : decode cX12_way 1 = .ok (.ifCond .ne 10, 3) := by decide +kernel
theorem dr_cX12_way_11 : decode cX12_way 11 = .ok (.aload_n 0, 1) := by decide +kernel
theorem dr_cX12_way_12 : decode cX12_way 12 = .ok (.getfield 32, 3) := by decide +kernel
theorem dr_cX12_way_15 : decode cX12_way 15 = .ok (.ireturn, 1) := by decide +kernel
theorem dr_cX12_way_4 : decode cX12_way 4 = .ok (.aload_n 0, 1) := by decide +kernel
theorem dr_cX12_way_5 : decode cX12_way 5 = .ok (.getfield 29, 3) := by decide +kernel
theorem dr_cX12_way_8 : decode cX12_way 8 = .ok (.goto 7, 3) := by decide +kernel
theorem dr_cX17_has_0 : decode cX17_has 0 = .ok (.aload_n 0, 1) := by decide +kernel
theorem dr_cX17_has_1 : decode cX17_has 1 = .ok (.iload_n 1, 1) := by decide +kernel
theorem dr_cX17_has_2 : decode cX17_has 2 = .ok (.bipush 6, 2) := by decide +kernel
theorem dr_cX17_has_4 : decode cX17_has 4 = .ok (.ishr, 1) := by decide +kernel
theorem dr_cX17_has_5 : decode cX17_has 5 = .ok (.laload, 1) := by decide +kernel
theorem dr_cX17_has_6 : decode cX17_has 6 = .ok (.iload_n 1, 1) := by decide +kernel
theorem dr_cX17_has_7 : decode cX17_has 7 = .ok (.lushr, 1) := by decide +kernel
theorem dr_cX17_has_8 : decode cX17_has 8 = .ok (.lconst 1, 1) := by decide +kernel
theorem dr_cX17_has_9 : decode cX17_has 9 = .ok (.land, 1) := by decide +kernel
theorem dr_cX17_has_10 : decode cX17_has 10 = .ok (.lconst 0, 1) := by decide +kernel
theorem dr_cX17_has_11 : decode cX17_has 11 = .ok (.lcmp, 1) := by decide +kernel
theorem dr_cX17_has_12 : decode cX17_has 12 = .ok (.ifCond .eq 7, 3) := by decide +kernel
theorem dr_cX17_has_19 : decode cX17_has 19 = .ok (.iconst 0, 1) := by decide +kernel
theorem dr_cX17_has_20 : decode cX17_has 20 = .ok (.ireturn, 1) := by decide +kernel
theorem dr_cX17_has_15 : decode cX17_has 15 = .ok (.iconst 1, 1) := by decide +kernel
theorem dr_cX17_has_16 : decode cX17_has 16 = .ok (.goto 4, 3) := by decide +kernel
theorem dr_cX17_set_0 : decode cX17_set 0 = .ok (.aload_n 0, 1) := by decide +kernel
theorem dr_cX17_set_1 : decode cX17_set 1 = .ok (.iload_n 1, 1) := by decide +kernel
theorem dr_cX17_set_2 : decode cX17_set 2 = .ok (.bipush 6, 2) := by decide +kernel
theorem dr_cX17_set_4 : decode cX17_set 4 = .ok (.ishr, 1) := by decide +kernel
theorem dr_cX17_set_5 : decode cX17_set 5 = .ok (.dup2, 1) := by decide +kernel
theorem dr_cX17_set_6 : decode cX17_set 6 = .ok (.laload, 1) := by decide +kernel
theorem dr_cX17_set_7 : decode cX17_set 7 = .ok (.lconst 1, 1) := by decide +kernel
theorem dr_cX17_set_8 : decode cX17_set 8 = .ok (.iload_n 1, 1) := by decide +kernel
theorem dr_cX17_set_9 : decode cX17_set 9 = .ok (.lshl, 1) := by decide +kernel
theorem dr_cX17_set_10 : decode cX17_set 10 = .ok (.lor, 1) := by decide +kernel
theorem dr_cX17_set_11 : decode cX17_set 11 = .ok (.lastore, 1) := by decide +kernel
theorem dr_cX17_set_12 : decode cX17_set 12 = .ok (.return_, 1) := by decide +kernel
theorem dr_cX17_clear_0 : decode cX17_clear 0 = .ok (.aload_n 0, 1) := by decide +kernel
theorem dr_cX17_clear_1 : decode cX17_clear 1 = .ok (.iload_n 1, 1) := by decide +kernel
theorem dr_cX17_clear_2 : decode cX17_clear 2 = .ok (.bipush 6, 2) := by decide +kernel
theorem dr_cX17_clear_4 : decode cX17_clear 4 = .ok (.ishr, 1) := by decide +kernel
theorem dr_cX17_clear_5 : decode cX17_clear 5 = .ok (.dup2, 1) := by decide +kernel
theorem dr_cX17_clear_6 : decode cX17_clear 6 = .ok (.laload, 1) := by decide +kernel
theorem dr_cX17_clear_7 : decode cX17_clear 7 = .ok (.lconst 1, 1) := by decide +kernel
theorem dr_cX17_clear_8 : decode cX17_clear 8 = .ok (.iload_n 1, 1) := by decide +kernel
theorem dr_cX17_clear_9 : decode cX17_clear 9 = .ok (.lshl, 1) := by decide +kernel
theorem dr_cX17_clear_10 : decode cX17_clear 10 = .ok (.ldc2_w 31, 3) := by decide +kernel
theorem wr_10_184 : (Jvm.Cond.constantLong "SpillForgeModel" (31 : Nat) (-1 : Int64)) ∈ gw := gw_10 184 rfl rfl
theorem dr_cX17_clear_13 : decode cX17_clear 13 = .ok (.lxor, 1) := by decide +kernel
theorem dr_cX17_clear_14 : decode cX17_clear 14 = .ok (.land, 1) := by decide +kernel
theorem dr_cX17_clear_15 : decode cX17_clear 15 = .ok (.lastore, 1) := by decide +kernel
theorem dr_cX17_clear_16 : decode cX17_clear 16 = .ok (.return_, 1) := by decide +kernel
theorem dr_cJ13_bitCount_95d88_0 : decode cJ13_bitCount_95d88 0 = .ok (.lload_n 0, 1) := by decide +kernel
theorem dr_cJ13_bitCount_95d88_1 : decode cJ13_bitCount_95d88 1 = .ok (.lload_n 0, 1) := by decide +kernel
theorem dr_cJ13_bitCount_95d88_2 : decode cJ13_bitCount_95d88 2 = .ok (.iconst 1, 1) := by decide +kernel
theorem dr_cJ13_bitCount_95d88_3 : decode cJ13_bitCount_95d88 3 = .ok (.lushr, 1) := by decide +kernel
theorem dr_cJ13_bitCount_95d88_4 : decode cJ13_bitCount_95d88 4 = .ok (.ldc2_w 314, 3) := by decide +kernel
theorem wr_4_96 : (Jvm.Cond.constantLong "java/lang/Long" (314 : Nat) (6148914691236517205 : Int64)) ∈ gw := gw_4 96 rfl rfl
theorem dr_cJ13_bitCount_95d88_7 : decode cJ13_bitCount_95d88 7 = .ok (.land, 1) := by decide +kernel
theorem dr_cJ13_bitCount_95d88_8 : decode cJ13_bitCount_95d88 8 = .ok (.lsub, 1) := by decide +kernel
theorem dr_cJ13_bitCount_95d88_9 : decode cJ13_bitCount_95d88 9 = .ok (.lstore_n 0, 1) := by decide +kernel
theorem dr_cJ13_bitCount_95d88_10 : decode cJ13_bitCount_95d88 10 = .ok (.lload_n 0, 1) := by decide +kernel
theorem dr_cJ13_bitCount_95d88_11 : decode cJ13_bitCount_95d88 11 = .ok (.ldc2_w 316, 3) := by decide +kernel
theorem wr_4_97 : (Jvm.Cond.constantLong "java/lang/Long" (316 : Nat) (3689348814741910323 : Int64)) ∈ gw := gw_4 97 rfl rfl
theorem dr_cJ13_bitCount_95d88_14 : decode cJ13_bitCount_95d88 14 = .ok (.land, 1) := by decide +kernel
theorem dr_cJ13_bitCount_95d88_15 : decode cJ13_bitCount_95d88 15 = .ok (.lload_n 0, 1) := by decide +kernel
theorem dr_cJ13_bitCount_95d88_16 : decode cJ13_bitCount_95d88 16 = .ok (.iconst 2, 1) := by decide +kernel
theorem dr_cJ13_bitCount_95d88_17 : decode cJ13_bitCount_95d88 17 = .ok (.lushr, 1) := by decide +kernel
theorem dr_cJ13_bitCount_95d88_18 : decode cJ13_bitCount_95d88 18 = .ok (.ldc2_w 316, 3) := by decide +kernel
theorem dr_cJ13_bitCount_95d88_21 : decode cJ13_bitCount_95d88 21 = .ok (.land, 1) := by decide +kernel
theorem dr_cJ13_bitCount_95d88_22 : decode cJ13_bitCount_95d88 22 = .ok (.ladd, 1) := by decide +kernel
theorem dr_cJ13_bitCount_95d88_23 : decode cJ13_bitCount_95d88 23 = .ok (.lstore_n 0, 1) := by decide +kernel
theorem dr_cJ13_bitCount_95d88_24 : decode cJ13_bitCount_95d88 24 = .ok (.lload_n 0, 1) := by decide +kernel
theorem dr_cJ13_bitCount_95d88_25 : decode cJ13_bitCount_95d88 25 = .ok (.lload_n 0, 1) := by decide +kernel
theorem dr_cJ13_bitCount_95d88_26 : decode cJ13_bitCount_95d88 26 = .ok (.iconst 4, 1) := by decide +kernel
theorem dr_cJ13_bitCount_95d88_27 : decode cJ13_bitCount_95d88 27 = .ok (.lushr, 1) := by decide +kernel
theorem dr_cJ13_bitCount_95d88_28 : decode cJ13_bitCount_95d88 28 = .ok (.ladd, 1) := by decide +kernel
theorem dr_cJ13_bitCount_95d88_29 : decode cJ13_bitCount_95d88 29 = .ok (.ldc2_w 318, 3) := by decide +kernel
theorem wr_4_98 : (Jvm.Cond.constantLong "java/lang/Long" (318 : Nat) (1085102592571150095 : Int64)) ∈ gw := gw_4 98 rfl rfl
theorem dr_cJ13_bitCount_95d88_32 : decode cJ13_bitCount_95d88 32 = .ok (.land, 1) := by decide +kernel
theorem dr_cJ13_bitCount_95d88_33 : decode cJ13_bitCount_95d88 33 = .ok (.lstore_n 0, 1) := by decide +kernel
theorem dr_cJ13_bitCount_95d88_34 : decode cJ13_bitCount_95d88 34 = .ok (.lload_n 0, 1) := by decide +kernel
theorem dr_cJ13_bitCount_95d88_35 : decode cJ13_bitCount_95d88 35 = .ok (.lload_n 0, 1) := by decide +kernel
theorem dr_cJ13_bitCount_95d88_36 : decode cJ13_bitCount_95d88 36 = .ok (.bipush 8, 2) := by decide +kernel
theorem dr_cJ13_bitCount_95d88_38 : decode cJ13_bitCount_95d88 38 = .ok (.lushr, 1) := by decide +kernel
theorem dr_cJ13_bitCount_95d88_39 : decode cJ13_bitCount_95d88 39 = .ok (.ladd, 1) := by decide +kernel
theorem dr_cJ13_bitCount_95d88_40 : decode cJ13_bitCount_95d88 40 = .ok (.lstore_n 0, 1) := by decide +kernel
theorem dr_cJ13_bitCount_95d88_41 : decode cJ13_bitCount_95d88 41 = .ok (.lload_n 0, 1) := by decide +kernel
theorem dr_cJ13_bitCount_95d88_42 : decode cJ13_bitCount_95d88 42 = .ok (.lload_n 0, 1) := by decide +kernel
theorem dr_cJ13_bitCount_95d88_43 : decode cJ13_bitCount_95d88 43 = .ok (.bipush 16, 2) := by decide +kernel
theorem dr_cJ13_bitCount_95d88_45 : decode cJ13_bitCount_95d88 45 = .ok (.lushr, 1) := by decide +kernel
theorem dr_cJ13_bitCount_95d88_46 : decode cJ13_bitCount_95d88 46 = .ok (.ladd, 1) := by decide +kernel
theorem dr_cJ13_bitCount_95d88_47 : decode cJ13_bitCount_95d88 47 = .ok (.lstore_n 0, 1) := by decide +kernel
theorem dr_cJ13_bitCount_95d88_48 : decode cJ13_bitCount_95d88 48 = .ok (.lload_n 0, 1) := by decide +kernel
theorem dr_cJ13_bitCount_95d88_49 : decode cJ13_bitCount_95d88 49 = .ok (.lload_n 0, 1) := by decide +kernel
theorem dr_cJ13_bitCount_95d88_50 : decode cJ13_bitCount_95d88 50 = .ok (.bipush 32, 2) := by decide +kernel
theorem dr_cJ13_bitCount_95d88_52 : decode cJ13_bitCount_95d88 52 = .ok (.lushr, 1) := by decide +kernel
theorem dr_cJ13_bitCount_95d88_53 : decode cJ13_bitCount_95d88 53 = .ok (.ladd, 1) := by decide +kernel
theorem dr_cJ13_bitCount_95d88_54 : decode cJ13_bitCount_95d88 54 = .ok (.lstore_n 0, 1) := by decide +kernel
theorem dr_cJ13_bitCount_95d88_55 : decode cJ13_bitCount_95d88 55 = .ok (.lload_n 0, 1) := by decide +kernel
theorem dr_cJ13_bitCount_95d88_56 : decode cJ13_bitCount_95d88 56 = .ok (.l2i, 1) := by decide +kernel
theorem dr_cJ13_bitCount_95d88_57 : decode cJ13_bitCount_95d88 57 = .ok (.bipush 127, 2) := by decide +kernel
theorem dr_cJ13_bitCount_95d88_59 : decode cJ13_bitCount_95d88 59 = .ok (.iand, 1) := by decide +kernel
theorem dr_cJ13_bitCount_95d88_60 : decode cJ13_bitCount_95d88 60 = .ok (.ireturn, 1) := by decide +kernel
theorem dr_cX17_count_0 : decode cX17_count 0 = .ok (.iconst 0, 1) := by decide +kernel
theorem dr_cX17_count_1 : decode cX17_count 1 = .ok (.istore_n 1, 1) := by decide +kernel
theorem dr_cX17_count_2 : decode cX17_count 2 = .ok (.iconst 0, 1) := by decide +kernel
theorem dr_cX17_count_3 : decode cX17_count 3 = .ok (.istore_n 2, 1) := by decide +kernel
theorem dr_cX17_count_4 : decode cX17_count 4 = .ok (.iload_n 2, 1) := by decide +kernel
theorem dr_cX17_count_5 : decode cX17_count 5 = .ok (.aload_n 0, 1) := by decide +kernel
theorem dr_cX17_count_6 : decode cX17_count 6 = .ok (.arraylength, 1) := by decide +kernel
theorem dr_cX17_count_7 : decode cX17_count 7 = .ok (.if_icmp .ge 18, 3) := by decide +kernel
theorem dr_cX17_count_25 : decode cX17_count 25 = .ok (.iload_n 1, 1) := by decide +kernel
theorem dr_cX17_count_26 : decode cX17_count 26 = .ok (.ireturn, 1) := by decide +kernel
theorem dr_cX17_count_10 : decode cX17_count 10 = .ok (.iload_n 1, 1) := by decide +kernel
theorem dr_cX17_count_11 : decode cX17_count 11 = .ok (.aload_n 0, 1) := by decide +kernel
theorem dr_cX17_count_12 : decode cX17_count 12 = .ok (.iload_n 2, 1) := by decide +kernel
theorem dr_cX17_count_13 : decode cX17_count 13 = .ok (.laload, 1) := by decide +kernel
theorem dr_cX17_count_14 : decode cX17_count 14 = .ok (.invokestatic 33, 3) := by decide +kernel
theorem wr_11_15 : (Jvm.Cond.methodLink "SpillForgeModel" (33 : Nat) ({ cls := "java/lang/Long", name := "bitCount", desc := "(J)I" } : Jvm.MethodName)) ∈ gw := gw_11 15 rfl rfl
theorem wr_1_31 : (Jvm.Cond.initialized "java/lang/Long") ∈ gw := gw_1 31 rfl rfl
theorem wr_4_95 : (Jvm.Cond.code ({ cls := "java/lang/Long", name := "bitCount", desc := "(J)I" } : Jvm.MethodName) prog_31_method_50_code (2 : Nat) (Option.some Jvm.ClassFile.FieldType.int)) ∈ gw := gw_4 95 rfl rfl
theorem wr_4_94 : (Jvm.Cond.static ({ cls := "java/lang/Long", name := "bitCount", desc := "(J)I" } : Jvm.MethodName)) ∈ gw := gw_4 94 rfl rfl
theorem dr_cX17_count_17 : decode cX17_count 17 = .ok (.iadd, 1) := by decide +kernel
theorem dr_cX17_count_18 : decode cX17_count 18 = .ok (.istore_n 1, 1) := by decide +kernel
theorem dr_cX17_count_19 : decode cX17_count 19 = .ok (.iinc 2 1, 3) := by decide +kernel
theorem dr_cX17_count_22 : decode cX17_count 22 = .ok (.goto (-18), 3) := by decide +kernel
theorem dr_cX17_result_0 : decode cX17_result 0 = .ok (.iload_n 0, 1) := by decide +kernel
theorem dr_cX17_result_1 : decode cX17_result 1 = .ok (.tableswitch 201 1 13 #[67, 74, 81, 88, 103, 118, 125, 132, 139, 149, 159, 173, 187], 67) := by decide +kernel
theorem dr_cX17_result_68 : decode cX17_result 68 = .ok (.iload_n 1, 1) := by decide +kernel
theorem dr_cX17_result_69 : decode cX17_result 69 = .ok (.iload_n 2, 1) := by decide +kernel
theorem dr_cX17_result_70 : decode cX17_result 70 = .ok (.iadd, 1) := by decide +kernel
theorem dr_cX17_result_71 : decode cX17_result 71 = .ok (.istore_n 3, 1) := by decide +kernel
theorem dr_cX17_result_72 : decode cX17_result 72 = .ok (.goto 141, 3) := by decide +kernel
theorem dr_cX17_result_213 : decode cX17_result 213 = .ok (.iload_n 3, 1) := by decide +kernel
theorem dr_cX17_result_214 : decode cX17_result 214 = .ok (.i2l, 1) := by decide +kernel
theorem dr_cX17_result_215 : decode cX17_result 215 = .ok (.ldc2_w 269, 3) := by decide +kernel
theorem wr_11_104 : (Jvm.Cond.constantLong "SpillForgeModel" (269 : Nat) (4294967295 : Int64)) ∈ gw := gw_11 104 rfl rfl
theorem dr_cX17_result_218 : decode cX17_result 218 = .ok (.land, 1) := by decide +kernel
theorem dr_cX17_result_219 : decode cX17_result 219 = .ok (.lreturn, 1) := by decide +kernel
theorem dr_cX17_result_75 : decode cX17_result 75 = .ok (.iload_n 1, 1) := by decide +kernel
theorem dr_cX17_result_76 : decode cX17_result 76 = .ok (.iload_n 2, 1) := by decide +kernel
theorem dr_cX17_result_77 : decode cX17_result 77 = .ok (.isub, 1) := by decide +kernel
theorem dr_cX17_result_78 : decode cX17_result 78 = .ok (.istore_n 3, 1) := by decide +kernel
theorem dr_cX17_result_79 : decode cX17_result 79 = .ok (.goto 134, 3) := by decide +kernel
theorem dr_cX17_result_82 : decode cX17_result 82 = .ok (.iload_n 1, 1) := by decide +kernel
theorem dr_cX17_result_83 : decode cX17_result 83 = .ok (.iload_n 2, 1) := by decide +kernel
theorem dr_cX17_result_84 : decode cX17_result 84 = .ok (.imul, 1) := by decide +kernel
theorem dr_cX17_result_85 : decode cX17_result 85 = .ok (.istore_n 3, 1) := by decide +kernel
theorem dr_cX17_result_86 : decode cX17_result 86 = .ok (.goto 127, 3) := by decide +kernel
theorem dr_cX17_result_89 : decode cX17_result 89 = .ok (.iload_n 2, 1) := by decide +kernel
theorem dr_cX17_result_90 : decode cX17_result 90 = .ok (.ifCond .ne 7, 3) := by decide +kernel
theorem dr_cX17_result_97 : decode cX17_result 97 = .ok (.iload_n 1, 1) := by decide +kernel
theorem dr_cX17_result_98 : decode cX17_result 98 = .ok (.iload_n 2, 1) := by decide +kernel
theorem dr_cX17_result_99 : decode cX17_result 99 = .ok (.idiv, 1) := by decide +kernel
theorem dr_cX17_result_100 : decode cX17_result 100 = .ok (.istore_n 3, 1) := by decide +kernel
theorem dr_cX17_result_101 : decode cX17_result 101 = .ok (.goto 112, 3) := by decide +kernel
theorem dr_cX17_result_93 : decode cX17_result 93 = .ok (.ldc2_w 267, 3) := by decide +kernel
theorem wr_11_103 : (Jvm.Cond.constantLong "SpillForgeModel" (267 : Nat) (4294967296 : Int64)) ∈ gw := gw_11 103 rfl rfl
theorem dr_cX17_result_96 : decode cX17_result 96 = .ok (.lreturn, 1) := by decide +kernel
theorem dr_cX17_result_104 : decode cX17_result 104 = .ok (.iload_n 2, 1) := by decide +kernel
theorem dr_cX17_result_105 : decode cX17_result 105 = .ok (.ifCond .ne 7, 3) := by decide +kernel
theorem dr_cX17_result_112 : decode cX17_result 112 = .ok (.iload_n 1, 1) := by decide +kernel
theorem dr_cX17_result_113 : decode cX17_result 113 = .ok (.iload_n 2, 1) := by decide +kernel
theorem dr_cX17_result_114 : decode cX17_result 114 = .ok (.irem, 1) := by decide +kernel
theorem dr_cX17_result_115 : decode cX17_result 115 = .ok (.istore_n 3, 1) := by decide +kernel
theorem dr_cX17_result_116 : decode cX17_result 116 = .ok (.goto 97, 3) := by decide +kernel
theorem dr_cX17_result_108 : decode cX17_result 108 = .ok (.ldc2_w 267, 3) := by decide +kernel
theorem dr_cX17_result_111 : decode cX17_result 111 = .ok (.lreturn, 1) := by decide +kernel
theorem dr_cX17_result_119 : decode cX17_result 119 = .ok (.iload_n 1, 1) := by decide +kernel
theorem dr_cX17_result_120 : decode cX17_result 120 = .ok (.iload_n 2, 1) := by decide +kernel
theorem dr_cX17_result_121 : decode cX17_result 121 = .ok (.iand, 1) := by decide +kernel
theorem dr_cX17_result_122 : decode cX17_result 122 = .ok (.istore_n 3, 1) := by decide +kernel
theorem dr_cX17_result_123 : decode cX17_result 123 = .ok (.goto 90, 3) := by decide +kernel
theorem dr_cX17_result_126 : decode cX17_result 126 = .ok (.iload_n 1, 1) := by decide +kernel
theorem dr_cX17_result_127 : decode cX17_result 127 = .ok (.iload_n 2, 1) := by decide +kernel
theorem dr_cX17_result_128 : decode cX17_result 128 = .ok (.ior, 1) := by decide +kernel
theorem dr_cX17_result_129 : decode cX17_result 129 = .ok (.istore_n 3, 1) := by decide +kernel
theorem dr_cX17_result_130 : decode cX17_result 130 = .ok (.goto 83, 3) := by decide +kernel
theorem dr_cX17_result_133 : decode cX17_result 133 = .ok (.iload_n 1, 1) := by decide +kernel
theorem dr_cX17_result_134 : decode cX17_result 134 = .ok (.iload_n 2, 1) := by decide +kernel
theorem dr_cX17_result_135 : decode cX17_result 135 = .ok (.ixor, 1) := by decide +kernel
theorem dr_cX17_result_136 : decode cX17_result 136 = .ok (.istore_n 3, 1) := by decide +kernel
theorem dr_cX17_result_137 : decode cX17_result 137 = .ok (.goto 76, 3) := by decide +kernel
theorem dr_cX17_result_140 : decode cX17_result 140 = .ok (.iload_n 1, 1) := by decide +kernel
theorem dr_cX17_result_141 : decode cX17_result 141 = .ok (.iload_n 2, 1) := by decide +kernel
theorem dr_cX17_result_142 : decode cX17_result 142 = .ok (.bipush 31, 2) := by decide +kernel
theorem dr_cX17_result_144 : decode cX17_result 144 = .ok (.iand, 1) := by decide +kernel
theorem dr_cX17_result_145 : decode cX17_result 145 = .ok (.ishl, 1) := by decide +kernel
theorem dr_cX17_result_146 : decode cX17_result 146 = .ok (.istore_n 3, 1) := by decide +kernel
theorem dr_cX17_result_147 : decode cX17_result 147 = .ok (.goto 66, 3) := by decide +kernel
theorem dr_cX17_result_150 : decode cX17_result 150 = .ok (.iload_n 1, 1) := by decide +kernel
theorem dr_cX17_result_151 : decode cX17_result 151 = .ok (.iload_n 2, 1) := by decide +kernel
theorem dr_cX17_result_152 : decode cX17_result 152 = .ok (.bipush 31, 2) := by decide +kernel
theorem dr_cX17_result_154 : decode cX17_result 154 = .ok (.iand, 1) := by decide +kernel
theorem dr_cX17_result_155 : decode cX17_result 155 = .ok (.ishr, 1) := by decide +kernel
theorem dr_cX17_result_156 : decode cX17_result 156 = .ok (.istore_n 3, 1) := by decide +kernel
theorem dr_cX17_result_157 : decode cX17_result 157 = .ok (.goto 56, 3) := by decide +kernel
theorem dr_cX17_result_160 : decode cX17_result 160 = .ok (.iload_n 1, 1) := by decide +kernel
theorem dr_cX17_result_161 : decode cX17_result 161 = .ok (.iload_n 2, 1) := by decide +kernel
theorem dr_cX17_result_162 : decode cX17_result 162 = .ok (.if_icmp .ge 7, 3) := by decide +kernel
theorem dr_cX17_result_169 : decode cX17_result 169 = .ok (.iconst 0, 1) := by decide +kernel
theorem dr_cX17_result_170 : decode cX17_result 170 = .ok (.istore_n 3, 1) := by decide +kernel
theorem dr_cX17_result_171 : decode cX17_result 171 = .ok (.goto 42, 3) := by decide +kernel
theorem dr_cX17_result_165 : decode cX17_result 165 = .ok (.iconst 1, 1) := by decide +kernel
theorem dr_cX17_result_166 : decode cX17_result 166 = .ok (.goto 4, 3) := by decide +kernel
theorem dr_cX17_result_174 : decode cX17_result 174 = .ok (.iload_n 1, 1) := by decide +kernel
theorem dr_cX17_result_175 : decode cX17_result 175 = .ok (.iload_n 2, 1) := by decide +kernel
theorem dr_cX17_result_176 : decode cX17_result 176 = .ok (.if_icmp .gt 7, 3) := by decide +kernel
theorem dr_cX17_result_183 : decode cX17_result 183 = .ok (.iconst 0, 1) := by decide +kernel
theorem dr_cX17_result_184 : decode cX17_result 184 = .ok (.istore_n 3, 1) := by decide +kernel
theorem dr_cX17_result_185 : decode cX17_result 185 = .ok (.goto 28, 3) := by decide +kernel
theorem dr_cX17_result_179 : decode cX17_result 179 = .ok (.iconst 1, 1) := by decide +kernel
theorem dr_cX17_result_180 : decode cX17_result 180 = .ok (.goto 4, 3) := by decide +kernel
theorem dr_cX17_result_188 : decode cX17_result 188 = .ok (.iload_n 1, 1) := by decide +kernel
theorem dr_cX17_result_189 : decode cX17_result 189 = .ok (.iload_n 2, 1) := by decide +kernel
theorem dr_cX17_result_190 : decode cX17_result 190 = .ok (.if_icmp .ne 7, 3) := by decide +kernel
theorem dr_cX17_result_197 : decode cX17_result 197 = .ok (.iconst 0, 1) := by decide +kernel
theorem dr_cX17_result_198 : decode cX17_result 198 = .ok (.istore_n 3, 1) := by decide +kernel
theorem dr_cX17_result_199 : decode cX17_result 199 = .ok (.goto 14, 3) := by decide +kernel
theorem dr_cX17_result_193 : decode cX17_result 193 = .ok (.iconst 1, 1) := by decide +kernel
theorem dr_cX17_result_194 : decode cX17_result 194 = .ok (.goto 4, 3) := by decide +kernel
theorem dr_cX17_result_202 : decode cX17_result 202 = .ok (.iload_n 1, 1) := by decide +kernel
theorem dr_cX17_result_203 : decode cX17_result 203 = .ok (.iload_n 2, 1) := by decide +kernel
theorem dr_cX17_result_204 : decode cX17_result 204 = .ok (.if_icmp .eq 7, 3) := by decide +kernel
theorem dr_cX17_result_211 : decode cX17_result 211 = .ok (.iconst 0, 1) := by decide +kernel
theorem dr_cX17_result_212 : decode cX17_result 212 = .ok (.istore_n 3, 1) := by decide +kernel
theorem dr_cX17_result_207 : decode cX17_result 207 = .ok (.iconst 1, 1) := by decide +kernel
theorem dr_cX17_result_208 : decode cX17_result 208 = .ok (.goto 4, 3) := by decide +kernel
abbrev ky_1600_ArrayList_init : gKey := (cJx4a65c_init_da8c8, 1, "java/util/ArrayList", none, [], "<init>", fun _ _ => True)
def pp_1600_ArrayList_init (D : va_G) (I : FieldType → ClassId) (P1595 : List Nat) (F1596 : Nat → va_E) (q1597 : Nat) (p1598 : Int32) (p1599 : Int32) : Option Value → va_W → Nat → Nat → Prop := fun r w dc ds => ∃ (F1643 : Nat → va_E), r = none ∧ w = va_pl P1595 F1643 ∧ rFr [q1597] P1595 F1596 F1643 ∧ F1643 q1597 = .inr (4, [.int 0, .ref (D.2 1002 1), .int p1599]) ∧ dc ≤ 0 ∧ ds ≤ 0
set_option maxRecDepth 100000 in
set_option maxHeartbeats 4000000 in
theorem cp_1600_ArrayList_init (l : Launch) (hl0 : l.stackTraces = false) (D : va_G) (I : FieldType → ClassId) (P1595 : List Nat) (F1596 : Nat → va_E) (q1597 : Nat) (p1598 : Int32) (p1599 : Int32) (hmq1597 : q1597 ∈ P1595) (heq1597 : F1596 q1597 = .inr (4, [.int p1598, .null, .int p1599])) : CtA (gV D I) l yJx4a65c_init_da8c8 cJx4a65c_init_da8c8 1 none 3 52 0 0 [.ref q1597] (va_pl P1595 F1596) (pp_1600_ArrayList_init D I P1595 F1596 q1597 p1598 p1599) gNA := by
  refine CtA_ofF hl0 (by decide +kernel) (Nat.le_of_ble_eq_true rfl) ?_
  have bp1598 := gB_any p1598
  have bp1599 := gB_any p1599
  refine G_aload_n 0 dr_cJx4a65c_init_da8c8_0 rfl ?_
  refine Gw_callI (As := []) (gV_ok D I) (cp_1606_AbstractList_init l hl0 D I P1595 F1596 q1597 p1598 p1599 hmq1597 heq1597) dr_cJx4a65c_init_da8c8_1 ⟨wr_7_8, wr_1_17, wr_7_10, by decide, rfl, (Nat.le_of_ble_eq_true rfl), (Nat.le_of_ble_eq_true rfl)⟩ wr_7_9 rfl (show 0 + 0 ≤ 0 by first | omega | decide) (show 0 + 0 ≤ 0 by first | omega | decide) (Nat.le_of_ble_eq_true rfl) (fun r1628 w1629 dc1625 ds1626 hp1627 => ?_)
  obtain ⟨F1630, rfl, rfl, hfr1632, he1633, hdc, hds⟩ := hp1627
  have hfr1634 : rFr [q1597] P1595 F1596 F1630 := rFr_call (rSub_rf (P := P1595)) (rFr_rf (W := []) (P := P1595) (F := F1596)) hfr1632 (fun b hb hn => ⟨nm_n, (nm_c (fun e => hn (e ▸ List.mem_cons_self)) nm_n)⟩)
  change G _ _ _ _ _ _ _ _ _ _ _
  refine G_widen (cs' := 0) (sl' := 0) (by omega) (by omega) ?_
  refine G_aload_n 0 dr_cJx4a65c_init_da8c8_4 rfl ?_
  refine G_gets dr_cJx4a65c_init_da8c8_5 wr_7_15 gr_de (fun x1636 hx1635 => ?_)
  subst hx1635
  refine Gp_put 1 hmq1597 he1633 dr_cJx4a65c_init_da8c8_8 (gk_Jx4a65c D I) (Nat.le_of_ble_eq_true rfl) wr_7_17 rfl rfl rfl (Nat.le_of_ble_eq_true rfl) (fun F1637 e1638 n1639 => ?_)
  have he1640 : F1637 q1597 = .inr (4, [.int 0, .ref (D.2 1002 1), .int p1599]) := e1638
  have hfr1641 : rFr [q1597] P1595 F1596 F1637 := rFr_put' List.mem_cons_self hfr1634 n1639
  exact G_vretA dr_cJx4a65c_init_da8c8_11 rfl (Nat.le_of_ble_eq_true rfl) (Nat.le_of_ble_eq_true rfl) ⟨F1637, rfl, rfl, hfr1641, he1640, (Nat.le_of_ble_eq_true rfl), (Nat.le_of_ble_eq_true rfl)⟩
abbrev ky_1654_Row_sets : gKey := (cX15_sets, 1, "SpillForgeModel$Row", (some FieldType.boolean), [], "sets", fun _ _ => True)
def pp_1654_Row_sets (D : va_G) (I : FieldType → ClassId) (P1644 : List Nat) (F1645 : Nat → va_E) (q1646 : Nat) (p1647 : Int32) (p1648 : Int32) (p1649 : Int32) (p1650 : Int32) (p1651 : Int32) (p1652 : Int32) (p1653 : Int32) : Option Value → va_W → Nat → Nat → Prop := fun r w dc ds => ∃ (o1658 : Int32), r = some (.int o1658) ∧ w = va_pl P1644 F1645 ∧ dc ≤ 0 ∧ ds ≤ 0 ∧ gB o1658 0 1
set_option maxRecDepth 100000 in
set_option maxHeartbeats 4000000 in
theorem cp_1654_Row_sets (l : Launch) (hl0 : l.stackTraces = false) (D : va_G) (I : FieldType → ClassId) (P1644 : List Nat) (F1645 : Nat → va_E) (q1646 : Nat) (p1647 : Int32) (p1648 : Int32) (p1649 : Int32) (p1650 : Int32) (p1651 : Int32) (p1652 : Int32) (p1653 : Int32) (hmq1646 : q1646 ∈ P1644) (heq1646 : F1645 q1646 = .inr (20, [.int p1647, .int p1648, .int p1649, .int p1650, .int p1651, .int p1652, .int p1653])) (bp1647 : gB p1647 0 32) (bp1648 : gB p1648 0 1999) (bp1651 : gB p1651 0 1999) (bp1652 : gB p1652 0 1) (bp1653 : gB p1653 0 1) : CtA (gV D I) l yX15_sets cX15_sets 1 (some FieldType.boolean) 0 0 0 0 [.ref q1646] (va_pl P1644 F1645) (pp_1654_Row_sets D I P1644 F1645 q1646 p1647 p1648 p1649 p1650 p1651 p1652 p1653) gNA := by
  refine CtA_of hl0 (by decide) (Nat.le_of_ble_eq_true rfl) ?_
  have bp1649 := gB_any p1649
  have bp1650 := gB_any p1650
  refine G_aload_n 0 dr_cX15_sets_0 rfl ?_
  refine Gp_get 0 hmq1646 heq1646 dr_cX15_sets_1 (gk_X15 D I) (Nat.le_of_ble_eq_true rfl) wr_9_171 rfl ?_
  refine G_bipush 21 dr_cX15_sets_4 (by decide +kernel) ?_
  refine G_icmp_gt 13 dr_cX15_sets_6 (by decide +kernel) (fun hc1655 => ?_) (fun hc1655 => ?_)
  · have r1656 : 21 < p1647.toInt := gj_ltL hc1655 (show Int32.toInt 21 = 21 by decide)
    have bp1647' : gB p1647 22 32 := ⟨by omega, by omega⟩
    refine G_iconst 0 dr_cX15_sets_13 (by decide +kernel) ?_
    exact G_zretA FieldType.boolean dr_cX15_sets_14 rfl rfl (Nat.le_of_ble_eq_true rfl) (Nat.le_of_ble_eq_true rfl) ⟨0, rfl, rfl, (Nat.le_of_ble_eq_true rfl), (Nat.le_of_ble_eq_true rfl), (gB_w (gBl (show Int32.toInt 0 = 0 by decide)) (by decide) (by decide))⟩
  · have r1657 : p1647.toInt ≤ 21 := gj_nltL hc1655 (show Int32.toInt 21 = 21 by decide)
    have bp1647' : gB p1647 0 21 := ⟨by omega, by omega⟩
    refine G_iconst 1 dr_cX15_sets_9 (by decide +kernel) ?_
    refine G_goto 14 dr_cX15_sets_10 (by decide +kernel) ?_
    exact G_zretA FieldType.boolean dr_cX15_sets_14 rfl rfl (Nat.le_of_ble_eq_true rfl) (Nat.le_of_ble_eq_true rfl) ⟨1, rfl, rfl, (Nat.le_of_ble_eq_true rfl), (Nat.le_of_ble_eq_true rfl), (gB_w (gBl (show Int32.toInt 1 = 1 by decide)) (by decide) (by decide))⟩
abbrev ky_1669_Row_usesA : gKey := (cX15_usesA, 1, "SpillForgeModel$Row", (some FieldType.boolean), [], "usesA", fun _ _ => True)
def pp_1669_Row_usesA (D : va_G) (I : FieldType → ClassId) (P1659 : List Nat) (F1660 : Nat → va_E) (q1661 : Nat) (p1662 : Int32) (p1663 : Int32) (p1664 : Int32) (p1665 : Int32) (p1666 : Int32) (p1667 : Int32) (p1668 : Int32) : Option Value → va_W → Nat → Nat → Prop := fun r w dc ds => ∃ (o1682 : Int32), r = some (.int o1682) ∧ w = va_pl P1659 F1660 ∧ dc ≤ 0 ∧ ds ≤ 0 ∧ gB o1682 0 1 ∧ (o1682.toInt = 0 ∨ p1667.toInt = 1)
set_option maxRecDepth 100000 in
set_option maxHeartbeats 4000000 in
theorem cp_1669_Row_usesA (l : Launch) (hl0 : l.stackTraces = false) (D : va_G) (I : FieldType → ClassId) (P1659 : List Nat) (F1660 : Nat → va_E) (q1661 : Nat) (p1662 : Int32) (p1663 : Int32) (p1664 : Int32) (p1665 : Int32) (p1666 : Int32) (p1667 : Int32) (p1668 : Int32) (hmq1661 : q1661 ∈ P1659) (heq1661 : F1660 q1661 = .inr (20, [.int p1662, .int p1663, .int p1664, .int p1665, .int p1666, .int p1667, .int p1668])) (bp1662 : gB p1662 0 32) (bp1663 : gB p1663 0 1999) (bp1666 : gB p1666 0 1999) (bp1667 : gB p1667 0 1) (bp1668 : gB p1668 0 1) : CtA (gV D I) l yX15_usesA cX15_usesA 1 (some FieldType.boolean) 0 0 0 0 [.ref q1661] (va_pl P1659 F1660) (pp_1669_Row_usesA D I P1659 F1660 q1661 p1662 p1663 p1664 p1665 p1666 p1667 p1668) gNA := by
  refine CtA_of hl0 (by decide) (Nat.le_of_ble_eq_true rfl) ?_
  have bp1664 := gB_any p1664
  have bp1665 := gB_any p1665
  refine G_aload_n 0 dr_cX15_usesA_0 rfl ?_
  refine Gp_get 0 hmq1661 heq1661 dr_cX15_usesA_1 (gk_X15 D I) (Nat.le_of_ble_eq_true rfl) wr_9_171 rfl ?_
  refine G_bipush 20 dr_cX15_usesA_4 (by decide +kernel) ?_
  refine G_icmp_eq 38 dr_cX15_usesA_6 (by decide +kernel) (fun hc1670 => ?_) (fun hc1670 => ?_)
  · have r1671 : p1662.toInt = 20 := gj_eq hc1670 (show Int32.toInt 20 = 20 by decide)
    have bp1662' : gB p1662 20 20 := ⟨by omega, by omega⟩
    refine G_iconst 0 dr_cX15_usesA_38 (by decide +kernel) ?_
    exact G_zretA FieldType.boolean dr_cX15_usesA_39 rfl rfl (Nat.le_of_ble_eq_true rfl) (Nat.le_of_ble_eq_true rfl) ⟨0, rfl, rfl, (Nat.le_of_ble_eq_true rfl), (Nat.le_of_ble_eq_true rfl), (gB_w (gBl (show Int32.toInt 0 = 0 by decide)) (by decide) (by decide)), (by have qa0 : Int32.toInt 0 = 0 := (by decide); omega)⟩
  · have r1672 : p1662.toInt ≠ 20 := gj_neq hc1670 (show Int32.toInt 20 = 20 by decide)
    refine G_aload_n 0 dr_cX15_usesA_9 rfl ?_
    refine Gp_get 0 hmq1661 heq1661 dr_cX15_usesA_10 (gk_X15 D I) (Nat.le_of_ble_eq_true rfl) wr_9_171 rfl ?_
    refine G_bipush 21 dr_cX15_usesA_13 (by decide +kernel) ?_
    refine G_icmp_eq 38 dr_cX15_usesA_15 (by decide +kernel) (fun hc1673 => ?_) (fun hc1673 => ?_)
    · have r1674 : p1662.toInt = 21 := gj_eq hc1673 (show Int32.toInt 21 = 21 by decide)
      have bp1662' : gB p1662 21 21 := ⟨by omega, by omega⟩
      refine G_iconst 0 dr_cX15_usesA_38 (by decide +kernel) ?_
      exact G_zretA FieldType.boolean dr_cX15_usesA_39 rfl rfl (Nat.le_of_ble_eq_true rfl) (Nat.le_of_ble_eq_true rfl) ⟨0, rfl, rfl, (Nat.le_of_ble_eq_true rfl), (Nat.le_of_ble_eq_true rfl), (gB_w (gBl (show Int32.toInt 0 = 0 by decide)) (by decide) (by decide)), (by have qa0 : Int32.toInt 0 = 0 := (by decide); omega)⟩
    · have r1675 : p1662.toInt ≠ 21 := gj_neq hc1673 (show Int32.toInt 21 = 21 by decide)
      refine G_aload_n 0 dr_cX15_usesA_18 rfl ?_
      refine Gp_get 0 hmq1661 heq1661 dr_cX15_usesA_19 (gk_X15 D I) (Nat.le_of_ble_eq_true rfl) wr_9_171 rfl ?_
      refine G_bipush 30 dr_cX15_usesA_22 (by decide +kernel) ?_
      refine G_icmp_eq 38 dr_cX15_usesA_24 (by decide +kernel) (fun hc1676 => ?_) (fun hc1676 => ?_)
      · have r1677 : p1662.toInt = 30 := gj_eq hc1676 (show Int32.toInt 30 = 30 by decide)
        have bp1662' : gB p1662 30 30 := ⟨by omega, by omega⟩
        refine G_iconst 0 dr_cX15_usesA_38 (by decide +kernel) ?_
        exact G_zretA FieldType.boolean dr_cX15_usesA_39 rfl rfl (Nat.le_of_ble_eq_true rfl) (Nat.le_of_ble_eq_true rfl) ⟨0, rfl, rfl, (Nat.le_of_ble_eq_true rfl), (Nat.le_of_ble_eq_true rfl), (gB_w (gBl (show Int32.toInt 0 = 0 by decide)) (by decide) (by decide)), (by have qa0 : Int32.toInt 0 = 0 := (by decide); omega)⟩
      · have r1678 : p1662.toInt ≠ 30 := gj_neq hc1676 (show Int32.toInt 30 = 30 by decide)
        refine G_aload_n 0 dr_cX15_usesA_27 rfl ?_
        refine Gp_get 5 hmq1661 heq1661 dr_cX15_usesA_28 (gk_X15 D I) (Nat.le_of_ble_eq_true rfl) wr_9_191 rfl ?_
        refine G_if_eq 38 dr_cX15_usesA_31 (by decide +kernel) (fun hc1679 => ?_) (fun hc1679 => ?_)
        · have r1680 : p1667.toInt = 0 := gj_eq hc1679 (show Int32.toInt 0 = 0 by decide)
          have bp1667' : gB p1667 0 0 := ⟨by omega, by omega⟩
          refine G_iconst 0 dr_cX15_usesA_38 (by decide +kernel) ?_
          exact G_zretA FieldType.boolean dr_cX15_usesA_39 rfl rfl (Nat.le_of_ble_eq_true rfl) (Nat.le_of_ble_eq_true rfl) ⟨0, rfl, rfl, (Nat.le_of_ble_eq_true rfl), (Nat.le_of_ble_eq_true rfl), (gB_w (gBl (show Int32.toInt 0 = 0 by decide)) (by decide) (by decide)), (by have qa0 : Int32.toInt 0 = 0 := (by decide); omega)⟩
        · have r1681 : p1667.toInt ≠ 0 := gj_neq hc1679 (show Int32.toInt 0 = 0 by decide)
          have bp1667' : gB p1667 1 1 := ⟨by omega, by omega⟩
          refine G_iconst 1 dr_cX15_usesA_34 (by decide +kernel) ?_
          refine G_goto 39 dr_cX15_usesA_35 (by decide +kernel) ?_
          exact G_zretA FieldType.boolean dr_cX15_usesA_39 rfl rfl (Nat.le_of_ble_eq_true rfl) (Nat.le_of_ble_eq_true rfl) ⟨1, rfl, rfl, (Nat.le_of_ble_eq_true rfl), (Nat.le_of_ble_eq_true rfl), (gB_w (gBl (show Int32.toInt 1 = 1 by decide)) (by decide) (by decide)), (by have qa0 : Int32.toInt 1 = 1 := (by decide); omega)⟩
abbrev ky_1693_Row_usesB : gKey := (cX15_usesB, 1, "SpillForgeModel$Row", (some FieldType.boolean), [], "usesB", fun _ _ => True)
def pp_1693_Row_usesB (D : va_G) (I : FieldType → ClassId) (P1683 : List Nat) (F1684 : Nat → va_E) (q1685 : Nat) (p1686 : Int32) (p1687 : Int32) (p1688 : Int32) (p1689 : Int32) (p1690 : Int32) (p1691 : Int32) (p1692 : Int32) : Option Value → va_W → Nat → Nat → Prop := fun r w dc ds => ∃ (o1703 : Int32), r = some (.int o1703) ∧ w = va_pl P1683 F1684 ∧ dc ≤ 0 ∧ ds ≤ 0 ∧ gB o1703 0 1 ∧ (o1703.toInt = 0 ∨ p1692.toInt = 1)
set_option maxRecDepth 100000 in
set_option maxHeartbeats 4000000 in
theorem cp_1693_Row_usesB (l : Launch) (hl0 : l.stackTraces = false) (D : va_G) (I : FieldType → ClassId) (P1683 : List Nat) (F1684 : Nat → va_E) (q1685 : Nat) (p1686 : Int32) (p1687 : Int32) (p1688 : Int32) (p1689 : Int32) (p1690 : Int32) (p1691 : Int32) (p1692 : Int32) (hmq1685 : q1685 ∈ P1683) (heq1685 : F1684 q1685 = .inr (20, [.int p1686, .int p1687, .int p1688, .int p1689, .int p1690, .int p1691, .int p1692])) (bp1686 : gB p1686 0 32) (bp1687 : gB p1687 0 1999) (bp1690 : gB p1690 0 1999) (bp1691 : gB p1691 0 1) (bp1692 : gB p1692 0 1) : CtA (gV D I) l yX15_usesB cX15_usesB 1 (some FieldType.boolean) 0 0 0 0 [.ref q1685] (va_pl P1683 F1684) (pp_1693_Row_usesB D I P1683 F1684 q1685 p1686 p1687 p1688 p1689 p1690 p1691 p1692) gNA := by
  refine CtA_of hl0 (by decide) (Nat.le_of_ble_eq_true rfl) ?_
  have bp1688 := gB_any p1688
  have bp1689 := gB_any p1689
  refine G_aload_n 0 dr_cX15_usesB_0 rfl ?_
  refine Gp_get 0 hmq1685 heq1685 dr_cX15_usesB_1 (gk_X15 D I) (Nat.le_of_ble_eq_true rfl) wr_9_171 rfl ?_
  refine G_if_le 27 dr_cX15_usesB_4 (by decide +kernel) (fun hc1694 => ?_) (fun hc1694 => ?_)
  · have r1695 : p1686.toInt ≤ 0 := gj_le hc1694 (show Int32.toInt 0 = 0 by decide)
    have bp1686' : gB p1686 0 0 := ⟨by omega, by omega⟩
    refine G_iconst 0 dr_cX15_usesB_27 (by decide +kernel) ?_
    exact G_zretA FieldType.boolean dr_cX15_usesB_28 rfl rfl (Nat.le_of_ble_eq_true rfl) (Nat.le_of_ble_eq_true rfl) ⟨0, rfl, rfl, (Nat.le_of_ble_eq_true rfl), (Nat.le_of_ble_eq_true rfl), (gB_w (gBl (show Int32.toInt 0 = 0 by decide)) (by decide) (by decide)), (by have qa0 : Int32.toInt 0 = 0 := (by decide); omega)⟩
  · have r1696 : 0 < p1686.toInt := gj_nle hc1694 (show Int32.toInt 0 = 0 by decide)
    have bp1686' : gB p1686 1 32 := ⟨by omega, by omega⟩
    refine G_aload_n 0 dr_cX15_usesB_7 rfl ?_
    refine Gp_get 0 hmq1685 heq1685 dr_cX15_usesB_8 (gk_X15 D I) (Nat.le_of_ble_eq_true rfl) wr_9_171 rfl ?_
    refine G_bipush 20 dr_cX15_usesB_11 (by decide +kernel) ?_
    refine G_icmp_ge 27 dr_cX15_usesB_13 (by decide +kernel) (fun hc1697 => ?_) (fun hc1697 => ?_)
    · have r1698 : 20 ≤ p1686.toInt := gj_leL hc1697 (show Int32.toInt 20 = 20 by decide)
      have bp1686'' : gB p1686 20 32 := ⟨by omega, by omega⟩
      refine G_iconst 0 dr_cX15_usesB_27 (by decide +kernel) ?_
      exact G_zretA FieldType.boolean dr_cX15_usesB_28 rfl rfl (Nat.le_of_ble_eq_true rfl) (Nat.le_of_ble_eq_true rfl) ⟨0, rfl, rfl, (Nat.le_of_ble_eq_true rfl), (Nat.le_of_ble_eq_true rfl), (gB_w (gBl (show Int32.toInt 0 = 0 by decide)) (by decide) (by decide)), (by have qa0 : Int32.toInt 0 = 0 := (by decide); omega)⟩
    · have r1699 : p1686.toInt < 20 := gj_nleL hc1697 (show Int32.toInt 20 = 20 by decide)
      have bp1686'' : gB p1686 1 19 := ⟨by omega, by omega⟩
      refine G_aload_n 0 dr_cX15_usesB_16 rfl ?_
      refine Gp_get 6 hmq1685 heq1685 dr_cX15_usesB_17 (gk_X15 D I) (Nat.le_of_ble_eq_true rfl) wr_9_195 rfl ?_
      refine G_if_eq 27 dr_cX15_usesB_20 (by decide +kernel) (fun hc1700 => ?_) (fun hc1700 => ?_)
      · have r1701 : p1692.toInt = 0 := gj_eq hc1700 (show Int32.toInt 0 = 0 by decide)
        have bp1692' : gB p1692 0 0 := ⟨by omega, by omega⟩
        refine G_iconst 0 dr_cX15_usesB_27 (by decide +kernel) ?_
        exact G_zretA FieldType.boolean dr_cX15_usesB_28 rfl rfl (Nat.le_of_ble_eq_true rfl) (Nat.le_of_ble_eq_true rfl) ⟨0, rfl, rfl, (Nat.le_of_ble_eq_true rfl), (Nat.le_of_ble_eq_true rfl), (gB_w (gBl (show Int32.toInt 0 = 0 by decide)) (by decide) (by decide)), (by have qa0 : Int32.toInt 0 = 0 := (by decide); omega)⟩
      · have r1702 : p1692.toInt ≠ 0 := gj_neq hc1700 (show Int32.toInt 0 = 0 by decide)
        have bp1692' : gB p1692 1 1 := ⟨by omega, by omega⟩
        refine G_iconst 1 dr_cX15_usesB_23 (by decide +kernel) ?_
        refine G_goto 28 dr_cX15_usesB_24 (by decide +kernel) ?_
        exact G_zretA FieldType.boolean dr_cX15_usesB_28 rfl rfl (Nat.le_of_ble_eq_true rfl) (Nat.le_of_ble_eq_true rfl) ⟨1, rfl, rfl, (Nat.le_of_ble_eq_true rfl), (Nat.le_of_ble_eq_true rfl), (gB_w (gBl (show Int32.toInt 1 = 1 by decide)) (by decide) (by decide)), (by have qa0 : Int32.toInt 1 = 1 := (by decide); omega)⟩
abbrev ky_1722_Row_put : gKey := (cX15_put, 2, "SpillForgeModel$Row", none, [], "put", fun _ _ => True)
def pp_1722_Row_put (D : va_G) (I : FieldType → ClassId) (P1704 : List Nat) (F1705 : Nat → va_E) (q1706 : Nat) (q1707 : Nat) (p1708 : Int32) (p1709 : Int32) (p1710 : Int32) (p1711 : Int32) (p1712 : Int32) (p1713 : Int32) (p1714 : Int32) (p1715 : Int32) (p1716 : Int32) (p1717 : Int32) (p1718 : Int32) (p1719 : Int32) (p1720 : Int32) (p1721 : Int32) : Option Value → va_W → Nat → Nat → Prop := fun r w dc ds => ∃ (F1766 : Nat → va_E), r = none ∧ w = va_pl P1704 F1766 ∧ rFr [q1706] P1704 F1705 F1766 ∧ F1766 q1706 = .inr (20, [.int p1715, .int p1716, .int p1717, .int p1718, .int p1719, .int p1720, .int p1721]) ∧ F1766 q1707 = .inr (20, [.int p1715, .int p1716, .int p1717, .int p1718, .int p1719, .int p1720, .int p1721]) ∧ dc ≤ 0 ∧ ds ≤ 0
set_option maxRecDepth 100000 in
set_option maxHeartbeats 4000000 in
theorem cp_1722_Row_put (l : Launch) (hl0 : l.stackTraces = false) (D : va_G) (I : FieldType → ClassId) (P1704 : List Nat) (F1705 : Nat → va_E) (q1706 : Nat) (q1707 : Nat) (p1708 : Int32) (p1709 : Int32) (p1710 : Int32) (p1711 : Int32) (p1712 : Int32) (p1713 : Int32) (p1714 : Int32) (p1715 : Int32) (p1716 : Int32) (p1717 : Int32) (p1718 : Int32) (p1719 : Int32) (p1720 : Int32) (p1721 : Int32) (hmq1706 : q1706 ∈ P1704) (hmq1707 : q1707 ∈ P1704) (heq1706 : F1705 q1706 = .inr (20, [.int p1708, .int p1709, .int p1710, .int p1711, .int p1712, .int p1713, .int p1714])) (heq1707 : F1705 q1707 = .inr (20, [.int p1715, .int p1716, .int p1717, .int p1718, .int p1719, .int p1720, .int p1721])) (hneq1706q1707 : q1706 ≠ q1707) (bp1708 : gB p1708 0 32) (bp1709 : gB p1709 0 1999) (bp1712 : gB p1712 0 1999) (bp1713 : gB p1713 0 1) (bp1714 : gB p1714 0 1) (bp1715 : gB p1715 0 32) (bp1716 : gB p1716 0 1999) (bp1719 : gB p1719 0 1999) (bp1720 : gB p1720 0 1) (bp1721 : gB p1721 0 1) : CtA (gV D I) l yX15_put cX15_put 2 none 0 0 0 0 [.ref q1706, .ref q1707] (va_pl P1704 F1705) (pp_1722_Row_put D I P1704 F1705 q1706 q1707 p1708 p1709 p1710 p1711 p1712 p1713 p1714 p1715 p1716 p1717 p1718 p1719 p1720 p1721) gNA := by
  refine CtA_of hl0 (by decide) (Nat.le_of_ble_eq_true rfl) ?_
  have bp1710 := gB_any p1710
  have bp1711 := gB_any p1711
  have bp1717 := gB_any p1717
  have bp1718 := gB_any p1718
  refine G_aload_n 0 dr_cX15_put_0 rfl ?_
  refine G_aload_n 1 dr_cX15_put_1 rfl ?_
  refine Gp_get 0 hmq1707 heq1707 dr_cX15_put_2 (gk_X15 D I) (Nat.le_of_ble_eq_true rfl) wr_9_171 rfl ?_
  refine Gp_put 0 hmq1706 heq1706 dr_cX15_put_5 (gk_X15 D I) (Nat.le_of_ble_eq_true rfl) wr_9_171 rfl rfl rfl (Nat.le_of_ble_eq_true rfl) (fun F1723 e1724 n1725 => ?_)
  have he1726 : F1723 q1707 = .inr (20, [.int p1715, .int p1716, .int p1717, .int p1718, .int p1719, .int p1720, .int p1721]) := (n1725 q1707 (Ne.symm hneq1706q1707)).trans heq1707
  have he1727 : F1723 q1706 = .inr (20, [.int p1715, .int p1709, .int p1710, .int p1711, .int p1712, .int p1713, .int p1714]) := e1724
  have hfr1728 : rFr [q1706] P1704 F1705 F1723 := rFr_put (rFr_rf (W := []) (P := P1704) (F := F1705)) n1725
  refine G_aload_n 0 dr_cX15_put_8 rfl ?_
  refine G_aload_n 1 dr_cX15_put_9 rfl ?_
  refine Gp_get 1 hmq1707 he1726 dr_cX15_put_10 (gk_X15 D I) (Nat.le_of_ble_eq_true rfl) wr_9_177 rfl ?_
  refine Gp_put 1 hmq1706 he1727 dr_cX15_put_13 (gk_X15 D I) (Nat.le_of_ble_eq_true rfl) wr_9_177 rfl rfl rfl (Nat.le_of_ble_eq_true rfl) (fun F1729 e1730 n1731 => ?_)
  have he1732 : F1729 q1707 = .inr (20, [.int p1715, .int p1716, .int p1717, .int p1718, .int p1719, .int p1720, .int p1721]) := (n1731 q1707 (Ne.symm hneq1706q1707)).trans he1726
  have he1733 : F1729 q1706 = .inr (20, [.int p1715, .int p1716, .int p1710, .int p1711, .int p1712, .int p1713, .int p1714]) := e1730
  have hfr1734 : rFr [q1706] P1704 F1705 F1729 := rFr_put' List.mem_cons_self hfr1728 n1731
  refine G_aload_n 0 dr_cX15_put_16 rfl ?_
  refine G_aload_n 1 dr_cX15_put_17 rfl ?_
  refine Gp_get 2 hmq1707 he1732 dr_cX15_put_18 (gk_X15 D I) (Nat.le_of_ble_eq_true rfl) wr_9_181 rfl ?_
  refine Gp_put 2 hmq1706 he1733 dr_cX15_put_21 (gk_X15 D I) (Nat.le_of_ble_eq_true rfl) wr_9_181 rfl rfl rfl (Nat.le_of_ble_eq_true rfl) (fun F1735 e1736 n1737 => ?_)
  have he1738 : F1735 q1707 = .inr (20, [.int p1715, .int p1716, .int p1717, .int p1718, .int p1719, .int p1720, .int p1721]) := (n1737 q1707 (Ne.symm hneq1706q1707)).trans he1732
  have he1739 : F1735 q1706 = .inr (20, [.int p1715, .int p1716, .int p1717, .int p1711, .int p1712, .int p1713, .int p1714]) := e1736
  have hfr1740 : rFr [q1706] P1704 F1705 F1735 := rFr_put' List.mem_cons_self hfr1734 n1737
  refine G_aload_n 0 dr_cX15_put_24 rfl ?_
  refine G_aload_n 1 dr_cX15_put_25 rfl ?_
  refine Gp_get 3 hmq1707 he1738 dr_cX15_put_26 (gk_X15 D I) (Nat.le_of_ble_eq_true rfl) wr_9_185 rfl ?_
  refine Gp_put 3 hmq1706 he1739 dr_cX15_put_29 (gk_X15 D I) (Nat.le_of_ble_eq_true rfl) wr_9_185 rfl rfl rfl (Nat.le_of_ble_eq_true rfl) (fun F1741 e1742 n1743 => ?_)
  have he1744 : F1741 q1707 = .inr (20, [.int p1715, .int p1716, .int p1717, .int p1718, .int p1719, .int p1720, .int p1721]) := (n1743 q1707 (Ne.symm hneq1706q1707)).trans he1738
  have he1745 : F1741 q1706 = .inr (20, [.int p1715, .int p1716, .int p1717, .int p1718, .int p1712, .int p1713, .int p1714]) := e1742
  have hfr1746 : rFr [q1706] P1704 F1705 F1741 := rFr_put' List.mem_cons_self hfr1740 n1743
  refine G_aload_n 0 dr_cX15_put_32 rfl ?_
  refine G_aload_n 1 dr_cX15_put_33 rfl ?_
  refine Gp_get 5 hmq1707 he1744 dr_cX15_put_34 (gk_X15 D I) (Nat.le_of_ble_eq_true rfl) wr_9_191 rfl ?_
  refine Gp_put 5 hmq1706 he1745 dr_cX15_put_37 (gk_X15 D I) (Nat.le_of_ble_eq_true rfl) wr_9_191 rfl (gN_bool bp1720) (gT_bool bp1720) (Nat.le_of_ble_eq_true rfl) (fun F1747 e1748 n1749 => ?_)
  have he1750 : F1747 q1707 = .inr (20, [.int p1715, .int p1716, .int p1717, .int p1718, .int p1719, .int p1720, .int p1721]) := (n1749 q1707 (Ne.symm hneq1706q1707)).trans he1744
  have he1751 : F1747 q1706 = .inr (20, [.int p1715, .int p1716, .int p1717, .int p1718, .int p1712, .int p1720, .int p1714]) := e1748
  have hfr1752 : rFr [q1706] P1704 F1705 F1747 := rFr_put' List.mem_cons_self hfr1746 n1749
  refine G_aload_n 0 dr_cX15_put_40 rfl ?_
  refine G_aload_n 1 dr_cX15_put_41 rfl ?_
  refine Gp_get 6 hmq1707 he1750 dr_cX15_put_42 (gk_X15 D I) (Nat.le_of_ble_eq_true rfl) wr_9_195 rfl ?_
  refine Gp_put 6 hmq1706 he1751 dr_cX15_put_45 (gk_X15 D I) (Nat.le_of_ble_eq_true rfl) wr_9_195 rfl (gN_bool bp1721) (gT_bool bp1721) (Nat.le_of_ble_eq_true rfl) (fun F1753 e1754 n1755 => ?_)
  have he1756 : F1753 q1707 = .inr (20, [.int p1715, .int p1716, .int p1717, .int p1718, .int p1719, .int p1720, .int p1721]) := (n1755 q1707 (Ne.symm hneq1706q1707)).trans he1750
  have he1757 : F1753 q1706 = .inr (20, [.int p1715, .int p1716, .int p1717, .int p1718, .int p1712, .int p1720, .int p1721]) := e1754
  have hfr1758 : rFr [q1706] P1704 F1705 F1753 := rFr_put' List.mem_cons_self hfr1752 n1755
  refine G_aload_n 0 dr_cX15_put_48 rfl ?_
  refine G_aload_n 1 dr_cX15_put_49 rfl ?_
  refine Gp_get 4 hmq1707 he1756 dr_cX15_put_50 (gk_X15 D I) (Nat.le_of_ble_eq_true rfl) wr_9_190 rfl ?_
  refine Gp_put 4 hmq1706 he1757 dr_cX15_put_53 (gk_X15 D I) (Nat.le_of_ble_eq_true rfl) wr_9_190 rfl rfl rfl (Nat.le_of_ble_eq_true rfl) (fun F1759 e1760 n1761 => ?_)
  have he1762 : F1759 q1707 = .inr (20, [.int p1715, .int p1716, .int p1717, .int p1718, .int p1719, .int p1720, .int p1721]) := (n1761 q1707 (Ne.symm hneq1706q1707)).trans he1756
  have he1763 : F1759 q1706 = .inr (20, [.int p1715, .int p1716, .int p1717, .int p1718, .int p1719, .int p1720, .int p1721]) := e1760
  have hfr1764 : rFr [q1706] P1704 F1705 F1759 := rFr_put' List.mem_cons_self hfr1758 n1761
  exact G_vretA dr_cX15_put_56 rfl (Nat.le_of_ble_eq_true rfl) (Nat.le_of_ble_eq_true rfl) ⟨F1759, rfl, rfl, hfr1764, he1763, he1762, (Nat.le_of_ble_eq_true rfl), (Nat.le_of_ble_eq_true rfl)⟩
abbrev ky_1778_SpillForgeModel_setOf : gKey := (cX17_setOf, 2, "SpillForgeModel", (some FieldType.int), [], "setOf", fun _ _ => True)
def pp_1778_SpillForgeModel_setOf (D : va_G) (I : FieldType → ClassId) (P1767 : List Nat) (F1768 : Nat → va_E) (q1769 : Nat) (p1770 : Int32) (p1771 : Int32) (p1772 : Int32) (p1773 : Int32) (p1774 : Int32) (p1775 : Int32) (p1776 : Int32) (p1777 : Int32) : Option Value → va_W → Nat → Nat → Prop := fun r w dc ds => ∃ (o1794 : Int32), r = some (.int o1794) ∧ w = va_pl P1767 F1768 ∧ dc ≤ 0 ∧ ds ≤ 0 ∧ gB o1794 (-1) 1999
set_option maxRecDepth 100000 in
set_option maxHeartbeats 4000000 in
theorem cp_1778_SpillForgeModel_setOf (l : Launch) (hl0 : l.stackTraces = false) (D : va_G) (I : FieldType → ClassId) (P1767 : List Nat) (F1768 : Nat → va_E) (q1769 : Nat) (p1770 : Int32) (p1771 : Int32) (p1772 : Int32) (p1773 : Int32) (p1774 : Int32) (p1775 : Int32) (p1776 : Int32) (p1777 : Int32) (hmq1769 : q1769 ∈ P1767) (heq1769 : F1768 q1769 = .inr (20, [.int p1771, .int p1772, .int p1773, .int p1774, .int p1775, .int p1776, .int p1777])) (bp1770 : gB p1770 0 1) (bp1771 : gB p1771 0 32) (bp1772 : gB p1772 0 1999) (bp1775 : gB p1775 0 1999) (bp1776 : gB p1776 0 1) (bp1777 : gB p1777 0 1) : CtA (gV D I) l yX17_setOf cX17_setOf 2 (some FieldType.int) 1 20 0 0 [.ref q1769, .int p1770] (va_pl P1767 F1768) (pp_1778_SpillForgeModel_setOf D I P1767 F1768 q1769 p1770 p1771 p1772 p1773 p1774 p1775 p1776 p1777) gNA := by
  refine CtA_of hl0 (by decide) (Nat.le_of_ble_eq_true rfl) ?_
  have bp1773 := gB_any p1773
  have bp1774 := gB_any p1774
  refine G_iload_n 1 dr_cX17_setOf_0 rfl ?_
  refine G_if_eq 24 dr_cX17_setOf_1 (by decide +kernel) (fun hc1779 => ?_) (fun hc1779 => ?_)
  · have r1780 : p1770.toInt = 0 := gj_eq hc1779 (show Int32.toInt 0 = 0 by decide)
    have bp1770' : gB p1770 0 0 := ⟨by omega, by omega⟩
    refine G_aload_n 0 dr_cX17_setOf_24 rfl ?_
    refine Gw_callV (As := []) (gV_ok D I) (cp_1654_Row_sets l hl0 D I P1767 F1768 q1769 p1771 p1772 p1773 p1774 p1775 p1776 p1777 hmq1769 heq1769 bp1771 bp1772 bp1775 bp1776 bp1777) dr_cX17_setOf_25 ⟨wr_10_177, wr_1_39, wr_10_180, by decide, rfl, (Nat.le_of_ble_eq_true rfl), (Nat.le_of_ble_eq_true rfl)⟩ wr_10_178 wr_10_179 hmq1769 heq1769 rfl (show 0 + 0 ≤ 0 by first | omega | decide) (show 0 + 0 ≤ 0 by first | omega | decide) (Nat.le_of_ble_eq_true rfl) (fun r1784 w1785 dc1781 ds1782 hp1783 => ?_) (fun _ _ _ _ _ z => z.elim)
    obtain ⟨o1786, rfl, rfl, hdc, hds, bo1786⟩ := hp1783
    change G _ _ _ _ _ _ _ (.int o1786 :: _) _ _ _
    refine G_widen (cs' := 0) (sl' := 0) (by omega) (by omega) ?_
    refine G_if_eq 38 dr_cX17_setOf_28 (by decide +kernel) (fun hc1787 => ?_) (fun hc1787 => ?_)
    · have r1788 : o1786.toInt = 0 := gj_eq hc1787 (show Int32.toInt 0 = 0 by decide)
      have bo1786' : gB o1786 0 0 := ⟨by omega, by omega⟩
      refine G_iconst (-1) dr_cX17_setOf_38 (by decide +kernel) ?_
      exact G_iretA dr_cX17_setOf_39 rfl (Nat.le_of_ble_eq_true rfl) (Nat.le_of_ble_eq_true rfl) ⟨(-1), rfl, rfl, (Nat.le_of_ble_eq_true rfl), (Nat.le_of_ble_eq_true rfl), (gB_w (gBl (show Int32.toInt (-1) = (-1) by decide)) (by decide) (by decide))⟩
    · have r1789 : o1786.toInt ≠ 0 := gj_neq hc1787 (show Int32.toInt 0 = 0 by decide)
      have bo1786' : gB o1786 1 1 := ⟨by omega, by omega⟩
      refine G_aload_n 0 dr_cX17_setOf_31 rfl ?_
      refine Gp_get 1 hmq1769 heq1769 dr_cX17_setOf_32 (gk_X15 D I) (Nat.le_of_ble_eq_true rfl) wr_9_178 rfl ?_
      refine G_goto 39 dr_cX17_setOf_35 (by decide +kernel) ?_
      exact G_iretA dr_cX17_setOf_39 rfl (Nat.le_of_ble_eq_true rfl) (Nat.le_of_ble_eq_true rfl) ⟨p1772, rfl, rfl, (Nat.le_of_ble_eq_true rfl), (Nat.le_of_ble_eq_true rfl), (gB_w bp1772 (by decide) (by decide))⟩
  · have r1790 : p1770.toInt ≠ 0 := gj_neq hc1779 (show Int32.toInt 0 = 0 by decide)
    have bp1770' : gB p1770 1 1 := ⟨by omega, by omega⟩
    refine G_aload_n 0 dr_cX17_setOf_4 rfl ?_
    refine Gp_get 0 hmq1769 heq1769 dr_cX17_setOf_5 (gk_X15 D I) (Nat.le_of_ble_eq_true rfl) wr_9_173 rfl ?_
    refine G_bipush 23 dr_cX17_setOf_8 (by decide +kernel) ?_
    refine G_icmp_ne 20 dr_cX17_setOf_10 (by decide +kernel) (fun hc1791 => ?_) (fun hc1791 => ?_)
    · have r1792 : p1771.toInt ≠ 23 := gj_neq hc1791 (show Int32.toInt 23 = 23 by decide)
      refine G_iconst (-1) dr_cX17_setOf_20 (by decide +kernel) ?_
      refine G_goto 39 dr_cX17_setOf_21 (by decide +kernel) ?_
      exact G_iretA dr_cX17_setOf_39 rfl (Nat.le_of_ble_eq_true rfl) (Nat.le_of_ble_eq_true rfl) ⟨(-1), rfl, rfl, (Nat.le_of_ble_eq_true rfl), (Nat.le_of_ble_eq_true rfl), (gB_w (gBl (show Int32.toInt (-1) = (-1) by decide)) (by decide) (by decide))⟩
    · have r1793 : p1771.toInt = 23 := gj_eq hc1791 (show Int32.toInt 23 = 23 by decide)
      have bp1771' : gB p1771 23 23 := ⟨by omega, by omega⟩
      refine G_aload_n 0 dr_cX17_setOf_13 rfl ?_
      refine Gp_get 4 hmq1769 heq1769 dr_cX17_setOf_14 (gk_X15 D I) (Nat.le_of_ble_eq_true rfl) wr_9_189 rfl ?_
      refine G_goto 39 dr_cX17_setOf_17 (by decide +kernel) ?_
      exact G_iretA dr_cX17_setOf_39 rfl (Nat.le_of_ble_eq_true rfl) (Nat.le_of_ble_eq_true rfl) ⟨p1775, rfl, rfl, (Nat.le_of_ble_eq_true rfl), (Nat.le_of_ble_eq_true rfl), (gB_w bp1775 (by decide) (by decide))⟩
abbrev ky_1809_Block_ways : gKey := (cX12_ways, 1, "SpillForgeModel$Block", (some FieldType.int), [], "ways", fun _ _ => True)
def pp_1809_Block_ways (D : va_G) (I : FieldType → ClassId) (P1795 : List Nat) (F1796 : Nat → va_E) (q1797 : Nat) (q1798 : Nat) (qo1799 : Nat) (p1800 : Int32) (p1801 : Int32) (p1802 : Int32) (p1803 : Int32) (p1804 : Int32) (p1805 : Int32) (p1806 : Int32) (p1807 : Int32) (p1808 : Int32) : Option Value → va_W → Nat → Nat → Prop := fun r w dc ds => ∃ (o1819 : Int32), r = some (.int o1819) ∧ w = va_pl P1795 F1796 ∧ dc ≤ 0 ∧ ds ≤ 0 ∧ gB o1819 0 2
set_option maxRecDepth 100000 in
set_option maxHeartbeats 4000000 in
theorem cp_1809_Block_ways (l : Launch) (hl0 : l.stackTraces = false) (D : va_G) (I : FieldType → ClassId) (P1795 : List Nat) (F1796 : Nat → va_E) (q1797 : Nat) (q1798 : Nat) (qo1799 : Nat) (p1800 : Int32) (p1801 : Int32) (p1802 : Int32) (p1803 : Int32) (p1804 : Int32) (p1805 : Int32) (p1806 : Int32) (p1807 : Int32) (p1808 : Int32) (hmq1797 : q1797 ∈ P1795) (hmq1798 : q1798 ∈ P1795) (heq1797 : F1796 q1797 = .inr (17, [.ref qo1799, .ref q1798, .int p1800, .int p1801])) (heq1798 : F1796 q1798 = .inr (20, [.int p1802, .int p1803, .int p1804, .int p1805, .int p1806, .int p1807, .int p1808])) (bp1800 : gB p1800 0 39) (bp1801 : gB p1801 0 39) (bp1802 : gB p1802 0 32) (bp1803 : gB p1803 0 1999) (bp1806 : gB p1806 0 1999) (bp1807 : gB p1807 0 1) (bp1808 : gB p1808 0 1) : CtA (gV D I) l yX12_ways cX12_ways 1 (some FieldType.int) 0 0 0 0 [.ref q1797] (va_pl P1795 F1796) (pp_1809_Block_ways D I P1795 F1796 q1797 q1798 qo1799 p1800 p1801 p1802 p1803 p1804 p1805 p1806 p1807 p1808) gNA := by
  refine CtA_of hl0 (by decide) (Nat.le_of_ble_eq_true rfl) ?_
  have bp1804 := gB_any p1804
  have bp1805 := gB_any p1805
  refine G_aload_n 0 dr_cX12_ways_0 rfl ?_
  refine Gp_get 1 hmq1797 heq1797 dr_cX12_ways_1 (gk_X12 D I) (Nat.le_of_ble_eq_true rfl) wr_9_218 rfl ?_
  refine Gp_get 0 hmq1798 heq1798 dr_cX12_ways_4 (gk_X15 D I) (Nat.le_of_ble_eq_true rfl) wr_9_172 rfl ?_
  refine G_bipush 32 dr_cX12_ways_7 (by decide +kernel) ?_
  refine G_icmp_ne 16 dr_cX12_ways_9 (by decide +kernel) (fun hc1810 => ?_) (fun hc1810 => ?_)
  · have r1811 : p1802.toInt ≠ 32 := gj_neq hc1810 (show Int32.toInt 32 = 32 by decide)
    have bp1802' : gB p1802 0 31 := ⟨by omega, by omega⟩
    refine G_aload_n 0 dr_cX12_ways_16 rfl ?_
    refine Gp_get 1 hmq1797 heq1797 dr_cX12_ways_17 (gk_X12 D I) (Nat.le_of_ble_eq_true rfl) wr_9_218 rfl ?_
    refine Gp_get 0 hmq1798 heq1798 dr_cX12_ways_20 (gk_X15 D I) (Nat.le_of_ble_eq_true rfl) wr_9_172 rfl ?_
    refine G_bipush 30 dr_cX12_ways_23 (by decide +kernel) ?_
    refine G_icmp_eq 39 dr_cX12_ways_25 (by decide +kernel) (fun hc1812 => ?_) (fun hc1812 => ?_)
    · have r1813 : p1802.toInt = 30 := gj_eq hc1812 (show Int32.toInt 30 = 30 by decide)
      have bp1802'' : gB p1802 30 30 := ⟨by omega, by omega⟩
      refine G_iconst 1 dr_cX12_ways_39 (by decide +kernel) ?_
      refine G_goto 44 dr_cX12_ways_40 (by decide +kernel) ?_
      exact G_iretA dr_cX12_ways_44 rfl (Nat.le_of_ble_eq_true rfl) (Nat.le_of_ble_eq_true rfl) ⟨1, rfl, rfl, (Nat.le_of_ble_eq_true rfl), (Nat.le_of_ble_eq_true rfl), (gB_w (gBl (show Int32.toInt 1 = 1 by decide)) (by decide) (by decide))⟩
    · have r1814 : p1802.toInt ≠ 30 := gj_neq hc1812 (show Int32.toInt 30 = 30 by decide)
      refine G_aload_n 0 dr_cX12_ways_28 rfl ?_
      refine Gp_get 2 hmq1797 heq1797 dr_cX12_ways_29 (gk_X12 D I) (Nat.le_of_ble_eq_true rfl) wr_9_222 rfl ?_
      refine G_aload_n 0 dr_cX12_ways_32 rfl ?_
      refine Gp_get 3 hmq1797 heq1797 dr_cX12_ways_33 (gk_X12 D I) (Nat.le_of_ble_eq_true rfl) wr_9_226 rfl ?_
      refine G_icmp_ne 43 dr_cX12_ways_36 (by decide +kernel) (fun hc1815 => ?_) (fun hc1815 => ?_)
      · have r1816 : p1800.toInt ≠ p1801.toInt := gC_ne hc1815
        refine G_iconst 2 dr_cX12_ways_43 (by decide +kernel) ?_
        exact G_iretA dr_cX12_ways_44 rfl (Nat.le_of_ble_eq_true rfl) (Nat.le_of_ble_eq_true rfl) ⟨2, rfl, rfl, (Nat.le_of_ble_eq_true rfl), (Nat.le_of_ble_eq_true rfl), (gB_w (gBl (show Int32.toInt 2 = 2 by decide)) (by decide) (by decide))⟩
      · have r1817 : p1800.toInt = p1801.toInt := gC_eq hc1815
        refine G_iconst 1 dr_cX12_ways_39 (by decide +kernel) ?_
        refine G_goto 44 dr_cX12_ways_40 (by decide +kernel) ?_
        exact G_iretA dr_cX12_ways_44 rfl (Nat.le_of_ble_eq_true rfl) (Nat.le_of_ble_eq_true rfl) ⟨1, rfl, rfl, (Nat.le_of_ble_eq_true rfl), (Nat.le_of_ble_eq_true rfl), (gB_w (gBl (show Int32.toInt 1 = 1 by decide)) (by decide) (by decide))⟩
  · have r1818 : p1802.toInt = 32 := gj_eq hc1810 (show Int32.toInt 32 = 32 by decide)
    have bp1802' : gB p1802 32 32 := ⟨by omega, by omega⟩
    refine G_iconst 0 dr_cX12_ways_12 (by decide +kernel) ?_
    refine G_goto 44 dr_cX12_ways_13 (by decide +kernel) ?_
    exact G_iretA dr_cX12_ways_44 rfl (Nat.le_of_ble_eq_true rfl) (Nat.le_of_ble_eq_true rfl) ⟨0, rfl, rfl, (Nat.le_of_ble_eq_true rfl), (Nat.le_of_ble_eq_true rfl), (gB_w (gBl (show Int32.toInt 0 = 0 by decide)) (by decide) (by decide))⟩
abbrev ky_1828_Block_way : gKey := (cX12_way, 2, "SpillForgeModel$Block", (some FieldType.int), [], "way", fun _ _ => True)
def pp_1828_Block_way (D : va_G) (I : FieldType → ClassId) (P1820 : List Nat) (F1821 : Nat → va_E) (q1822 : Nat) (p1823 : Int32) (qo1824 : Nat) (qo1825 : Nat) (p1826 : Int32) (p1827 : Int32) : Option Value → va_W → Nat → Nat → Prop := fun r w dc ds => ∃ (o1832 : Int32), r = some (.int o1832) ∧ w = va_pl P1820 F1821 ∧ dc ≤ 0 ∧ ds ≤ 0 ∧ gB o1832 0 39
set_option maxRecDepth 100000 in
set_option maxHeartbeats 4000000 in
theorem cp_1828_Block_way (l : Launch) (hl0 : l.stackTraces = false) (D : va_G) (I : FieldType → ClassId) (P1820 : List Nat) (F1821 : Nat → va_E) (q1822 : Nat) (p1823 : Int32) (qo1824 : Nat) (qo1825 : Nat) (p1826 : Int32) (p1827 : Int32) (hmq1822 : q1822 ∈ P1820) (heq1822 : F1821 q1822 = .inr (17, [.ref qo1824, .ref qo1825, .int p1826, .int p1827])) (bp1826 : gB p1826 0 39) (bp1827 : gB p1827 0 39) : CtA (gV D I) l yX12_way cX12_way 2 (some FieldType.int) 0 0 0 0 [.ref q1822, .int p1823] (va_pl P1820 F1821) (pp_1828_Block_way D I P1820 F1821 q1822 p1823 qo1824 qo1825 p1826 p1827) gNA := by
  refine CtA_of hl0 (by decide) (Nat.le_of_ble_eq_true rfl) ?_
  have bp1823 := gB_any p1823
  refine G_iload_n 1 dr_cX12_way_0 rfl ?_
  refine G_if_ne 11 dr_cX12_way_1 (by decide +kernel) (fun hc1829 => ?_) (fun hc1829 => ?_)
  · have r1830 : p1823.toInt ≠ 0 := gj_neq hc1829 (show Int32.toInt 0 = 0 by decide)
    refine G_aload_n 0 dr_cX12_way_11 rfl ?_
    refine Gp_get 3 hmq1822 heq1822 dr_cX12_way_12 (gk_X12 D I) (Nat.le_of_ble_eq_true rfl) wr_9_226 rfl ?_
    exact G_iretA dr_cX12_way_15 rfl (Nat.le_of_ble_eq_true rfl) (Nat.le_of_ble_eq_true rfl) ⟨p1827, rfl, rfl, (Nat.le_of_ble_eq_true rfl), (Nat.le_of_ble_eq_true rfl), bp1827⟩
  · have r1831 : p1823.toInt = 0 := gj_eq hc1829 (show Int32.toInt 0 = 0 by decide)
    have bp1823' : gB p1823 0 0 := ⟨by omega, by omega⟩
    refine G_aload_n 0 dr_cX12_way_4 rfl ?_
    refine Gp_get 2 hmq1822 heq1822 dr_cX12_way_5 (gk_X12 D I) (Nat.le_of_ble_eq_true rfl) wr_9_222 rfl ?_
    refine G_goto 15 dr_cX12_way_8 (by decide +kernel) ?_
    exact G_iretA dr_cX12_way_15 rfl (Nat.le_of_ble_eq_true rfl) (Nat.le_of_ble_eq_true rfl) ⟨p1826, rfl, rfl, (Nat.le_of_ble_eq_true rfl), (Nat.le_of_ble_eq_true rfl), bp1826⟩
abbrev ky_1838_SpillForgeModel_has : gKey := (cX17_has, 2, "SpillForgeModel", (some FieldType.boolean), [], "has", fun _ _ => True)
def pp_1838_SpillForgeModel_has (D : va_G) (I : FieldType → ClassId) (P1833 : List Nat) (F1834 : Nat → va_E) (q1835 : Nat) (p1836 : Int32) (f1837 : Nat → Int64) : Option Value → va_W → Nat → Nat → Prop := fun r w dc ds => (∃ (z1839 : Int32) (z1843 : Int32), r = some (.int 0) ∧ w = va_pl P1833 F1834 ∧ dc ≤ 0 ∧ ds ≤ 0 ∧ z1839.toInt = p1836.toInt / 64 ∧ z1843.toInt = 0 ∧ gB z1839 0 31 ∧ gB z1843 0 0) ∨ (∃ (z1839 : Int32) (z1843 : Int32), r = some (.int 1) ∧ w = va_pl P1833 F1834 ∧ dc ≤ 0 ∧ ds ≤ 0 ∧ z1839.toInt = p1836.toInt / 64 ∧ z1843.toInt ≠ 0 ∧ gB z1839 0 31 ∧ gB z1843 (-1) 1)
set_option maxRecDepth 100000 in
set_option maxHeartbeats 4000000 in
theorem cp_1838_SpillForgeModel_has (l : Launch) (hl0 : l.stackTraces = false) (D : va_G) (I : FieldType → ClassId) (P1833 : List Nat) (F1834 : Nat → va_E) (q1835 : Nat) (p1836 : Int32) (f1837 : Nat → Int64) (hmq1835 : q1835 ∈ P1833) (heq1835 : F1834 q1835 = .inl (I .long, 32, .inr (.inl f1837))) (bp1836 : gB p1836 0 2047) : CtA (gV D I) l yX17_has cX17_has 2 (some FieldType.boolean) 0 0 0 0 [.ref q1835, .int p1836] (va_pl P1833 F1834) (pp_1838_SpillForgeModel_has D I P1833 F1834 q1835 p1836 f1837) gNA := by
  refine CtA_of hl0 (by decide) (Nat.le_of_ble_eq_true rfl) ?_
  refine G_aload_n 0 dr_cX17_has_0 rfl ?_
  refine G_iload_n 1 dr_cX17_has_1 rfl ?_
  refine G_bipush 6 dr_cX17_has_2 (by decide +kernel) ?_
  refine G_ishr dr_cX17_has_4 (G_nam fun z1839 hz1839 => ?_)
  have ez1839 : z1839.toInt = p1836.toInt / 64 := gI_shr (k := 6) hz1839 (by decide)
  have bz1839 : gB z1839 0 31 := ⟨by omega, by omega⟩
  refine Gp_lald 2 hmq1835 heq1835 dr_cX17_has_5 rfl (gB_in bz1839 (by decide) (by decide)) (G_namL fun u1840 hu1840 => ?_)
  refine G_iload_n 1 dr_cX17_has_6 rfl ?_
  refine G_lushr dr_cX17_has_7 (G_namL fun u1841 hu1841 => ?_)
  refine G_lconst 1 dr_cX17_has_8 rfl ?_
  refine G_land dr_cX17_has_9 (G_namL fun u1842 hu1842 => ?_)
  refine G_lconst 0 dr_cX17_has_10 rfl ?_
  refine G_lcmp dr_cX17_has_11 (G_nam fun z1843 hz1843 => ?_)
  have bz1843 : gB z1843 (-1) 1 := gB_cmp hz1843
  refine G_if_eq 19 dr_cX17_has_12 (by decide +kernel) (fun hc1844 => ?_) (fun hc1844 => ?_)
  · have r1845 : z1843.toInt = 0 := gj_eq hc1844 (show Int32.toInt 0 = 0 by decide)
    have bz1843' : gB z1843 0 0 := ⟨by omega, by omega⟩
    have lhc1844 := gC_cmpE hz1843 hc1844
    refine G_iconst 0 dr_cX17_has_19 (by decide +kernel) ?_
    exact G_zretA FieldType.boolean dr_cX17_has_20 rfl rfl (Nat.le_of_ble_eq_true rfl) (Nat.le_of_ble_eq_true rfl) (Or.inl ⟨z1839, z1843, rfl, rfl, (Nat.le_of_ble_eq_true rfl), (Nat.le_of_ble_eq_true rfl), ez1839, r1845, bz1839, bz1843'⟩)
  · have r1846 : z1843.toInt ≠ 0 := gj_neq hc1844 (show Int32.toInt 0 = 0 by decide)
    have lhc1844 := gC_cmpN hz1843 hc1844
    refine G_iconst 1 dr_cX17_has_15 (by decide +kernel) ?_
    refine G_goto 20 dr_cX17_has_16 (by decide +kernel) ?_
    exact G_zretA FieldType.boolean dr_cX17_has_20 rfl rfl (Nat.le_of_ble_eq_true rfl) (Nat.le_of_ble_eq_true rfl) (Or.inr (⟨z1839, z1843, rfl, rfl, (Nat.le_of_ble_eq_true rfl), (Nat.le_of_ble_eq_true rfl), ez1839, r1846, bz1839, bz1843⟩))
abbrev ky_1853_SpillForgeModel_set : gKey := (cX17_set, 2, "SpillForgeModel", none, [], "set", fun _ _ => True)
def pp_1853_SpillForgeModel_set (D : va_G) (I : FieldType → ClassId) (P1847 : List Nat) (F1848 : Nat → va_E) (q1849 : Nat) (p1850 : Int32) (f1851 : Nat → Int64) : Option Value → va_W → Nat → Nat → Prop := fun r w dc ds => ∃ (F1866 : Nat → va_E) (f1864 : Nat → Int64), r = none ∧ w = va_pl P1847 F1866 ∧ rFr [q1849] P1847 F1848 F1866 ∧ F1866 q1849 = .inl (I .long, 32, .inr (.inl f1864)) ∧ dc ≤ 0 ∧ ds ≤ 0 ∧ lb_W f1864 (32) (32) (2000)
set_option maxRecDepth 100000 in
set_option maxHeartbeats 4000000 in
theorem cp_1853_SpillForgeModel_set (l : Launch) (hl0 : l.stackTraces = false) (D : va_G) (I : FieldType → ClassId) (P1847 : List Nat) (F1848 : Nat → va_E) (q1849 : Nat) (p1850 : Int32) (f1851 : Nat → Int64) (hmq1849 : q1849 ∈ P1847) (heq1849 : F1848 q1849 = .inl (I .long, 32, .inr (.inl f1851))) (bp1850 : gB p1850 0 1999) (x1852 : lb_W f1851 (32) (32) (2000)) : CtA (gV D I) l yX17_set cX17_set 2 none 0 0 0 0 [.ref q1849, .int p1850] (va_pl P1847 F1848) (pp_1853_SpillForgeModel_set D I P1847 F1848 q1849 p1850 f1851) gNA := by
  refine CtA_of hl0 (by decide) (Nat.le_of_ble_eq_true rfl) ?_
  refine G_aload_n 0 dr_cX17_set_0 rfl ?_
  refine G_iload_n 1 dr_cX17_set_1 rfl ?_
  refine G_bipush 6 dr_cX17_set_2 (by decide +kernel) ?_
  refine G_ishr dr_cX17_set_4 (G_nam fun z1854 hz1854 => ?_)
  have ez1854 : z1854.toInt = p1850.toInt / 64 := gI_shr (k := 6) hz1854 (by decide)
  have bz1854 : gB z1854 0 31 := ⟨by omega, by omega⟩
  refine G_dup2_11 dr_cX17_set_5 rfl rfl ?_
  refine Gp_lald 2 hmq1849 heq1849 dr_cX17_set_6 rfl (gB_in bz1854 (by decide) (by decide)) (G_namL fun u1855 hu1855 => ?_)
  have qu1855 : lb_Q u1855 (2000 - 64 * z1854.toInt) := lb_Wld hu1855 x1852 (by omega) (by omega) (lb_Mod0 (by omega) (by omega))
  refine G_lconst 1 dr_cX17_set_7 rfl ?_
  refine G_iload_n 1 dr_cX17_set_8 rfl ?_
  refine G_lshl dr_cX17_set_9 (G_namL fun u1856 hu1856 => ?_)
  have qu1856 : lb_Q u1856 (p1850.toInt % 64 + 1) := lb_Qshl hu1856 (by omega)
  refine G_lor dr_cX17_set_10 (G_namL fun u1857 hu1857 => ?_)
  have qu1857 : lb_Q u1857 (2000 - 64 * z1854.toInt) := lb_Qor hu1857 qu1855 (lb_Qw qu1856 (by omega))
  refine Gp_last 2 hmq1849 heq1849 dr_cX17_set_11 rfl (gB_in bz1854 (by decide) (by decide)) (fun F1858 e1859 n1860 => ?_)
  obtain ⟨f1861, hf1861⟩ : ∃ z, z = vp_updL f1851 z1854.toNatClampNeg u1857 := ⟨_, rfl⟩
  rw [← hf1861] at e1859
  have he1862 : F1858 q1849 = .inl (I .long, 32, .inr (.inl f1861)) := e1859
  have hfr1863 : rFr [q1849] P1847 F1848 F1858 := rFr_put (rFr_rf (W := []) (P := P1847) (F := F1848)) n1860
  have wf1861 : lb_W f1861 (32) (32) (2000) := lb_Wst hf1861 x1852 (by omega) (lb_Mod0 (by omega) (by omega)) qu1857
  exact G_vretA dr_cX17_set_12 rfl (Nat.le_of_ble_eq_true rfl) (Nat.le_of_ble_eq_true rfl) ⟨F1858, f1861, rfl, rfl, hfr1863, he1862, (Nat.le_of_ble_eq_true rfl), (Nat.le_of_ble_eq_true rfl), wf1861⟩
abbrev ky_1873_SpillForgeModel_clear : gKey := (cX17_clear, 2, "SpillForgeModel", none, [], "clear", fun _ _ => True)
def pp_1873_SpillForgeModel_clear (D : va_G) (I : FieldType → ClassId) (P1867 : List Nat) (F1868 : Nat → va_E) (q1869 : Nat) (p1870 : Int32) (f1871 : Nat → Int64) : Option Value → va_W → Nat → Nat → Prop := fun r w dc ds => ∃ (F1887 : Nat → va_E) (f1885 : Nat → Int64), r = none ∧ w = va_pl P1867 F1887 ∧ rFr [q1869] P1867 F1868 F1887 ∧ F1887 q1869 = .inl (I .long, 32, .inr (.inl f1885)) ∧ dc ≤ 0 ∧ ds ≤ 0 ∧ lb_W f1885 (32) (32) (2000)
set_option maxRecDepth 100000 in
set_option maxHeartbeats 4000000 in
theorem cp_1873_SpillForgeModel_clear (l : Launch) (hl0 : l.stackTraces = false) (D : va_G) (I : FieldType → ClassId) (P1867 : List Nat) (F1868 : Nat → va_E) (q1869 : Nat) (p1870 : Int32) (f1871 : Nat → Int64) (hmq1869 : q1869 ∈ P1867) (heq1869 : F1868 q1869 = .inl (I .long, 32, .inr (.inl f1871))) (bp1870 : gB p1870 0 1999) (x1872 : lb_W f1871 (32) (32) (2000)) : CtA (gV D I) l yX17_clear cX17_clear 2 none 0 0 0 0 [.ref q1869, .int p1870] (va_pl P1867 F1868) (pp_1873_SpillForgeModel_clear D I P1867 F1868 q1869 p1870 f1871) gNA := by
  refine CtA_of hl0 (by decide) (Nat.le_of_ble_eq_true rfl) ?_
  refine G_aload_n 0 dr_cX17_clear_0 rfl ?_
  refine G_iload_n 1 dr_cX17_clear_1 rfl ?_
  refine G_bipush 6 dr_cX17_clear_2 (by decide +kernel) ?_
  refine G_ishr dr_cX17_clear_4 (G_nam fun z1874 hz1874 => ?_)
  have ez1874 : z1874.toInt = p1870.toInt / 64 := gI_shr (k := 6) hz1874 (by decide)
  have bz1874 : gB z1874 0 31 := ⟨by omega, by omega⟩
  refine G_dup2_11 dr_cX17_clear_5 rfl rfl ?_
  refine Gp_lald 2 hmq1869 heq1869 dr_cX17_clear_6 rfl (gB_in bz1874 (by decide) (by decide)) (G_namL fun u1875 hu1875 => ?_)
  have qu1875 : lb_Q u1875 (2000 - 64 * z1874.toInt) := lb_Wld hu1875 x1872 (by omega) (by omega) (lb_Mod0 (by omega) (by omega))
  refine G_lconst 1 dr_cX17_clear_7 rfl ?_
  refine G_iload_n 1 dr_cX17_clear_8 rfl ?_
  refine G_lshl dr_cX17_clear_9 (G_namL fun u1876 hu1876 => ?_)
  have qu1876 : lb_Q u1876 (p1870.toInt % 64 + 1) := lb_Qshl hu1876 (by omega)
  refine G_ldc2 (-1) dr_cX17_clear_10 wr_10_184 ?_
  refine G_lxor dr_cX17_clear_13 (G_namL fun u1877 hu1877 => ?_)
  refine G_land dr_cX17_clear_14 (G_namL fun u1878 hu1878 => ?_)
  have qu1878 : lb_Q u1878 (2000 - 64 * z1874.toInt) := lb_QandL hu1878 qu1875
  refine Gp_last 2 hmq1869 heq1869 dr_cX17_clear_15 rfl (gB_in bz1874 (by decide) (by decide)) (fun F1879 e1880 n1881 => ?_)
  obtain ⟨f1882, hf1882⟩ : ∃ z, z = vp_updL f1871 z1874.toNatClampNeg u1878 := ⟨_, rfl⟩
  rw [← hf1882] at e1880
  have he1883 : F1879 q1869 = .inl (I .long, 32, .inr (.inl f1882)) := e1880
  have hfr1884 : rFr [q1869] P1867 F1868 F1879 := rFr_put (rFr_rf (W := []) (P := P1867) (F := F1868)) n1881
  have wf1882 : lb_W f1882 (32) (32) (2000) := lb_Wst hf1882 x1872 (by omega) (lb_Mod0 (by omega) (by omega)) qu1878
  exact G_vretA dr_cX17_clear_16 rfl (Nat.le_of_ble_eq_true rfl) (Nat.le_of_ble_eq_true rfl) ⟨F1879, f1882, rfl, rfl, hfr1884, he1883, (Nat.le_of_ble_eq_true rfl), (Nat.le_of_ble_eq_true rfl), wf1882⟩
abbrev ky_1897_Long_bitCount : gKey := (cJ13_bitCount_95d88, 2, "java/lang/Long", (some FieldType.int), [], "bitCount", fun _ _ => True)
def pp_1897_Long_bitCount (D : va_G) (I : FieldType → ClassId) (P1894 : List Nat) (F1895 : Nat → va_E) (pl1896 : Int64) : Option Value → va_W → Nat → Nat → Prop := fun r w dc ds => ∃ (o1916 : Int32), r = some (.int o1916) ∧ w = va_pl P1894 F1895 ∧ dc ≤ 0 ∧ ds ≤ 0 ∧ gB o1916 0 127
set_option maxRecDepth 100000 in
set_option maxHeartbeats 4000000 in
theorem cp_1897_Long_bitCount (l : Launch) (hl0 : l.stackTraces = false) (D : va_G) (I : FieldType → ClassId) (P1894 : List Nat) (F1895 : Nat → va_E) (pl1896 : Int64)  : CtA (gV D I) l yJ13_bitCount_95d88 cJ13_bitCount_95d88 2 (some FieldType.int) 0 0 0 0 [.long pl1896] (va_pl P1894 F1895) (pp_1897_Long_bitCount D I P1894 F1895 pl1896) gNA := by
  refine CtA_ofF hl0 (by decide +kernel) (Nat.le_of_ble_eq_true rfl) ?_
  refine G_lload_n 0 dr_cJ13_bitCount_95d88_0 rfl ?_
  refine G_lload_n 0 dr_cJ13_bitCount_95d88_1 rfl ?_
  refine G_iconst 1 dr_cJ13_bitCount_95d88_2 (by decide +kernel) ?_
  refine G_lushr dr_cJ13_bitCount_95d88_3 (G_namL fun u1898 hu1898 => ?_)
  refine G_ldc2 6148914691236517205 dr_cJ13_bitCount_95d88_4 wr_4_96 ?_
  refine G_land dr_cJ13_bitCount_95d88_7 (G_namL fun u1899 hu1899 => ?_)
  refine G_lsub dr_cJ13_bitCount_95d88_8 (G_namL fun u1900 hu1900 => ?_)
  refine G_lstore_n (L' := [(0, .long u1900)]) dr_cJ13_bitCount_95d88_9 (Nat.le_of_ble_eq_true rfl) rfl ?_
  refine G_lload_n 0 dr_cJ13_bitCount_95d88_10 rfl ?_
  refine G_ldc2 3689348814741910323 dr_cJ13_bitCount_95d88_11 wr_4_97 ?_
  refine G_land dr_cJ13_bitCount_95d88_14 (G_namL fun u1901 hu1901 => ?_)
  refine G_lload_n 0 dr_cJ13_bitCount_95d88_15 rfl ?_
  refine G_iconst 2 dr_cJ13_bitCount_95d88_16 (by decide +kernel) ?_
  refine G_lushr dr_cJ13_bitCount_95d88_17 (G_namL fun u1902 hu1902 => ?_)
  refine G_ldc2 3689348814741910323 dr_cJ13_bitCount_95d88_18 wr_4_97 ?_
  refine G_land dr_cJ13_bitCount_95d88_21 (G_namL fun u1903 hu1903 => ?_)
  refine G_ladd dr_cJ13_bitCount_95d88_22 (G_namL fun u1904 hu1904 => ?_)
  refine G_lstore_n (L' := [(0, .long u1904)]) dr_cJ13_bitCount_95d88_23 (Nat.le_of_ble_eq_true rfl) rfl ?_
  refine G_lload_n 0 dr_cJ13_bitCount_95d88_24 rfl ?_
  refine G_lload_n 0 dr_cJ13_bitCount_95d88_25 rfl ?_
  refine G_iconst 4 dr_cJ13_bitCount_95d88_26 (by decide +kernel) ?_
  refine G_lushr dr_cJ13_bitCount_95d88_27 (G_namL fun u1905 hu1905 => ?_)
  refine G_ladd dr_cJ13_bitCount_95d88_28 (G_namL fun u1906 hu1906 => ?_)
  refine G_ldc2 1085102592571150095 dr_cJ13_bitCount_95d88_29 wr_4_98 ?_
  refine G_land dr_cJ13_bitCount_95d88_32 (G_namL fun u1907 hu1907 => ?_)
  refine G_lstore_n (L' := [(0, .long u1907)]) dr_cJ13_bitCount_95d88_33 (Nat.le_of_ble_eq_true rfl) rfl ?_
  refine G_lload_n 0 dr_cJ13_bitCount_95d88_34 rfl ?_
  refine G_lload_n 0 dr_cJ13_bitCount_95d88_35 rfl ?_
  refine G_bipush 8 dr_cJ13_bitCount_95d88_36 (by decide +kernel) ?_
  refine G_lushr dr_cJ13_bitCount_95d88_38 (G_namL fun u1908 hu1908 => ?_)
  refine G_ladd dr_cJ13_bitCount_95d88_39 (G_namL fun u1909 hu1909 => ?_)
  refine G_lstore_n (L' := [(0, .long u1909)]) dr_cJ13_bitCount_95d88_40 (Nat.le_of_ble_eq_true rfl) rfl ?_
  refine G_lload_n 0 dr_cJ13_bitCount_95d88_41 rfl ?_
  refine G_lload_n 0 dr_cJ13_bitCount_95d88_42 rfl ?_
  refine G_bipush 16 dr_cJ13_bitCount_95d88_43 (by decide +kernel) ?_
  refine G_lushr dr_cJ13_bitCount_95d88_45 (G_namL fun u1910 hu1910 => ?_)
  refine G_ladd dr_cJ13_bitCount_95d88_46 (G_namL fun u1911 hu1911 => ?_)
  refine G_lstore_n (L' := [(0, .long u1911)]) dr_cJ13_bitCount_95d88_47 (Nat.le_of_ble_eq_true rfl) rfl ?_
  refine G_lload_n 0 dr_cJ13_bitCount_95d88_48 rfl ?_
  refine G_lload_n 0 dr_cJ13_bitCount_95d88_49 rfl ?_
  refine G_bipush 32 dr_cJ13_bitCount_95d88_50 (by decide +kernel) ?_
  refine G_lushr dr_cJ13_bitCount_95d88_52 (G_namL fun u1912 hu1912 => ?_)
  refine G_ladd dr_cJ13_bitCount_95d88_53 (G_namL fun u1913 hu1913 => ?_)
  refine G_lstore_n (L' := [(0, .long u1913)]) dr_cJ13_bitCount_95d88_54 (Nat.le_of_ble_eq_true rfl) rfl ?_
  refine G_lload_n 0 dr_cJ13_bitCount_95d88_55 rfl ?_
  refine G_l2i dr_cJ13_bitCount_95d88_56 (G_nam fun z1914 hz1914 => ?_)
  have bz1914 : gB z1914 (-2147483648) 2147483647 := gB_any z1914
  refine G_bipush 127 dr_cJ13_bitCount_95d88_57 (by decide +kernel) ?_
  refine G_iand dr_cJ13_bitCount_95d88_59 (G_nam fun z1915 hz1915 => ?_)
  have bz1915 : gB z1915 0 127 := gB_and hz1915 (gBl (show Int32.toInt 127 = 127 by decide)) (by decide)
  exact G_iretA dr_cJ13_bitCount_95d88_60 rfl (Nat.le_of_ble_eq_true rfl) (Nat.le_of_ble_eq_true rfl) ⟨z1915, rfl, rfl, (Nat.le_of_ble_eq_true rfl), (Nat.le_of_ble_eq_true rfl), bz1915⟩
abbrev ky_1892_SpillForgeModel_count : gKey := (cX17_count, 3, "SpillForgeModel", (some FieldType.int), [], "count", fun _ _ => True)
def pp_1892_SpillForgeModel_count (D : va_G) (I : FieldType → ClassId) (P1888 : List Nat) (F1889 : Nat → va_E) (q1890 : Nat) (f1891 : Nat → Int64) : Option Value → va_W → Nat → Nat → Prop := fun r w dc ds => ∃ (o2013 : Int32), r = some (.int o2013) ∧ w = va_pl P1888 F1889 ∧ dc ≤ 0 ∧ ds ≤ 0
set_option maxRecDepth 100000 in
set_option maxHeartbeats 4000000 in
theorem cp_1892_SpillForgeModel_count (l : Launch) (hl0 : l.stackTraces = false) (D : va_G) (I : FieldType → ClassId) (P1888 : List Nat) (F1889 : Nat → va_E) (q1890 : Nat) (f1891 : Nat → Int64) (hmq1890 : q1890 ∈ P1888) (heq1890 : F1889 q1890 = .inl (I .long, 32, .inr (.inl f1891))) : CtA (gV D I) l yX17_count cX17_count 3 (some FieldType.int) 1 21 0 0 [.ref q1890] (va_pl P1888 F1889) (pp_1892_SpillForgeModel_count D I P1888 F1889 q1890 f1891) gNA := by
  refine CtA_of hl0 (by decide) (Nat.le_of_ble_eq_true rfl) ?_
  refine G_iconst 0 dr_cX17_count_0 (by decide +kernel) ?_
  refine G_istore_n (L' := [(1, .int 0), (0, .ref q1890)]) dr_cX17_count_1 (Nat.le_of_ble_eq_true rfl) rfl ?_
  refine G_iconst 0 dr_cX17_count_2 (by decide +kernel) ?_
  refine G_istore_n (L' := [(2, .int 0), (1, .int 0), (0, .ref q1890)]) dr_cX17_count_3 (Nat.le_of_ble_eq_true rfl) rfl ?_
  have hlp4_2000 : ∀ (n4_2000 : Nat) (g1999 : Int32) (g2000 : Int32), gB g1999 0 32 → ((33 : Int) - g1999.toInt).toNat < n4_2000 → G (gV D I) l (gRm 1 21 0 0) (gMA (gV D I) (pp_1892_SpillForgeModel_count D I P1888 F1889 q1890 f1891) gNA 0 0) ky_1892_SpillForgeModel_count 4 [(2, .int g1999), (1, .int g2000), (0, .ref q1890)] [] (va_pl P1888 F1889) 0 0 := by
    intro n4_2000
    induction n4_2000 with
    | zero => intro g1999 g2000 bg1999 hm4_2000; exact absurd hm4_2000 (Nat.not_lt_zero _)
    | succ n4_2000 ih4_2000 =>
      intro g1999 g2000 bg1999 hm4_2000
      have bg2000 := gB_any g2000
      refine G_iload_n 0 dr_cX17_count_4 rfl ?_
      refine G_aload_n 2 dr_cX17_count_5 rfl ?_
      refine Gp_alen 32 2 hmq1890 heq1890 dr_cX17_count_6 rfl rfl ?_
      refine G_icmp_ge 25 dr_cX17_count_7 (by decide +kernel) (fun hc2001 => ?_) (fun hc2001 => ?_)
      · have r2002 : 32 ≤ g1999.toInt := gj_leL hc2001 (show Int32.toInt 32 = 32 by decide)
        have bg1999' : gB g1999 32 32 := ⟨by omega, by omega⟩
        refine G_iload_n 1 dr_cX17_count_25 rfl ?_
        exact G_iretA dr_cX17_count_26 rfl (Nat.le_of_ble_eq_true rfl) (Nat.le_of_ble_eq_true rfl) ⟨g2000, rfl, rfl, (Nat.le_of_ble_eq_true rfl), (Nat.le_of_ble_eq_true rfl)⟩
      · have r2003 : g1999.toInt < 32 := gj_nleL hc2001 (show Int32.toInt 32 = 32 by decide)
        have bg1999' : gB g1999 0 31 := ⟨by omega, by omega⟩
        refine G_iload_n 1 dr_cX17_count_10 rfl ?_
        refine G_aload_n 2 dr_cX17_count_11 rfl ?_
        refine G_iload_n 0 dr_cX17_count_12 rfl ?_
        refine Gp_lald 2 hmq1890 heq1890 dr_cX17_count_13 rfl (gB_in bg1999' (by decide) (by decide)) (G_namL fun u2004 hu2004 => ?_)
        refine Gw_callS (As := [.long u2004]) (gV_ok D I) (cp_1897_Long_bitCount l hl0 D I P1888 F1889 u2004 ) dr_cX17_count_14 ⟨wr_11_15, wr_1_31, wr_4_95, by decide, rfl, (Nat.le_of_ble_eq_true rfl), (Nat.le_of_ble_eq_true rfl)⟩ wr_4_94 (show 0 + 0 ≤ 0 by first | omega | decide) (show 0 + 0 ≤ 0 by first | omega | decide) (Nat.le_of_ble_eq_true rfl) (fun r2008 w2009 dc2005 ds2006 hp2007 => ?_) (fun _ _ _ _ _ z => z.elim)
        obtain ⟨o2010, rfl, rfl, hdc, hds, bo2010⟩ := hp2007
        change G _ _ _ _ _ _ _ (.int o2010 :: _) _ _ _
        refine G_widen (cs' := 0) (sl' := 0) (by omega) (by omega) ?_
        refine G_iadd dr_cX17_count_17 (G_nam fun z2011 hz2011 => ?_)
        have bz2011 : gB z2011 (-2147483648) 2147483647 := gB_any z2011
        refine G_istore_n (L' := [(1, .int z2011), (2, .int g1999), (0, .ref q1890)]) dr_cX17_count_18 (Nat.le_of_ble_eq_true rfl) rfl ?_
        obtain ⟨z2012, hz2012⟩ : ∃ z : Int32, z = g1999 + Int32.ofInt 1 := ⟨_, rfl⟩
        have ez2012 : z2012.toInt = g1999.toInt + 1 := gI_inc hz2012 (by decide) bg1999' (by decide) (by decide)
        have bz2012 : gB z2012 1 32 := ⟨by omega, by omega⟩
        refine G_iinc (L' := [(2, .int z2012), (1, .int z2011), (0, .ref q1890)]) z2012 1 dr_cX17_count_19 rfl hz2012.symm (Nat.le_of_ble_eq_true rfl) rfl ?_
        refine G_goto 4 dr_cX17_count_22 (by decide +kernel) ?_
        exact ih4_2000 z2012 z2011 (gB_w bz2012 (by decide) (by decide)) (by omega)
  exact hlp4_2000 (((33 : Int) - 0).toNat + 1) 0 0 (gB_w (gBl (show Int32.toInt 0 = 0 by decide)) (by decide) (by decide)) (Nat.lt_succ_self _)
abbrev ky_2019_SpillForgeModel_result : gKey := (cX17_result, 4, "SpillForgeModel", (some FieldType.long), [], "result", fun _ _ => True)
def pp_2019_SpillForgeModel_result (D : va_G) (I : FieldType → ClassId) (P2014 : List Nat) (F2015 : Nat → va_E) (p2016 : Int32) (p2017 : Int32) (p2018 : Int32) : Option Value → va_W → Nat → Nat → Prop := fun r w dc ds => ∃ (ol2099 : Int64), r = some (.long ol2099) ∧ w = va_pl P2014 F2015 ∧ dc ≤ 0 ∧ ds ≤ 0
set_option maxRecDepth 100000 in
set_option maxHeartbeats 4000000 in
theorem cp_2019_SpillForgeModel_result (l : Launch) (hl0 : l.stackTraces = false) (D : va_G) (I : FieldType → ClassId) (P2014 : List Nat) (F2015 : Nat → va_E) (p2016 : Int32) (p2017 : Int32) (p2018 : Int32)  : CtA (gV D I) l yX17_result cX17_result 4 (some FieldType.long) 0 0 0 0 [.int p2016, .int p2017, .int p2018] (va_pl P2014 F2015) (pp_2019_SpillForgeModel_result D I P2014 F2015 p2016 p2017 p2018) gNA := by
  refine CtA_of hl0 (by decide) (Nat.le_of_ble_eq_true rfl) ?_
  have bp2016 := gB_any p2016
  have bp2017 := gB_any p2017
  have bp2018 := gB_any p2018
  refine G_iload_n 0 dr_cX17_result_0 rfl ?_
  by_cases hs2020 : p2016 = 1
  · have ehs2020 : p2016.toInt = 1 := gj_eq hs2020 (show Int32.toInt 1 = 1 by decide)
    have bp2016' : gB p2016 1 1 := ⟨by omega, by omega⟩
    refine G_eqi (y := 1) hs2020 ?_
    refine G_tableIn 68 dr_cX17_result_1 (by decide) (by decide) (by first | rfl | decide) (by decide) ?_
    refine G_iload_n 1 dr_cX17_result_68 rfl ?_
    refine G_iload_n 2 dr_cX17_result_69 rfl ?_
    refine G_iadd dr_cX17_result_70 (G_nam fun z2021 hz2021 => ?_)
    have bz2021 : gB z2021 (-2147483648) 2147483647 := gB_any z2021
    refine G_istore_n (L' := [(3, .int z2021), (0, .int p2016), (1, .int p2017), (2, .int p2018)]) dr_cX17_result_71 (Nat.le_of_ble_eq_true rfl) rfl ?_
    refine G_goto 213 dr_cX17_result_72 (by decide +kernel) ?_
    refine G_iload_n 0 dr_cX17_result_213 rfl ?_
    refine G_i2l dr_cX17_result_214 (G_namL fun u2022 hu2022 => ?_)
    refine G_ldc2 4294967295 dr_cX17_result_215 wr_11_104 ?_
    refine G_land dr_cX17_result_218 (G_namL fun u2023 hu2023 => ?_)
    exact G_lretA dr_cX17_result_219 rfl (Nat.le_of_ble_eq_true rfl) (Nat.le_of_ble_eq_true rfl) ⟨u2023, rfl, rfl, (Nat.le_of_ble_eq_true rfl), (Nat.le_of_ble_eq_true rfl)⟩
  by_cases hs2024 : p2016 = 2
  · have ehs2024 : p2016.toInt = 2 := gj_eq hs2024 (show Int32.toInt 2 = 2 by decide)
    have bp2016' : gB p2016 2 2 := ⟨by omega, by omega⟩
    refine G_eqi (y := 2) hs2024 ?_
    refine G_tableIn 75 dr_cX17_result_1 (by decide) (by decide) (by first | rfl | decide) (by decide) ?_
    refine G_iload_n 1 dr_cX17_result_75 rfl ?_
    refine G_iload_n 2 dr_cX17_result_76 rfl ?_
    refine G_isub dr_cX17_result_77 (G_nam fun z2025 hz2025 => ?_)
    have bz2025 : gB z2025 (-2147483648) 2147483647 := gB_any z2025
    refine G_istore_n (L' := [(3, .int z2025), (0, .int p2016), (1, .int p2017), (2, .int p2018)]) dr_cX17_result_78 (Nat.le_of_ble_eq_true rfl) rfl ?_
    refine G_goto 213 dr_cX17_result_79 (by decide +kernel) ?_
    refine G_iload_n 0 dr_cX17_result_213 rfl ?_
    refine G_i2l dr_cX17_result_214 (G_namL fun u2026 hu2026 => ?_)
    refine G_ldc2 4294967295 dr_cX17_result_215 wr_11_104 ?_
    refine G_land dr_cX17_result_218 (G_namL fun u2027 hu2027 => ?_)
    exact G_lretA dr_cX17_result_219 rfl (Nat.le_of_ble_eq_true rfl) (Nat.le_of_ble_eq_true rfl) ⟨u2027, rfl, rfl, (Nat.le_of_ble_eq_true rfl), (Nat.le_of_ble_eq_true rfl)⟩
  by_cases hs2028 : p2016 = 3
  · have ehs2028 : p2016.toInt = 3 := gj_eq hs2028 (show Int32.toInt 3 = 3 by decide)
    have bp2016' : gB p2016 3 3 := ⟨by omega, by omega⟩
    refine G_eqi (y := 3) hs2028 ?_
    refine G_tableIn 82 dr_cX17_result_1 (by decide) (by decide) (by first | rfl | decide) (by decide) ?_
    refine G_iload_n 1 dr_cX17_result_82 rfl ?_
    refine G_iload_n 2 dr_cX17_result_83 rfl ?_
    refine G_imul dr_cX17_result_84 (G_nam fun z2029 hz2029 => ?_)
    have bz2029 : gB z2029 (-2147483648) 2147483647 := gB_any z2029
    refine G_istore_n (L' := [(3, .int z2029), (0, .int p2016), (1, .int p2017), (2, .int p2018)]) dr_cX17_result_85 (Nat.le_of_ble_eq_true rfl) rfl ?_
    refine G_goto 213 dr_cX17_result_86 (by decide +kernel) ?_
    refine G_iload_n 0 dr_cX17_result_213 rfl ?_
    refine G_i2l dr_cX17_result_214 (G_namL fun u2030 hu2030 => ?_)
    refine G_ldc2 4294967295 dr_cX17_result_215 wr_11_104 ?_
    refine G_land dr_cX17_result_218 (G_namL fun u2031 hu2031 => ?_)
    exact G_lretA dr_cX17_result_219 rfl (Nat.le_of_ble_eq_true rfl) (Nat.le_of_ble_eq_true rfl) ⟨u2031, rfl, rfl, (Nat.le_of_ble_eq_true rfl), (Nat.le_of_ble_eq_true rfl)⟩
  by_cases hs2032 : p2016 = 4
  · have ehs2032 : p2016.toInt = 4 := gj_eq hs2032 (show Int32.toInt 4 = 4 by decide)
    have bp2016' : gB p2016 4 4 := ⟨by omega, by omega⟩
    refine G_eqi (y := 4) hs2032 ?_
    refine G_tableIn 89 dr_cX17_result_1 (by decide) (by decide) (by first | rfl | decide) (by decide) ?_
    refine G_iload_n 2 dr_cX17_result_89 rfl ?_
    refine G_if_ne 97 dr_cX17_result_90 (by decide +kernel) (fun hc2033 => ?_) (fun hc2033 => ?_)
    · have r2034 : p2018.toInt ≠ 0 := gj_neq hc2033 (show Int32.toInt 0 = 0 by decide)
      refine G_iload_n 1 dr_cX17_result_97 rfl ?_
      refine G_iload_n 2 dr_cX17_result_98 rfl ?_
      refine G_idiv dr_cX17_result_99 hc2033 (G_nam fun z2035 hz2035 => ?_)
      have bz2035 : gB z2035 (-2147483648) 2147483647 := gB_any z2035
      refine G_istore_n (L' := [(3, .int z2035), (0, .int p2016), (1, .int p2017), (2, .int p2018)]) dr_cX17_result_100 (Nat.le_of_ble_eq_true rfl) rfl ?_
      refine G_goto 213 dr_cX17_result_101 (by decide +kernel) ?_
      refine G_iload_n 0 dr_cX17_result_213 rfl ?_
      refine G_i2l dr_cX17_result_214 (G_namL fun u2036 hu2036 => ?_)
      refine G_ldc2 4294967295 dr_cX17_result_215 wr_11_104 ?_
      refine G_land dr_cX17_result_218 (G_namL fun u2037 hu2037 => ?_)
      exact G_lretA dr_cX17_result_219 rfl (Nat.le_of_ble_eq_true rfl) (Nat.le_of_ble_eq_true rfl) ⟨u2037, rfl, rfl, (Nat.le_of_ble_eq_true rfl), (Nat.le_of_ble_eq_true rfl)⟩
    · have r2038 : p2018.toInt = 0 := gj_eq hc2033 (show Int32.toInt 0 = 0 by decide)
      have bp2018' : gB p2018 0 0 := ⟨by omega, by omega⟩
      refine G_ldc2 4294967296 dr_cX17_result_93 wr_11_103 ?_
      exact G_lretA dr_cX17_result_96 rfl (Nat.le_of_ble_eq_true rfl) (Nat.le_of_ble_eq_true rfl) ⟨4294967296, rfl, rfl, (Nat.le_of_ble_eq_true rfl), (Nat.le_of_ble_eq_true rfl)⟩
  by_cases hs2039 : p2016 = 5
  · have ehs2039 : p2016.toInt = 5 := gj_eq hs2039 (show Int32.toInt 5 = 5 by decide)
    have bp2016' : gB p2016 5 5 := ⟨by omega, by omega⟩
    refine G_eqi (y := 5) hs2039 ?_
    refine G_tableIn 104 dr_cX17_result_1 (by decide) (by decide) (by first | rfl | decide) (by decide) ?_
    refine G_iload_n 2 dr_cX17_result_104 rfl ?_
    refine G_if_ne 112 dr_cX17_result_105 (by decide +kernel) (fun hc2040 => ?_) (fun hc2040 => ?_)
    · have r2041 : p2018.toInt ≠ 0 := gj_neq hc2040 (show Int32.toInt 0 = 0 by decide)
      refine G_iload_n 1 dr_cX17_result_112 rfl ?_
      refine G_iload_n 2 dr_cX17_result_113 rfl ?_
      refine G_irem dr_cX17_result_114 hc2040 (G_nam fun z2042 hz2042 => ?_)
      have bz2042 : gB z2042 (-2147483648) 2147483647 := gB_any z2042
      refine G_istore_n (L' := [(3, .int z2042), (0, .int p2016), (1, .int p2017), (2, .int p2018)]) dr_cX17_result_115 (Nat.le_of_ble_eq_true rfl) rfl ?_
      refine G_goto 213 dr_cX17_result_116 (by decide +kernel) ?_
      refine G_iload_n 0 dr_cX17_result_213 rfl ?_
      refine G_i2l dr_cX17_result_214 (G_namL fun u2043 hu2043 => ?_)
      refine G_ldc2 4294967295 dr_cX17_result_215 wr_11_104 ?_
      refine G_land dr_cX17_result_218 (G_namL fun u2044 hu2044 => ?_)
      exact G_lretA dr_cX17_result_219 rfl (Nat.le_of_ble_eq_true rfl) (Nat.le_of_ble_eq_true rfl) ⟨u2044, rfl, rfl, (Nat.le_of_ble_eq_true rfl), (Nat.le_of_ble_eq_true rfl)⟩
    · have r2045 : p2018.toInt = 0 := gj_eq hc2040 (show Int32.toInt 0 = 0 by decide)
      have bp2018' : gB p2018 0 0 := ⟨by omega, by omega⟩
      refine G_ldc2 4294967296 dr_cX17_result_108 wr_11_103 ?_
      exact G_lretA dr_cX17_result_111 rfl (Nat.le_of_ble_eq_true rfl) (Nat.le_of_ble_eq_true rfl) ⟨4294967296, rfl, rfl, (Nat.le_of_ble_eq_true rfl), (Nat.le_of_ble_eq_true rfl)⟩
  by_cases hs2046 : p2016 = 6
  · have ehs2046 : p2016.toInt = 6 := gj_eq hs2046 (show Int32.toInt 6 = 6 by decide)
    have bp2016' : gB p2016 6 6 := ⟨by omega, by omega⟩
    refine G_eqi (y := 6) hs2046 ?_
    refine G_tableIn 119 dr_cX17_result_1 (by decide) (by decide) (by first | rfl | decide) (by decide) ?_
    refine G_iload_n 1 dr_cX17_result_119 rfl ?_
    refine G_iload_n 2 dr_cX17_result_120 rfl ?_
    refine G_iand dr_cX17_result_121 (G_nam fun z2047 hz2047 => ?_)
    have bz2047 : gB z2047 (-2147483648) 2147483647 := gB_any z2047
    refine G_istore_n (L' := [(3, .int z2047), (0, .int p2016), (1, .int p2017), (2, .int p2018)]) dr_cX17_result_122 (Nat.le_of_ble_eq_true rfl) rfl ?_
    refine G_goto 213 dr_cX17_result_123 (by decide +kernel) ?_
    refine G_iload_n 0 dr_cX17_result_213 rfl ?_
    refine G_i2l dr_cX17_result_214 (G_namL fun u2048 hu2048 => ?_)
    refine G_ldc2 4294967295 dr_cX17_result_215 wr_11_104 ?_
    refine G_land dr_cX17_result_218 (G_namL fun u2049 hu2049 => ?_)
    exact G_lretA dr_cX17_result_219 rfl (Nat.le_of_ble_eq_true rfl) (Nat.le_of_ble_eq_true rfl) ⟨u2049, rfl, rfl, (Nat.le_of_ble_eq_true rfl), (Nat.le_of_ble_eq_true rfl)⟩
  by_cases hs2050 : p2016 = 7
  · have ehs2050 : p2016.toInt = 7 := gj_eq hs2050 (show Int32.toInt 7 = 7 by decide)
    have bp2016' : gB p2016 7 7 := ⟨by omega, by omega⟩
    refine G_eqi (y := 7) hs2050 ?_
    refine G_tableIn 126 dr_cX17_result_1 (by decide) (by decide) (by first | rfl | decide) (by decide) ?_
    refine G_iload_n 1 dr_cX17_result_126 rfl ?_
    refine G_iload_n 2 dr_cX17_result_127 rfl ?_
    refine G_ior dr_cX17_result_128 (G_nam fun z2051 hz2051 => ?_)
    have bz2051 : gB z2051 (-2147483648) 2147483647 := gB_any z2051
    refine G_istore_n (L' := [(3, .int z2051), (0, .int p2016), (1, .int p2017), (2, .int p2018)]) dr_cX17_result_129 (Nat.le_of_ble_eq_true rfl) rfl ?_
    refine G_goto 213 dr_cX17_result_130 (by decide +kernel) ?_
    refine G_iload_n 0 dr_cX17_result_213 rfl ?_
    refine G_i2l dr_cX17_result_214 (G_namL fun u2052 hu2052 => ?_)
    refine G_ldc2 4294967295 dr_cX17_result_215 wr_11_104 ?_
    refine G_land dr_cX17_result_218 (G_namL fun u2053 hu2053 => ?_)
    exact G_lretA dr_cX17_result_219 rfl (Nat.le_of_ble_eq_true rfl) (Nat.le_of_ble_eq_true rfl) ⟨u2053, rfl, rfl, (Nat.le_of_ble_eq_true rfl), (Nat.le_of_ble_eq_true rfl)⟩
  by_cases hs2054 : p2016 = 8
  · have ehs2054 : p2016.toInt = 8 := gj_eq hs2054 (show Int32.toInt 8 = 8 by decide)
    have bp2016' : gB p2016 8 8 := ⟨by omega, by omega⟩
    refine G_eqi (y := 8) hs2054 ?_
    refine G_tableIn 133 dr_cX17_result_1 (by decide) (by decide) (by first | rfl | decide) (by decide) ?_
    refine G_iload_n 1 dr_cX17_result_133 rfl ?_
    refine G_iload_n 2 dr_cX17_result_134 rfl ?_
    refine G_ixor dr_cX17_result_135 (G_nam fun z2055 hz2055 => ?_)
    have bz2055 : gB z2055 (-2147483648) 2147483647 := gB_any z2055
    refine G_istore_n (L' := [(3, .int z2055), (0, .int p2016), (1, .int p2017), (2, .int p2018)]) dr_cX17_result_136 (Nat.le_of_ble_eq_true rfl) rfl ?_
    refine G_goto 213 dr_cX17_result_137 (by decide +kernel) ?_
    refine G_iload_n 0 dr_cX17_result_213 rfl ?_
    refine G_i2l dr_cX17_result_214 (G_namL fun u2056 hu2056 => ?_)
    refine G_ldc2 4294967295 dr_cX17_result_215 wr_11_104 ?_
    refine G_land dr_cX17_result_218 (G_namL fun u2057 hu2057 => ?_)
    exact G_lretA dr_cX17_result_219 rfl (Nat.le_of_ble_eq_true rfl) (Nat.le_of_ble_eq_true rfl) ⟨u2057, rfl, rfl, (Nat.le_of_ble_eq_true rfl), (Nat.le_of_ble_eq_true rfl)⟩
  by_cases hs2058 : p2016 = 9
  · have ehs2058 : p2016.toInt = 9 := gj_eq hs2058 (show Int32.toInt 9 = 9 by decide)
    have bp2016' : gB p2016 9 9 := ⟨by omega, by omega⟩
    refine G_eqi (y := 9) hs2058 ?_
    refine G_tableIn 140 dr_cX17_result_1 (by decide) (by decide) (by first | rfl | decide) (by decide) ?_
    refine G_iload_n 1 dr_cX17_result_140 rfl ?_
    refine G_iload_n 2 dr_cX17_result_141 rfl ?_
    refine G_bipush 31 dr_cX17_result_142 (by decide +kernel) ?_
    refine G_iand dr_cX17_result_144 (G_nam fun z2059 hz2059 => ?_)
    have bz2059 : gB z2059 0 31 := gB_and hz2059 (gBl (show Int32.toInt 31 = 31 by decide)) (by decide)
    refine G_ishl dr_cX17_result_145 (G_nam fun z2060 hz2060 => ?_)
    have bz2060 : gB z2060 (-2147483648) 2147483647 := gB_any z2060
    refine G_istore_n (L' := [(3, .int z2060), (0, .int p2016), (1, .int p2017), (2, .int p2018)]) dr_cX17_result_146 (Nat.le_of_ble_eq_true rfl) rfl ?_
    refine G_goto 213 dr_cX17_result_147 (by decide +kernel) ?_
    refine G_iload_n 0 dr_cX17_result_213 rfl ?_
    refine G_i2l dr_cX17_result_214 (G_namL fun u2061 hu2061 => ?_)
    refine G_ldc2 4294967295 dr_cX17_result_215 wr_11_104 ?_
    refine G_land dr_cX17_result_218 (G_namL fun u2062 hu2062 => ?_)
    exact G_lretA dr_cX17_result_219 rfl (Nat.le_of_ble_eq_true rfl) (Nat.le_of_ble_eq_true rfl) ⟨u2062, rfl, rfl, (Nat.le_of_ble_eq_true rfl), (Nat.le_of_ble_eq_true rfl)⟩
  by_cases hs2063 : p2016 = 10
  · have ehs2063 : p2016.toInt = 10 := gj_eq hs2063 (show Int32.toInt 10 = 10 by decide)
    have bp2016' : gB p2016 10 10 := ⟨by omega, by omega⟩
    refine G_eqi (y := 10) hs2063 ?_
    refine G_tableIn 150 dr_cX17_result_1 (by decide) (by decide) (by first | rfl | decide) (by decide) ?_
    refine G_iload_n 1 dr_cX17_result_150 rfl ?_
    refine G_iload_n 2 dr_cX17_result_151 rfl ?_
    refine G_bipush 31 dr_cX17_result_152 (by decide +kernel) ?_
    refine G_iand dr_cX17_result_154 (G_nam fun z2064 hz2064 => ?_)
    have bz2064 : gB z2064 0 31 := gB_and hz2064 (gBl (show Int32.toInt 31 = 31 by decide)) (by decide)
    refine G_ishr dr_cX17_result_155 (G_nam fun z2065 hz2065 => ?_)
    have bz2065 : gB z2065 (-2147483648) 2147483647 := gB_any z2065
    refine G_istore_n (L' := [(3, .int z2065), (0, .int p2016), (1, .int p2017), (2, .int p2018)]) dr_cX17_result_156 (Nat.le_of_ble_eq_true rfl) rfl ?_
    refine G_goto 213 dr_cX17_result_157 (by decide +kernel) ?_
    refine G_iload_n 0 dr_cX17_result_213 rfl ?_
    refine G_i2l dr_cX17_result_214 (G_namL fun u2066 hu2066 => ?_)
    refine G_ldc2 4294967295 dr_cX17_result_215 wr_11_104 ?_
    refine G_land dr_cX17_result_218 (G_namL fun u2067 hu2067 => ?_)
    exact G_lretA dr_cX17_result_219 rfl (Nat.le_of_ble_eq_true rfl) (Nat.le_of_ble_eq_true rfl) ⟨u2067, rfl, rfl, (Nat.le_of_ble_eq_true rfl), (Nat.le_of_ble_eq_true rfl)⟩
  by_cases hs2068 : p2016 = 11
  · have ehs2068 : p2016.toInt = 11 := gj_eq hs2068 (show Int32.toInt 11 = 11 by decide)
    have bp2016' : gB p2016 11 11 := ⟨by omega, by omega⟩
    refine G_eqi (y := 11) hs2068 ?_
    refine G_tableIn 160 dr_cX17_result_1 (by decide) (by decide) (by first | rfl | decide) (by decide) ?_
    refine G_iload_n 1 dr_cX17_result_160 rfl ?_
    refine G_iload_n 2 dr_cX17_result_161 rfl ?_
    refine G_icmp_ge 169 dr_cX17_result_162 (by decide +kernel) (fun hc2069 => ?_) (fun hc2069 => ?_)
    · have r2070 : p2018.toInt ≤ p2017.toInt := gC_le hc2069
      refine G_iconst 0 dr_cX17_result_169 (by decide +kernel) ?_
      refine G_istore_n (L' := [(3, .int 0), (0, .int p2016), (1, .int p2017), (2, .int p2018)]) dr_cX17_result_170 (Nat.le_of_ble_eq_true rfl) rfl ?_
      refine G_goto 213 dr_cX17_result_171 (by decide +kernel) ?_
      refine G_iload_n 0 dr_cX17_result_213 rfl ?_
      refine G_i2l dr_cX17_result_214 (G_namL fun u2071 hu2071 => ?_)
      refine G_ldc2 4294967295 dr_cX17_result_215 wr_11_104 ?_
      refine G_land dr_cX17_result_218 (G_namL fun u2072 hu2072 => ?_)
      exact G_lretA dr_cX17_result_219 rfl (Nat.le_of_ble_eq_true rfl) (Nat.le_of_ble_eq_true rfl) ⟨u2072, rfl, rfl, (Nat.le_of_ble_eq_true rfl), (Nat.le_of_ble_eq_true rfl)⟩
    · have r2073 : p2017.toInt < p2018.toInt := gC_nle hc2069
      have bp2017' : gB p2017 (-2147483648) 2147483646 := ⟨by omega, by omega⟩
      have bp2018' : gB p2018 (-2147483647) 2147483647 := ⟨by omega, by omega⟩
      refine G_iconst 1 dr_cX17_result_165 (by decide +kernel) ?_
      refine G_goto 170 dr_cX17_result_166 (by decide +kernel) ?_
      refine G_istore_n (L' := [(3, .int 1), (0, .int p2016), (1, .int p2017), (2, .int p2018)]) dr_cX17_result_170 (Nat.le_of_ble_eq_true rfl) rfl ?_
      refine G_goto 213 dr_cX17_result_171 (by decide +kernel) ?_
      refine G_iload_n 0 dr_cX17_result_213 rfl ?_
      refine G_i2l dr_cX17_result_214 (G_namL fun u2074 hu2074 => ?_)
      refine G_ldc2 4294967295 dr_cX17_result_215 wr_11_104 ?_
      refine G_land dr_cX17_result_218 (G_namL fun u2075 hu2075 => ?_)
      exact G_lretA dr_cX17_result_219 rfl (Nat.le_of_ble_eq_true rfl) (Nat.le_of_ble_eq_true rfl) ⟨u2075, rfl, rfl, (Nat.le_of_ble_eq_true rfl), (Nat.le_of_ble_eq_true rfl)⟩
  by_cases hs2076 : p2016 = 12
  · have ehs2076 : p2016.toInt = 12 := gj_eq hs2076 (show Int32.toInt 12 = 12 by decide)
    have bp2016' : gB p2016 12 12 := ⟨by omega, by omega⟩
    refine G_eqi (y := 12) hs2076 ?_
    refine G_tableIn 174 dr_cX17_result_1 (by decide) (by decide) (by first | rfl | decide) (by decide) ?_
    refine G_iload_n 1 dr_cX17_result_174 rfl ?_
    refine G_iload_n 2 dr_cX17_result_175 rfl ?_
    refine G_icmp_gt 183 dr_cX17_result_176 (by decide +kernel) (fun hc2077 => ?_) (fun hc2077 => ?_)
    · have r2078 : p2018.toInt < p2017.toInt := gC_lt hc2077
      have bp2018' : gB p2018 (-2147483648) 2147483646 := ⟨by omega, by omega⟩
      have bp2017' : gB p2017 (-2147483647) 2147483647 := ⟨by omega, by omega⟩
      refine G_iconst 0 dr_cX17_result_183 (by decide +kernel) ?_
      refine G_istore_n (L' := [(3, .int 0), (0, .int p2016), (1, .int p2017), (2, .int p2018)]) dr_cX17_result_184 (Nat.le_of_ble_eq_true rfl) rfl ?_
      refine G_goto 213 dr_cX17_result_185 (by decide +kernel) ?_
      refine G_iload_n 0 dr_cX17_result_213 rfl ?_
      refine G_i2l dr_cX17_result_214 (G_namL fun u2079 hu2079 => ?_)
      refine G_ldc2 4294967295 dr_cX17_result_215 wr_11_104 ?_
      refine G_land dr_cX17_result_218 (G_namL fun u2080 hu2080 => ?_)
      exact G_lretA dr_cX17_result_219 rfl (Nat.le_of_ble_eq_true rfl) (Nat.le_of_ble_eq_true rfl) ⟨u2080, rfl, rfl, (Nat.le_of_ble_eq_true rfl), (Nat.le_of_ble_eq_true rfl)⟩
    · have r2081 : p2017.toInt ≤ p2018.toInt := gC_nlt hc2077
      refine G_iconst 1 dr_cX17_result_179 (by decide +kernel) ?_
      refine G_goto 184 dr_cX17_result_180 (by decide +kernel) ?_
      refine G_istore_n (L' := [(3, .int 1), (0, .int p2016), (1, .int p2017), (2, .int p2018)]) dr_cX17_result_184 (Nat.le_of_ble_eq_true rfl) rfl ?_
      refine G_goto 213 dr_cX17_result_185 (by decide +kernel) ?_
      refine G_iload_n 0 dr_cX17_result_213 rfl ?_
      refine G_i2l dr_cX17_result_214 (G_namL fun u2082 hu2082 => ?_)
      refine G_ldc2 4294967295 dr_cX17_result_215 wr_11_104 ?_
      refine G_land dr_cX17_result_218 (G_namL fun u2083 hu2083 => ?_)
      exact G_lretA dr_cX17_result_219 rfl (Nat.le_of_ble_eq_true rfl) (Nat.le_of_ble_eq_true rfl) ⟨u2083, rfl, rfl, (Nat.le_of_ble_eq_true rfl), (Nat.le_of_ble_eq_true rfl)⟩
  by_cases hs2084 : p2016 = 13
  · have ehs2084 : p2016.toInt = 13 := gj_eq hs2084 (show Int32.toInt 13 = 13 by decide)
    have bp2016' : gB p2016 13 13 := ⟨by omega, by omega⟩
    refine G_eqi (y := 13) hs2084 ?_
    refine G_tableIn 188 dr_cX17_result_1 (by decide) (by decide) (by first | rfl | decide) (by decide) ?_
    refine G_iload_n 1 dr_cX17_result_188 rfl ?_
    refine G_iload_n 2 dr_cX17_result_189 rfl ?_
    refine G_icmp_ne 197 dr_cX17_result_190 (by decide +kernel) (fun hc2085 => ?_) (fun hc2085 => ?_)
    · have r2086 : p2017.toInt ≠ p2018.toInt := gC_ne hc2085
      refine G_iconst 0 dr_cX17_result_197 (by decide +kernel) ?_
      refine G_istore_n (L' := [(3, .int 0), (0, .int p2016), (1, .int p2017), (2, .int p2018)]) dr_cX17_result_198 (Nat.le_of_ble_eq_true rfl) rfl ?_
      refine G_goto 213 dr_cX17_result_199 (by decide +kernel) ?_
      refine G_iload_n 0 dr_cX17_result_213 rfl ?_
      refine G_i2l dr_cX17_result_214 (G_namL fun u2087 hu2087 => ?_)
      refine G_ldc2 4294967295 dr_cX17_result_215 wr_11_104 ?_
      refine G_land dr_cX17_result_218 (G_namL fun u2088 hu2088 => ?_)
      exact G_lretA dr_cX17_result_219 rfl (Nat.le_of_ble_eq_true rfl) (Nat.le_of_ble_eq_true rfl) ⟨u2088, rfl, rfl, (Nat.le_of_ble_eq_true rfl), (Nat.le_of_ble_eq_true rfl)⟩
    · have r2089 : p2017.toInt = p2018.toInt := gC_eq hc2085
      refine G_iconst 1 dr_cX17_result_193 (by decide +kernel) ?_
      refine G_goto 198 dr_cX17_result_194 (by decide +kernel) ?_
      refine G_istore_n (L' := [(3, .int 1), (0, .int p2016), (1, .int p2017), (2, .int p2018)]) dr_cX17_result_198 (Nat.le_of_ble_eq_true rfl) rfl ?_
      refine G_goto 213 dr_cX17_result_199 (by decide +kernel) ?_
      refine G_iload_n 0 dr_cX17_result_213 rfl ?_
      refine G_i2l dr_cX17_result_214 (G_namL fun u2090 hu2090 => ?_)
      refine G_ldc2 4294967295 dr_cX17_result_215 wr_11_104 ?_
      refine G_land dr_cX17_result_218 (G_namL fun u2091 hu2091 => ?_)
      exact G_lretA dr_cX17_result_219 rfl (Nat.le_of_ble_eq_true rfl) (Nat.le_of_ble_eq_true rfl) ⟨u2091, rfl, rfl, (Nat.le_of_ble_eq_true rfl), (Nat.le_of_ble_eq_true rfl)⟩
  have ehs2020 := lv_neT hs2020 (show Int32.toInt 1 = 1 by decide)
  have ehs2024 := lv_neT hs2024 (show Int32.toInt 2 = 2 by decide)
  have ehs2028 := lv_neT hs2028 (show Int32.toInt 3 = 3 by decide)
  have ehs2032 := lv_neT hs2032 (show Int32.toInt 4 = 4 by decide)
  have ehs2039 := lv_neT hs2039 (show Int32.toInt 5 = 5 by decide)
  have ehs2046 := lv_neT hs2046 (show Int32.toInt 6 = 6 by decide)
  have ehs2050 := lv_neT hs2050 (show Int32.toInt 7 = 7 by decide)
  have ehs2054 := lv_neT hs2054 (show Int32.toInt 8 = 8 by decide)
  have ehs2058 := lv_neT hs2058 (show Int32.toInt 9 = 9 by decide)
  have ehs2063 := lv_neT hs2063 (show Int32.toInt 10 = 10 by decide)
  have ehs2068 := lv_neT hs2068 (show Int32.toInt 11 = 11 by decide)
  have ehs2076 := lv_neT hs2076 (show Int32.toInt 12 = 12 by decide)
  have ehs2084 := lv_neT hs2084 (show Int32.toInt 13 = 13 by decide)
  refine G_tableOut 202 dr_cX17_result_1 (by omega) (by decide) ?_
  refine G_iload_n 1 dr_cX17_result_202 rfl ?_
  refine G_iload_n 2 dr_cX17_result_203 rfl ?_
  refine G_icmp_eq 211 dr_cX17_result_204 (by decide +kernel) (fun hc2092 => ?_) (fun hc2092 => ?_)
  · have r2093 : p2017.toInt = p2018.toInt := gC_eq hc2092
    refine G_iconst 0 dr_cX17_result_211 (by decide +kernel) ?_
    refine G_istore_n (L' := [(3, .int 0), (0, .int p2016), (1, .int p2017), (2, .int p2018)]) dr_cX17_result_212 (Nat.le_of_ble_eq_true rfl) rfl ?_
    refine G_iload_n 0 dr_cX17_result_213 rfl ?_
    refine G_i2l dr_cX17_result_214 (G_namL fun u2094 hu2094 => ?_)
    refine G_ldc2 4294967295 dr_cX17_result_215 wr_11_104 ?_
    refine G_land dr_cX17_result_218 (G_namL fun u2095 hu2095 => ?_)
    exact G_lretA dr_cX17_result_219 rfl (Nat.le_of_ble_eq_true rfl) (Nat.le_of_ble_eq_true rfl) ⟨u2095, rfl, rfl, (Nat.le_of_ble_eq_true rfl), (Nat.le_of_ble_eq_true rfl)⟩
  · have r2096 : p2017.toInt ≠ p2018.toInt := gC_ne hc2092
    refine G_iconst 1 dr_cX17_result_207 (by decide +kernel) ?_
    refine G_goto 212 dr_cX17_result_208 (by decide +kernel) ?_
    refine G_istore_n (L' := [(3, .int 1), (0, .int p2016), (1, .int p2017), (2, .int p2018)]) dr_cX17_result_212 (Nat.le_of_ble_eq_true rfl) rfl ?_
    refine G_iload_n 0 dr_cX17_result_213 rfl ?_
    refine G_i2l dr_cX17_result_214 (G_namL fun u2097 hu2097 => ?_)
    refine G_ldc2 4294967295 dr_cX17_result_215 wr_11_104 ?_
    refine G_land dr_cX17_result_218 (G_namL fun u2098 hu2098 => ?_)
    exact G_lretA dr_cX17_result_219 rfl (Nat.le_of_ble_eq_true rfl) (Nat.le_of_ble_eq_true rfl) ⟨u2098, rfl, rfl, (Nat.le_of_ble_eq_true rfl), (Nat.le_of_ble_eq_true rfl)⟩
