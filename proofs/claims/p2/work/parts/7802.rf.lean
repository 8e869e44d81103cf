theorem dr_cX17_behind_0 : decode cX17_behind 0 = .ok (.iconst 0, 1) := by decide +kernel
theorem dr_cX17_behind_1 : decode cX17_behind 1 = .ok (.istore_n 2, 1) := by decide +kernel
theorem dr_cX17_behind_2 : decode cX17_behind 2 = .ok (.iload_n 2, 1) := by decide +kernel
theorem dr_cX17_behind_3 : decode cX17_behind 3 = .ok (.bipush 32, 2) := by decide +kernel
theorem dr_cX17_behind_5 : decode cX17_behind 5 = .ok (.if_icmp .ge 16, 3) := by decide +kernel
theorem dr_cX17_behind_21 : decode cX17_behind 21 = .ok (.iconst 0, 1) := by decide +kernel
theorem dr_cX17_behind_22 : decode cX17_behind 22 = .ok (.istore_n 2, 1) := by decide +kernel
theorem dr_cX17_behind_23 : decode cX17_behind 23 = .ok (.iload_n 2, 1) := by decide +kernel
theorem dr_cX17_behind_24 : decode cX17_behind 24 = .ok (.aload_n 1, 1) := by decide +kernel
theorem dr_cX17_behind_25 : decode cX17_behind 25 = .ok (.invokevirtual 82, 3) := by decide +kernel
theorem wr_10_166 : (Jvm.Cond.methodLink "SpillForgeModel" (82 : Nat) ({ cls := "SpillForgeModel$Block", name := "ways", desc := "()I" } : Jvm.MethodName)) ∈ gw := gw_10 166 rfl rfl
theorem wr_10_169 : (Jvm.Cond.code ({ cls := "SpillForgeModel$Block", name := "ways", desc := "()I" } : Jvm.MethodName) prog_15_method_2_code (1 : Nat) (Option.some Jvm.ClassFile.FieldType.int)) ∈ gw := gw_10 169 rfl rfl
theorem wr_10_167 : (Jvm.Cond.instanceMethod ({ cls := "SpillForgeModel$Block", name := "ways", desc := "()I" } : Jvm.MethodName)) ∈ gw := gw_10 167 rfl rfl
theorem wr_10_168 : (Jvm.Cond.selects "SpillForgeModel$Block" ({ cls := "SpillForgeModel$Block", name := "ways", desc := "()I" } : Jvm.MethodName) ({ cls := "SpillForgeModel$Block", name := "ways", desc := "()I" } : Jvm.MethodName)) ∈ gw := gw_10 168 rfl rfl
theorem dr_cX17_behind_28 : decode cX17_behind 28 = .ok (.if_icmp .ge 44, 3) := by decide +kernel
theorem dr_cX17_behind_72 : decode cX17_behind 72 = .ok (.return_, 1) := by decide +kernel
theorem dr_cX17_behind_31 : decode cX17_behind 31 = .ok (.iconst 0, 1) := by decide +kernel
theorem dr_cX17_behind_32 : decode cX17_behind 32 = .ok (.istore_n 3, 1) := by decide +kernel
theorem dr_cX17_behind_33 : decode cX17_behind 33 = .ok (.iload_n 3, 1) := by decide +kernel
theorem dr_cX17_behind_34 : decode cX17_behind 34 = .ok (.bipush 32, 2) := by decide +kernel
theorem dr_cX17_behind_36 : decode cX17_behind 36 = .ok (.if_icmp .ge 30, 3) := by decide +kernel
theorem dr_cX17_behind_66 : decode cX17_behind 66 = .ok (.iinc 2 1, 3) := by decide +kernel
theorem dr_cX17_behind_69 : decode cX17_behind 69 = .ok (.goto (-46), 3) := by decide +kernel
theorem dr_cX17_behind_39 : decode cX17_behind 39 = .ok (.aload_n 0, 1) := by decide +kernel
theorem dr_cX17_behind_40 : decode cX17_behind 40 = .ok (.getfield 59, 3) := by decide +kernel
theorem dr_cX17_behind_43 : decode cX17_behind 43 = .ok (.iload_n 3, 1) := by decide +kernel
theorem dr_cX17_behind_44 : decode cX17_behind 44 = .ok (.dup2, 1) := by decide +kernel
theorem dr_cX17_behind_45 : decode cX17_behind 45 = .ok (.laload, 1) := by decide +kernel
theorem dr_cX17_behind_46 : decode cX17_behind 46 = .ok (.aload_n 0, 1) := by decide +kernel
theorem dr_cX17_behind_47 : decode cX17_behind 47 = .ok (.getfield 88, 3) := by decide +kernel
theorem wr_7_74 : (Jvm.Cond.fieldLink "SpillForgeModel" (88 : Nat) "SpillForgeModel" "live" "[[J") ∈ gw := gw_7 74 rfl rfl
theorem dr_cX17_behind_50 : decode cX17_behind 50 = .ok (.aload_n 1, 1) := by decide +kernel
theorem dr_cX17_behind_51 : decode cX17_behind 51 = .ok (.iload_n 2, 1) := by decide +kernel
theorem dr_cX17_behind_52 : decode cX17_behind 52 = .ok (.invokevirtual 92, 3) := by decide +kernel
theorem wr_10_170 : (Jvm.Cond.methodLink "SpillForgeModel" (92 : Nat) ({ cls := "SpillForgeModel$Block", name := "way", desc := "(I)I" } : Jvm.MethodName)) ∈ gw := gw_10 170 rfl rfl
theorem wr_10_173 : (Jvm.Cond.code ({ cls := "SpillForgeModel$Block", name := "way", desc := "(I)I" } : Jvm.MethodName) prog_15_method_3_code (2 : Nat) (Option.some Jvm.ClassFile.FieldType.int)) ∈ gw := gw_10 173 rfl rfl
theorem wr_10_171 : (Jvm.Cond.instanceMethod ({ cls := "SpillForgeModel$Block", name := "way", desc := "(I)I" } : Jvm.MethodName)) ∈ gw := gw_10 171 rfl rfl
theorem wr_10_172 : (Jvm.Cond.selects "SpillForgeModel$Block" ({ cls := "SpillForgeModel$Block", name := "way", desc := "(I)I" } : Jvm.MethodName) ({ cls := "SpillForgeModel$Block", name := "way", desc := "(I)I" } : Jvm.MethodName)) ∈ gw := gw_10 172 rfl rfl
theorem dr_cX17_behind_55 : decode cX17_behind 55 = .ok (.aaload, 1) := by decide +kernel
theorem dr_cX17_behind_56 : decode cX17_behind 56 = .ok (.iload_n 3, 1) := by decide +kernel
theorem dr_cX17_behind_57 : decode cX17_behind 57 = .ok (.laload, 1) := by decide +kernel
theorem dr_cX17_behind_58 : decode cX17_behind 58 = .ok (.lor, 1) := by decide +kernel
theorem dr_cX17_behind_59 : decode cX17_behind 59 = .ok (.lastore, 1) := by decide +kernel
theorem dr_cX17_behind_60 : decode cX17_behind 60 = .ok (.iinc 3 1, 3) := by decide +kernel
theorem dr_cX17_behind_63 : decode cX17_behind 63 = .ok (.goto (-30), 3) := by decide +kernel
theorem dr_cX17_behind_8 : decode cX17_behind 8 = .ok (.aload_n 0, 1) := by decide +kernel
theorem dr_cX17_behind_9 : decode cX17_behind 9 = .ok (.getfield 59, 3) := by decide +kernel
theorem dr_cX17_behind_12 : decode cX17_behind 12 = .ok (.iload_n 2, 1) := by decide +kernel
theorem dr_cX17_behind_13 : decode cX17_behind 13 = .ok (.lconst 0, 1) := by decide +kernel
theorem dr_cX17_behind_14 : decode cX17_behind 14 = .ok (.lastore, 1) := by decide +kernel
theorem dr_cX17_behind_15 : decode cX17_behind 15 = .ok (.iinc 2 1, 3) := by decide +kernel
theorem dr_cX17_behind_18 : decode cX17_behind 18 = .ok (.goto (-16), 3) := by decide +kernel
theorem dr_cX17_value_0 : decode cX17_value 0 = .ok (.iload_n 1, 1) := by decide +kernel
theorem dr_cX17_value_1 : decode cX17_value 1 = .ok (.ifCond .eq 12, 3) := by decide +kernel
theorem dr_cX17_value_13 : decode cX17_value 13 = .ok (.iload_n 2, 1) := by decide +kernel
theorem dr_cX17_value_14 : decode cX17_value 14 = .ok (.ireturn, 1) := by decide +kernel
theorem dr_cX17_value_4 : decode cX17_value 4 = .ok (.aload_n 0, 1) := by decide +kernel
theorem dr_cX17_value_5 : decode cX17_value 5 = .ok (.getfield 271, 3) := by decide +kernel
theorem wr_7_94 : (Jvm.Cond.fieldLink "SpillForgeModel" (271 : Nat) "SpillForgeModel" "registers" "[I") ∈ gw := gw_7 94 rfl rfl
theorem dr_cX17_value_8 : decode cX17_value 8 = .ok (.iload_n 2, 1) := by decide +kernel
theorem dr_cX17_value_9 : decode cX17_value 9 = .ok (.iaload, 1) := by decide +kernel
theorem dr_cX17_value_10 : decode cX17_value 10 = .ok (.goto 4, 3) := by decide +kernel
theorem dr_cX17_leads_0 : decode cX17_leads 0 = .ok (.iconst 0, 1) := by decide +kernel
theorem dr_cX17_leads_1 : decode cX17_leads 1 = .ok (.istore_n 2, 1) := by decide +kernel
theorem dr_cX17_leads_2 : decode cX17_leads 2 = .ok (.iload_n 2, 1) := by decide +kernel
theorem dr_cX17_leads_3 : decode cX17_leads 3 = .ok (.aload_n 0, 1) := by decide +kernel
theorem dr_cX17_leads_4 : decode cX17_leads 4 = .ok (.invokevirtual 82, 3) := by decide +kernel
theorem dr_cX17_leads_7 : decode cX17_leads 7 = .ok (.if_icmp .ge 20, 3) := by decide +kernel
theorem dr_cX17_leads_27 : decode cX17_leads 27 = .ok (.iconst 0, 1) := by decide +kernel
theorem dr_cX17_leads_28 : decode cX17_leads 28 = .ok (.ireturn, 1) := by decide +kernel
theorem dr_cX17_leads_10 : decode cX17_leads 10 = .ok (.aload_n 0, 1) := by decide +kernel
theorem dr_cX17_leads_11 : decode cX17_leads 11 = .ok (.iload_n 2, 1) := by decide +kernel
theorem dr_cX17_leads_12 : decode cX17_leads 12 = .ok (.invokevirtual 92, 3) := by decide +kernel
theorem dr_cX17_leads_15 : decode cX17_leads 15 = .ok (.iload_n 1, 1) := by decide +kernel
theorem dr_cX17_leads_16 : decode cX17_leads 16 = .ok (.if_icmp .ne 5, 3) := by decide +kernel
theorem dr_cX17_leads_21 : decode cX17_leads 21 = .ok (.iinc 2 1, 3) := by decide +kernel
theorem dr_cX17_leads_24 : decode cX17_leads 24 = .ok (.goto (-22), 3) := by decide +kernel
theorem dr_cX17_leads_19 : decode cX17_leads 19 = .ok (.iconst 1, 1) := by decide +kernel
theorem dr_cX17_leads_20 : decode cX17_leads 20 = .ok (.ireturn, 1) := by decide +kernel
theorem dr_cX13_get_0 : decode cX13_get 0 = .ok (.aload_n 0, 1) := by decide +kernel
theorem dr_cX13_get_1 : decode cX13_get 1 = .ok (.getfield 10, 3) := by decide +kernel
theorem dr_cX13_get_4 : decode cX13_get 4 = .ok (.iload_n 1, 1) := by decide +kernel
theorem dr_cX13_get_5 : decode cX13_get 5 = .ok (.invokevirtual 37, 3) := by decide +kernel
theorem dr_cX13_get_8 : decode cX13_get 8 = .ok (.checkcast 30, 3) := by decide +kernel
theorem dr_cX13_get_11 : decode cX13_get 11 = .ok (.areturn, 1) := by decide +kernel
theorem dr_cX13_countRows_0 : decode cX13_countRows 0 = .ok (.iconst 0, 1) := by decide +kernel
theorem dr_cX13_countRows_1 : decode cX13_countRows 1 = .ok (.istore_n 1, 1) := by decide +kernel
theorem dr_cX13_countRows_2 : decode cX13_countRows 2 = .ok (.iconst 0, 1) := by decide +kernel
theorem dr_cX13_countRows_3 : decode cX13_countRows 3 = .ok (.istore_n 2, 1) := by decide +kernel
theorem dr_cX13_countRows_4 : decode cX13_countRows 4 = .ok (.iload_n 2, 1) := by decide +kernel
theorem dr_cX13_countRows_5 : decode cX13_countRows 5 = .ok (.aload_n 0, 1) := by decide +kernel
theorem dr_cX13_countRows_6 : decode cX13_countRows 6 = .ok (.getfield 23, 3) := by decide +kernel
theorem dr_cX13_countRows_9 : decode cX13_countRows 9 = .ok (.if_icmp .ge 23, 3) := by decide +kernel
theorem dr_cX13_countRows_32 : decode cX13_countRows 32 = .ok (.iload_n 1, 1) := by decide +kernel
theorem dr_cX13_countRows_33 : decode cX13_countRows 33 = .ok (.ireturn, 1) := by decide +kernel
theorem dr_cX13_countRows_12 : decode cX13_countRows 12 = .ok (.iload_n 1, 1) := by decide +kernel
theorem dr_cX13_countRows_13 : decode cX13_countRows 13 = .ok (.aload_n 0, 1) := by decide +kernel
theorem dr_cX13_countRows_14 : decode cX13_countRows 14 = .ok (.iload_n 2, 1) := by decide +kernel
theorem dr_cX13_countRows_15 : decode cX13_countRows 15 = .ok (.invokevirtual 67, 3) := by decide +kernel
theorem wr_10_138 : (Jvm.Cond.methodLink "SpillForgeModel$Code" (67 : Nat) ({ cls := "SpillForgeModel$Code", name := "get", desc := "(I)LSpillForgeModel$Block;" } : Jvm.MethodName)) ∈ gw := gw_10 138 rfl rfl
theorem wr_1_15 : (Jvm.Cond.initialized "SpillForgeModel$Code") ∈ gw := gw_1 15 rfl rfl
theorem wr_10_141 : (Jvm.Cond.code ({ cls := "SpillForgeModel$Code", name := "get", desc := "(I)LSpillForgeModel$Block;" } : Jvm.MethodName) prog_16_method_6_code (2 : Nat) (Option.some (Jvm.ClassFile.FieldType.object "SpillForgeModel$Block"))) ∈ gw := gw_10 141 rfl rfl
theorem wr_10_139 : (Jvm.Cond.instanceMethod ({ cls := "SpillForgeModel$Code", name := "get", desc := "(I)LSpillForgeModel$Block;" } : Jvm.MethodName)) ∈ gw := gw_10 139 rfl rfl
theorem wr_10_140 : (Jvm.Cond.selects "SpillForgeModel$Code" ({ cls := "SpillForgeModel$Code", name := "get", desc := "(I)LSpillForgeModel$Block;" } : Jvm.MethodName) ({ cls := "SpillForgeModel$Code", name := "get", desc := "(I)LSpillForgeModel$Block;" } : Jvm.MethodName)) ∈ gw := gw_10 140 rfl rfl
theorem dr_cX13_countRows_18 : decode cX13_countRows 18 = .ok (.getfield 41, 3) := by decide +kernel
theorem dr_cX13_countRows_21 : decode cX13_countRows 21 = .ok (.invokevirtual 26, 3) := by decide +kernel
theorem dr_cX13_countRows_24 : decode cX13_countRows 24 = .ok (.iadd, 1) := by decide +kernel
theorem dr_cX13_countRows_25 : decode cX13_countRows 25 = .ok (.istore_n 1, 1) := by decide +kernel
theorem dr_cX13_countRows_26 : decode cX13_countRows 26 = .ok (.iinc 2 1, 3) := by decide +kernel
theorem dr_cX13_countRows_29 : decode cX13_countRows 29 = .ok (.goto (-25), 3) := by decide +kernel
theorem dr_cX13_count_0 : decode cX13_count 0 = .ok (.iconst 0, 1) := by decide +kernel
theorem dr_cX13_count_1 : decode cX13_count 1 = .ok (.istore_n 2, 1) := by decide +kernel
theorem dr_cX13_count_2 : decode cX13_count 2 = .ok (.iconst 0, 1) := by decide +kernel
theorem dr_cX13_count_3 : decode cX13_count 3 = .ok (.istore_n 3, 1) := by decide +kernel
theorem dr_cX13_count_4 : decode cX13_count 4 = .ok (.iload_n 3, 1) := by decide +kernel
theorem dr_cX13_count_5 : decode cX13_count 5 = .ok (.aload_n 0, 1) := by decide +kernel
theorem dr_cX13_count_6 : decode cX13_count 6 = .ok (.getfield 23, 3) := by decide +kernel
theorem dr_cX13_count_9 : decode cX13_count 9 = .ok (.if_icmp .ge 65, 3) := by decide +kernel
theorem dr_cX13_count_74 : decode cX13_count 74 = .ok (.iload_n 2, 1) := by decide +kernel
theorem dr_cX13_count_75 : decode cX13_count 75 = .ok (.ireturn, 1) := by decide +kernel
theorem dr_cX13_count_12 : decode cX13_count 12 = .ok (.iconst 0, 1) := by decide +kernel
theorem dr_cX13_count_13 : decode cX13_count 13 = .ok (.istore 4, 2) := by decide +kernel
theorem dr_cX13_count_15 : decode cX13_count 15 = .ok (.iload 4, 2) := by decide +kernel
theorem dr_cX13_count_17 : decode cX13_count 17 = .ok (.aload_n 0, 1) := by decide +kernel
theorem dr_cX13_count_18 : decode cX13_count 18 = .ok (.iload_n 3, 1) := by decide +kernel
theorem dr_cX13_count_19 : decode cX13_count 19 = .ok (.invokevirtual 67, 3) := by decide +kernel
theorem dr_cX13_count_22 : decode cX13_count 22 = .ok (.getfield 41, 3) := by decide +kernel
theorem dr_cX13_count_25 : decode cX13_count 25 = .ok (.invokevirtual 26, 3) := by decide +kernel
theorem dr_cX13_count_28 : decode cX13_count 28 = .ok (.if_icmp .ge 40, 3) := by decide +kernel
theorem dr_cX13_count_68 : decode cX13_count 68 = .ok (.iinc 3 1, 3) := by decide +kernel
theorem dr_cX13_count_71 : decode cX13_count 71 = .ok (.goto (-67), 3) := by decide +kernel
theorem dr_cX13_count_31 : decode cX13_count 31 = .ok (.iload_n 2, 1) := by decide +kernel
theorem dr_cX13_count_32 : decode cX13_count 32 = .ok (.aload_n 0, 1) := by decide +kernel
theorem dr_cX13_count_33 : decode cX13_count 33 = .ok (.iload_n 3, 1) := by decide +kernel
theorem dr_cX13_count_34 : decode cX13_count 34 = .ok (.invokevirtual 67, 3) := by decide +kernel
theorem dr_cX13_count_37 : decode cX13_count 37 = .ok (.getfield 41, 3) := by decide +kernel
theorem dr_cX13_count_40 : decode cX13_count 40 = .ok (.iload 4, 2) := by decide +kernel
theorem dr_cX13_count_42 : decode cX13_count 42 = .ok (.invokevirtual 37, 3) := by decide +kernel
theorem dr_cX13_count_45 : decode cX13_count 45 = .ok (.checkcast 45, 3) := by decide +kernel
theorem dr_cX13_count_48 : decode cX13_count 48 = .ok (.getfield 70, 3) := by decide +kernel
theorem wr_9_178 : (Jvm.Cond.fieldLink "SpillForgeModel$Code" (70 : Nat) "SpillForgeModel$Row" "op" "I") ∈ gw := gw_9 178 rfl rfl
theorem dr_cX13_count_51 : decode cX13_count 51 = .ok (.iload_n 1, 1) := by decide +kernel
theorem dr_cX13_count_52 : decode cX13_count 52 = .ok (.if_icmp .ne 7, 3) := by decide +kernel
theorem dr_cX13_count_59 : decode cX13_count 59 = .ok (.iconst 0, 1) := by decide +kernel
theorem dr_cX13_count_60 : decode cX13_count 60 = .ok (.iadd, 1) := by decide +kernel
theorem dr_cX13_count_61 : decode cX13_count 61 = .ok (.istore_n 2, 1) := by decide +kernel
theorem dr_cX13_count_62 : decode cX13_count 62 = .ok (.iinc 4 1, 3) := by decide +kernel
theorem dr_cX13_count_65 : decode cX13_count 65 = .ok (.goto (-50), 3) := by decide +kernel
theorem dr_cX13_count_55 : decode cX13_count 55 = .ok (.iconst 1, 1) := by decide +kernel
theorem dr_cX13_count_56 : decode cX13_count 56 = .ok (.goto 4, 3) := by decide +kernel
theorem dr_cX13_size_0 : decode cX13_size 0 = .ok (.aload_n 0, 1) := by decide +kernel
theorem dr_cX13_size_1 : decode cX13_size 1 = .ok (.getfield 23, 3) := by decide +kernel
theorem dr_cX13_size_4 : decode cX13_size 4 = .ok (.ireturn, 1) := by decide +kernel
theorem dr_cX17_reached_0 : decode cX17_reached 0 = .ok (.iload_n 1, 1) := by decide +kernel
theorem dr_cX17_reached_1 : decode cX17_reached 1 = .ok (.ifCond .ne 5, 3) := by decide +kernel
theorem dr_cX17_reached_6 : decode cX17_reached 6 = .ok (.lconst 1, 1) := by decide +kernel
theorem dr_cX17_reached_7 : decode cX17_reached 7 = .ok (.lstore_n 2, 1) := by decide +kernel
theorem dr_cX17_reached_8 : decode cX17_reached 8 = .ok (.iconst 1, 1) := by decide +kernel
theorem dr_cX17_reached_9 : decode cX17_reached 9 = .ok (.istore 4, 2) := by decide +kernel
theorem dr_cX17_reached_11 : decode cX17_reached 11 = .ok (.iload 4, 2) := by decide +kernel
theorem dr_cX17_reached_13 : decode cX17_reached 13 = .ok (.ifCond .eq 107, 3) := by decide +kernel
theorem dr_cX17_reached_120 : decode cX17_reached 120 = .ok (.lload_n 2, 1) := by decide +kernel
theorem dr_cX17_reached_121 : decode cX17_reached 121 = .ok (.lreturn, 1) := by decide +kernel
theorem dr_cX17_reached_16 : decode cX17_reached 16 = .ok (.iconst 0, 1) := by decide +kernel
theorem dr_cX17_reached_17 : decode cX17_reached 17 = .ok (.istore 4, 2) := by decide +kernel
theorem dr_cX17_reached_19 : decode cX17_reached 19 = .ok (.iconst 0, 1) := by decide +kernel
theorem dr_cX17_reached_20 : decode cX17_reached 20 = .ok (.istore 5, 2) := by decide +kernel
theorem dr_cX17_reached_22 : decode cX17_reached 22 = .ok (.iload 5, 2) := by decide +kernel
theorem dr_cX17_reached_24 : decode cX17_reached 24 = .ok (.aload_n 0, 1) := by decide +kernel
theorem dr_cX17_reached_25 : decode cX17_reached 25 = .ok (.invokevirtual 96, 3) := by decide +kernel
theorem wr_10_160 : (Jvm.Cond.methodLink "SpillForgeModel" (96 : Nat) ({ cls := "SpillForgeModel$Code", name := "size", desc := "()I" } : Jvm.MethodName)) ∈ gw := gw_10 160 rfl rfl
theorem wr_9_131 : (Jvm.Cond.code ({ cls := "SpillForgeModel$Code", name := "size", desc := "()I" } : Jvm.MethodName) prog_16_method_5_code (1 : Nat) (Option.some Jvm.ClassFile.FieldType.int)) ∈ gw := gw_9 131 rfl rfl
theorem wr_9_129 : (Jvm.Cond.instanceMethod ({ cls := "SpillForgeModel$Code", name := "size", desc := "()I" } : Jvm.MethodName)) ∈ gw := gw_9 129 rfl rfl
theorem wr_9_130 : (Jvm.Cond.selects "SpillForgeModel$Code" ({ cls := "SpillForgeModel$Code", name := "size", desc := "()I" } : Jvm.MethodName) ({ cls := "SpillForgeModel$Code", name := "size", desc := "()I" } : Jvm.MethodName)) ∈ gw := gw_9 130 rfl rfl
theorem dr_cX17_reached_28 : decode cX17_reached 28 = .ok (.if_icmp .ge 89, 3) := by decide +kernel
theorem dr_cX17_reached_117 : decode cX17_reached 117 = .ok (.goto (-106), 3) := by decide +kernel
theorem dr_cX17_reached_31 : decode cX17_reached 31 = .ok (.lload_n 2, 1) := by decide +kernel
theorem dr_cX17_reached_32 : decode cX17_reached 32 = .ok (.iload 5, 2) := by decide +kernel
theorem dr_cX17_reached_34 : decode cX17_reached 34 = .ok (.lushr, 1) := by decide +kernel
theorem dr_cX17_reached_35 : decode cX17_reached 35 = .ok (.lconst 1, 1) := by decide +kernel
theorem dr_cX17_reached_36 : decode cX17_reached 36 = .ok (.land, 1) := by decide +kernel
theorem dr_cX17_reached_37 : decode cX17_reached 37 = .ok (.lconst 0, 1) := by decide +kernel
theorem dr_cX17_reached_38 : decode cX17_reached 38 = .ok (.lcmp, 1) := by decide +kernel
theorem dr_cX17_reached_39 : decode cX17_reached 39 = .ok (.ifCond .ne 6, 3) := by decide +kernel
theorem dr_cX17_reached_45 : decode cX17_reached 45 = .ok (.iconst 0, 1) := by decide +kernel
theorem dr_cX17_reached_46 : decode cX17_reached 46 = .ok (.istore 6, 2) := by decide +kernel
theorem dr_cX17_reached_48 : decode cX17_reached 48 = .ok (.iload 6, 2) := by decide +kernel
theorem dr_cX17_reached_50 : decode cX17_reached 50 = .ok (.aload_n 0, 1) := by decide +kernel
theorem dr_cX17_reached_51 : decode cX17_reached 51 = .ok (.iload 5, 2) := by decide +kernel
theorem dr_cX17_reached_53 : decode cX17_reached 53 = .ok (.invokevirtual 101, 3) := by decide +kernel
theorem wr_10_161 : (Jvm.Cond.methodLink "SpillForgeModel" (101 : Nat) ({ cls := "SpillForgeModel$Code", name := "get", desc := "(I)LSpillForgeModel$Block;" } : Jvm.MethodName)) ∈ gw := gw_10 161 rfl rfl
theorem dr_cX17_reached_56 : decode cX17_reached 56 = .ok (.invokevirtual 82, 3) := by decide +kernel
theorem dr_cX17_reached_59 : decode cX17_reached 59 = .ok (.if_icmp .ge 52, 3) := by decide +kernel
theorem dr_cX17_reached_111 : decode cX17_reached 111 = .ok (.iinc 5 1, 3) := by decide +kernel
theorem dr_cX17_reached_114 : decode cX17_reached 114 = .ok (.goto (-92), 3) := by decide +kernel
theorem dr_cX17_reached_62 : decode cX17_reached 62 = .ok (.aload_n 0, 1) := by decide +kernel
theorem dr_cX17_reached_63 : decode cX17_reached 63 = .ok (.iload 5, 2) := by decide +kernel
theorem dr_cX17_reached_65 : decode cX17_reached 65 = .ok (.invokevirtual 101, 3) := by decide +kernel
theorem dr_cX17_reached_68 : decode cX17_reached 68 = .ok (.iload 6, 2) := by decide +kernel
theorem dr_cX17_reached_70 : decode cX17_reached 70 = .ok (.invokevirtual 92, 3) := by decide +kernel
theorem dr_cX17_reached_73 : decode cX17_reached 73 = .ok (.istore 7, 2) := by decide +kernel
theorem dr_cX17_reached_75 : decode cX17_reached 75 = .ok (.iload 7, 2) := by decide +kernel
theorem dr_cX17_reached_77 : decode cX17_reached 77 = .ok (.iload_n 1, 1) := by decide +kernel
theorem dr_cX17_reached_78 : decode cX17_reached 78 = .ok (.if_icmp .eq 27, 3) := by decide +kernel
theorem dr_cX17_reached_105 : decode cX17_reached 105 = .ok (.iinc 6 1, 3) := by decide +kernel
theorem dr_cX17_reached_108 : decode cX17_reached 108 = .ok (.goto (-60), 3) := by decide +kernel
theorem dr_cX17_reached_81 : decode cX17_reached 81 = .ok (.lload_n 2, 1) := by decide +kernel
theorem dr_cX17_reached_82 : decode cX17_reached 82 = .ok (.iload 7, 2) := by decide +kernel
theorem dr_cX17_reached_84 : decode cX17_reached 84 = .ok (.lushr, 1) := by decide +kernel
theorem dr_cX17_reached_85 : decode cX17_reached 85 = .ok (.lconst 1, 1) := by decide +kernel
theorem dr_cX17_reached_86 : decode cX17_reached 86 = .ok (.land, 1) := by decide +kernel
theorem dr_cX17_reached_87 : decode cX17_reached 87 = .ok (.lconst 0, 1) := by decide +kernel
theorem dr_cX17_reached_88 : decode cX17_reached 88 = .ok (.lcmp, 1) := by decide +kernel
theorem dr_cX17_reached_89 : decode cX17_reached 89 = .ok (.ifCond .eq 6, 3) := by decide +kernel
theorem dr_cX17_reached_95 : decode cX17_reached 95 = .ok (.lload_n 2, 1) := by decide +kernel
theorem dr_cX17_reached_96 : decode cX17_reached 96 = .ok (.lconst 1, 1) := by decide +kernel
theorem dr_cX17_reached_97 : decode cX17_reached 97 = .ok (.iload 7, 2) := by decide +kernel
theorem dr_cX17_reached_99 : decode cX17_reached 99 = .ok (.lshl, 1) := by decide +kernel
theorem dr_cX17_reached_100 : decode cX17_reached 100 = .ok (.lor, 1) := by decide +kernel
theorem dr_cX17_reached_101 : decode cX17_reached 101 = .ok (.lstore_n 2, 1) := by decide +kernel
theorem dr_cX17_reached_102 : decode cX17_reached 102 = .ok (.iconst 1, 1) := by decide +kernel
theorem dr_cX17_reached_103 : decode cX17_reached 103 = .ok (.istore 4, 2) := by decide +kernel
theorem dr_cX17_reached_92 : decode cX17_reached 92 = .ok (.goto 13, 3) := by decide +kernel
theorem dr_cX17_reached_42 : decode cX17_reached 42 = .ok (.goto 69, 3) := by decide +kernel
theorem dr_cX17_reached_4 : decode cX17_reached 4 = .ok (.lconst 0, 1) := by decide +kernel
theorem dr_cX17_reached_5 : decode cX17_reached 5 = .ok (.lreturn, 1) := by decide +kernel
abbrev ky_5047_Block_way : gKey := (cX12_way, 2, "SpillForgeModel$Block", (some FieldType.int), [], "way", fun _ _ => True)
def pp_5047_Block_way (D : va_G) (I : FieldType → ClassId) (P5032 : List Nat) (F5033 : Nat → va_E) (q5034 : Nat) (q5035 : Nat) (p5036 : Int32) (qo5037 : Nat) (p5038 : Int32) (p5039 : Int32) (p5040 : Int32) (p5041 : Int32) (p5042 : Int32) (p5043 : Int32) (p5044 : Int32) (p5045 : Int32) (p5046 : Int32) : Option Value → va_W → Nat → Nat → Prop := fun r w dc ds => ∃ (o5051 : Int32), r = some (.int o5051) ∧ w = va_pl P5032 F5033 ∧ dc ≤ 0 ∧ ds ≤ 0 ∧ gB o5051 0 39
set_option maxRecDepth 100000 in
set_option maxHeartbeats 4000000 in
theorem cp_5047_Block_way (l : Launch) (hl0 : l.stackTraces = false) (D : va_G) (I : FieldType → ClassId) (P5032 : List Nat) (F5033 : Nat → va_E) (q5034 : Nat) (q5035 : Nat) (p5036 : Int32) (qo5037 : Nat) (p5038 : Int32) (p5039 : Int32) (p5040 : Int32) (p5041 : Int32) (p5042 : Int32) (p5043 : Int32) (p5044 : Int32) (p5045 : Int32) (p5046 : Int32) (hmq5034 : q5034 ∈ P5032) (hmq5035 : q5035 ∈ P5032) (heq5034 : F5033 q5034 = .inr (17, [.ref qo5037, .ref q5035, .int p5038, .int p5039])) (heq5035 : F5033 q5035 = .inr (20, [.int p5040, .int p5041, .int p5042, .int p5043, .int p5044, .int p5045, .int p5046])) (bp5038 : gB p5038 0 39) (bp5039 : gB p5039 0 39) (bp5040 : gB p5040 0 32) (bp5041 : gB p5041 0 1999) (bp5044 : gB p5044 0 1999) (bp5045 : gB p5045 0 1) (bp5046 : gB p5046 0 1) : CtA (gV D I) l yX12_way cX12_way 2 (some FieldType.int) 0 0 0 0 [.ref q5034, .int p5036] (va_pl P5032 F5033) (pp_5047_Block_way D I P5032 F5033 q5034 q5035 p5036 qo5037 p5038 p5039 p5040 p5041 p5042 p5043 p5044 p5045 p5046) gNA := by
  refine CtA_of hl0 (by decide) (Nat.le_of_ble_eq_true rfl) ?_
  have bp5036 := gB_any p5036
  have bp5042 := gB_any p5042
  have bp5043 := gB_any p5043
  refine G_iload_n 1 dr_cX12_way_0 rfl ?_
  refine G_if_ne 11 dr_cX12_way_1 (by decide +kernel) (fun hc5048 => ?_) (fun hc5048 => ?_)
  · have r5049 : p5036.toInt ≠ 0 := gj_neq hc5048 (show Int32.toInt 0 = 0 by decide)
    refine G_aload_n 0 dr_cX12_way_11 rfl ?_
    refine Gp_get 3 hmq5034 heq5034 dr_cX12_way_12 (gk_X12 D I) (Nat.le_of_ble_eq_true rfl) wr_9_230 rfl ?_
    exact G_iretA dr_cX12_way_15 rfl (Nat.le_of_ble_eq_true rfl) (Nat.le_of_ble_eq_true rfl) ⟨p5039, rfl, rfl, (Nat.le_of_ble_eq_true rfl), (Nat.le_of_ble_eq_true rfl), bp5039⟩
  · have r5050 : p5036.toInt = 0 := gj_eq hc5048 (show Int32.toInt 0 = 0 by decide)
    have bp5036' : gB p5036 0 0 := ⟨by omega, by omega⟩
    refine G_aload_n 0 dr_cX12_way_4 rfl ?_
    refine Gp_get 2 hmq5034 heq5034 dr_cX12_way_5 (gk_X12 D I) (Nat.le_of_ble_eq_true rfl) wr_9_226 rfl ?_
    refine G_goto 15 dr_cX12_way_8 (by decide +kernel) ?_
    exact G_iretA dr_cX12_way_15 rfl (Nat.le_of_ble_eq_true rfl) (Nat.le_of_ble_eq_true rfl) ⟨p5038, rfl, rfl, (Nat.le_of_ble_eq_true rfl), (Nat.le_of_ble_eq_true rfl), bp5038⟩
abbrev ky_4747_SpillForgeModel_behind : gKey := (cX17_behind, 4, "SpillForgeModel", none, [], "behind", fun _ _ => True)
def pt_4747_SpillForgeModel_behind (D : va_G) (I : FieldType → ClassId) (γ el : Nat → Nat → Nat) (P4743 : List Nat) (F4744 : Nat → va_E) (q4745 : Nat) (q4746 : Nat) : Option Value → va_W → Nat → Nat → Prop := fun r w dc ds => ∃ (F7366 : Nat → va_E), r = none ∧ w = va_pl P4743 F7366 ∧ RS D I P4743 F7366 γ el ∧ rStr γ [] F4744 F7366 ∧ dc ≤ 0 ∧ ds ≤ 0
set_option maxRecDepth 100000 in
set_option maxHeartbeats 4000000 in
theorem ct_4747_SpillForgeModel_behind (l : Launch) (hl0 : l.stackTraces = false) (D : va_G) (I : FieldType → ClassId) (γ el : Nat → Nat → Nat) (P4743 : List Nat) (F4744 : Nat → va_E) (q4745 : Nat) (q4746 : Nat) (hT : RS D I P4743 F4744 γ el) (htq4745 : rKd γ q4745 10) (htq4746 : rKd γ q4746 2) : CtA (gV D I) l yX17_behind cX17_behind 4 none 1 21 0 0 [.ref q4745, .ref q4746] (va_pl P4743 F4744) (pt_4747_SpillForgeModel_behind D I γ el P4743 F4744 q4745 q4746) gNA := by
  refine CtA_of hl0 (by decide) (Nat.le_of_ble_eq_true rfl) ?_
  refine G_iconst 0 dr_cX17_behind_0 (by decide +kernel) ?_
  refine G_istore_n (L' := [(2, .int 0), (0, .ref q4745), (1, .ref q4746)]) dr_cX17_behind_1 (Nat.le_of_ble_eq_true rfl) rfl ?_
  have hlp2_6835 : ∀ (n2_6835 : Nat) (F6833 : Nat → va_E) (g6832 : Int32), gB g6832 0 32 → RS D I P4743 F6833 γ el → rStr γ [] F4744 F6833 → ((33 : Int) - g6832.toInt).toNat < n2_6835 → G (gV D I) l (gRm 1 21 0 0) (gMA (gV D I) (pt_4747_SpillForgeModel_behind D I γ el P4743 F4744 q4745 q4746) gNA 0 0) ky_4747_SpillForgeModel_behind 2 [(2, .int g6832), (0, .ref q4745), (1, .ref q4746)] [] (va_pl P4743 F6833) 0 0 := by
    intro n2_6835
    induction n2_6835 with
    | zero => intro F6833 g6832 bg6832 hT6834 hs6835 hm2_6835; exact absurd hm2_6835 (Nat.not_lt_zero _)
    | succ n2_6835 ih2_6835 =>
      intro F6833 g6832 bg6832 hT6834 hs6835 hm2_6835
      have hs6837 : rStr γ [] F4744 F6833 := fun b h0 hb hw => (hs6835 b h0 hb hw).trans ((rStr_rf (γ := γ) (W := []) (F := F4744)) b h0 hb hw).symm
      have hs6838 : rStr γ [] F4744 F6833 := rStr_tr (rStr_rf (γ := γ) (W := []) (F := F4744)) hs6837
      refine G_iload_n 0 dr_cX17_behind_2 rfl ?_
      refine G_bipush 32 dr_cX17_behind_3 (by decide +kernel) ?_
      refine G_icmp_ge 21 dr_cX17_behind_5 (by decide +kernel) (fun hc6839 => ?_) (fun hc6839 => ?_)
      · have r6840 : 32 ≤ g6832.toInt := gj_leL hc6839 (show Int32.toInt 32 = 32 by decide)
        have bg6832' : gB g6832 32 32 := ⟨by omega, by omega⟩
        refine G_iconst 0 dr_cX17_behind_21 (by decide +kernel) ?_
        refine G_istore_n (L' := [(2, .int 0), (0, .ref q4745), (1, .ref q4746)]) dr_cX17_behind_22 (Nat.le_of_ble_eq_true rfl) rfl ?_
        have hlp23_7076 : ∀ (n23_7076 : Nat) (F7074 : Nat → va_E) (g7073 : Int32), gB g7073 0 2 → RS D I P4743 F7074 γ el → rStr γ [] F4744 F7074 → ((3 : Int) - g7073.toInt).toNat < n23_7076 → G (gV D I) l (gRm 1 21 0 0) (gMA (gV D I) (pt_4747_SpillForgeModel_behind D I γ el P4743 F4744 q4745 q4746) gNA 0 0) ky_4747_SpillForgeModel_behind 23 [(2, .int g7073), (0, .ref q4745), (1, .ref q4746)] [] (va_pl P4743 F7074) 0 0 := by
          intro n23_7076
          induction n23_7076 with
          | zero => intro F7074 g7073 bg7073 hT7075 hs7076 hm23_7076; exact absurd hm23_7076 (Nat.not_lt_zero _)
          | succ n23_7076 ih23_7076 =>
            intro F7074 g7073 bg7073 hT7075 hs7076 hm23_7076
            have hs7078 : rStr γ [] F6833 F7074 := fun b h0 hb hw => (hs7076 b h0 hb hw).trans (hs6835 b h0 hb hw).symm
            have hs7079 : rStr γ [] F4744 F7074 := rStr_tr hs6835 hs7078
            refine G_iload_n 0 dr_cX17_behind_23 rfl ?_
            refine G_aload_n 2 dr_cX17_behind_24 rfl ?_
            have hm7080 : q4746 ∈ P4743 := RS_m hT7075 htq4746 (by decide)
            obtain ⟨q7082, q7083, p7084, p7085, he7081, ht7092, ht7086, ht7087, ht7088, ht7089, ht7090, bp7084, bp7085, r7091, r7093, r7094⟩ := show rk_2 γ q4746 (F7074 q4746) from RS_o hT7075 htq4746
            have hm7095 : q7083 ∈ P4743 := RS_m hT7075 ht7088 (by decide)
            obtain ⟨p7097, p7098, p7099, p7100, p7101, p7102, p7103, he7096, bp7097, bp7098, bp7101, bp7102, bp7103, r7104, r7105, r7106, r7107⟩ := show rk_1 γ q7083 (F7074 q7083) from RS_o hT7075 ht7088
            have bp7099 := gB_any p7099
            have bp7100 := gB_any p7100
            refine Gw_callV (As := []) (gV_ok D I) (cp_1809_Block_ways l hl0 D I P4743 F7074 q4746 q7083 q7082 p7084 p7085 p7097 p7098 p7099 p7100 p7101 p7102 p7103 hm7080 hm7095 he7081 he7096 bp7084 bp7085 bp7097 bp7098 bp7101 bp7102 bp7103) dr_cX17_behind_25 ⟨wr_10_166, wr_1_38, wr_10_169, by decide, rfl, (Nat.le_of_ble_eq_true rfl), (Nat.le_of_ble_eq_true rfl)⟩ wr_10_167 wr_10_168 hm7080 he7081 rfl (show 0 + 0 ≤ 0 by first | omega | decide) (show 0 + 0 ≤ 0 by first | omega | decide) (Nat.le_of_ble_eq_true rfl) (fun r7111 w7112 dc7108 ds7109 hp7110 => ?_) (fun _ _ _ _ _ z => z.elim)
            obtain ⟨o7113, rfl, rfl, hdc, hds, bo7113⟩ := hp7110
            change G _ _ _ _ _ _ _ (.int o7113 :: _) _ _ _
            refine G_widen (cs' := 0) (sl' := 0) (by omega) (by omega) ?_
            refine G_icmp_ge 72 dr_cX17_behind_28 (by decide +kernel) (fun hc7114 => ?_) (fun hc7114 => ?_)
            · have r7115 : o7113.toInt ≤ g7073.toInt := gC_le hc7114
              exact G_vretA dr_cX17_behind_72 rfl (Nat.le_of_ble_eq_true rfl) (Nat.le_of_ble_eq_true rfl) ⟨F7074, rfl, rfl, hT7075, hs7076, (Nat.le_of_ble_eq_true rfl), (Nat.le_of_ble_eq_true rfl)⟩
            · have r7116 : g7073.toInt < o7113.toInt := gC_nle hc7114
              have bg7073' : gB g7073 0 1 := ⟨by omega, by omega⟩
              have bo7113' : gB o7113 1 2 := ⟨by omega, by omega⟩
              refine G_iconst 0 dr_cX17_behind_31 (by decide +kernel) ?_
              refine G_istore_n (L' := [(3, .int 0), (2, .int g7073), (0, .ref q4745), (1, .ref q4746)]) dr_cX17_behind_32 (Nat.le_of_ble_eq_true rfl) rfl ?_
              have hlp33_7214 : ∀ (n33_7214 : Nat) (F7212 : Nat → va_E) (g7211 : Int32), gB g7211 0 32 → RS D I P4743 F7212 γ el → rStr γ [] F4744 F7212 → ((33 : Int) - g7211.toInt).toNat < n33_7214 → G (gV D I) l (gRm 1 21 0 0) (gMA (gV D I) (pt_4747_SpillForgeModel_behind D I γ el P4743 F4744 q4745 q4746) gNA 0 0) ky_4747_SpillForgeModel_behind 33 [(3, .int g7211), (2, .int g7073), (0, .ref q4745), (1, .ref q4746)] [] (va_pl P4743 F7212) 0 0 := by
                intro n33_7214
                induction n33_7214 with
                | zero => intro F7212 g7211 bg7211 hT7213 hs7214 hm33_7214; exact absurd hm33_7214 (Nat.not_lt_zero _)
                | succ n33_7214 ih33_7214 =>
                  intro F7212 g7211 bg7211 hT7213 hs7214 hm33_7214
                  have hs7216 : rStr γ [] F7074 F7212 := fun b h0 hb hw => (hs7214 b h0 hb hw).trans (hs7076 b h0 hb hw).symm
                  have he7217 : F7212 q4746 = .inr (17, [.ref q7082, .ref q7083, .int p7084, .int p7085]) := (hs7216 q4746 (rT0 htq4746 (by decide)) (rT1 htq4746 (by decide)) (rT2 htq4746 (by decide))).trans he7081
                  have he7218 : F7212 q7083 = .inr (20, [.int p7097, .int p7098, .int p7099, .int p7100, .int p7101, .int p7102, .int p7103]) := (hs7216 q7083 (rT0 ht7088 (by decide)) (rT1 ht7088 (by decide)) (rT2 ht7088 (by decide))).trans he7096
                  have hs7219 : rStr γ [] F4744 F7212 := rStr_tr hs7076 hs7216
                  refine G_iload_n 0 dr_cX17_behind_33 rfl ?_
                  refine G_bipush 32 dr_cX17_behind_34 (by decide +kernel) ?_
                  refine G_icmp_ge 66 dr_cX17_behind_36 (by decide +kernel) (fun hc7220 => ?_) (fun hc7220 => ?_)
                  · have r7221 : 32 ≤ g7211.toInt := gj_leL hc7220 (show Int32.toInt 32 = 32 by decide)
                    have bg7211' : gB g7211 32 32 := ⟨by omega, by omega⟩
                    obtain ⟨z7222, hz7222⟩ : ∃ z : Int32, z = g7073 + Int32.ofInt 1 := ⟨_, rfl⟩
                    have ez7222 : z7222.toInt = g7073.toInt + 1 := gI_inc hz7222 (by decide) bg7073' (by decide) (by decide)
                    have bz7222 : gB z7222 1 2 := ⟨by omega, by omega⟩
                    refine G_iinc (L' := [(2, .int z7222), (3, .int g7211), (0, .ref q4745), (1, .ref q4746)]) z7222 1 dr_cX17_behind_66 rfl hz7222.symm (Nat.le_of_ble_eq_true rfl) rfl ?_
                    refine G_goto 23 dr_cX17_behind_69 (by decide +kernel) ?_
                    refine G_lv (L' := [(2, .int z7222), (0, .ref q4745), (1, .ref q4746)]) [0, 2, 3] rfl ?_
                    exact ih23_7076 F7212 z7222 (gB_w bz7222 (by decide) (by decide)) hT7213 hs7214 (by omega)
                  · have r7223 : g7211.toInt < 32 := gj_nleL hc7220 (show Int32.toInt 32 = 32 by decide)
                    have bg7211' : gB g7211 0 31 := ⟨by omega, by omega⟩
                    refine G_aload_n 2 dr_cX17_behind_39 rfl ?_
                    have hm7224 : q4745 ∈ P4743 := RS_m hT7213 htq4745 (by decide)
                    obtain ⟨q7226, q7227, p7228, p7229, p7230, p7231, p7232, p7233, p7234, p7235, p7236, p7237, p7238, p7239, p7240, p7241, p7242, he7225, hB7269, ht7243, ht7244, ht7245, ht7246, ht7247, ht7248, ht7249, ht7250, ht7251, ht7252, ht7253, ht7254, ht7255, ht7256, ht7257, ht7258, ht7259, ht7260, ht7261, ht7262, ht7263, ht7264, ht7265, ht7266, hB7270⟩ := show rk_10 γ (F7212 q4745) from RS_o hT7213 htq4745
                    refine Gp_get 2 hm7224 he7225 dr_cX17_behind_40 (gk_X17 D I) (Nat.le_of_ble_eq_true rfl) wr_7_76 rfl ?_
                    refine G_iload_n 0 dr_cX17_behind_43 rfl ?_
                    refine G_dup2_11 dr_cX17_behind_44 rfl rfl ?_
                    have hm7271 : (γ 9 2) ∈ P4743 := RS_m hT7213 ht7247 (by decide)
                    obtain ⟨f7273, he7272, wf7273⟩ := show rk_35 I (F7212 (γ 9 2)) from RS_o hT7213 ht7247
                    refine Gp_lald 2 hm7271 he7272 dr_cX17_behind_45 rfl (gB_in bg7211' (by decide) (by decide)) (G_namL fun u7274 hu7274 => ?_)
                    have qu7274 : lb_Q u7274 (2000 - 64 * g7211.toInt) := lb_Wld hu7274 wf7273 (by omega) (by omega) (lb_Mod0 (by omega) (by omega))
                    refine G_aload_n 2 dr_cX17_behind_46 rfl ?_
                    refine Gp_get 0 hm7224 he7225 dr_cX17_behind_47 (gk_X17 D I) (Nat.le_of_ble_eq_true rfl) wr_7_74 rfl ?_
                    refine G_aload_n 3 dr_cX17_behind_50 rfl ?_
                    refine G_iload_n 1 dr_cX17_behind_51 rfl ?_
                    refine Gw_callV (As := [.int g7073]) (gV_ok D I) (cp_5047_Block_way l hl0 D I P4743 F7212 q4746 q7083 g7073 q7082 p7084 p7085 p7097 p7098 p7099 p7100 p7101 p7102 p7103 hm7080 hm7095 he7217 he7218 bp7084 bp7085 bp7097 bp7098 bp7101 bp7102 bp7103) dr_cX17_behind_52 ⟨wr_10_170, wr_1_38, wr_10_173, by decide, rfl, (Nat.le_of_ble_eq_true rfl), (Nat.le_of_ble_eq_true rfl)⟩ wr_10_171 wr_10_172 hm7080 he7217 rfl (show 0 + 0 ≤ 0 by first | omega | decide) (show 0 + 0 ≤ 0 by first | omega | decide) (Nat.le_of_ble_eq_true rfl) (fun r7278 w7279 dc7275 ds7276 hp7277 => ?_) (fun _ _ _ _ _ z => z.elim)
                    obtain ⟨o7280, rfl, rfl, hdc, hds, bo7280⟩ := hp7277
                    change G _ _ _ _ _ _ _ (.int o7280 :: _) _ _ _
                    refine G_widen (cs' := 0) (sl' := 0) (by omega) (by omega) ?_
                    have hm7281 : (γ 9 0) ∈ P4743 := RS_m hT7213 ht7245 (by decide)
                    obtain ⟨f7283, he7282, hg7284⟩ := show rk_12 I γ (F7212 (γ 9 0)) from RS_o hT7213 ht7245
                    obtain ⟨q7285, hx7287⟩ : ∃ x, x = γ 10 o7280.toInt.toNat := ⟨_, rfl⟩
                    have ht7286 : rKd γ q7285 11 := by rw [hx7287]; exact (hg7284 _ (show o7280.toInt.toNat < 40 by omega)).2.1
                    refine Gp_aald 5 hm7281 he7282 dr_cX17_behind_55 rfl rfl (gB_in bo7280 (by decide) (by decide)) ?_
                    rw [show f7283 o7280.toNatClampNeg = some q7285 from (hg7284 _ (show o7280.toInt.toNat < 40 by omega)).1.trans (by rw [hx7287])]
                    change G _ _ _ _ _ _ _ (.ref q7285 :: _) _ _ _
                    refine G_iload_n 0 dr_cX17_behind_56 rfl ?_
                    have hm7288 : q7285 ∈ P4743 := RS_m hT7213 ht7286 (by decide)
                    obtain ⟨f7290, he7289, wf7290⟩ := show rk_11 I (F7212 q7285) from RS_o hT7213 ht7286
                    refine Gp_lald 2 hm7288 he7289 dr_cX17_behind_57 rfl (gB_in bg7211' (by decide) (by decide)) (G_namL fun u7291 hu7291 => ?_)
                    have qu7291 : lb_Q u7291 (2000 - 64 * g7211.toInt) := lb_Wld hu7291 wf7290 (by omega) (by omega) (lb_Mod0 (by omega) (by omega))
                    refine G_lor dr_cX17_behind_58 (G_namL fun u7292 hu7292 => ?_)
                    have qu7292 : lb_Q u7292 (2000 - 64 * g7211.toInt) := lb_Qor hu7292 qu7274 qu7291
                    refine Gp_last 2 hm7271 he7272 dr_cX17_behind_59 rfl (gB_in bg7211' (by decide) (by decide)) (fun F7293 e7294 n7295 => ?_)
                    obtain ⟨f7296, hf7296⟩ : ∃ z, z = vp_updL f7273 g7211.toNatClampNeg u7292 := ⟨_, rfl⟩
                    rw [← hf7296] at e7294
                    have he7297 : F7293 q4746 = .inr (17, [.ref q7082, .ref q7083, .int p7084, .int p7085]) := (n7295 q4746 (rn_oa he7217 he7272)).trans he7217
                    have he7298 : F7293 q7083 = .inr (20, [.int p7097, .int p7098, .int p7099, .int p7100, .int p7101, .int p7102, .int p7103]) := (n7295 q7083 (rn_oa he7218 he7272)).trans he7218
                    have he7299 : F7293 q4745 = .inr (22, [.ref (γ 9 0), .ref (γ 9 1), .ref (γ 9 2), .ref (γ 9 3), .ref (γ 9 4), .ref (γ 9 5), .ref (γ 9 6), .ref (γ 9 7), .ref (γ 9 8), .int p7228, .int p7229, .int p7230, .int p7231, .int p7232, .int p7233, .ref (γ 9 15), .ref (γ 9 16), .ref (γ 9 17), .ref (γ 9 18), .ref (γ 9 19), .ref (γ 9 20), .ref (γ 9 21), .ref (γ 9 22), .int p7234, .int p7235, .int p7236, .int p7237, .int p7238, .ref q7226, .ref (γ 9 29), .int p7239, .ref (γ 9 31), .int p7240, .int p7241, .int p7242, .ref q7227]) := (n7295 q4745 (rn_oa he7225 he7272)).trans he7225
                    have he7300 : F7293 (γ 9 0) = .inl (I (.array .long), 40, .inr (.inr (.inr (.inr f7283)))) := (n7295 (γ 9 0) (rn_ref_long he7282 he7272)).trans he7282
                    have he7301 : F7293 q7285 = .inl (I .long, 32, .inr (.inl f7290)) := (n7295 q7285 (rn_ty ht7286 ht7247 (by decide))).trans he7289
                    have he7302 : F7293 (γ 9 2) = .inl (I .long, 32, .inr (.inl f7296)) := e7294
                    have hs7303 : rStr γ [] F4744 F7293 := rStr_put hs7214 n7295 ht7247 (by decide)
                    have wf7296 : lb_W f7296 (32) (32) (2000) := lb_Wst hf7296 wf7273 (by omega) (lb_Mod0 (by omega) (by omega)) qu7292
                    obtain ⟨z7304, hz7304⟩ : ∃ z : Int32, z = g7211 + Int32.ofInt 1 := ⟨_, rfl⟩
                    have ez7304 : z7304.toInt = g7211.toInt + 1 := gI_inc hz7304 (by decide) bg7211' (by decide) (by decide)
                    have bz7304 : gB z7304 1 32 := ⟨by omega, by omega⟩
                    refine G_iinc (L' := [(3, .int z7304), (2, .int g7073), (0, .ref q4745), (1, .ref q4746)]) z7304 0 dr_cX17_behind_60 rfl hz7304.symm (Nat.le_of_ble_eq_true rfl) rfl ?_
                    refine G_goto 33 dr_cX17_behind_63 (by decide +kernel) ?_
                    have hT7305 : RS D I P4743 F7293 γ el := RS_set hT7213 n7295 ht7247 (by decide) ⟨f7296, he7302, wf7296⟩
                    exact ih33_7214 F7293 z7304 (gB_w bz7304 (by decide) (by decide)) hT7305 hs7303 (by omega)
              exact hlp33_7214 (((33 : Int) - 0).toNat + 1) F7074 0 (gB_w (gBl (show Int32.toInt 0 = 0 by decide)) (by decide) (by decide)) hT7075 hs7076 (Nat.lt_succ_self _)
        exact hlp23_7076 (((3 : Int) - 0).toNat + 1) F6833 0 (gB_w (gBl (show Int32.toInt 0 = 0 by decide)) (by decide) (by decide)) hT6834 hs6835 (Nat.lt_succ_self _)
      · have r7306 : g6832.toInt < 32 := gj_nleL hc6839 (show Int32.toInt 32 = 32 by decide)
        have bg6832' : gB g6832 0 31 := ⟨by omega, by omega⟩
        refine G_aload_n 1 dr_cX17_behind_8 rfl ?_
        have hm7307 : q4745 ∈ P4743 := RS_m hT6834 htq4745 (by decide)
        obtain ⟨q7309, q7310, p7311, p7312, p7313, p7314, p7315, p7316, p7317, p7318, p7319, p7320, p7321, p7322, p7323, p7324, p7325, he7308, hB7352, ht7326, ht7327, ht7328, ht7329, ht7330, ht7331, ht7332, ht7333, ht7334, ht7335, ht7336, ht7337, ht7338, ht7339, ht7340, ht7341, ht7342, ht7343, ht7344, ht7345, ht7346, ht7347, ht7348, ht7349, hB7353⟩ := show rk_10 γ (F6833 q4745) from RS_o hT6834 htq4745
        refine Gp_get 2 hm7307 he7308 dr_cX17_behind_9 (gk_X17 D I) (Nat.le_of_ble_eq_true rfl) wr_7_76 rfl ?_
        refine G_iload_n 0 dr_cX17_behind_12 rfl ?_
        refine G_lconst 0 dr_cX17_behind_13 rfl ?_
        have hm7354 : (γ 9 2) ∈ P4743 := RS_m hT6834 ht7330 (by decide)
        obtain ⟨f7356, he7355, wf7356⟩ := show rk_35 I (F6833 (γ 9 2)) from RS_o hT6834 ht7330
        refine Gp_last 2 hm7354 he7355 dr_cX17_behind_14 rfl (gB_in bg6832' (by decide) (by decide)) (fun F7357 e7358 n7359 => ?_)
        obtain ⟨f7360, hf7360⟩ : ∃ z, z = vp_updL f7356 g6832.toNatClampNeg 0 := ⟨_, rfl⟩
        rw [← hf7360] at e7358
        have he7361 : F7357 q4745 = .inr (22, [.ref (γ 9 0), .ref (γ 9 1), .ref (γ 9 2), .ref (γ 9 3), .ref (γ 9 4), .ref (γ 9 5), .ref (γ 9 6), .ref (γ 9 7), .ref (γ 9 8), .int p7311, .int p7312, .int p7313, .int p7314, .int p7315, .int p7316, .ref (γ 9 15), .ref (γ 9 16), .ref (γ 9 17), .ref (γ 9 18), .ref (γ 9 19), .ref (γ 9 20), .ref (γ 9 21), .ref (γ 9 22), .int p7317, .int p7318, .int p7319, .int p7320, .int p7321, .ref q7309, .ref (γ 9 29), .int p7322, .ref (γ 9 31), .int p7323, .int p7324, .int p7325, .ref q7310]) := (n7359 q4745 (rn_oa he7308 he7355)).trans he7308
        have he7362 : F7357 (γ 9 2) = .inl (I .long, 32, .inr (.inl f7360)) := e7358
        have hs7363 : rStr γ [] F4744 F7357 := rStr_put hs6835 n7359 ht7330 (by decide)
        have wf7360 : lb_W f7360 (32) (32) (2000) := lb_Wst hf7360 wf7356 (by omega) (lb_Mod0 (by omega) (by omega)) lb_Q0
        obtain ⟨z7364, hz7364⟩ : ∃ z : Int32, z = g6832 + Int32.ofInt 1 := ⟨_, rfl⟩
        have ez7364 : z7364.toInt = g6832.toInt + 1 := gI_inc hz7364 (by decide) bg6832' (by decide) (by decide)
        have bz7364 : gB z7364 1 32 := ⟨by omega, by omega⟩
        refine G_iinc (L' := [(2, .int z7364), (0, .ref q4745), (1, .ref q4746)]) z7364 0 dr_cX17_behind_15 rfl hz7364.symm (Nat.le_of_ble_eq_true rfl) rfl ?_
        refine G_goto 2 dr_cX17_behind_18 (by decide +kernel) ?_
        have hT7365 : RS D I P4743 F7357 γ el := RS_set hT6834 n7359 ht7330 (by decide) ⟨f7360, he7362, wf7360⟩
        exact ih2_6835 F7357 z7364 (gB_w bz7364 (by decide) (by decide)) hT7365 hs7363 (by omega)
  exact hlp2_6835 (((33 : Int) - 0).toNat + 1) F4744 0 (gB_w (gBl (show Int32.toInt 0 = 0 by decide)) (by decide) (by decide)) hT (rStr_rf (γ := γ) (W := []) (F := F4744)) (Nat.lt_succ_self _)
abbrev ky_7373_SpillForgeModel_value : gKey := (cX17_value, 3, "SpillForgeModel", (some FieldType.int), [], "value", fun _ _ => True)
def pt_7373_SpillForgeModel_value (D : va_G) (I : FieldType → ClassId) (γ el : Nat → Nat → Nat) (P7367 : List Nat) (F7368 : Nat → va_E) (q7369 : Nat) (p7370 : Int32) (p7371 : Int32) : Option Value → va_W → Nat → Nat → Prop := fun r w dc ds => ∃ (o7428 : Int32), r = some (.int o7428) ∧ w = va_pl P7367 F7368 ∧ dc ≤ 0 ∧ ds ≤ 0
set_option maxRecDepth 100000 in
set_option maxHeartbeats 4000000 in
theorem ct_7373_SpillForgeModel_value (l : Launch) (hl0 : l.stackTraces = false) (D : va_G) (I : FieldType → ClassId) (γ el : Nat → Nat → Nat) (P7367 : List Nat) (F7368 : Nat → va_E) (q7369 : Nat) (p7370 : Int32) (p7371 : Int32) (hT : RS D I P7367 F7368 γ el) (htq7369 : rKd γ q7369 10) (bp7370 : gB p7370 0 1) (x7372 : (p7370.toInt = 0 ∨ (0 ≤ p7371.toInt ∧ p7371.toInt ≤ 1999))) : CtA (gV D I) l yX17_value cX17_value 3 (some FieldType.int) 0 0 0 0 [.ref q7369, .int p7370, .int p7371] (va_pl P7367 F7368) (pt_7373_SpillForgeModel_value D I γ el P7367 F7368 q7369 p7370 p7371) gNA := by
  refine CtA_of hl0 (by decide) (Nat.le_of_ble_eq_true rfl) ?_
  have bp7371 := gB_any p7371
  refine G_iload_n 1 dr_cX17_value_0 rfl ?_
  refine G_if_eq 13 dr_cX17_value_1 (by decide +kernel) (fun hc7374 => ?_) (fun hc7374 => ?_)
  · have r7375 : p7370.toInt = 0 := gj_eq hc7374 (show Int32.toInt 0 = 0 by decide)
    have bp7370' : gB p7370 0 0 := ⟨by omega, by omega⟩
    refine G_iload_n 2 dr_cX17_value_13 rfl ?_
    exact G_iretA dr_cX17_value_14 rfl (Nat.le_of_ble_eq_true rfl) (Nat.le_of_ble_eq_true rfl) ⟨p7371, rfl, rfl, (Nat.le_of_ble_eq_true rfl), (Nat.le_of_ble_eq_true rfl)⟩
  · have r7376 : p7370.toInt ≠ 0 := gj_neq hc7374 (show Int32.toInt 0 = 0 by decide)
    have bp7370' : gB p7370 1 1 := ⟨by omega, by omega⟩
    refine G_aload_n 0 dr_cX17_value_4 rfl ?_
    have hm7377 : q7369 ∈ P7367 := RS_m hT htq7369 (by decide)
    obtain ⟨q7379, q7380, p7381, p7382, p7383, p7384, p7385, p7386, p7387, p7388, p7389, p7390, p7391, p7392, p7393, p7394, p7395, he7378, hB7422, ht7396, ht7397, ht7398, ht7399, ht7400, ht7401, ht7402, ht7403, ht7404, ht7405, ht7406, ht7407, ht7408, ht7409, ht7410, ht7411, ht7412, ht7413, ht7414, ht7415, ht7416, ht7417, ht7418, ht7419, hB7423⟩ := show rk_10 γ (F7368 q7369) from RS_o hT htq7369
    refine Gp_get 20 hm7377 he7378 dr_cX17_value_5 (gk_X17 D I) (Nat.le_of_ble_eq_true rfl) wr_7_94 rfl ?_
    refine G_iload_n 2 dr_cX17_value_8 rfl ?_
    have hm7424 : (γ 9 20) ∈ P7367 := RS_m hT ht7412 (by decide)
    obtain ⟨f7426, he7425⟩ := show rk_22 I (F7368 (γ 9 20)) from RS_o hT ht7412
    refine Gp_iald 0 hm7424 he7425 dr_cX17_value_9 rfl (gB_inr (by omega) (by omega)) (G_nam fun z7427 hz7427 => ?_)
    have bz7427 : gB z7427 (-2147483648) 2147483647 := gB_any z7427
    refine G_goto 14 dr_cX17_value_10 (by decide +kernel) ?_
    exact G_iretA dr_cX17_value_14 rfl (Nat.le_of_ble_eq_true rfl) (Nat.le_of_ble_eq_true rfl) ⟨z7427, rfl, rfl, (Nat.le_of_ble_eq_true rfl), (Nat.le_of_ble_eq_true rfl)⟩
abbrev ky_7434_SpillForgeModel_leads : gKey := (cX17_leads, 3, "SpillForgeModel", (some FieldType.boolean), [], "leads", fun _ _ => True)
def pt_7434_SpillForgeModel_leads (D : va_G) (I : FieldType → ClassId) (γ el : Nat → Nat → Nat) (P7430 : List Nat) (F7431 : Nat → va_E) (q7432 : Nat) (p7433 : Int32) : Option Value → va_W → Nat → Nat → Prop := fun r w dc ds => ∃ (o7626 : Int32), r = some (.int o7626) ∧ w = va_pl P7430 F7431 ∧ dc ≤ 0 ∧ ds ≤ 0 ∧ gB o7626 0 1
set_option maxRecDepth 100000 in
set_option maxHeartbeats 4000000 in
theorem ct_7434_SpillForgeModel_leads (l : Launch) (hl0 : l.stackTraces = false) (D : va_G) (I : FieldType → ClassId) (γ el : Nat → Nat → Nat) (P7430 : List Nat) (F7431 : Nat → va_E) (q7432 : Nat) (p7433 : Int32) (hT : RS D I P7430 F7431 γ el) (htq7432 : rKd γ q7432 2) : CtA (gV D I) l yX17_leads cX17_leads 3 (some FieldType.boolean) 1 21 0 0 [.ref q7432, .int p7433] (va_pl P7430 F7431) (pt_7434_SpillForgeModel_leads D I γ el P7430 F7431 q7432 p7433) gNA := by
  refine CtA_of hl0 (by decide) (Nat.le_of_ble_eq_true rfl) ?_
  have bp7433 := gB_any p7433
  refine G_iconst 0 dr_cX17_leads_0 (by decide +kernel) ?_
  refine G_istore_n (L' := [(2, .int 0), (0, .ref q7432), (1, .int p7433)]) dr_cX17_leads_1 (Nat.le_of_ble_eq_true rfl) rfl ?_
  have hlp2_7577 : ∀ (n2_7577 : Nat) (g7577 : Int32), gB g7577 0 2 → ((3 : Int) - g7577.toInt).toNat < n2_7577 → G (gV D I) l (gRm 1 21 0 0) (gMA (gV D I) (pt_7434_SpillForgeModel_leads D I γ el P7430 F7431 q7432 p7433) gNA 0 0) ky_7434_SpillForgeModel_leads 2 [(2, .int g7577), (0, .ref q7432), (1, .int p7433)] [] (va_pl P7430 F7431) 0 0 := by
    intro n2_7577
    induction n2_7577 with
    | zero => intro g7577 bg7577 hm2_7577; exact absurd hm2_7577 (Nat.not_lt_zero _)
    | succ n2_7577 ih2_7577 =>
      intro g7577 bg7577 hm2_7577
      refine G_iload_n 0 dr_cX17_leads_2 rfl ?_
      refine G_aload_n 1 dr_cX17_leads_3 rfl ?_
      have hm7579 : q7432 ∈ P7430 := RS_m hT htq7432 (by decide)
      obtain ⟨q7581, q7582, p7583, p7584, he7580, ht7591, ht7585, ht7586, ht7587, ht7588, ht7589, bp7583, bp7584, r7590, r7592, r7593⟩ := show rk_2 γ q7432 (F7431 q7432) from RS_o hT htq7432
      have hm7594 : q7582 ∈ P7430 := RS_m hT ht7587 (by decide)
      obtain ⟨p7596, p7597, p7598, p7599, p7600, p7601, p7602, he7595, bp7596, bp7597, bp7600, bp7601, bp7602, r7603, r7604, r7605, r7606⟩ := show rk_1 γ q7582 (F7431 q7582) from RS_o hT ht7587
      have bp7598 := gB_any p7598
      have bp7599 := gB_any p7599
      refine Gw_callV (As := []) (gV_ok D I) (cp_1809_Block_ways l hl0 D I P7430 F7431 q7432 q7582 q7581 p7583 p7584 p7596 p7597 p7598 p7599 p7600 p7601 p7602 hm7579 hm7594 he7580 he7595 bp7583 bp7584 bp7596 bp7597 bp7600 bp7601 bp7602) dr_cX17_leads_4 ⟨wr_10_166, wr_1_38, wr_10_169, by decide, rfl, (Nat.le_of_ble_eq_true rfl), (Nat.le_of_ble_eq_true rfl)⟩ wr_10_167 wr_10_168 hm7579 he7580 rfl (show 0 + 0 ≤ 0 by first | omega | decide) (show 0 + 0 ≤ 0 by first | omega | decide) (Nat.le_of_ble_eq_true rfl) (fun r7610 w7611 dc7607 ds7608 hp7609 => ?_) (fun _ _ _ _ _ z => z.elim)
      obtain ⟨o7612, rfl, rfl, hdc, hds, bo7612⟩ := hp7609
      change G _ _ _ _ _ _ _ (.int o7612 :: _) _ _ _
      refine G_widen (cs' := 0) (sl' := 0) (by omega) (by omega) ?_
      refine G_icmp_ge 27 dr_cX17_leads_7 (by decide +kernel) (fun hc7613 => ?_) (fun hc7613 => ?_)
      · have r7614 : o7612.toInt ≤ g7577.toInt := gC_le hc7613
        refine G_iconst 0 dr_cX17_leads_27 (by decide +kernel) ?_
        exact G_zretA FieldType.boolean dr_cX17_leads_28 rfl rfl (Nat.le_of_ble_eq_true rfl) (Nat.le_of_ble_eq_true rfl) ⟨0, rfl, rfl, (Nat.le_of_ble_eq_true rfl), (Nat.le_of_ble_eq_true rfl), (gB_w (gBl (show Int32.toInt 0 = 0 by decide)) (by decide) (by decide))⟩
      · have r7615 : g7577.toInt < o7612.toInt := gC_nle hc7613
        have bg7577' : gB g7577 0 1 := ⟨by omega, by omega⟩
        have bo7612' : gB o7612 1 2 := ⟨by omega, by omega⟩
        refine G_aload_n 1 dr_cX17_leads_10 rfl ?_
        refine G_iload_n 0 dr_cX17_leads_11 rfl ?_
        refine Gw_callV (As := [.int g7577]) (gV_ok D I) (cp_5047_Block_way l hl0 D I P7430 F7431 q7432 q7582 g7577 q7581 p7583 p7584 p7596 p7597 p7598 p7599 p7600 p7601 p7602 hm7579 hm7594 he7580 he7595 bp7583 bp7584 bp7596 bp7597 bp7600 bp7601 bp7602) dr_cX17_leads_12 ⟨wr_10_170, wr_1_38, wr_10_173, by decide, rfl, (Nat.le_of_ble_eq_true rfl), (Nat.le_of_ble_eq_true rfl)⟩ wr_10_171 wr_10_172 hm7579 he7580 rfl (show 0 + 0 ≤ 0 by first | omega | decide) (show 0 + 0 ≤ 0 by first | omega | decide) (Nat.le_of_ble_eq_true rfl) (fun r7619 w7620 dc7616 ds7617 hp7618 => ?_) (fun _ _ _ _ _ z => z.elim)
        obtain ⟨o7621, rfl, rfl, hdc, hds, bo7621⟩ := hp7618
        change G _ _ _ _ _ _ _ (.int o7621 :: _) _ _ _
        refine G_widen (cs' := 0) (sl' := 0) (by omega) (by omega) ?_
        refine G_iload_n 2 dr_cX17_leads_15 rfl ?_
        refine G_icmp_ne 21 dr_cX17_leads_16 (by decide +kernel) (fun hc7622 => ?_) (fun hc7622 => ?_)
        · have r7623 : o7621.toInt ≠ p7433.toInt := gC_ne hc7622
          obtain ⟨z7624, hz7624⟩ : ∃ z : Int32, z = g7577 + Int32.ofInt 1 := ⟨_, rfl⟩
          have ez7624 : z7624.toInt = g7577.toInt + 1 := gI_inc hz7624 (by decide) bg7577' (by decide) (by decide)
          have bz7624 : gB z7624 1 2 := ⟨by omega, by omega⟩
          refine G_iinc (L' := [(2, .int z7624), (0, .ref q7432), (1, .int p7433)]) z7624 0 dr_cX17_leads_21 rfl hz7624.symm (Nat.le_of_ble_eq_true rfl) rfl ?_
          refine G_goto 2 dr_cX17_leads_24 (by decide +kernel) ?_
          exact ih2_7577 z7624 (gB_w bz7624 (by decide) (by decide)) (by omega)
        · have r7625 : o7621.toInt = p7433.toInt := gC_eq hc7622
          have bp7433' : gB p7433 0 39 := ⟨by omega, by omega⟩
          refine G_iconst 1 dr_cX17_leads_19 (by decide +kernel) ?_
          exact G_zretA FieldType.boolean dr_cX17_leads_20 rfl rfl (Nat.le_of_ble_eq_true rfl) (Nat.le_of_ble_eq_true rfl) ⟨1, rfl, rfl, (Nat.le_of_ble_eq_true rfl), (Nat.le_of_ble_eq_true rfl), (gB_w (gBl (show Int32.toInt 1 = 1 by decide)) (by decide) (by decide))⟩
  exact hlp2_7577 (((3 : Int) - 0).toNat + 1) 0 (gB_w (gBl (show Int32.toInt 0 = 0 by decide)) (by decide) (by decide)) (Nat.lt_succ_self _)
abbrev ky_7723_Code_get : gKey := (cX13_get, 2, "SpillForgeModel$Code", (some (FieldType.object "SpillForgeModel$Block")), [], "get", fun _ _ => True)
def pp_7723_Code_get (D : va_G) (I : FieldType → ClassId) (P7701 : List Nat) (F7702 : Nat → va_E) (q7703 : Nat) (q7704 : Nat) (q7705 : Nat) (p7706 : Int32) (qo7707 : Nat) (p7708 : Int32) (p7709 : Int32) (p7710 : Int32) (p7711 : Int32) (f7712 : Nat → Option Nat) (n7713 : Nat) (x7714 : Nat) (qo7715 : Nat) (qo7716 : Nat) (p7717 : Int32) (p7718 : Int32) : Option Value → va_W → Nat → Nat → Prop := fun r w dc ds => r = some (.ref x7714) ∧ w = va_pl P7701 F7702 ∧ dc ≤ 0 ∧ ds ≤ 0
set_option maxRecDepth 100000 in
set_option maxHeartbeats 4000000 in
theorem cp_7723_Code_get (l : Launch) (hl0 : l.stackTraces = false) (D : va_G) (I : FieldType → ClassId) (P7701 : List Nat) (F7702 : Nat → va_E) (q7703 : Nat) (q7704 : Nat) (q7705 : Nat) (p7706 : Int32) (qo7707 : Nat) (p7708 : Int32) (p7709 : Int32) (p7710 : Int32) (p7711 : Int32) (f7712 : Nat → Option Nat) (n7713 : Nat) (x7714 : Nat) (qo7715 : Nat) (qo7716 : Nat) (p7717 : Int32) (p7718 : Int32) (hmq7703 : q7703 ∈ P7701) (hmq7704 : q7704 ∈ P7701) (hmq7705 : q7705 ∈ P7701) (hmx7714 : x7714 ∈ P7701) (heq7703 : F7702 q7703 = .inr (18, [.ref q7704, .ref qo7707, .int p7708, .int p7709])) (heq7704 : F7702 q7704 = .inr (4, [.int p7710, .ref q7705, .int p7711])) (heq7705 : F7702 q7705 = .inl (I (.object "java/lang/Object"), n7713, .inr (.inr (.inr (.inr f7712))))) (hex7714 : F7702 x7714 = .inr (17, [.ref qo7715, .ref qo7716, .int p7717, .int p7718])) (bp7706 : gB p7706 0 16777216) (bp7711 : gB p7711 0 16777216) (x7719 : p7706.toInt < p7711.toInt) (x7720 : p7711.toInt ≤ (n7713 : Int)) (x7721 : f7712 p7706.toNatClampNeg = some x7714) (x7722 : ((n7713 : Int) ≤ 16777216)) : CtA (gV D I) l yX13_get cX13_get 2 (some (FieldType.object "SpillForgeModel$Block")) 3 64 0 0 [.ref q7703, .int p7706] (va_pl P7701 F7702) (pp_7723_Code_get D I P7701 F7702 q7703 q7704 q7705 p7706 qo7707 p7708 p7709 p7710 p7711 f7712 n7713 x7714 qo7715 qo7716 p7717 p7718) gNA := by
  refine CtA_of hl0 (by decide) (Nat.le_of_ble_eq_true rfl) ?_
  have bp7708 := gB_any p7708
  have bp7709 := gB_any p7709
  have bp7710 := gB_any p7710
  have bp7717 := gB_any p7717
  have bp7718 := gB_any p7718
  refine G_aload_n 0 dr_cX13_get_0 rfl ?_
  refine Gp_get 0 hmq7703 heq7703 dr_cX13_get_1 (gk_X13 D I) (Nat.le_of_ble_eq_true rfl) wr_7_30 rfl ?_
  refine G_iload_n 1 dr_cX13_get_4 rfl ?_
  refine Gw_callV (As := [.int p7706]) (gV_ok D I) (cp_22_ArrayList_get l hl0 D I P7701 F7702 q7704 q7705 p7706 p7710 p7711 f7712 n7713 x7714 hmq7704 hmq7705 heq7704 heq7705 bp7706 bp7711 (by omega) (by omega) (by assumption) (by omega)) dr_cX13_get_5 ⟨wr_10_62, wr_1_18, wr_10_65, by decide, rfl, (Nat.le_of_ble_eq_true rfl), (Nat.le_of_ble_eq_true rfl)⟩ wr_10_63 wr_10_64 hmq7704 heq7704 rfl (show 0 + 0 ≤ 0 by first | omega | decide) (show 0 + 0 ≤ 0 by first | omega | decide) (Nat.le_of_ble_eq_true rfl) (fun r7727 w7728 dc7724 ds7725 hp7726 => ?_) (fun _ _ _ _ _ z => z.elim)
  obtain ⟨rfl, rfl, hdc, hds⟩ := hp7726
  change G _ _ _ _ _ _ _ (.ref x7714 :: _) _ _ _
  refine G_widen (cs' := 0) (sl' := 0) (by omega) (by omega) ?_
  refine Gp_cast hmx7714 hex7714 rfl dr_cX13_get_8 wr_9_161 (gr_cast 0 rfl) ?_
  exact G_aretA (FieldType.object "SpillForgeModel$Block") dr_cX13_get_11 rfl (by first | exact Or.inl ⟨_, rfl⟩ | exact Or.inr ⟨_, rfl⟩) (Or.inr ⟨_, rfl⟩) (Nat.le_of_ble_eq_true rfl) (Nat.le_of_ble_eq_true rfl) ⟨rfl, rfl, (Nat.le_of_ble_eq_true rfl), (Nat.le_of_ble_eq_true rfl)⟩
abbrev ky_7632_Code_countRows : gKey := (cX13_countRows, 3, "SpillForgeModel$Code", (some FieldType.int), [], "countRows", fun _ _ => True)
def pt_7632_Code_countRows (D : va_G) (I : FieldType → ClassId) (γ el : Nat → Nat → Nat) (P7628 : List Nat) (F7629 : Nat → va_E) (q7630 : Nat) : Option Value → va_W → Nat → Nat → Prop := fun r w dc ds => ∃ (o8579 : Int32), r = some (.int o8579) ∧ w = va_pl P7628 F7629 ∧ dc ≤ 0 ∧ ds ≤ 0
set_option maxRecDepth 100000 in
set_option maxHeartbeats 4000000 in
theorem ct_7632_Code_countRows (l : Launch) (hl0 : l.stackTraces = false) (D : va_G) (I : FieldType → ClassId) (γ el : Nat → Nat → Nat) (P7628 : List Nat) (F7629 : Nat → va_E) (q7630 : Nat) (hT : RS D I P7628 F7629 γ el) (htq7630 : rKd γ q7630 9) (x7631 : 0 < γ 6 (γ 1 q7630)) : CtA (gV D I) l yX13_countRows cX13_countRows 3 (some FieldType.int) 4 85 0 0 [.ref q7630] (va_pl P7628 F7629) (pt_7632_Code_countRows D I γ el P7628 F7629 q7630) gNA := by
  refine CtA_of hl0 (by decide) (Nat.le_of_ble_eq_true rfl) ?_
  refine G_iconst 0 dr_cX13_countRows_0 (by decide +kernel) ?_
  refine G_istore_n (L' := [(1, .int 0), (0, .ref q7630)]) dr_cX13_countRows_1 (Nat.le_of_ble_eq_true rfl) rfl ?_
  refine G_iconst 0 dr_cX13_countRows_2 (by decide +kernel) ?_
  refine G_istore_n (L' := [(2, .int 0), (1, .int 0), (0, .ref q7630)]) dr_cX13_countRows_3 (Nat.le_of_ble_eq_true rfl) rfl ?_
  have hlp4_8487 : ∀ (n4_8487 : Nat) (g8486 : Int32) (g8487 : Int32), gB g8486 0 1000000 → ((1000001 : Int) - g8486.toInt).toNat < n4_8487 → G (gV D I) l (gRm 4 85 0 0) (gMA (gV D I) (pt_7632_Code_countRows D I γ el P7628 F7629 q7630) gNA 0 0) ky_7632_Code_countRows 4 [(2, .int g8486), (1, .int g8487), (0, .ref q7630)] [] (va_pl P7628 F7629) 0 0 := by
    intro n4_8487
    induction n4_8487 with
    | zero => intro g8486 g8487 bg8486 hm4_8487; exact absurd hm4_8487 (Nat.not_lt_zero _)
    | succ n4_8487 ih4_8487 =>
      intro g8486 g8487 bg8486 hm4_8487
      have bg8487 := gB_any g8487
      refine G_iload_n 0 dr_cX13_countRows_4 rfl ?_
      refine G_aload_n 2 dr_cX13_countRows_5 rfl ?_
      have hm8489 : q7630 ∈ P7628 := RS_m hT htq7630 (by decide)
      obtain ⟨q8491, q8492, p8493, p8494, he8490, ht8510, ht8495, ht8496, ht8497, ht8498, r8499, r8500, r8501, r8502, r8503, r8504, r8505, r8506, r8507, r8508, r8509⟩ := show rk_9 γ el q7630 (F7629 q7630) from RS_o hT htq7630
      have bp8493 : gB p8493 0 1000000 := ⟨by omega, by omega⟩
      have bp8494 : gB p8494 0 1000000 := ⟨by omega, by omega⟩
      refine Gp_get 3 hm8489 he8490 dr_cX13_countRows_6 (gk_X13 D I) (Nat.le_of_ble_eq_true rfl) wr_7_33 rfl ?_
      refine G_icmp_ge 32 dr_cX13_countRows_9 (by decide +kernel) (fun hc8511 => ?_) (fun hc8511 => ?_)
      · have r8512 : p8494.toInt ≤ g8486.toInt := gC_le hc8511
        refine G_iload_n 1 dr_cX13_countRows_32 rfl ?_
        exact G_iretA dr_cX13_countRows_33 rfl (Nat.le_of_ble_eq_true rfl) (Nat.le_of_ble_eq_true rfl) ⟨g8487, rfl, rfl, (Nat.le_of_ble_eq_true rfl), (Nat.le_of_ble_eq_true rfl)⟩
      · have r8513 : g8486.toInt < p8494.toInt := gC_nle hc8511
        have bg8486' : gB g8486 0 999999 := ⟨by omega, by omega⟩
        have bp8494' : gB p8494 1 1000000 := ⟨by omega, by omega⟩
        refine G_iload_n 1 dr_cX13_countRows_12 rfl ?_
        refine G_aload_n 2 dr_cX13_countRows_13 rfl ?_
        refine G_iload_n 0 dr_cX13_countRows_14 rfl ?_
        have hm8514 : q8491 ∈ P7628 := RS_m hT ht8495 (by decide)
        obtain ⟨⟨p8516, p8517, q8518, he8515, r8519, r8520, r8521, r8523⟩, r8522⟩ := show rk_4 D I γ el F7629 q8491 from RS_o hT ht8495
        have bp8516 := gB_any p8516
        have bp8517 : gB p8517 0 1000000 := ⟨by omega, by omega⟩
        obtain ⟨r8524, r8525, n8532, f8533, r8526, r8527, r8528, r8529, r8530, r8531⟩ := rLC_n r8521 (by omega)
        have hm8534 : q8518 ∈ P7628 := RS_m hT r8524 (by decide)
        obtain ⟨q8535, hx8536⟩ : ∃ x, x = el q8491 g8486.toInt.toNat := ⟨_, rfl⟩
        have hx8537 : f8533 g8486.toNatClampNeg = some q8535 := (r8530 _ (show g8486.toInt.toNat < γ 2 q8491 by omega)).trans (by rw [hx8536])
        have ht8540 : rKd γ q8535 2 := by rw [hx8536]; exact (r8506 _ (by omega)).resolve_right (fun z => absurd z.1 (by omega))
        have ht8541 : rFm γ q8535 q8491 := by rw [hx8536]; exact (r8522 _ (show g8486.toInt.toNat < γ 2 q8491 by omega)).2.1
        have hm8542 : q8535 ∈ P7628 := RS_m hT ht8540 (by decide)
        obtain ⟨q8544, q8545, p8546, p8547, he8543, ht8554, ht8548, ht8549, ht8550, ht8551, ht8552, bp8546, bp8547, r8553, r8555, r8556⟩ := show rk_2 γ q8535 (F7629 q8535) from RS_o hT ht8540
        refine Gw_callV (As := [.int g8486]) (gV_ok D I) (cp_7723_Code_get l hl0 D I P7628 F7629 q7630 q8491 q8518 g8486 q8492 p8493 p8494 p8516 p8517 f8533 n8532 q8535 q8544 q8545 p8546 p8547 hm8489 hm8514 hm8534 hm8542 he8490 he8515 r8526 he8543 (gB_w bg8486' (by decide) (by decide)) (gB_w bp8517 (by decide) (by decide)) (by omega) (by omega) (by assumption) (by omega)) dr_cX13_countRows_15 ⟨wr_10_138, wr_1_15, wr_10_141, by decide, rfl, (Nat.le_of_ble_eq_true rfl), (Nat.le_of_ble_eq_true rfl)⟩ wr_10_139 wr_10_140 hm8489 he8490 rfl (show 0 + 0 ≤ 0 by first | omega | decide) (show 0 + 0 ≤ 0 by first | omega | decide) (Nat.le_of_ble_eq_true rfl) (fun r8560 w8561 dc8557 ds8558 hp8559 => ?_) (fun _ _ _ _ _ z => z.elim)
        obtain ⟨rfl, rfl, hdc, hds⟩ := hp8559
        change G _ _ _ _ _ _ _ (.ref q8535 :: _) _ _ _
        refine G_widen (cs' := 0) (sl' := 0) (by omega) (by omega) ?_
        refine Gp_get 0 hm8542 he8543 dr_cX13_countRows_18 (gk_X12 D I) (Nat.le_of_ble_eq_true rfl) wr_9_219 rfl ?_
        have hm8562 : q8544 ∈ P7628 := RS_m hT ht8548 (by decide)
        obtain ⟨⟨p8564, p8565, q8566, he8563, r8567, r8568, r8569, r8571⟩, r8570⟩ := show rk_3 D I γ el F7629 q8544 from RS_o hT ht8548
        have bp8564 := gB_any p8564
        have bp8565 : gB p8565 0 1000000 := ⟨by omega, by omega⟩
        refine Gw_callV (As := []) (gV_ok D I) (cp_7_ArrayList_size l hl0 D I P7628 F7629 q8544 p8564 q8566 p8565 hm8562 he8563 (gB_w bp8565 (by decide) (by decide))) dr_cX13_countRows_21 ⟨wr_9_157, wr_1_18, wr_9_160, by decide, rfl, (Nat.le_of_ble_eq_true rfl), (Nat.le_of_ble_eq_true rfl)⟩ wr_9_158 wr_9_159 hm8562 he8563 rfl (show 0 + 0 ≤ 0 by first | omega | decide) (show 0 + 0 ≤ 0 by first | omega | decide) (Nat.le_of_ble_eq_true rfl) (fun r8575 w8576 dc8572 ds8573 hp8574 => ?_) (fun _ _ _ _ _ z => z.elim)
        obtain ⟨rfl, rfl, hdc, hds⟩ := hp8574
        change G _ _ _ _ _ _ _ (.int p8565 :: _) _ _ _
        refine G_widen (cs' := 0) (sl' := 0) (by omega) (by omega) ?_
        refine G_iadd dr_cX13_countRows_24 (G_nam fun z8577 hz8577 => ?_)
        have bz8577 : gB z8577 (-2147483648) 2147483647 := gB_any z8577
        refine G_istore_n (L' := [(1, .int z8577), (2, .int g8486), (0, .ref q7630)]) dr_cX13_countRows_25 (Nat.le_of_ble_eq_true rfl) rfl ?_
        obtain ⟨z8578, hz8578⟩ : ∃ z : Int32, z = g8486 + Int32.ofInt 1 := ⟨_, rfl⟩
        have ez8578 : z8578.toInt = g8486.toInt + 1 := gI_inc hz8578 (by decide) bg8486' (by decide) (by decide)
        have bz8578 : gB z8578 1 1000000 := ⟨by omega, by omega⟩
        refine G_iinc (L' := [(2, .int z8578), (1, .int z8577), (0, .ref q7630)]) z8578 1 dr_cX13_countRows_26 rfl hz8578.symm (Nat.le_of_ble_eq_true rfl) rfl ?_
        refine G_goto 4 dr_cX13_countRows_29 (by decide +kernel) ?_
        exact ih4_8487 z8578 z8577 (gB_w bz8578 (by decide) (by decide)) (by omega)
  exact hlp4_8487 (((1000001 : Int) - 0).toNat + 1) 0 0 (gB_w (gBl (show Int32.toInt 0 = 0 by decide)) (by decide) (by decide)) (Nat.lt_succ_self _)
abbrev ky_8586_Code_count : gKey := (cX13_count, 5, "SpillForgeModel$Code", (some FieldType.int), [], "count", fun _ _ => True)
def pt_8586_Code_count (D : va_G) (I : FieldType → ClassId) (γ el : Nat → Nat → Nat) (P8581 : List Nat) (F8582 : Nat → va_E) (q8583 : Nat) (p8584 : Int32) : Option Value → va_W → Nat → Nat → Prop := fun r w dc ds => ∃ (o12412 : Int32), r = some (.int o12412) ∧ w = va_pl P8581 F8582 ∧ dc ≤ 0 ∧ ds ≤ 0
set_option maxRecDepth 100000 in
set_option maxHeartbeats 4000000 in
theorem ct_8586_Code_count (l : Launch) (hl0 : l.stackTraces = false) (D : va_G) (I : FieldType → ClassId) (γ el : Nat → Nat → Nat) (P8581 : List Nat) (F8582 : Nat → va_E) (q8583 : Nat) (p8584 : Int32) (hT : RS D I P8581 F8582 γ el) (htq8583 : rKd γ q8583 9) (x8585 : 0 < γ 6 (γ 1 q8583)) : CtA (gV D I) l yX13_count cX13_count 5 (some FieldType.int) 4 85 0 0 [.ref q8583, .int p8584] (va_pl P8581 F8582) (pt_8586_Code_count D I γ el P8581 F8582 q8583 p8584) gNA := by
  refine CtA_of hl0 (by decide) (Nat.le_of_ble_eq_true rfl) ?_
  have bp8584 := gB_any p8584
  refine G_iconst 0 dr_cX13_count_0 (by decide +kernel) ?_
  refine G_istore_n (L' := [(2, .int 0), (0, .ref q8583), (1, .int p8584)]) dr_cX13_count_1 (Nat.le_of_ble_eq_true rfl) rfl ?_
  refine G_iconst 0 dr_cX13_count_2 (by decide +kernel) ?_
  refine G_istore_n (L' := [(3, .int 0), (2, .int 0), (0, .ref q8583), (1, .int p8584)]) dr_cX13_count_3 (Nat.le_of_ble_eq_true rfl) rfl ?_
  have hlp4_12154 : ∀ (n4_12154 : Nat) (g12153 : Int32) (g12154 : Int32), gB g12153 0 1000000 → ((1000001 : Int) - g12153.toInt).toNat < n4_12154 → G (gV D I) l (gRm 4 85 0 0) (gMA (gV D I) (pt_8586_Code_count D I γ el P8581 F8582 q8583 p8584) gNA 0 0) ky_8586_Code_count 4 [(3, .int g12153), (2, .int g12154), (0, .ref q8583), (1, .int p8584)] [] (va_pl P8581 F8582) 0 0 := by
    intro n4_12154
    induction n4_12154 with
    | zero => intro g12153 g12154 bg12153 hm4_12154; exact absurd hm4_12154 (Nat.not_lt_zero _)
    | succ n4_12154 ih4_12154 =>
      intro g12153 g12154 bg12153 hm4_12154
      have bg12154 := gB_any g12154
      refine G_iload_n 0 dr_cX13_count_4 rfl ?_
      refine G_aload_n 2 dr_cX13_count_5 rfl ?_
      have hm12156 : q8583 ∈ P8581 := RS_m hT htq8583 (by decide)
      obtain ⟨q12158, q12159, p12160, p12161, he12157, ht12177, ht12162, ht12163, ht12164, ht12165, r12166, r12167, r12168, r12169, r12170, r12171, r12172, r12173, r12174, r12175, r12176⟩ := show rk_9 γ el q8583 (F8582 q8583) from RS_o hT htq8583
      have bp12160 : gB p12160 0 1000000 := ⟨by omega, by omega⟩
      have bp12161 : gB p12161 0 1000000 := ⟨by omega, by omega⟩
      refine Gp_get 3 hm12156 he12157 dr_cX13_count_6 (gk_X13 D I) (Nat.le_of_ble_eq_true rfl) wr_7_33 rfl ?_
      refine G_icmp_ge 74 dr_cX13_count_9 (by decide +kernel) (fun hc12178 => ?_) (fun hc12178 => ?_)
      · have r12179 : p12161.toInt ≤ g12153.toInt := gC_le hc12178
        refine G_iload_n 1 dr_cX13_count_74 rfl ?_
        exact G_iretA dr_cX13_count_75 rfl (Nat.le_of_ble_eq_true rfl) (Nat.le_of_ble_eq_true rfl) ⟨g12154, rfl, rfl, (Nat.le_of_ble_eq_true rfl), (Nat.le_of_ble_eq_true rfl)⟩
      · have r12180 : g12153.toInt < p12161.toInt := gC_nle hc12178
        have bg12153' : gB g12153 0 999999 := ⟨by omega, by omega⟩
        have bp12161' : gB p12161 1 1000000 := ⟨by omega, by omega⟩
        refine G_iconst 0 dr_cX13_count_12 (by decide +kernel) ?_
        refine G_istore (L' := [(4, .int 0), (3, .int g12153), (2, .int g12154), (0, .ref q8583), (1, .int p8584)]) dr_cX13_count_13 (Nat.le_of_ble_eq_true rfl) rfl ?_
        have hlp15_12297 : ∀ (n15_12297 : Nat) (g12296 : Int32) (g12297 : Int32), gB g12296 0 1000000 → ((1000001 : Int) - g12296.toInt).toNat < n15_12297 → G (gV D I) l (gRm 4 85 0 0) (gMA (gV D I) (pt_8586_Code_count D I γ el P8581 F8582 q8583 p8584) gNA 0 0) ky_8586_Code_count 15 [(4, .int g12296), (3, .int g12153), (2, .int g12297), (0, .ref q8583), (1, .int p8584)] [] (va_pl P8581 F8582) 0 0 := by
          intro n15_12297
          induction n15_12297 with
          | zero => intro g12296 g12297 bg12296 hm15_12297; exact absurd hm15_12297 (Nat.not_lt_zero _)
          | succ n15_12297 ih15_12297 =>
            intro g12296 g12297 bg12296 hm15_12297
            have bg12297 := gB_any g12297
            refine G_iload 0 dr_cX13_count_15 rfl ?_
            refine G_aload_n 3 dr_cX13_count_17 rfl ?_
            refine G_iload_n 1 dr_cX13_count_18 rfl ?_
            have hm12299 : q12158 ∈ P8581 := RS_m hT ht12162 (by decide)
            obtain ⟨⟨p12301, p12302, q12303, he12300, r12304, r12305, r12306, r12308⟩, r12307⟩ := show rk_4 D I γ el F8582 q12158 from RS_o hT ht12162
            have bp12301 := gB_any p12301
            have bp12302 : gB p12302 0 1000000 := ⟨by omega, by omega⟩
            obtain ⟨r12309, r12310, n12317, f12318, r12311, r12312, r12313, r12314, r12315, r12316⟩ := rLC_n r12306 (by omega)
            have hm12319 : q12303 ∈ P8581 := RS_m hT r12309 (by decide)
            obtain ⟨q12320, hx12321⟩ : ∃ x, x = el q12158 g12153.toInt.toNat := ⟨_, rfl⟩
            have hx12322 : f12318 g12153.toNatClampNeg = some q12320 := (r12315 _ (show g12153.toInt.toNat < γ 2 q12158 by omega)).trans (by rw [hx12321])
            have ht12325 : rKd γ q12320 2 := by rw [hx12321]; exact (r12173 _ (by omega)).resolve_right (fun z => absurd z.1 (by omega))
            have ht12326 : rFm γ q12320 q12158 := by rw [hx12321]; exact (r12307 _ (show g12153.toInt.toNat < γ 2 q12158 by omega)).2.1
            have hm12327 : q12320 ∈ P8581 := RS_m hT ht12325 (by decide)
            obtain ⟨q12329, q12330, p12331, p12332, he12328, ht12339, ht12333, ht12334, ht12335, ht12336, ht12337, bp12331, bp12332, r12338, r12340, r12341⟩ := show rk_2 γ q12320 (F8582 q12320) from RS_o hT ht12325
            refine Gw_callV (As := [.int g12153]) (gV_ok D I) (cp_7723_Code_get l hl0 D I P8581 F8582 q8583 q12158 q12303 g12153 q12159 p12160 p12161 p12301 p12302 f12318 n12317 q12320 q12329 q12330 p12331 p12332 hm12156 hm12299 hm12319 hm12327 he12157 he12300 r12311 he12328 (gB_w bg12153' (by decide) (by decide)) (gB_w bp12302 (by decide) (by decide)) (by omega) (by omega) (by assumption) (by omega)) dr_cX13_count_19 ⟨wr_10_138, wr_1_15, wr_10_141, by decide, rfl, (Nat.le_of_ble_eq_true rfl), (Nat.le_of_ble_eq_true rfl)⟩ wr_10_139 wr_10_140 hm12156 he12157 rfl (show 0 + 0 ≤ 0 by first | omega | decide) (show 0 + 0 ≤ 0 by first | omega | decide) (Nat.le_of_ble_eq_true rfl) (fun r12345 w12346 dc12342 ds12343 hp12344 => ?_) (fun _ _ _ _ _ z => z.elim)
            obtain ⟨rfl, rfl, hdc, hds⟩ := hp12344
            change G _ _ _ _ _ _ _ (.ref q12320 :: _) _ _ _
            refine G_widen (cs' := 0) (sl' := 0) (by omega) (by omega) ?_
            refine Gp_get 0 hm12327 he12328 dr_cX13_count_22 (gk_X12 D I) (Nat.le_of_ble_eq_true rfl) wr_9_219 rfl ?_
            have hm12347 : q12329 ∈ P8581 := RS_m hT ht12333 (by decide)
            obtain ⟨⟨p12349, p12350, q12351, he12348, r12352, r12353, r12354, r12356⟩, r12355⟩ := show rk_3 D I γ el F8582 q12329 from RS_o hT ht12333
            have bp12349 := gB_any p12349
            have bp12350 : gB p12350 0 1000000 := ⟨by omega, by omega⟩
            refine Gw_callV (As := []) (gV_ok D I) (cp_7_ArrayList_size l hl0 D I P8581 F8582 q12329 p12349 q12351 p12350 hm12347 he12348 (gB_w bp12350 (by decide) (by decide))) dr_cX13_count_25 ⟨wr_9_157, wr_1_18, wr_9_160, by decide, rfl, (Nat.le_of_ble_eq_true rfl), (Nat.le_of_ble_eq_true rfl)⟩ wr_9_158 wr_9_159 hm12347 he12348 rfl (show 0 + 0 ≤ 0 by first | omega | decide) (show 0 + 0 ≤ 0 by first | omega | decide) (Nat.le_of_ble_eq_true rfl) (fun r12360 w12361 dc12357 ds12358 hp12359 => ?_) (fun _ _ _ _ _ z => z.elim)
            obtain ⟨rfl, rfl, hdc, hds⟩ := hp12359
            change G _ _ _ _ _ _ _ (.int p12350 :: _) _ _ _
            refine G_widen (cs' := 0) (sl' := 0) (by omega) (by omega) ?_
            refine G_icmp_ge 68 dr_cX13_count_28 (by decide +kernel) (fun hc12362 => ?_) (fun hc12362 => ?_)
            · have r12363 : p12350.toInt ≤ g12296.toInt := gC_le hc12362
              obtain ⟨z12364, hz12364⟩ : ∃ z : Int32, z = g12153 + Int32.ofInt 1 := ⟨_, rfl⟩
              have ez12364 : z12364.toInt = g12153.toInt + 1 := gI_inc hz12364 (by decide) bg12153' (by decide) (by decide)
              have bz12364 : gB z12364 1 1000000 := ⟨by omega, by omega⟩
              refine G_iinc (L' := [(3, .int z12364), (4, .int g12296), (2, .int g12297), (0, .ref q8583), (1, .int p8584)]) z12364 1 dr_cX13_count_68 rfl hz12364.symm (Nat.le_of_ble_eq_true rfl) rfl ?_
              refine G_goto 4 dr_cX13_count_71 (by decide +kernel) ?_
              refine G_lv (L' := [(3, .int z12364), (2, .int g12297), (0, .ref q8583), (1, .int p8584)]) [0, 2, 3, 4] rfl ?_
              exact ih4_12154 z12364 g12297 (gB_w bz12364 (by decide) (by decide)) (by omega)
            · have r12365 : g12296.toInt < p12350.toInt := gC_nle hc12362
              have bg12296' : gB g12296 0 999999 := ⟨by omega, by omega⟩
              have bp12350' : gB p12350 1 1000000 := ⟨by omega, by omega⟩
              refine G_iload_n 2 dr_cX13_count_31 rfl ?_
              refine G_aload_n 3 dr_cX13_count_32 rfl ?_
              refine G_iload_n 1 dr_cX13_count_33 rfl ?_
              refine Gw_callV (As := [.int g12153]) (gV_ok D I) (cp_7723_Code_get l hl0 D I P8581 F8582 q8583 q12158 q12303 g12153 q12159 p12160 p12161 p12301 p12302 f12318 n12317 q12320 q12329 q12330 p12331 p12332 hm12156 hm12299 hm12319 hm12327 he12157 he12300 r12311 he12328 (gB_w bg12153' (by decide) (by decide)) (gB_w bp12302 (by decide) (by decide)) (by omega) (by omega) (by assumption) (by omega)) dr_cX13_count_34 ⟨wr_10_138, wr_1_15, wr_10_141, by decide, rfl, (Nat.le_of_ble_eq_true rfl), (Nat.le_of_ble_eq_true rfl)⟩ wr_10_139 wr_10_140 hm12156 he12157 rfl (show 0 + 0 ≤ 0 by first | omega | decide) (show 0 + 0 ≤ 0 by first | omega | decide) (Nat.le_of_ble_eq_true rfl) (fun r12369 w12370 dc12366 ds12367 hp12368 => ?_) (fun _ _ _ _ _ z => z.elim)
              obtain ⟨rfl, rfl, hdc, hds⟩ := hp12368
              change G _ _ _ _ _ _ _ (.ref q12320 :: _) _ _ _
              refine G_widen (cs' := 0) (sl' := 0) (by omega) (by omega) ?_
              refine Gp_get 0 hm12327 he12328 dr_cX13_count_37 (gk_X12 D I) (Nat.le_of_ble_eq_true rfl) wr_9_219 rfl ?_
              refine G_iload 0 dr_cX13_count_40 rfl ?_
              obtain ⟨r12371, r12372, n12379, f12380, r12373, r12374, r12375, r12376, r12377, r12378⟩ := rLC_n r12354 (by omega)
              have hm12381 : q12351 ∈ P8581 := RS_m hT r12371 (by decide)
              obtain ⟨q12382, hx12383⟩ : ∃ x, x = el q12329 g12296.toInt.toNat := ⟨_, rfl⟩
              have hx12384 : f12380 g12296.toNatClampNeg = some q12382 := (r12377 _ (show g12296.toInt.toNat < γ 2 q12329 by omega)).trans (by rw [hx12383])
              have ht12385 : rKd γ q12382 1 := by rw [hx12383]; exact (r12355 _ (show g12296.toInt.toNat < γ 2 q12329 by omega)).1
              have ht12386 : rFm γ q12382 q12329 := by rw [hx12383]; exact (r12355 _ (show g12296.toInt.toNat < γ 2 q12329 by omega)).2.1
              refine Gw_callV (As := [.int g12296]) (gV_ok D I) (cp_22_ArrayList_get l hl0 D I P8581 F8582 q12329 q12351 g12296 p12349 p12350 f12380 n12379 q12382 hm12347 hm12381 he12348 r12373 (gB_w bg12296' (by decide) (by decide)) (gB_w bp12350' (by decide) (by decide)) (by omega) (by omega) (by assumption) (by omega)) dr_cX13_count_42 ⟨wr_10_62, wr_1_18, wr_10_65, by decide, rfl, (Nat.le_of_ble_eq_true rfl), (Nat.le_of_ble_eq_true rfl)⟩ wr_10_63 wr_10_64 hm12347 he12348 rfl (show 0 + 0 ≤ 0 by first | omega | decide) (show 0 + 0 ≤ 0 by first | omega | decide) (Nat.le_of_ble_eq_true rfl) (fun r12390 w12391 dc12387 ds12388 hp12389 => ?_) (fun _ _ _ _ _ z => z.elim)
              obtain ⟨rfl, rfl, hdc, hds⟩ := hp12389
              change G _ _ _ _ _ _ _ (.ref q12382 :: _) _ _ _
              refine G_widen (cs' := 0) (sl' := 0) (by omega) (by omega) ?_
              have hm12392 : q12382 ∈ P8581 := RS_m hT ht12385 (by decide)
              obtain ⟨p12394, p12395, p12396, p12397, p12398, p12399, p12400, he12393, bp12394, bp12395, bp12398, bp12399, bp12400, r12401, r12402, r12403, r12404⟩ := show rk_1 γ q12382 (F8582 q12382) from RS_o hT ht12385
              have bp12396 := gB_any p12396
              have bp12397 := gB_any p12397
              refine Gp_cast hm12392 he12393 rfl dr_cX13_count_45 wr_10_83 (gr_cast 1 rfl) ?_
              refine Gp_get 0 hm12392 he12393 dr_cX13_count_48 (gk_X15 D I) (Nat.le_of_ble_eq_true rfl) wr_9_178 rfl ?_
              refine G_iload_n 4 dr_cX13_count_51 rfl ?_
              refine G_icmp_ne 59 dr_cX13_count_52 (by decide +kernel) (fun hc12405 => ?_) (fun hc12405 => ?_)
              · have r12406 : p12394.toInt ≠ p8584.toInt := gC_ne hc12405
                refine G_iconst 0 dr_cX13_count_59 (by decide +kernel) ?_
                refine G_iadd dr_cX13_count_60 (G_nam fun z12407 hz12407 => ?_)
                have ez12407 : z12407.toInt = g12297.toInt + 0 := by rw [gI_add hz12407 bg12297 (gBl (show Int32.toInt 0 = 0 by decide)) (by decide) (by decide), show Int32.toInt 0 = 0 from by decide]
                have bz12407 : gB z12407 (-2147483648) 2147483647 := gB_add (gI_add hz12407 bg12297 (gBl (show Int32.toInt 0 = 0 by decide)) (by decide) (by decide)) bg12297 (gBl (show Int32.toInt 0 = 0 by decide)) (by decide) (by decide)
                refine G_istore_n (L' := [(2, .int z12407), (4, .int g12296), (3, .int g12153), (0, .ref q8583), (1, .int p8584)]) dr_cX13_count_61 (Nat.le_of_ble_eq_true rfl) rfl ?_
                obtain ⟨z12408, hz12408⟩ : ∃ z : Int32, z = g12296 + Int32.ofInt 1 := ⟨_, rfl⟩
                have ez12408 : z12408.toInt = g12296.toInt + 1 := gI_inc hz12408 (by decide) bg12296' (by decide) (by decide)
                have bz12408 : gB z12408 1 1000000 := ⟨by omega, by omega⟩
                refine G_iinc (L' := [(4, .int z12408), (2, .int z12407), (3, .int g12153), (0, .ref q8583), (1, .int p8584)]) z12408 1 dr_cX13_count_62 rfl hz12408.symm (Nat.le_of_ble_eq_true rfl) rfl ?_
                refine G_goto 15 dr_cX13_count_65 (by decide +kernel) ?_
                refine G_lv (L' := [(4, .int z12408), (3, .int g12153), (2, .int z12407), (0, .ref q8583), (1, .int p8584)]) [0, 2, 1, 3, 4] rfl ?_
                exact ih15_12297 z12408 z12407 (gB_w bz12408 (by decide) (by decide)) (by omega)
              · have r12409 : p12394.toInt = p8584.toInt := gC_eq hc12405
                have bp8584' : gB p8584 0 32 := ⟨by omega, by omega⟩
                refine G_iconst 1 dr_cX13_count_55 (by decide +kernel) ?_
                refine G_goto 60 dr_cX13_count_56 (by decide +kernel) ?_
                refine G_iadd dr_cX13_count_60 (G_nam fun z12410 hz12410 => ?_)
                have bz12410 : gB z12410 (-2147483648) 2147483647 := gB_any z12410
                refine G_istore_n (L' := [(2, .int z12410), (4, .int g12296), (3, .int g12153), (0, .ref q8583), (1, .int p8584)]) dr_cX13_count_61 (Nat.le_of_ble_eq_true rfl) rfl ?_
                obtain ⟨z12411, hz12411⟩ : ∃ z : Int32, z = g12296 + Int32.ofInt 1 := ⟨_, rfl⟩
                have ez12411 : z12411.toInt = g12296.toInt + 1 := gI_inc hz12411 (by decide) bg12296' (by decide) (by decide)
                have bz12411 : gB z12411 1 1000000 := ⟨by omega, by omega⟩
                refine G_iinc (L' := [(4, .int z12411), (2, .int z12410), (3, .int g12153), (0, .ref q8583), (1, .int p8584)]) z12411 1 dr_cX13_count_62 rfl hz12411.symm (Nat.le_of_ble_eq_true rfl) rfl ?_
                refine G_goto 15 dr_cX13_count_65 (by decide +kernel) ?_
                refine G_lv (L' := [(4, .int z12411), (3, .int g12153), (2, .int z12410), (0, .ref q8583), (1, .int p8584)]) [0, 2, 1, 3, 4] rfl ?_
                exact ih15_12297 z12411 z12410 (gB_w bz12411 (by decide) (by decide)) (by omega)
        exact hlp15_12297 (((1000001 : Int) - 0).toNat + 1) 0 g12154 (gB_w (gBl (show Int32.toInt 0 = 0 by decide)) (by decide) (by decide)) (Nat.lt_succ_self _)
  exact hlp4_12154 (((1000001 : Int) - 0).toNat + 1) 0 0 (gB_w (gBl (show Int32.toInt 0 = 0 by decide)) (by decide) (by decide)) (Nat.lt_succ_self _)
abbrev ky_12451_Code_size : gKey := (cX13_size, 1, "SpillForgeModel$Code", (some FieldType.int), [], "size", fun _ _ => True)
def pp_12451_Code_size (D : va_G) (I : FieldType → ClassId) (P12444 : List Nat) (F12445 : Nat → va_E) (q12446 : Nat) (qo12447 : Nat) (qo12448 : Nat) (p12449 : Int32) (p12450 : Int32) : Option Value → va_W → Nat → Nat → Prop := fun r w dc ds => r = some (.int p12450) ∧ w = va_pl P12444 F12445 ∧ dc ≤ 0 ∧ ds ≤ 0
set_option maxRecDepth 100000 in
set_option maxHeartbeats 4000000 in
theorem cp_12451_Code_size (l : Launch) (hl0 : l.stackTraces = false) (D : va_G) (I : FieldType → ClassId) (P12444 : List Nat) (F12445 : Nat → va_E) (q12446 : Nat) (qo12447 : Nat) (qo12448 : Nat) (p12449 : Int32) (p12450 : Int32) (hmq12446 : q12446 ∈ P12444) (heq12446 : F12445 q12446 = .inr (18, [.ref qo12447, .ref qo12448, .int p12449, .int p12450])) : CtA (gV D I) l yX13_size cX13_size 1 (some FieldType.int) 0 0 0 0 [.ref q12446] (va_pl P12444 F12445) (pp_12451_Code_size D I P12444 F12445 q12446 qo12447 qo12448 p12449 p12450) gNA := by
  refine CtA_of hl0 (by decide) (Nat.le_of_ble_eq_true rfl) ?_
  have bp12449 := gB_any p12449
  have bp12450 := gB_any p12450
  refine G_aload_n 0 dr_cX13_size_0 rfl ?_
  refine Gp_get 3 hmq12446 heq12446 dr_cX13_size_1 (gk_X13 D I) (Nat.le_of_ble_eq_true rfl) wr_7_33 rfl ?_
  exact G_iretA dr_cX13_size_4 rfl (Nat.le_of_ble_eq_true rfl) (Nat.le_of_ble_eq_true rfl) ⟨rfl, rfl, (Nat.le_of_ble_eq_true rfl), (Nat.le_of_ble_eq_true rfl)⟩
abbrev ky_12419_SpillForgeModel_reached : gKey := (cX17_reached, 8, "SpillForgeModel", (some FieldType.long), [], "reached", fun _ _ => True)
def pt_12419_SpillForgeModel_reached (D : va_G) (I : FieldType → ClassId) (γ el : Nat → Nat → Nat) (P12414 : List Nat) (F12415 : Nat → va_E) (q12416 : Nat) (p12417 : Int32) : Option Value → va_W → Nat → Nat → Prop := fun r w dc ds => ∃ (ol16010 : Int64), r = some (.long ol16010) ∧ w = va_pl P12414 F12415 ∧ dc ≤ 0 ∧ ds ≤ 0
set_option maxRecDepth 100000 in
set_option maxHeartbeats 4000000 in
theorem ct_12419_SpillForgeModel_reached (l : Launch) (hl0 : l.stackTraces = false) (D : va_G) (I : FieldType → ClassId) (γ el : Nat → Nat → Nat) (P12414 : List Nat) (F12415 : Nat → va_E) (q12416 : Nat) (p12417 : Int32) (hT : RS D I P12414 F12415 γ el) (htq12416 : rKd γ q12416 9) (x12418 : 0 < γ 6 (γ 1 q12416)) : CtA (gV D I) l yX17_reached cX17_reached 8 (some FieldType.long) 4 85 0 0 [.ref q12416, .int p12417] (va_pl P12414 F12415) (pt_12419_SpillForgeModel_reached D I γ el P12414 F12415 q12416 p12417) gNA := by
  refine CtA_of hl0 (by decide) (Nat.le_of_ble_eq_true rfl) ?_
  have bp12417 := gB_any p12417
  refine G_iload_n 1 dr_cX17_reached_0 rfl ?_
  refine G_if_ne 6 dr_cX17_reached_1 (by decide +kernel) (fun hc12420 => ?_) (fun hc12420 => ?_)
  · have r12421 : p12417.toInt ≠ 0 := gj_neq hc12420 (show Int32.toInt 0 = 0 by decide)
    refine G_lconst 1 dr_cX17_reached_6 rfl ?_
    refine G_lstore_n (L' := [(2, .long 1), (0, .ref q12416), (1, .int p12417)]) dr_cX17_reached_7 (Nat.le_of_ble_eq_true rfl) rfl ?_
    refine G_iconst 1 dr_cX17_reached_8 (by decide +kernel) ?_
    refine G_istore (L' := [(4, .int 1), (2, .long 1), (0, .ref q12416), (1, .int p12417)]) dr_cX17_reached_9 (Nat.le_of_ble_eq_true rfl) rfl ?_
    have hlp11_15519 : ∀ (n11_15519 : Nat) (g15517 : Int32) (gl15518 : Int64), gB g15517 0 1 → rpop gl15518 ≤ 64 → (64 - rpop gl15518) + ((g15517.toInt : Int)).toNat < n11_15519 → G (gV D I) l (gRm 4 85 0 0) (gMA (gV D I) (pt_12419_SpillForgeModel_reached D I γ el P12414 F12415 q12416 p12417) gNA 0 0) ky_12419_SpillForgeModel_reached 11 [(4, .int g15517), (2, .long gl15518), (0, .ref q12416), (1, .int p12417)] [] (va_pl P12414 F12415) 0 0 := by
      intro n11_15519
      induction n11_15519 with
      | zero => intro g15517 gl15518 bg15517 x15519 hm11_15519; exact absurd hm11_15519 (Nat.not_lt_zero _)
      | succ n11_15519 ih11_15519 =>
        intro g15517 gl15518 bg15517 x15519 hm11_15519
        refine G_iload 0 dr_cX17_reached_11 rfl ?_
        refine G_if_eq 120 dr_cX17_reached_13 (by decide +kernel) (fun hc15521 => ?_) (fun hc15521 => ?_)
        · have r15522 : g15517.toInt = 0 := gj_eq hc15521 (show Int32.toInt 0 = 0 by decide)
          have bg15517' : gB g15517 0 0 := ⟨by omega, by omega⟩
          refine G_lload_n 1 dr_cX17_reached_120 rfl ?_
          exact G_lretA dr_cX17_reached_121 rfl (Nat.le_of_ble_eq_true rfl) (Nat.le_of_ble_eq_true rfl) ⟨gl15518, rfl, rfl, (Nat.le_of_ble_eq_true rfl), (Nat.le_of_ble_eq_true rfl)⟩
        · have r15523 : g15517.toInt ≠ 0 := gj_neq hc15521 (show Int32.toInt 0 = 0 by decide)
          have bg15517' : gB g15517 1 1 := ⟨by omega, by omega⟩
          refine G_iconst 0 dr_cX17_reached_16 (by decide +kernel) ?_
          refine G_istore (L' := [(4, .int 0), (2, .long gl15518), (0, .ref q12416), (1, .int p12417)]) dr_cX17_reached_17 (Nat.le_of_ble_eq_true rfl) rfl ?_
          refine G_iconst 0 dr_cX17_reached_19 (by decide +kernel) ?_
          refine G_istore (L' := [(5, .int 0), (4, .int 0), (2, .long gl15518), (0, .ref q12416), (1, .int p12417)]) dr_cX17_reached_20 (Nat.le_of_ble_eq_true rfl) rfl ?_
          have hlp22_15769 : ∀ (n22_15769 : Nat) (g15765 : Int32) (g15766 : Int32) (gl15767 : Int64), gB g15765 0 1000000 → gB g15766 0 1 → rpop gl15767 ≤ 64 → rpop gl15518 + ((g15766.toInt : Int)).toNat ≤ rpop gl15767 → ((1000001 : Int) - g15765.toInt).toNat < n22_15769 → G (gV D I) l (gRm 4 85 0 0) (gMA (gV D I) (pt_12419_SpillForgeModel_reached D I γ el P12414 F12415 q12416 p12417) gNA 0 0) ky_12419_SpillForgeModel_reached 22 [(5, .int g15765), (4, .int g15766), (2, .long gl15767), (0, .ref q12416), (1, .int p12417)] [] (va_pl P12414 F12415) 0 0 := by
            intro n22_15769
            induction n22_15769 with
            | zero => intro g15765 g15766 gl15767 bg15765 bg15766 x15768 x15769 hm22_15769; exact absurd hm22_15769 (Nat.not_lt_zero _)
            | succ n22_15769 ih22_15769 =>
              intro g15765 g15766 gl15767 bg15765 bg15766 x15768 x15769 hm22_15769
              refine G_iload 0 dr_cX17_reached_22 rfl ?_
              refine G_aload_n 3 dr_cX17_reached_24 rfl ?_
              have hm15771 : q12416 ∈ P12414 := RS_m hT htq12416 (by decide)
              obtain ⟨q15773, q15774, p15775, p15776, he15772, ht15792, ht15777, ht15778, ht15779, ht15780, r15781, r15782, r15783, r15784, r15785, r15786, r15787, r15788, r15789, r15790, r15791⟩ := show rk_9 γ el q12416 (F12415 q12416) from RS_o hT htq12416
              have bp15775 : gB p15775 0 1000000 := ⟨by omega, by omega⟩
              have bp15776 : gB p15776 0 1000000 := ⟨by omega, by omega⟩
              refine Gw_callV (As := []) (gV_ok D I) (cp_12451_Code_size l hl0 D I P12414 F12415 q12416 q15773 q15774 p15775 p15776 hm15771 he15772) dr_cX17_reached_25 ⟨wr_10_160, wr_1_15, wr_9_131, by decide, rfl, (Nat.le_of_ble_eq_true rfl), (Nat.le_of_ble_eq_true rfl)⟩ wr_9_129 wr_9_130 hm15771 he15772 rfl (show 0 + 0 ≤ 0 by first | omega | decide) (show 0 + 0 ≤ 0 by first | omega | decide) (Nat.le_of_ble_eq_true rfl) (fun r15796 w15797 dc15793 ds15794 hp15795 => ?_) (fun _ _ _ _ _ z => z.elim)
              obtain ⟨rfl, rfl, hdc, hds⟩ := hp15795
              change G _ _ _ _ _ _ _ (.int p15776 :: _) _ _ _
              refine G_widen (cs' := 0) (sl' := 0) (by omega) (by omega) ?_
              refine G_icmp_ge 117 dr_cX17_reached_28 (by decide +kernel) (fun hc15798 => ?_) (fun hc15798 => ?_)
              · have r15799 : p15776.toInt ≤ g15765.toInt := gC_le hc15798
                refine G_goto 11 dr_cX17_reached_117 (by decide +kernel) ?_
                refine G_lv (L' := [(4, .int g15766), (2, .long gl15767), (0, .ref q12416), (1, .int p12417)]) [1, 2, 3, 4] rfl ?_
                exact ih11_15519 g15766 gl15767 bg15766 (rpop_le gl15767) (by omega)
              · have r15800 : g15765.toInt < p15776.toInt := gC_nle hc15798
                have bg15765' : gB g15765 0 999999 := ⟨by omega, by omega⟩
                have bp15776' : gB p15776 1 1000000 := ⟨by omega, by omega⟩
                refine G_lload_n 2 dr_cX17_reached_31 rfl ?_
                refine G_iload 0 dr_cX17_reached_32 rfl ?_
                refine G_lushr dr_cX17_reached_34 (G_namL fun u15801 hu15801 => ?_)
                refine G_lconst 1 dr_cX17_reached_35 rfl ?_
                refine G_land dr_cX17_reached_36 (G_namL fun u15802 hu15802 => ?_)
                refine G_lconst 0 dr_cX17_reached_37 rfl ?_
                refine G_lcmp dr_cX17_reached_38 (G_nam fun z15803 hz15803 => ?_)
                have bz15803 : gB z15803 (-1) 1 := gB_cmp hz15803
                refine G_if_ne 45 dr_cX17_reached_39 (by decide +kernel) (fun hc15804 => ?_) (fun hc15804 => ?_)
                · have r15805 : z15803.toInt ≠ 0 := gj_neq hc15804 (show Int32.toInt 0 = 0 by decide)
                  have lhc15804 := gC_cmpN hz15803 hc15804
                  refine G_iconst 0 dr_cX17_reached_45 (by decide +kernel) ?_
                  refine G_istore (L' := [(6, .int 0), (5, .int g15765), (4, .int g15766), (2, .long gl15767), (0, .ref q12416), (1, .int p12417)]) dr_cX17_reached_46 (Nat.le_of_ble_eq_true rfl) rfl ?_
                  have hlp48_15909 : ∀ (n48_15909 : Nat) (g15905 : Int32) (g15906 : Int32) (gl15907 : Int64), gB g15905 0 2 → gB g15906 0 1 → rpop gl15907 ≤ 64 → rpop gl15518 + ((g15906.toInt : Int)).toNat ≤ rpop gl15907 → ((3 : Int) - g15905.toInt).toNat < n48_15909 → G (gV D I) l (gRm 4 85 0 0) (gMA (gV D I) (pt_12419_SpillForgeModel_reached D I γ el P12414 F12415 q12416 p12417) gNA 0 0) ky_12419_SpillForgeModel_reached 48 [(6, .int g15905), (5, .int g15765), (4, .int g15906), (2, .long gl15907), (0, .ref q12416), (1, .int p12417)] [] (va_pl P12414 F12415) 0 0 := by
                    intro n48_15909
                    induction n48_15909 with
                    | zero => intro g15905 g15906 gl15907 bg15905 bg15906 x15908 x15909 hm48_15909; exact absurd hm48_15909 (Nat.not_lt_zero _)
                    | succ n48_15909 ih48_15909 =>
                      intro g15905 g15906 gl15907 bg15905 bg15906 x15908 x15909 hm48_15909
                      refine G_iload 0 dr_cX17_reached_48 rfl ?_
                      refine G_aload_n 4 dr_cX17_reached_50 rfl ?_
                      refine G_iload 1 dr_cX17_reached_51 rfl ?_
                      have hm15911 : q15773 ∈ P12414 := RS_m hT ht15777 (by decide)
                      obtain ⟨⟨p15913, p15914, q15915, he15912, r15916, r15917, r15918, r15920⟩, r15919⟩ := show rk_4 D I γ el F12415 q15773 from RS_o hT ht15777
                      have bp15913 := gB_any p15913
                      have bp15914 : gB p15914 0 1000000 := ⟨by omega, by omega⟩
                      obtain ⟨r15921, r15922, n15929, f15930, r15923, r15924, r15925, r15926, r15927, r15928⟩ := rLC_n r15918 (by omega)
                      have hm15931 : q15915 ∈ P12414 := RS_m hT r15921 (by decide)
                      obtain ⟨q15932, hx15933⟩ : ∃ x, x = el q15773 g15765.toInt.toNat := ⟨_, rfl⟩
                      have hx15934 : f15930 g15765.toNatClampNeg = some q15932 := (r15927 _ (show g15765.toInt.toNat < γ 2 q15773 by omega)).trans (by rw [hx15933])
                      have ht15937 : rKd γ q15932 2 := by rw [hx15933]; exact (r15788 _ (by omega)).resolve_right (fun z => absurd z.1 (by omega))
                      have ht15938 : rFm γ q15932 q15773 := by rw [hx15933]; exact (r15919 _ (show g15765.toInt.toNat < γ 2 q15773 by omega)).2.1
                      have hm15939 : q15932 ∈ P12414 := RS_m hT ht15937 (by decide)
                      obtain ⟨q15941, q15942, p15943, p15944, he15940, ht15951, ht15945, ht15946, ht15947, ht15948, ht15949, bp15943, bp15944, r15950, r15952, r15953⟩ := show rk_2 γ q15932 (F12415 q15932) from RS_o hT ht15937
                      refine Gw_callV (As := [.int g15765]) (gV_ok D I) (cp_7723_Code_get l hl0 D I P12414 F12415 q12416 q15773 q15915 g15765 q15774 p15775 p15776 p15913 p15914 f15930 n15929 q15932 q15941 q15942 p15943 p15944 hm15771 hm15911 hm15931 hm15939 he15772 he15912 r15923 he15940 (gB_w bg15765' (by decide) (by decide)) (gB_w bp15914 (by decide) (by decide)) (by omega) (by omega) (by assumption) (by omega)) dr_cX17_reached_53 ⟨wr_10_161, wr_1_15, wr_10_141, by decide, rfl, (Nat.le_of_ble_eq_true rfl), (Nat.le_of_ble_eq_true rfl)⟩ wr_10_139 wr_10_140 hm15771 he15772 rfl (show 0 + 0 ≤ 0 by first | omega | decide) (show 0 + 0 ≤ 0 by first | omega | decide) (Nat.le_of_ble_eq_true rfl) (fun r15957 w15958 dc15954 ds15955 hp15956 => ?_) (fun _ _ _ _ _ z => z.elim)
                      obtain ⟨rfl, rfl, hdc, hds⟩ := hp15956
                      change G _ _ _ _ _ _ _ (.ref q15932 :: _) _ _ _
                      refine G_widen (cs' := 0) (sl' := 0) (by omega) (by omega) ?_
                      have hm15959 : q15942 ∈ P12414 := RS_m hT ht15947 (by decide)
                      obtain ⟨p15961, p15962, p15963, p15964, p15965, p15966, p15967, he15960, bp15961, bp15962, bp15965, bp15966, bp15967, r15968, r15969, r15970, r15971⟩ := show rk_1 γ q15942 (F12415 q15942) from RS_o hT ht15947
                      have bp15963 := gB_any p15963
                      have bp15964 := gB_any p15964
                      refine Gw_callV (As := []) (gV_ok D I) (cp_1809_Block_ways l hl0 D I P12414 F12415 q15932 q15942 q15941 p15943 p15944 p15961 p15962 p15963 p15964 p15965 p15966 p15967 hm15939 hm15959 he15940 he15960 bp15943 bp15944 bp15961 bp15962 bp15965 bp15966 bp15967) dr_cX17_reached_56 ⟨wr_10_166, wr_1_38, wr_10_169, by decide, rfl, (Nat.le_of_ble_eq_true rfl), (Nat.le_of_ble_eq_true rfl)⟩ wr_10_167 wr_10_168 hm15939 he15940 rfl (show 0 + 0 ≤ 0 by first | omega | decide) (show 0 + 0 ≤ 0 by first | omega | decide) (Nat.le_of_ble_eq_true rfl) (fun r15975 w15976 dc15972 ds15973 hp15974 => ?_) (fun _ _ _ _ _ z => z.elim)
                      obtain ⟨o15977, rfl, rfl, hdc, hds, bo15977⟩ := hp15974
                      change G _ _ _ _ _ _ _ (.int o15977 :: _) _ _ _
                      refine G_widen (cs' := 0) (sl' := 0) (by omega) (by omega) ?_
                      refine G_icmp_ge 111 dr_cX17_reached_59 (by decide +kernel) (fun hc15978 => ?_) (fun hc15978 => ?_)
                      · have r15979 : o15977.toInt ≤ g15905.toInt := gC_le hc15978
                        obtain ⟨z15980, hz15980⟩ : ∃ z : Int32, z = g15765 + Int32.ofInt 1 := ⟨_, rfl⟩
                        have ez15980 : z15980.toInt = g15765.toInt + 1 := gI_inc hz15980 (by decide) bg15765' (by decide) (by decide)
                        have bz15980 : gB z15980 1 1000000 := ⟨by omega, by omega⟩
                        refine G_iinc (L' := [(5, .int z15980), (6, .int g15905), (4, .int g15906), (2, .long gl15907), (0, .ref q12416), (1, .int p12417)]) z15980 1 dr_cX17_reached_111 rfl hz15980.symm (Nat.le_of_ble_eq_true rfl) rfl ?_
                        refine G_goto 22 dr_cX17_reached_114 (by decide +kernel) ?_
                        refine G_lv (L' := [(5, .int z15980), (4, .int g15906), (2, .long gl15907), (0, .ref q12416), (1, .int p12417)]) [0, 2, 3, 4, 5] rfl ?_
                        exact ih22_15769 z15980 g15906 gl15907 (gB_w bz15980 (by decide) (by decide)) bg15906 (rpop_le gl15907) (by omega) (by omega)
                      · have r15981 : g15905.toInt < o15977.toInt := gC_nle hc15978
                        have bg15905' : gB g15905 0 1 := ⟨by omega, by omega⟩
                        have bo15977' : gB o15977 1 2 := ⟨by omega, by omega⟩
                        refine G_aload_n 4 dr_cX17_reached_62 rfl ?_
                        refine G_iload 1 dr_cX17_reached_63 rfl ?_
                        refine Gw_callV (As := [.int g15765]) (gV_ok D I) (cp_7723_Code_get l hl0 D I P12414 F12415 q12416 q15773 q15915 g15765 q15774 p15775 p15776 p15913 p15914 f15930 n15929 q15932 q15941 q15942 p15943 p15944 hm15771 hm15911 hm15931 hm15939 he15772 he15912 r15923 he15940 (gB_w bg15765' (by decide) (by decide)) (gB_w bp15914 (by decide) (by decide)) (by omega) (by omega) (by assumption) (by omega)) dr_cX17_reached_65 ⟨wr_10_161, wr_1_15, wr_10_141, by decide, rfl, (Nat.le_of_ble_eq_true rfl), (Nat.le_of_ble_eq_true rfl)⟩ wr_10_139 wr_10_140 hm15771 he15772 rfl (show 0 + 0 ≤ 0 by first | omega | decide) (show 0 + 0 ≤ 0 by first | omega | decide) (Nat.le_of_ble_eq_true rfl) (fun r15985 w15986 dc15982 ds15983 hp15984 => ?_) (fun _ _ _ _ _ z => z.elim)
                        obtain ⟨rfl, rfl, hdc, hds⟩ := hp15984
                        change G _ _ _ _ _ _ _ (.ref q15932 :: _) _ _ _
                        refine G_widen (cs' := 0) (sl' := 0) (by omega) (by omega) ?_
                        refine G_iload 0 dr_cX17_reached_68 rfl ?_
                        refine Gw_callV (As := [.int g15905]) (gV_ok D I) (cp_5047_Block_way l hl0 D I P12414 F12415 q15932 q15942 g15905 q15941 p15943 p15944 p15961 p15962 p15963 p15964 p15965 p15966 p15967 hm15939 hm15959 he15940 he15960 bp15943 bp15944 bp15961 bp15962 bp15965 bp15966 bp15967) dr_cX17_reached_70 ⟨wr_10_170, wr_1_38, wr_10_173, by decide, rfl, (Nat.le_of_ble_eq_true rfl), (Nat.le_of_ble_eq_true rfl)⟩ wr_10_171 wr_10_172 hm15939 he15940 rfl (show 0 + 0 ≤ 0 by first | omega | decide) (show 0 + 0 ≤ 0 by first | omega | decide) (Nat.le_of_ble_eq_true rfl) (fun r15990 w15991 dc15987 ds15988 hp15989 => ?_) (fun _ _ _ _ _ z => z.elim)
                        obtain ⟨o15992, rfl, rfl, hdc, hds, bo15992⟩ := hp15989
                        change G _ _ _ _ _ _ _ (.int o15992 :: _) _ _ _
                        refine G_widen (cs' := 0) (sl' := 0) (by omega) (by omega) ?_
                        refine G_istore (L' := [(7, .int o15992), (6, .int g15905), (5, .int g15765), (4, .int g15906), (2, .long gl15907), (0, .ref q12416), (1, .int p12417)]) dr_cX17_reached_73 (Nat.le_of_ble_eq_true rfl) rfl ?_
                        refine G_iload 0 dr_cX17_reached_75 rfl ?_
                        refine G_iload_n 6 dr_cX17_reached_77 rfl ?_
                        refine G_icmp_eq 105 dr_cX17_reached_78 (by decide +kernel) (fun hc15993 => ?_) (fun hc15993 => ?_)
                        · have r15994 : o15992.toInt = p12417.toInt := gC_eq hc15993
                          have bp12417' : gB p12417 0 39 := ⟨by omega, by omega⟩
                          obtain ⟨z15995, hz15995⟩ : ∃ z : Int32, z = g15905 + Int32.ofInt 1 := ⟨_, rfl⟩
                          have ez15995 : z15995.toInt = g15905.toInt + 1 := gI_inc hz15995 (by decide) bg15905' (by decide) (by decide)
                          have bz15995 : gB z15995 1 2 := ⟨by omega, by omega⟩
                          refine G_iinc (L' := [(6, .int z15995), (7, .int o15992), (5, .int g15765), (4, .int g15906), (2, .long gl15907), (0, .ref q12416), (1, .int p12417)]) z15995 1 dr_cX17_reached_105 rfl hz15995.symm (Nat.le_of_ble_eq_true rfl) rfl ?_
                          refine G_goto 48 dr_cX17_reached_108 (by decide +kernel) ?_
                          refine G_lv (L' := [(6, .int z15995), (5, .int g15765), (4, .int g15906), (2, .long gl15907), (0, .ref q12416), (1, .int p12417)]) [0, 2, 3, 4, 5, 6] rfl ?_
                          exact ih48_15909 z15995 g15906 gl15907 (gB_w bz15995 (by decide) (by decide)) bg15906 (rpop_le gl15907) (by omega) (by omega)
                        · have r15996 : o15992.toInt ≠ p12417.toInt := gC_ne hc15993
                          refine G_lload_n 4 dr_cX17_reached_81 rfl ?_
                          refine G_iload 0 dr_cX17_reached_82 rfl ?_
                          refine G_lushr dr_cX17_reached_84 (G_namL fun u15997 hu15997 => ?_)
                          refine G_lconst 1 dr_cX17_reached_85 rfl ?_
                          refine G_land dr_cX17_reached_86 (G_namL fun u15998 hu15998 => ?_)
                          refine G_lconst 0 dr_cX17_reached_87 rfl ?_
                          refine G_lcmp dr_cX17_reached_88 (G_nam fun z15999 hz15999 => ?_)
                          have bz15999 : gB z15999 (-1) 1 := gB_cmp hz15999
                          refine G_if_eq 95 dr_cX17_reached_89 (by decide +kernel) (fun hc16000 => ?_) (fun hc16000 => ?_)
                          · have r16001 : z15999.toInt = 0 := gj_eq hc16000 (show Int32.toInt 0 = 0 by decide)
                            have bz15999' : gB z15999 0 0 := ⟨by omega, by omega⟩
                            have lhc16000 := gC_cmpE hz15999 hc16000
                            have zhc16000 := rbit_0 hu15997 hu15998 lhc16000 (by omega) (by omega)
                            refine G_lload_n 4 dr_cX17_reached_95 rfl ?_
                            refine G_lconst 1 dr_cX17_reached_96 rfl ?_
                            refine G_iload 0 dr_cX17_reached_97 rfl ?_
                            refine G_lshl dr_cX17_reached_99 (G_namL fun u16002 hu16002 => ?_)
                            have qu16002 : lb_Q u16002 (o15992.toInt % 64 + 1) := lb_Qshl hu16002 (by omega)
                            refine G_lor dr_cX17_reached_100 (G_namL fun u16003 hu16003 => ?_)
                            have pmu16003 : rpop gl15907 ≤ rpop u16003 := rpop_or hu16003
                            have pnu16003 : rpop gl15907 + 1 ≤ rpop u16003 := rpop_new hu16003 hu16002 (by omega) (by omega) zhc16000
                            refine G_lstore_n (L' := [(2, .long u16003), (7, .int o15992), (6, .int g15905), (5, .int g15765), (4, .int g15906), (0, .ref q12416), (1, .int p12417)]) dr_cX17_reached_101 (Nat.le_of_ble_eq_true rfl) rfl ?_
                            refine G_iconst 1 dr_cX17_reached_102 (by decide +kernel) ?_
                            refine G_istore (L' := [(4, .int 1), (2, .long u16003), (7, .int o15992), (6, .int g15905), (5, .int g15765), (0, .ref q12416), (1, .int p12417)]) dr_cX17_reached_103 (Nat.le_of_ble_eq_true rfl) rfl ?_
                            obtain ⟨z16004, hz16004⟩ : ∃ z : Int32, z = g15905 + Int32.ofInt 1 := ⟨_, rfl⟩
                            have ez16004 : z16004.toInt = g15905.toInt + 1 := gI_inc hz16004 (by decide) bg15905' (by decide) (by decide)
                            have bz16004 : gB z16004 1 2 := ⟨by omega, by omega⟩
                            refine G_iinc (L' := [(6, .int z16004), (4, .int 1), (2, .long u16003), (7, .int o15992), (5, .int g15765), (0, .ref q12416), (1, .int p12417)]) z16004 3 dr_cX17_reached_105 rfl hz16004.symm (Nat.le_of_ble_eq_true rfl) rfl ?_
                            refine G_goto 48 dr_cX17_reached_108 (by decide +kernel) ?_
                            refine G_lv (L' := [(6, .int z16004), (5, .int g15765), (4, .int 1), (2, .long u16003), (0, .ref q12416), (1, .int p12417)]) [0, 4, 1, 2, 5, 6] rfl ?_
                            exact ih48_15909 z16004 1 u16003 (gB_w bz16004 (by decide) (by decide)) (gB_w (gBl (show Int32.toInt 1 = 1 by decide)) (by decide) (by decide)) (rpop_le u16003) (by have qa0 : Int32.toInt 1 = 1 := (by decide); omega) (by have qa0 : Int32.toInt 1 = 1 := (by decide); omega)
                          · have r16005 : z15999.toInt ≠ 0 := gj_neq hc16000 (show Int32.toInt 0 = 0 by decide)
                            have lhc16000 := gC_cmpN hz15999 hc16000
                            refine G_goto 105 dr_cX17_reached_92 (by decide +kernel) ?_
                            obtain ⟨z16006, hz16006⟩ : ∃ z : Int32, z = g15905 + Int32.ofInt 1 := ⟨_, rfl⟩
                            have ez16006 : z16006.toInt = g15905.toInt + 1 := gI_inc hz16006 (by decide) bg15905' (by decide) (by decide)
                            have bz16006 : gB z16006 1 2 := ⟨by omega, by omega⟩
                            refine G_iinc (L' := [(6, .int z16006), (7, .int o15992), (5, .int g15765), (4, .int g15906), (2, .long gl15907), (0, .ref q12416), (1, .int p12417)]) z16006 1 dr_cX17_reached_105 rfl hz16006.symm (Nat.le_of_ble_eq_true rfl) rfl ?_
                            refine G_goto 48 dr_cX17_reached_108 (by decide +kernel) ?_
                            refine G_lv (L' := [(6, .int z16006), (5, .int g15765), (4, .int g15906), (2, .long gl15907), (0, .ref q12416), (1, .int p12417)]) [0, 2, 3, 4, 5, 6] rfl ?_
                            exact ih48_15909 z16006 g15906 gl15907 (gB_w bz16006 (by decide) (by decide)) bg15906 (rpop_le gl15907) (by omega) (by omega)
                  exact hlp48_15909 (((3 : Int) - 0).toNat + 1) 0 g15766 gl15767 (gB_w (gBl (show Int32.toInt 0 = 0 by decide)) (by decide) (by decide)) bg15766 (rpop_le gl15767) (by have qa0 : Int32.toInt 0 = 0 := (by decide); omega) (Nat.lt_succ_self _)
                · have r16007 : z15803.toInt = 0 := gj_eq hc15804 (show Int32.toInt 0 = 0 by decide)
                  have bz15803' : gB z15803 0 0 := ⟨by omega, by omega⟩
                  have lhc15804 := gC_cmpE hz15803 hc15804
                  refine G_goto 111 dr_cX17_reached_42 (by decide +kernel) ?_
                  obtain ⟨z16008, hz16008⟩ : ∃ z : Int32, z = g15765 + Int32.ofInt 1 := ⟨_, rfl⟩
                  have ez16008 : z16008.toInt = g15765.toInt + 1 := gI_inc hz16008 (by decide) bg15765' (by decide) (by decide)
                  have bz16008 : gB z16008 1 1000000 := ⟨by omega, by omega⟩
                  refine G_iinc (L' := [(5, .int z16008), (4, .int g15766), (2, .long gl15767), (0, .ref q12416), (1, .int p12417)]) z16008 0 dr_cX17_reached_111 rfl hz16008.symm (Nat.le_of_ble_eq_true rfl) rfl ?_
                  refine G_goto 22 dr_cX17_reached_114 (by decide +kernel) ?_
                  exact ih22_15769 z16008 g15766 gl15767 (gB_w bz16008 (by decide) (by decide)) bg15766 (rpop_le gl15767) (by omega) (by omega)
          exact hlp22_15769 (((1000001 : Int) - 0).toNat + 1) 0 0 gl15518 (gB_w (gBl (show Int32.toInt 0 = 0 by decide)) (by decide) (by decide)) (gB_w (gBl (show Int32.toInt 0 = 0 by decide)) (by decide) (by decide)) (rpop_le gl15518) (by have qa0 : Int32.toInt 0 = 0 := (by decide); omega) (Nat.lt_succ_self _)
    exact hlp11_15519 ((64 - rpop 1) + ((1 : Int)).toNat + 1) 1 1 (gB_w (gBl (show Int32.toInt 1 = 1 by decide)) (by decide) (by decide)) (rpop_le 1) (Nat.lt_succ_self _)
  · have r16009 : p12417.toInt = 0 := gj_eq hc12420 (show Int32.toInt 0 = 0 by decide)
    have bp12417' : gB p12417 0 0 := ⟨by omega, by omega⟩
    refine G_lconst 0 dr_cX17_reached_4 rfl ?_
    exact G_lretA dr_cX17_reached_5 rfl (Nat.le_of_ble_eq_true rfl) (Nat.le_of_ble_eq_true rfl) ⟨0, rfl, rfl, (Nat.le_of_ble_eq_true rfl), (Nat.le_of_ble_eq_true rfl)⟩
