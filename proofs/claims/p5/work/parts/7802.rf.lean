theorem dr_cX17_behind_0 : decode cX17_behind 0 = .ok (.iconst 0, 1) := by decide +kernel
theorem dr_cX17_behind_1 : decode cX17_behind 1 = .ok (.istore_n 2, 1) := by decide +kernel
theorem dr_cX17_behind_2 : decode cX17_behind 2 = .ok (.iload_n 2, 1) := by decide +kernel
theorem dr_cX17_behind_3 : decode cX17_behind 3 = .ok (.bipush 32, 2) := by decide +kernel
theorem dr_cX17_behind_5 : decode cX17_behind 5 = .ok (.if_icmp .ge 16, 3) := by decide +kernel
theorem dr_cX17_behind_21 : decode cX17_behind 21 = .ok (.iconst 0, 1) := by decide +kernel
theorem dr_cX17_behind_22 : decode cX17_behind 22 = .ok (.istore_n 2, 1) := by decide +kernel
theorem dr_cX17_behind_23 : decode cX17_behind 23 = .ok (.iload_n 2, 1) := by decide +kernel
theorem dr_cX17_behind_24 : decode cX17_behind 24 = .ok (.aload_n 1, 1) := by decide +kernel
theorem dr_cX17_behind_25 : decode cX17_behind 25 = .ok (.invokevirtual 82, 3) := by decide +kernel
theorem wr_10_162 : (Jvm.Cond.methodLink "SpillForgeModel" (82 : Nat) ({ cls := "SpillForgeModel$Block", name := "ways", desc := "()I" } : Jvm.MethodName)) ∈ gw := gw_10 162 rfl rfl
theorem wr_10_165 : (Jvm.Cond.code ({ cls := "SpillForgeModel$Block", name := "ways", desc := "()I" } : Jvm.MethodName) prog_15_method_2_code (1 : Nat) (Option.some Jvm.ClassFile.FieldType.int)) ∈ gw := gw_10 165 rfl rfl
theorem wr_10_163 : (Jvm.Cond.instanceMethod ({ cls := "SpillForgeModel$Block", name := "ways", desc := "()I" } : Jvm.MethodName)) ∈ gw := gw_10 163 rfl rfl
theorem wr_10_164 : (Jvm.Cond.selects "SpillForgeModel$Block" ({ cls := "SpillForgeModel$Block", name := "ways", desc := "()I" } : Jvm.MethodName) ({ cls := "SpillForgeModel$Block", name := "ways", desc := "()I" } : Jvm.MethodName)) ∈ gw := gw_10 164 rfl rfl
theorem dr_cX17_behind_28 : decode cX17_behind 28 = .ok (.if_icmp .ge 44, 3) := by decide +kernel
theorem dr_cX17_behind_72 : decode cX17_behind 72 = .ok (.return_, 1) := by decide +kernel
theorem dr_cX17_behind_31 : decode cX17_behind 31 = .ok (.iconst 0, 1) := by decide +kernel
theorem dr_cX17_behind_32 : decode cX17_behind 32 = .ok (.istore_n 3, 1) := by decide +kernel
theorem dr_cX17_behind_33 : decode cX17_behind 33 = .ok (.iload_n 3, 1) := by decide +kernel
theorem dr_cX17_behind_34 : decode cX17_behind 34 = .ok (.bipush 32, 2) := by decide +kernel
theorem dr_cX17_behind_36 : decode cX17_behind 36 = .ok (.if_icmp .ge 30, 3) := by decide +kernel
theorem dr_cX17_behind_66 : decode cX17_behind 66 = .ok (.iinc 2 1, 3) := by decide +kernel
theorem dr_cX17_behind_69 : decode cX17_behind 69 = .ok (.goto (-46), 3) := by decide +kernel
theorem dr_cX17_behind_39 : decode cX17_behind 39 = .ok (.aload_n 0, 1) := by decide +kernel
theorem dr_cX17_behind_40 : decode cX17_behind 40 = .ok (.getfield 59, 3) := by decide +kernel
theorem dr_cX17_behind_43 : decode cX17_behind 43 = .ok (.iload_n 3, 1) := by decide +kernel
theorem dr_cX17_behind_44 : decode cX17_behind 44 = .ok (.dup2, 1) := by decide +kernel
theorem dr_cX17_behind_45 : decode cX17_behind 45 = .ok (.laload, 1) := by decide +kernel
theorem dr_cX17_behind_46 : decode cX17_behind 46 = .ok (.aload_n 0, 1) := by decide +kernel
theorem dr_cX17_behind_47 : decode cX17_behind 47 = .ok (.getfield 88, 3) := by decide +kernel
theorem wr_7_74 : (Jvm.Cond.fieldLink "SpillForgeModel" (88 : Nat) "SpillForgeModel" "live" "[[J") ∈ gw := gw_7 74 rfl rfl
theorem dr_cX17_behind_50 : decode cX17_behind 50 = .ok (.aload_n 1, 1) := by decide +kernel
theorem dr_cX17_behind_51 : decode cX17_behind 51 = .ok (.iload_n 2, 1) := by decide +kernel
theorem dr_cX17_behind_52 : decode cX17_behind 52 = .ok (.invokevirtual 92, 3) := by decide +kernel
theorem wr_10_166 : (Jvm.Cond.methodLink "SpillForgeModel" (92 : Nat) ({ cls := "SpillForgeModel$Block", name := "way", desc := "(I)I" } : Jvm.MethodName)) ∈ gw := gw_10 166 rfl rfl
theorem wr_10_169 : (Jvm.Cond.code ({ cls := "SpillForgeModel$Block", name := "way", desc := "(I)I" } : Jvm.MethodName) prog_15_method_3_code (2 : Nat) (Option.some Jvm.ClassFile.FieldType.int)) ∈ gw := gw_10 169 rfl rfl
theorem wr_10_167 : (Jvm.Cond.instanceMethod ({ cls := "SpillForgeModel$Block", name := "way", desc := "(I)I" } : Jvm.MethodName)) ∈ gw := gw_10 167 rfl rfl
theorem wr_10_168 : (Jvm.Cond.selects "SpillForgeModel$Block" ({ cls := "SpillForgeModel$Block", name := "way", desc := "(I)I" } : Jvm.MethodName) ({ cls := "SpillForgeModel$Block", name := "way", desc := "(I)I" } : Jvm.MethodName)) ∈ gw := gw_10 168 rfl rfl
theorem dr_cX17_behind_55 : decode cX17_behind 55 = .ok (.aaload, 1) := by decide +kernel
theorem dr_cX17_behind_56 : decode cX17_behind 56 = .ok (.iload_n 3, 1) := by decide +kernel
theorem dr_cX17_behind_57 : decode cX17_behind 57 = .ok (.laload, 1) := by decide +kernel
theorem dr_cX17_behind_58 : decode cX17_behind 58 = .ok (.lor, 1) := by decide +kernel
theorem dr_cX17_behind_59 : decode cX17_behind 59 = .ok (.lastore, 1) := by decide +kernel
theorem dr_cX17_behind_60 : decode cX17_behind 60 = .ok (.iinc 3 1, 3) := by decide +kernel
theorem dr_cX17_behind_63 : decode cX17_behind 63 = .ok (.goto (-30), 3) := by decide +kernel
theorem dr_cX17_behind_8 : decode cX17_behind 8 = .ok (.aload_n 0, 1) := by decide +kernel
theorem dr_cX17_behind_9 : decode cX17_behind 9 = .ok (.getfield 59, 3) := by decide +kernel
theorem dr_cX17_behind_12 : decode cX17_behind 12 = .ok (.iload_n 2, 1) := by decide +kernel
theorem dr_cX17_behind_13 : decode cX17_behind 13 = .ok (.lconst 0, 1) := by decide +kernel
theorem dr_cX17_behind_14 : decode cX17_behind 14 = .ok (.lastore, 1) := by decide +kernel
theorem dr_cX17_behind_15 : decode cX17_behind 15 = .ok (.iinc 2 1, 3) := by decide +kernel
theorem dr_cX17_behind_18 : decode cX17_behind 18 = .ok (.goto (-16), 3) := by decide +kernel
theorem dr_cX17_value_0 : decode cX17_value 0 = .ok (.iload_n 1, 1) := by decide +kernel
theorem dr_cX17_value_1 : decode cX17_value 1 = .ok (.ifCond .eq 12, 3) := by decide +kernel
theorem dr_cX17_value_13 : decode cX17_value 13 = .ok (.iload_n 2, 1) := by decide +kernel
theorem dr_cX17_value_14 : decode cX17_value 14 = .ok (.ireturn, 1) := by decide +kernel
theorem dr_cX17_value_4 : decode cX17_value 4 = .ok (.aload_n 0, 1) := by decide +kernel
theorem dr_cX17_value_5 : decode cX17_value 5 = .ok (.getfield 271, 3) := by decide +kernel
theorem wr_7_94 : (Jvm.Cond.fieldLink "SpillForgeModel" (271 : Nat) "SpillForgeModel" "registers" "[I") ∈ gw := gw_7 94 rfl rfl
theorem dr_cX17_value_8 : decode cX17_value 8 = .ok (.iload_n 2, 1) := by decide +kernel
theorem dr_cX17_value_9 : decode cX17_value 9 = .ok (.iaload, 1) := by decide +kernel
theorem dr_cX17_value_10 : decode cX17_value 10 = .ok (.goto 4, 3) := by decide +kernel
theorem dr_cX17_leads_0 : decode cX17_leads 0 = .ok (.iconst 0, 1) := by decide +kernel
theorem dr_cX17_leads_1 : decode cX17_leads 1 = .ok (.istore_n 2, 1) := by decide +kernel
theorem dr_cX17_leads_2 : decode cX17_leads 2 = .ok (.iload_n 2, 1) := by decide +kernel
theorem dr_cX17_leads_3 : decode cX17_leads 3 = .ok (.aload_n 0, 1) := by decide +kernel
theorem dr_cX17_leads_4 : decode cX17_leads 4 = .ok (.invokevirtual 82, 3) := by decide +kernel
theorem dr_cX17_leads_7 : decode cX17_leads 7 = .ok (.if_icmp .ge 20, 3) := by decide +kernel
theorem dr_cX17_leads_27 : decode cX17_leads 27 = .ok (.iconst 0, 1) := by decide +kernel
theorem dr_cX17_leads_28 : decode cX17_leads 28 = .ok (.ireturn, 1) := by decide +kernel
theorem dr_cX17_leads_10 : decode cX17_leads 10 = .ok (.aload_n 0, 1) := by decide +kernel
theorem dr_cX17_leads_11 : decode cX17_leads 11 = .ok (.iload_n 2, 1) := by decide +kernel
theorem dr_cX17_leads_12 : decode cX17_leads 12 = .ok (.invokevirtual 92, 3) := by decide +kernel
theorem dr_cX17_leads_15 : decode cX17_leads 15 = .ok (.iload_n 1, 1) := by decide +kernel
theorem dr_cX17_leads_16 : decode cX17_leads 16 = .ok (.if_icmp .ne 5, 3) := by decide +kernel
theorem dr_cX17_leads_21 : decode cX17_leads 21 = .ok (.iinc 2 1, 3) := by decide +kernel
theorem dr_cX17_leads_24 : decode cX17_leads 24 = .ok (.goto (-22), 3) := by decide +kernel
theorem dr_cX17_leads_19 : decode cX17_leads 19 = .ok (.iconst 1, 1) := by decide +kernel
theorem dr_cX17_leads_20 : decode cX17_leads 20 = .ok (.ireturn, 1) := by decide +kernel
theorem dr_cX13_get_0 : decode cX13_get 0 = .ok (.aload_n 0, 1) := by decide +kernel
theorem dr_cX13_get_1 : decode cX13_get 1 = .ok (.getfield 10, 3) := by decide +kernel
theorem dr_cX13_get_4 : decode cX13_get 4 = .ok (.iload_n 1, 1) := by decide +kernel
theorem dr_cX13_get_5 : decode cX13_get 5 = .ok (.invokevirtual 37, 3) := by decide +kernel
theorem dr_cX13_get_8 : decode cX13_get 8 = .ok (.checkcast 30, 3) := by decide +kernel
theorem dr_cX13_get_11 : decode cX13_get 11 = .ok (.areturn, 1) := by decide +kernel
theorem dr_cX13_countRows_0 : decode cX13_countRows 0 = .ok (.iconst 0, 1) := by decide +kernel
theorem dr_cX13_countRows_1 : decode cX13_countRows 1 = .ok (.istore_n 1, 1) := by decide +kernel
theorem dr_cX13_countRows_2 : decode cX13_countRows 2 = .ok (.iconst 0, 1) := by decide +kernel
theorem dr_cX13_countRows_3 : decode cX13_countRows 3 = .ok (.istore_n 2, 1) := by decide +kernel
theorem dr_cX13_countRows_4 : decode cX13_countRows 4 = .ok (.iload_n 2, 1) := by decide +kernel
theorem dr_cX13_countRows_5 : decode cX13_countRows 5 = .ok (.aload_n 0, 1) := by decide +kernel
theorem dr_cX13_countRows_6 : decode cX13_countRows 6 = .ok (.getfield 23, 3) := by decide +kernel
theorem dr_cX13_countRows_9 : decode cX13_countRows 9 = .ok (.if_icmp .ge 23, 3) := by decide +kernel
theorem dr_cX13_countRows_32 : decode cX13_countRows 32 = .ok (.iload_n 1, 1) := by decide +kernel
theorem dr_cX13_countRows_33 : decode cX13_countRows 33 = .ok (.ireturn, 1) := by decide +kernel
theorem dr_cX13_countRows_12 : decode cX13_countRows 12 = .ok (.iload_n 1, 1) := by decide +kernel
theorem dr_cX13_countRows_13 : decode cX13_countRows 13 = .ok (.aload_n 0, 1) := by decide +kernel
theorem dr_cX13_countRows_14 : decode cX13_countRows 14 = .ok (.iload_n 2, 1) := by decide +kernel
theorem dr_cX13_countRows_15 : decode cX13_countRows 15 = .ok (.invokevirtual 67, 3) := by decide +kernel
theorem wr_10_134 : (Jvm.Cond.methodLink "SpillForgeModel$Code" (67 : Nat) ({ cls := "SpillForgeModel$Code", name := "get", desc := "(I)LSpillForgeModel$Block;" } : Jvm.MethodName)) ∈ gw := gw_10 134 rfl rfl
theorem wr_1_15 : (Jvm.Cond.initialized "SpillForgeModel$Code") ∈ gw := gw_1 15 rfl rfl
theorem wr_10_137 : (Jvm.Cond.code ({ cls := "SpillForgeModel$Code", name := "get", desc := "(I)LSpillForgeModel$Block;" } : Jvm.MethodName) prog_16_method_6_code (2 : Nat) (Option.some (Jvm.ClassFile.FieldType.object "SpillForgeModel$Block"))) ∈ gw := gw_10 137 rfl rfl
theorem wr_10_135 : (Jvm.Cond.instanceMethod ({ cls := "SpillForgeModel$Code", name := "get", desc := "(I)LSpillForgeModel$Block;" } : Jvm.MethodName)) ∈ gw := gw_10 135 rfl rfl
theorem wr_10_136 : (Jvm.Cond.selects "SpillForgeModel$Code" ({ cls := "SpillForgeModel$Code", name := "get", desc := "(I)LSpillForgeModel$Block;" } : Jvm.MethodName) ({ cls := "SpillForgeModel$Code", name := "get", desc := "(I)LSpillForgeModel$Block;" } : Jvm.MethodName)) ∈ gw := gw_10 136 rfl rfl
theorem dr_cX13_countRows_18 : decode cX13_countRows 18 = .ok (.getfield 41, 3) := by decide +kernel
theorem dr_cX13_countRows_21 : decode cX13_countRows 21 = .ok (.invokevirtual 26, 3) := by decide +kernel
theorem dr_cX13_countRows_24 : decode cX13_countRows 24 = .ok (.iadd, 1) := by decide +kernel
theorem dr_cX13_countRows_25 : decode cX13_countRows 25 = .ok (.istore_n 1, 1) := by decide +kernel
theorem dr_cX13_countRows_26 : decode cX13_countRows 26 = .ok (.iinc 2 1, 3) := by decide +kernel
theorem dr_cX13_countRows_29 : decode cX13_countRows 29 = .ok (.goto (-25), 3) := by decide +kernel
theorem dr_cX13_count_0 : decode cX13_count 0 = .ok (.iconst 0, 1) := by decide +kernel
theorem dr_cX13_count_1 : decode cX13_count 1 = .ok (.istore_n 2, 1) := by decide +kernel
theorem dr_cX13_count_2 : decode cX13_count 2 = .ok (.iconst 0, 1) := by decide +kernel
theorem dr_cX13_count_3 : decode cX13_count 3 = .ok (.istore_n 3, 1) := by decide +kernel
theorem dr_cX13_count_4 : decode cX13_count 4 = .ok (.iload_n 3, 1) := by decide +kernel
theorem dr_cX13_count_5 : decode cX13_count 5 = .ok (.aload_n 0, 1) := by decide +kernel
theorem dr_cX13_count_6 : decode cX13_count 6 = .ok (.getfield 23, 3) := by decide +kernel
theorem dr_cX13_count_9 : decode cX13_count 9 = .ok (.if_icmp .ge 65, 3) := by decide +kernel
theorem dr_cX13_count_74 : decode cX13_count 74 = .ok (.iload_n 2, 1) := by decide +kernel
theorem dr_cX13_count_75 : decode cX13_count 75 = .ok (.ireturn, 1) := by decide +kernel
theorem dr_cX13_count_12 : decode cX13_count 12 = .ok (.iconst 0, 1) := by decide +kernel
theorem dr_cX13_count_13 : decode cX13_count 13 = .ok (.istore 4, 2) := by decide +kernel
theorem dr_cX13_count_15 : decode cX13_count 15 = .ok (.iload 4, 2) := by decide +kernel
theorem dr_cX13_count_17 : decode cX13_count 17 = .ok (.aload_n 0, 1) := by decide +kernel
theorem dr_cX13_count_18 : decode cX13_count 18 = .ok (.iload_n 3, 1) := by decide +kernel
theorem dr_cX13_count_19 : decode cX13_count 19 = .ok (.invokevirtual 67, 3) := by decide +kernel
theorem dr_cX13_count_22 : decode cX13_count 22 = .ok (.getfield 41, 3) := by decide +kernel
theorem dr_cX13_count_25 : decode cX13_count 25 = .ok (.invokevirtual 26, 3) := by decide +kernel
theorem dr_cX13_count_28 : decode cX13_count 28 = .ok (.if_icmp .ge 40, 3) := by decide +kernel
theorem dr_cX13_count_68 : decode cX13_count 68 = .ok (.iinc 3 1, 3) := by decide +kernel
theorem dr_cX13_count_71 : decode cX13_count 71 = .ok (.goto (-67), 3) := by decide +kernel
theorem dr_cX13_count_31 : decode cX13_count 31 = .ok (.iload_n 2, 1) := by decide +kernel
theorem dr_cX13_count_32 : decode cX13_count 32 = .ok (.aload_n 0, 1) := by decide +kernel
theorem dr_cX13_count_33 : decode cX13_count 33 = .ok (.iload_n 3, 1) := by decide +kernel
theorem dr_cX13_count_34 : decode cX13_count 34 = .ok (.invokevirtual 67, 3) := by decide +kernel
theorem dr_cX13_count_37 : decode cX13_count 37 = .ok (.getfield 41, 3) := by decide +kernel
theorem dr_cX13_count_40 : decode cX13_count 40 = .ok (.iload 4, 2) := by decide +kernel
theorem dr_cX13_count_42 : decode cX13_count 42 = .ok (.invokevirtual 37, 3) := by decide +kernel
theorem dr_cX13_count_45 : decode cX13_count 45 = .ok (.checkcast 45, 3) := by decide +kernel
theorem dr_cX13_count_48 : decode cX13_count 48 = .ok (.getfield 70, 3) := by decide +kernel
theorem wr_9_174 : (Jvm.Cond.fieldLink "SpillForgeModel$Code" (70 : Nat) "SpillForgeModel$Row" "op" "I") ∈ gw := gw_9 174 rfl rfl
theorem dr_cX13_count_51 : decode cX13_count 51 = .ok (.iload_n 1, 1) := by decide +kernel
theorem dr_cX13_count_52 : decode cX13_count 52 = .ok (.if_icmp .ne 7, 3) := by decide +kernel
theorem dr_cX13_count_59 : decode cX13_count 59 = .ok (.iconst 0, 1) := by decide +kernel
theorem dr_cX13_count_60 : decode cX13_count 60 = .ok (.iadd, 1) := by decide +kernel
theorem dr_cX13_count_61 : decode cX13_count 61 = .ok (.istore_n 2, 1) := by decide +kernel
theorem dr_cX13_count_62 : decode cX13_count 62 = .ok (.iinc 4 1, 3) := by decide +kernel
theorem dr_cX13_count_65 : decode cX13_count 65 = .ok (.goto (-50), 3) := by decide +kernel
theorem dr_cX13_count_55 : decode cX13_count 55 = .ok (.iconst 1, 1) := by decide +kernel
theorem dr_cX13_count_56 : decode cX13_count 56 = .ok (.goto 4, 3) := by decide +kernel
theorem dr_cX13_size_0 : decode cX13_size 0 = .ok (.aload_n 0, 1) := by decide +kernel
theorem dr_cX13_size_1 : decode cX13_size 1 = .ok (.getfield 23, 3) := by decide +kernel
theorem dr_cX13_size_4 : decode cX13_size 4 = .ok (.ireturn, 1) := by decide +kernel
theorem dr_cX17_reached_0 : decode cX17_reached 0 = .ok (.iload_n 1, 1) := by decide +kernel
theorem dr_cX17_reached_1 : decode cX17_reached 1 = .ok (.ifCond .ne 5, 3) := by decide +kernel
theorem dr_cX17_reached_6 : decode cX17_reached 6 = .ok (.lconst 1, 1) := by decide +kernel
theorem dr_cX17_reached_7 : decode cX17_reached 7 = .ok (.lstore_n 2, 1) := by decide +kernel
theorem dr_cX17_reached_8 : decode cX17_reached 8 = .ok (.iconst 1, 1) := by decide +kernel
theorem dr_cX17_reached_9 : decode cX17_reached 9 = .ok (.istore 4, 2) := by decide +kernel
theorem dr_cX17_reached_11 : decode cX17_reached 11 = .ok (.iload 4, 2) := by decide +kernel
theorem dr_cX17_reached_13 : decode cX17_reached 13 = .ok (.ifCond .eq 107, 3) := by decide +kernel
theorem dr_cX17_reached_120 : decode cX17_reached 120 = .ok (.lload_n 2, 1) := by decide +kernel
theorem dr_cX17_reached_121 : decode cX17_reached 121 = .ok (.lreturn, 1) := by decide +kernel
theorem dr_cX17_reached_16 : decode cX17_reached 16 = .ok (.iconst 0, 1) := by decide +kernel
theorem dr_cX17_reached_17 : decode cX17_reached 17 = .ok (.istore 4, 2) := by decide +kernel
theorem dr_cX17_reached_19 : decode cX17_reached 19 = .ok (.iconst 0, 1) := by decide +kernel
theorem dr_cX17_reached_20 : decode cX17_reached 20 = .ok (.istore 5, 2) := by decide +kernel
theorem dr_cX17_reached_22 : decode cX17_reached 22 = .ok (.iload 5, 2) := by decide +kernel
theorem dr_cX17_reached_24 : decode cX17_reached 24 = .ok (.aload_n 0, 1) := by decide +kernel
theorem dr_cX17_reached_25 : decode cX17_reached 25 = .ok (.invokevirtual 96, 3) := by decide +kernel
theorem wr_10_156 : (Jvm.Cond.methodLink "SpillForgeModel" (96 : Nat) ({ cls := "SpillForgeModel$Code", name := "size", desc := "()I" } : Jvm.MethodName)) ∈ gw := gw_10 156 rfl rfl
theorem wr_9_127 : (Jvm.Cond.code ({ cls := "SpillForgeModel$Code", name := "size", desc := "()I" } : Jvm.MethodName) prog_16_method_5_code (1 : Nat) (Option.some Jvm.ClassFile.FieldType.int)) ∈ gw := gw_9 127 rfl rfl
theorem wr_9_125 : (Jvm.Cond.instanceMethod ({ cls := "SpillForgeModel$Code", name := "size", desc := "()I" } : Jvm.MethodName)) ∈ gw := gw_9 125 rfl rfl
theorem wr_9_126 : (Jvm.Cond.selects "SpillForgeModel$Code" ({ cls := "SpillForgeModel$Code", name := "size", desc := "()I" } : Jvm.MethodName) ({ cls := "SpillForgeModel$Code", name := "size", desc := "()I" } : Jvm.MethodName)) ∈ gw := gw_9 126 rfl rfl
theorem dr_cX17_reached_28 : decode cX17_reached 28 = .ok (.if_icmp .ge 89, 3) := by decide +kernel
theorem dr_cX17_reached_117 : decode cX17_reached 117 = .ok (.goto (-106), 3) := by decide +kernel
theorem dr_cX17_reached_31 : decode cX17_reached 31 = .ok (.lload_n 2, 1) := by decide +kernel
theorem dr_cX17_reached_32 : decode cX17_reached 32 = .ok (.iload 5, 2) := by decide +kernel
theorem dr_cX17_reached_34 : decode cX17_reached 34 = .ok (.lushr, 1) := by decide +kernel
theorem dr_cX17_reached_35 : decode cX17_reached 35 = .ok (.lconst 1, 1) := by decide +kernel
theorem dr_cX17_reached_36 : decode cX17_reached 36 = .ok (.land, 1) := by decide +kernel
theorem dr_cX17_reached_37 : decode cX17_reached 37 = .ok (.lconst 0, 1) := by decide +kernel
theorem dr_cX17_reached_38 : decode cX17_reached 38 = .ok (.lcmp, 1) := by decide +kernel
theorem dr_cX17_reached_39 : decode cX17_reached 39 = .ok (.ifCond .ne 6, 3) := by decide +kernel
theorem dr_cX17_reached_45 : decode cX17_reached 45 = .ok (.iconst 0, 1) := by decide +kernel
theorem dr_cX17_reached_46 : decode cX17_reached 46 = .ok (.istore 6, 2) := by decide +kernel
theorem dr_cX17_reached_48 : decode cX17_reached 48 = .ok (.iload 6, 2) := by decide +kernel
theorem dr_cX17_reached_50 : decode cX17_reached 50 = .ok (.aload_n 0, 1) := by decide +kernel
theorem dr_cX17_reached_51 : decode cX17_reached 51 = .ok (.iload 5, 2) := by decide +kernel
theorem dr_cX17_reached_53 : decode cX17_reached 53 = .ok (.invokevirtual 101, 3) := by decide +kernel
theorem wr_10_157 : (Jvm.Cond.methodLink "SpillForgeModel" (101 : Nat) ({ cls := "SpillForgeModel$Code", name := "get", desc := "(I)LSpillForgeModel$Block;" } : Jvm.MethodName)) ∈ gw := gw_10 157 rfl rfl
theorem dr_cX17_reached_56 : decode cX17_reached 56 = .ok (.invokevirtual 82, 3) := by decide +kernel
theorem dr_cX17_reached_59 : decode cX17_reached 59 = .ok (.if_icmp .ge 52, 3) := by decide +kernel
theorem dr_cX17_reached_111 : decode cX17_reached 111 = .ok (.iinc 5 1, 3) := by decide +kernel
theorem dr_cX17_reached_114 : decode cX17_reached 114 = .ok (.goto (-92), 3) := by decide +kernel
theorem dr_cX17_reached_62 : decode cX17_reached 62 = .ok (.aload_n 0, 1) := by decide +kernel
theorem dr_cX17_reached_63 : decode cX17_reached 63 = .ok (.iload 5, 2) := by decide +kernel
theorem dr_cX17_reached_65 : decode cX17_reached 65 = .ok (.invokevirtual 101, 3) := by decide +kernel
theorem dr_cX17_reached_68 : decode cX17_reached 68 = .ok (.iload 6, 2) := by decide +kernel
theorem dr_cX17_reached_70 : decode cX17_reached 70 = .ok (.invokevirtual 92, 3) := by decide +kernel
theorem dr_cX17_reached_73 : decode cX17_reached 73 = .ok (.istore 7, 2) := by decide +kernel
theorem dr_cX17_reached_75 : decode cX17_reached 75 = .ok (.iload 7, 2) := by decide +kernel
theorem dr_cX17_reached_77 : decode cX17_reached 77 = .ok (.iload_n 1, 1) := by decide +kernel
theorem dr_cX17_reached_78 : decode cX17_reached 78 = .ok (.if_icmp .eq 27, 3) := by decide +kernel
theorem dr_cX17_reached_105 : decode cX17_reached 105 = .ok (.iinc 6 1, 3) := by decide +kernel
theorem dr_cX17_reached_108 : decode cX17_reached 108 = .ok (.goto (-60), 3) := by decide +kernel
theorem dr_cX17_reached_81 : decode cX17_reached 81 = .ok (.lload_n 2, 1) := by decide +kernel
theorem dr_cX17_reached_82 : decode cX17_reached 82 = .ok (.iload 7, 2) := by decide +kernel
theorem dr_cX17_reached_84 : decode cX17_reached 84 = .ok (.lushr, 1) := by decide +kernel
theorem dr_cX17_reached_85 : decode cX17_reached 85 = .ok (.lconst 1, 1) := by decide +kernel
theorem dr_cX17_reached_86 : decode cX17_reached 86 = .ok (.land, 1) := by decide +kernel
theorem dr_cX17_reached_87 : decode cX17_reached 87 = .ok (.lconst 0, 1) := by decide +kernel
theorem dr_cX17_reached_88 : decode cX17_reached 88 = .ok (.lcmp, 1) := by decide +kernel
theorem dr_cX17_reached_89 : decode cX17_reached 89 = .ok (.ifCond .eq 6, 3) := by decide +kernel
theorem dr_cX17_reached_95 : decode cX17_reached 95 = .ok (.lload_n 2, 1) := by decide +kernel
theorem dr_cX17_reached_96 : decode cX17_reached 96 = .ok (.lconst 1, 1) := by decide +kernel
theorem dr_cX17_reached_97 : decode cX17_reached 97 = .ok (.iload 7, 2) := by decide +kernel
theorem dr_cX17_reached_99 : decode cX17_reached 99 = .ok (.lshl, 1) := by decide +kernel
theorem dr_cX17_reached_100 : decode cX17_reached 100 = .ok (.lor, 1) := by decide +kernel
theorem dr_cX17_reached_101 : decode cX17_reached 101 = .ok (.lstore_n 2, 1) := by decide +kernel
theorem dr_cX17_reached_102 : decode cX17_reached 102 = .ok (.iconst 1, 1) := by decide +kernel
theorem dr_cX17_reached_103 : decode cX17_reached 103 = .ok (.istore 4, 2) := by decide +kernel
theorem dr_cX17_reached_92 : decode cX17_reached 92 = .ok (.goto 13, 3) := by decide +kernel
theorem dr_cX17_reached_42 : decode cX17_reached 42 = .ok (.goto 69, 3) := by decide +kernel
theorem dr_cX17_reached_4 : decode cX17_reached 4 = .ok (.lconst 0, 1) := by decide +kernel
theorem dr_cX17_reached_5 : decode cX17_reached 5 = .ok (.lreturn, 1) := by decide +kernel
def pp_5050_Block_way (D : va_G) (I : FieldType → ClassId) (P5035 : List Nat) (F5036 : Nat → va_E) (q5037 : Nat) (q5038 : Nat) (p5039 : Int32) (qo5040 : Nat) (p5041 : Int32) (p5042 : Int32) (p5043 : Int32) (p5044 : Int32) (p5045 : Int32) (p5046 : Int32) (p5047 : Int32) (p5048 : Int32) (p5049 : Int32) : Option Value → va_W → Nat → Nat → Prop := fun r w dc ds => ∃ (o5054 : Int32), r = some (.int o5054) ∧ w = va_pl P5035 F5036 ∧ dc ≤ 0 ∧ ds ≤ 0 ∧ gB o5054 0 39
set_option maxRecDepth 100000 in
set_option maxHeartbeats 4000000 in
theorem cp_5050_Block_way (l : Launch) (hl0 : l.stackTraces = false) (D : va_G) (I : FieldType → ClassId) (P5035 : List Nat) (F5036 : Nat → va_E) (q5037 : Nat) (q5038 : Nat) (p5039 : Int32) (qo5040 : Nat) (p5041 : Int32) (p5042 : Int32) (p5043 : Int32) (p5044 : Int32) (p5045 : Int32) (p5046 : Int32) (p5047 : Int32) (p5048 : Int32) (p5049 : Int32) (hmq5037 : q5037 ∈ P5035) (hmq5038 : q5038 ∈ P5035) (heq5037 : F5036 q5037 = .inr (17, [.ref qo5040, .ref q5038, .int p5041, .int p5042])) (heq5038 : F5036 q5038 = .inr (20, [.int p5043, .int p5044, .int p5045, .int p5046, .int p5047, .int p5048, .int p5049])) (bp5041 : gB p5041 0 39) (bp5042 : gB p5042 0 39) (bp5043 : gB p5043 0 32) (bp5044 : gB p5044 0 1999) (bp5047 : gB p5047 0 1999) (bp5048 : gB p5048 0 1) (bp5049 : gB p5049 0 1) : CtA (gV D I) l yX12_way cX12_way 2 (some FieldType.int) 0 0 0 0 [.ref q5037, .int p5039] (va_pl P5035 F5036) (pp_5050_Block_way D I P5035 F5036 q5037 q5038 p5039 qo5040 p5041 p5042 p5043 p5044 p5045 p5046 p5047 p5048 p5049) gNA := by
  refine CtA_of hl0 (by decide) (Nat.le_of_ble_eq_true rfl) ?_
  have bp5039 := gB_any p5039
  have bp5045 := gB_any p5045
  have bp5046 := gB_any p5046
  refine G_iload_n 1 dr_cX12_way_0 rfl ?_
  refine G_if_ne 11 dr_cX12_way_1 (by decide +kernel) (fun hc5051 => ?_) (fun hc5051 => ?_)
  · have r5052 : p5039.toInt ≠ 0 := gj_neq hc5051 (show Int32.toInt 0 = 0 by decide)
    refine G_aload_n 0 dr_cX12_way_11 rfl ?_
    refine Gp_get 3 hmq5037 heq5037 dr_cX12_way_12 (gk_X12 D I) (Nat.le_of_ble_eq_true rfl) wr_9_226 rfl ?_
    exact G_iretA dr_cX12_way_15 rfl (Nat.le_of_ble_eq_true rfl) (Nat.le_of_ble_eq_true rfl) ⟨p5042, rfl, rfl, (Nat.le_of_ble_eq_true rfl), (Nat.le_of_ble_eq_true rfl), bp5042⟩
  · have r5053 : p5039.toInt = 0 := gj_eq hc5051 (show Int32.toInt 0 = 0 by decide)
    have bp5039' : gB p5039 0 0 := ⟨by omega, by omega⟩
    refine G_aload_n 0 dr_cX12_way_4 rfl ?_
    refine Gp_get 2 hmq5037 heq5037 dr_cX12_way_5 (gk_X12 D I) (Nat.le_of_ble_eq_true rfl) wr_9_222 rfl ?_
    refine G_goto 15 dr_cX12_way_8 (by decide +kernel) ?_
    exact G_iretA dr_cX12_way_15 rfl (Nat.le_of_ble_eq_true rfl) (Nat.le_of_ble_eq_true rfl) ⟨p5041, rfl, rfl, (Nat.le_of_ble_eq_true rfl), (Nat.le_of_ble_eq_true rfl), bp5041⟩
def pt_7383_SpillForgeModel_value (D : va_G) (I : FieldType → ClassId) (γ el : Nat → Nat → Nat) (P7377 : List Nat) (F7378 : Nat → va_E) (q7379 : Nat) (p7380 : Int32) (p7381 : Int32) : Option Value → va_W → Nat → Nat → Prop := fun r w dc ds => ∃ (o7438 : Int32), r = some (.int o7438) ∧ w = va_pl P7377 F7378 ∧ dc ≤ 0 ∧ ds ≤ 0
set_option maxRecDepth 100000 in
set_option maxHeartbeats 4000000 in
theorem ct_7383_SpillForgeModel_value (l : Launch) (hl0 : l.stackTraces = false) (D : va_G) (I : FieldType → ClassId) (γ el : Nat → Nat → Nat) (P7377 : List Nat) (F7378 : Nat → va_E) (q7379 : Nat) (p7380 : Int32) (p7381 : Int32) (hT : RS D I P7377 F7378 γ el) (htq7379 : rKd γ q7379 10) (bp7380 : gB p7380 0 1) (x7382 : (p7380.toInt = 0 ∨ (0 ≤ p7381.toInt ∧ p7381.toInt ≤ 1999))) : CtA (gV D I) l yX17_value cX17_value 3 (some FieldType.int) 0 0 0 0 [.ref q7379, .int p7380, .int p7381] (va_pl P7377 F7378) (pt_7383_SpillForgeModel_value D I γ el P7377 F7378 q7379 p7380 p7381) gNA := by
  refine CtA_of hl0 (by decide) (Nat.le_of_ble_eq_true rfl) ?_
  have bp7381 := gB_any p7381
  refine G_iload_n 1 dr_cX17_value_0 rfl ?_
  refine G_if_eq 13 dr_cX17_value_1 (by decide +kernel) (fun hc7384 => ?_) (fun hc7384 => ?_)
  · have r7385 : p7380.toInt = 0 := gj_eq hc7384 (show Int32.toInt 0 = 0 by decide)
    have bp7380' : gB p7380 0 0 := ⟨by omega, by omega⟩
    refine G_iload_n 2 dr_cX17_value_13 rfl ?_
    exact G_iretA dr_cX17_value_14 rfl (Nat.le_of_ble_eq_true rfl) (Nat.le_of_ble_eq_true rfl) ⟨p7381, rfl, rfl, (Nat.le_of_ble_eq_true rfl), (Nat.le_of_ble_eq_true rfl)⟩
  · have r7386 : p7380.toInt ≠ 0 := gj_neq hc7384 (show Int32.toInt 0 = 0 by decide)
    have bp7380' : gB p7380 1 1 := ⟨by omega, by omega⟩
    refine G_aload_n 0 dr_cX17_value_4 rfl ?_
    have hm7387 : q7379 ∈ P7377 := RS_m hT htq7379 (by decide)
    obtain ⟨q7389, q7390, p7391, p7392, p7393, p7394, p7395, p7396, p7397, p7398, p7399, p7400, p7401, p7402, p7403, p7404, p7405, he7388, hB7432, ht7406, ht7407, ht7408, ht7409, ht7410, ht7411, ht7412, ht7413, ht7414, ht7415, ht7416, ht7417, ht7418, ht7419, ht7420, ht7421, ht7422, ht7423, ht7424, ht7425, ht7426, ht7427, ht7428, ht7429, hB7433⟩ := show rk_10 γ (F7378 q7379) from RS_o hT htq7379
    refine Gp_get 20 hm7387 he7388 dr_cX17_value_5 (gk_X17 D I) (Nat.le_of_ble_eq_true rfl) wr_7_94 rfl ?_
    refine G_iload_n 2 dr_cX17_value_8 rfl ?_
    have hm7434 : (γ 9 20) ∈ P7377 := RS_m hT ht7422 (by decide)
    obtain ⟨f7436, he7435⟩ := show rk_22 I (F7378 (γ 9 20)) from RS_o hT ht7422
    refine Gp_iald 0 hm7434 he7435 dr_cX17_value_9 rfl (gB_inr (by omega) (by omega)) (G_nam fun z7437 hz7437 => ?_)
    have bz7437 : gB z7437 (-2147483648) 2147483647 := gB_any z7437
    refine G_goto 14 dr_cX17_value_10 (by decide +kernel) ?_
    exact G_iretA dr_cX17_value_14 rfl (Nat.le_of_ble_eq_true rfl) (Nat.le_of_ble_eq_true rfl) ⟨z7437, rfl, rfl, (Nat.le_of_ble_eq_true rfl), (Nat.le_of_ble_eq_true rfl)⟩
abbrev ky_7444_SpillForgeModel_leads : gKey := (cX17_leads, 3, "SpillForgeModel", (some FieldType.boolean), [], "leads", fun _ _ => True)
def pt_7444_SpillForgeModel_leads (D : va_G) (I : FieldType → ClassId) (γ el : Nat → Nat → Nat) (P7440 : List Nat) (F7441 : Nat → va_E) (q7442 : Nat) (p7443 : Int32) : Option Value → va_W → Nat → Nat → Prop := fun r w dc ds => ∃ (o7640 : Int32), r = some (.int o7640) ∧ w = va_pl P7440 F7441 ∧ dc ≤ 0 ∧ ds ≤ 0 ∧ gB o7640 0 1
set_option maxRecDepth 100000 in
set_option maxHeartbeats 4000000 in
theorem ct_7444_SpillForgeModel_leads (l : Launch) (hl0 : l.stackTraces = false) (D : va_G) (I : FieldType → ClassId) (γ el : Nat → Nat → Nat) (P7440 : List Nat) (F7441 : Nat → va_E) (q7442 : Nat) (p7443 : Int32) (hT : RS D I P7440 F7441 γ el) (htq7442 : rKd γ q7442 2) : CtA (gV D I) l yX17_leads cX17_leads 3 (some FieldType.boolean) 1 21 0 0 [.ref q7442, .int p7443] (va_pl P7440 F7441) (pt_7444_SpillForgeModel_leads D I γ el P7440 F7441 q7442 p7443) gNA := by
  refine CtA_of hl0 (by decide) (Nat.le_of_ble_eq_true rfl) ?_
  have bp7443 := gB_any p7443
  refine G_iconst 0 dr_cX17_leads_0 (by decide +kernel) ?_
  refine G_istore_n (L' := [(2, .int 0), (0, .ref q7442), (1, .int p7443)]) dr_cX17_leads_1 (Nat.le_of_ble_eq_true rfl) rfl ?_
  have hlp2_7590 : ∀ (n2_7590 : Nat) (g7590 : Int32), gB g7590 0 2 → ((3 : Int) - g7590.toInt).toNat < n2_7590 → G (gV D I) l (gRm 1 21 0 0) (gMA (gV D I) (pt_7444_SpillForgeModel_leads D I γ el P7440 F7441 q7442 p7443) gNA 0 0) ky_7444_SpillForgeModel_leads 2 [(2, .int g7590), (0, .ref q7442), (1, .int p7443)] [] (va_pl P7440 F7441) 0 0 := by
    intro n2_7590
    induction n2_7590 with
    | zero => intro g7590 bg7590 hm2_7590; exact absurd hm2_7590 (Nat.not_lt_zero _)
    | succ n2_7590 ih2_7590 =>
      intro g7590 bg7590 hm2_7590
      refine G_iload_n 0 dr_cX17_leads_2 rfl ?_
      refine G_aload_n 1 dr_cX17_leads_3 rfl ?_
      have hm7592 : q7442 ∈ P7440 := RS_m hT htq7442 (by decide)
      obtain ⟨q7594, q7595, p7596, p7597, he7593, ht7604, ht7598, ht7599, ht7600, ht7601, ht7602, bp7596, bp7597, r7603, r7605, r7606⟩ := show rk_2 γ q7442 (F7441 q7442) from RS_o hT htq7442
      have hm7607 : q7595 ∈ P7440 := RS_m hT ht7600 (by decide)
      obtain ⟨p7609, p7610, p7611, p7612, p7613, p7614, p7615, he7608, bp7609, bp7610, bp7613, bp7614, bp7615, r7616, r7617, r7618, r7619, r7620⟩ := show rk_1 γ q7595 (F7441 q7595) from RS_o hT ht7600
      have bp7611 := gB_any p7611
      have bp7612 := gB_any p7612
      refine Gw_callV (As := []) (gV_ok D I) (cp_1809_Block_ways l hl0 D I P7440 F7441 q7442 q7595 q7594 p7596 p7597 p7609 p7610 p7611 p7612 p7613 p7614 p7615 hm7592 hm7607 he7593 he7608 bp7596 bp7597 bp7609 bp7610 bp7613 bp7614 bp7615) dr_cX17_leads_4 ⟨wr_10_162, wr_1_38, wr_10_165, by decide, rfl, (Nat.le_of_ble_eq_true rfl), (Nat.le_of_ble_eq_true rfl)⟩ wr_10_163 wr_10_164 hm7592 he7593 rfl (show 0 + 0 ≤ 0 by first | omega | decide) (show 0 + 0 ≤ 0 by first | omega | decide) (Nat.le_of_ble_eq_true rfl) (fun r7624 w7625 dc7621 ds7622 hp7623 => ?_) (fun _ _ _ _ _ z => z.elim)
      obtain ⟨o7626, rfl, rfl, hdc, hds, bo7626⟩ := hp7623
      change G _ _ _ _ _ _ _ (.int o7626 :: _) _ _ _
      refine G_widen (cs' := 0) (sl' := 0) (by omega) (by omega) ?_
      refine G_icmp_ge 27 dr_cX17_leads_7 (by decide +kernel) (fun hc7627 => ?_) (fun hc7627 => ?_)
      · have r7628 : o7626.toInt ≤ g7590.toInt := gC_le hc7627
        refine G_iconst 0 dr_cX17_leads_27 (by decide +kernel) ?_
        exact G_zretA FieldType.boolean dr_cX17_leads_28 rfl rfl (Nat.le_of_ble_eq_true rfl) (Nat.le_of_ble_eq_true rfl) ⟨0, rfl, rfl, (Nat.le_of_ble_eq_true rfl), (Nat.le_of_ble_eq_true rfl), (gB_w (gBl (show Int32.toInt 0 = 0 by decide)) (by decide) (by decide))⟩
      · have r7629 : g7590.toInt < o7626.toInt := gC_nle hc7627
        have bg7590' : gB g7590 0 1 := ⟨by omega, by omega⟩
        have bo7626' : gB o7626 1 2 := ⟨by omega, by omega⟩
        refine G_aload_n 1 dr_cX17_leads_10 rfl ?_
        refine G_iload_n 0 dr_cX17_leads_11 rfl ?_
        refine Gw_callV (As := [.int g7590]) (gV_ok D I) (cp_5050_Block_way l hl0 D I P7440 F7441 q7442 q7595 g7590 q7594 p7596 p7597 p7609 p7610 p7611 p7612 p7613 p7614 p7615 hm7592 hm7607 he7593 he7608 bp7596 bp7597 bp7609 bp7610 bp7613 bp7614 bp7615) dr_cX17_leads_12 ⟨wr_10_166, wr_1_38, wr_10_169, by decide, rfl, (Nat.le_of_ble_eq_true rfl), (Nat.le_of_ble_eq_true rfl)⟩ wr_10_167 wr_10_168 hm7592 he7593 rfl (show 0 + 0 ≤ 0 by first | omega | decide) (show 0 + 0 ≤ 0 by first | omega | decide) (Nat.le_of_ble_eq_true rfl) (fun r7633 w7634 dc7630 ds7631 hp7632 => ?_) (fun _ _ _ _ _ z => z.elim)
        obtain ⟨o7635, rfl, rfl, hdc, hds, bo7635⟩ := hp7632
        change G _ _ _ _ _ _ _ (.int o7635 :: _) _ _ _
        refine G_widen (cs' := 0) (sl' := 0) (by omega) (by omega) ?_
        refine G_iload_n 2 dr_cX17_leads_15 rfl ?_
        refine G_icmp_ne 21 dr_cX17_leads_16 (by decide +kernel) (fun hc7636 => ?_) (fun hc7636 => ?_)
        · have r7637 : o7635.toInt ≠ p7443.toInt := gC_ne hc7636
          obtain ⟨z7638, hz7638⟩ : ∃ z : Int32, z = g7590 + Int32.ofInt 1 := ⟨_, rfl⟩
          have ez7638 : z7638.toInt = g7590.toInt + 1 := gI_inc hz7638 (by decide) bg7590' (by decide) (by decide)
          have bz7638 : gB z7638 1 2 := ⟨by omega, by omega⟩
          refine G_iinc (L' := [(2, .int z7638), (0, .ref q7442), (1, .int p7443)]) z7638 0 dr_cX17_leads_21 rfl hz7638.symm (Nat.le_of_ble_eq_true rfl) rfl ?_
          refine G_goto 2 dr_cX17_leads_24 (by decide +kernel) ?_
          exact ih2_7590 z7638 (gB_w bz7638 (by decide) (by decide)) (by omega)
        · have r7639 : o7635.toInt = p7443.toInt := gC_eq hc7636
          have bp7443' : gB p7443 0 39 := ⟨by omega, by omega⟩
          refine G_iconst 1 dr_cX17_leads_19 (by decide +kernel) ?_
          exact G_zretA FieldType.boolean dr_cX17_leads_20 rfl rfl (Nat.le_of_ble_eq_true rfl) (Nat.le_of_ble_eq_true rfl) ⟨1, rfl, rfl, (Nat.le_of_ble_eq_true rfl), (Nat.le_of_ble_eq_true rfl), (gB_w (gBl (show Int32.toInt 1 = 1 by decide)) (by decide) (by decide))⟩
  exact hlp2_7590 (((3 : Int) - 0).toNat + 1) 0 (gB_w (gBl (show Int32.toInt 0 = 0 by decide)) (by decide) (by decide)) (Nat.lt_succ_self _)
def pp_7737_Code_get (D : va_G) (I : FieldType → ClassId) (P7715 : List Nat) (F7716 : Nat → va_E) (q7717 : Nat) (q7718 : Nat) (q7719 : Nat) (p7720 : Int32) (qo7721 : Nat) (p7722 : Int32) (p7723 : Int32) (p7724 : Int32) (p7725 : Int32) (f7726 : Nat → Option Nat) (n7727 : Nat) (x7728 : Nat) (qo7729 : Nat) (qo7730 : Nat) (p7731 : Int32) (p7732 : Int32) : Option Value → va_W → Nat → Nat → Prop := fun r w dc ds => r = some (.ref x7728) ∧ w = va_pl P7715 F7716 ∧ dc ≤ 0 ∧ ds ≤ 0
set_option maxRecDepth 100000 in
set_option maxHeartbeats 4000000 in
theorem cp_7737_Code_get (l : Launch) (hl0 : l.stackTraces = false) (D : va_G) (I : FieldType → ClassId) (P7715 : List Nat) (F7716 : Nat → va_E) (q7717 : Nat) (q7718 : Nat) (q7719 : Nat) (p7720 : Int32) (qo7721 : Nat) (p7722 : Int32) (p7723 : Int32) (p7724 : Int32) (p7725 : Int32) (f7726 : Nat → Option Nat) (n7727 : Nat) (x7728 : Nat) (qo7729 : Nat) (qo7730 : Nat) (p7731 : Int32) (p7732 : Int32) (hmq7717 : q7717 ∈ P7715) (hmq7718 : q7718 ∈ P7715) (hmq7719 : q7719 ∈ P7715) (hmx7728 : x7728 ∈ P7715) (heq7717 : F7716 q7717 = .inr (18, [.ref q7718, .ref qo7721, .int p7722, .int p7723])) (heq7718 : F7716 q7718 = .inr (4, [.int p7724, .ref q7719, .int p7725])) (heq7719 : F7716 q7719 = .inl (I (.object "java/lang/Object"), n7727, .inr (.inr (.inr (.inr f7726))))) (hex7728 : F7716 x7728 = .inr (17, [.ref qo7729, .ref qo7730, .int p7731, .int p7732])) (bp7720 : gB p7720 0 16777216) (bp7725 : gB p7725 0 16777216) (x7733 : p7720.toInt < p7725.toInt) (x7734 : p7725.toInt ≤ (n7727 : Int)) (x7735 : f7726 p7720.toNatClampNeg = some x7728) (x7736 : ((n7727 : Int) ≤ 16777216)) : CtA (gV D I) l yX13_get cX13_get 2 (some (FieldType.object "SpillForgeModel$Block")) 3 64 0 0 [.ref q7717, .int p7720] (va_pl P7715 F7716) (pp_7737_Code_get D I P7715 F7716 q7717 q7718 q7719 p7720 qo7721 p7722 p7723 p7724 p7725 f7726 n7727 x7728 qo7729 qo7730 p7731 p7732) gNA := by
  refine CtA_of hl0 (by decide) (Nat.le_of_ble_eq_true rfl) ?_
  have bp7722 := gB_any p7722
  have bp7723 := gB_any p7723
  have bp7724 := gB_any p7724
  have bp7731 := gB_any p7731
  have bp7732 := gB_any p7732
  refine G_aload_n 0 dr_cX13_get_0 rfl ?_
  refine Gp_get 0 hmq7717 heq7717 dr_cX13_get_1 (gk_X13 D I) (Nat.le_of_ble_eq_true rfl) wr_7_30 rfl ?_
  refine G_iload_n 1 dr_cX13_get_4 rfl ?_
  refine Gw_callV (As := [.int p7720]) (gV_ok D I) (cp_22_ArrayList_get l hl0 D I P7715 F7716 q7718 q7719 p7720 p7724 p7725 f7726 n7727 x7728 hmq7718 hmq7719 heq7718 heq7719 bp7720 bp7725 (by omega) (by omega) (by assumption) (by omega)) dr_cX13_get_5 ⟨wr_10_58, wr_1_18, wr_10_61, by decide, rfl, (Nat.le_of_ble_eq_true rfl), (Nat.le_of_ble_eq_true rfl)⟩ wr_10_59 wr_10_60 hmq7718 heq7718 rfl (show 0 + 0 ≤ 0 by first | omega | decide) (show 0 + 0 ≤ 0 by first | omega | decide) (Nat.le_of_ble_eq_true rfl) (fun r7741 w7742 dc7738 ds7739 hp7740 => ?_) (fun _ _ _ _ _ z => z.elim)
  obtain ⟨rfl, rfl, hdc, hds⟩ := hp7740
  change G _ _ _ _ _ _ _ (.ref x7728 :: _) _ _ _
  refine G_widen (cs' := 0) (sl' := 0) (by omega) (by omega) ?_
  refine Gp_cast hmx7728 hex7728 rfl dr_cX13_get_8 wr_9_157 (gr_cast 0 rfl) ?_
  exact G_aretA (FieldType.object "SpillForgeModel$Block") dr_cX13_get_11 rfl (by first | exact Or.inl ⟨_, rfl⟩ | exact Or.inr ⟨_, rfl⟩) (Or.inr ⟨_, rfl⟩) (Nat.le_of_ble_eq_true rfl) (Nat.le_of_ble_eq_true rfl) ⟨rfl, rfl, (Nat.le_of_ble_eq_true rfl), (Nat.le_of_ble_eq_true rfl)⟩
abbrev ky_7646_Code_countRows : gKey := (cX13_countRows, 3, "SpillForgeModel$Code", (some FieldType.int), [], "countRows", fun _ _ => True)
def pt_7646_Code_countRows (D : va_G) (I : FieldType → ClassId) (γ el : Nat → Nat → Nat) (P7642 : List Nat) (F7643 : Nat → va_E) (q7644 : Nat) : Option Value → va_W → Nat → Nat → Prop := fun r w dc ds => ∃ (o8593 : Int32), r = some (.int o8593) ∧ w = va_pl P7642 F7643 ∧ dc ≤ 0 ∧ ds ≤ 0
set_option maxRecDepth 100000 in
set_option maxHeartbeats 4000000 in
theorem ct_7646_Code_countRows (l : Launch) (hl0 : l.stackTraces = false) (D : va_G) (I : FieldType → ClassId) (γ el : Nat → Nat → Nat) (P7642 : List Nat) (F7643 : Nat → va_E) (q7644 : Nat) (hT : RS D I P7642 F7643 γ el) (htq7644 : rKd γ q7644 9) (x7645 : 0 < γ 6 (γ 1 q7644)) : CtA (gV D I) l yX13_countRows cX13_countRows 3 (some FieldType.int) 4 85 0 0 [.ref q7644] (va_pl P7642 F7643) (pt_7646_Code_countRows D I γ el P7642 F7643 q7644) gNA := by
  refine CtA_of hl0 (by decide) (Nat.le_of_ble_eq_true rfl) ?_
  refine G_iconst 0 dr_cX13_countRows_0 (by decide +kernel) ?_
  refine G_istore_n (L' := [(1, .int 0), (0, .ref q7644)]) dr_cX13_countRows_1 (Nat.le_of_ble_eq_true rfl) rfl ?_
  refine G_iconst 0 dr_cX13_countRows_2 (by decide +kernel) ?_
  refine G_istore_n (L' := [(2, .int 0), (1, .int 0), (0, .ref q7644)]) dr_cX13_countRows_3 (Nat.le_of_ble_eq_true rfl) rfl ?_
  have hlp4_8501 : ∀ (n4_8501 : Nat) (g8500 : Int32) (g8501 : Int32), gB g8500 0 1000000 → ((1000001 : Int) - g8500.toInt).toNat < n4_8501 → G (gV D I) l (gRm 4 85 0 0) (gMA (gV D I) (pt_7646_Code_countRows D I γ el P7642 F7643 q7644) gNA 0 0) ky_7646_Code_countRows 4 [(2, .int g8500), (1, .int g8501), (0, .ref q7644)] [] (va_pl P7642 F7643) 0 0 := by
    intro n4_8501
    induction n4_8501 with
    | zero => intro g8500 g8501 bg8500 hm4_8501; exact absurd hm4_8501 (Nat.not_lt_zero _)
    | succ n4_8501 ih4_8501 =>
      intro g8500 g8501 bg8500 hm4_8501
      have bg8501 := gB_any g8501
      refine G_iload_n 0 dr_cX13_countRows_4 rfl ?_
      refine G_aload_n 2 dr_cX13_countRows_5 rfl ?_
      have hm8503 : q7644 ∈ P7642 := RS_m hT htq7644 (by decide)
      obtain ⟨q8505, q8506, p8507, p8508, he8504, ht8524, ht8509, ht8510, ht8511, ht8512, r8513, r8514, r8515, r8516, r8517, r8518, r8519, r8520, r8521, r8522, r8523⟩ := show rk_9 γ el q7644 (F7643 q7644) from RS_o hT htq7644
      have bp8507 : gB p8507 0 1000000 := ⟨by omega, by omega⟩
      have bp8508 : gB p8508 0 1000000 := ⟨by omega, by omega⟩
      refine Gp_get 3 hm8503 he8504 dr_cX13_countRows_6 (gk_X13 D I) (Nat.le_of_ble_eq_true rfl) wr_7_33 rfl ?_
      refine G_icmp_ge 32 dr_cX13_countRows_9 (by decide +kernel) (fun hc8525 => ?_) (fun hc8525 => ?_)
      · have r8526 : p8508.toInt ≤ g8500.toInt := gC_le hc8525
        refine G_iload_n 1 dr_cX13_countRows_32 rfl ?_
        exact G_iretA dr_cX13_countRows_33 rfl (Nat.le_of_ble_eq_true rfl) (Nat.le_of_ble_eq_true rfl) ⟨g8501, rfl, rfl, (Nat.le_of_ble_eq_true rfl), (Nat.le_of_ble_eq_true rfl)⟩
      · have r8527 : g8500.toInt < p8508.toInt := gC_nle hc8525
        have bg8500' : gB g8500 0 999999 := ⟨by omega, by omega⟩
        have bp8508' : gB p8508 1 1000000 := ⟨by omega, by omega⟩
        refine G_iload_n 1 dr_cX13_countRows_12 rfl ?_
        refine G_aload_n 2 dr_cX13_countRows_13 rfl ?_
        refine G_iload_n 0 dr_cX13_countRows_14 rfl ?_
        have hm8528 : q8505 ∈ P7642 := RS_m hT ht8509 (by decide)
        obtain ⟨⟨p8530, p8531, q8532, he8529, r8533, r8534, r8535, r8537⟩, r8536⟩ := show rk_4 D I γ el F7643 q8505 from RS_o hT ht8509
        have bp8530 := gB_any p8530
        have bp8531 : gB p8531 0 1000000 := ⟨by omega, by omega⟩
        obtain ⟨r8538, r8539, n8546, f8547, r8540, r8541, r8542, r8543, r8544, r8545⟩ := rLC_n r8535 (by omega)
        have hm8548 : q8532 ∈ P7642 := RS_m hT r8538 (by decide)
        obtain ⟨q8549, hx8550⟩ : ∃ x, x = el q8505 g8500.toInt.toNat := ⟨_, rfl⟩
        have hx8551 : f8547 g8500.toNatClampNeg = some q8549 := (r8544 _ (show g8500.toInt.toNat < γ 2 q8505 by omega)).trans (by rw [hx8550])
        have ht8554 : rKd γ q8549 2 := by rw [hx8550]; exact (r8520 _ (by omega)).resolve_right (fun z => absurd z.1 (by omega))
        have ht8555 : rFm γ q8549 q8505 := by rw [hx8550]; exact (r8536 _ (show g8500.toInt.toNat < γ 2 q8505 by omega)).2.1
        have hm8556 : q8549 ∈ P7642 := RS_m hT ht8554 (by decide)
        obtain ⟨q8558, q8559, p8560, p8561, he8557, ht8568, ht8562, ht8563, ht8564, ht8565, ht8566, bp8560, bp8561, r8567, r8569, r8570⟩ := show rk_2 γ q8549 (F7643 q8549) from RS_o hT ht8554
        refine Gw_callV (As := [.int g8500]) (gV_ok D I) (cp_7737_Code_get l hl0 D I P7642 F7643 q7644 q8505 q8532 g8500 q8506 p8507 p8508 p8530 p8531 f8547 n8546 q8549 q8558 q8559 p8560 p8561 hm8503 hm8528 hm8548 hm8556 he8504 he8529 r8540 he8557 (gB_w bg8500' (by decide) (by decide)) (gB_w bp8531 (by decide) (by decide)) (by omega) (by omega) (by assumption) (by omega)) dr_cX13_countRows_15 ⟨wr_10_134, wr_1_15, wr_10_137, by decide, rfl, (Nat.le_of_ble_eq_true rfl), (Nat.le_of_ble_eq_true rfl)⟩ wr_10_135 wr_10_136 hm8503 he8504 rfl (show 0 + 0 ≤ 0 by first | omega | decide) (show 0 + 0 ≤ 0 by first | omega | decide) (Nat.le_of_ble_eq_true rfl) (fun r8574 w8575 dc8571 ds8572 hp8573 => ?_) (fun _ _ _ _ _ z => z.elim)
        obtain ⟨rfl, rfl, hdc, hds⟩ := hp8573
        change G _ _ _ _ _ _ _ (.ref q8549 :: _) _ _ _
        refine G_widen (cs' := 0) (sl' := 0) (by omega) (by omega) ?_
        refine Gp_get 0 hm8556 he8557 dr_cX13_countRows_18 (gk_X12 D I) (Nat.le_of_ble_eq_true rfl) wr_9_215 rfl ?_
        have hm8576 : q8558 ∈ P7642 := RS_m hT ht8562 (by decide)
        obtain ⟨⟨p8578, p8579, q8580, he8577, r8581, r8582, r8583, r8585⟩, r8584⟩ := show rk_3 D I γ el F7643 q8558 from RS_o hT ht8562
        have bp8578 := gB_any p8578
        have bp8579 : gB p8579 0 1000000 := ⟨by omega, by omega⟩
        refine Gw_callV (As := []) (gV_ok D I) (cp_7_ArrayList_size l hl0 D I P7642 F7643 q8558 p8578 q8580 p8579 hm8576 he8577 (gB_w bp8579 (by decide) (by decide))) dr_cX13_countRows_21 ⟨wr_9_153, wr_1_18, wr_9_156, by decide, rfl, (Nat.le_of_ble_eq_true rfl), (Nat.le_of_ble_eq_true rfl)⟩ wr_9_154 wr_9_155 hm8576 he8577 rfl (show 0 + 0 ≤ 0 by first | omega | decide) (show 0 + 0 ≤ 0 by first | omega | decide) (Nat.le_of_ble_eq_true rfl) (fun r8589 w8590 dc8586 ds8587 hp8588 => ?_) (fun _ _ _ _ _ z => z.elim)
        obtain ⟨rfl, rfl, hdc, hds⟩ := hp8588
        change G _ _ _ _ _ _ _ (.int p8579 :: _) _ _ _
        refine G_widen (cs' := 0) (sl' := 0) (by omega) (by omega) ?_
        refine G_iadd dr_cX13_countRows_24 (G_nam fun z8591 hz8591 => ?_)
        have bz8591 : gB z8591 (-2147483648) 2147483647 := gB_any z8591
        refine G_istore_n (L' := [(1, .int z8591), (2, .int g8500), (0, .ref q7644)]) dr_cX13_countRows_25 (Nat.le_of_ble_eq_true rfl) rfl ?_
        obtain ⟨z8592, hz8592⟩ : ∃ z : Int32, z = g8500 + Int32.ofInt 1 := ⟨_, rfl⟩
        have ez8592 : z8592.toInt = g8500.toInt + 1 := gI_inc hz8592 (by decide) bg8500' (by decide) (by decide)
        have bz8592 : gB z8592 1 1000000 := ⟨by omega, by omega⟩
        refine G_iinc (L' := [(2, .int z8592), (1, .int z8591), (0, .ref q7644)]) z8592 1 dr_cX13_countRows_26 rfl hz8592.symm (Nat.le_of_ble_eq_true rfl) rfl ?_
        refine G_goto 4 dr_cX13_countRows_29 (by decide +kernel) ?_
        exact ih4_8501 z8592 z8591 (gB_w bz8592 (by decide) (by decide)) (by omega)
  exact hlp4_8501 (((1000001 : Int) - 0).toNat + 1) 0 0 (gB_w (gBl (show Int32.toInt 0 = 0 by decide)) (by decide) (by decide)) (Nat.lt_succ_self _)
abbrev ky_8600_Code_count : gKey := (cX13_count, 5, "SpillForgeModel$Code", (some FieldType.int), [], "count", fun _ _ => True)
def pt_8600_Code_count (D : va_G) (I : FieldType → ClassId) (γ el : Nat → Nat → Nat) (P8595 : List Nat) (F8596 : Nat → va_E) (q8597 : Nat) (p8598 : Int32) : Option Value → va_W → Nat → Nat → Prop := fun r w dc ds => ∃ (o12457 : Int32), r = some (.int o12457) ∧ w = va_pl P8595 F8596 ∧ dc ≤ 0 ∧ ds ≤ 0
set_option maxRecDepth 100000 in
set_option maxHeartbeats 4000000 in
theorem ct_8600_Code_count (l : Launch) (hl0 : l.stackTraces = false) (D : va_G) (I : FieldType → ClassId) (γ el : Nat → Nat → Nat) (P8595 : List Nat) (F8596 : Nat → va_E) (q8597 : Nat) (p8598 : Int32) (hT : RS D I P8595 F8596 γ el) (htq8597 : rKd γ q8597 9) (x8599 : 0 < γ 6 (γ 1 q8597)) : CtA (gV D I) l yX13_count cX13_count 5 (some FieldType.int) 4 85 0 0 [.ref q8597, .int p8598] (va_pl P8595 F8596) (pt_8600_Code_count D I γ el P8595 F8596 q8597 p8598) gNA := by
  refine CtA_of hl0 (by decide) (Nat.le_of_ble_eq_true rfl) ?_
  have bp8598 := gB_any p8598
  refine G_iconst 0 dr_cX13_count_0 (by decide +kernel) ?_
  refine G_istore_n (L' := [(2, .int 0), (0, .ref q8597), (1, .int p8598)]) dr_cX13_count_1 (Nat.le_of_ble_eq_true rfl) rfl ?_
  refine G_iconst 0 dr_cX13_count_2 (by decide +kernel) ?_
  refine G_istore_n (L' := [(3, .int 0), (2, .int 0), (0, .ref q8597), (1, .int p8598)]) dr_cX13_count_3 (Nat.le_of_ble_eq_true rfl) rfl ?_
  have hlp4_12197 : ∀ (n4_12197 : Nat) (g12196 : Int32) (g12197 : Int32), gB g12196 0 1000000 → ((1000001 : Int) - g12196.toInt).toNat < n4_12197 → G (gV D I) l (gRm 4 85 0 0) (gMA (gV D I) (pt_8600_Code_count D I γ el P8595 F8596 q8597 p8598) gNA 0 0) ky_8600_Code_count 4 [(3, .int g12196), (2, .int g12197), (0, .ref q8597), (1, .int p8598)] [] (va_pl P8595 F8596) 0 0 := by
    intro n4_12197
    induction n4_12197 with
    | zero => intro g12196 g12197 bg12196 hm4_12197; exact absurd hm4_12197 (Nat.not_lt_zero _)
    | succ n4_12197 ih4_12197 =>
      intro g12196 g12197 bg12196 hm4_12197
      have bg12197 := gB_any g12197
      refine G_iload_n 0 dr_cX13_count_4 rfl ?_
      refine G_aload_n 2 dr_cX13_count_5 rfl ?_
      have hm12199 : q8597 ∈ P8595 := RS_m hT htq8597 (by decide)
      obtain ⟨q12201, q12202, p12203, p12204, he12200, ht12220, ht12205, ht12206, ht12207, ht12208, r12209, r12210, r12211, r12212, r12213, r12214, r12215, r12216, r12217, r12218, r12219⟩ := show rk_9 γ el q8597 (F8596 q8597) from RS_o hT htq8597
      have bp12203 : gB p12203 0 1000000 := ⟨by omega, by omega⟩
      have bp12204 : gB p12204 0 1000000 := ⟨by omega, by omega⟩
      refine Gp_get 3 hm12199 he12200 dr_cX13_count_6 (gk_X13 D I) (Nat.le_of_ble_eq_true rfl) wr_7_33 rfl ?_
      refine G_icmp_ge 74 dr_cX13_count_9 (by decide +kernel) (fun hc12221 => ?_) (fun hc12221 => ?_)
      · have r12222 : p12204.toInt ≤ g12196.toInt := gC_le hc12221
        refine G_iload_n 1 dr_cX13_count_74 rfl ?_
        exact G_iretA dr_cX13_count_75 rfl (Nat.le_of_ble_eq_true rfl) (Nat.le_of_ble_eq_true rfl) ⟨g12197, rfl, rfl, (Nat.le_of_ble_eq_true rfl), (Nat.le_of_ble_eq_true rfl)⟩
      · have r12223 : g12196.toInt < p12204.toInt := gC_nle hc12221
        have bg12196' : gB g12196 0 999999 := ⟨by omega, by omega⟩
        have bp12204' : gB p12204 1 1000000 := ⟨by omega, by omega⟩
        refine G_iconst 0 dr_cX13_count_12 (by decide +kernel) ?_
        refine G_istore (L' := [(4, .int 0), (3, .int g12196), (2, .int g12197), (0, .ref q8597), (1, .int p8598)]) dr_cX13_count_13 (Nat.le_of_ble_eq_true rfl) rfl ?_
        have hlp15_12341 : ∀ (n15_12341 : Nat) (g12340 : Int32) (g12341 : Int32), gB g12340 0 1000000 → ((1000001 : Int) - g12340.toInt).toNat < n15_12341 → G (gV D I) l (gRm 4 85 0 0) (gMA (gV D I) (pt_8600_Code_count D I γ el P8595 F8596 q8597 p8598) gNA 0 0) ky_8600_Code_count 15 [(4, .int g12340), (3, .int g12196), (2, .int g12341), (0, .ref q8597), (1, .int p8598)] [] (va_pl P8595 F8596) 0 0 := by
          intro n15_12341
          induction n15_12341 with
          | zero => intro g12340 g12341 bg12340 hm15_12341; exact absurd hm15_12341 (Nat.not_lt_zero _)
          | succ n15_12341 ih15_12341 =>
            intro g12340 g12341 bg12340 hm15_12341
            have bg12341 := gB_any g12341
            refine G_iload 0 dr_cX13_count_15 rfl ?_
            refine G_aload_n 3 dr_cX13_count_17 rfl ?_
            refine G_iload_n 1 dr_cX13_count_18 rfl ?_
            have hm12343 : q12201 ∈ P8595 := RS_m hT ht12205 (by decide)
            obtain ⟨⟨p12345, p12346, q12347, he12344, r12348, r12349, r12350, r12352⟩, r12351⟩ := show rk_4 D I γ el F8596 q12201 from RS_o hT ht12205
            have bp12345 := gB_any p12345
            have bp12346 : gB p12346 0 1000000 := ⟨by omega, by omega⟩
            obtain ⟨r12353, r12354, n12361, f12362, r12355, r12356, r12357, r12358, r12359, r12360⟩ := rLC_n r12350 (by omega)
            have hm12363 : q12347 ∈ P8595 := RS_m hT r12353 (by decide)
            obtain ⟨q12364, hx12365⟩ : ∃ x, x = el q12201 g12196.toInt.toNat := ⟨_, rfl⟩
            have hx12366 : f12362 g12196.toNatClampNeg = some q12364 := (r12359 _ (show g12196.toInt.toNat < γ 2 q12201 by omega)).trans (by rw [hx12365])
            have ht12369 : rKd γ q12364 2 := by rw [hx12365]; exact (r12216 _ (by omega)).resolve_right (fun z => absurd z.1 (by omega))
            have ht12370 : rFm γ q12364 q12201 := by rw [hx12365]; exact (r12351 _ (show g12196.toInt.toNat < γ 2 q12201 by omega)).2.1
            have hm12371 : q12364 ∈ P8595 := RS_m hT ht12369 (by decide)
            obtain ⟨q12373, q12374, p12375, p12376, he12372, ht12383, ht12377, ht12378, ht12379, ht12380, ht12381, bp12375, bp12376, r12382, r12384, r12385⟩ := show rk_2 γ q12364 (F8596 q12364) from RS_o hT ht12369
            refine Gw_callV (As := [.int g12196]) (gV_ok D I) (cp_7737_Code_get l hl0 D I P8595 F8596 q8597 q12201 q12347 g12196 q12202 p12203 p12204 p12345 p12346 f12362 n12361 q12364 q12373 q12374 p12375 p12376 hm12199 hm12343 hm12363 hm12371 he12200 he12344 r12355 he12372 (gB_w bg12196' (by decide) (by decide)) (gB_w bp12346 (by decide) (by decide)) (by omega) (by omega) (by assumption) (by omega)) dr_cX13_count_19 ⟨wr_10_134, wr_1_15, wr_10_137, by decide, rfl, (Nat.le_of_ble_eq_true rfl), (Nat.le_of_ble_eq_true rfl)⟩ wr_10_135 wr_10_136 hm12199 he12200 rfl (show 0 + 0 ≤ 0 by first | omega | decide) (show 0 + 0 ≤ 0 by first | omega | decide) (Nat.le_of_ble_eq_true rfl) (fun r12389 w12390 dc12386 ds12387 hp12388 => ?_) (fun _ _ _ _ _ z => z.elim)
            obtain ⟨rfl, rfl, hdc, hds⟩ := hp12388
            change G _ _ _ _ _ _ _ (.ref q12364 :: _) _ _ _
            refine G_widen (cs' := 0) (sl' := 0) (by omega) (by omega) ?_
            refine Gp_get 0 hm12371 he12372 dr_cX13_count_22 (gk_X12 D I) (Nat.le_of_ble_eq_true rfl) wr_9_215 rfl ?_
            have hm12391 : q12373 ∈ P8595 := RS_m hT ht12377 (by decide)
            obtain ⟨⟨p12393, p12394, q12395, he12392, r12396, r12397, r12398, r12400⟩, r12399⟩ := show rk_3 D I γ el F8596 q12373 from RS_o hT ht12377
            have bp12393 := gB_any p12393
            have bp12394 : gB p12394 0 1000000 := ⟨by omega, by omega⟩
            refine Gw_callV (As := []) (gV_ok D I) (cp_7_ArrayList_size l hl0 D I P8595 F8596 q12373 p12393 q12395 p12394 hm12391 he12392 (gB_w bp12394 (by decide) (by decide))) dr_cX13_count_25 ⟨wr_9_153, wr_1_18, wr_9_156, by decide, rfl, (Nat.le_of_ble_eq_true rfl), (Nat.le_of_ble_eq_true rfl)⟩ wr_9_154 wr_9_155 hm12391 he12392 rfl (show 0 + 0 ≤ 0 by first | omega | decide) (show 0 + 0 ≤ 0 by first | omega | decide) (Nat.le_of_ble_eq_true rfl) (fun r12404 w12405 dc12401 ds12402 hp12403 => ?_) (fun _ _ _ _ _ z => z.elim)
            obtain ⟨rfl, rfl, hdc, hds⟩ := hp12403
            change G _ _ _ _ _ _ _ (.int p12394 :: _) _ _ _
            refine G_widen (cs' := 0) (sl' := 0) (by omega) (by omega) ?_
            refine G_icmp_ge 68 dr_cX13_count_28 (by decide +kernel) (fun hc12406 => ?_) (fun hc12406 => ?_)
            · have r12407 : p12394.toInt ≤ g12340.toInt := gC_le hc12406
              obtain ⟨z12408, hz12408⟩ : ∃ z : Int32, z = g12196 + Int32.ofInt 1 := ⟨_, rfl⟩
              have ez12408 : z12408.toInt = g12196.toInt + 1 := gI_inc hz12408 (by decide) bg12196' (by decide) (by decide)
              have bz12408 : gB z12408 1 1000000 := ⟨by omega, by omega⟩
              refine G_iinc (L' := [(3, .int z12408), (4, .int g12340), (2, .int g12341), (0, .ref q8597), (1, .int p8598)]) z12408 1 dr_cX13_count_68 rfl hz12408.symm (Nat.le_of_ble_eq_true rfl) rfl ?_
              refine G_goto 4 dr_cX13_count_71 (by decide +kernel) ?_
              refine G_lv (L' := [(3, .int z12408), (2, .int g12341), (0, .ref q8597), (1, .int p8598)]) [0, 2, 3, 4] rfl ?_
              exact ih4_12197 z12408 g12341 (gB_w bz12408 (by decide) (by decide)) (by omega)
            · have r12409 : g12340.toInt < p12394.toInt := gC_nle hc12406
              have bg12340' : gB g12340 0 999999 := ⟨by omega, by omega⟩
              have bp12394' : gB p12394 1 1000000 := ⟨by omega, by omega⟩
              refine G_iload_n 2 dr_cX13_count_31 rfl ?_
              refine G_aload_n 3 dr_cX13_count_32 rfl ?_
              refine G_iload_n 1 dr_cX13_count_33 rfl ?_
              refine Gw_callV (As := [.int g12196]) (gV_ok D I) (cp_7737_Code_get l hl0 D I P8595 F8596 q8597 q12201 q12347 g12196 q12202 p12203 p12204 p12345 p12346 f12362 n12361 q12364 q12373 q12374 p12375 p12376 hm12199 hm12343 hm12363 hm12371 he12200 he12344 r12355 he12372 (gB_w bg12196' (by decide) (by decide)) (gB_w bp12346 (by decide) (by decide)) (by omega) (by omega) (by assumption) (by omega)) dr_cX13_count_34 ⟨wr_10_134, wr_1_15, wr_10_137, by decide, rfl, (Nat.le_of_ble_eq_true rfl), (Nat.le_of_ble_eq_true rfl)⟩ wr_10_135 wr_10_136 hm12199 he12200 rfl (show 0 + 0 ≤ 0 by first | omega | decide) (show 0 + 0 ≤ 0 by first | omega | decide) (Nat.le_of_ble_eq_true rfl) (fun r12413 w12414 dc12410 ds12411 hp12412 => ?_) (fun _ _ _ _ _ z => z.elim)
              obtain ⟨rfl, rfl, hdc, hds⟩ := hp12412
              change G _ _ _ _ _ _ _ (.ref q12364 :: _) _ _ _
              refine G_widen (cs' := 0) (sl' := 0) (by omega) (by omega) ?_
              refine Gp_get 0 hm12371 he12372 dr_cX13_count_37 (gk_X12 D I) (Nat.le_of_ble_eq_true rfl) wr_9_215 rfl ?_
              refine G_iload 0 dr_cX13_count_40 rfl ?_
              obtain ⟨r12415, r12416, n12423, f12424, r12417, r12418, r12419, r12420, r12421, r12422⟩ := rLC_n r12398 (by omega)
              have hm12425 : q12395 ∈ P8595 := RS_m hT r12415 (by decide)
              obtain ⟨q12426, hx12427⟩ : ∃ x, x = el q12373 g12340.toInt.toNat := ⟨_, rfl⟩
              have hx12428 : f12424 g12340.toNatClampNeg = some q12426 := (r12421 _ (show g12340.toInt.toNat < γ 2 q12373 by omega)).trans (by rw [hx12427])
              have ht12429 : rKd γ q12426 1 := by rw [hx12427]; exact (r12399 _ (show g12340.toInt.toNat < γ 2 q12373 by omega)).1
              have ht12430 : rFm γ q12426 q12373 := by rw [hx12427]; exact (r12399 _ (show g12340.toInt.toNat < γ 2 q12373 by omega)).2.1
              refine Gw_callV (As := [.int g12340]) (gV_ok D I) (cp_22_ArrayList_get l hl0 D I P8595 F8596 q12373 q12395 g12340 p12393 p12394 f12424 n12423 q12426 hm12391 hm12425 he12392 r12417 (gB_w bg12340' (by decide) (by decide)) (gB_w bp12394' (by decide) (by decide)) (by omega) (by omega) (by assumption) (by omega)) dr_cX13_count_42 ⟨wr_10_58, wr_1_18, wr_10_61, by decide, rfl, (Nat.le_of_ble_eq_true rfl), (Nat.le_of_ble_eq_true rfl)⟩ wr_10_59 wr_10_60 hm12391 he12392 rfl (show 0 + 0 ≤ 0 by first | omega | decide) (show 0 + 0 ≤ 0 by first | omega | decide) (Nat.le_of_ble_eq_true rfl) (fun r12434 w12435 dc12431 ds12432 hp12433 => ?_) (fun _ _ _ _ _ z => z.elim)
              obtain ⟨rfl, rfl, hdc, hds⟩ := hp12433
              change G _ _ _ _ _ _ _ (.ref q12426 :: _) _ _ _
              refine G_widen (cs' := 0) (sl' := 0) (by omega) (by omega) ?_
              have hm12436 : q12426 ∈ P8595 := RS_m hT ht12429 (by decide)
              obtain ⟨p12438, p12439, p12440, p12441, p12442, p12443, p12444, he12437, bp12438, bp12439, bp12442, bp12443, bp12444, r12445, r12446, r12447, r12448, r12449⟩ := show rk_1 γ q12426 (F8596 q12426) from RS_o hT ht12429
              have bp12440 := gB_any p12440
              have bp12441 := gB_any p12441
              refine Gp_cast hm12436 he12437 rfl dr_cX13_count_45 wr_10_79 (gr_cast 1 rfl) ?_
              refine Gp_get 0 hm12436 he12437 dr_cX13_count_48 (gk_X15 D I) (Nat.le_of_ble_eq_true rfl) wr_9_174 rfl ?_
              refine G_iload_n 4 dr_cX13_count_51 rfl ?_
              refine G_icmp_ne 59 dr_cX13_count_52 (by decide +kernel) (fun hc12450 => ?_) (fun hc12450 => ?_)
              · have r12451 : p12438.toInt ≠ p8598.toInt := gC_ne hc12450
                refine G_iconst 0 dr_cX13_count_59 (by decide +kernel) ?_
                refine G_iadd dr_cX13_count_60 (G_nam fun z12452 hz12452 => ?_)
                have ez12452 : z12452.toInt = g12341.toInt + 0 := by rw [gI_add hz12452 bg12341 (gBl (show Int32.toInt 0 = 0 by decide)) (by decide) (by decide), show Int32.toInt 0 = 0 from by decide]
                have bz12452 : gB z12452 (-2147483648) 2147483647 := gB_add (gI_add hz12452 bg12341 (gBl (show Int32.toInt 0 = 0 by decide)) (by decide) (by decide)) bg12341 (gBl (show Int32.toInt 0 = 0 by decide)) (by decide) (by decide)
                refine G_istore_n (L' := [(2, .int z12452), (4, .int g12340), (3, .int g12196), (0, .ref q8597), (1, .int p8598)]) dr_cX13_count_61 (Nat.le_of_ble_eq_true rfl) rfl ?_
                obtain ⟨z12453, hz12453⟩ : ∃ z : Int32, z = g12340 + Int32.ofInt 1 := ⟨_, rfl⟩
                have ez12453 : z12453.toInt = g12340.toInt + 1 := gI_inc hz12453 (by decide) bg12340' (by decide) (by decide)
                have bz12453 : gB z12453 1 1000000 := ⟨by omega, by omega⟩
                refine G_iinc (L' := [(4, .int z12453), (2, .int z12452), (3, .int g12196), (0, .ref q8597), (1, .int p8598)]) z12453 1 dr_cX13_count_62 rfl hz12453.symm (Nat.le_of_ble_eq_true rfl) rfl ?_
                refine G_goto 15 dr_cX13_count_65 (by decide +kernel) ?_
                refine G_lv (L' := [(4, .int z12453), (3, .int g12196), (2, .int z12452), (0, .ref q8597), (1, .int p8598)]) [0, 2, 1, 3, 4] rfl ?_
                exact ih15_12341 z12453 z12452 (gB_w bz12453 (by decide) (by decide)) (by omega)
              · have r12454 : p12438.toInt = p8598.toInt := gC_eq hc12450
                have bp8598' : gB p8598 0 32 := ⟨by omega, by omega⟩
                refine G_iconst 1 dr_cX13_count_55 (by decide +kernel) ?_
                refine G_goto 60 dr_cX13_count_56 (by decide +kernel) ?_
                refine G_iadd dr_cX13_count_60 (G_nam fun z12455 hz12455 => ?_)
                have bz12455 : gB z12455 (-2147483648) 2147483647 := gB_any z12455
                refine G_istore_n (L' := [(2, .int z12455), (4, .int g12340), (3, .int g12196), (0, .ref q8597), (1, .int p8598)]) dr_cX13_count_61 (Nat.le_of_ble_eq_true rfl) rfl ?_
                obtain ⟨z12456, hz12456⟩ : ∃ z : Int32, z = g12340 + Int32.ofInt 1 := ⟨_, rfl⟩
                have ez12456 : z12456.toInt = g12340.toInt + 1 := gI_inc hz12456 (by decide) bg12340' (by decide) (by decide)
                have bz12456 : gB z12456 1 1000000 := ⟨by omega, by omega⟩
                refine G_iinc (L' := [(4, .int z12456), (2, .int z12455), (3, .int g12196), (0, .ref q8597), (1, .int p8598)]) z12456 1 dr_cX13_count_62 rfl hz12456.symm (Nat.le_of_ble_eq_true rfl) rfl ?_
                refine G_goto 15 dr_cX13_count_65 (by decide +kernel) ?_
                refine G_lv (L' := [(4, .int z12456), (3, .int g12196), (2, .int z12455), (0, .ref q8597), (1, .int p8598)]) [0, 2, 1, 3, 4] rfl ?_
                exact ih15_12341 z12456 z12455 (gB_w bz12456 (by decide) (by decide)) (by omega)
        exact hlp15_12341 (((1000001 : Int) - 0).toNat + 1) 0 g12197 (gB_w (gBl (show Int32.toInt 0 = 0 by decide)) (by decide) (by decide)) (Nat.lt_succ_self _)
  exact hlp4_12197 (((1000001 : Int) - 0).toNat + 1) 0 0 (gB_w (gBl (show Int32.toInt 0 = 0 by decide)) (by decide) (by decide)) (Nat.lt_succ_self _)
def pp_12496_Code_size (D : va_G) (I : FieldType → ClassId) (P12489 : List Nat) (F12490 : Nat → va_E) (q12491 : Nat) (qo12492 : Nat) (qo12493 : Nat) (p12494 : Int32) (p12495 : Int32) : Option Value → va_W → Nat → Nat → Prop := fun r w dc ds => r = some (.int p12495) ∧ w = va_pl P12489 F12490 ∧ dc ≤ 0 ∧ ds ≤ 0
set_option maxRecDepth 100000 in
set_option maxHeartbeats 4000000 in
theorem cp_12496_Code_size (l : Launch) (hl0 : l.stackTraces = false) (D : va_G) (I : FieldType → ClassId) (P12489 : List Nat) (F12490 : Nat → va_E) (q12491 : Nat) (qo12492 : Nat) (qo12493 : Nat) (p12494 : Int32) (p12495 : Int32) (hmq12491 : q12491 ∈ P12489) (heq12491 : F12490 q12491 = .inr (18, [.ref qo12492, .ref qo12493, .int p12494, .int p12495])) : CtA (gV D I) l yX13_size cX13_size 1 (some FieldType.int) 0 0 0 0 [.ref q12491] (va_pl P12489 F12490) (pp_12496_Code_size D I P12489 F12490 q12491 qo12492 qo12493 p12494 p12495) gNA := by
  refine CtA_of hl0 (by decide) (Nat.le_of_ble_eq_true rfl) ?_
  have bp12494 := gB_any p12494
  have bp12495 := gB_any p12495
  refine G_aload_n 0 dr_cX13_size_0 rfl ?_
  refine Gp_get 3 hmq12491 heq12491 dr_cX13_size_1 (gk_X13 D I) (Nat.le_of_ble_eq_true rfl) wr_7_33 rfl ?_
  exact G_iretA dr_cX13_size_4 rfl (Nat.le_of_ble_eq_true rfl) (Nat.le_of_ble_eq_true rfl) ⟨rfl, rfl, (Nat.le_of_ble_eq_true rfl), (Nat.le_of_ble_eq_true rfl)⟩
abbrev ky_12464_SpillForgeModel_reached : gKey := (cX17_reached, 8, "SpillForgeModel", (some FieldType.long), [], "reached", fun _ _ => True)
def pt_12464_SpillForgeModel_reached (D : va_G) (I : FieldType → ClassId) (γ el : Nat → Nat → Nat) (P12459 : List Nat) (F12460 : Nat → va_E) (q12461 : Nat) (p12462 : Int32) : Option Value → va_W → Nat → Nat → Prop := fun r w dc ds => ∃ (ol16085 : Int64), r = some (.long ol16085) ∧ w = va_pl P12459 F12460 ∧ dc ≤ 0 ∧ ds ≤ 0
set_option maxRecDepth 100000 in
set_option maxHeartbeats 4000000 in
theorem ct_12464_SpillForgeModel_reached (l : Launch) (hl0 : l.stackTraces = false) (D : va_G) (I : FieldType → ClassId) (γ el : Nat → Nat → Nat) (P12459 : List Nat) (F12460 : Nat → va_E) (q12461 : Nat) (p12462 : Int32) (hT : RS D I P12459 F12460 γ el) (htq12461 : rKd γ q12461 9) (x12463 : 0 < γ 6 (γ 1 q12461)) : CtA (gV D I) l yX17_reached cX17_reached 8 (some FieldType.long) 4 85 0 0 [.ref q12461, .int p12462] (va_pl P12459 F12460) (pt_12464_SpillForgeModel_reached D I γ el P12459 F12460 q12461 p12462) gNA := by
  refine CtA_of hl0 (by decide) (Nat.le_of_ble_eq_true rfl) ?_
  have bp12462 := gB_any p12462
  refine G_iload_n 1 dr_cX17_reached_0 rfl ?_
  refine G_if_ne 6 dr_cX17_reached_1 (by decide +kernel) (fun hc12465 => ?_) (fun hc12465 => ?_)
  · have r12466 : p12462.toInt ≠ 0 := gj_neq hc12465 (show Int32.toInt 0 = 0 by decide)
    refine G_lconst 1 dr_cX17_reached_6 rfl ?_
    refine G_lstore_n (L' := [(2, .long 1), (0, .ref q12461), (1, .int p12462)]) dr_cX17_reached_7 (Nat.le_of_ble_eq_true rfl) rfl ?_
    refine G_iconst 1 dr_cX17_reached_8 (by decide +kernel) ?_
    refine G_istore (L' := [(4, .int 1), (2, .long 1), (0, .ref q12461), (1, .int p12462)]) dr_cX17_reached_9 (Nat.le_of_ble_eq_true rfl) rfl ?_
    have hlp11_15590 : ∀ (n11_15590 : Nat) (g15588 : Int32) (gl15589 : Int64), gB g15588 0 1 → rpop gl15589 ≤ 64 → (64 - rpop gl15589) + ((g15588.toInt : Int)).toNat < n11_15590 → G (gV D I) l (gRm 4 85 0 0) (gMA (gV D I) (pt_12464_SpillForgeModel_reached D I γ el P12459 F12460 q12461 p12462) gNA 0 0) ky_12464_SpillForgeModel_reached 11 [(4, .int g15588), (2, .long gl15589), (0, .ref q12461), (1, .int p12462)] [] (va_pl P12459 F12460) 0 0 := by
      intro n11_15590
      induction n11_15590 with
      | zero => intro g15588 gl15589 bg15588 x15590 hm11_15590; exact absurd hm11_15590 (Nat.not_lt_zero _)
      | succ n11_15590 ih11_15590 =>
        intro g15588 gl15589 bg15588 x15590 hm11_15590
        refine G_iload 0 dr_cX17_reached_11 rfl ?_
        refine G_if_eq 120 dr_cX17_reached_13 (by decide +kernel) (fun hc15592 => ?_) (fun hc15592 => ?_)
        · have r15593 : g15588.toInt = 0 := gj_eq hc15592 (show Int32.toInt 0 = 0 by decide)
          have bg15588' : gB g15588 0 0 := ⟨by omega, by omega⟩
          refine G_lload_n 1 dr_cX17_reached_120 rfl ?_
          exact G_lretA dr_cX17_reached_121 rfl (Nat.le_of_ble_eq_true rfl) (Nat.le_of_ble_eq_true rfl) ⟨gl15589, rfl, rfl, (Nat.le_of_ble_eq_true rfl), (Nat.le_of_ble_eq_true rfl)⟩
        · have r15594 : g15588.toInt ≠ 0 := gj_neq hc15592 (show Int32.toInt 0 = 0 by decide)
          have bg15588' : gB g15588 1 1 := ⟨by omega, by omega⟩
          refine G_iconst 0 dr_cX17_reached_16 (by decide +kernel) ?_
          refine G_istore (L' := [(4, .int 0), (2, .long gl15589), (0, .ref q12461), (1, .int p12462)]) dr_cX17_reached_17 (Nat.le_of_ble_eq_true rfl) rfl ?_
          refine G_iconst 0 dr_cX17_reached_19 (by decide +kernel) ?_
          refine G_istore (L' := [(5, .int 0), (4, .int 0), (2, .long gl15589), (0, .ref q12461), (1, .int p12462)]) dr_cX17_reached_20 (Nat.le_of_ble_eq_true rfl) rfl ?_
          have hlp22_15842 : ∀ (n22_15842 : Nat) (g15838 : Int32) (g15839 : Int32) (gl15840 : Int64), gB g15838 0 1000000 → gB g15839 0 1 → rpop gl15840 ≤ 64 → rpop gl15589 + ((g15839.toInt : Int)).toNat ≤ rpop gl15840 → ((1000001 : Int) - g15838.toInt).toNat < n22_15842 → G (gV D I) l (gRm 4 85 0 0) (gMA (gV D I) (pt_12464_SpillForgeModel_reached D I γ el P12459 F12460 q12461 p12462) gNA 0 0) ky_12464_SpillForgeModel_reached 22 [(5, .int g15838), (4, .int g15839), (2, .long gl15840), (0, .ref q12461), (1, .int p12462)] [] (va_pl P12459 F12460) 0 0 := by
            intro n22_15842
            induction n22_15842 with
            | zero => intro g15838 g15839 gl15840 bg15838 bg15839 x15841 x15842 hm22_15842; exact absurd hm22_15842 (Nat.not_lt_zero _)
            | succ n22_15842 ih22_15842 =>
              intro g15838 g15839 gl15840 bg15838 bg15839 x15841 x15842 hm22_15842
              refine G_iload 0 dr_cX17_reached_22 rfl ?_
              refine G_aload_n 3 dr_cX17_reached_24 rfl ?_
              have hm15844 : q12461 ∈ P12459 := RS_m hT htq12461 (by decide)
              obtain ⟨q15846, q15847, p15848, p15849, he15845, ht15865, ht15850, ht15851, ht15852, ht15853, r15854, r15855, r15856, r15857, r15858, r15859, r15860, r15861, r15862, r15863, r15864⟩ := show rk_9 γ el q12461 (F12460 q12461) from RS_o hT htq12461
              have bp15848 : gB p15848 0 1000000 := ⟨by omega, by omega⟩
              have bp15849 : gB p15849 0 1000000 := ⟨by omega, by omega⟩
              refine Gw_callV (As := []) (gV_ok D I) (cp_12496_Code_size l hl0 D I P12459 F12460 q12461 q15846 q15847 p15848 p15849 hm15844 he15845) dr_cX17_reached_25 ⟨wr_10_156, wr_1_15, wr_9_127, by decide, rfl, (Nat.le_of_ble_eq_true rfl), (Nat.le_of_ble_eq_true rfl)⟩ wr_9_125 wr_9_126 hm15844 he15845 rfl (show 0 + 0 ≤ 0 by first | omega | decide) (show 0 + 0 ≤ 0 by first | omega | decide) (Nat.le_of_ble_eq_true rfl) (fun r15869 w15870 dc15866 ds15867 hp15868 => ?_) (fun _ _ _ _ _ z => z.elim)
              obtain ⟨rfl, rfl, hdc, hds⟩ := hp15868
              change G _ _ _ _ _ _ _ (.int p15849 :: _) _ _ _
              refine G_widen (cs' := 0) (sl' := 0) (by omega) (by omega) ?_
              refine G_icmp_ge 117 dr_cX17_reached_28 (by decide +kernel) (fun hc15871 => ?_) (fun hc15871 => ?_)
              · have r15872 : p15849.toInt ≤ g15838.toInt := gC_le hc15871
                refine G_goto 11 dr_cX17_reached_117 (by decide +kernel) ?_
                refine G_lv (L' := [(4, .int g15839), (2, .long gl15840), (0, .ref q12461), (1, .int p12462)]) [1, 2, 3, 4] rfl ?_
                exact ih11_15590 g15839 gl15840 bg15839 (rpop_le gl15840) (by omega)
              · have r15873 : g15838.toInt < p15849.toInt := gC_nle hc15871
                have bg15838' : gB g15838 0 999999 := ⟨by omega, by omega⟩
                have bp15849' : gB p15849 1 1000000 := ⟨by omega, by omega⟩
                refine G_lload_n 2 dr_cX17_reached_31 rfl ?_
                refine G_iload 0 dr_cX17_reached_32 rfl ?_
                refine G_lushr dr_cX17_reached_34 (G_namL fun u15874 hu15874 => ?_)
                refine G_lconst 1 dr_cX17_reached_35 rfl ?_
                refine G_land dr_cX17_reached_36 (G_namL fun u15875 hu15875 => ?_)
                refine G_lconst 0 dr_cX17_reached_37 rfl ?_
                refine G_lcmp dr_cX17_reached_38 (G_nam fun z15876 hz15876 => ?_)
                have bz15876 : gB z15876 (-1) 1 := gB_cmp hz15876
                refine G_if_ne 45 dr_cX17_reached_39 (by decide +kernel) (fun hc15877 => ?_) (fun hc15877 => ?_)
                · have r15878 : z15876.toInt ≠ 0 := gj_neq hc15877 (show Int32.toInt 0 = 0 by decide)
                  have lhc15877 := gC_cmpN hz15876 hc15877
                  refine G_iconst 0 dr_cX17_reached_45 (by decide +kernel) ?_
                  refine G_istore (L' := [(6, .int 0), (5, .int g15838), (4, .int g15839), (2, .long gl15840), (0, .ref q12461), (1, .int p12462)]) dr_cX17_reached_46 (Nat.le_of_ble_eq_true rfl) rfl ?_
                  have hlp48_15983 : ∀ (n48_15983 : Nat) (g15979 : Int32) (g15980 : Int32) (gl15981 : Int64), gB g15979 0 2 → gB g15980 0 1 → rpop gl15981 ≤ 64 → rpop gl15589 + ((g15980.toInt : Int)).toNat ≤ rpop gl15981 → ((3 : Int) - g15979.toInt).toNat < n48_15983 → G (gV D I) l (gRm 4 85 0 0) (gMA (gV D I) (pt_12464_SpillForgeModel_reached D I γ el P12459 F12460 q12461 p12462) gNA 0 0) ky_12464_SpillForgeModel_reached 48 [(6, .int g15979), (5, .int g15838), (4, .int g15980), (2, .long gl15981), (0, .ref q12461), (1, .int p12462)] [] (va_pl P12459 F12460) 0 0 := by
                    intro n48_15983
                    induction n48_15983 with
                    | zero => intro g15979 g15980 gl15981 bg15979 bg15980 x15982 x15983 hm48_15983; exact absurd hm48_15983 (Nat.not_lt_zero _)
                    | succ n48_15983 ih48_15983 =>
                      intro g15979 g15980 gl15981 bg15979 bg15980 x15982 x15983 hm48_15983
                      refine G_iload 0 dr_cX17_reached_48 rfl ?_
                      refine G_aload_n 4 dr_cX17_reached_50 rfl ?_
                      refine G_iload 1 dr_cX17_reached_51 rfl ?_
                      have hm15985 : q15846 ∈ P12459 := RS_m hT ht15850 (by decide)
                      obtain ⟨⟨p15987, p15988, q15989, he15986, r15990, r15991, r15992, r15994⟩, r15993⟩ := show rk_4 D I γ el F12460 q15846 from RS_o hT ht15850
                      have bp15987 := gB_any p15987
                      have bp15988 : gB p15988 0 1000000 := ⟨by omega, by omega⟩
                      obtain ⟨r15995, r15996, n16003, f16004, r15997, r15998, r15999, r16000, r16001, r16002⟩ := rLC_n r15992 (by omega)
                      have hm16005 : q15989 ∈ P12459 := RS_m hT r15995 (by decide)
                      obtain ⟨q16006, hx16007⟩ : ∃ x, x = el q15846 g15838.toInt.toNat := ⟨_, rfl⟩
                      have hx16008 : f16004 g15838.toNatClampNeg = some q16006 := (r16001 _ (show g15838.toInt.toNat < γ 2 q15846 by omega)).trans (by rw [hx16007])
                      have ht16011 : rKd γ q16006 2 := by rw [hx16007]; exact (r15861 _ (by omega)).resolve_right (fun z => absurd z.1 (by omega))
                      have ht16012 : rFm γ q16006 q15846 := by rw [hx16007]; exact (r15993 _ (show g15838.toInt.toNat < γ 2 q15846 by omega)).2.1
                      have hm16013 : q16006 ∈ P12459 := RS_m hT ht16011 (by decide)
                      obtain ⟨q16015, q16016, p16017, p16018, he16014, ht16025, ht16019, ht16020, ht16021, ht16022, ht16023, bp16017, bp16018, r16024, r16026, r16027⟩ := show rk_2 γ q16006 (F12460 q16006) from RS_o hT ht16011
                      refine Gw_callV (As := [.int g15838]) (gV_ok D I) (cp_7737_Code_get l hl0 D I P12459 F12460 q12461 q15846 q15989 g15838 q15847 p15848 p15849 p15987 p15988 f16004 n16003 q16006 q16015 q16016 p16017 p16018 hm15844 hm15985 hm16005 hm16013 he15845 he15986 r15997 he16014 (gB_w bg15838' (by decide) (by decide)) (gB_w bp15988 (by decide) (by decide)) (by omega) (by omega) (by assumption) (by omega)) dr_cX17_reached_53 ⟨wr_10_157, wr_1_15, wr_10_137, by decide, rfl, (Nat.le_of_ble_eq_true rfl), (Nat.le_of_ble_eq_true rfl)⟩ wr_10_135 wr_10_136 hm15844 he15845 rfl (show 0 + 0 ≤ 0 by first | omega | decide) (show 0 + 0 ≤ 0 by first | omega | decide) (Nat.le_of_ble_eq_true rfl) (fun r16031 w16032 dc16028 ds16029 hp16030 => ?_) (fun _ _ _ _ _ z => z.elim)
                      obtain ⟨rfl, rfl, hdc, hds⟩ := hp16030
                      change G _ _ _ _ _ _ _ (.ref q16006 :: _) _ _ _
                      refine G_widen (cs' := 0) (sl' := 0) (by omega) (by omega) ?_
                      have hm16033 : q16016 ∈ P12459 := RS_m hT ht16021 (by decide)
                      obtain ⟨p16035, p16036, p16037, p16038, p16039, p16040, p16041, he16034, bp16035, bp16036, bp16039, bp16040, bp16041, r16042, r16043, r16044, r16045, r16046⟩ := show rk_1 γ q16016 (F12460 q16016) from RS_o hT ht16021
                      have bp16037 := gB_any p16037
                      have bp16038 := gB_any p16038
                      refine Gw_callV (As := []) (gV_ok D I) (cp_1809_Block_ways l hl0 D I P12459 F12460 q16006 q16016 q16015 p16017 p16018 p16035 p16036 p16037 p16038 p16039 p16040 p16041 hm16013 hm16033 he16014 he16034 bp16017 bp16018 bp16035 bp16036 bp16039 bp16040 bp16041) dr_cX17_reached_56 ⟨wr_10_162, wr_1_38, wr_10_165, by decide, rfl, (Nat.le_of_ble_eq_true rfl), (Nat.le_of_ble_eq_true rfl)⟩ wr_10_163 wr_10_164 hm16013 he16014 rfl (show 0 + 0 ≤ 0 by first | omega | decide) (show 0 + 0 ≤ 0 by first | omega | decide) (Nat.le_of_ble_eq_true rfl) (fun r16050 w16051 dc16047 ds16048 hp16049 => ?_) (fun _ _ _ _ _ z => z.elim)
                      obtain ⟨o16052, rfl, rfl, hdc, hds, bo16052⟩ := hp16049
                      change G _ _ _ _ _ _ _ (.int o16052 :: _) _ _ _
                      refine G_widen (cs' := 0) (sl' := 0) (by omega) (by omega) ?_
                      refine G_icmp_ge 111 dr_cX17_reached_59 (by decide +kernel) (fun hc16053 => ?_) (fun hc16053 => ?_)
                      · have r16054 : o16052.toInt ≤ g15979.toInt := gC_le hc16053
                        obtain ⟨z16055, hz16055⟩ : ∃ z : Int32, z = g15838 + Int32.ofInt 1 := ⟨_, rfl⟩
                        have ez16055 : z16055.toInt = g15838.toInt + 1 := gI_inc hz16055 (by decide) bg15838' (by decide) (by decide)
                        have bz16055 : gB z16055 1 1000000 := ⟨by omega, by omega⟩
                        refine G_iinc (L' := [(5, .int z16055), (6, .int g15979), (4, .int g15980), (2, .long gl15981), (0, .ref q12461), (1, .int p12462)]) z16055 1 dr_cX17_reached_111 rfl hz16055.symm (Nat.le_of_ble_eq_true rfl) rfl ?_
                        refine G_goto 22 dr_cX17_reached_114 (by decide +kernel) ?_
                        refine G_lv (L' := [(5, .int z16055), (4, .int g15980), (2, .long gl15981), (0, .ref q12461), (1, .int p12462)]) [0, 2, 3, 4, 5] rfl ?_
                        exact ih22_15842 z16055 g15980 gl15981 (gB_w bz16055 (by decide) (by decide)) bg15980 (rpop_le gl15981) (by omega) (by omega)
                      · have r16056 : g15979.toInt < o16052.toInt := gC_nle hc16053
                        have bg15979' : gB g15979 0 1 := ⟨by omega, by omega⟩
                        have bo16052' : gB o16052 1 2 := ⟨by omega, by omega⟩
                        refine G_aload_n 4 dr_cX17_reached_62 rfl ?_
                        refine G_iload 1 dr_cX17_reached_63 rfl ?_
                        refine Gw_callV (As := [.int g15838]) (gV_ok D I) (cp_7737_Code_get l hl0 D I P12459 F12460 q12461 q15846 q15989 g15838 q15847 p15848 p15849 p15987 p15988 f16004 n16003 q16006 q16015 q16016 p16017 p16018 hm15844 hm15985 hm16005 hm16013 he15845 he15986 r15997 he16014 (gB_w bg15838' (by decide) (by decide)) (gB_w bp15988 (by decide) (by decide)) (by omega) (by omega) (by assumption) (by omega)) dr_cX17_reached_65 ⟨wr_10_157, wr_1_15, wr_10_137, by decide, rfl, (Nat.le_of_ble_eq_true rfl), (Nat.le_of_ble_eq_true rfl)⟩ wr_10_135 wr_10_136 hm15844 he15845 rfl (show 0 + 0 ≤ 0 by first | omega | decide) (show 0 + 0 ≤ 0 by first | omega | decide) (Nat.le_of_ble_eq_true rfl) (fun r16060 w16061 dc16057 ds16058 hp16059 => ?_) (fun _ _ _ _ _ z => z.elim)
                        obtain ⟨rfl, rfl, hdc, hds⟩ := hp16059
                        change G _ _ _ _ _ _ _ (.ref q16006 :: _) _ _ _
                        refine G_widen (cs' := 0) (sl' := 0) (by omega) (by omega) ?_
                        refine G_iload 0 dr_cX17_reached_68 rfl ?_
                        refine Gw_callV (As := [.int g15979]) (gV_ok D I) (cp_5050_Block_way l hl0 D I P12459 F12460 q16006 q16016 g15979 q16015 p16017 p16018 p16035 p16036 p16037 p16038 p16039 p16040 p16041 hm16013 hm16033 he16014 he16034 bp16017 bp16018 bp16035 bp16036 bp16039 bp16040 bp16041) dr_cX17_reached_70 ⟨wr_10_166, wr_1_38, wr_10_169, by decide, rfl, (Nat.le_of_ble_eq_true rfl), (Nat.le_of_ble_eq_true rfl)⟩ wr_10_167 wr_10_168 hm16013 he16014 rfl (show 0 + 0 ≤ 0 by first | omega | decide) (show 0 + 0 ≤ 0 by first | omega | decide) (Nat.le_of_ble_eq_true rfl) (fun r16065 w16066 dc16062 ds16063 hp16064 => ?_) (fun _ _ _ _ _ z => z.elim)
                        obtain ⟨o16067, rfl, rfl, hdc, hds, bo16067⟩ := hp16064
                        change G _ _ _ _ _ _ _ (.int o16067 :: _) _ _ _
                        refine G_widen (cs' := 0) (sl' := 0) (by omega) (by omega) ?_
                        refine G_istore (L' := [(7, .int o16067), (6, .int g15979), (5, .int g15838), (4, .int g15980), (2, .long gl15981), (0, .ref q12461), (1, .int p12462)]) dr_cX17_reached_73 (Nat.le_of_ble_eq_true rfl) rfl ?_
                        refine G_iload 0 dr_cX17_reached_75 rfl ?_
                        refine G_iload_n 6 dr_cX17_reached_77 rfl ?_
                        refine G_icmp_eq 105 dr_cX17_reached_78 (by decide +kernel) (fun hc16068 => ?_) (fun hc16068 => ?_)
                        · have r16069 : o16067.toInt = p12462.toInt := gC_eq hc16068
                          have bp12462' : gB p12462 0 39 := ⟨by omega, by omega⟩
                          obtain ⟨z16070, hz16070⟩ : ∃ z : Int32, z = g15979 + Int32.ofInt 1 := ⟨_, rfl⟩
                          have ez16070 : z16070.toInt = g15979.toInt + 1 := gI_inc hz16070 (by decide) bg15979' (by decide) (by decide)
                          have bz16070 : gB z16070 1 2 := ⟨by omega, by omega⟩
                          refine G_iinc (L' := [(6, .int z16070), (7, .int o16067), (5, .int g15838), (4, .int g15980), (2, .long gl15981), (0, .ref q12461), (1, .int p12462)]) z16070 1 dr_cX17_reached_105 rfl hz16070.symm (Nat.le_of_ble_eq_true rfl) rfl ?_
                          refine G_goto 48 dr_cX17_reached_108 (by decide +kernel) ?_
                          refine G_lv (L' := [(6, .int z16070), (5, .int g15838), (4, .int g15980), (2, .long gl15981), (0, .ref q12461), (1, .int p12462)]) [0, 2, 3, 4, 5, 6] rfl ?_
                          exact ih48_15983 z16070 g15980 gl15981 (gB_w bz16070 (by decide) (by decide)) bg15980 (rpop_le gl15981) (by omega) (by omega)
                        · have r16071 : o16067.toInt ≠ p12462.toInt := gC_ne hc16068
                          refine G_lload_n 4 dr_cX17_reached_81 rfl ?_
                          refine G_iload 0 dr_cX17_reached_82 rfl ?_
                          refine G_lushr dr_cX17_reached_84 (G_namL fun u16072 hu16072 => ?_)
                          refine G_lconst 1 dr_cX17_reached_85 rfl ?_
                          refine G_land dr_cX17_reached_86 (G_namL fun u16073 hu16073 => ?_)
                          refine G_lconst 0 dr_cX17_reached_87 rfl ?_
                          refine G_lcmp dr_cX17_reached_88 (G_nam fun z16074 hz16074 => ?_)
                          have bz16074 : gB z16074 (-1) 1 := gB_cmp hz16074
                          refine G_if_eq 95 dr_cX17_reached_89 (by decide +kernel) (fun hc16075 => ?_) (fun hc16075 => ?_)
                          · have r16076 : z16074.toInt = 0 := gj_eq hc16075 (show Int32.toInt 0 = 0 by decide)
                            have bz16074' : gB z16074 0 0 := ⟨by omega, by omega⟩
                            have lhc16075 := gC_cmpE hz16074 hc16075
                            have zhc16075 := rbit_0 hu16072 hu16073 lhc16075 (by omega) (by omega)
                            refine G_lload_n 4 dr_cX17_reached_95 rfl ?_
                            refine G_lconst 1 dr_cX17_reached_96 rfl ?_
                            refine G_iload 0 dr_cX17_reached_97 rfl ?_
                            refine G_lshl dr_cX17_reached_99 (G_namL fun u16077 hu16077 => ?_)
                            have qu16077 : lb_Q u16077 (o16067.toInt % 64 + 1) := lb_Qshl hu16077 (by omega)
                            refine G_lor dr_cX17_reached_100 (G_namL fun u16078 hu16078 => ?_)
                            have pmu16078 : rpop gl15981 ≤ rpop u16078 := rpop_or hu16078
                            have pnu16078 : rpop gl15981 + 1 ≤ rpop u16078 := rpop_new hu16078 hu16077 (by omega) (by omega) zhc16075
                            refine G_lstore_n (L' := [(2, .long u16078), (7, .int o16067), (6, .int g15979), (5, .int g15838), (4, .int g15980), (0, .ref q12461), (1, .int p12462)]) dr_cX17_reached_101 (Nat.le_of_ble_eq_true rfl) rfl ?_
                            refine G_iconst 1 dr_cX17_reached_102 (by decide +kernel) ?_
                            refine G_istore (L' := [(4, .int 1), (2, .long u16078), (7, .int o16067), (6, .int g15979), (5, .int g15838), (0, .ref q12461), (1, .int p12462)]) dr_cX17_reached_103 (Nat.le_of_ble_eq_true rfl) rfl ?_
                            obtain ⟨z16079, hz16079⟩ : ∃ z : Int32, z = g15979 + Int32.ofInt 1 := ⟨_, rfl⟩
                            have ez16079 : z16079.toInt = g15979.toInt + 1 := gI_inc hz16079 (by decide) bg15979' (by decide) (by decide)
                            have bz16079 : gB z16079 1 2 := ⟨by omega, by omega⟩
                            refine G_iinc (L' := [(6, .int z16079), (4, .int 1), (2, .long u16078), (7, .int o16067), (5, .int g15838), (0, .ref q12461), (1, .int p12462)]) z16079 3 dr_cX17_reached_105 rfl hz16079.symm (Nat.le_of_ble_eq_true rfl) rfl ?_
                            refine G_goto 48 dr_cX17_reached_108 (by decide +kernel) ?_
                            refine G_lv (L' := [(6, .int z16079), (5, .int g15838), (4, .int 1), (2, .long u16078), (0, .ref q12461), (1, .int p12462)]) [0, 4, 1, 2, 5, 6] rfl ?_
                            exact ih48_15983 z16079 1 u16078 (gB_w bz16079 (by decide) (by decide)) (gB_w (gBl (show Int32.toInt 1 = 1 by decide)) (by decide) (by decide)) (rpop_le u16078) (by have qa0 : Int32.toInt 1 = 1 := (by decide); omega) (by have qa0 : Int32.toInt 1 = 1 := (by decide); omega)
                          · have r16080 : z16074.toInt ≠ 0 := gj_neq hc16075 (show Int32.toInt 0 = 0 by decide)
                            have lhc16075 := gC_cmpN hz16074 hc16075
                            refine G_goto 105 dr_cX17_reached_92 (by decide +kernel) ?_
                            obtain ⟨z16081, hz16081⟩ : ∃ z : Int32, z = g15979 + Int32.ofInt 1 := ⟨_, rfl⟩
                            have ez16081 : z16081.toInt = g15979.toInt + 1 := gI_inc hz16081 (by decide) bg15979' (by decide) (by decide)
                            have bz16081 : gB z16081 1 2 := ⟨by omega, by omega⟩
                            refine G_iinc (L' := [(6, .int z16081), (7, .int o16067), (5, .int g15838), (4, .int g15980), (2, .long gl15981), (0, .ref q12461), (1, .int p12462)]) z16081 1 dr_cX17_reached_105 rfl hz16081.symm (Nat.le_of_ble_eq_true rfl) rfl ?_
                            refine G_goto 48 dr_cX17_reached_108 (by decide +kernel) ?_
                            refine G_lv (L' := [(6, .int z16081), (5, .int g15838), (4, .int g15980), (2, .long gl15981), (0, .ref q12461), (1, .int p12462)]) [0, 2, 3, 4, 5, 6] rfl ?_
                            exact ih48_15983 z16081 g15980 gl15981 (gB_w bz16081 (by decide) (by decide)) bg15980 (rpop_le gl15981) (by omega) (by omega)
                  exact hlp48_15983 (((3 : Int) - 0).toNat + 1) 0 g15839 gl15840 (gB_w (gBl (show Int32.toInt 0 = 0 by decide)) (by decide) (by decide)) bg15839 (rpop_le gl15840) (by have qa0 : Int32.toInt 0 = 0 := (by decide); omega) (Nat.lt_succ_self _)
                · have r16082 : z15876.toInt = 0 := gj_eq hc15877 (show Int32.toInt 0 = 0 by decide)
                  have bz15876' : gB z15876 0 0 := ⟨by omega, by omega⟩
                  have lhc15877 := gC_cmpE hz15876 hc15877
                  refine G_goto 111 dr_cX17_reached_42 (by decide +kernel) ?_
                  obtain ⟨z16083, hz16083⟩ : ∃ z : Int32, z = g15838 + Int32.ofInt 1 := ⟨_, rfl⟩
                  have ez16083 : z16083.toInt = g15838.toInt + 1 := gI_inc hz16083 (by decide) bg15838' (by decide) (by decide)
                  have bz16083 : gB z16083 1 1000000 := ⟨by omega, by omega⟩
                  refine G_iinc (L' := [(5, .int z16083), (4, .int g15839), (2, .long gl15840), (0, .ref q12461), (1, .int p12462)]) z16083 0 dr_cX17_reached_111 rfl hz16083.symm (Nat.le_of_ble_eq_true rfl) rfl ?_
                  refine G_goto 22 dr_cX17_reached_114 (by decide +kernel) ?_
                  exact ih22_15842 z16083 g15839 gl15840 (gB_w bz16083 (by decide) (by decide)) bg15839 (rpop_le gl15840) (by omega) (by omega)
          exact hlp22_15842 (((1000001 : Int) - 0).toNat + 1) 0 0 gl15589 (gB_w (gBl (show Int32.toInt 0 = 0 by decide)) (by decide) (by decide)) (gB_w (gBl (show Int32.toInt 0 = 0 by decide)) (by decide) (by decide)) (rpop_le gl15589) (by have qa0 : Int32.toInt 0 = 0 := (by decide); omega) (Nat.lt_succ_self _)
    exact hlp11_15590 ((64 - rpop 1) + ((1 : Int)).toNat + 1) 1 1 (gB_w (gBl (show Int32.toInt 1 = 1 by decide)) (by decide) (by decide)) (rpop_le 1) (Nat.lt_succ_self _)
  · have r16084 : p12462.toInt = 0 := gj_eq hc12465 (show Int32.toInt 0 = 0 by decide)
    have bp12462' : gB p12462 0 0 := ⟨by omega, by omega⟩
    refine G_lconst 0 dr_cX17_reached_4 rfl ?_
    exact G_lretA dr_cX17_reached_5 rfl (Nat.le_of_ble_eq_true rfl) (Nat.le_of_ble_eq_true rfl) ⟨0, rfl, rfl, (Nat.le_of_ble_eq_true rfl), (Nat.le_of_ble_eq_true rfl)⟩
