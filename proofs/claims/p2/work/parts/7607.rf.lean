theorem dr_cX13_get_0 : decode cX13_get 0 = .ok (.aload_n 0, 1) := by decide +kernel
theorem dr_cX13_get_1 : decode cX13_get 1 = .ok (.getfield 10, 3) := by decide +kernel
theorem wr_7_30 : (Jvm.Cond.fieldLink "SpillForgeModel$Code" (10 : Nat) "SpillForgeModel$Code" "blocks" "Ljava/util/ArrayList;") ∈ gw := gw_7 30 rfl rfl
theorem dr_cX13_get_4 : decode cX13_get 4 = .ok (.iload_n 1, 1) := by decide +kernel
theorem dr_cX13_get_5 : decode cX13_get 5 = .ok (.invokevirtual 37, 3) := by decide +kernel
theorem wr_10_62 : (Jvm.Cond.methodLink "SpillForgeModel$Code" (37 : Nat) ({ cls := "java/util/ArrayList", name := "get", desc := "(I)Ljava/lang/Object;" } : Jvm.MethodName)) ∈ gw := gw_10 62 rfl rfl
theorem wr_10_65 : (Jvm.Cond.code ({ cls := "java/util/ArrayList", name := "get", desc := "(I)Ljava/lang/Object;" } : Jvm.MethodName) prog_43_method_20_code (2 : Nat) (Option.some (Jvm.ClassFile.FieldType.object "java/lang/Object"))) ∈ gw := gw_10 65 rfl rfl
theorem wr_10_63 : (Jvm.Cond.instanceMethod ({ cls := "java/util/ArrayList", name := "get", desc := "(I)Ljava/lang/Object;" } : Jvm.MethodName)) ∈ gw := gw_10 63 rfl rfl
theorem wr_10_64 : (Jvm.Cond.selects "java/util/ArrayList" ({ cls := "java/util/ArrayList", name := "get", desc := "(I)Ljava/lang/Object;" } : Jvm.MethodName) ({ cls := "java/util/ArrayList", name := "get", desc := "(I)Ljava/lang/Object;" } : Jvm.MethodName)) ∈ gw := gw_10 64 rfl rfl
theorem dr_cX13_get_8 : decode cX13_get 8 = .ok (.checkcast 30, 3) := by decide +kernel
theorem wr_9_161 : (Jvm.Cond.classLink "SpillForgeModel$Code" (30 : Nat) "SpillForgeModel$Block") ∈ gw := gw_9 161 rfl rfl
theorem dr_cX13_get_11 : decode cX13_get 11 = .ok (.areturn, 1) := by decide +kernel
theorem dr_cX13_countRows_0 : decode cX13_countRows 0 = .ok (.iconst 0, 1) := by decide +kernel
theorem dr_cX13_countRows_1 : decode cX13_countRows 1 = .ok (.istore_n 1, 1) := by decide +kernel
theorem dr_cX13_countRows_2 : decode cX13_countRows 2 = .ok (.iconst 0, 1) := by decide +kernel
theorem dr_cX13_countRows_3 : decode cX13_countRows 3 = .ok (.istore_n 2, 1) := by decide +kernel
theorem dr_cX13_countRows_4 : decode cX13_countRows 4 = .ok (.iload_n 2, 1) := by decide +kernel
theorem dr_cX13_countRows_5 : decode cX13_countRows 5 = .ok (.aload_n 0, 1) := by decide +kernel
theorem dr_cX13_countRows_6 : decode cX13_countRows 6 = .ok (.getfield 23, 3) := by decide +kernel
theorem wr_7_33 : (Jvm.Cond.fieldLink "SpillForgeModel$Code" (23 : Nat) "SpillForgeModel$Code" "made" "I") ∈ gw := gw_7 33 rfl rfl
theorem dr_cX13_countRows_9 : decode cX13_countRows 9 = .ok (.if_icmp .ge 23, 3) := by decide +kernel
theorem dr_cX13_countRows_32 : decode cX13_countRows 32 = .ok (.iload_n 1, 1) := by decide +kernel
theorem dr_cX13_countRows_33 : decode cX13_countRows 33 = .ok (.ireturn, 1) := by decide +kernel
theorem dr_cX13_countRows_12 : decode cX13_countRows 12 = .ok (.iload_n 1, 1) := by decide +kernel
theorem dr_cX13_countRows_13 : decode cX13_countRows 13 = .ok (.aload_n 0, 1) := by decide +kernel
theorem dr_cX13_countRows_14 : decode cX13_countRows 14 = .ok (.iload_n 2, 1) := by decide +kernel
theorem dr_cX13_countRows_15 : decode cX13_countRows 15 = .ok (.invokevirtual 67, 3) := by decide +kernel
theorem wr_10_138 : (Jvm.Cond.methodLink "SpillForgeModel$Code" (67 : Nat) ({ cls := "SpillForgeModel$Code", name := "get", desc := "(I)LSpillForgeModel$Block;" } : Jvm.MethodName)) ∈ gw := gw_10 138 rfl rfl
theorem wr_1_15 : (Jvm.Cond.initialized "SpillForgeModel$Code") ∈ gw := gw_1 15 rfl rfl
theorem wr_10_141 : (Jvm.Cond.code ({ cls := "SpillForgeModel$Code", name := "get", desc := "(I)LSpillForgeModel$Block;" } : Jvm.MethodName) prog_16_method_6_code (2 : Nat) (Option.some (Jvm.ClassFile.FieldType.object "SpillForgeModel$Block"))) ∈ gw := gw_10 141 rfl rfl
theorem wr_10_139 : (Jvm.Cond.instanceMethod ({ cls := "SpillForgeModel$Code", name := "get", desc := "(I)LSpillForgeModel$Block;" } : Jvm.MethodName)) ∈ gw := gw_10 139 rfl rfl
theorem wr_10_140 : (Jvm.Cond.selects "SpillForgeModel$Code" ({ cls := "SpillForgeModel$Code", name := "get", desc := "(I)LSpillForgeModel$Block;" } : Jvm.MethodName) ({ cls := "SpillForgeModel$Code", name := "get", desc := "(I)LSpillForgeModel$Block;" } : Jvm.MethodName)) ∈ gw := gw_10 140 rfl rfl
theorem dr_cX13_countRows_18 : decode cX13_countRows 18 = .ok (.getfield 41, 3) := by decide +kernel
theorem wr_9_219 : (Jvm.Cond.fieldLink "SpillForgeModel$Code" (41 : Nat) "SpillForgeModel$Block" "rows" "Ljava/util/ArrayList;") ∈ gw := gw_9 219 rfl rfl
theorem dr_cX13_countRows_21 : decode cX13_countRows 21 = .ok (.invokevirtual 26, 3) := by decide +kernel
theorem wr_9_157 : (Jvm.Cond.methodLink "SpillForgeModel$Code" (26 : Nat) ({ cls := "java/util/ArrayList", name := "size", desc := "()I" } : Jvm.MethodName)) ∈ gw := gw_9 157 rfl rfl
theorem wr_9_160 : (Jvm.Cond.code ({ cls := "java/util/ArrayList", name := "size", desc := "()I" } : Jvm.MethodName) prog_43_method_8_code (1 : Nat) (Option.some Jvm.ClassFile.FieldType.int)) ∈ gw := gw_9 160 rfl rfl
theorem wr_9_158 : (Jvm.Cond.instanceMethod ({ cls := "java/util/ArrayList", name := "size", desc := "()I" } : Jvm.MethodName)) ∈ gw := gw_9 158 rfl rfl
theorem wr_9_159 : (Jvm.Cond.selects "java/util/ArrayList" ({ cls := "java/util/ArrayList", name := "size", desc := "()I" } : Jvm.MethodName) ({ cls := "java/util/ArrayList", name := "size", desc := "()I" } : Jvm.MethodName)) ∈ gw := gw_9 159 rfl rfl
theorem dr_cX13_countRows_24 : decode cX13_countRows 24 = .ok (.iadd, 1) := by decide +kernel
theorem dr_cX13_countRows_25 : decode cX13_countRows 25 = .ok (.istore_n 1, 1) := by decide +kernel
theorem dr_cX13_countRows_26 : decode cX13_countRows 26 = .ok (.iinc 2 1, 3) := by decide +kernel
theorem dr_cX13_countRows_29 : decode cX13_countRows 29 = .ok (.goto (-25), 3) := by decide +kernel
theorem dr_cX13_count_0 : decode cX13_count 0 = .ok (.iconst 0, 1) := by decide +kernel
theorem dr_cX13_count_1 : decode cX13_count 1 = .ok (.istore_n 2, 1) := by decide +kernel
theorem dr_cX13_count_2 : decode cX13_count 2 = .ok (.iconst 0, 1) := by decide +kernel
theorem dr_cX13_count_3 : decode cX13_count 3 = .ok (.istore_n 3, 1) := by decide +kernel
theorem dr_cX13_count_4 : decode cX13_count 4 = .ok (.iload_n 3, 1) := by decide +kernel
theorem dr_cX13_count_5 : decode cX13_count 5 = .ok (.aload_n 0, 1) := by decide +kernel
theorem dr_cX13_count_6 : decode cX13_count 6 = .ok (.getfield 23, 3) := by decide +kernel
theorem dr_cX13_count_9 : decode cX13_count 9 = .ok (.if_icmp .ge 65, 3) := by decide +kernel
theorem dr_cX13_count_74 : decode cX13_count 74 = .ok (.iload_n 2, 1) := by decide +kernel
theorem dr_cX13_count_75 : decode cX13_count 75 = .ok (.ireturn, 1) := by decide +kernel
theorem dr_cX13_count_12 : decode cX13_count 12 = .ok (.iconst 0, 1) := by decide +kernel
theorem dr_cX13_count_13 : decode cX13_count 13 = .ok (.istore 4, 2) := by decide +kernel
theorem dr_cX13_count_15 : decode cX13_count 15 = .ok (.iload 4, 2) := by decide +kernel
theorem dr_cX13_count_17 : decode cX13_count 17 = .ok (.aload_n 0, 1) := by decide +kernel
theorem dr_cX13_count_18 : decode cX13_count 18 = .ok (.iload_n 3, 1) := by decide +kernel
theorem dr_cX13_count_19 : decode cX13_count 19 = .ok (.invokevirtual 67, 3) := by decide +kernel
theorem dr_cX13_count_22 : decode cX13_count 22 = .ok (.getfield 41, 3) := by decide +kernel
theorem dr_cX13_count_25 : decode cX13_count 25 = .ok (.invokevirtual 26, 3) := by decide +kernel
theorem dr_cX13_count_28 : decode cX13_count 28 = .ok (.if_icmp .ge 40, 3) := by decide +kernel
theorem dr_cX13_count_68 : decode cX13_count 68 = .ok (.iinc 3 1, 3) := by decide +kernel
theorem dr_cX13_count_71 : decode cX13_count 71 = .ok (.goto (-67), 3) := by decide +kernel
theorem dr_cX13_count_31 : decode cX13_count 31 = .ok (.iload_n 2, 1) := by decide +kernel
theorem dr_cX13_count_32 : decode cX13_count 32 = .ok (.aload_n 0, 1) := by decide +kernel
theorem dr_cX13_count_33 : decode cX13_count 33 = .ok (.iload_n 3, 1) := by decide +kernel
theorem dr_cX13_count_34 : decode cX13_count 34 = .ok (.invokevirtual 67, 3) := by decide +kernel
theorem dr_cX13_count_37 : decode cX13_count 37 = .ok (.getfield 41, 3) := by decide +kernel
theorem dr_cX13_count_40 : decode cX13_count 40 = .ok (.iload 4, 2) := by decide +kernel
theorem dr_cX13_count_42 : decode cX13_count 42 = .ok (.invokevirtual 37, 3) := by decide +kernel
theorem dr_cX13_count_45 : decode cX13_count 45 = .ok (.checkcast 45, 3) := by decide +kernel
theorem wr_10_83 : (Jvm.Cond.classLink "SpillForgeModel$Code" (45 : Nat) "SpillForgeModel$Row") ∈ gw := gw_10 83 rfl rfl
theorem dr_cX13_count_48 : decode cX13_count 48 = .ok (.getfield 70, 3) := by decide +kernel
theorem wr_9_178 : (Jvm.Cond.fieldLink "SpillForgeModel$Code" (70 : Nat) "SpillForgeModel$Row" "op" "I") ∈ gw := gw_9 178 rfl rfl
theorem dr_cX13_count_51 : decode cX13_count 51 = .ok (.iload_n 1, 1) := by decide +kernel
theorem dr_cX13_count_52 : decode cX13_count 52 = .ok (.if_icmp .ne 7, 3) := by decide +kernel
theorem dr_cX13_count_59 : decode cX13_count 59 = .ok (.iconst 0, 1) := by decide +kernel
theorem dr_cX13_count_60 : decode cX13_count 60 = .ok (.iadd, 1) := by decide +kernel
theorem dr_cX13_count_61 : decode cX13_count 61 = .ok (.istore_n 2, 1) := by decide +kernel
theorem dr_cX13_count_62 : decode cX13_count 62 = .ok (.iinc 4 1, 3) := by decide +kernel
theorem dr_cX13_count_65 : decode cX13_count 65 = .ok (.goto (-50), 3) := by decide +kernel
theorem dr_cX13_count_55 : decode cX13_count 55 = .ok (.iconst 1, 1) := by decide +kernel
theorem dr_cX13_count_56 : decode cX13_count 56 = .ok (.goto 4, 3) := by decide +kernel
theorem dr_cX13_size_0 : decode cX13_size 0 = .ok (.aload_n 0, 1) := by decide +kernel
theorem dr_cX13_size_1 : decode cX13_size 1 = .ok (.getfield 23, 3) := by decide +kernel
theorem dr_cX13_size_4 : decode cX13_size 4 = .ok (.ireturn, 1) := by decide +kernel
theorem dr_cX17_reached_0 : decode cX17_reached 0 = .ok (.iload_n 1, 1) := by decide +kernel
theorem dr_cX17_reached_1 : decode cX17_reached 1 = .ok (.ifCond .ne 5, 3) := by decide +kernel
theorem dr_cX17_reached_6 : decode cX17_reached 6 = .ok (.lconst 1, 1) := by decide +kernel
theorem dr_cX17_reached_7 : decode cX17_reached 7 = .ok (.lstore_n 2, 1) := by decide +kernel
theorem dr_cX17_reached_8 : decode cX17_reached 8 = .ok (.iconst 1, 1) := by decide +kernel
theorem dr_cX17_reached_9 : decode cX17_reached 9 = .ok (.istore 4, 2) := by decide +kernel
theorem dr_cX17_reached_11 : decode cX17_reached 11 = .ok (.iload 4, 2) := by decide +kernel
theorem dr_cX17_reached_13 : decode cX17_reached 13 = .ok (.ifCond .eq 107, 3) := by decide +kernel
theorem dr_cX17_reached_120 : decode cX17_reached 120 = .ok (.lload_n 2, 1) := by decide +kernel
theorem dr_cX17_reached_121 : decode cX17_reached 121 = .ok (.lreturn, 1) := by decide +kernel
theorem dr_cX17_reached_16 : decode cX17_reached 16 = .ok (.iconst 0, 1) := by decide +kernel
theorem dr_cX17_reached_17 : decode cX17_reached 17 = .ok (.istore 4, 2) := by decide +kernel
theorem dr_cX17_reached_19 : decode cX17_reached 19 = .ok (.iconst 0, 1) := by decide +kernel
theorem dr_cX17_reached_20 : decode cX17_reached 20 = .ok (.istore 5, 2) := by decide +kernel
theorem dr_cX17_reached_22 : decode cX17_reached 22 = .ok (.iload 5, 2) := by decide +kernel
theorem dr_cX17_reached_24 : decode cX17_reached 24 = .ok (.aload_n 0, 1) := by decide +kernel
theorem dr_cX17_reached_25 : decode cX17_reached 25 = .ok (.invokevirtual 96, 3) := by decide +kernel
theorem wr_10_160 : (Jvm.Cond.methodLink "SpillForgeModel" (96 : Nat) ({ cls := "SpillForgeModel$Code", name := "size", desc := "()I" } : Jvm.MethodName)) ∈ gw := gw_10 160 rfl rfl
theorem wr_9_131 : (Jvm.Cond.code ({ cls := "SpillForgeModel$Code", name := "size", desc := "()I" } : Jvm.MethodName) prog_16_method_5_code (1 : Nat) (Option.some Jvm.ClassFile.FieldType.int)) ∈ gw := gw_9 131 rfl rfl
theorem wr_9_129 : (Jvm.Cond.instanceMethod ({ cls := "SpillForgeModel$Code", name := "size", desc := "()I" } : Jvm.MethodName)) ∈ gw := gw_9 129 rfl rfl
theorem wr_9_130 : (Jvm.Cond.selects "SpillForgeModel$Code" ({ cls := "SpillForgeModel$Code", name := "size", desc := "()I" } : Jvm.MethodName) ({ cls := "SpillForgeModel$Code", name := "size", desc := "()I" } : Jvm.MethodName)) ∈ gw := gw_9 130 rfl rfl
theorem dr_cX17_reached_28 : decode cX17_reached 28 = .ok (.if_icmp .ge 89, 3) := by decide +kernel
theorem dr_cX17_reached_117 : decode cX17_reached 117 = .ok (.goto (-106), 3) := by decide +kernel
theorem dr_cX17_reached_31 : decode cX17_reached 31 = .ok (.lload_n 2, 1) := by decide +kernel
theorem dr_cX17_reached_32 : decode cX17_reached 32 = .ok (.iload 5, 2) := by decide +kernel
theorem dr_cX17_reached_34 : decode cX17_reached 34 = .ok (.lushr, 1) := by decide +kernel
theorem dr_cX17_reached_35 : decode cX17_reached 35 = .ok (.lconst 1, 1) := by decide +kernel
theorem dr_cX17_reached_36 : decode cX17_reached 36 = .ok (.land, 1) := by decide +kernel
theorem dr_cX17_reached_37 : decode cX17_reached 37 = .ok (.lconst 0, 1) := by decide +kernel
theorem dr_cX17_reached_38 : decode cX17_reached 38 = .ok (.lcmp, 1) := by decide +kernel
theorem dr_cX17_reached_39 : decode cX17_reached 39 = .ok (.ifCond .ne 6, 3) := by decide +kernel
theorem dr_cX17_reached_45 : decode cX17_reached 45 = .ok (.iconst 0, 1) := by decide +kernel
theorem dr_cX17_reached_46 : decode cX17_reached 46 = .ok (.istore 6, 2) := by decide +kernel
theorem dr_cX17_reached_48 : decode cX17_reached 48 = .ok (.iload 6, 2) := by decide +kernel
theorem dr_cX17_reached_50 : decode cX17_reached 50 = .ok (.aload_n 0, 1) := by decide +kernel
theorem dr_cX17_reached_51 : decode cX17_reached 51 = .ok (.iload 5, 2) := by decide +kernel
theorem dr_cX17_reached_53 : decode cX17_reached 53 = .ok (.invokevirtual 101, 3) := by decide +kernel
theorem wr_10_161 : (Jvm.Cond.methodLink "SpillForgeModel" (101 : Nat) ({ cls := "SpillForgeModel$Code", name := "get", desc := "(I)LSpillForgeModel$Block;" } : Jvm.MethodName)) ∈ gw := gw_10 161 rfl rfl
theorem dr_cX17_reached_56 : decode cX17_reached 56 = .ok (.invokevirtual 82, 3) := by decide +kernel
theorem dr_cX17_reached_59 : decode cX17_reached 59 = .ok (.if_icmp .ge 52, 3) := by decide +kernel
theorem dr_cX17_reached_111 : decode cX17_reached 111 = .ok (.iinc 5 1, 3) := by decide +kernel
theorem dr_cX17_reached_114 : decode cX17_reached 114 = .ok (.goto (-92), 3) := by decide +kernel
theorem dr_cX17_reached_62 : decode cX17_reached 62 = .ok (.aload_n 0, 1) := by decide +kernel
theorem dr_cX17_reached_63 : decode cX17_reached 63 = .ok (.iload 5, 2) := by decide +kernel
theorem dr_cX17_reached_65 : decode cX17_reached 65 = .ok (.invokevirtual 101, 3) := by decide +kernel
theorem dr_cX17_reached_68 : decode cX17_reached 68 = .ok (.iload 6, 2) := by decide +kernel
theorem dr_cX17_reached_70 : decode cX17_reached 70 = .ok (.invokevirtual 92, 3) := by decide +kernel
theorem dr_cX17_reached_73 : decode cX17_reached 73 = .ok (.istore 7, 2) := by decide +kernel
theorem dr_cX17_reached_75 : decode cX17_reached 75 = .ok (.iload 7, 2) := by decide +kernel
theorem dr_cX17_reached_77 : decode cX17_reached 77 = .ok (.iload_n 1, 1) := by decide +kernel
theorem dr_cX17_reached_78 : decode cX17_reached 78 = .ok (.if_icmp .eq 27, 3) := by decide +kernel
theorem dr_cX17_reached_105 : decode cX17_reached 105 = .ok (.iinc 6 1, 3) := by decide +kernel
theorem dr_cX17_reached_108 : decode cX17_reached 108 = .ok (.goto (-60), 3) := by decide +kernel
theorem dr_cX17_reached_81 : decode cX17_reached 81 = .ok (.lload_n 2, 1) := by decide +kernel
theorem dr_cX17_reached_82 : decode cX17_reached 82 = .ok (.iload 7, 2) := by decide +kernel
theorem dr_cX17_reached_84 : decode cX17_reached 84 = .ok (.lushr, 1) := by decide +kernel
theorem dr_cX17_reached_85 : decode cX17_reached 85 = .ok (.lconst 1, 1) := by decide +kernel
theorem dr_cX17_reached_86 : decode cX17_reached 86 = .ok (.land, 1) := by decide +kernel
theorem dr_cX17_reached_87 : decode cX17_reached 87 = .ok (.lconst 0, 1) := by decide +kernel
theorem dr_cX17_reached_88 : decode cX17_reached 88 = .ok (.lcmp, 1) := by decide +kernel
theorem dr_cX17_reached_89 : decode cX17_reached 89 = .ok (.ifCond .eq 6, 3) := by decide +kernel
theorem dr_cX17_reached_95 : decode cX17_reached 95 = .ok (.lload_n 2, 1) := by decide +kernel
theorem dr_cX17_reached_96 : decode cX17_reached 96 = .ok (.lconst 1, 1) := by decide +kernel
theorem dr_cX17_reached_97 : decode cX17_reached 97 = .ok (.iload 7, 2) := by decide +kernel
theorem dr_cX17_reached_99 : decode cX17_reached 99 = .ok (.lshl, 1) := by decide +kernel
theorem dr_cX17_reached_100 : decode cX17_reached 100 = .ok (.lor, 1) := by decide +kernel
theorem dr_cX17_reached_101 : decode cX17_reached 101 = .ok (.lstore_n 2, 1) := by decide +kernel
theorem dr_cX17_reached_102 : decode cX17_reached 102 = .ok (.iconst 1, 1) := by decide +kernel
theorem dr_cX17_reached_103 : decode cX17_reached 103 = .ok (.istore 4, 2) := by decide +kernel
theorem dr_cX17_reached_92 : decode cX17_reached 92 = .ok (.goto 13, 3) := by decide +kernel
theorem dr_cX17_reached_42 : decode cX17_reached 42 = .ok (.goto 69, 3) := by decide +kernel
theorem dr_cX17_reached_4 : decode cX17_reached 4 = .ok (.lconst 0, 1) := by decide +kernel
theorem dr_cX17_reached_5 : decode cX17_reached 5 = .ok (.lreturn, 1) := by decide +kernel
theorem dr_cX17_mayMerge_0 : decode cX17_mayMerge 0 = .ok (.iload_n 1, 1) := by decide +kernel
theorem dr_cX17_mayMerge_1 : decode cX17_mayMerge 1 = .ok (.bipush 100, 2) := by decide +kernel
theorem dr_cX17_mayMerge_3 : decode cX17_mayMerge 3 = .ok (.if_icmp .ge 22, 3) := by decide +kernel
theorem dr_cX17_mayMerge_25 : decode cX17_mayMerge 25 = .ok (.iconst 0, 1) := by decide +kernel
theorem dr_cX17_mayMerge_26 : decode cX17_mayMerge 26 = .ok (.ireturn, 1) := by decide +kernel
theorem dr_cX17_mayMerge_6 : decode cX17_mayMerge 6 = .ok (.iload_n 2, 1) := by decide +kernel
theorem dr_cX17_mayMerge_7 : decode cX17_mayMerge 7 = .ok (.bipush 100, 2) := by decide +kernel
theorem dr_cX17_mayMerge_9 : decode cX17_mayMerge 9 = .ok (.if_icmp .ge 16, 3) := by decide +kernel
theorem dr_cX17_mayMerge_12 : decode cX17_mayMerge 12 = .ok (.aload_n 0, 1) := by decide +kernel
theorem dr_cX17_mayMerge_13 : decode cX17_mayMerge 13 = .ok (.getfield 135, 3) := by decide +kernel
theorem wr_7_75 : (Jvm.Cond.fieldLink "SpillForgeModel" (135 : Nat) "SpillForgeModel" "joined" "[[J") ∈ gw := gw_7 75 rfl rfl
theorem dr_cX17_mayMerge_16 : decode cX17_mayMerge 16 = .ok (.iload_n 1, 1) := by decide +kernel
theorem dr_cX17_mayMerge_17 : decode cX17_mayMerge 17 = .ok (.aaload, 1) := by decide +kernel
theorem dr_cX17_mayMerge_18 : decode cX17_mayMerge 18 = .ok (.iload_n 2, 1) := by decide +kernel
theorem dr_cX17_mayMerge_19 : decode cX17_mayMerge 19 = .ok (.invokestatic 145, 3) := by decide +kernel
theorem wr_10_203 : (Jvm.Cond.methodLink "SpillForgeModel" (145 : Nat) ({ cls := "SpillForgeModel", name := "has", desc := "([JI)Z" } : Jvm.MethodName)) ∈ gw := gw_10 203 rfl rfl
theorem wr_10_205 : (Jvm.Cond.code ({ cls := "SpillForgeModel", name := "has", desc := "([JI)Z" } : Jvm.MethodName) prog_14_method_2_code (2 : Nat) (Option.some Jvm.ClassFile.FieldType.boolean)) ∈ gw := gw_10 205 rfl rfl
theorem wr_10_204 : (Jvm.Cond.static ({ cls := "SpillForgeModel", name := "has", desc := "([JI)Z" } : Jvm.MethodName)) ∈ gw := gw_10 204 rfl rfl
theorem dr_cX17_mayMerge_22 : decode cX17_mayMerge 22 = .ok (.ifCond .eq 5, 3) := by decide +kernel
theorem dr_cX17_mayMerge_27 : decode cX17_mayMerge 27 = .ok (.iconst 0, 1) := by decide +kernel
theorem dr_cX17_mayMerge_28 : decode cX17_mayMerge 28 = .ok (.istore 4, 2) := by decide +kernel
theorem dr_cX17_mayMerge_30 : decode cX17_mayMerge 30 = .ok (.iconst 0, 1) := by decide +kernel
theorem dr_cX17_mayMerge_31 : decode cX17_mayMerge 31 = .ok (.istore 5, 2) := by decide +kernel
theorem dr_cX17_mayMerge_33 : decode cX17_mayMerge 33 = .ok (.iload 5, 2) := by decide +kernel
theorem dr_cX17_mayMerge_35 : decode cX17_mayMerge 35 = .ok (.sipush 2000, 3) := by decide +kernel
theorem dr_cX17_mayMerge_38 : decode cX17_mayMerge 38 = .ok (.if_icmp .ge 88, 3) := by decide +kernel
theorem dr_cX17_mayMerge_126 : decode cX17_mayMerge 126 = .ok (.iload 4, 2) := by decide +kernel
theorem dr_cX17_mayMerge_128 : decode cX17_mayMerge 128 = .ok (.iload_n 3, 1) := by decide +kernel
theorem dr_cX17_mayMerge_129 : decode cX17_mayMerge 129 = .ok (.if_icmp .ge 7, 3) := by decide +kernel
theorem dr_cX17_mayMerge_136 : decode cX17_mayMerge 136 = .ok (.iconst 0, 1) := by decide +kernel
theorem dr_cX17_mayMerge_137 : decode cX17_mayMerge 137 = .ok (.ireturn, 1) := by decide +kernel
theorem dr_cX17_mayMerge_132 : decode cX17_mayMerge 132 = .ok (.iconst 1, 1) := by decide +kernel
theorem dr_cX17_mayMerge_133 : decode cX17_mayMerge 133 = .ok (.goto 4, 3) := by decide +kernel
theorem dr_cX17_mayMerge_41 : decode cX17_mayMerge 41 = .ok (.aload_n 0, 1) := by decide +kernel
theorem dr_cX17_mayMerge_42 : decode cX17_mayMerge 42 = .ok (.getfield 135, 3) := by decide +kernel
theorem dr_cX17_mayMerge_45 : decode cX17_mayMerge 45 = .ok (.iload_n 1, 1) := by decide +kernel
theorem dr_cX17_mayMerge_46 : decode cX17_mayMerge 46 = .ok (.aaload, 1) := by decide +kernel
theorem dr_cX17_mayMerge_47 : decode cX17_mayMerge 47 = .ok (.iload 5, 2) := by decide +kernel
theorem dr_cX17_mayMerge_49 : decode cX17_mayMerge 49 = .ok (.invokestatic 145, 3) := by decide +kernel
theorem dr_cX17_mayMerge_52 : decode cX17_mayMerge 52 = .ok (.istore 6, 2) := by decide +kernel
theorem dr_cX17_mayMerge_54 : decode cX17_mayMerge 54 = .ok (.aload_n 0, 1) := by decide +kernel
theorem dr_cX17_mayMerge_55 : decode cX17_mayMerge 55 = .ok (.getfield 135, 3) := by decide +kernel
theorem dr_cX17_mayMerge_58 : decode cX17_mayMerge 58 = .ok (.iload_n 2, 1) := by decide +kernel
theorem dr_cX17_mayMerge_59 : decode cX17_mayMerge 59 = .ok (.aaload, 1) := by decide +kernel
theorem dr_cX17_mayMerge_60 : decode cX17_mayMerge 60 = .ok (.iload 5, 2) := by decide +kernel
theorem dr_cX17_mayMerge_62 : decode cX17_mayMerge 62 = .ok (.invokestatic 145, 3) := by decide +kernel
theorem dr_cX17_mayMerge_65 : decode cX17_mayMerge 65 = .ok (.istore 7, 2) := by decide +kernel
theorem dr_cX17_mayMerge_67 : decode cX17_mayMerge 67 = .ok (.iload 6, 2) := by decide +kernel
theorem dr_cX17_mayMerge_69 : decode cX17_mayMerge 69 = .ok (.ifCond .ne 11, 3) := by decide +kernel
theorem dr_cX17_mayMerge_72 : decode cX17_mayMerge 72 = .ok (.iload 7, 2) := by decide +kernel
theorem dr_cX17_mayMerge_74 : decode cX17_mayMerge 74 = .ok (.ifCond .ne 6, 3) := by decide +kernel
theorem dr_cX17_mayMerge_77 : decode cX17_mayMerge 77 = .ok (.goto 43, 3) := by decide +kernel
theorem dr_cX17_mayMerge_120 : decode cX17_mayMerge 120 = .ok (.iinc 5 1, 3) := by decide +kernel
theorem dr_cX17_mayMerge_123 : decode cX17_mayMerge 123 = .ok (.goto (-90), 3) := by decide +kernel
theorem dr_cX17_mayMerge_80 : decode cX17_mayMerge 80 = .ok (.iload 4, 2) := by decide +kernel
theorem dr_cX17_mayMerge_82 : decode cX17_mayMerge 82 = .ok (.aload_n 0, 1) := by decide +kernel
theorem dr_cX17_mayMerge_83 : decode cX17_mayMerge 83 = .ok (.getfield 135, 3) := by decide +kernel
theorem dr_cX17_mayMerge_86 : decode cX17_mayMerge 86 = .ok (.iload 5, 2) := by decide +kernel
theorem dr_cX17_mayMerge_88 : decode cX17_mayMerge 88 = .ok (.aaload, 1) := by decide +kernel
theorem dr_cX17_mayMerge_89 : decode cX17_mayMerge 89 = .ok (.invokestatic 202, 3) := by decide +kernel
theorem wr_11_16 : (Jvm.Cond.methodLink "SpillForgeModel" (202 : Nat) ({ cls := "SpillForgeModel", name := "count", desc := "([J)I" } : Jvm.MethodName)) ∈ gw := gw_11 16 rfl rfl
theorem wr_11_18 : (Jvm.Cond.code ({ cls := "SpillForgeModel", name := "count", desc := "([J)I" } : Jvm.MethodName) prog_14_method_5_code (3 : Nat) (Option.some Jvm.ClassFile.FieldType.int)) ∈ gw := gw_11 18 rfl rfl
theorem wr_11_17 : (Jvm.Cond.static ({ cls := "SpillForgeModel", name := "count", desc := "([J)I" } : Jvm.MethodName)) ∈ gw := gw_11 17 rfl rfl
theorem dr_cX17_mayMerge_92 : decode cX17_mayMerge 92 = .ok (.iload 6, 2) := by decide +kernel
theorem dr_cX17_mayMerge_94 : decode cX17_mayMerge 94 = .ok (.ifCond .eq 12, 3) := by decide +kernel
theorem dr_cX17_mayMerge_106 : decode cX17_mayMerge 106 = .ok (.iconst 0, 1) := by decide +kernel
theorem dr_cX17_mayMerge_107 : decode cX17_mayMerge 107 = .ok (.isub, 1) := by decide +kernel
theorem dr_cX17_mayMerge_108 : decode cX17_mayMerge 108 = .ok (.iload_n 3, 1) := by decide +kernel
theorem dr_cX17_mayMerge_109 : decode cX17_mayMerge 109 = .ok (.if_icmp .lt 7, 3) := by decide +kernel
theorem dr_cX17_mayMerge_116 : decode cX17_mayMerge 116 = .ok (.iconst 0, 1) := by decide +kernel
theorem dr_cX17_mayMerge_117 : decode cX17_mayMerge 117 = .ok (.iadd, 1) := by decide +kernel
theorem dr_cX17_mayMerge_118 : decode cX17_mayMerge 118 = .ok (.istore 4, 2) := by decide +kernel
theorem dr_cX17_mayMerge_112 : decode cX17_mayMerge 112 = .ok (.iconst 1, 1) := by decide +kernel
theorem dr_cX17_mayMerge_113 : decode cX17_mayMerge 113 = .ok (.goto 4, 3) := by decide +kernel
theorem dr_cX17_mayMerge_97 : decode cX17_mayMerge 97 = .ok (.iload 7, 2) := by decide +kernel
theorem dr_cX17_mayMerge_99 : decode cX17_mayMerge 99 = .ok (.ifCond .eq 7, 3) := by decide +kernel
theorem dr_cX17_mayMerge_102 : decode cX17_mayMerge 102 = .ok (.iconst 1, 1) := by decide +kernel
theorem dr_cX17_mayMerge_103 : decode cX17_mayMerge 103 = .ok (.goto 4, 3) := by decide +kernel
abbrev ky_6012_Code_get : gKey := (cX13_get, 2, "SpillForgeModel$Code", (some (FieldType.object "SpillForgeModel$Block")), [], "get", fun _ _ => True)
def pp_6012_Code_get (D : va_G) (I : FieldType → ClassId) (P5990 : List Nat) (F5991 : Nat → va_E) (q5992 : Nat) (q5993 : Nat) (q5994 : Nat) (p5995 : Int32) (qo5996 : Nat) (p5997 : Int32) (p5998 : Int32) (p5999 : Int32) (p6000 : Int32) (f6001 : Nat → Option Nat) (n6002 : Nat) (x6003 : Nat) (qo6004 : Nat) (qo6005 : Nat) (p6006 : Int32) (p6007 : Int32) : Option Value → va_W → Nat → Nat → Prop := fun r w dc ds => r = some (.ref x6003) ∧ w = va_pl P5990 F5991 ∧ dc ≤ 0 ∧ ds ≤ 0
set_option maxRecDepth 100000 in
set_option maxHeartbeats 4000000 in
theorem cp_6012_Code_get (l : Launch) (hl0 : l.stackTraces = false) (D : va_G) (I : FieldType → ClassId) (P5990 : List Nat) (F5991 : Nat → va_E) (q5992 : Nat) (q5993 : Nat) (q5994 : Nat) (p5995 : Int32) (qo5996 : Nat) (p5997 : Int32) (p5998 : Int32) (p5999 : Int32) (p6000 : Int32) (f6001 : Nat → Option Nat) (n6002 : Nat) (x6003 : Nat) (qo6004 : Nat) (qo6005 : Nat) (p6006 : Int32) (p6007 : Int32) (hmq5992 : q5992 ∈ P5990) (hmq5993 : q5993 ∈ P5990) (hmq5994 : q5994 ∈ P5990) (hmx6003 : x6003 ∈ P5990) (heq5992 : F5991 q5992 = .inr (18, [.ref q5993, .ref qo5996, .int p5997, .int p5998])) (heq5993 : F5991 q5993 = .inr (4, [.int p5999, .ref q5994, .int p6000])) (heq5994 : F5991 q5994 = .inl (I (.object "java/lang/Object"), n6002, .inr (.inr (.inr (.inr f6001))))) (hex6003 : F5991 x6003 = .inr (17, [.ref qo6004, .ref qo6005, .int p6006, .int p6007])) (bp5995 : gB p5995 0 16777216) (bp6000 : gB p6000 0 16777216) (x6008 : p5995.toInt < p6000.toInt) (x6009 : p6000.toInt ≤ (n6002 : Int)) (x6010 : f6001 p5995.toNatClampNeg = some x6003) (x6011 : ((n6002 : Int) ≤ 16777216)) : CtA (gV D I) l yX13_get cX13_get 2 (some (FieldType.object "SpillForgeModel$Block")) 3 64 0 0 [.ref q5992, .int p5995] (va_pl P5990 F5991) (pp_6012_Code_get D I P5990 F5991 q5992 q5993 q5994 p5995 qo5996 p5997 p5998 p5999 p6000 f6001 n6002 x6003 qo6004 qo6005 p6006 p6007) gNA := by
  refine CtA_of hl0 (by decide) (Nat.le_of_ble_eq_true rfl) ?_
  have bp5997 := gB_any p5997
  have bp5998 := gB_any p5998
  have bp5999 := gB_any p5999
  have bp6006 := gB_any p6006
  have bp6007 := gB_any p6007
  refine G_aload_n 0 dr_cX13_get_0 rfl ?_
  refine Gp_get 0 hmq5992 heq5992 dr_cX13_get_1 (gk_X13 D I) (Nat.le_of_ble_eq_true rfl) wr_7_30 rfl ?_
  refine G_iload_n 1 dr_cX13_get_4 rfl ?_
  refine Gw_callV (As := [.int p5995]) (gV_ok D I) (cp_22_ArrayList_get l hl0 D I P5990 F5991 q5993 q5994 p5995 p5999 p6000 f6001 n6002 x6003 hmq5993 hmq5994 heq5993 heq5994 bp5995 bp6000 (by omega) (by omega) (by assumption) (by omega)) dr_cX13_get_5 ⟨wr_10_62, wr_1_18, wr_10_65, by decide, rfl, (Nat.le_of_ble_eq_true rfl), (Nat.le_of_ble_eq_true rfl)⟩ wr_10_63 wr_10_64 hmq5993 heq5993 rfl (show 0 + 0 ≤ 0 by first | omega | decide) (show 0 + 0 ≤ 0 by first | omega | decide) (Nat.le_of_ble_eq_true rfl) (fun r6016 w6017 dc6013 ds6014 hp6015 => ?_) (fun _ _ _ _ _ z => z.elim)
  obtain ⟨rfl, rfl, hdc, hds⟩ := hp6015
  change G _ _ _ _ _ _ _ (.ref x6003 :: _) _ _ _
  refine G_widen (cs' := 0) (sl' := 0) (by omega) (by omega) ?_
  refine Gp_cast hmx6003 hex6003 rfl dr_cX13_get_8 wr_9_161 (gr_cast 0 rfl) ?_
  exact G_aretA (FieldType.object "SpillForgeModel$Block") dr_cX13_get_11 rfl (by first | exact Or.inl ⟨_, rfl⟩ | exact Or.inr ⟨_, rfl⟩) (Or.inr ⟨_, rfl⟩) (Nat.le_of_ble_eq_true rfl) (Nat.le_of_ble_eq_true rfl) ⟨rfl, rfl, (Nat.le_of_ble_eq_true rfl), (Nat.le_of_ble_eq_true rfl)⟩
abbrev ky_5928_Code_countRows : gKey := (cX13_countRows, 3, "SpillForgeModel$Code", (some FieldType.int), [], "countRows", fun _ _ => True)
def pt_5928_Code_countRows (D : va_G) (I : FieldType → ClassId) (γ el : Nat → Nat → Nat) (P5925 : List Nat) (F5926 : Nat → va_E) (q5927 : Nat) : Option Value → va_W → Nat → Nat → Prop := fun r w dc ds => ∃ (o6795 : Int32), r = some (.int o6795) ∧ w = va_pl P5925 F5926 ∧ dc ≤ 0 ∧ ds ≤ 0
set_option maxRecDepth 100000 in
set_option maxHeartbeats 4000000 in
theorem ct_5928_Code_countRows (l : Launch) (hl0 : l.stackTraces = false) (D : va_G) (I : FieldType → ClassId) (γ el : Nat → Nat → Nat) (P5925 : List Nat) (F5926 : Nat → va_E) (q5927 : Nat) (hT : RS D I P5925 F5926 γ el) (htq5927 : rKd γ q5927 9) : CtA (gV D I) l yX13_countRows cX13_countRows 3 (some FieldType.int) 4 85 0 0 [.ref q5927] (va_pl P5925 F5926) (pt_5928_Code_countRows D I γ el P5925 F5926 q5927) gNA := by
  refine CtA_of hl0 (by decide) (Nat.le_of_ble_eq_true rfl) ?_
  refine G_iconst 0 dr_cX13_countRows_0 (by decide +kernel) ?_
  refine G_istore_n (L' := [(1, .int 0), (0, .ref q5927)]) dr_cX13_countRows_1 (Nat.le_of_ble_eq_true rfl) rfl ?_
  refine G_iconst 0 dr_cX13_countRows_2 (by decide +kernel) ?_
  refine G_istore_n (L' := [(2, .int 0), (1, .int 0), (0, .ref q5927)]) dr_cX13_countRows_3 (Nat.le_of_ble_eq_true rfl) rfl ?_
  have hlp4_6711 : ∀ (n4_6711 : Nat) (g6710 : Int32) (g6711 : Int32), gB g6710 0 1000000 → ((1000001 : Int) - g6710.toInt).toNat < n4_6711 → G (gV D I) l (gRm 4 85 0 0) (gMA (gV D I) (pt_5928_Code_countRows D I γ el P5925 F5926 q5927) gNA 0 0) ky_5928_Code_countRows 4 [(2, .int g6710), (1, .int g6711), (0, .ref q5927)] [] (va_pl P5925 F5926) 0 0 := by
    intro n4_6711
    induction n4_6711 with
    | zero => intro g6710 g6711 bg6710 hm4_6711; exact absurd hm4_6711 (Nat.not_lt_zero _)
    | succ n4_6711 ih4_6711 =>
      intro g6710 g6711 bg6710 hm4_6711
      have bg6711 := gB_any g6711
      refine G_iload_n 0 dr_cX13_countRows_4 rfl ?_
      refine G_aload_n 2 dr_cX13_countRows_5 rfl ?_
      have hm6713 : q5927 ∈ P5925 := RS_m hT htq5927 (by decide)
      obtain ⟨q6715, q6716, p6717, p6718, he6714, ht6719, ht6720, ht6721, ht6722, r6723, r6724, r6725, r6726, r6727, r6728, r6729, r6730, r6731, r6732⟩ := show rk_9 γ el q5927 (F5926 q5927) from RS_o hT htq5927
      have bp6717 : gB p6717 0 1000000 := ⟨by omega, by omega⟩
      have bp6718 : gB p6718 0 1000000 := ⟨by omega, by omega⟩
      refine Gp_get 3 hm6713 he6714 dr_cX13_countRows_6 (gk_X13 D I) (Nat.le_of_ble_eq_true rfl) wr_7_33 rfl ?_
      refine G_icmp_ge 32 dr_cX13_countRows_9 (by decide +kernel) (fun hc6733 => ?_) (fun hc6733 => ?_)
      · have r6734 : p6718.toInt ≤ g6710.toInt := gC_le hc6733
        refine G_iload_n 1 dr_cX13_countRows_32 rfl ?_
        exact G_iretA dr_cX13_countRows_33 rfl (Nat.le_of_ble_eq_true rfl) (Nat.le_of_ble_eq_true rfl) ⟨g6711, rfl, rfl, (Nat.le_of_ble_eq_true rfl), (Nat.le_of_ble_eq_true rfl)⟩
      · have r6735 : g6710.toInt < p6718.toInt := gC_nle hc6733
        have bg6710' : gB g6710 0 999999 := ⟨by omega, by omega⟩
        have bp6718' : gB p6718 1 1000000 := ⟨by omega, by omega⟩
        refine G_iload_n 1 dr_cX13_countRows_12 rfl ?_
        refine G_aload_n 2 dr_cX13_countRows_13 rfl ?_
        refine G_iload_n 0 dr_cX13_countRows_14 rfl ?_
        have hm6736 : q6715 ∈ P5925 := RS_m hT ht6719 (by decide)
        obtain ⟨⟨p6738, p6739, q6740, he6737, r6741, r6742, r6743⟩, r6744⟩ := show rk_4 D I γ el F5926 q6715 from RS_o hT ht6719
        have bp6738 := gB_any p6738
        have bp6739 : gB p6739 0 1000000 := ⟨by omega, by omega⟩
        obtain ⟨r6745, r6746, n6752, f6753, r6747, r6748, r6749, r6750, r6751⟩ := rLC_n r6743 (by omega)
        have hm6754 : q6740 ∈ P5925 := RS_m hT r6745 (by decide)
        obtain ⟨q6755, hx6756⟩ : ∃ x, x = el q6715 g6710.toInt.toNat := ⟨_, rfl⟩
        have hx6757 : f6753 g6710.toNatClampNeg = some q6755 := (r6750 _ (show g6710.toInt.toNat < γ 2 q6715 by omega)).trans (by rw [hx6756])
        have ht6760 : rKd γ q6755 2 := by rw [hx6756]; exact r6730 _ (by omega)
        have ht6761 : rFm γ q6755 q6715 := by rw [hx6756]; exact (r6744 _ (show g6710.toInt.toNat < γ 2 q6715 by omega)).2.1
        have hm6762 : q6755 ∈ P5925 := RS_m hT ht6760 (by decide)
        obtain ⟨q6764, q6765, p6766, p6767, he6763, ht6768, ht6769, ht6770, ht6771, ht6772, bp6766, bp6767, r6773⟩ := show rk_2 γ q6755 (F5926 q6755) from RS_o hT ht6760
        refine Gw_callV (As := [.int g6710]) (gV_ok D I) (cp_6012_Code_get l hl0 D I P5925 F5926 q5927 q6715 q6740 g6710 q6716 p6717 p6718 p6738 p6739 f6753 n6752 q6755 q6764 q6765 p6766 p6767 hm6713 hm6736 hm6754 hm6762 he6714 he6737 r6747 he6763 (gB_w bg6710' (by decide) (by decide)) (gB_w bp6739 (by decide) (by decide)) (by omega) (by omega) (by assumption) (by omega)) dr_cX13_countRows_15 ⟨wr_10_138, wr_1_15, wr_10_141, by decide, rfl, (Nat.le_of_ble_eq_true rfl), (Nat.le_of_ble_eq_true rfl)⟩ wr_10_139 wr_10_140 hm6713 he6714 rfl (show 0 + 0 ≤ 0 by first | omega | decide) (show 0 + 0 ≤ 0 by first | omega | decide) (Nat.le_of_ble_eq_true rfl) (fun r6777 w6778 dc6774 ds6775 hp6776 => ?_) (fun _ _ _ _ _ z => z.elim)
        obtain ⟨rfl, rfl, hdc, hds⟩ := hp6776
        change G _ _ _ _ _ _ _ (.ref q6755 :: _) _ _ _
        refine G_widen (cs' := 0) (sl' := 0) (by omega) (by omega) ?_
        refine Gp_get 0 hm6762 he6763 dr_cX13_countRows_18 (gk_X12 D I) (Nat.le_of_ble_eq_true rfl) wr_9_219 rfl ?_
        have hm6779 : q6764 ∈ P5925 := RS_m hT ht6768 (by decide)
        obtain ⟨⟨p6781, p6782, q6783, he6780, r6784, r6785, r6786⟩, r6787⟩ := show rk_3 D I γ el F5926 q6764 from RS_o hT ht6768
        have bp6781 := gB_any p6781
        have bp6782 : gB p6782 0 1000000 := ⟨by omega, by omega⟩
        refine Gw_callV (As := []) (gV_ok D I) (cp_7_ArrayList_size l hl0 D I P5925 F5926 q6764 p6781 q6783 p6782 hm6779 he6780 (gB_w bp6782 (by decide) (by decide))) dr_cX13_countRows_21 ⟨wr_9_157, wr_1_18, wr_9_160, by decide, rfl, (Nat.le_of_ble_eq_true rfl), (Nat.le_of_ble_eq_true rfl)⟩ wr_9_158 wr_9_159 hm6779 he6780 rfl (show 0 + 0 ≤ 0 by first | omega | decide) (show 0 + 0 ≤ 0 by first | omega | decide) (Nat.le_of_ble_eq_true rfl) (fun r6791 w6792 dc6788 ds6789 hp6790 => ?_) (fun _ _ _ _ _ z => z.elim)
        obtain ⟨rfl, rfl, hdc, hds⟩ := hp6790
        change G _ _ _ _ _ _ _ (.int p6782 :: _) _ _ _
        refine G_widen (cs' := 0) (sl' := 0) (by omega) (by omega) ?_
        refine G_iadd dr_cX13_countRows_24 (G_nam fun z6793 hz6793 => ?_)
        have bz6793 : gB z6793 (-2147483648) 2147483647 := gB_any z6793
        refine G_istore_n (L' := [(1, .int z6793), (2, .int g6710), (0, .ref q5927)]) dr_cX13_countRows_25 (Nat.le_of_ble_eq_true rfl) rfl ?_
        obtain ⟨z6794, hz6794⟩ : ∃ z : Int32, z = g6710 + Int32.ofInt 1 := ⟨_, rfl⟩
        have ez6794 : z6794.toInt = g6710.toInt + 1 := gI_inc hz6794 (by decide) bg6710' (by decide) (by decide)
        have bz6794 : gB z6794 1 1000000 := ⟨by omega, by omega⟩
        refine G_iinc (L' := [(2, .int z6794), (1, .int z6793), (0, .ref q5927)]) z6794 1 dr_cX13_countRows_26 rfl hz6794.symm (Nat.le_of_ble_eq_true rfl) rfl ?_
        refine G_goto 4 dr_cX13_countRows_29 (by decide +kernel) ?_
        exact ih4_6711 z6794 z6793 (gB_w bz6794 (by decide) (by decide)) (by omega)
  exact hlp4_6711 (((1000001 : Int) - 0).toNat + 1) 0 0 (gB_w (gBl (show Int32.toInt 0 = 0 by decide)) (by decide) (by decide)) (Nat.lt_succ_self _)
abbrev ky_6801_Code_count : gKey := (cX13_count, 5, "SpillForgeModel$Code", (some FieldType.int), [], "count", fun _ _ => True)
def pt_6801_Code_count (D : va_G) (I : FieldType → ClassId) (γ el : Nat → Nat → Nat) (P6797 : List Nat) (F6798 : Nat → va_E) (q6799 : Nat) (p6800 : Int32) : Option Value → va_W → Nat → Nat → Prop := fun r w dc ds => ∃ (o10390 : Int32), r = some (.int o10390) ∧ w = va_pl P6797 F6798 ∧ dc ≤ 0 ∧ ds ≤ 0
set_option maxRecDepth 100000 in
set_option maxHeartbeats 4000000 in
theorem ct_6801_Code_count (l : Launch) (hl0 : l.stackTraces = false) (D : va_G) (I : FieldType → ClassId) (γ el : Nat → Nat → Nat) (P6797 : List Nat) (F6798 : Nat → va_E) (q6799 : Nat) (p6800 : Int32) (hT : RS D I P6797 F6798 γ el) (htq6799 : rKd γ q6799 9) : CtA (gV D I) l yX13_count cX13_count 5 (some FieldType.int) 4 85 0 0 [.ref q6799, .int p6800] (va_pl P6797 F6798) (pt_6801_Code_count D I γ el P6797 F6798 q6799 p6800) gNA := by
  refine CtA_of hl0 (by decide) (Nat.le_of_ble_eq_true rfl) ?_
  have bp6800 := gB_any p6800
  refine G_iconst 0 dr_cX13_count_0 (by decide +kernel) ?_
  refine G_istore_n (L' := [(2, .int 0), (0, .ref q6799), (1, .int p6800)]) dr_cX13_count_1 (Nat.le_of_ble_eq_true rfl) rfl ?_
  refine G_iconst 0 dr_cX13_count_2 (by decide +kernel) ?_
  refine G_istore_n (L' := [(3, .int 0), (2, .int 0), (0, .ref q6799), (1, .int p6800)]) dr_cX13_count_3 (Nat.le_of_ble_eq_true rfl) rfl ?_
  have hlp4_10148 : ∀ (n4_10148 : Nat) (g10147 : Int32) (g10148 : Int32), gB g10147 0 1000000 → ((1000001 : Int) - g10147.toInt).toNat < n4_10148 → G (gV D I) l (gRm 4 85 0 0) (gMA (gV D I) (pt_6801_Code_count D I γ el P6797 F6798 q6799 p6800) gNA 0 0) ky_6801_Code_count 4 [(3, .int g10147), (2, .int g10148), (0, .ref q6799), (1, .int p6800)] [] (va_pl P6797 F6798) 0 0 := by
    intro n4_10148
    induction n4_10148 with
    | zero => intro g10147 g10148 bg10147 hm4_10148; exact absurd hm4_10148 (Nat.not_lt_zero _)
    | succ n4_10148 ih4_10148 =>
      intro g10147 g10148 bg10147 hm4_10148
      have bg10148 := gB_any g10148
      refine G_iload_n 0 dr_cX13_count_4 rfl ?_
      refine G_aload_n 2 dr_cX13_count_5 rfl ?_
      have hm10150 : q6799 ∈ P6797 := RS_m hT htq6799 (by decide)
      obtain ⟨q10152, q10153, p10154, p10155, he10151, ht10156, ht10157, ht10158, ht10159, r10160, r10161, r10162, r10163, r10164, r10165, r10166, r10167, r10168, r10169⟩ := show rk_9 γ el q6799 (F6798 q6799) from RS_o hT htq6799
      have bp10154 : gB p10154 0 1000000 := ⟨by omega, by omega⟩
      have bp10155 : gB p10155 0 1000000 := ⟨by omega, by omega⟩
      refine Gp_get 3 hm10150 he10151 dr_cX13_count_6 (gk_X13 D I) (Nat.le_of_ble_eq_true rfl) wr_7_33 rfl ?_
      refine G_icmp_ge 74 dr_cX13_count_9 (by decide +kernel) (fun hc10170 => ?_) (fun hc10170 => ?_)
      · have r10171 : p10155.toInt ≤ g10147.toInt := gC_le hc10170
        refine G_iload_n 1 dr_cX13_count_74 rfl ?_
        exact G_iretA dr_cX13_count_75 rfl (Nat.le_of_ble_eq_true rfl) (Nat.le_of_ble_eq_true rfl) ⟨g10148, rfl, rfl, (Nat.le_of_ble_eq_true rfl), (Nat.le_of_ble_eq_true rfl)⟩
      · have r10172 : g10147.toInt < p10155.toInt := gC_nle hc10170
        have bg10147' : gB g10147 0 999999 := ⟨by omega, by omega⟩
        have bp10155' : gB p10155 1 1000000 := ⟨by omega, by omega⟩
        refine G_iconst 0 dr_cX13_count_12 (by decide +kernel) ?_
        refine G_istore (L' := [(4, .int 0), (3, .int g10147), (2, .int g10148), (0, .ref q6799), (1, .int p6800)]) dr_cX13_count_13 (Nat.le_of_ble_eq_true rfl) rfl ?_
        have hlp15_10282 : ∀ (n15_10282 : Nat) (g10281 : Int32) (g10282 : Int32), gB g10281 0 1000000 → ((1000001 : Int) - g10281.toInt).toNat < n15_10282 → G (gV D I) l (gRm 4 85 0 0) (gMA (gV D I) (pt_6801_Code_count D I γ el P6797 F6798 q6799 p6800) gNA 0 0) ky_6801_Code_count 15 [(4, .int g10281), (3, .int g10147), (2, .int g10282), (0, .ref q6799), (1, .int p6800)] [] (va_pl P6797 F6798) 0 0 := by
          intro n15_10282
          induction n15_10282 with
          | zero => intro g10281 g10282 bg10281 hm15_10282; exact absurd hm15_10282 (Nat.not_lt_zero _)
          | succ n15_10282 ih15_10282 =>
            intro g10281 g10282 bg10281 hm15_10282
            have bg10282 := gB_any g10282
            refine G_iload 0 dr_cX13_count_15 rfl ?_
            refine G_aload_n 3 dr_cX13_count_17 rfl ?_
            refine G_iload_n 1 dr_cX13_count_18 rfl ?_
            have hm10284 : q10152 ∈ P6797 := RS_m hT ht10156 (by decide)
            obtain ⟨⟨p10286, p10287, q10288, he10285, r10289, r10290, r10291⟩, r10292⟩ := show rk_4 D I γ el F6798 q10152 from RS_o hT ht10156
            have bp10286 := gB_any p10286
            have bp10287 : gB p10287 0 1000000 := ⟨by omega, by omega⟩
            obtain ⟨r10293, r10294, n10300, f10301, r10295, r10296, r10297, r10298, r10299⟩ := rLC_n r10291 (by omega)
            have hm10302 : q10288 ∈ P6797 := RS_m hT r10293 (by decide)
            obtain ⟨q10303, hx10304⟩ : ∃ x, x = el q10152 g10147.toInt.toNat := ⟨_, rfl⟩
            have hx10305 : f10301 g10147.toNatClampNeg = some q10303 := (r10298 _ (show g10147.toInt.toNat < γ 2 q10152 by omega)).trans (by rw [hx10304])
            have ht10308 : rKd γ q10303 2 := by rw [hx10304]; exact r10167 _ (by omega)
            have ht10309 : rFm γ q10303 q10152 := by rw [hx10304]; exact (r10292 _ (show g10147.toInt.toNat < γ 2 q10152 by omega)).2.1
            have hm10310 : q10303 ∈ P6797 := RS_m hT ht10308 (by decide)
            obtain ⟨q10312, q10313, p10314, p10315, he10311, ht10316, ht10317, ht10318, ht10319, ht10320, bp10314, bp10315, r10321⟩ := show rk_2 γ q10303 (F6798 q10303) from RS_o hT ht10308
            refine Gw_callV (As := [.int g10147]) (gV_ok D I) (cp_6012_Code_get l hl0 D I P6797 F6798 q6799 q10152 q10288 g10147 q10153 p10154 p10155 p10286 p10287 f10301 n10300 q10303 q10312 q10313 p10314 p10315 hm10150 hm10284 hm10302 hm10310 he10151 he10285 r10295 he10311 (gB_w bg10147' (by decide) (by decide)) (gB_w bp10287 (by decide) (by decide)) (by omega) (by omega) (by assumption) (by omega)) dr_cX13_count_19 ⟨wr_10_138, wr_1_15, wr_10_141, by decide, rfl, (Nat.le_of_ble_eq_true rfl), (Nat.le_of_ble_eq_true rfl)⟩ wr_10_139 wr_10_140 hm10150 he10151 rfl (show 0 + 0 ≤ 0 by first | omega | decide) (show 0 + 0 ≤ 0 by first | omega | decide) (Nat.le_of_ble_eq_true rfl) (fun r10325 w10326 dc10322 ds10323 hp10324 => ?_) (fun _ _ _ _ _ z => z.elim)
            obtain ⟨rfl, rfl, hdc, hds⟩ := hp10324
            change G _ _ _ _ _ _ _ (.ref q10303 :: _) _ _ _
            refine G_widen (cs' := 0) (sl' := 0) (by omega) (by omega) ?_
            refine Gp_get 0 hm10310 he10311 dr_cX13_count_22 (gk_X12 D I) (Nat.le_of_ble_eq_true rfl) wr_9_219 rfl ?_
            have hm10327 : q10312 ∈ P6797 := RS_m hT ht10316 (by decide)
            obtain ⟨⟨p10329, p10330, q10331, he10328, r10332, r10333, r10334⟩, r10335⟩ := show rk_3 D I γ el F6798 q10312 from RS_o hT ht10316
            have bp10329 := gB_any p10329
            have bp10330 : gB p10330 0 1000000 := ⟨by omega, by omega⟩
            refine Gw_callV (As := []) (gV_ok D I) (cp_7_ArrayList_size l hl0 D I P6797 F6798 q10312 p10329 q10331 p10330 hm10327 he10328 (gB_w bp10330 (by decide) (by decide))) dr_cX13_count_25 ⟨wr_9_157, wr_1_18, wr_9_160, by decide, rfl, (Nat.le_of_ble_eq_true rfl), (Nat.le_of_ble_eq_true rfl)⟩ wr_9_158 wr_9_159 hm10327 he10328 rfl (show 0 + 0 ≤ 0 by first | omega | decide) (show 0 + 0 ≤ 0 by first | omega | decide) (Nat.le_of_ble_eq_true rfl) (fun r10339 w10340 dc10336 ds10337 hp10338 => ?_) (fun _ _ _ _ _ z => z.elim)
            obtain ⟨rfl, rfl, hdc, hds⟩ := hp10338
            change G _ _ _ _ _ _ _ (.int p10330 :: _) _ _ _
            refine G_widen (cs' := 0) (sl' := 0) (by omega) (by omega) ?_
            refine G_icmp_ge 68 dr_cX13_count_28 (by decide +kernel) (fun hc10341 => ?_) (fun hc10341 => ?_)
            · have r10342 : p10330.toInt ≤ g10281.toInt := gC_le hc10341
              obtain ⟨z10343, hz10343⟩ : ∃ z : Int32, z = g10147 + Int32.ofInt 1 := ⟨_, rfl⟩
              have ez10343 : z10343.toInt = g10147.toInt + 1 := gI_inc hz10343 (by decide) bg10147' (by decide) (by decide)
              have bz10343 : gB z10343 1 1000000 := ⟨by omega, by omega⟩
              refine G_iinc (L' := [(3, .int z10343), (4, .int g10281), (2, .int g10282), (0, .ref q6799), (1, .int p6800)]) z10343 1 dr_cX13_count_68 rfl hz10343.symm (Nat.le_of_ble_eq_true rfl) rfl ?_
              refine G_goto 4 dr_cX13_count_71 (by decide +kernel) ?_
              refine G_lv (L' := [(3, .int z10343), (2, .int g10282), (0, .ref q6799), (1, .int p6800)]) [0, 2, 3, 4] rfl ?_
              exact ih4_10148 z10343 g10282 (gB_w bz10343 (by decide) (by decide)) (by omega)
            · have r10344 : g10281.toInt < p10330.toInt := gC_nle hc10341
              have bg10281' : gB g10281 0 999999 := ⟨by omega, by omega⟩
              have bp10330' : gB p10330 1 1000000 := ⟨by omega, by omega⟩
              refine G_iload_n 2 dr_cX13_count_31 rfl ?_
              refine G_aload_n 3 dr_cX13_count_32 rfl ?_
              refine G_iload_n 1 dr_cX13_count_33 rfl ?_
              refine Gw_callV (As := [.int g10147]) (gV_ok D I) (cp_6012_Code_get l hl0 D I P6797 F6798 q6799 q10152 q10288 g10147 q10153 p10154 p10155 p10286 p10287 f10301 n10300 q10303 q10312 q10313 p10314 p10315 hm10150 hm10284 hm10302 hm10310 he10151 he10285 r10295 he10311 (gB_w bg10147' (by decide) (by decide)) (gB_w bp10287 (by decide) (by decide)) (by omega) (by omega) (by assumption) (by omega)) dr_cX13_count_34 ⟨wr_10_138, wr_1_15, wr_10_141, by decide, rfl, (Nat.le_of_ble_eq_true rfl), (Nat.le_of_ble_eq_true rfl)⟩ wr_10_139 wr_10_140 hm10150 he10151 rfl (show 0 + 0 ≤ 0 by first | omega | decide) (show 0 + 0 ≤ 0 by first | omega | decide) (Nat.le_of_ble_eq_true rfl) (fun r10348 w10349 dc10345 ds10346 hp10347 => ?_) (fun _ _ _ _ _ z => z.elim)
              obtain ⟨rfl, rfl, hdc, hds⟩ := hp10347
              change G _ _ _ _ _ _ _ (.ref q10303 :: _) _ _ _
              refine G_widen (cs' := 0) (sl' := 0) (by omega) (by omega) ?_
              refine Gp_get 0 hm10310 he10311 dr_cX13_count_37 (gk_X12 D I) (Nat.le_of_ble_eq_true rfl) wr_9_219 rfl ?_
              refine G_iload 0 dr_cX13_count_40 rfl ?_
              obtain ⟨r10350, r10351, n10357, f10358, r10352, r10353, r10354, r10355, r10356⟩ := rLC_n r10334 (by omega)
              have hm10359 : q10331 ∈ P6797 := RS_m hT r10350 (by decide)
              obtain ⟨q10360, hx10361⟩ : ∃ x, x = el q10312 g10281.toInt.toNat := ⟨_, rfl⟩
              have hx10362 : f10358 g10281.toNatClampNeg = some q10360 := (r10355 _ (show g10281.toInt.toNat < γ 2 q10312 by omega)).trans (by rw [hx10361])
              have ht10363 : rKd γ q10360 1 := by rw [hx10361]; exact (r10335 _ (show g10281.toInt.toNat < γ 2 q10312 by omega)).1
              have ht10364 : rFm γ q10360 q10312 := by rw [hx10361]; exact (r10335 _ (show g10281.toInt.toNat < γ 2 q10312 by omega)).2.1
              refine Gw_callV (As := [.int g10281]) (gV_ok D I) (cp_22_ArrayList_get l hl0 D I P6797 F6798 q10312 q10331 g10281 p10329 p10330 f10358 n10357 q10360 hm10327 hm10359 he10328 r10352 (gB_w bg10281' (by decide) (by decide)) (gB_w bp10330' (by decide) (by decide)) (by omega) (by omega) (by assumption) (by omega)) dr_cX13_count_42 ⟨wr_10_62, wr_1_18, wr_10_65, by decide, rfl, (Nat.le_of_ble_eq_true rfl), (Nat.le_of_ble_eq_true rfl)⟩ wr_10_63 wr_10_64 hm10327 he10328 rfl (show 0 + 0 ≤ 0 by first | omega | decide) (show 0 + 0 ≤ 0 by first | omega | decide) (Nat.le_of_ble_eq_true rfl) (fun r10368 w10369 dc10365 ds10366 hp10367 => ?_) (fun _ _ _ _ _ z => z.elim)
              obtain ⟨rfl, rfl, hdc, hds⟩ := hp10367
              change G _ _ _ _ _ _ _ (.ref q10360 :: _) _ _ _
              refine G_widen (cs' := 0) (sl' := 0) (by omega) (by omega) ?_
              have hm10370 : q10360 ∈ P6797 := RS_m hT ht10363 (by decide)
              obtain ⟨p10372, p10373, p10374, p10375, p10376, p10377, p10378, he10371, bp10372, bp10373, bp10376, bp10377, bp10378, r10379, r10380, r10381, r10382⟩ := show rk_1 γ q10360 (F6798 q10360) from RS_o hT ht10363
              have bp10374 := gB_any p10374
              have bp10375 := gB_any p10375
              refine Gp_cast hm10370 he10371 rfl dr_cX13_count_45 wr_10_83 (gr_cast 1 rfl) ?_
              refine Gp_get 0 hm10370 he10371 dr_cX13_count_48 (gk_X15 D I) (Nat.le_of_ble_eq_true rfl) wr_9_178 rfl ?_
              refine G_iload_n 4 dr_cX13_count_51 rfl ?_
              refine G_icmp_ne 59 dr_cX13_count_52 (by decide +kernel) (fun hc10383 => ?_) (fun hc10383 => ?_)
              · have r10384 : p10372.toInt ≠ p6800.toInt := gC_ne hc10383
                refine G_iconst 0 dr_cX13_count_59 (by decide +kernel) ?_
                refine G_iadd dr_cX13_count_60 (G_nam fun z10385 hz10385 => ?_)
                have ez10385 : z10385.toInt = g10282.toInt + 0 := by rw [gI_add hz10385 bg10282 (gBl (show Int32.toInt 0 = 0 by decide)) (by decide) (by decide), show Int32.toInt 0 = 0 from by decide]
                have bz10385 : gB z10385 (-2147483648) 2147483647 := gB_add (gI_add hz10385 bg10282 (gBl (show Int32.toInt 0 = 0 by decide)) (by decide) (by decide)) bg10282 (gBl (show Int32.toInt 0 = 0 by decide)) (by decide) (by decide)
                refine G_istore_n (L' := [(2, .int z10385), (4, .int g10281), (3, .int g10147), (0, .ref q6799), (1, .int p6800)]) dr_cX13_count_61 (Nat.le_of_ble_eq_true rfl) rfl ?_
                obtain ⟨z10386, hz10386⟩ : ∃ z : Int32, z = g10281 + Int32.ofInt 1 := ⟨_, rfl⟩
                have ez10386 : z10386.toInt = g10281.toInt + 1 := gI_inc hz10386 (by decide) bg10281' (by decide) (by decide)
                have bz10386 : gB z10386 1 1000000 := ⟨by omega, by omega⟩
                refine G_iinc (L' := [(4, .int z10386), (2, .int z10385), (3, .int g10147), (0, .ref q6799), (1, .int p6800)]) z10386 1 dr_cX13_count_62 rfl hz10386.symm (Nat.le_of_ble_eq_true rfl) rfl ?_
                refine G_goto 15 dr_cX13_count_65 (by decide +kernel) ?_
                refine G_lv (L' := [(4, .int z10386), (3, .int g10147), (2, .int z10385), (0, .ref q6799), (1, .int p6800)]) [0, 2, 1, 3, 4] rfl ?_
                exact ih15_10282 z10386 z10385 (gB_w bz10386 (by decide) (by decide)) (by omega)
              · have r10387 : p10372.toInt = p6800.toInt := gC_eq hc10383
                have bp6800' : gB p6800 0 32 := ⟨by omega, by omega⟩
                refine G_iconst 1 dr_cX13_count_55 (by decide +kernel) ?_
                refine G_goto 60 dr_cX13_count_56 (by decide +kernel) ?_
                refine G_iadd dr_cX13_count_60 (G_nam fun z10388 hz10388 => ?_)
                have bz10388 : gB z10388 (-2147483648) 2147483647 := gB_any z10388
                refine G_istore_n (L' := [(2, .int z10388), (4, .int g10281), (3, .int g10147), (0, .ref q6799), (1, .int p6800)]) dr_cX13_count_61 (Nat.le_of_ble_eq_true rfl) rfl ?_
                obtain ⟨z10389, hz10389⟩ : ∃ z : Int32, z = g10281 + Int32.ofInt 1 := ⟨_, rfl⟩
                have ez10389 : z10389.toInt = g10281.toInt + 1 := gI_inc hz10389 (by decide) bg10281' (by decide) (by decide)
                have bz10389 : gB z10389 1 1000000 := ⟨by omega, by omega⟩
                refine G_iinc (L' := [(4, .int z10389), (2, .int z10388), (3, .int g10147), (0, .ref q6799), (1, .int p6800)]) z10389 1 dr_cX13_count_62 rfl hz10389.symm (Nat.le_of_ble_eq_true rfl) rfl ?_
                refine G_goto 15 dr_cX13_count_65 (by decide +kernel) ?_
                refine G_lv (L' := [(4, .int z10389), (3, .int g10147), (2, .int z10388), (0, .ref q6799), (1, .int p6800)]) [0, 2, 1, 3, 4] rfl ?_
                exact ih15_10282 z10389 z10388 (gB_w bz10389 (by decide) (by decide)) (by omega)
        exact hlp15_10282 (((1000001 : Int) - 0).toNat + 1) 0 g10148 (gB_w (gBl (show Int32.toInt 0 = 0 by decide)) (by decide) (by decide)) (Nat.lt_succ_self _)
  exact hlp4_10148 (((1000001 : Int) - 0).toNat + 1) 0 0 (gB_w (gBl (show Int32.toInt 0 = 0 by decide)) (by decide) (by decide)) (Nat.lt_succ_self _)
abbrev ky_10426_Code_size : gKey := (cX13_size, 1, "SpillForgeModel$Code", (some FieldType.int), [], "size", fun _ _ => True)
def pp_10426_Code_size (D : va_G) (I : FieldType → ClassId) (P10419 : List Nat) (F10420 : Nat → va_E) (q10421 : Nat) (qo10422 : Nat) (qo10423 : Nat) (p10424 : Int32) (p10425 : Int32) : Option Value → va_W → Nat → Nat → Prop := fun r w dc ds => r = some (.int p10425) ∧ w = va_pl P10419 F10420 ∧ dc ≤ 0 ∧ ds ≤ 0
set_option maxRecDepth 100000 in
set_option maxHeartbeats 4000000 in
theorem cp_10426_Code_size (l : Launch) (hl0 : l.stackTraces = false) (D : va_G) (I : FieldType → ClassId) (P10419 : List Nat) (F10420 : Nat → va_E) (q10421 : Nat) (qo10422 : Nat) (qo10423 : Nat) (p10424 : Int32) (p10425 : Int32) (hmq10421 : q10421 ∈ P10419) (heq10421 : F10420 q10421 = .inr (18, [.ref qo10422, .ref qo10423, .int p10424, .int p10425])) : CtA (gV D I) l yX13_size cX13_size 1 (some FieldType.int) 0 0 0 0 [.ref q10421] (va_pl P10419 F10420) (pp_10426_Code_size D I P10419 F10420 q10421 qo10422 qo10423 p10424 p10425) gNA := by
  refine CtA_of hl0 (by decide) (Nat.le_of_ble_eq_true rfl) ?_
  have bp10424 := gB_any p10424
  have bp10425 := gB_any p10425
  refine G_aload_n 0 dr_cX13_size_0 rfl ?_
  refine Gp_get 3 hmq10421 heq10421 dr_cX13_size_1 (gk_X13 D I) (Nat.le_of_ble_eq_true rfl) wr_7_33 rfl ?_
  exact G_iretA dr_cX13_size_4 rfl (Nat.le_of_ble_eq_true rfl) (Nat.le_of_ble_eq_true rfl) ⟨rfl, rfl, (Nat.le_of_ble_eq_true rfl), (Nat.le_of_ble_eq_true rfl)⟩
abbrev ky_10396_SpillForgeModel_reached : gKey := (cX17_reached, 8, "SpillForgeModel", (some FieldType.long), [], "reached", fun _ _ => True)
def pt_10396_SpillForgeModel_reached (D : va_G) (I : FieldType → ClassId) (γ el : Nat → Nat → Nat) (P10392 : List Nat) (F10393 : Nat → va_E) (q10394 : Nat) (p10395 : Int32) : Option Value → va_W → Nat → Nat → Prop := fun r w dc ds => ∃ (ol13809 : Int64), r = some (.long ol13809) ∧ w = va_pl P10392 F10393 ∧ dc ≤ 0 ∧ ds ≤ 0
set_option maxRecDepth 100000 in
set_option maxHeartbeats 4000000 in
theorem ct_10396_SpillForgeModel_reached (l : Launch) (hl0 : l.stackTraces = false) (D : va_G) (I : FieldType → ClassId) (γ el : Nat → Nat → Nat) (P10392 : List Nat) (F10393 : Nat → va_E) (q10394 : Nat) (p10395 : Int32) (hT : RS D I P10392 F10393 γ el) (htq10394 : rKd γ q10394 9) : CtA (gV D I) l yX17_reached cX17_reached 8 (some FieldType.long) 4 85 0 0 [.ref q10394, .int p10395] (va_pl P10392 F10393) (pt_10396_SpillForgeModel_reached D I γ el P10392 F10393 q10394 p10395) gNA := by
  refine CtA_of hl0 (by decide) (Nat.le_of_ble_eq_true rfl) ?_
  have bp10395 := gB_any p10395
  refine G_iload_n 1 dr_cX17_reached_0 rfl ?_
  refine G_if_ne 6 dr_cX17_reached_1 (by decide +kernel) (fun hc10397 => ?_) (fun hc10397 => ?_)
  · have r10398 : p10395.toInt ≠ 0 := gj_neq hc10397 (show Int32.toInt 0 = 0 by decide)
    refine G_lconst 1 dr_cX17_reached_6 rfl ?_
    refine G_lstore_n (L' := [(2, .long 1), (0, .ref q10394), (1, .int p10395)]) dr_cX17_reached_7 (Nat.le_of_ble_eq_true rfl) rfl ?_
    refine G_iconst 1 dr_cX17_reached_8 (by decide +kernel) ?_
    refine G_istore (L' := [(4, .int 1), (2, .long 1), (0, .ref q10394), (1, .int p10395)]) dr_cX17_reached_9 (Nat.le_of_ble_eq_true rfl) rfl ?_
    have hlp11_13342 : ∀ (n11_13342 : Nat) (g13340 : Int32) (gl13341 : Int64), gB g13340 0 1 → rpop gl13341 ≤ 64 → (64 - rpop gl13341) + ((g13340.toInt : Int)).toNat < n11_13342 → G (gV D I) l (gRm 4 85 0 0) (gMA (gV D I) (pt_10396_SpillForgeModel_reached D I γ el P10392 F10393 q10394 p10395) gNA 0 0) ky_10396_SpillForgeModel_reached 11 [(4, .int g13340), (2, .long gl13341), (0, .ref q10394), (1, .int p10395)] [] (va_pl P10392 F10393) 0 0 := by
      intro n11_13342
      induction n11_13342 with
      | zero => intro g13340 gl13341 bg13340 x13342 hm11_13342; exact absurd hm11_13342 (Nat.not_lt_zero _)
      | succ n11_13342 ih11_13342 =>
        intro g13340 gl13341 bg13340 x13342 hm11_13342
        refine G_iload 0 dr_cX17_reached_11 rfl ?_
        refine G_if_eq 120 dr_cX17_reached_13 (by decide +kernel) (fun hc13344 => ?_) (fun hc13344 => ?_)
        · have r13345 : g13340.toInt = 0 := gj_eq hc13344 (show Int32.toInt 0 = 0 by decide)
          have bg13340' : gB g13340 0 0 := ⟨by omega, by omega⟩
          refine G_lload_n 1 dr_cX17_reached_120 rfl ?_
          exact G_lretA dr_cX17_reached_121 rfl (Nat.le_of_ble_eq_true rfl) (Nat.le_of_ble_eq_true rfl) ⟨gl13341, rfl, rfl, (Nat.le_of_ble_eq_true rfl), (Nat.le_of_ble_eq_true rfl)⟩
        · have r13346 : g13340.toInt ≠ 0 := gj_neq hc13344 (show Int32.toInt 0 = 0 by decide)
          have bg13340' : gB g13340 1 1 := ⟨by omega, by omega⟩
          refine G_iconst 0 dr_cX17_reached_16 (by decide +kernel) ?_
          refine G_istore (L' := [(4, .int 0), (2, .long gl13341), (0, .ref q10394), (1, .int p10395)]) dr_cX17_reached_17 (Nat.le_of_ble_eq_true rfl) rfl ?_
          refine G_iconst 0 dr_cX17_reached_19 (by decide +kernel) ?_
          refine G_istore (L' := [(5, .int 0), (4, .int 0), (2, .long gl13341), (0, .ref q10394), (1, .int p10395)]) dr_cX17_reached_20 (Nat.le_of_ble_eq_true rfl) rfl ?_
          have hlp22_13580 : ∀ (n22_13580 : Nat) (g13576 : Int32) (g13577 : Int32) (gl13578 : Int64), gB g13576 0 1000000 → gB g13577 0 1 → rpop gl13578 ≤ 64 → rpop gl13341 + ((g13577.toInt : Int)).toNat ≤ rpop gl13578 → ((1000001 : Int) - g13576.toInt).toNat < n22_13580 → G (gV D I) l (gRm 4 85 0 0) (gMA (gV D I) (pt_10396_SpillForgeModel_reached D I γ el P10392 F10393 q10394 p10395) gNA 0 0) ky_10396_SpillForgeModel_reached 22 [(5, .int g13576), (4, .int g13577), (2, .long gl13578), (0, .ref q10394), (1, .int p10395)] [] (va_pl P10392 F10393) 0 0 := by
            intro n22_13580
            induction n22_13580 with
            | zero => intro g13576 g13577 gl13578 bg13576 bg13577 x13579 x13580 hm22_13580; exact absurd hm22_13580 (Nat.not_lt_zero _)
            | succ n22_13580 ih22_13580 =>
              intro g13576 g13577 gl13578 bg13576 bg13577 x13579 x13580 hm22_13580
              refine G_iload 0 dr_cX17_reached_22 rfl ?_
              refine G_aload_n 3 dr_cX17_reached_24 rfl ?_
              have hm13582 : q10394 ∈ P10392 := RS_m hT htq10394 (by decide)
              obtain ⟨q13584, q13585, p13586, p13587, he13583, ht13588, ht13589, ht13590, ht13591, r13592, r13593, r13594, r13595, r13596, r13597, r13598, r13599, r13600, r13601⟩ := show rk_9 γ el q10394 (F10393 q10394) from RS_o hT htq10394
              have bp13586 : gB p13586 0 1000000 := ⟨by omega, by omega⟩
              have bp13587 : gB p13587 0 1000000 := ⟨by omega, by omega⟩
              refine Gw_callV (As := []) (gV_ok D I) (cp_10426_Code_size l hl0 D I P10392 F10393 q10394 q13584 q13585 p13586 p13587 hm13582 he13583) dr_cX17_reached_25 ⟨wr_10_160, wr_1_15, wr_9_131, by decide, rfl, (Nat.le_of_ble_eq_true rfl), (Nat.le_of_ble_eq_true rfl)⟩ wr_9_129 wr_9_130 hm13582 he13583 rfl (show 0 + 0 ≤ 0 by first | omega | decide) (show 0 + 0 ≤ 0 by first | omega | decide) (Nat.le_of_ble_eq_true rfl) (fun r13605 w13606 dc13602 ds13603 hp13604 => ?_) (fun _ _ _ _ _ z => z.elim)
              obtain ⟨rfl, rfl, hdc, hds⟩ := hp13604
              change G _ _ _ _ _ _ _ (.int p13587 :: _) _ _ _
              refine G_widen (cs' := 0) (sl' := 0) (by omega) (by omega) ?_
              refine G_icmp_ge 117 dr_cX17_reached_28 (by decide +kernel) (fun hc13607 => ?_) (fun hc13607 => ?_)
              · have r13608 : p13587.toInt ≤ g13576.toInt := gC_le hc13607
                refine G_goto 11 dr_cX17_reached_117 (by decide +kernel) ?_
                refine G_lv (L' := [(4, .int g13577), (2, .long gl13578), (0, .ref q10394), (1, .int p10395)]) [1, 2, 3, 4] rfl ?_
                exact ih11_13342 g13577 gl13578 bg13577 (rpop_le gl13578) (by omega)
              · have r13609 : g13576.toInt < p13587.toInt := gC_nle hc13607
                have bg13576' : gB g13576 0 999999 := ⟨by omega, by omega⟩
                have bp13587' : gB p13587 1 1000000 := ⟨by omega, by omega⟩
                refine G_lload_n 2 dr_cX17_reached_31 rfl ?_
                refine G_iload 0 dr_cX17_reached_32 rfl ?_
                refine G_lushr dr_cX17_reached_34 (G_namL fun u13610 hu13610 => ?_)
                refine G_lconst 1 dr_cX17_reached_35 rfl ?_
                refine G_land dr_cX17_reached_36 (G_namL fun u13611 hu13611 => ?_)
                refine G_lconst 0 dr_cX17_reached_37 rfl ?_
                refine G_lcmp dr_cX17_reached_38 (G_nam fun z13612 hz13612 => ?_)
                have bz13612 : gB z13612 (-1) 1 := gB_cmp hz13612
                refine G_if_ne 45 dr_cX17_reached_39 (by decide +kernel) (fun hc13613 => ?_) (fun hc13613 => ?_)
                · have r13614 : z13612.toInt ≠ 0 := gj_neq hc13613 (show Int32.toInt 0 = 0 by decide)
                  have lhc13613 := gC_cmpN hz13612 hc13613
                  refine G_iconst 0 dr_cX17_reached_45 (by decide +kernel) ?_
                  refine G_istore (L' := [(6, .int 0), (5, .int g13576), (4, .int g13577), (2, .long gl13578), (0, .ref q10394), (1, .int p10395)]) dr_cX17_reached_46 (Nat.le_of_ble_eq_true rfl) rfl ?_
                  have hlp48_13713 : ∀ (n48_13713 : Nat) (g13709 : Int32) (g13710 : Int32) (gl13711 : Int64), gB g13709 0 2 → gB g13710 0 1 → rpop gl13711 ≤ 64 → rpop gl13341 + ((g13710.toInt : Int)).toNat ≤ rpop gl13711 → ((3 : Int) - g13709.toInt).toNat < n48_13713 → G (gV D I) l (gRm 4 85 0 0) (gMA (gV D I) (pt_10396_SpillForgeModel_reached D I γ el P10392 F10393 q10394 p10395) gNA 0 0) ky_10396_SpillForgeModel_reached 48 [(6, .int g13709), (5, .int g13576), (4, .int g13710), (2, .long gl13711), (0, .ref q10394), (1, .int p10395)] [] (va_pl P10392 F10393) 0 0 := by
                    intro n48_13713
                    induction n48_13713 with
                    | zero => intro g13709 g13710 gl13711 bg13709 bg13710 x13712 x13713 hm48_13713; exact absurd hm48_13713 (Nat.not_lt_zero _)
                    | succ n48_13713 ih48_13713 =>
                      intro g13709 g13710 gl13711 bg13709 bg13710 x13712 x13713 hm48_13713
                      refine G_iload 0 dr_cX17_reached_48 rfl ?_
                      refine G_aload_n 4 dr_cX17_reached_50 rfl ?_
                      refine G_iload 1 dr_cX17_reached_51 rfl ?_
                      have hm13715 : q13584 ∈ P10392 := RS_m hT ht13588 (by decide)
                      obtain ⟨⟨p13717, p13718, q13719, he13716, r13720, r13721, r13722⟩, r13723⟩ := show rk_4 D I γ el F10393 q13584 from RS_o hT ht13588
                      have bp13717 := gB_any p13717
                      have bp13718 : gB p13718 0 1000000 := ⟨by omega, by omega⟩
                      obtain ⟨r13724, r13725, n13731, f13732, r13726, r13727, r13728, r13729, r13730⟩ := rLC_n r13722 (by omega)
                      have hm13733 : q13719 ∈ P10392 := RS_m hT r13724 (by decide)
                      obtain ⟨q13734, hx13735⟩ : ∃ x, x = el q13584 g13576.toInt.toNat := ⟨_, rfl⟩
                      have hx13736 : f13732 g13576.toNatClampNeg = some q13734 := (r13729 _ (show g13576.toInt.toNat < γ 2 q13584 by omega)).trans (by rw [hx13735])
                      have ht13739 : rKd γ q13734 2 := by rw [hx13735]; exact r13599 _ (by omega)
                      have ht13740 : rFm γ q13734 q13584 := by rw [hx13735]; exact (r13723 _ (show g13576.toInt.toNat < γ 2 q13584 by omega)).2.1
                      have hm13741 : q13734 ∈ P10392 := RS_m hT ht13739 (by decide)
                      obtain ⟨q13743, q13744, p13745, p13746, he13742, ht13747, ht13748, ht13749, ht13750, ht13751, bp13745, bp13746, r13752⟩ := show rk_2 γ q13734 (F10393 q13734) from RS_o hT ht13739
                      refine Gw_callV (As := [.int g13576]) (gV_ok D I) (cp_6012_Code_get l hl0 D I P10392 F10393 q10394 q13584 q13719 g13576 q13585 p13586 p13587 p13717 p13718 f13732 n13731 q13734 q13743 q13744 p13745 p13746 hm13582 hm13715 hm13733 hm13741 he13583 he13716 r13726 he13742 (gB_w bg13576' (by decide) (by decide)) (gB_w bp13718 (by decide) (by decide)) (by omega) (by omega) (by assumption) (by omega)) dr_cX17_reached_53 ⟨wr_10_161, wr_1_15, wr_10_141, by decide, rfl, (Nat.le_of_ble_eq_true rfl), (Nat.le_of_ble_eq_true rfl)⟩ wr_10_139 wr_10_140 hm13582 he13583 rfl (show 0 + 0 ≤ 0 by first | omega | decide) (show 0 + 0 ≤ 0 by first | omega | decide) (Nat.le_of_ble_eq_true rfl) (fun r13756 w13757 dc13753 ds13754 hp13755 => ?_) (fun _ _ _ _ _ z => z.elim)
                      obtain ⟨rfl, rfl, hdc, hds⟩ := hp13755
                      change G _ _ _ _ _ _ _ (.ref q13734 :: _) _ _ _
                      refine G_widen (cs' := 0) (sl' := 0) (by omega) (by omega) ?_
                      have hm13758 : q13744 ∈ P10392 := RS_m hT ht13749 (by decide)
                      obtain ⟨p13760, p13761, p13762, p13763, p13764, p13765, p13766, he13759, bp13760, bp13761, bp13764, bp13765, bp13766, r13767, r13768, r13769, r13770⟩ := show rk_1 γ q13744 (F10393 q13744) from RS_o hT ht13749
                      have bp13762 := gB_any p13762
                      have bp13763 := gB_any p13763
                      refine Gw_callV (As := []) (gV_ok D I) (cp_1809_Block_ways l hl0 D I P10392 F10393 q13734 q13744 q13743 p13745 p13746 p13760 p13761 p13762 p13763 p13764 p13765 p13766 hm13741 hm13758 he13742 he13759 bp13745 bp13746 bp13760 bp13761 bp13764 bp13765 bp13766) dr_cX17_reached_56 ⟨wr_10_166, wr_1_38, wr_10_169, by decide, rfl, (Nat.le_of_ble_eq_true rfl), (Nat.le_of_ble_eq_true rfl)⟩ wr_10_167 wr_10_168 hm13741 he13742 rfl (show 0 + 0 ≤ 0 by first | omega | decide) (show 0 + 0 ≤ 0 by first | omega | decide) (Nat.le_of_ble_eq_true rfl) (fun r13774 w13775 dc13771 ds13772 hp13773 => ?_) (fun _ _ _ _ _ z => z.elim)
                      obtain ⟨o13776, rfl, rfl, hdc, hds, bo13776⟩ := hp13773
                      change G _ _ _ _ _ _ _ (.int o13776 :: _) _ _ _
                      refine G_widen (cs' := 0) (sl' := 0) (by omega) (by omega) ?_
                      refine G_icmp_ge 111 dr_cX17_reached_59 (by decide +kernel) (fun hc13777 => ?_) (fun hc13777 => ?_)
                      · have r13778 : o13776.toInt ≤ g13709.toInt := gC_le hc13777
                        obtain ⟨z13779, hz13779⟩ : ∃ z : Int32, z = g13576 + Int32.ofInt 1 := ⟨_, rfl⟩
                        have ez13779 : z13779.toInt = g13576.toInt + 1 := gI_inc hz13779 (by decide) bg13576' (by decide) (by decide)
                        have bz13779 : gB z13779 1 1000000 := ⟨by omega, by omega⟩
                        refine G_iinc (L' := [(5, .int z13779), (6, .int g13709), (4, .int g13710), (2, .long gl13711), (0, .ref q10394), (1, .int p10395)]) z13779 1 dr_cX17_reached_111 rfl hz13779.symm (Nat.le_of_ble_eq_true rfl) rfl ?_
                        refine G_goto 22 dr_cX17_reached_114 (by decide +kernel) ?_
                        refine G_lv (L' := [(5, .int z13779), (4, .int g13710), (2, .long gl13711), (0, .ref q10394), (1, .int p10395)]) [0, 2, 3, 4, 5] rfl ?_
                        exact ih22_13580 z13779 g13710 gl13711 (gB_w bz13779 (by decide) (by decide)) bg13710 (rpop_le gl13711) (by omega) (by omega)
                      · have r13780 : g13709.toInt < o13776.toInt := gC_nle hc13777
                        have bg13709' : gB g13709 0 1 := ⟨by omega, by omega⟩
                        have bo13776' : gB o13776 1 2 := ⟨by omega, by omega⟩
                        refine G_aload_n 4 dr_cX17_reached_62 rfl ?_
                        refine G_iload 1 dr_cX17_reached_63 rfl ?_
                        refine Gw_callV (As := [.int g13576]) (gV_ok D I) (cp_6012_Code_get l hl0 D I P10392 F10393 q10394 q13584 q13719 g13576 q13585 p13586 p13587 p13717 p13718 f13732 n13731 q13734 q13743 q13744 p13745 p13746 hm13582 hm13715 hm13733 hm13741 he13583 he13716 r13726 he13742 (gB_w bg13576' (by decide) (by decide)) (gB_w bp13718 (by decide) (by decide)) (by omega) (by omega) (by assumption) (by omega)) dr_cX17_reached_65 ⟨wr_10_161, wr_1_15, wr_10_141, by decide, rfl, (Nat.le_of_ble_eq_true rfl), (Nat.le_of_ble_eq_true rfl)⟩ wr_10_139 wr_10_140 hm13582 he13583 rfl (show 0 + 0 ≤ 0 by first | omega | decide) (show 0 + 0 ≤ 0 by first | omega | decide) (Nat.le_of_ble_eq_true rfl) (fun r13784 w13785 dc13781 ds13782 hp13783 => ?_) (fun _ _ _ _ _ z => z.elim)
                        obtain ⟨rfl, rfl, hdc, hds⟩ := hp13783
                        change G _ _ _ _ _ _ _ (.ref q13734 :: _) _ _ _
                        refine G_widen (cs' := 0) (sl' := 0) (by omega) (by omega) ?_
                        refine G_iload 0 dr_cX17_reached_68 rfl ?_
                        refine Gw_callV (As := [.int g13709]) (gV_ok D I) (cp_3377_Block_way l hl0 D I P10392 F10393 q13734 q13744 g13709 q13743 p13745 p13746 p13760 p13761 p13762 p13763 p13764 p13765 p13766 hm13741 hm13758 he13742 he13759 bp13745 bp13746 bp13760 bp13761 bp13764 bp13765 bp13766) dr_cX17_reached_70 ⟨wr_10_170, wr_1_38, wr_10_173, by decide, rfl, (Nat.le_of_ble_eq_true rfl), (Nat.le_of_ble_eq_true rfl)⟩ wr_10_171 wr_10_172 hm13741 he13742 rfl (show 0 + 0 ≤ 0 by first | omega | decide) (show 0 + 0 ≤ 0 by first | omega | decide) (Nat.le_of_ble_eq_true rfl) (fun r13789 w13790 dc13786 ds13787 hp13788 => ?_) (fun _ _ _ _ _ z => z.elim)
                        obtain ⟨o13791, rfl, rfl, hdc, hds, bo13791⟩ := hp13788
                        change G _ _ _ _ _ _ _ (.int o13791 :: _) _ _ _
                        refine G_widen (cs' := 0) (sl' := 0) (by omega) (by omega) ?_
                        refine G_istore (L' := [(7, .int o13791), (6, .int g13709), (5, .int g13576), (4, .int g13710), (2, .long gl13711), (0, .ref q10394), (1, .int p10395)]) dr_cX17_reached_73 (Nat.le_of_ble_eq_true rfl) rfl ?_
                        refine G_iload 0 dr_cX17_reached_75 rfl ?_
                        refine G_iload_n 6 dr_cX17_reached_77 rfl ?_
                        refine G_icmp_eq 105 dr_cX17_reached_78 (by decide +kernel) (fun hc13792 => ?_) (fun hc13792 => ?_)
                        · have r13793 : o13791.toInt = p10395.toInt := gC_eq hc13792
                          have bp10395' : gB p10395 0 39 := ⟨by omega, by omega⟩
                          obtain ⟨z13794, hz13794⟩ : ∃ z : Int32, z = g13709 + Int32.ofInt 1 := ⟨_, rfl⟩
                          have ez13794 : z13794.toInt = g13709.toInt + 1 := gI_inc hz13794 (by decide) bg13709' (by decide) (by decide)
                          have bz13794 : gB z13794 1 2 := ⟨by omega, by omega⟩
                          refine G_iinc (L' := [(6, .int z13794), (7, .int o13791), (5, .int g13576), (4, .int g13710), (2, .long gl13711), (0, .ref q10394), (1, .int p10395)]) z13794 1 dr_cX17_reached_105 rfl hz13794.symm (Nat.le_of_ble_eq_true rfl) rfl ?_
                          refine G_goto 48 dr_cX17_reached_108 (by decide +kernel) ?_
                          refine G_lv (L' := [(6, .int z13794), (5, .int g13576), (4, .int g13710), (2, .long gl13711), (0, .ref q10394), (1, .int p10395)]) [0, 2, 3, 4, 5, 6] rfl ?_
                          exact ih48_13713 z13794 g13710 gl13711 (gB_w bz13794 (by decide) (by decide)) bg13710 (rpop_le gl13711) (by omega) (by omega)
                        · have r13795 : o13791.toInt ≠ p10395.toInt := gC_ne hc13792
                          refine G_lload_n 4 dr_cX17_reached_81 rfl ?_
                          refine G_iload 0 dr_cX17_reached_82 rfl ?_
                          refine G_lushr dr_cX17_reached_84 (G_namL fun u13796 hu13796 => ?_)
                          refine G_lconst 1 dr_cX17_reached_85 rfl ?_
                          refine G_land dr_cX17_reached_86 (G_namL fun u13797 hu13797 => ?_)
                          refine G_lconst 0 dr_cX17_reached_87 rfl ?_
                          refine G_lcmp dr_cX17_reached_88 (G_nam fun z13798 hz13798 => ?_)
                          have bz13798 : gB z13798 (-1) 1 := gB_cmp hz13798
                          refine G_if_eq 95 dr_cX17_reached_89 (by decide +kernel) (fun hc13799 => ?_) (fun hc13799 => ?_)
                          · have r13800 : z13798.toInt = 0 := gj_eq hc13799 (show Int32.toInt 0 = 0 by decide)
                            have bz13798' : gB z13798 0 0 := ⟨by omega, by omega⟩
                            have lhc13799 := gC_cmpE hz13798 hc13799
                            have zhc13799 := rbit_0 hu13796 hu13797 lhc13799 (by omega) (by omega)
                            refine G_lload_n 4 dr_cX17_reached_95 rfl ?_
                            refine G_lconst 1 dr_cX17_reached_96 rfl ?_
                            refine G_iload 0 dr_cX17_reached_97 rfl ?_
                            refine G_lshl dr_cX17_reached_99 (G_namL fun u13801 hu13801 => ?_)
                            have qu13801 : lb_Q u13801 (o13791.toInt % 64 + 1) := lb_Qshl hu13801 (by omega)
                            refine G_lor dr_cX17_reached_100 (G_namL fun u13802 hu13802 => ?_)
                            have pmu13802 : rpop gl13711 ≤ rpop u13802 := rpop_or hu13802
                            have pnu13802 : rpop gl13711 + 1 ≤ rpop u13802 := rpop_new hu13802 hu13801 (by omega) (by omega) zhc13799
                            refine G_lstore_n (L' := [(2, .long u13802), (7, .int o13791), (6, .int g13709), (5, .int g13576), (4, .int g13710), (0, .ref q10394), (1, .int p10395)]) dr_cX17_reached_101 (Nat.le_of_ble_eq_true rfl) rfl ?_
                            refine G_iconst 1 dr_cX17_reached_102 (by decide +kernel) ?_
                            refine G_istore (L' := [(4, .int 1), (2, .long u13802), (7, .int o13791), (6, .int g13709), (5, .int g13576), (0, .ref q10394), (1, .int p10395)]) dr_cX17_reached_103 (Nat.le_of_ble_eq_true rfl) rfl ?_
                            obtain ⟨z13803, hz13803⟩ : ∃ z : Int32, z = g13709 + Int32.ofInt 1 := ⟨_, rfl⟩
                            have ez13803 : z13803.toInt = g13709.toInt + 1 := gI_inc hz13803 (by decide) bg13709' (by decide) (by decide)
                            have bz13803 : gB z13803 1 2 := ⟨by omega, by omega⟩
                            refine G_iinc (L' := [(6, .int z13803), (4, .int 1), (2, .long u13802), (7, .int o13791), (5, .int g13576), (0, .ref q10394), (1, .int p10395)]) z13803 3 dr_cX17_reached_105 rfl hz13803.symm (Nat.le_of_ble_eq_true rfl) rfl ?_
                            refine G_goto 48 dr_cX17_reached_108 (by decide +kernel) ?_
                            refine G_lv (L' := [(6, .int z13803), (5, .int g13576), (4, .int 1), (2, .long u13802), (0, .ref q10394), (1, .int p10395)]) [0, 4, 1, 2, 5, 6] rfl ?_
                            exact ih48_13713 z13803 1 u13802 (gB_w bz13803 (by decide) (by decide)) (gB_w (gBl (show Int32.toInt 1 = 1 by decide)) (by decide) (by decide)) (rpop_le u13802) (by have qa0 : Int32.toInt 1 = 1 := (by decide); omega) (by have qa0 : Int32.toInt 1 = 1 := (by decide); omega)
                          · have r13804 : z13798.toInt ≠ 0 := gj_neq hc13799 (show Int32.toInt 0 = 0 by decide)
                            have lhc13799 := gC_cmpN hz13798 hc13799
                            refine G_goto 105 dr_cX17_reached_92 (by decide +kernel) ?_
                            obtain ⟨z13805, hz13805⟩ : ∃ z : Int32, z = g13709 + Int32.ofInt 1 := ⟨_, rfl⟩
                            have ez13805 : z13805.toInt = g13709.toInt + 1 := gI_inc hz13805 (by decide) bg13709' (by decide) (by decide)
                            have bz13805 : gB z13805 1 2 := ⟨by omega, by omega⟩
                            refine G_iinc (L' := [(6, .int z13805), (7, .int o13791), (5, .int g13576), (4, .int g13710), (2, .long gl13711), (0, .ref q10394), (1, .int p10395)]) z13805 1 dr_cX17_reached_105 rfl hz13805.symm (Nat.le_of_ble_eq_true rfl) rfl ?_
                            refine G_goto 48 dr_cX17_reached_108 (by decide +kernel) ?_
                            refine G_lv (L' := [(6, .int z13805), (5, .int g13576), (4, .int g13710), (2, .long gl13711), (0, .ref q10394), (1, .int p10395)]) [0, 2, 3, 4, 5, 6] rfl ?_
                            exact ih48_13713 z13805 g13710 gl13711 (gB_w bz13805 (by decide) (by decide)) bg13710 (rpop_le gl13711) (by omega) (by omega)
                  exact hlp48_13713 (((3 : Int) - 0).toNat + 1) 0 g13577 gl13578 (gB_w (gBl (show Int32.toInt 0 = 0 by decide)) (by decide) (by decide)) bg13577 (rpop_le gl13578) (by have qa0 : Int32.toInt 0 = 0 := (by decide); omega) (Nat.lt_succ_self _)
                · have r13806 : z13612.toInt = 0 := gj_eq hc13613 (show Int32.toInt 0 = 0 by decide)
                  have bz13612' : gB z13612 0 0 := ⟨by omega, by omega⟩
                  have lhc13613 := gC_cmpE hz13612 hc13613
                  refine G_goto 111 dr_cX17_reached_42 (by decide +kernel) ?_
                  obtain ⟨z13807, hz13807⟩ : ∃ z : Int32, z = g13576 + Int32.ofInt 1 := ⟨_, rfl⟩
                  have ez13807 : z13807.toInt = g13576.toInt + 1 := gI_inc hz13807 (by decide) bg13576' (by decide) (by decide)
                  have bz13807 : gB z13807 1 1000000 := ⟨by omega, by omega⟩
                  refine G_iinc (L' := [(5, .int z13807), (4, .int g13577), (2, .long gl13578), (0, .ref q10394), (1, .int p10395)]) z13807 0 dr_cX17_reached_111 rfl hz13807.symm (Nat.le_of_ble_eq_true rfl) rfl ?_
                  refine G_goto 22 dr_cX17_reached_114 (by decide +kernel) ?_
                  exact ih22_13580 z13807 g13577 gl13578 (gB_w bz13807 (by decide) (by decide)) bg13577 (rpop_le gl13578) (by omega) (by omega)
          exact hlp22_13580 (((1000001 : Int) - 0).toNat + 1) 0 0 gl13341 (gB_w (gBl (show Int32.toInt 0 = 0 by decide)) (by decide) (by decide)) (gB_w (gBl (show Int32.toInt 0 = 0 by decide)) (by decide) (by decide)) (rpop_le gl13341) (by have qa0 : Int32.toInt 0 = 0 := (by decide); omega) (Nat.lt_succ_self _)
    exact hlp11_13342 ((64 - rpop 1) + ((1 : Int)).toNat + 1) 1 1 (gB_w (gBl (show Int32.toInt 1 = 1 by decide)) (by decide) (by decide)) (rpop_le 1) (Nat.lt_succ_self _)
  · have r13808 : p10395.toInt = 0 := gj_eq hc10397 (show Int32.toInt 0 = 0 by decide)
    have bp10395' : gB p10395 0 0 := ⟨by omega, by omega⟩
    refine G_lconst 0 dr_cX17_reached_4 rfl ?_
    exact G_lretA dr_cX17_reached_5 rfl (Nat.le_of_ble_eq_true rfl) (Nat.le_of_ble_eq_true rfl) ⟨0, rfl, rfl, (Nat.le_of_ble_eq_true rfl), (Nat.le_of_ble_eq_true rfl)⟩
abbrev ky_13817_SpillForgeModel_mayMerge : gKey := (cX17_mayMerge, 8, "SpillForgeModel", (some FieldType.boolean), [], "mayMerge", fun _ _ => True)
def pt_13817_SpillForgeModel_mayMerge (D : va_G) (I : FieldType → ClassId) (γ el : Nat → Nat → Nat) (P13811 : List Nat) (F13812 : Nat → va_E) (q13813 : Nat) (p13814 : Int32) (p13815 : Int32) (p13816 : Int32) : Option Value → va_W → Nat → Nat → Prop := fun r w dc ds => ∃ (o15682 : Int32), r = some (.int o15682) ∧ w = va_pl P13811 F13812 ∧ dc ≤ 0 ∧ ds ≤ 0 ∧ gB o15682 0 1
set_option maxRecDepth 100000 in
set_option maxHeartbeats 4000000 in
theorem ct_13817_SpillForgeModel_mayMerge (l : Launch) (hl0 : l.stackTraces = false) (D : va_G) (I : FieldType → ClassId) (γ el : Nat → Nat → Nat) (P13811 : List Nat) (F13812 : Nat → va_E) (q13813 : Nat) (p13814 : Int32) (p13815 : Int32) (p13816 : Int32) (hT : RS D I P13811 F13812 γ el) (htq13813 : rKd γ q13813 10) (bp13814 : gB p13814 0 1999) (bp13815 : gB p13815 0 1999) : CtA (gV D I) l yX17_mayMerge cX17_mayMerge 8 (some FieldType.boolean) 2 43 0 0 [.ref q13813, .int p13814, .int p13815, .int p13816] (va_pl P13811 F13812) (pt_13817_SpillForgeModel_mayMerge D I γ el P13811 F13812 q13813 p13814 p13815 p13816) gNA := by
  refine CtA_of hl0 (by decide) (Nat.le_of_ble_eq_true rfl) ?_
  have bp13816 := gB_any p13816
  refine G_iload_n 1 dr_cX17_mayMerge_0 rfl ?_
  refine G_bipush 100 dr_cX17_mayMerge_1 (by decide +kernel) ?_
  refine G_icmp_ge 25 dr_cX17_mayMerge_3 (by decide +kernel) (fun hc13818 => ?_) (fun hc13818 => ?_)
  · have r13819 : 100 ≤ p13814.toInt := gj_leL hc13818 (show Int32.toInt 100 = 100 by decide)
    have bp13814' : gB p13814 100 1999 := ⟨by omega, by omega⟩
    refine G_iconst 0 dr_cX17_mayMerge_25 (by decide +kernel) ?_
    exact G_zretA FieldType.boolean dr_cX17_mayMerge_26 rfl rfl (Nat.le_of_ble_eq_true rfl) (Nat.le_of_ble_eq_true rfl) ⟨0, rfl, rfl, (Nat.le_of_ble_eq_true rfl), (Nat.le_of_ble_eq_true rfl), (gB_w (gBl (show Int32.toInt 0 = 0 by decide)) (by decide) (by decide))⟩
  · have r13820 : p13814.toInt < 100 := gj_nleL hc13818 (show Int32.toInt 100 = 100 by decide)
    have bp13814' : gB p13814 0 99 := ⟨by omega, by omega⟩
    refine G_iload_n 2 dr_cX17_mayMerge_6 rfl ?_
    refine G_bipush 100 dr_cX17_mayMerge_7 (by decide +kernel) ?_
    refine G_icmp_ge 25 dr_cX17_mayMerge_9 (by decide +kernel) (fun hc13821 => ?_) (fun hc13821 => ?_)
    · have r13822 : 100 ≤ p13815.toInt := gj_leL hc13821 (show Int32.toInt 100 = 100 by decide)
      have bp13815' : gB p13815 100 1999 := ⟨by omega, by omega⟩
      refine G_iconst 0 dr_cX17_mayMerge_25 (by decide +kernel) ?_
      exact G_zretA FieldType.boolean dr_cX17_mayMerge_26 rfl rfl (Nat.le_of_ble_eq_true rfl) (Nat.le_of_ble_eq_true rfl) ⟨0, rfl, rfl, (Nat.le_of_ble_eq_true rfl), (Nat.le_of_ble_eq_true rfl), (gB_w (gBl (show Int32.toInt 0 = 0 by decide)) (by decide) (by decide))⟩
    · have r13823 : p13815.toInt < 100 := gj_nleL hc13821 (show Int32.toInt 100 = 100 by decide)
      have bp13815' : gB p13815 0 99 := ⟨by omega, by omega⟩
      refine G_aload_n 0 dr_cX17_mayMerge_12 rfl ?_
      have hm13824 : q13813 ∈ P13811 := RS_m hT htq13813 (by decide)
      obtain ⟨q13826, q13827, p13828, p13829, p13830, p13831, p13832, p13833, p13834, p13835, p13836, p13837, p13838, p13839, p13840, p13841, p13842, he13825, hB13869, ht13843, ht13844, ht13845, ht13846, ht13847, ht13848, ht13849, ht13850, ht13851, ht13852, ht13853, ht13854, ht13855, ht13856, ht13857, ht13858, ht13859, ht13860, ht13861, ht13862, ht13863, ht13864, ht13865, ht13866, hB13870⟩ := show rk_10 γ (F13812 q13813) from RS_o hT htq13813
      refine Gp_get 1 hm13824 he13825 dr_cX17_mayMerge_13 (gk_X17 D I) (Nat.le_of_ble_eq_true rfl) wr_7_75 rfl ?_
      refine G_iload_n 1 dr_cX17_mayMerge_16 rfl ?_
      have hm13871 : (γ 9 1) ∈ P13811 := RS_m hT ht13846 (by decide)
      obtain ⟨f13873, he13872, hg13874⟩ := show rk_13 I γ (F13812 (γ 9 1)) from RS_o hT ht13846
      obtain ⟨q13875, hx13877⟩ : ∃ x, x = γ 11 p13814.toInt.toNat := ⟨_, rfl⟩
      have ht13876 : rKd γ q13875 36 := by rw [hx13877]; exact (hg13874 _ (show p13814.toInt.toNat < 2000 by omega)).2.1
      refine Gp_aald 5 hm13871 he13872 dr_cX17_mayMerge_17 rfl rfl (gB_in bp13814' (by decide) (by decide)) ?_
      rw [show f13873 p13814.toNatClampNeg = some q13875 from (hg13874 _ (show p13814.toInt.toNat < 2000 by omega)).1.trans (by rw [hx13877])]
      change G _ _ _ _ _ _ _ (.ref q13875 :: _) _ _ _
      refine G_iload_n 2 dr_cX17_mayMerge_18 rfl ?_
      have hm13878 : q13875 ∈ P13811 := RS_m hT ht13876 (by decide)
      obtain ⟨f13880, he13879, wf13880⟩ := show rk_36 I (F13812 q13875) from RS_o hT ht13876
      refine Gw_callS (As := [.ref q13875, .int p13815]) (gV_ok D I) (cp_1838_SpillForgeModel_has l hl0 D I P13811 F13812 q13875 p13815 f13880 hm13878 he13879 (gB_w bp13815' (by decide) (by decide))) dr_cX17_mayMerge_19 ⟨wr_10_203, wr_1_14, wr_10_205, by decide, rfl, (Nat.le_of_ble_eq_true rfl), (Nat.le_of_ble_eq_true rfl)⟩ wr_10_204 (show 0 + 0 ≤ 0 by first | omega | decide) (show 0 + 0 ≤ 0 by first | omega | decide) (Nat.le_of_ble_eq_true rfl) (fun r13884 w13885 dc13881 ds13882 hp13883 => ?_) (fun _ _ _ _ _ z => z.elim)
      rcases hp13883 with ⟨z13886, z13887, rfl, rfl, hdc, hds, r13888, r13889, r13890, r13891⟩ | ⟨z13892, z13893, rfl, rfl, hdc, hds, r13894, r13895, r13896, r13897⟩
      · change G _ _ _ _ _ _ _ (.int 0 :: _) _ _ _
        refine G_widen (cs' := 0) (sl' := 0) (by omega) (by omega) ?_
        refine G_if_eq 27 dr_cX17_mayMerge_22 (by decide +kernel) (fun _ => ?_) (fun hc => absurd hc (by decide))
        refine G_iconst 0 dr_cX17_mayMerge_27 (by decide +kernel) ?_
        refine G_istore (L' := [(4, .int 0), (0, .ref q13813), (1, .int p13814), (2, .int p13815), (3, .int p13816)]) dr_cX17_mayMerge_28 (Nat.le_of_ble_eq_true rfl) rfl ?_
        refine G_iconst 0 dr_cX17_mayMerge_30 (by decide +kernel) ?_
        refine G_istore (L' := [(5, .int 0), (4, .int 0), (0, .ref q13813), (1, .int p13814), (2, .int p13815), (3, .int p13816)]) dr_cX17_mayMerge_31 (Nat.le_of_ble_eq_true rfl) rfl ?_
        have hlp33_15541 : ∀ (n33_15541 : Nat) (g15540 : Int32) (g15541 : Int32), gB g15540 0 2000 → ((2001 : Int) - g15540.toInt).toNat < n33_15541 → G (gV D I) l (gRm 2 43 0 0) (gMA (gV D I) (pt_13817_SpillForgeModel_mayMerge D I γ el P13811 F13812 q13813 p13814 p13815 p13816) gNA 0 0) ky_13817_SpillForgeModel_mayMerge 33 [(5, .int g15540), (4, .int g15541), (0, .ref q13813), (1, .int p13814), (2, .int p13815), (3, .int p13816)] [] (va_pl P13811 F13812) 0 0 := by
          intro n33_15541
          induction n33_15541 with
          | zero => intro g15540 g15541 bg15540 hm33_15541; exact absurd hm33_15541 (Nat.not_lt_zero _)
          | succ n33_15541 ih33_15541 =>
            intro g15540 g15541 bg15540 hm33_15541
            have bg15541 := gB_any g15541
            refine G_iload 0 dr_cX17_mayMerge_33 rfl ?_
            refine G_sipush 2000 dr_cX17_mayMerge_35 (by decide +kernel) ?_
            refine G_icmp_ge 126 dr_cX17_mayMerge_38 (by decide +kernel) (fun hc15543 => ?_) (fun hc15543 => ?_)
            · have r15544 : 2000 ≤ g15540.toInt := gj_leL hc15543 (show Int32.toInt 2000 = 2000 by decide)
              have bg15540' : gB g15540 2000 2000 := ⟨by omega, by omega⟩
              refine G_iload 1 dr_cX17_mayMerge_126 rfl ?_
              refine G_iload_n 5 dr_cX17_mayMerge_128 rfl ?_
              refine G_icmp_ge 136 dr_cX17_mayMerge_129 (by decide +kernel) (fun hc15545 => ?_) (fun hc15545 => ?_)
              · have r15546 : p13816.toInt ≤ g15541.toInt := gC_le hc15545
                refine G_iconst 0 dr_cX17_mayMerge_136 (by decide +kernel) ?_
                exact G_zretA FieldType.boolean dr_cX17_mayMerge_137 rfl rfl (Nat.le_of_ble_eq_true rfl) (Nat.le_of_ble_eq_true rfl) ⟨0, rfl, rfl, (Nat.le_of_ble_eq_true rfl), (Nat.le_of_ble_eq_true rfl), (gB_w (gBl (show Int32.toInt 0 = 0 by decide)) (by decide) (by decide))⟩
              · have r15547 : g15541.toInt < p13816.toInt := gC_nle hc15545
                have bg15541' : gB g15541 (-2147483648) 2147483646 := ⟨by omega, by omega⟩
                have bp13816' : gB p13816 (-2147483647) 2147483647 := ⟨by omega, by omega⟩
                refine G_iconst 1 dr_cX17_mayMerge_132 (by decide +kernel) ?_
                refine G_goto 137 dr_cX17_mayMerge_133 (by decide +kernel) ?_
                exact G_zretA FieldType.boolean dr_cX17_mayMerge_137 rfl rfl (Nat.le_of_ble_eq_true rfl) (Nat.le_of_ble_eq_true rfl) ⟨1, rfl, rfl, (Nat.le_of_ble_eq_true rfl), (Nat.le_of_ble_eq_true rfl), (gB_w (gBl (show Int32.toInt 1 = 1 by decide)) (by decide) (by decide))⟩
            · have r15548 : g15540.toInt < 2000 := gj_nleL hc15543 (show Int32.toInt 2000 = 2000 by decide)
              have bg15540' : gB g15540 0 1999 := ⟨by omega, by omega⟩
              refine G_aload_n 2 dr_cX17_mayMerge_41 rfl ?_
              refine Gp_get 1 hm13824 he13825 dr_cX17_mayMerge_42 (gk_X17 D I) (Nat.le_of_ble_eq_true rfl) wr_7_75 rfl ?_
              refine G_iload_n 3 dr_cX17_mayMerge_45 rfl ?_
              obtain ⟨q15549, hx15551⟩ : ∃ x, x = γ 11 p13814.toInt.toNat := ⟨_, rfl⟩
              have ht15550 : rKd γ q15549 36 := by rw [hx15551]; exact (hg13874 _ (show p13814.toInt.toNat < 2000 by omega)).2.1
              refine Gp_aald 5 hm13871 he13872 dr_cX17_mayMerge_46 rfl rfl (gB_in bp13814' (by decide) (by decide)) ?_
              rw [show f13873 p13814.toNatClampNeg = some q15549 from (hg13874 _ (show p13814.toInt.toNat < 2000 by omega)).1.trans (by rw [hx15551])]
              change G _ _ _ _ _ _ _ (.ref q15549 :: _) _ _ _
              refine G_iload 0 dr_cX17_mayMerge_47 rfl ?_
              have hm15552 : q15549 ∈ P13811 := RS_m hT ht15550 (by decide)
              obtain ⟨f15554, he15553, wf15554⟩ := show rk_36 I (F13812 q15549) from RS_o hT ht15550
              refine Gw_callS (As := [.ref q15549, .int g15540]) (gV_ok D I) (cp_1838_SpillForgeModel_has l hl0 D I P13811 F13812 q15549 g15540 f15554 hm15552 he15553 (gB_w bg15540' (by decide) (by decide))) dr_cX17_mayMerge_49 ⟨wr_10_203, wr_1_14, wr_10_205, by decide, rfl, (Nat.le_of_ble_eq_true rfl), (Nat.le_of_ble_eq_true rfl)⟩ wr_10_204 (show 0 + 0 ≤ 0 by first | omega | decide) (show 0 + 0 ≤ 0 by first | omega | decide) (Nat.le_of_ble_eq_true rfl) (fun r15558 w15559 dc15555 ds15556 hp15557 => ?_) (fun _ _ _ _ _ z => z.elim)
              rcases hp15557 with ⟨z15560, z15561, rfl, rfl, hdc, hds, r15562, r15563, r15564, r15565⟩ | ⟨z15566, z15567, rfl, rfl, hdc, hds, r15568, r15569, r15570, r15571⟩
              · change G _ _ _ _ _ _ _ (.int 0 :: _) _ _ _
                refine G_widen (cs' := 0) (sl' := 0) (by omega) (by omega) ?_
                refine G_istore (L' := [(6, .int 0), (5, .int g15540), (4, .int g15541), (0, .ref q13813), (1, .int p13814), (2, .int p13815), (3, .int p13816)]) dr_cX17_mayMerge_52 (Nat.le_of_ble_eq_true rfl) rfl ?_
                refine G_aload_n 3 dr_cX17_mayMerge_54 rfl ?_
                refine Gp_get 1 hm13824 he13825 dr_cX17_mayMerge_55 (gk_X17 D I) (Nat.le_of_ble_eq_true rfl) wr_7_75 rfl ?_
                refine G_iload_n 5 dr_cX17_mayMerge_58 rfl ?_
                obtain ⟨q15573, hx15575⟩ : ∃ x, x = γ 11 p13815.toInt.toNat := ⟨_, rfl⟩
                have ht15574 : rKd γ q15573 36 := by rw [hx15575]; exact (hg13874 _ (show p13815.toInt.toNat < 2000 by omega)).2.1
                refine Gp_aald 5 hm13871 he13872 dr_cX17_mayMerge_59 rfl rfl (gB_in bp13815' (by decide) (by decide)) ?_
                rw [show f13873 p13815.toNatClampNeg = some q15573 from (hg13874 _ (show p13815.toInt.toNat < 2000 by omega)).1.trans (by rw [hx15575])]
                change G _ _ _ _ _ _ _ (.ref q15573 :: _) _ _ _
                refine G_iload 1 dr_cX17_mayMerge_60 rfl ?_
                have hm15576 : q15573 ∈ P13811 := RS_m hT ht15574 (by decide)
                obtain ⟨f15578, he15577, wf15578⟩ := show rk_36 I (F13812 q15573) from RS_o hT ht15574
                refine Gw_callS (As := [.ref q15573, .int g15540]) (gV_ok D I) (cp_1838_SpillForgeModel_has l hl0 D I P13811 F13812 q15573 g15540 f15578 hm15576 he15577 (gB_w bg15540' (by decide) (by decide))) dr_cX17_mayMerge_62 ⟨wr_10_203, wr_1_14, wr_10_205, by decide, rfl, (Nat.le_of_ble_eq_true rfl), (Nat.le_of_ble_eq_true rfl)⟩ wr_10_204 (show 0 + 0 ≤ 0 by first | omega | decide) (show 0 + 0 ≤ 0 by first | omega | decide) (Nat.le_of_ble_eq_true rfl) (fun r15582 w15583 dc15579 ds15580 hp15581 => ?_) (fun _ _ _ _ _ z => z.elim)
                rcases hp15581 with ⟨z15584, z15585, rfl, rfl, hdc, hds, r15586, r15587, r15588, r15589⟩ | ⟨z15590, z15591, rfl, rfl, hdc, hds, r15592, r15593, r15594, r15595⟩
                · change G _ _ _ _ _ _ _ (.int 0 :: _) _ _ _
                  refine G_widen (cs' := 0) (sl' := 0) (by omega) (by omega) ?_
                  refine G_istore (L' := [(7, .int 0), (6, .int 0), (5, .int g15540), (4, .int g15541), (0, .ref q13813), (1, .int p13814), (2, .int p13815), (3, .int p13816)]) dr_cX17_mayMerge_65 (Nat.le_of_ble_eq_true rfl) rfl ?_
                  refine G_iload 1 dr_cX17_mayMerge_67 rfl ?_
                  refine G_if_ne 80 dr_cX17_mayMerge_69 (by decide +kernel) (fun hc => absurd hc (by decide)) (fun _ => ?_)
                  refine G_iload 0 dr_cX17_mayMerge_72 rfl ?_
                  refine G_if_ne 80 dr_cX17_mayMerge_74 (by decide +kernel) (fun hc => absurd hc (by decide)) (fun _ => ?_)
                  refine G_goto 120 dr_cX17_mayMerge_77 (by decide +kernel) ?_
                  obtain ⟨z15597, hz15597⟩ : ∃ z : Int32, z = g15540 + Int32.ofInt 1 := ⟨_, rfl⟩
                  have ez15597 : z15597.toInt = g15540.toInt + 1 := gI_inc hz15597 (by decide) bg15540' (by decide) (by decide)
                  have bz15597 : gB z15597 1 2000 := ⟨by omega, by omega⟩
                  refine G_iinc (L' := [(5, .int z15597), (7, .int 0), (6, .int 0), (4, .int g15541), (0, .ref q13813), (1, .int p13814), (2, .int p13815), (3, .int p13816)]) z15597 2 dr_cX17_mayMerge_120 rfl hz15597.symm (Nat.le_of_ble_eq_true rfl) rfl ?_
                  refine G_goto 33 dr_cX17_mayMerge_123 (by decide +kernel) ?_
                  refine G_lv (L' := [(5, .int z15597), (4, .int g15541), (0, .ref q13813), (1, .int p13814), (2, .int p13815), (3, .int p13816)]) [0, 3, 4, 5, 6, 7] rfl ?_
                  exact ih33_15541 z15597 g15541 (gB_w bz15597 (by decide) (by decide)) (by omega)
                · change G _ _ _ _ _ _ _ (.int 1 :: _) _ _ _
                  refine G_widen (cs' := 0) (sl' := 0) (by omega) (by omega) ?_
                  refine G_istore (L' := [(7, .int 1), (6, .int 0), (5, .int g15540), (4, .int g15541), (0, .ref q13813), (1, .int p13814), (2, .int p13815), (3, .int p13816)]) dr_cX17_mayMerge_65 (Nat.le_of_ble_eq_true rfl) rfl ?_
                  refine G_iload 1 dr_cX17_mayMerge_67 rfl ?_
                  refine G_if_ne 80 dr_cX17_mayMerge_69 (by decide +kernel) (fun hc => absurd hc (by decide)) (fun _ => ?_)
                  refine G_iload 0 dr_cX17_mayMerge_72 rfl ?_
                  refine G_if_ne 80 dr_cX17_mayMerge_74 (by decide +kernel) (fun _ => ?_) (fun hc => absurd hc (by decide))
                  refine G_iload 3 dr_cX17_mayMerge_80 rfl ?_
                  refine G_aload_n 4 dr_cX17_mayMerge_82 rfl ?_
                  refine Gp_get 1 hm13824 he13825 dr_cX17_mayMerge_83 (gk_X17 D I) (Nat.le_of_ble_eq_true rfl) wr_7_75 rfl ?_
                  refine G_iload 2 dr_cX17_mayMerge_86 rfl ?_
                  obtain ⟨q15598, hx15600⟩ : ∃ x, x = γ 11 g15540.toInt.toNat := ⟨_, rfl⟩
                  have ht15599 : rKd γ q15598 36 := by rw [hx15600]; exact (hg13874 _ (show g15540.toInt.toNat < 2000 by omega)).2.1
                  refine Gp_aald 5 hm13871 he13872 dr_cX17_mayMerge_88 rfl rfl (gB_in bg15540' (by decide) (by decide)) ?_
                  rw [show f13873 g15540.toNatClampNeg = some q15598 from (hg13874 _ (show g15540.toInt.toNat < 2000 by omega)).1.trans (by rw [hx15600])]
                  change G _ _ _ _ _ _ _ (.ref q15598 :: _) _ _ _
                  have hm15601 : q15598 ∈ P13811 := RS_m hT ht15599 (by decide)
                  obtain ⟨f15603, he15602, wf15603⟩ := show rk_36 I (F13812 q15598) from RS_o hT ht15599
                  refine Gw_callS (As := [.ref q15598]) (gV_ok D I) (cp_1892_SpillForgeModel_count l hl0 D I P13811 F13812 q15598 f15603 hm15601 he15602) dr_cX17_mayMerge_89 ⟨wr_11_16, wr_1_14, wr_11_18, by decide, rfl, (Nat.le_of_ble_eq_true rfl), (Nat.le_of_ble_eq_true rfl)⟩ wr_11_17 (show 0 + 0 ≤ 0 by first | omega | decide) (show 0 + 0 ≤ 0 by first | omega | decide) (Nat.le_of_ble_eq_true rfl) (fun r15607 w15608 dc15604 ds15605 hp15606 => ?_) (fun _ _ _ _ _ z => z.elim)
                  obtain ⟨o15609, rfl, rfl, hdc, hds⟩ := hp15606
                  have bo15609 := gB_any o15609
                  change G _ _ _ _ _ _ _ (.int o15609 :: _) _ _ _
                  refine G_widen (cs' := 0) (sl' := 0) (by omega) (by omega) ?_
                  refine G_iload 1 dr_cX17_mayMerge_92 rfl ?_
                  refine G_if_eq 106 dr_cX17_mayMerge_94 (by decide +kernel) (fun _ => ?_) (fun hc => absurd hc (by decide))
                  refine G_iconst 0 dr_cX17_mayMerge_106 (by decide +kernel) ?_
                  refine G_isub dr_cX17_mayMerge_107 (G_nam fun z15610 hz15610 => ?_)
                  have ez15610 : z15610.toInt = o15609.toInt - 0 := by rw [gI_sub hz15610 bo15609 (gBl (show Int32.toInt 0 = 0 by decide)) (by decide) (by decide), show Int32.toInt 0 = 0 from by decide]
                  have bz15610 : gB z15610 (-2147483648) 2147483647 := gB_sub (gI_sub hz15610 bo15609 (gBl (show Int32.toInt 0 = 0 by decide)) (by decide) (by decide)) bo15609 (gBl (show Int32.toInt 0 = 0 by decide)) (by decide) (by decide)
                  refine G_iload_n 7 dr_cX17_mayMerge_108 rfl ?_
                  refine G_icmp_lt 116 dr_cX17_mayMerge_109 (by decide +kernel) (fun hc15611 => ?_) (fun hc15611 => ?_)
                  · have r15612 : z15610.toInt < p13816.toInt := gC_lt hc15611
                    have bz15610' : gB z15610 (-2147483648) 2147483646 := ⟨by omega, by omega⟩
                    have bp13816' : gB p13816 (-2147483647) 2147483647 := ⟨by omega, by omega⟩
                    refine G_iconst 0 dr_cX17_mayMerge_116 (by decide +kernel) ?_
                    refine G_iadd dr_cX17_mayMerge_117 (G_nam fun z15613 hz15613 => ?_)
                    have ez15613 : z15613.toInt = g15541.toInt + 0 := by rw [gI_add hz15613 bg15541 (gBl (show Int32.toInt 0 = 0 by decide)) (by decide) (by decide), show Int32.toInt 0 = 0 from by decide]
                    have bz15613 : gB z15613 (-2147483648) 2147483647 := gB_add (gI_add hz15613 bg15541 (gBl (show Int32.toInt 0 = 0 by decide)) (by decide) (by decide)) bg15541 (gBl (show Int32.toInt 0 = 0 by decide)) (by decide) (by decide)
                    refine G_istore (L' := [(4, .int z15613), (7, .int 1), (6, .int 0), (5, .int g15540), (0, .ref q13813), (1, .int p13814), (2, .int p13815), (3, .int p13816)]) dr_cX17_mayMerge_118 (Nat.le_of_ble_eq_true rfl) rfl ?_
                    obtain ⟨z15614, hz15614⟩ : ∃ z : Int32, z = g15540 + Int32.ofInt 1 := ⟨_, rfl⟩
                    have ez15614 : z15614.toInt = g15540.toInt + 1 := gI_inc hz15614 (by decide) bg15540' (by decide) (by decide)
                    have bz15614 : gB z15614 1 2000 := ⟨by omega, by omega⟩
                    refine G_iinc (L' := [(5, .int z15614), (4, .int z15613), (7, .int 1), (6, .int 0), (0, .ref q13813), (1, .int p13814), (2, .int p13815), (3, .int p13816)]) z15614 3 dr_cX17_mayMerge_120 rfl hz15614.symm (Nat.le_of_ble_eq_true rfl) rfl ?_
                    refine G_goto 33 dr_cX17_mayMerge_123 (by decide +kernel) ?_
                    refine G_lv (L' := [(5, .int z15614), (4, .int z15613), (0, .ref q13813), (1, .int p13814), (2, .int p13815), (3, .int p13816)]) [0, 1, 4, 5, 6, 7] rfl ?_
                    exact ih33_15541 z15614 z15613 (gB_w bz15614 (by decide) (by decide)) (by omega)
                  · have r15615 : p13816.toInt ≤ z15610.toInt := gC_nlt hc15611
                    refine G_iconst 1 dr_cX17_mayMerge_112 (by decide +kernel) ?_
                    refine G_goto 117 dr_cX17_mayMerge_113 (by decide +kernel) ?_
                    refine G_iadd dr_cX17_mayMerge_117 (G_nam fun z15616 hz15616 => ?_)
                    have bz15616 : gB z15616 (-2147483648) 2147483647 := gB_any z15616
                    refine G_istore (L' := [(4, .int z15616), (7, .int 1), (6, .int 0), (5, .int g15540), (0, .ref q13813), (1, .int p13814), (2, .int p13815), (3, .int p13816)]) dr_cX17_mayMerge_118 (Nat.le_of_ble_eq_true rfl) rfl ?_
                    obtain ⟨z15617, hz15617⟩ : ∃ z : Int32, z = g15540 + Int32.ofInt 1 := ⟨_, rfl⟩
                    have ez15617 : z15617.toInt = g15540.toInt + 1 := gI_inc hz15617 (by decide) bg15540' (by decide) (by decide)
                    have bz15617 : gB z15617 1 2000 := ⟨by omega, by omega⟩
                    refine G_iinc (L' := [(5, .int z15617), (4, .int z15616), (7, .int 1), (6, .int 0), (0, .ref q13813), (1, .int p13814), (2, .int p13815), (3, .int p13816)]) z15617 3 dr_cX17_mayMerge_120 rfl hz15617.symm (Nat.le_of_ble_eq_true rfl) rfl ?_
                    refine G_goto 33 dr_cX17_mayMerge_123 (by decide +kernel) ?_
                    refine G_lv (L' := [(5, .int z15617), (4, .int z15616), (0, .ref q13813), (1, .int p13814), (2, .int p13815), (3, .int p13816)]) [0, 1, 4, 5, 6, 7] rfl ?_
                    exact ih33_15541 z15617 z15616 (gB_w bz15617 (by decide) (by decide)) (by omega)
              · change G _ _ _ _ _ _ _ (.int 1 :: _) _ _ _
                refine G_widen (cs' := 0) (sl' := 0) (by omega) (by omega) ?_
                refine G_istore (L' := [(6, .int 1), (5, .int g15540), (4, .int g15541), (0, .ref q13813), (1, .int p13814), (2, .int p13815), (3, .int p13816)]) dr_cX17_mayMerge_52 (Nat.le_of_ble_eq_true rfl) rfl ?_
                refine G_aload_n 3 dr_cX17_mayMerge_54 rfl ?_
                refine Gp_get 1 hm13824 he13825 dr_cX17_mayMerge_55 (gk_X17 D I) (Nat.le_of_ble_eq_true rfl) wr_7_75 rfl ?_
                refine G_iload_n 5 dr_cX17_mayMerge_58 rfl ?_
                obtain ⟨q15618, hx15620⟩ : ∃ x, x = γ 11 p13815.toInt.toNat := ⟨_, rfl⟩
                have ht15619 : rKd γ q15618 36 := by rw [hx15620]; exact (hg13874 _ (show p13815.toInt.toNat < 2000 by omega)).2.1
                refine Gp_aald 5 hm13871 he13872 dr_cX17_mayMerge_59 rfl rfl (gB_in bp13815' (by decide) (by decide)) ?_
                rw [show f13873 p13815.toNatClampNeg = some q15618 from (hg13874 _ (show p13815.toInt.toNat < 2000 by omega)).1.trans (by rw [hx15620])]
                change G _ _ _ _ _ _ _ (.ref q15618 :: _) _ _ _
                refine G_iload 1 dr_cX17_mayMerge_60 rfl ?_
                have hm15621 : q15618 ∈ P13811 := RS_m hT ht15619 (by decide)
                obtain ⟨f15623, he15622, wf15623⟩ := show rk_36 I (F13812 q15618) from RS_o hT ht15619
                refine Gw_callS (As := [.ref q15618, .int g15540]) (gV_ok D I) (cp_1838_SpillForgeModel_has l hl0 D I P13811 F13812 q15618 g15540 f15623 hm15621 he15622 (gB_w bg15540' (by decide) (by decide))) dr_cX17_mayMerge_62 ⟨wr_10_203, wr_1_14, wr_10_205, by decide, rfl, (Nat.le_of_ble_eq_true rfl), (Nat.le_of_ble_eq_true rfl)⟩ wr_10_204 (show 0 + 0 ≤ 0 by first | omega | decide) (show 0 + 0 ≤ 0 by first | omega | decide) (Nat.le_of_ble_eq_true rfl) (fun r15627 w15628 dc15624 ds15625 hp15626 => ?_) (fun _ _ _ _ _ z => z.elim)
                rcases hp15626 with ⟨z15629, z15630, rfl, rfl, hdc, hds, r15631, r15632, r15633, r15634⟩ | ⟨z15635, z15636, rfl, rfl, hdc, hds, r15637, r15638, r15639, r15640⟩
                · change G _ _ _ _ _ _ _ (.int 0 :: _) _ _ _
                  refine G_widen (cs' := 0) (sl' := 0) (by omega) (by omega) ?_
                  refine G_istore (L' := [(7, .int 0), (6, .int 1), (5, .int g15540), (4, .int g15541), (0, .ref q13813), (1, .int p13814), (2, .int p13815), (3, .int p13816)]) dr_cX17_mayMerge_65 (Nat.le_of_ble_eq_true rfl) rfl ?_
                  refine G_iload 1 dr_cX17_mayMerge_67 rfl ?_
                  refine G_if_ne 80 dr_cX17_mayMerge_69 (by decide +kernel) (fun _ => ?_) (fun hc => absurd hc (by decide))
                  refine G_iload 3 dr_cX17_mayMerge_80 rfl ?_
                  refine G_aload_n 4 dr_cX17_mayMerge_82 rfl ?_
                  refine Gp_get 1 hm13824 he13825 dr_cX17_mayMerge_83 (gk_X17 D I) (Nat.le_of_ble_eq_true rfl) wr_7_75 rfl ?_
                  refine G_iload 2 dr_cX17_mayMerge_86 rfl ?_
                  obtain ⟨q15642, hx15644⟩ : ∃ x, x = γ 11 g15540.toInt.toNat := ⟨_, rfl⟩
                  have ht15643 : rKd γ q15642 36 := by rw [hx15644]; exact (hg13874 _ (show g15540.toInt.toNat < 2000 by omega)).2.1
                  refine Gp_aald 5 hm13871 he13872 dr_cX17_mayMerge_88 rfl rfl (gB_in bg15540' (by decide) (by decide)) ?_
                  rw [show f13873 g15540.toNatClampNeg = some q15642 from (hg13874 _ (show g15540.toInt.toNat < 2000 by omega)).1.trans (by rw [hx15644])]
                  change G _ _ _ _ _ _ _ (.ref q15642 :: _) _ _ _
                  have hm15645 : q15642 ∈ P13811 := RS_m hT ht15643 (by decide)
                  obtain ⟨f15647, he15646, wf15647⟩ := show rk_36 I (F13812 q15642) from RS_o hT ht15643
                  refine Gw_callS (As := [.ref q15642]) (gV_ok D I) (cp_1892_SpillForgeModel_count l hl0 D I P13811 F13812 q15642 f15647 hm15645 he15646) dr_cX17_mayMerge_89 ⟨wr_11_16, wr_1_14, wr_11_18, by decide, rfl, (Nat.le_of_ble_eq_true rfl), (Nat.le_of_ble_eq_true rfl)⟩ wr_11_17 (show 0 + 0 ≤ 0 by first | omega | decide) (show 0 + 0 ≤ 0 by first | omega | decide) (Nat.le_of_ble_eq_true rfl) (fun r15651 w15652 dc15648 ds15649 hp15650 => ?_) (fun _ _ _ _ _ z => z.elim)
                  obtain ⟨o15653, rfl, rfl, hdc, hds⟩ := hp15650
                  have bo15653 := gB_any o15653
                  change G _ _ _ _ _ _ _ (.int o15653 :: _) _ _ _
                  refine G_widen (cs' := 0) (sl' := 0) (by omega) (by omega) ?_
                  refine G_iload 1 dr_cX17_mayMerge_92 rfl ?_
                  refine G_if_eq 106 dr_cX17_mayMerge_94 (by decide +kernel) (fun hc => absurd hc (by decide)) (fun _ => ?_)
                  refine G_iload 0 dr_cX17_mayMerge_97 rfl ?_
                  refine G_if_eq 106 dr_cX17_mayMerge_99 (by decide +kernel) (fun _ => ?_) (fun hc => absurd hc (by decide))
                  refine G_iconst 0 dr_cX17_mayMerge_106 (by decide +kernel) ?_
                  refine G_isub dr_cX17_mayMerge_107 (G_nam fun z15654 hz15654 => ?_)
                  have ez15654 : z15654.toInt = o15653.toInt - 0 := by rw [gI_sub hz15654 bo15653 (gBl (show Int32.toInt 0 = 0 by decide)) (by decide) (by decide), show Int32.toInt 0 = 0 from by decide]
                  have bz15654 : gB z15654 (-2147483648) 2147483647 := gB_sub (gI_sub hz15654 bo15653 (gBl (show Int32.toInt 0 = 0 by decide)) (by decide) (by decide)) bo15653 (gBl (show Int32.toInt 0 = 0 by decide)) (by decide) (by decide)
                  refine G_iload_n 7 dr_cX17_mayMerge_108 rfl ?_
                  refine G_icmp_lt 116 dr_cX17_mayMerge_109 (by decide +kernel) (fun hc15655 => ?_) (fun hc15655 => ?_)
                  · have r15656 : z15654.toInt < p13816.toInt := gC_lt hc15655
                    have bz15654' : gB z15654 (-2147483648) 2147483646 := ⟨by omega, by omega⟩
                    have bp13816' : gB p13816 (-2147483647) 2147483647 := ⟨by omega, by omega⟩
                    refine G_iconst 0 dr_cX17_mayMerge_116 (by decide +kernel) ?_
                    refine G_iadd dr_cX17_mayMerge_117 (G_nam fun z15657 hz15657 => ?_)
                    have ez15657 : z15657.toInt = g15541.toInt + 0 := by rw [gI_add hz15657 bg15541 (gBl (show Int32.toInt 0 = 0 by decide)) (by decide) (by decide), show Int32.toInt 0 = 0 from by decide]
                    have bz15657 : gB z15657 (-2147483648) 2147483647 := gB_add (gI_add hz15657 bg15541 (gBl (show Int32.toInt 0 = 0 by decide)) (by decide) (by decide)) bg15541 (gBl (show Int32.toInt 0 = 0 by decide)) (by decide) (by decide)
                    refine G_istore (L' := [(4, .int z15657), (7, .int 0), (6, .int 1), (5, .int g15540), (0, .ref q13813), (1, .int p13814), (2, .int p13815), (3, .int p13816)]) dr_cX17_mayMerge_118 (Nat.le_of_ble_eq_true rfl) rfl ?_
                    obtain ⟨z15658, hz15658⟩ : ∃ z : Int32, z = g15540 + Int32.ofInt 1 := ⟨_, rfl⟩
                    have ez15658 : z15658.toInt = g15540.toInt + 1 := gI_inc hz15658 (by decide) bg15540' (by decide) (by decide)
                    have bz15658 : gB z15658 1 2000 := ⟨by omega, by omega⟩
                    refine G_iinc (L' := [(5, .int z15658), (4, .int z15657), (7, .int 0), (6, .int 1), (0, .ref q13813), (1, .int p13814), (2, .int p13815), (3, .int p13816)]) z15658 3 dr_cX17_mayMerge_120 rfl hz15658.symm (Nat.le_of_ble_eq_true rfl) rfl ?_
                    refine G_goto 33 dr_cX17_mayMerge_123 (by decide +kernel) ?_
                    refine G_lv (L' := [(5, .int z15658), (4, .int z15657), (0, .ref q13813), (1, .int p13814), (2, .int p13815), (3, .int p13816)]) [0, 1, 4, 5, 6, 7] rfl ?_
                    exact ih33_15541 z15658 z15657 (gB_w bz15658 (by decide) (by decide)) (by omega)
                  · have r15659 : p13816.toInt ≤ z15654.toInt := gC_nlt hc15655
                    refine G_iconst 1 dr_cX17_mayMerge_112 (by decide +kernel) ?_
                    refine G_goto 117 dr_cX17_mayMerge_113 (by decide +kernel) ?_
                    refine G_iadd dr_cX17_mayMerge_117 (G_nam fun z15660 hz15660 => ?_)
                    have bz15660 : gB z15660 (-2147483648) 2147483647 := gB_any z15660
                    refine G_istore (L' := [(4, .int z15660), (7, .int 0), (6, .int 1), (5, .int g15540), (0, .ref q13813), (1, .int p13814), (2, .int p13815), (3, .int p13816)]) dr_cX17_mayMerge_118 (Nat.le_of_ble_eq_true rfl) rfl ?_
                    obtain ⟨z15661, hz15661⟩ : ∃ z : Int32, z = g15540 + Int32.ofInt 1 := ⟨_, rfl⟩
                    have ez15661 : z15661.toInt = g15540.toInt + 1 := gI_inc hz15661 (by decide) bg15540' (by decide) (by decide)
                    have bz15661 : gB z15661 1 2000 := ⟨by omega, by omega⟩
                    refine G_iinc (L' := [(5, .int z15661), (4, .int z15660), (7, .int 0), (6, .int 1), (0, .ref q13813), (1, .int p13814), (2, .int p13815), (3, .int p13816)]) z15661 3 dr_cX17_mayMerge_120 rfl hz15661.symm (Nat.le_of_ble_eq_true rfl) rfl ?_
                    refine G_goto 33 dr_cX17_mayMerge_123 (by decide +kernel) ?_
                    refine G_lv (L' := [(5, .int z15661), (4, .int z15660), (0, .ref q13813), (1, .int p13814), (2, .int p13815), (3, .int p13816)]) [0, 1, 4, 5, 6, 7] rfl ?_
                    exact ih33_15541 z15661 z15660 (gB_w bz15661 (by decide) (by decide)) (by omega)
                · change G _ _ _ _ _ _ _ (.int 1 :: _) _ _ _
                  refine G_widen (cs' := 0) (sl' := 0) (by omega) (by omega) ?_
                  refine G_istore (L' := [(7, .int 1), (6, .int 1), (5, .int g15540), (4, .int g15541), (0, .ref q13813), (1, .int p13814), (2, .int p13815), (3, .int p13816)]) dr_cX17_mayMerge_65 (Nat.le_of_ble_eq_true rfl) rfl ?_
                  refine G_iload 1 dr_cX17_mayMerge_67 rfl ?_
                  refine G_if_ne 80 dr_cX17_mayMerge_69 (by decide +kernel) (fun _ => ?_) (fun hc => absurd hc (by decide))
                  refine G_iload 3 dr_cX17_mayMerge_80 rfl ?_
                  refine G_aload_n 4 dr_cX17_mayMerge_82 rfl ?_
                  refine Gp_get 1 hm13824 he13825 dr_cX17_mayMerge_83 (gk_X17 D I) (Nat.le_of_ble_eq_true rfl) wr_7_75 rfl ?_
                  refine G_iload 2 dr_cX17_mayMerge_86 rfl ?_
                  obtain ⟨q15662, hx15664⟩ : ∃ x, x = γ 11 g15540.toInt.toNat := ⟨_, rfl⟩
                  have ht15663 : rKd γ q15662 36 := by rw [hx15664]; exact (hg13874 _ (show g15540.toInt.toNat < 2000 by omega)).2.1
                  refine Gp_aald 5 hm13871 he13872 dr_cX17_mayMerge_88 rfl rfl (gB_in bg15540' (by decide) (by decide)) ?_
                  rw [show f13873 g15540.toNatClampNeg = some q15662 from (hg13874 _ (show g15540.toInt.toNat < 2000 by omega)).1.trans (by rw [hx15664])]
                  change G _ _ _ _ _ _ _ (.ref q15662 :: _) _ _ _
                  have hm15665 : q15662 ∈ P13811 := RS_m hT ht15663 (by decide)
                  obtain ⟨f15667, he15666, wf15667⟩ := show rk_36 I (F13812 q15662) from RS_o hT ht15663
                  refine Gw_callS (As := [.ref q15662]) (gV_ok D I) (cp_1892_SpillForgeModel_count l hl0 D I P13811 F13812 q15662 f15667 hm15665 he15666) dr_cX17_mayMerge_89 ⟨wr_11_16, wr_1_14, wr_11_18, by decide, rfl, (Nat.le_of_ble_eq_true rfl), (Nat.le_of_ble_eq_true rfl)⟩ wr_11_17 (show 0 + 0 ≤ 0 by first | omega | decide) (show 0 + 0 ≤ 0 by first | omega | decide) (Nat.le_of_ble_eq_true rfl) (fun r15671 w15672 dc15668 ds15669 hp15670 => ?_) (fun _ _ _ _ _ z => z.elim)
                  obtain ⟨o15673, rfl, rfl, hdc, hds⟩ := hp15670
                  have bo15673 := gB_any o15673
                  change G _ _ _ _ _ _ _ (.int o15673 :: _) _ _ _
                  refine G_widen (cs' := 0) (sl' := 0) (by omega) (by omega) ?_
                  refine G_iload 1 dr_cX17_mayMerge_92 rfl ?_
                  refine G_if_eq 106 dr_cX17_mayMerge_94 (by decide +kernel) (fun hc => absurd hc (by decide)) (fun _ => ?_)
                  refine G_iload 0 dr_cX17_mayMerge_97 rfl ?_
                  refine G_if_eq 106 dr_cX17_mayMerge_99 (by decide +kernel) (fun hc => absurd hc (by decide)) (fun _ => ?_)
                  refine G_iconst 1 dr_cX17_mayMerge_102 (by decide +kernel) ?_
                  refine G_goto 107 dr_cX17_mayMerge_103 (by decide +kernel) ?_
                  refine G_isub dr_cX17_mayMerge_107 (G_nam fun z15674 hz15674 => ?_)
                  have bz15674 : gB z15674 (-2147483648) 2147483647 := gB_any z15674
                  refine G_iload_n 7 dr_cX17_mayMerge_108 rfl ?_
                  refine G_icmp_lt 116 dr_cX17_mayMerge_109 (by decide +kernel) (fun hc15675 => ?_) (fun hc15675 => ?_)
                  · have r15676 : z15674.toInt < p13816.toInt := gC_lt hc15675
                    have bz15674' : gB z15674 (-2147483648) 2147483646 := ⟨by omega, by omega⟩
                    have bp13816' : gB p13816 (-2147483647) 2147483647 := ⟨by omega, by omega⟩
                    refine G_iconst 0 dr_cX17_mayMerge_116 (by decide +kernel) ?_
                    refine G_iadd dr_cX17_mayMerge_117 (G_nam fun z15677 hz15677 => ?_)
                    have ez15677 : z15677.toInt = g15541.toInt + 0 := by rw [gI_add hz15677 bg15541 (gBl (show Int32.toInt 0 = 0 by decide)) (by decide) (by decide), show Int32.toInt 0 = 0 from by decide]
                    have bz15677 : gB z15677 (-2147483648) 2147483647 := gB_add (gI_add hz15677 bg15541 (gBl (show Int32.toInt 0 = 0 by decide)) (by decide) (by decide)) bg15541 (gBl (show Int32.toInt 0 = 0 by decide)) (by decide) (by decide)
                    refine G_istore (L' := [(4, .int z15677), (7, .int 1), (6, .int 1), (5, .int g15540), (0, .ref q13813), (1, .int p13814), (2, .int p13815), (3, .int p13816)]) dr_cX17_mayMerge_118 (Nat.le_of_ble_eq_true rfl) rfl ?_
                    obtain ⟨z15678, hz15678⟩ : ∃ z : Int32, z = g15540 + Int32.ofInt 1 := ⟨_, rfl⟩
                    have ez15678 : z15678.toInt = g15540.toInt + 1 := gI_inc hz15678 (by decide) bg15540' (by decide) (by decide)
                    have bz15678 : gB z15678 1 2000 := ⟨by omega, by omega⟩
                    refine G_iinc (L' := [(5, .int z15678), (4, .int z15677), (7, .int 1), (6, .int 1), (0, .ref q13813), (1, .int p13814), (2, .int p13815), (3, .int p13816)]) z15678 3 dr_cX17_mayMerge_120 rfl hz15678.symm (Nat.le_of_ble_eq_true rfl) rfl ?_
                    refine G_goto 33 dr_cX17_mayMerge_123 (by decide +kernel) ?_
                    refine G_lv (L' := [(5, .int z15678), (4, .int z15677), (0, .ref q13813), (1, .int p13814), (2, .int p13815), (3, .int p13816)]) [0, 1, 4, 5, 6, 7] rfl ?_
                    exact ih33_15541 z15678 z15677 (gB_w bz15678 (by decide) (by decide)) (by omega)
                  · have r15679 : p13816.toInt ≤ z15674.toInt := gC_nlt hc15675
                    refine G_iconst 1 dr_cX17_mayMerge_112 (by decide +kernel) ?_
                    refine G_goto 117 dr_cX17_mayMerge_113 (by decide +kernel) ?_
                    refine G_iadd dr_cX17_mayMerge_117 (G_nam fun z15680 hz15680 => ?_)
                    have bz15680 : gB z15680 (-2147483648) 2147483647 := gB_any z15680
                    refine G_istore (L' := [(4, .int z15680), (7, .int 1), (6, .int 1), (5, .int g15540), (0, .ref q13813), (1, .int p13814), (2, .int p13815), (3, .int p13816)]) dr_cX17_mayMerge_118 (Nat.le_of_ble_eq_true rfl) rfl ?_
                    obtain ⟨z15681, hz15681⟩ : ∃ z : Int32, z = g15540 + Int32.ofInt 1 := ⟨_, rfl⟩
                    have ez15681 : z15681.toInt = g15540.toInt + 1 := gI_inc hz15681 (by decide) bg15540' (by decide) (by decide)
                    have bz15681 : gB z15681 1 2000 := ⟨by omega, by omega⟩
                    refine G_iinc (L' := [(5, .int z15681), (4, .int z15680), (7, .int 1), (6, .int 1), (0, .ref q13813), (1, .int p13814), (2, .int p13815), (3, .int p13816)]) z15681 3 dr_cX17_mayMerge_120 rfl hz15681.symm (Nat.le_of_ble_eq_true rfl) rfl ?_
                    refine G_goto 33 dr_cX17_mayMerge_123 (by decide +kernel) ?_
                    refine G_lv (L' := [(5, .int z15681), (4, .int z15680), (0, .ref q13813), (1, .int p13814), (2, .int p13815), (3, .int p13816)]) [0, 1, 4, 5, 6, 7] rfl ?_
                    exact ih33_15541 z15681 z15680 (gB_w bz15681 (by decide) (by decide)) (by omega)
        exact hlp33_15541 (((2001 : Int) - 0).toNat + 1) 0 0 (gB_w (gBl (show Int32.toInt 0 = 0 by decide)) (by decide) (by decide)) (Nat.lt_succ_self _)
      · change G _ _ _ _ _ _ _ (.int 1 :: _) _ _ _
        refine G_widen (cs' := 0) (sl' := 0) (by omega) (by omega) ?_
        refine G_if_eq 27 dr_cX17_mayMerge_22 (by decide +kernel) (fun hc => absurd hc (by decide)) (fun _ => ?_)
        refine G_iconst 0 dr_cX17_mayMerge_25 (by decide +kernel) ?_
        exact G_zretA FieldType.boolean dr_cX17_mayMerge_26 rfl rfl (Nat.le_of_ble_eq_true rfl) (Nat.le_of_ble_eq_true rfl) ⟨0, rfl, rfl, (Nat.le_of_ble_eq_true rfl), (Nat.le_of_ble_eq_true rfl), (gB_w (gBl (show Int32.toInt 0 = 0 by decide)) (by decide) (by decide))⟩
