theorem d_cX6_walk_0 : decode cX6_walk 0 = .ok (.lload_n 1, 1) := by decide +kernel
theorem d_cX6_walk_1 : decode cX6_walk 1 = .ok (.lload_n 3, 1) := by decide +kernel
theorem d_cX6_walk_2 : decode cX6_walk 2 = .ok (.ldc2_w 62, 3) := by decide +kernel
theorem w_4_7 : (Jvm.Cond.constantLong "SpillForge$Loops" (62 : Nat) (-1 : Int64)) ∈ gw := gw_4 7 rfl rfl
theorem d_cX6_walk_5 : decode cX6_walk 5 = .ok (.lxor, 1) := by decide +kernel
theorem d_cX6_walk_6 : decode cX6_walk 6 = .ok (.land, 1) := by decide +kernel
theorem d_cX6_walk_7 : decode cX6_walk 7 = .ok (.lstore 5, 2) := by decide +kernel
theorem d_cX6_walk_9 : decode cX6_walk 9 = .ok (.iconst 0, 1) := by decide +kernel
theorem d_cX6_walk_10 : decode cX6_walk 10 = .ok (.istore 7, 2) := by decide +kernel
theorem d_cX6_walk_12 : decode cX6_walk 12 = .ok (.iload 7, 2) := by decide +kernel
theorem d_cX6_walk_14 : decode cX6_walk 14 = .ok (.aload_n 0, 1) := by decide +kernel
theorem d_cX6_walk_15 : decode cX6_walk 15 = .ok (.arraylength, 1) := by decide +kernel
theorem d_cX6_walk_16 : decode cX6_walk 16 = .ok (.if_icmp .ge 71, 3) := by decide +kernel
theorem d_cX6_walk_87 : decode cX6_walk 87 = .ok (.lload 5, 2) := by decide +kernel
theorem d_cX6_walk_89 : decode cX6_walk 89 = .ok (.lreturn, 1) := by decide +kernel
theorem d_cX6_walk_19 : decode cX6_walk 19 = .ok (.lload 5, 2) := by decide +kernel
theorem d_cX6_walk_21 : decode cX6_walk 21 = .ok (.lstore 8, 2) := by decide +kernel
theorem d_cX6_walk_23 : decode cX6_walk 23 = .ok (.iconst 0, 1) := by decide +kernel
theorem d_cX6_walk_24 : decode cX6_walk 24 = .ok (.istore 10, 2) := by decide +kernel
theorem d_cX6_walk_26 : decode cX6_walk 26 = .ok (.iload 10, 2) := by decide +kernel
theorem d_cX6_walk_28 : decode cX6_walk 28 = .ok (.aload_n 0, 1) := by decide +kernel
theorem d_cX6_walk_29 : decode cX6_walk 29 = .ok (.arraylength, 1) := by decide +kernel
theorem d_cX6_walk_30 : decode cX6_walk 30 = .ok (.if_icmp .ge 36, 3) := by decide +kernel
theorem d_cX6_walk_66 : decode cX6_walk 66 = .ok (.lload 8, 2) := by decide +kernel
theorem d_cX6_walk_68 : decode cX6_walk 68 = .ok (.lload 5, 2) := by decide +kernel
theorem d_cX6_walk_70 : decode cX6_walk 70 = .ok (.lcmp, 1) := by decide +kernel
theorem d_cX6_walk_71 : decode cX6_walk 71 = .ok (.ifCond .ne 6, 3) := by decide +kernel
theorem d_cX6_walk_77 : decode cX6_walk 77 = .ok (.lload 8, 2) := by decide +kernel
theorem d_cX6_walk_79 : decode cX6_walk 79 = .ok (.lstore 5, 2) := by decide +kernel
theorem d_cX6_walk_81 : decode cX6_walk 81 = .ok (.iinc 7 1, 3) := by decide +kernel
theorem d_cX6_walk_84 : decode cX6_walk 84 = .ok (.goto (-72), 3) := by decide +kernel
theorem d_cX6_walk_74 : decode cX6_walk 74 = .ok (.lload 5, 2) := by decide +kernel
theorem d_cX6_walk_76 : decode cX6_walk 76 = .ok (.lreturn, 1) := by decide +kernel
theorem d_cX6_walk_33 : decode cX6_walk 33 = .ok (.lload 5, 2) := by decide +kernel
theorem d_cX6_walk_35 : decode cX6_walk 35 = .ok (.iload 10, 2) := by decide +kernel
theorem d_cX6_walk_37 : decode cX6_walk 37 = .ok (.lshr, 1) := by decide +kernel
theorem d_cX6_walk_38 : decode cX6_walk 38 = .ok (.lconst 1, 1) := by decide +kernel
theorem d_cX6_walk_39 : decode cX6_walk 39 = .ok (.land, 1) := by decide +kernel
theorem d_cX6_walk_40 : decode cX6_walk 40 = .ok (.lconst 0, 1) := by decide +kernel
theorem d_cX6_walk_41 : decode cX6_walk 41 = .ok (.lcmp, 1) := by decide +kernel
theorem d_cX6_walk_42 : decode cX6_walk 42 = .ok (.ifCond .eq 18, 3) := by decide +kernel
theorem d_cX6_walk_60 : decode cX6_walk 60 = .ok (.iinc 10 1, 3) := by decide +kernel
theorem d_cX6_walk_63 : decode cX6_walk 63 = .ok (.goto (-37), 3) := by decide +kernel
theorem d_cX6_walk_45 : decode cX6_walk 45 = .ok (.lload 8, 2) := by decide +kernel
theorem d_cX6_walk_47 : decode cX6_walk 47 = .ok (.aload_n 0, 1) := by decide +kernel
theorem d_cX6_walk_48 : decode cX6_walk 48 = .ok (.iload 10, 2) := by decide +kernel
theorem d_cX6_walk_50 : decode cX6_walk 50 = .ok (.laload, 1) := by decide +kernel
theorem d_cX6_walk_51 : decode cX6_walk 51 = .ok (.lload_n 3, 1) := by decide +kernel
theorem d_cX6_walk_52 : decode cX6_walk 52 = .ok (.ldc2_w 62, 3) := by decide +kernel
theorem d_cX6_walk_55 : decode cX6_walk 55 = .ok (.lxor, 1) := by decide +kernel
theorem d_cX6_walk_56 : decode cX6_walk 56 = .ok (.land, 1) := by decide +kernel
theorem d_cX6_walk_57 : decode cX6_walk 57 = .ok (.lor, 1) := by decide +kernel
theorem d_cX6_walk_58 : decode cX6_walk 58 = .ok (.lstore 8, 2) := by decide +kernel
theorem d_cX6_link_0 : decode cX6_link 0 = .ok (.iload_n 2, 1) := by decide +kernel
theorem d_cX6_link_1 : decode cX6_link 1 = .ok (.ifCond .lt 33, 3) := by decide +kernel
theorem d_cX6_link_34 : decode cX6_link 34 = .ok (.return_, 1) := by decide +kernel
theorem d_cX6_link_4 : decode cX6_link 4 = .ok (.iload_n 2, 1) := by decide +kernel
theorem d_cX6_link_5 : decode cX6_link 5 = .ok (.bipush 40, 2) := by decide +kernel
theorem d_cX6_link_7 : decode cX6_link 7 = .ok (.if_icmp .ge 27, 3) := by decide +kernel
theorem d_cX6_link_10 : decode cX6_link 10 = .ok (.aload_n 0, 1) := by decide +kernel
theorem d_cX6_link_11 : decode cX6_link 11 = .ok (.getfield 9, 3) := by decide +kernel
theorem w_1_233 : (Jvm.Cond.fieldLink "SpillForge$Loops" (9 : Nat) "SpillForge$Loops" "goals" "[J") ∈ gw := gw_1 233 rfl rfl
theorem d_cX6_link_14 : decode cX6_link 14 = .ok (.iload_n 1, 1) := by decide +kernel
theorem d_cX6_link_15 : decode cX6_link 15 = .ok (.dup2, 1) := by decide +kernel
theorem d_cX6_link_16 : decode cX6_link 16 = .ok (.laload, 1) := by decide +kernel
theorem d_cX6_link_17 : decode cX6_link 17 = .ok (.lconst 1, 1) := by decide +kernel
theorem d_cX6_link_18 : decode cX6_link 18 = .ok (.iload_n 2, 1) := by decide +kernel
theorem d_cX6_link_19 : decode cX6_link 19 = .ok (.lshl, 1) := by decide +kernel
theorem d_cX6_link_20 : decode cX6_link 20 = .ok (.lor, 1) := by decide +kernel
theorem d_cX6_link_21 : decode cX6_link 21 = .ok (.lastore, 1) := by decide +kernel
theorem d_cX6_link_22 : decode cX6_link 22 = .ok (.aload_n 0, 1) := by decide +kernel
theorem d_cX6_link_23 : decode cX6_link 23 = .ok (.getfield 15, 3) := by decide +kernel
theorem w_1_234 : (Jvm.Cond.fieldLink "SpillForge$Loops" (15 : Nat) "SpillForge$Loops" "sources" "[J") ∈ gw := gw_1 234 rfl rfl
theorem d_cX6_link_26 : decode cX6_link 26 = .ok (.iload_n 2, 1) := by decide +kernel
theorem d_cX6_link_27 : decode cX6_link 27 = .ok (.dup2, 1) := by decide +kernel
theorem d_cX6_link_28 : decode cX6_link 28 = .ok (.laload, 1) := by decide +kernel
theorem d_cX6_link_29 : decode cX6_link 29 = .ok (.lconst 1, 1) := by decide +kernel
theorem d_cX6_link_30 : decode cX6_link 30 = .ok (.iload_n 1, 1) := by decide +kernel
theorem d_cX6_link_31 : decode cX6_link 31 = .ok (.lshl, 1) := by decide +kernel
theorem d_cX6_link_32 : decode cX6_link 32 = .ok (.lor, 1) := by decide +kernel
theorem d_cX6_link_33 : decode cX6_link 33 = .ok (.lastore, 1) := by decide +kernel
theorem d_cX6_loopOf_0 : decode cX6_loopOf 0 = .ok (.lconst 1, 1) := by decide +kernel
theorem d_cX6_loopOf_1 : decode cX6_loopOf 1 = .ok (.iload_n 1, 1) := by decide +kernel
theorem d_cX6_loopOf_2 : decode cX6_loopOf 2 = .ok (.lshl, 1) := by decide +kernel
theorem d_cX6_loopOf_3 : decode cX6_loopOf 3 = .ok (.lstore 4, 2) := by decide +kernel
theorem d_cX6_loopOf_5 : decode cX6_loopOf 5 = .ok (.aload_n 0, 1) := by decide +kernel
theorem d_cX6_loopOf_6 : decode cX6_loopOf 6 = .ok (.getfield 9, 3) := by decide +kernel
theorem d_cX6_loopOf_9 : decode cX6_loopOf 9 = .ok (.lconst 1, 1) := by decide +kernel
theorem d_cX6_loopOf_10 : decode cX6_loopOf 10 = .ok (.lload 4, 2) := by decide +kernel
theorem d_cX6_loopOf_12 : decode cX6_loopOf 12 = .ok (.invokestatic 50, 3) := by decide +kernel
theorem w_4_4 : (Jvm.Cond.methodLink "SpillForge$Loops" (50 : Nat) ({ cls := "SpillForge$Loops", name := "walk", desc := "([JJJ)J" } : Jvm.MethodName)) ∈ gw := gw_4 4 rfl rfl
theorem w_1_7 : (Jvm.Cond.initialized "SpillForge$Loops") ∈ gw := gw_1 7 rfl rfl
theorem w_4_6 : (Jvm.Cond.code ({ cls := "SpillForge$Loops", name := "walk", desc := "([JJJ)J" } : Jvm.MethodName) prog_8_method_8_code (11 : Nat) (Option.some Jvm.ClassFile.FieldType.long)) ∈ gw := gw_4 6 rfl rfl
theorem w_4_5 : (Jvm.Cond.static ({ cls := "SpillForge$Loops", name := "walk", desc := "([JJJ)J" } : Jvm.MethodName)) ∈ gw := gw_4 5 rfl rfl
theorem d_cX6_loopOf_15 : decode cX6_loopOf 15 = .ok (.lstore 6, 2) := by decide +kernel
theorem d_cX6_loopOf_17 : decode cX6_loopOf 17 = .ok (.aload_n 0, 1) := by decide +kernel
theorem d_cX6_loopOf_18 : decode cX6_loopOf 18 = .ok (.getfield 15, 3) := by decide +kernel
theorem d_cX6_loopOf_21 : decode cX6_loopOf 21 = .ok (.iload_n 1, 1) := by decide +kernel
theorem d_cX6_loopOf_22 : decode cX6_loopOf 22 = .ok (.laload, 1) := by decide +kernel
theorem d_cX6_loopOf_23 : decode cX6_loopOf 23 = .ok (.lload_n 2, 1) := by decide +kernel
theorem d_cX6_loopOf_24 : decode cX6_loopOf 24 = .ok (.land, 1) := by decide +kernel
theorem d_cX6_loopOf_25 : decode cX6_loopOf 25 = .ok (.lload 6, 2) := by decide +kernel
theorem d_cX6_loopOf_27 : decode cX6_loopOf 27 = .ok (.ldc2_w 62, 3) := by decide +kernel
theorem d_cX6_loopOf_30 : decode cX6_loopOf 30 = .ok (.lxor, 1) := by decide +kernel
theorem d_cX6_loopOf_31 : decode cX6_loopOf 31 = .ok (.land, 1) := by decide +kernel
theorem d_cX6_loopOf_32 : decode cX6_loopOf 32 = .ok (.lstore 8, 2) := by decide +kernel
theorem d_cX6_loopOf_34 : decode cX6_loopOf 34 = .ok (.lload 8, 2) := by decide +kernel
theorem d_cX6_loopOf_36 : decode cX6_loopOf 36 = .ok (.lconst 0, 1) := by decide +kernel
theorem d_cX6_loopOf_37 : decode cX6_loopOf 37 = .ok (.lcmp, 1) := by decide +kernel
theorem d_cX6_loopOf_38 : decode cX6_loopOf 38 = .ok (.ifCond .ne 7, 3) := by decide +kernel
theorem d_cX6_loopOf_45 : decode cX6_loopOf 45 = .ok (.lload 4, 2) := by decide +kernel
theorem d_cX6_loopOf_47 : decode cX6_loopOf 47 = .ok (.aload_n 0, 1) := by decide +kernel
theorem d_cX6_loopOf_48 : decode cX6_loopOf 48 = .ok (.getfield 15, 3) := by decide +kernel
theorem d_cX6_loopOf_51 : decode cX6_loopOf 51 = .ok (.lload 8, 2) := by decide +kernel
theorem d_cX6_loopOf_53 : decode cX6_loopOf 53 = .ok (.lload 4, 2) := by decide +kernel
theorem d_cX6_loopOf_55 : decode cX6_loopOf 55 = .ok (.lload_n 2, 1) := by decide +kernel
theorem d_cX6_loopOf_56 : decode cX6_loopOf 56 = .ok (.ldc2_w 62, 3) := by decide +kernel
theorem d_cX6_loopOf_59 : decode cX6_loopOf 59 = .ok (.lxor, 1) := by decide +kernel
theorem d_cX6_loopOf_60 : decode cX6_loopOf 60 = .ok (.lor, 1) := by decide +kernel
theorem d_cX6_loopOf_61 : decode cX6_loopOf 61 = .ok (.invokestatic 50, 3) := by decide +kernel
theorem d_cX6_loopOf_64 : decode cX6_loopOf 64 = .ok (.lor, 1) := by decide +kernel
theorem d_cX6_loopOf_65 : decode cX6_loopOf 65 = .ok (.lreturn, 1) := by decide +kernel
theorem d_cX6_loopOf_41 : decode cX6_loopOf 41 = .ok (.lconst 0, 1) := by decide +kernel
theorem d_cX6_loopOf_42 : decode cX6_loopOf 42 = .ok (.goto 23, 3) := by decide +kernel
theorem d_cX6_deepen_0 : decode cX6_deepen 0 = .ok (.iconst 0, 1) := by decide +kernel
theorem d_cX6_deepen_1 : decode cX6_deepen 1 = .ok (.istore_n 3, 1) := by decide +kernel
theorem d_cX6_deepen_2 : decode cX6_deepen 2 = .ok (.iload_n 3, 1) := by decide +kernel
theorem d_cX6_deepen_3 : decode cX6_deepen 3 = .ok (.bipush 40, 2) := by decide +kernel
theorem d_cX6_deepen_5 : decode cX6_deepen 5 = .ok (.if_icmp .ge 39, 3) := by decide +kernel
theorem d_cX6_deepen_44 : decode cX6_deepen 44 = .ok (.return_, 1) := by decide +kernel
theorem d_cX6_deepen_8 : decode cX6_deepen 8 = .ok (.lload_n 1, 1) := by decide +kernel
theorem d_cX6_deepen_9 : decode cX6_deepen 9 = .ok (.iload_n 3, 1) := by decide +kernel
theorem d_cX6_deepen_10 : decode cX6_deepen 10 = .ok (.lshr, 1) := by decide +kernel
theorem d_cX6_deepen_11 : decode cX6_deepen 11 = .ok (.lconst 1, 1) := by decide +kernel
theorem d_cX6_deepen_12 : decode cX6_deepen 12 = .ok (.land, 1) := by decide +kernel
theorem d_cX6_deepen_13 : decode cX6_deepen 13 = .ok (.lconst 0, 1) := by decide +kernel
theorem d_cX6_deepen_14 : decode cX6_deepen 14 = .ok (.lcmp, 1) := by decide +kernel
theorem d_cX6_deepen_15 : decode cX6_deepen 15 = .ok (.ifCond .eq 23, 3) := by decide +kernel
theorem d_cX6_deepen_38 : decode cX6_deepen 38 = .ok (.iinc 3 1, 3) := by decide +kernel
theorem d_cX6_deepen_41 : decode cX6_deepen 41 = .ok (.goto (-39), 3) := by decide +kernel
theorem d_cX6_deepen_18 : decode cX6_deepen 18 = .ok (.aload_n 0, 1) := by decide +kernel
theorem d_cX6_deepen_19 : decode cX6_deepen 19 = .ok (.getfield 18, 3) := by decide +kernel
theorem w_1_235 : (Jvm.Cond.fieldLink "SpillForge$Loops" (18 : Nat) "SpillForge$Loops" "depth" "[I") ∈ gw := gw_1 235 rfl rfl
theorem d_cX6_deepen_22 : decode cX6_deepen 22 = .ok (.iload_n 3, 1) := by decide +kernel
theorem d_cX6_deepen_23 : decode cX6_deepen 23 = .ok (.iaload, 1) := by decide +kernel
theorem d_cX6_deepen_24 : decode cX6_deepen 24 = .ok (.iconst 4, 1) := by decide +kernel
theorem d_cX6_deepen_25 : decode cX6_deepen 25 = .ok (.if_icmp .ge 13, 3) := by decide +kernel
theorem d_cX6_deepen_28 : decode cX6_deepen 28 = .ok (.aload_n 0, 1) := by decide +kernel
theorem d_cX6_deepen_29 : decode cX6_deepen 29 = .ok (.getfield 18, 3) := by decide +kernel
theorem d_cX6_deepen_32 : decode cX6_deepen 32 = .ok (.iload_n 3, 1) := by decide +kernel
theorem d_cX6_deepen_33 : decode cX6_deepen 33 = .ok (.dup2, 1) := by decide +kernel
theorem d_cX6_deepen_34 : decode cX6_deepen 34 = .ok (.iaload, 1) := by decide +kernel
theorem d_cX6_deepen_35 : decode cX6_deepen 35 = .ok (.iconst 1, 1) := by decide +kernel
theorem d_cX6_deepen_36 : decode cX6_deepen 36 = .ok (.iadd, 1) := by decide +kernel
theorem d_cX6_deepen_37 : decode cX6_deepen 37 = .ok (.iastore, 1) := by decide +kernel
theorem d_cX6_find_0 : decode cX6_find 0 = .ok (.aload_n 0, 1) := by decide +kernel
theorem d_cX6_find_1 : decode cX6_find 1 = .ok (.getfield 9, 3) := by decide +kernel
theorem d_cX6_find_4 : decode cX6_find 4 = .ok (.lconst 0, 1) := by decide +kernel
theorem d_cX6_find_5 : decode cX6_find 5 = .ok (.invokestatic 25, 3) := by decide +kernel
theorem w_3_234 : (Jvm.Cond.methodLink "SpillForge$Loops" (25 : Nat) ({ cls := "java/util/Arrays", name := "fill", desc := "([JJ)V" } : Jvm.MethodName)) ∈ gw := gw_3 234 rfl rfl
theorem w_1_30 : (Jvm.Cond.initialized "java/util/Arrays") ∈ gw := gw_1 30 rfl rfl
theorem w_3_236 : (Jvm.Cond.code ({ cls := "java/util/Arrays", name := "fill", desc := "([JJ)V" } : Jvm.MethodName) prog_44_method_101_code (5 : Nat) (Option.none : Option Jvm.ClassFile.FieldType)) ∈ gw := gw_3 236 rfl rfl
theorem w_3_235 : (Jvm.Cond.static ({ cls := "java/util/Arrays", name := "fill", desc := "([JJ)V" } : Jvm.MethodName)) ∈ gw := gw_3 235 rfl rfl
theorem d_cX6_find_8 : decode cX6_find 8 = .ok (.aload_n 0, 1) := by decide +kernel
theorem d_cX6_find_9 : decode cX6_find 9 = .ok (.getfield 15, 3) := by decide +kernel
theorem d_cX6_find_12 : decode cX6_find 12 = .ok (.lconst 0, 1) := by decide +kernel
theorem d_cX6_find_13 : decode cX6_find 13 = .ok (.invokestatic 25, 3) := by decide +kernel
theorem d_cX6_find_16 : decode cX6_find 16 = .ok (.aload_n 0, 1) := by decide +kernel
theorem d_cX6_find_17 : decode cX6_find 17 = .ok (.getfield 18, 3) := by decide +kernel
theorem d_cX6_find_20 : decode cX6_find 20 = .ok (.iconst 0, 1) := by decide +kernel
theorem d_cX6_find_21 : decode cX6_find 21 = .ok (.invokestatic 31, 3) := by decide +kernel
theorem w_3_237 : (Jvm.Cond.methodLink "SpillForge$Loops" (31 : Nat) ({ cls := "java/util/Arrays", name := "fill", desc := "([II)V" } : Jvm.MethodName)) ∈ gw := gw_3 237 rfl rfl
theorem w_3_239 : (Jvm.Cond.code ({ cls := "java/util/Arrays", name := "fill", desc := "([II)V" } : Jvm.MethodName) prog_44_method_103_code (4 : Nat) (Option.none : Option Jvm.ClassFile.FieldType)) ∈ gw := gw_3 239 rfl rfl
theorem w_3_238 : (Jvm.Cond.static ({ cls := "java/util/Arrays", name := "fill", desc := "([II)V" } : Jvm.MethodName)) ∈ gw := gw_3 238 rfl rfl
theorem d_cX6_find_24 : decode cX6_find 24 = .ok (.iconst 0, 1) := by decide +kernel
theorem d_cX6_find_25 : decode cX6_find 25 = .ok (.istore_n 2, 1) := by decide +kernel
theorem d_cX6_find_26 : decode cX6_find 26 = .ok (.iload_n 2, 1) := by decide +kernel
theorem d_cX6_find_27 : decode cX6_find 27 = .ok (.aload_n 1, 1) := by decide +kernel
theorem d_cX6_find_28 : decode cX6_find 28 = .ok (.getfield 34, 3) := by decide +kernel
theorem d_cX6_find_31 : decode cX6_find 31 = .ok (.if_icmp .ge 31, 3) := by decide +kernel
theorem d_cX6_find_62 : decode cX6_find 62 = .ok (.aload_n 0, 1) := by decide +kernel
theorem d_cX6_find_63 : decode cX6_find 63 = .ok (.getfield 9, 3) := by decide +kernel
theorem d_cX6_find_66 : decode cX6_find 66 = .ok (.lconst 1, 1) := by decide +kernel
theorem d_cX6_find_67 : decode cX6_find 67 = .ok (.lconst 0, 1) := by decide +kernel
theorem d_cX6_find_68 : decode cX6_find 68 = .ok (.invokestatic 50, 3) := by decide +kernel
theorem d_cX6_find_71 : decode cX6_find 71 = .ok (.lstore_n 2, 1) := by decide +kernel
theorem d_cX6_find_72 : decode cX6_find 72 = .ok (.iconst 0, 1) := by decide +kernel
theorem d_cX6_find_73 : decode cX6_find 73 = .ok (.istore 4, 2) := by decide +kernel
theorem d_cX6_find_75 : decode cX6_find 75 = .ok (.iload 4, 2) := by decide +kernel
theorem d_cX6_find_77 : decode cX6_find 77 = .ok (.aload_n 1, 1) := by decide +kernel
theorem d_cX6_find_78 : decode cX6_find 78 = .ok (.getfield 34, 3) := by decide +kernel
theorem d_cX6_find_81 : decode cX6_find 81 = .ok (.if_icmp .ge 20, 3) := by decide +kernel
theorem d_cX6_find_101 : decode cX6_find 101 = .ok (.return_, 1) := by decide +kernel
theorem d_cX6_find_84 : decode cX6_find 84 = .ok (.aload_n 0, 1) := by decide +kernel
theorem d_cX6_find_85 : decode cX6_find 85 = .ok (.aload_n 0, 1) := by decide +kernel
theorem d_cX6_find_86 : decode cX6_find 86 = .ok (.iload 4, 2) := by decide +kernel
theorem d_cX6_find_88 : decode cX6_find 88 = .ok (.lload_n 2, 1) := by decide +kernel
theorem d_cX6_find_89 : decode cX6_find 89 = .ok (.invokevirtual 54, 3) := by decide +kernel
theorem w_4_8 : (Jvm.Cond.methodLink "SpillForge$Loops" (54 : Nat) ({ cls := "SpillForge$Loops", name := "loopOf", desc := "(IJ)J" } : Jvm.MethodName)) ∈ gw := gw_4 8 rfl rfl
theorem w_4_11 : (Jvm.Cond.code ({ cls := "SpillForge$Loops", name := "loopOf", desc := "(IJ)J" } : Jvm.MethodName) prog_8_method_6_code (10 : Nat) (Option.some Jvm.ClassFile.FieldType.long)) ∈ gw := gw_4 11 rfl rfl
theorem w_4_10 : (Jvm.Cond.instanceMethod ({ cls := "SpillForge$Loops", name := "loopOf", desc := "(IJ)J" } : Jvm.MethodName)) ∈ gw := gw_4 10 rfl rfl
theorem w_p_27 : Cond.selects "SpillForge$Loops" ⟨"SpillForge$Loops", "loopOf", "(IJ)J"⟩ ⟨"SpillForge$Loops", "loopOf", "(IJ)J"⟩ ∈ gw := gw_p _ 27 rfl rfl rfl
theorem d_cX6_find_92 : decode cX6_find 92 = .ok (.invokevirtual 58, 3) := by decide +kernel
theorem w_4_12 : (Jvm.Cond.methodLink "SpillForge$Loops" (58 : Nat) ({ cls := "SpillForge$Loops", name := "deepen", desc := "(J)V" } : Jvm.MethodName)) ∈ gw := gw_4 12 rfl rfl
theorem w_4_15 : (Jvm.Cond.code ({ cls := "SpillForge$Loops", name := "deepen", desc := "(J)V" } : Jvm.MethodName) prog_8_method_7_code (4 : Nat) (Option.none : Option Jvm.ClassFile.FieldType)) ∈ gw := gw_4 15 rfl rfl
theorem w_4_14 : (Jvm.Cond.instanceMethod ({ cls := "SpillForge$Loops", name := "deepen", desc := "(J)V" } : Jvm.MethodName)) ∈ gw := gw_4 14 rfl rfl
theorem w_p_28 : Cond.selects "SpillForge$Loops" ⟨"SpillForge$Loops", "deepen", "(J)V"⟩ ⟨"SpillForge$Loops", "deepen", "(J)V"⟩ ∈ gw := gw_p _ 28 rfl rfl rfl
theorem d_cX6_find_95 : decode cX6_find 95 = .ok (.iinc 4 1, 3) := by decide +kernel
theorem d_cX6_find_98 : decode cX6_find 98 = .ok (.goto (-23), 3) := by decide +kernel
theorem d_cX6_find_34 : decode cX6_find 34 = .ok (.aload_n 0, 1) := by decide +kernel
theorem d_cX6_find_35 : decode cX6_find 35 = .ok (.iload_n 2, 1) := by decide +kernel
theorem d_cX6_find_36 : decode cX6_find 36 = .ok (.aload_n 1, 1) := by decide +kernel
theorem d_cX6_find_37 : decode cX6_find 37 = .ok (.getfield 40, 3) := by decide +kernel
theorem d_cX6_find_40 : decode cX6_find 40 = .ok (.iload_n 2, 1) := by decide +kernel
theorem d_cX6_find_41 : decode cX6_find 41 = .ok (.iaload, 1) := by decide +kernel
theorem d_cX6_find_42 : decode cX6_find 42 = .ok (.invokevirtual 43, 3) := by decide +kernel
theorem w_4_0 : (Jvm.Cond.methodLink "SpillForge$Loops" (43 : Nat) ({ cls := "SpillForge$Loops", name := "link", desc := "(II)V" } : Jvm.MethodName)) ∈ gw := gw_4 0 rfl rfl
theorem w_4_3 : (Jvm.Cond.code ({ cls := "SpillForge$Loops", name := "link", desc := "(II)V" } : Jvm.MethodName) prog_8_method_5_code (3 : Nat) (Option.none : Option Jvm.ClassFile.FieldType)) ∈ gw := gw_4 3 rfl rfl
theorem w_4_2 : (Jvm.Cond.instanceMethod ({ cls := "SpillForge$Loops", name := "link", desc := "(II)V" } : Jvm.MethodName)) ∈ gw := gw_4 2 rfl rfl
theorem w_p_26 : Cond.selects "SpillForge$Loops" ⟨"SpillForge$Loops", "link", "(II)V"⟩ ⟨"SpillForge$Loops", "link", "(II)V"⟩ ∈ gw := gw_p _ 26 rfl rfl rfl
theorem d_cX6_find_45 : decode cX6_find 45 = .ok (.aload_n 0, 1) := by decide +kernel
theorem d_cX6_find_46 : decode cX6_find 46 = .ok (.iload_n 2, 1) := by decide +kernel
theorem d_cX6_find_47 : decode cX6_find 47 = .ok (.aload_n 1, 1) := by decide +kernel
theorem d_cX6_find_48 : decode cX6_find 48 = .ok (.getfield 47, 3) := by decide +kernel
theorem d_cX6_find_51 : decode cX6_find 51 = .ok (.iload_n 2, 1) := by decide +kernel
theorem d_cX6_find_52 : decode cX6_find 52 = .ok (.iaload, 1) := by decide +kernel
theorem d_cX6_find_53 : decode cX6_find 53 = .ok (.invokevirtual 43, 3) := by decide +kernel
theorem d_cX6_find_56 : decode cX6_find 56 = .ok (.iinc 2 1, 3) := by decide +kernel
theorem d_cX6_find_59 : decode cX6_find 59 = .ok (.goto (-33), 3) := by decide +kernel
theorem d_cX7_takeInput_0 : decode cX7_takeInput 0 = .ok (.aload_n 0, 1) := by decide +kernel
theorem d_cX7_takeInput_1 : decode cX7_takeInput 1 = .ok (.aload_n 1, 1) := by decide +kernel
theorem d_cX7_takeInput_2 : decode cX7_takeInput 2 = .ok (.invokevirtual 28, 3) := by decide +kernel
theorem w_4_176 : (Jvm.Cond.methodLink "SpillForge$Machine" (28 : Nat) ({ cls := "SpillForge$Tape", name := "size", desc := "()I" } : Jvm.MethodName)) ∈ gw := gw_4 176 rfl rfl
theorem d_cX7_takeInput_5 : decode cX7_takeInput 5 = .ok (.iconst 4, 1) := by decide +kernel
theorem d_cX7_takeInput_6 : decode cX7_takeInput 6 = .ok (.idiv, 1) := by decide +kernel
theorem d_cX7_takeInput_7 : decode cX7_takeInput 7 = .ok (.aload_n 0, 1) := by decide +kernel
theorem d_cX7_takeInput_8 : decode cX7_takeInput 8 = .ok (.getfield 9, 3) := by decide +kernel
theorem w_2_160 : (Jvm.Cond.fieldLink "SpillForge$Machine" (9 : Nat) "SpillForge$Machine" "given" "[I") ∈ gw := gw_2 160 rfl rfl
theorem d_cX7_takeInput_11 : decode cX7_takeInput 11 = .ok (.arraylength, 1) := by decide +kernel
theorem d_cX7_takeInput_12 : decode cX7_takeInput 12 = .ok (.invokestatic 34, 3) := by decide +kernel
theorem w_4_177 : (Jvm.Cond.methodLink "SpillForge$Machine" (34 : Nat) ({ cls := "java/lang/Math", name := "min", desc := "(II)I" } : Jvm.MethodName)) ∈ gw := gw_4 177 rfl rfl
theorem d_cX7_takeInput_15 : decode cX7_takeInput 15 = .ok (.putfield 40, 3) := by decide +kernel
theorem w_2_164 : (Jvm.Cond.fieldLink "SpillForge$Machine" (40 : Nat) "SpillForge$Machine" "givens" "I") ∈ gw := gw_2 164 rfl rfl
theorem d_cX7_takeInput_18 : decode cX7_takeInput 18 = .ok (.iconst 0, 1) := by decide +kernel
theorem d_cX7_takeInput_19 : decode cX7_takeInput 19 = .ok (.istore_n 2, 1) := by decide +kernel
theorem d_cX7_takeInput_20 : decode cX7_takeInput 20 = .ok (.iload_n 2, 1) := by decide +kernel
theorem d_cX7_takeInput_21 : decode cX7_takeInput 21 = .ok (.aload_n 0, 1) := by decide +kernel
theorem d_cX7_takeInput_22 : decode cX7_takeInput 22 = .ok (.getfield 40, 3) := by decide +kernel
theorem d_cX7_takeInput_25 : decode cX7_takeInput 25 = .ok (.if_icmp .ge 22, 3) := by decide +kernel
theorem d_cX7_takeInput_47 : decode cX7_takeInput 47 = .ok (.aload_n 0, 1) := by decide +kernel
theorem d_cX7_takeInput_48 : decode cX7_takeInput 48 = .ok (.getfield 40, 3) := by decide +kernel
theorem d_cX7_takeInput_51 : decode cX7_takeInput 51 = .ok (.ireturn, 1) := by decide +kernel
theorem d_cX7_takeInput_28 : decode cX7_takeInput 28 = .ok (.aload_n 0, 1) := by decide +kernel
theorem d_cX7_takeInput_29 : decode cX7_takeInput 29 = .ok (.getfield 9, 3) := by decide +kernel
theorem d_cX7_takeInput_32 : decode cX7_takeInput 32 = .ok (.iload_n 2, 1) := by decide +kernel
theorem d_cX7_takeInput_33 : decode cX7_takeInput 33 = .ok (.aload_n 1, 1) := by decide +kernel
theorem d_cX7_takeInput_34 : decode cX7_takeInput 34 = .ok (.iconst 4, 1) := by decide +kernel
theorem d_cX7_takeInput_35 : decode cX7_takeInput 35 = .ok (.iload_n 2, 1) := by decide +kernel
theorem d_cX7_takeInput_36 : decode cX7_takeInput 36 = .ok (.imul, 1) := by decide +kernel
theorem d_cX7_takeInput_37 : decode cX7_takeInput 37 = .ok (.invokevirtual 43, 3) := by decide +kernel
theorem w_4_178 : (Jvm.Cond.methodLink "SpillForge$Machine" (43 : Nat) ({ cls := "SpillForge$Tape", name := "intAt", desc := "(I)I" } : Jvm.MethodName)) ∈ gw := gw_4 178 rfl rfl
theorem w_4_181 : (Jvm.Cond.code ({ cls := "SpillForge$Tape", name := "intAt", desc := "(I)I" } : Jvm.MethodName) prog_12_method_7_code (4 : Nat) (Option.some Jvm.ClassFile.FieldType.int)) ∈ gw := gw_4 181 rfl rfl
theorem w_4_179 : (Jvm.Cond.instanceMethod ({ cls := "SpillForge$Tape", name := "intAt", desc := "(I)I" } : Jvm.MethodName)) ∈ gw := gw_4 179 rfl rfl
theorem w_4_180 : (Jvm.Cond.selects "SpillForge$Tape" ({ cls := "SpillForge$Tape", name := "intAt", desc := "(I)I" } : Jvm.MethodName) ({ cls := "SpillForge$Tape", name := "intAt", desc := "(I)I" } : Jvm.MethodName)) ∈ gw := gw_4 180 rfl rfl
theorem d_cX7_takeInput_40 : decode cX7_takeInput 40 = .ok (.iastore, 1) := by decide +kernel
theorem d_cX7_takeInput_41 : decode cX7_takeInput 41 = .ok (.iinc 2 1, 3) := by decide +kernel
theorem d_cX7_takeInput_44 : decode cX7_takeInput 44 = .ok (.goto (-24), 3) := by decide +kernel
theorem d_cX7_halt_0 : decode cX7_halt 0 = .ok (.aload_n 0, 1) := by decide +kernel
theorem d_cX7_halt_1 : decode cX7_halt 1 = .ok (.iload_n 1, 1) := by decide +kernel
theorem d_cX7_halt_2 : decode cX7_halt 2 = .ok (.putfield 24, 3) := by decide +kernel
theorem w_2_170 : (Jvm.Cond.fieldLink "SpillForge$Machine" (24 : Nat) "SpillForge$Machine" "ending" "I") ∈ gw := gw_2 170 rfl rfl
theorem d_cX7_halt_5 : decode cX7_halt 5 = .ok (.iconst (-1), 1) := by decide +kernel
theorem d_cX7_halt_6 : decode cX7_halt 6 = .ok (.ireturn, 1) := by decide +kernel
theorem d_cX7_valueOf_0 : decode cX7_valueOf 0 = .ok (.iload_n 1, 1) := by decide +kernel
theorem d_cX7_valueOf_1 : decode cX7_valueOf 1 = .ok (.ifCond .lt 18, 3) := by decide +kernel
theorem d_cX7_valueOf_19 : decode cX7_valueOf 19 = .ok (.iload_n 2, 1) := by decide +kernel
theorem d_cX7_valueOf_20 : decode cX7_valueOf 20 = .ok (.ireturn, 1) := by decide +kernel
theorem d_cX7_valueOf_4 : decode cX7_valueOf 4 = .ok (.iload_n 1, 1) := by decide +kernel
theorem d_cX7_valueOf_5 : decode cX7_valueOf 5 = .ok (.bipush 100, 2) := by decide +kernel
theorem d_cX7_valueOf_7 : decode cX7_valueOf 7 = .ok (.if_icmp .ge 12, 3) := by decide +kernel
theorem d_cX7_valueOf_10 : decode cX7_valueOf 10 = .ok (.aload_n 0, 1) := by decide +kernel
theorem d_cX7_valueOf_11 : decode cX7_valueOf 11 = .ok (.getfield 15, 3) := by decide +kernel
theorem w_2_161 : (Jvm.Cond.fieldLink "SpillForge$Machine" (15 : Nat) "SpillForge$Machine" "registers" "[I") ∈ gw := gw_2 161 rfl rfl
theorem d_cX7_valueOf_14 : decode cX7_valueOf 14 = .ok (.iload_n 1, 1) := by decide +kernel
theorem d_cX7_valueOf_15 : decode cX7_valueOf 15 = .ok (.iaload, 1) := by decide +kernel
theorem d_cX7_valueOf_16 : decode cX7_valueOf 16 = .ok (.goto 4, 3) := by decide +kernel
theorem d_cX7_put_0 : decode cX7_put 0 = .ok (.iload_n 1, 1) := by decide +kernel
theorem d_cX7_put_1 : decode cX7_put 1 = .ok (.ifCond .lt 13, 3) := by decide +kernel
theorem d_cX7_put_14 : decode cX7_put 14 = .ok (.return_, 1) := by decide +kernel
theorem d_cX7_put_4 : decode cX7_put 4 = .ok (.iload_n 1, 1) := by decide +kernel
theorem d_cX7_put_5 : decode cX7_put 5 = .ok (.aload_n 0, 1) := by decide +kernel
theorem d_cX7_put_6 : decode cX7_put 6 = .ok (.arraylength, 1) := by decide +kernel
theorem d_cX7_put_7 : decode cX7_put 7 = .ok (.if_icmp .ge 7, 3) := by decide +kernel
theorem d_cX7_put_10 : decode cX7_put 10 = .ok (.aload_n 0, 1) := by decide +kernel
theorem d_cX7_put_11 : decode cX7_put 11 = .ok (.iload_n 1, 1) := by decide +kernel
theorem d_cX7_put_12 : decode cX7_put 12 = .ok (.iload_n 2, 1) := by decide +kernel
theorem d_cX7_put_13 : decode cX7_put 13 = .ok (.iastore, 1) := by decide +kernel
theorem d_cX7_takeNext_0 : decode cX7_takeNext 0 = .ok (.aload_n 0, 1) := by decide +kernel
theorem d_cX7_takeNext_1 : decode cX7_takeNext 1 = .ok (.getfield 56, 3) := by decide +kernel
theorem w_2_169 : (Jvm.Cond.fieldLink "SpillForge$Machine" (56 : Nat) "SpillForge$Machine" "taken" "I") ∈ gw := gw_2 169 rfl rfl
theorem d_cX7_takeNext_4 : decode cX7_takeNext 4 = .ok (.aload_n 0, 1) := by decide +kernel
theorem d_cX7_takeNext_5 : decode cX7_takeNext 5 = .ok (.getfield 40, 3) := by decide +kernel
theorem d_cX7_takeNext_8 : decode cX7_takeNext 8 = .ok (.if_icmp .lt 5, 3) := by decide +kernel
theorem d_cX7_takeNext_13 : decode cX7_takeNext 13 = .ok (.aload_n 0, 1) := by decide +kernel
theorem d_cX7_takeNext_14 : decode cX7_takeNext 14 = .ok (.dup, 1) := by decide +kernel
theorem d_cX7_takeNext_15 : decode cX7_takeNext 15 = .ok (.getfield 56, 3) := by decide +kernel
theorem d_cX7_takeNext_18 : decode cX7_takeNext 18 = .ok (.iconst 1, 1) := by decide +kernel
theorem d_cX7_takeNext_19 : decode cX7_takeNext 19 = .ok (.iadd, 1) := by decide +kernel
theorem d_cX7_takeNext_20 : decode cX7_takeNext 20 = .ok (.putfield 56, 3) := by decide +kernel
theorem d_cX7_takeNext_23 : decode cX7_takeNext 23 = .ok (.aload_n 0, 1) := by decide +kernel
theorem d_cX7_takeNext_24 : decode cX7_takeNext 24 = .ok (.getfield 9, 3) := by decide +kernel
theorem d_cX7_takeNext_27 : decode cX7_takeNext 27 = .ok (.aload_n 0, 1) := by decide +kernel
theorem d_cX7_takeNext_28 : decode cX7_takeNext 28 = .ok (.getfield 56, 3) := by decide +kernel
theorem d_cX7_takeNext_31 : decode cX7_takeNext 31 = .ok (.iconst 1, 1) := by decide +kernel
theorem d_cX7_takeNext_32 : decode cX7_takeNext 32 = .ok (.isub, 1) := by decide +kernel
theorem d_cX7_takeNext_33 : decode cX7_takeNext 33 = .ok (.iaload, 1) := by decide +kernel
theorem d_cX7_takeNext_34 : decode cX7_takeNext 34 = .ok (.ireturn, 1) := by decide +kernel
theorem d_cX7_takeNext_11 : decode cX7_takeNext 11 = .ok (.iconst 0, 1) := by decide +kernel
theorem d_cX7_takeNext_12 : decode cX7_takeNext 12 = .ok (.ireturn, 1) := by decide +kernel
theorem d_cX7_addShow_0 : decode cX7_addShow 0 = .ok (.aload_n 0, 1) := by decide +kernel
theorem d_cX7_addShow_1 : decode cX7_addShow 1 = .ok (.getfield 50, 3) := by decide +kernel
theorem w_2_167 : (Jvm.Cond.fieldLink "SpillForge$Machine" (50 : Nat) "SpillForge$Machine" "showCount" "I") ∈ gw := gw_2 167 rfl rfl
theorem d_cX7_addShow_4 : decode cX7_addShow 4 = .ok (.sipush 512, 3) := by decide +kernel
theorem d_cX7_addShow_7 : decode cX7_addShow 7 = .ok (.if_icmp .lt 5, 3) := by decide +kernel
theorem d_cX7_addShow_12 : decode cX7_addShow 12 = .ok (.aload_n 0, 1) := by decide +kernel
theorem d_cX7_addShow_13 : decode cX7_addShow 13 = .ok (.getfield 21, 3) := by decide +kernel
theorem w_2_163 : (Jvm.Cond.fieldLink "SpillForge$Machine" (21 : Nat) "SpillForge$Machine" "shows" "[I") ∈ gw := gw_2 163 rfl rfl
theorem d_cX7_addShow_16 : decode cX7_addShow 16 = .ok (.aload_n 0, 1) := by decide +kernel
theorem d_cX7_addShow_17 : decode cX7_addShow 17 = .ok (.getfield 50, 3) := by decide +kernel
theorem d_cX7_addShow_20 : decode cX7_addShow 20 = .ok (.iload_n 1, 1) := by decide +kernel
theorem d_cX7_addShow_21 : decode cX7_addShow 21 = .ok (.iastore, 1) := by decide +kernel
theorem d_cX7_addShow_22 : decode cX7_addShow 22 = .ok (.aload_n 0, 1) := by decide +kernel
theorem d_cX7_addShow_23 : decode cX7_addShow 23 = .ok (.dup, 1) := by decide +kernel
theorem d_cX7_addShow_24 : decode cX7_addShow 24 = .ok (.getfield 50, 3) := by decide +kernel
theorem d_cX7_addShow_27 : decode cX7_addShow 27 = .ok (.iconst 1, 1) := by decide +kernel
theorem d_cX7_addShow_28 : decode cX7_addShow 28 = .ok (.iadd, 1) := by decide +kernel
theorem d_cX7_addShow_29 : decode cX7_addShow 29 = .ok (.putfield 50, 3) := by decide +kernel
theorem d_cX7_addShow_32 : decode cX7_addShow 32 = .ok (.iconst 1, 1) := by decide +kernel
theorem d_cX7_addShow_33 : decode cX7_addShow 33 = .ok (.ireturn, 1) := by decide +kernel
theorem d_cX7_addShow_10 : decode cX7_addShow 10 = .ok (.iconst 0, 1) := by decide +kernel
theorem d_cX7_addShow_11 : decode cX7_addShow 11 = .ok (.ireturn, 1) := by decide +kernel
theorem d_cX7_slotAt_0 : decode cX7_slotAt 0 = .ok (.iload_n 1, 1) := by decide +kernel
theorem d_cX7_slotAt_1 : decode cX7_slotAt 1 = .ok (.ifCond .lt 18, 3) := by decide +kernel
theorem d_cX7_slotAt_19 : decode cX7_slotAt 19 = .ok (.iconst 0, 1) := by decide +kernel
theorem d_cX7_slotAt_20 : decode cX7_slotAt 20 = .ok (.ireturn, 1) := by decide +kernel
theorem d_cX7_slotAt_4 : decode cX7_slotAt 4 = .ok (.iload_n 1, 1) := by decide +kernel
theorem d_cX7_slotAt_5 : decode cX7_slotAt 5 = .ok (.bipush 100, 2) := by decide +kernel
theorem d_cX7_slotAt_7 : decode cX7_slotAt 7 = .ok (.if_icmp .ge 12, 3) := by decide +kernel
theorem d_cX7_slotAt_10 : decode cX7_slotAt 10 = .ok (.aload_n 0, 1) := by decide +kernel
theorem d_cX7_slotAt_11 : decode cX7_slotAt 11 = .ok (.getfield 18, 3) := by decide +kernel
theorem w_2_162 : (Jvm.Cond.fieldLink "SpillForge$Machine" (18 : Nat) "SpillForge$Machine" "slots" "[I") ∈ gw := gw_2 162 rfl rfl
theorem d_cX7_slotAt_14 : decode cX7_slotAt 14 = .ok (.iload_n 1, 1) := by decide +kernel
theorem d_cX7_slotAt_15 : decode cX7_slotAt 15 = .ok (.iaload, 1) := by decide +kernel
theorem d_cX7_slotAt_16 : decode cX7_slotAt 16 = .ok (.goto 4, 3) := by decide +kernel
abbrev ky_1314_Loops_walk : gKey := (cX6_walk, 11, yX6_walk.cls, (some FieldType.long), [], yX6_walk.name, fun _ _ => True)
abbrev po_1314_Loops_walk (I : FieldType → ClassId) (q1310 : Nat) (pl1311 : Int64) (pl1312 : Int64) (f1313 : Nat → Int64) : Option Value → va_W → Prop := fun r w => ∃ (ol2161 : Int64), r = some (.long ol2161) ∧ w = [(q1310, .inl (I .long, 40, .inr (.inl f1313)))]
set_option maxRecDepth 100000 in
set_option maxHeartbeats 4000000 in
theorem ct_1314_Loops_walk (l : Launch) (hl0 : l.stackTraces = false) (D : va_G) (I : FieldType → ClassId) (q1310 : Nat) (pl1311 : Int64) (pl1312 : Int64) (f1313 : Nat → Int64)  : Ct (gV D I) l yX6_walk cX6_walk 11 (some FieldType.long) 0 0 0 0 [.ref q1310, .long pl1311, .long pl1312] [(q1310, .inl (I .long, 40, .inr (.inl f1313)))] (po_1314_Loops_walk I q1310 pl1311 pl1312 f1313) gN := by
  refine Ct_of hl0 (by decide) (Nat.le_of_ble_eq_true rfl) ?_
  refine G_lload_n 1 d_cX6_walk_0 rfl ?_
  refine G_lload_n 2 d_cX6_walk_1 rfl ?_
  refine G_ldc2 (-1) d_cX6_walk_2 w_4_7 ?_
  refine G_lxor d_cX6_walk_5 (G_namL fun u1315 hu1315 => ?_)
  refine G_land d_cX6_walk_6 (G_namL fun u1316 hu1316 => ?_)
  refine G_lstore (L' := [(5, .long u1316), (0, .ref q1310), (1, .long pl1311), (3, .long pl1312)]) d_cX6_walk_7 (Nat.le_of_ble_eq_true rfl) rfl ?_
  refine G_iconst 0 d_cX6_walk_9 (by decide +kernel) ?_
  refine G_istore (L' := [(7, .int 0), (5, .long u1316), (0, .ref q1310), (1, .long pl1311), (3, .long pl1312)]) d_cX6_walk_10 (Nat.le_of_ble_eq_true rfl) rfl ?_
  have hlp12_2039 : ∀ (n12_2039 : Nat) (g2038 : Int32) (gl2039 : Int64), gB g2038 0 40 → ((41 : Int) - g2038.toInt).toNat < n12_2039 → G (gV D I) l (gRm 0 0 0 0) (gM (gV D I) (po_1314_Loops_walk I q1310 pl1311 pl1312 f1313) gN 0 0) ky_1314_Loops_walk 12 [(7, .int g2038), (5, .long gl2039), (0, .ref q1310), (1, .long pl1311), (3, .long pl1312)] [] [(q1310, .inl (I .long, 40, .inr (.inl f1313)))] 0 0 := by
    intro n12_2039
    induction n12_2039 with
    | zero => intro g2038 gl2039 bg2038 hm12_2039; exact absurd hm12_2039 (Nat.not_lt_zero _)
    | succ n12_2039 ih12_2039 =>
      intro g2038 gl2039 bg2038 hm12_2039
      refine G_iload 0 d_cX6_walk_12 rfl ?_
      refine G_aload_n 2 d_cX6_walk_14 rfl ?_
      refine G_alen 40 0 2 d_cX6_walk_15 rfl rfl rfl ?_
      refine G_icmp_ge 87 d_cX6_walk_16 (by decide +kernel) (fun hc2040 => ?_) (fun hc2040 => ?_)
      · have r2041 : 40 ≤ g2038.toInt := gj_leL hc2040 (show Int32.toInt 40 = 40 by decide)
        have bg2038' : gB g2038 40 40 := ⟨by omega, by omega⟩
        refine G_lload 1 d_cX6_walk_87 rfl ?_
        exact G_lret d_cX6_walk_89 rfl (Nat.le_of_ble_eq_true rfl) (Nat.le_of_ble_eq_true rfl) ⟨gl2039, rfl, rfl⟩
      · have r2042 : g2038.toInt < 40 := gj_nleL hc2040 (show Int32.toInt 40 = 40 by decide)
        have bg2038' : gB g2038 0 39 := ⟨by omega, by omega⟩
        refine G_lload 1 d_cX6_walk_19 rfl ?_
        refine G_lstore (L' := [(8, .long gl2039), (7, .int g2038), (5, .long gl2039), (0, .ref q1310), (1, .long pl1311), (3, .long pl1312)]) d_cX6_walk_21 (Nat.le_of_ble_eq_true rfl) rfl ?_
        refine G_iconst 0 d_cX6_walk_23 (by decide +kernel) ?_
        refine G_istore (L' := [(10, .int 0), (8, .long gl2039), (7, .int g2038), (5, .long gl2039), (0, .ref q1310), (1, .long pl1311), (3, .long pl1312)]) d_cX6_walk_24 (Nat.le_of_ble_eq_true rfl) rfl ?_
        have hlp26_2140 : ∀ (n26_2140 : Nat) (g2139 : Int32) (gl2140 : Int64), gB g2139 0 40 → ((41 : Int) - g2139.toInt).toNat < n26_2140 → G (gV D I) l (gRm 0 0 0 0) (gM (gV D I) (po_1314_Loops_walk I q1310 pl1311 pl1312 f1313) gN 0 0) ky_1314_Loops_walk 26 [(10, .int g2139), (8, .long gl2140), (7, .int g2038), (5, .long gl2039), (0, .ref q1310), (1, .long pl1311), (3, .long pl1312)] [] [(q1310, .inl (I .long, 40, .inr (.inl f1313)))] 0 0 := by
          intro n26_2140
          induction n26_2140 with
          | zero => intro g2139 gl2140 bg2139 hm26_2140; exact absurd hm26_2140 (Nat.not_lt_zero _)
          | succ n26_2140 ih26_2140 =>
            intro g2139 gl2140 bg2139 hm26_2140
            refine G_iload 0 d_cX6_walk_26 rfl ?_
            refine G_aload_n 4 d_cX6_walk_28 rfl ?_
            refine G_alen 40 0 2 d_cX6_walk_29 rfl rfl rfl ?_
            refine G_icmp_ge 66 d_cX6_walk_30 (by decide +kernel) (fun hc2141 => ?_) (fun hc2141 => ?_)
            · have r2142 : 40 ≤ g2139.toInt := gj_leL hc2141 (show Int32.toInt 40 = 40 by decide)
              have bg2139' : gB g2139 40 40 := ⟨by omega, by omega⟩
              refine G_lload 1 d_cX6_walk_66 rfl ?_
              refine G_lload 3 d_cX6_walk_68 rfl ?_
              refine G_lcmp d_cX6_walk_70 (G_nam fun z2143 hz2143 => ?_)
              have bz2143 : gB z2143 (-1) 1 := gB_cmp hz2143
              refine G_if_ne 77 d_cX6_walk_71 (by decide +kernel) (fun hc2144 => ?_) (fun hc2144 => ?_)
              · have r2145 : z2143.toInt ≠ 0 := gj_neq hc2144 (show Int32.toInt 0 = 0 by decide)
                have lhc2144 := gC_cmpN hz2143 hc2144
                refine G_lload 1 d_cX6_walk_77 rfl ?_
                refine G_lstore (L' := [(5, .long gl2140), (10, .int g2139), (8, .long gl2140), (7, .int g2038), (0, .ref q1310), (1, .long pl1311), (3, .long pl1312)]) d_cX6_walk_79 (Nat.le_of_ble_eq_true rfl) rfl ?_
                obtain ⟨z2146, hz2146⟩ : ∃ z : Int32, z = g2038 + Int32.ofInt 1 := ⟨_, rfl⟩
                have ez2146 : z2146.toInt = g2038.toInt + 1 := gI_inc hz2146 (by decide) bg2038' (by decide) (by decide)
                have bz2146 : gB z2146 1 40 := ⟨by omega, by omega⟩
                refine G_iinc (L' := [(7, .int z2146), (5, .long gl2140), (10, .int g2139), (8, .long gl2140), (0, .ref q1310), (1, .long pl1311), (3, .long pl1312)]) z2146 3 d_cX6_walk_81 rfl hz2146.symm (Nat.le_of_ble_eq_true rfl) rfl ?_
                refine G_goto 12 d_cX6_walk_84 (by decide +kernel) ?_
                refine G_lv (L' := [(7, .int z2146), (5, .long gl2140), (0, .ref q1310), (1, .long pl1311), (3, .long pl1312)]) [0, 1, 4, 5, 6] rfl ?_
                exact ih12_2039 z2146 gl2140 (gB_w bz2146 (by decide) (by decide)) (by omega)
              · have r2147 : z2143.toInt = 0 := gj_eq hc2144 (show Int32.toInt 0 = 0 by decide)
                have bz2143' : gB z2143 0 0 := ⟨by omega, by omega⟩
                have lhc2144 := gC_cmpE hz2143 hc2144
                refine G_lload 3 d_cX6_walk_74 rfl ?_
                exact G_lret d_cX6_walk_76 rfl (Nat.le_of_ble_eq_true rfl) (Nat.le_of_ble_eq_true rfl) ⟨gl2039, rfl, rfl⟩
            · have r2148 : g2139.toInt < 40 := gj_nleL hc2141 (show Int32.toInt 40 = 40 by decide)
              have bg2139' : gB g2139 0 39 := ⟨by omega, by omega⟩
              refine G_lload 3 d_cX6_walk_33 rfl ?_
              refine G_iload 0 d_cX6_walk_35 rfl ?_
              refine G_lshr d_cX6_walk_37 (G_namL fun u2149 hu2149 => ?_)
              refine G_lconst 1 d_cX6_walk_38 rfl ?_
              refine G_land d_cX6_walk_39 (G_namL fun u2150 hu2150 => ?_)
              refine G_lconst 0 d_cX6_walk_40 rfl ?_
              refine G_lcmp d_cX6_walk_41 (G_nam fun z2151 hz2151 => ?_)
              have bz2151 : gB z2151 (-1) 1 := gB_cmp hz2151
              refine G_if_eq 60 d_cX6_walk_42 (by decide +kernel) (fun hc2152 => ?_) (fun hc2152 => ?_)
              · have r2153 : z2151.toInt = 0 := gj_eq hc2152 (show Int32.toInt 0 = 0 by decide)
                have bz2151' : gB z2151 0 0 := ⟨by omega, by omega⟩
                have lhc2152 := gC_cmpE hz2151 hc2152
                obtain ⟨z2154, hz2154⟩ : ∃ z : Int32, z = g2139 + Int32.ofInt 1 := ⟨_, rfl⟩
                have ez2154 : z2154.toInt = g2139.toInt + 1 := gI_inc hz2154 (by decide) bg2139' (by decide) (by decide)
                have bz2154 : gB z2154 1 40 := ⟨by omega, by omega⟩
                refine G_iinc (L' := [(10, .int z2154), (8, .long gl2140), (7, .int g2038), (5, .long gl2039), (0, .ref q1310), (1, .long pl1311), (3, .long pl1312)]) z2154 0 d_cX6_walk_60 rfl hz2154.symm (Nat.le_of_ble_eq_true rfl) rfl ?_
                refine G_goto 26 d_cX6_walk_63 (by decide +kernel) ?_
                exact ih26_2140 z2154 gl2140 (gB_w bz2154 (by decide) (by decide)) (by omega)
              · have r2155 : z2151.toInt ≠ 0 := gj_neq hc2152 (show Int32.toInt 0 = 0 by decide)
                have lhc2152 := gC_cmpN hz2151 hc2152
                refine G_lload 1 d_cX6_walk_45 rfl ?_
                refine G_aload_n 4 d_cX6_walk_47 rfl ?_
                refine G_iload 0 d_cX6_walk_48 rfl ?_
                refine G_lald 0 2 d_cX6_walk_50 rfl rfl (gB_in bg2139' (by decide) (by decide)) (G_namL fun u2156 hu2156 => ?_)
                refine G_lload_n 6 d_cX6_walk_51 rfl ?_
                refine G_ldc2 (-1) d_cX6_walk_52 w_4_7 ?_
                refine G_lxor d_cX6_walk_55 (G_namL fun u2157 hu2157 => ?_)
                refine G_land d_cX6_walk_56 (G_namL fun u2158 hu2158 => ?_)
                refine G_lor d_cX6_walk_57 (G_namL fun u2159 hu2159 => ?_)
                refine G_lstore (L' := [(8, .long u2159), (10, .int g2139), (7, .int g2038), (5, .long gl2039), (0, .ref q1310), (1, .long pl1311), (3, .long pl1312)]) d_cX6_walk_58 (Nat.le_of_ble_eq_true rfl) rfl ?_
                obtain ⟨z2160, hz2160⟩ : ∃ z : Int32, z = g2139 + Int32.ofInt 1 := ⟨_, rfl⟩
                have ez2160 : z2160.toInt = g2139.toInt + 1 := gI_inc hz2160 (by decide) bg2139' (by decide) (by decide)
                have bz2160 : gB z2160 1 40 := ⟨by omega, by omega⟩
                refine G_iinc (L' := [(10, .int z2160), (8, .long u2159), (7, .int g2038), (5, .long gl2039), (0, .ref q1310), (1, .long pl1311), (3, .long pl1312)]) z2160 1 d_cX6_walk_60 rfl hz2160.symm (Nat.le_of_ble_eq_true rfl) rfl ?_
                refine G_goto 26 d_cX6_walk_63 (by decide +kernel) ?_
                exact ih26_2140 z2160 u2159 (gB_w bz2160 (by decide) (by decide)) (by omega)
        exact hlp26_2140 (((41 : Int) - 0).toNat + 1) 0 gl2039 (gB_w (gBl (show Int32.toInt 0 = 0 by decide)) (by decide) (by decide)) (Nat.lt_succ_self _)
  exact hlp12_2039 (((41 : Int) - 0).toNat + 1) 0 u1316 (gB_w (gBl (show Int32.toInt 0 = 0 by decide)) (by decide) (by decide)) (Nat.lt_succ_self _)
abbrev ky_2174_Loops_link : gKey := (cX6_link, 3, yX6_link.cls, none, [], yX6_link.name, fun _ _ => True)
abbrev po_2174_Loops_link (I : FieldType → ClassId) (q2165 : Nat) (q2166 : Nat) (q2167 : Nat) (q2168 : Nat) (p2169 : Int32) (p2170 : Int32) (f2171 : Nat → Int64) (f2172 : Nat → Int64) (f2173 : Nat → Int32) : Option Value → va_W → Prop := fun r w => ∃ (f2189 : Nat → Int64) (f2190 : Nat → Int64), r = none ∧ w = [(q2165, .inr (11, [.ref q2166, .ref q2167, .ref q2168])), (q2166, .inl (I .long, 40, .inr (.inl f2189))), (q2167, .inl (I .long, 40, .inr (.inl f2190))), (q2168, .inl (I .int, 40, .inl f2173))]
set_option maxRecDepth 100000 in
set_option maxHeartbeats 4000000 in
theorem ct_2174_Loops_link (l : Launch) (hl0 : l.stackTraces = false) (D : va_G) (I : FieldType → ClassId) (q2165 : Nat) (q2166 : Nat) (q2167 : Nat) (q2168 : Nat) (p2169 : Int32) (p2170 : Int32) (f2171 : Nat → Int64) (f2172 : Nat → Int64) (f2173 : Nat → Int32) (bp2169 : gB p2169 0 39) : Ct (gV D I) l yX6_link cX6_link 3 none 0 0 0 0 [.ref q2165, .int p2169, .int p2170] [(q2165, .inr (11, [.ref q2166, .ref q2167, .ref q2168])), (q2166, .inl (I .long, 40, .inr (.inl f2171))), (q2167, .inl (I .long, 40, .inr (.inl f2172))), (q2168, .inl (I .int, 40, .inl f2173))] (po_2174_Loops_link I q2165 q2166 q2167 q2168 p2169 p2170 f2171 f2172 f2173) gN := by
  refine Ct_of hl0 (by decide) (Nat.le_of_ble_eq_true rfl) ?_
  have bp2170 := gB_any p2170
  refine G_iload_n 2 d_cX6_link_0 rfl ?_
  refine G_if_lt 34 d_cX6_link_1 (by decide +kernel) (fun hc2175 => ?_) (fun hc2175 => ?_)
  · have r2176 : p2170.toInt < 0 := gj_lt hc2175 (show Int32.toInt 0 = 0 by decide)
    have bp2170' : gB p2170 (-2147483648) (-1) := ⟨by omega, by omega⟩
    exact G_vret d_cX6_link_34 rfl (Nat.le_of_ble_eq_true rfl) (Nat.le_of_ble_eq_true rfl) ⟨f2171, f2172, rfl, rfl⟩
  · have r2177 : 0 ≤ p2170.toInt := gj_nlt hc2175 (show Int32.toInt 0 = 0 by decide)
    have bp2170' : gB p2170 0 2147483647 := ⟨by omega, by omega⟩
    refine G_iload_n 2 d_cX6_link_4 rfl ?_
    refine G_bipush 40 d_cX6_link_5 (by decide +kernel) ?_
    refine G_icmp_ge 34 d_cX6_link_7 (by decide +kernel) (fun hc2178 => ?_) (fun hc2178 => ?_)
    · have r2179 : 40 ≤ p2170.toInt := gj_leL hc2178 (show Int32.toInt 40 = 40 by decide)
      have bp2170'' : gB p2170 40 2147483647 := ⟨by omega, by omega⟩
      exact G_vret d_cX6_link_34 rfl (Nat.le_of_ble_eq_true rfl) (Nat.le_of_ble_eq_true rfl) ⟨f2171, f2172, rfl, rfl⟩
    · have r2180 : p2170.toInt < 40 := gj_nleL hc2178 (show Int32.toInt 40 = 40 by decide)
      have bp2170'' : gB p2170 0 39 := ⟨by omega, by omega⟩
      refine G_aload_n 0 d_cX6_link_10 rfl ?_
      refine G_getf 0 0 d_cX6_link_11 rfl (gk_X6 D I) (Nat.le_of_ble_eq_true rfl) w_1_233 rfl ?_
      refine G_iload_n 1 d_cX6_link_14 rfl ?_
      refine G_dup2_11 d_cX6_link_15 rfl rfl ?_
      refine G_lald 1 2 d_cX6_link_16 rfl rfl (gB_in bp2169 (by decide) (by decide)) (G_namL fun u2181 hu2181 => ?_)
      refine G_lconst 1 d_cX6_link_17 rfl ?_
      refine G_iload_n 2 d_cX6_link_18 rfl ?_
      refine G_lshl d_cX6_link_19 (G_namL fun u2182 hu2182 => ?_)
      have qu2182 : lb_Q u2182 (p2170.toInt % 64 + 1) := lb_Qshl hu2182 (by omega)
      refine G_lor d_cX6_link_20 (G_namL fun u2183 hu2183 => ?_)
      refine G_lastN 1 2 d_cX6_link_21 rfl rfl (gB_in bp2169 (by decide) (by decide)) (fun f2184 hf2184 => ?_)
      refine G_ws (ws' := [(q2165, .inr (11, [.ref q2166, .ref q2167, .ref q2168])), (q2166, .inl (I .long, 40, .inr (.inl f2184))), (q2167, .inl (I .long, 40, .inr (.inl f2172))), (q2168, .inl (I .int, 40, .inl f2173))]) (cs' := 0) (sl' := 0) rfl rfl rfl ?_
      refine G_aload_n 0 d_cX6_link_22 rfl ?_
      refine G_getf 0 1 d_cX6_link_23 rfl (gk_X6 D I) (Nat.le_of_ble_eq_true rfl) w_1_234 rfl ?_
      refine G_iload_n 2 d_cX6_link_26 rfl ?_
      refine G_dup2_11 d_cX6_link_27 rfl rfl ?_
      refine G_lald 2 2 d_cX6_link_28 rfl rfl (gB_in bp2170'' (by decide) (by decide)) (G_namL fun u2185 hu2185 => ?_)
      refine G_lconst 1 d_cX6_link_29 rfl ?_
      refine G_iload_n 1 d_cX6_link_30 rfl ?_
      refine G_lshl d_cX6_link_31 (G_namL fun u2186 hu2186 => ?_)
      have qu2186 : lb_Q u2186 (p2169.toInt % 64 + 1) := lb_Qshl hu2186 (by omega)
      refine G_lor d_cX6_link_32 (G_namL fun u2187 hu2187 => ?_)
      refine G_lastN 2 2 d_cX6_link_33 rfl rfl (gB_in bp2170'' (by decide) (by decide)) (fun f2188 hf2188 => ?_)
      refine G_ws (ws' := [(q2165, .inr (11, [.ref q2166, .ref q2167, .ref q2168])), (q2166, .inl (I .long, 40, .inr (.inl f2184))), (q2167, .inl (I .long, 40, .inr (.inl f2188))), (q2168, .inl (I .int, 40, .inl f2173))]) (cs' := 0) (sl' := 0) rfl rfl rfl ?_
      exact G_vret d_cX6_link_34 rfl (Nat.le_of_ble_eq_true rfl) (Nat.le_of_ble_eq_true rfl) ⟨f2184, f2188, rfl, rfl⟩
abbrev ky_2214_Loops_loopOf : gKey := (cX6_loopOf, 10, yX6_loopOf.cls, (some FieldType.long), [], yX6_loopOf.name, fun _ _ => True)
abbrev po_2214_Loops_loopOf (I : FieldType → ClassId) (q2205 : Nat) (q2206 : Nat) (q2207 : Nat) (q2208 : Nat) (p2209 : Int32) (pl2210 : Int64) (f2211 : Nat → Int64) (f2212 : Nat → Int64) (f2213 : Nat → Int32) : Option Value → va_W → Prop := fun r w => ∃ (ol2229 : Int64), r = some (.long ol2229) ∧ w = [(q2205, .inr (11, [.ref q2206, .ref q2207, .ref q2208])), (q2206, .inl (I .long, 40, .inr (.inl f2211))), (q2207, .inl (I .long, 40, .inr (.inl f2212))), (q2208, .inl (I .int, 40, .inl f2213))]
set_option maxRecDepth 100000 in
set_option maxHeartbeats 4000000 in
theorem ct_2214_Loops_loopOf (l : Launch) (hl0 : l.stackTraces = false) (D : va_G) (I : FieldType → ClassId) (q2205 : Nat) (q2206 : Nat) (q2207 : Nat) (q2208 : Nat) (p2209 : Int32) (pl2210 : Int64) (f2211 : Nat → Int64) (f2212 : Nat → Int64) (f2213 : Nat → Int32) (bp2209 : gB p2209 0 39) : Ct (gV D I) l yX6_loopOf cX6_loopOf 10 (some FieldType.long) 1 30 0 0 [.ref q2205, .int p2209, .long pl2210] [(q2205, .inr (11, [.ref q2206, .ref q2207, .ref q2208])), (q2206, .inl (I .long, 40, .inr (.inl f2211))), (q2207, .inl (I .long, 40, .inr (.inl f2212))), (q2208, .inl (I .int, 40, .inl f2213))] (po_2214_Loops_loopOf I q2205 q2206 q2207 q2208 p2209 pl2210 f2211 f2212 f2213) gN := by
  refine Ct_of hl0 (by decide) (Nat.le_of_ble_eq_true rfl) ?_
  refine G_lconst 1 d_cX6_loopOf_0 rfl ?_
  refine G_iload_n 1 d_cX6_loopOf_1 rfl ?_
  refine G_lshl d_cX6_loopOf_2 (G_namL fun u2215 hu2215 => ?_)
  have qu2215 : lb_Q u2215 (p2209.toInt % 64 + 1) := lb_Qshl hu2215 (by omega)
  refine G_lstore (L' := [(4, .long u2215), (0, .ref q2205), (1, .int p2209), (2, .long pl2210)]) d_cX6_loopOf_3 (Nat.le_of_ble_eq_true rfl) rfl ?_
  refine G_aload_n 1 d_cX6_loopOf_5 rfl ?_
  refine G_getf 0 0 d_cX6_loopOf_6 rfl (gk_X6 D I) (Nat.le_of_ble_eq_true rfl) w_1_233 rfl ?_
  refine G_lconst 1 d_cX6_loopOf_9 rfl ?_
  refine G_lload 0 d_cX6_loopOf_10 rfl ?_
  refine G_callS (As := [.ref q2206, .long 1, .long u2215]) (wr := [(q2205, .inr (11, [.ref q2206, .ref q2207, .ref q2208])), (q2207, .inl (I .long, 40, .inr (.inl f2212))), (q2208, .inl (I .int, 40, .inl f2213))]) (gV_ok D I) (ct_1314_Loops_walk l hl0 D I q2206 1 u2215 f2211 ) d_cX6_loopOf_12 ⟨w_4_4, w_1_7, w_4_6, by decide, rfl, (Nat.le_of_ble_eq_true rfl), (Nat.le_of_ble_eq_true rfl)⟩ w_4_5 [1] [0, 2, 3] rfl rfl rfl rfl (by decide) (Nat.le_of_ble_eq_true rfl) (Nat.le_of_ble_eq_true rfl) (Nat.le_of_ble_eq_true rfl) (fun r w hp => ?_) (fun _ _ _ z => z.elim)
  obtain ⟨ol2216, rfl, rfl⟩ := hp
  change G _ _ _ _ _ _ _ (.long ol2216 :: _) _ _ _
  refine G_ws (ws' := [(q2205, .inr (11, [.ref q2206, .ref q2207, .ref q2208])), (q2207, .inl (I .long, 40, .inr (.inl f2212))), (q2208, .inl (I .int, 40, .inl f2213)), (q2206, .inl (I .long, 40, .inr (.inl f2211)))]) (cs' := 0) (sl' := 0) rfl rfl rfl ?_
  refine G_lstore (L' := [(6, .long ol2216), (4, .long u2215), (0, .ref q2205), (1, .int p2209), (2, .long pl2210)]) d_cX6_loopOf_15 (Nat.le_of_ble_eq_true rfl) rfl ?_
  refine G_aload_n 2 d_cX6_loopOf_17 rfl ?_
  refine G_getf 0 1 d_cX6_loopOf_18 rfl (gk_X6 D I) (Nat.le_of_ble_eq_true rfl) w_1_234 rfl ?_
  refine G_iload_n 3 d_cX6_loopOf_21 rfl ?_
  refine G_lald 1 2 d_cX6_loopOf_22 rfl rfl (gB_in bp2209 (by decide) (by decide)) (G_namL fun u2217 hu2217 => ?_)
  refine G_lload_n 4 d_cX6_loopOf_23 rfl ?_
  refine G_land d_cX6_loopOf_24 (G_namL fun u2218 hu2218 => ?_)
  refine G_lload 0 d_cX6_loopOf_25 rfl ?_
  refine G_ldc2 (-1) d_cX6_loopOf_27 w_4_7 ?_
  refine G_lxor d_cX6_loopOf_30 (G_namL fun u2219 hu2219 => ?_)
  refine G_land d_cX6_loopOf_31 (G_namL fun u2220 hu2220 => ?_)
  refine G_lstore (L' := [(8, .long u2220), (6, .long ol2216), (4, .long u2215), (0, .ref q2205), (1, .int p2209), (2, .long pl2210)]) d_cX6_loopOf_32 (Nat.le_of_ble_eq_true rfl) rfl ?_
  refine G_lload 0 d_cX6_loopOf_34 rfl ?_
  refine G_lconst 0 d_cX6_loopOf_36 rfl ?_
  refine G_lcmp d_cX6_loopOf_37 (G_nam fun z2221 hz2221 => ?_)
  have bz2221 : gB z2221 (-1) 1 := gB_cmp hz2221
  refine G_if_ne 45 d_cX6_loopOf_38 (by decide +kernel) (fun hc2222 => ?_) (fun hc2222 => ?_)
  · have r2223 : z2221.toInt ≠ 0 := gj_neq hc2222 (show Int32.toInt 0 = 0 by decide)
    have lhc2222 := gC_cmpN hz2221 hc2222
    refine G_lload 2 d_cX6_loopOf_45 rfl ?_
    refine G_aload_n 3 d_cX6_loopOf_47 rfl ?_
    refine G_getf 0 1 d_cX6_loopOf_48 rfl (gk_X6 D I) (Nat.le_of_ble_eq_true rfl) w_1_234 rfl ?_
    refine G_lload 0 d_cX6_loopOf_51 rfl ?_
    refine G_lload 2 d_cX6_loopOf_53 rfl ?_
    refine G_lload_n 5 d_cX6_loopOf_55 rfl ?_
    refine G_ldc2 (-1) d_cX6_loopOf_56 w_4_7 ?_
    refine G_lxor d_cX6_loopOf_59 (G_namL fun u2224 hu2224 => ?_)
    refine G_lor d_cX6_loopOf_60 (G_namL fun u2225 hu2225 => ?_)
    refine G_callS (As := [.ref q2207, .long u2220, .long u2225]) (wr := [(q2205, .inr (11, [.ref q2206, .ref q2207, .ref q2208])), (q2208, .inl (I .int, 40, .inl f2213)), (q2206, .inl (I .long, 40, .inr (.inl f2211)))]) (gV_ok D I) (ct_1314_Loops_walk l hl0 D I q2207 u2220 u2225 f2212 ) d_cX6_loopOf_61 ⟨w_4_4, w_1_7, w_4_6, by decide, rfl, (Nat.le_of_ble_eq_true rfl), (Nat.le_of_ble_eq_true rfl)⟩ w_4_5 [1] [0, 2, 3] rfl rfl rfl rfl (by decide) (Nat.le_of_ble_eq_true rfl) (Nat.le_of_ble_eq_true rfl) (Nat.le_of_ble_eq_true rfl) (fun r w hp => ?_) (fun _ _ _ z => z.elim)
    obtain ⟨ol2226, rfl, rfl⟩ := hp
    change G _ _ _ _ _ _ _ (.long ol2226 :: _) _ _ _
    refine G_ws (ws' := [(q2205, .inr (11, [.ref q2206, .ref q2207, .ref q2208])), (q2208, .inl (I .int, 40, .inl f2213)), (q2206, .inl (I .long, 40, .inr (.inl f2211))), (q2207, .inl (I .long, 40, .inr (.inl f2212)))]) (cs' := 0) (sl' := 0) rfl rfl rfl ?_
    refine G_lor d_cX6_loopOf_64 (G_namL fun u2227 hu2227 => ?_)
    refine G_sub (ws' := [(q2205, .inr (11, [.ref q2206, .ref q2207, .ref q2208])), (q2206, .inl (I .long, 40, .inr (.inl f2211))), (q2207, .inl (I .long, 40, .inr (.inl f2212))), (q2208, .inl (I .int, 40, .inl f2213))]) [0, 2, 3, 1] rfl rfl ?_
    exact G_lret d_cX6_loopOf_65 rfl (Nat.le_of_ble_eq_true rfl) (Nat.le_of_ble_eq_true rfl) ⟨u2227, rfl, rfl⟩
  · have r2228 : z2221.toInt = 0 := gj_eq hc2222 (show Int32.toInt 0 = 0 by decide)
    have bz2221' : gB z2221 0 0 := ⟨by omega, by omega⟩
    have lhc2222 := gC_cmpE hz2221 hc2222
    refine G_lconst 0 d_cX6_loopOf_41 rfl ?_
    refine G_goto 65 d_cX6_loopOf_42 (by decide +kernel) ?_
    refine G_sub (ws' := [(q2205, .inr (11, [.ref q2206, .ref q2207, .ref q2208])), (q2206, .inl (I .long, 40, .inr (.inl f2211))), (q2207, .inl (I .long, 40, .inr (.inl f2212))), (q2208, .inl (I .int, 40, .inl f2213))]) [0, 3, 1, 2] rfl rfl ?_
    exact G_lret d_cX6_loopOf_65 rfl (Nat.le_of_ble_eq_true rfl) (Nat.le_of_ble_eq_true rfl) ⟨0, rfl, rfl⟩
abbrev ky_2239_Loops_deepen : gKey := (cX6_deepen, 4, yX6_deepen.cls, none, [], yX6_deepen.name, fun _ _ => True)
abbrev po_2239_Loops_deepen (I : FieldType → ClassId) (q2231 : Nat) (q2232 : Nat) (q2233 : Nat) (q2234 : Nat) (pl2235 : Int64) (f2236 : Nat → Int64) (f2237 : Nat → Int64) (f2238 : Nat → Int32) : Option Value → va_W → Prop := fun r w => ∃ (f2363 : Nat → Int32), r = none ∧ w = [(q2231, .inr (11, [.ref q2232, .ref q2233, .ref q2234])), (q2232, .inl (I .long, 40, .inr (.inl f2236))), (q2233, .inl (I .long, 40, .inr (.inl f2237))), (q2234, .inl (I .int, 40, .inl f2363))] ∧ gF f2363 (-2147483648) 2147483647
set_option maxRecDepth 100000 in
set_option maxHeartbeats 4000000 in
theorem ct_2239_Loops_deepen (l : Launch) (hl0 : l.stackTraces = false) (D : va_G) (I : FieldType → ClassId) (q2231 : Nat) (q2232 : Nat) (q2233 : Nat) (q2234 : Nat) (pl2235 : Int64) (f2236 : Nat → Int64) (f2237 : Nat → Int64) (f2238 : Nat → Int32)  : Ct (gV D I) l yX6_deepen cX6_deepen 4 none 0 0 0 0 [.ref q2231, .long pl2235] [(q2231, .inr (11, [.ref q2232, .ref q2233, .ref q2234])), (q2232, .inl (I .long, 40, .inr (.inl f2236))), (q2233, .inl (I .long, 40, .inr (.inl f2237))), (q2234, .inl (I .int, 40, .inl f2238))] (po_2239_Loops_deepen I q2231 q2232 q2233 q2234 pl2235 f2236 f2237 f2238) gN := by
  refine Ct_of hl0 (by decide) (Nat.le_of_ble_eq_true rfl) ?_
  refine G_iconst 0 d_cX6_deepen_0 (by decide +kernel) ?_
  refine G_istore_n (L' := [(3, .int 0), (0, .ref q2231), (1, .long pl2235)]) d_cX6_deepen_1 (Nat.le_of_ble_eq_true rfl) rfl ?_
  have hlp2_2344 : ∀ (n2_2344 : Nat) (g2343 : Int32) (f2344 : Nat → Int32), gB g2343 0 40 → gF f2344 (-2147483648) 2147483647 → ((41 : Int) - g2343.toInt).toNat < n2_2344 → G (gV D I) l (gRm 0 0 0 0) (gM (gV D I) (po_2239_Loops_deepen I q2231 q2232 q2233 q2234 pl2235 f2236 f2237 f2238) gN 0 0) ky_2239_Loops_deepen 2 [(3, .int g2343), (0, .ref q2231), (1, .long pl2235)] [] [(q2231, .inr (11, [.ref q2232, .ref q2233, .ref q2234])), (q2232, .inl (I .long, 40, .inr (.inl f2236))), (q2233, .inl (I .long, 40, .inr (.inl f2237))), (q2234, .inl (I .int, 40, .inl f2344))] 0 0 := by
    intro n2_2344
    induction n2_2344 with
    | zero => intro g2343 f2344 bg2343 bf2344 hm2_2344; exact absurd hm2_2344 (Nat.not_lt_zero _)
    | succ n2_2344 ih2_2344 =>
      intro g2343 f2344 bg2343 bf2344 hm2_2344
      refine G_iload_n 0 d_cX6_deepen_2 rfl ?_
      refine G_bipush 40 d_cX6_deepen_3 (by decide +kernel) ?_
      refine G_icmp_ge 44 d_cX6_deepen_5 (by decide +kernel) (fun hc2345 => ?_) (fun hc2345 => ?_)
      · have r2346 : 40 ≤ g2343.toInt := gj_leL hc2345 (show Int32.toInt 40 = 40 by decide)
        have bg2343' : gB g2343 40 40 := ⟨by omega, by omega⟩
        exact G_vret d_cX6_deepen_44 rfl (Nat.le_of_ble_eq_true rfl) (Nat.le_of_ble_eq_true rfl) ⟨f2344, rfl, rfl, bf2344⟩
      · have r2347 : g2343.toInt < 40 := gj_nleL hc2345 (show Int32.toInt 40 = 40 by decide)
        have bg2343' : gB g2343 0 39 := ⟨by omega, by omega⟩
        refine G_lload_n 2 d_cX6_deepen_8 rfl ?_
        refine G_iload_n 0 d_cX6_deepen_9 rfl ?_
        refine G_lshr d_cX6_deepen_10 (G_namL fun u2348 hu2348 => ?_)
        refine G_lconst 1 d_cX6_deepen_11 rfl ?_
        refine G_land d_cX6_deepen_12 (G_namL fun u2349 hu2349 => ?_)
        refine G_lconst 0 d_cX6_deepen_13 rfl ?_
        refine G_lcmp d_cX6_deepen_14 (G_nam fun z2350 hz2350 => ?_)
        have bz2350 : gB z2350 (-1) 1 := gB_cmp hz2350
        refine G_if_eq 38 d_cX6_deepen_15 (by decide +kernel) (fun hc2351 => ?_) (fun hc2351 => ?_)
        · have r2352 : z2350.toInt = 0 := gj_eq hc2351 (show Int32.toInt 0 = 0 by decide)
          have bz2350' : gB z2350 0 0 := ⟨by omega, by omega⟩
          have lhc2351 := gC_cmpE hz2350 hc2351
          obtain ⟨z2353, hz2353⟩ : ∃ z : Int32, z = g2343 + Int32.ofInt 1 := ⟨_, rfl⟩
          have ez2353 : z2353.toInt = g2343.toInt + 1 := gI_inc hz2353 (by decide) bg2343' (by decide) (by decide)
          have bz2353 : gB z2353 1 40 := ⟨by omega, by omega⟩
          refine G_iinc (L' := [(3, .int z2353), (0, .ref q2231), (1, .long pl2235)]) z2353 0 d_cX6_deepen_38 rfl hz2353.symm (Nat.le_of_ble_eq_true rfl) rfl ?_
          refine G_goto 2 d_cX6_deepen_41 (by decide +kernel) ?_
          exact ih2_2344 z2353 f2344 (gB_w bz2353 (by decide) (by decide)) bf2344 (by omega)
        · have r2354 : z2350.toInt ≠ 0 := gj_neq hc2351 (show Int32.toInt 0 = 0 by decide)
          have lhc2351 := gC_cmpN hz2350 hc2351
          refine G_aload_n 1 d_cX6_deepen_18 rfl ?_
          refine G_getf 0 2 d_cX6_deepen_19 rfl (gk_X6 D I) (Nat.le_of_ble_eq_true rfl) w_1_235 rfl ?_
          refine G_iload_n 0 d_cX6_deepen_22 rfl ?_
          refine G_iald 3 0 d_cX6_deepen_23 rfl rfl (gB_in bg2343' (by decide) (by decide)) (G_nam fun z2355 hz2355 => ?_)
          have bz2355 : gB z2355 (-2147483648) 2147483647 := by rw [hz2355]; exact bf2344 _
          refine G_iconst 4 d_cX6_deepen_24 (by decide +kernel) ?_
          refine G_icmp_ge 38 d_cX6_deepen_25 (by decide +kernel) (fun hc2356 => ?_) (fun hc2356 => ?_)
          · have r2357 : 4 ≤ z2355.toInt := gj_leL hc2356 (show Int32.toInt 4 = 4 by decide)
            have bz2355' : gB z2355 4 2147483647 := ⟨by omega, by omega⟩
            obtain ⟨z2358, hz2358⟩ : ∃ z : Int32, z = g2343 + Int32.ofInt 1 := ⟨_, rfl⟩
            have ez2358 : z2358.toInt = g2343.toInt + 1 := gI_inc hz2358 (by decide) bg2343' (by decide) (by decide)
            have bz2358 : gB z2358 1 40 := ⟨by omega, by omega⟩
            refine G_iinc (L' := [(3, .int z2358), (0, .ref q2231), (1, .long pl2235)]) z2358 0 d_cX6_deepen_38 rfl hz2358.symm (Nat.le_of_ble_eq_true rfl) rfl ?_
            refine G_goto 2 d_cX6_deepen_41 (by decide +kernel) ?_
            exact ih2_2344 z2358 f2344 (gB_w bz2358 (by decide) (by decide)) bf2344 (by omega)
          · have r2359 : z2355.toInt < 4 := gj_nleL hc2356 (show Int32.toInt 4 = 4 by decide)
            have bz2355' : gB z2355 (-2147483648) 3 := ⟨by omega, by omega⟩
            refine G_aload_n 1 d_cX6_deepen_28 rfl ?_
            refine G_getf 0 2 d_cX6_deepen_29 rfl (gk_X6 D I) (Nat.le_of_ble_eq_true rfl) w_1_235 rfl ?_
            refine G_iload_n 0 d_cX6_deepen_32 rfl ?_
            refine G_dup2_11 d_cX6_deepen_33 rfl rfl ?_
            refine G_iald 3 0 d_cX6_deepen_34 rfl rfl (gB_in bg2343' (by decide) (by decide)) (G_eqi (y := z2355) hz2355.symm ?_)
            refine G_iconst 1 d_cX6_deepen_35 (by decide +kernel) ?_
            refine G_iadd d_cX6_deepen_36 (G_nam fun z2360 hz2360 => ?_)
            have ez2360 : z2360.toInt = z2355.toInt + 1 := by rw [gI_add hz2360 bz2355' (gBl (show Int32.toInt 1 = 1 by decide)) (by decide) (by decide), show Int32.toInt 1 = 1 from by decide]
            have bz2360 : gB z2360 (-2147483647) 4 := gB_add (gI_add hz2360 bz2355' (gBl (show Int32.toInt 1 = 1 by decide)) (by decide) (by decide)) bz2355' (gBl (show Int32.toInt 1 = 1 by decide)) (by decide) (by decide)
            refine G_iastN 3 0 d_cX6_deepen_37 rfl rfl (gB_in bg2343' (by decide) (by decide)) (fun f2361 hf2361 => ?_)
            refine G_ws (ws' := [(q2231, .inr (11, [.ref q2232, .ref q2233, .ref q2234])), (q2232, .inl (I .long, 40, .inr (.inl f2236))), (q2233, .inl (I .long, 40, .inr (.inl f2237))), (q2234, .inl (I .int, 40, .inl f2361))]) (cs' := 0) (sl' := 0) rfl rfl rfl ?_
            obtain ⟨z2362, hz2362⟩ : ∃ z : Int32, z = g2343 + Int32.ofInt 1 := ⟨_, rfl⟩
            have ez2362 : z2362.toInt = g2343.toInt + 1 := gI_inc hz2362 (by decide) bg2343' (by decide) (by decide)
            have bz2362 : gB z2362 1 40 := ⟨by omega, by omega⟩
            refine G_iinc (L' := [(3, .int z2362), (0, .ref q2231), (1, .long pl2235)]) z2362 0 d_cX6_deepen_38 rfl hz2362.symm (Nat.le_of_ble_eq_true rfl) rfl ?_
            refine G_goto 2 d_cX6_deepen_41 (by decide +kernel) ?_
            exact ih2_2344 z2362 f2361 (gB_w bz2362 (by decide) (by decide)) (gF_any f2361) (by omega)
  exact hlp2_2344 (((41 : Int) - 0).toNat + 1) 0 f2238 (gB_w (gBl (show Int32.toInt 0 = 0 by decide)) (by decide) (by decide)) (gF_any f2238) (Nat.lt_succ_self _)
abbrev ky_1226_Loops_find : gKey := (cX6_find, 5, yX6_find.cls, none, [], yX6_find.name, fun _ _ => True)
abbrev po_1226_Loops_find (I : FieldType → ClassId) (q1197 : Nat) (q1198 : Nat) (q1199 : Nat) (q1200 : Nat) (q1201 : Nat) (q1202 : Nat) (q1203 : Nat) (q1204 : Nat) (q1205 : Nat) (q1206 : Nat) (q1207 : Nat) (q1208 : Nat) (q1209 : Nat) (q1210 : Nat) (p1211 : Int32) (p1212 : Int32) (p1213 : Int32) (f1214 : Nat → Int64) (f1215 : Nat → Int64) (f1216 : Nat → Int32) (f1217 : Nat → Int32) (f1218 : Nat → Int32) (f1219 : Nat → Int32) (f1220 : Nat → Int32) (f1221 : Nat → Int32) (f1222 : Nat → Int32) (f1223 : Nat → Int32) (f1224 : Nat → Int32) (f1225 : Nat → Int32) : Option Value → va_W → Prop := fun r w => ∃ (f2684 : Nat → Int64) (f2685 : Nat → Int64) (f2686 : Nat → Int32), r = none ∧ w = [(q1197, .inr (11, [.ref q1199, .ref q1200, .ref q1201])), (q1198, .inr (5, [.ref q1202, .ref q1203, .ref q1204, .ref q1205, .ref q1206, .ref q1207, .ref q1208, .ref q1209, .ref q1210, .int p1211, .int p1212, .int p1213])), (q1199, .inl (I .long, 40, .inr (.inl f2684))), (q1200, .inl (I .long, 40, .inr (.inl f2685))), (q1201, .inl (I .int, 40, .inl f2686)), (q1202, .inl (I .int, 40, .inl f1217)), (q1203, .inl (I .int, 40, .inl f1218)), (q1204, .inl (I .int, 40, .inl f1219)), (q1205, .inl (I .int, 200, .inl f1220)), (q1206, .inl (I .int, 200, .inl f1221)), (q1207, .inl (I .int, 200, .inl f1222)), (q1208, .inl (I .int, 200, .inl f1223)), (q1209, .inl (I .int, 200, .inl f1224)), (q1210, .inl (I .int, 200, .inl f1225))] ∧ gF f2686 (-2147483648) 2147483647
set_option maxRecDepth 100000 in
set_option maxHeartbeats 4000000 in
theorem ct_1226_Loops_find (l : Launch) (hl0 : l.stackTraces = false) (D : va_G) (I : FieldType → ClassId) (q1197 : Nat) (q1198 : Nat) (q1199 : Nat) (q1200 : Nat) (q1201 : Nat) (q1202 : Nat) (q1203 : Nat) (q1204 : Nat) (q1205 : Nat) (q1206 : Nat) (q1207 : Nat) (q1208 : Nat) (q1209 : Nat) (q1210 : Nat) (p1211 : Int32) (p1212 : Int32) (p1213 : Int32) (f1214 : Nat → Int64) (f1215 : Nat → Int64) (f1216 : Nat → Int32) (f1217 : Nat → Int32) (f1218 : Nat → Int32) (f1219 : Nat → Int32) (f1220 : Nat → Int32) (f1221 : Nat → Int32) (f1222 : Nat → Int32) (f1223 : Nat → Int32) (f1224 : Nat → Int32) (f1225 : Nat → Int32) (bp1211 : gB p1211 0 40) (bp1212 : gB p1212 0 200) (bp1213 : gB p1213 0 1) (bf1217 : gF f1217 0 200) (bf1220 : gF f1220 0 21) : Ct (gV D I) l yX6_find cX6_find 5 none 2 59 0 0 [.ref q1197, .ref q1198] [(q1197, .inr (11, [.ref q1199, .ref q1200, .ref q1201])), (q1198, .inr (5, [.ref q1202, .ref q1203, .ref q1204, .ref q1205, .ref q1206, .ref q1207, .ref q1208, .ref q1209, .ref q1210, .int p1211, .int p1212, .int p1213])), (q1199, .inl (I .long, 40, .inr (.inl f1214))), (q1200, .inl (I .long, 40, .inr (.inl f1215))), (q1201, .inl (I .int, 40, .inl f1216)), (q1202, .inl (I .int, 40, .inl f1217)), (q1203, .inl (I .int, 40, .inl f1218)), (q1204, .inl (I .int, 40, .inl f1219)), (q1205, .inl (I .int, 200, .inl f1220)), (q1206, .inl (I .int, 200, .inl f1221)), (q1207, .inl (I .int, 200, .inl f1222)), (q1208, .inl (I .int, 200, .inl f1223)), (q1209, .inl (I .int, 200, .inl f1224)), (q1210, .inl (I .int, 200, .inl f1225))] (po_1226_Loops_find I q1197 q1198 q1199 q1200 q1201 q1202 q1203 q1204 q1205 q1206 q1207 q1208 q1209 q1210 p1211 p1212 p1213 f1214 f1215 f1216 f1217 f1218 f1219 f1220 f1221 f1222 f1223 f1224 f1225) gN := by
  refine Ct_of hl0 (by decide) (Nat.le_of_ble_eq_true rfl) ?_
  refine G_aload_n 0 d_cX6_find_0 rfl ?_
  refine G_getf 0 0 d_cX6_find_1 rfl (gk_X6 D I) (Nat.le_of_ble_eq_true rfl) w_1_233 rfl ?_
  refine G_lconst 0 d_cX6_find_4 rfl ?_
  refine G_callS (As := [.ref q1199, .long 0]) (wr := [(q1197, .inr (11, [.ref q1199, .ref q1200, .ref q1201])), (q1198, .inr (5, [.ref q1202, .ref q1203, .ref q1204, .ref q1205, .ref q1206, .ref q1207, .ref q1208, .ref q1209, .ref q1210, .int p1211, .int p1212, .int p1213])), (q1200, .inl (I .long, 40, .inr (.inl f1215))), (q1201, .inl (I .int, 40, .inl f1216)), (q1202, .inl (I .int, 40, .inl f1217)), (q1203, .inl (I .int, 40, .inl f1218)), (q1204, .inl (I .int, 40, .inl f1219)), (q1205, .inl (I .int, 200, .inl f1220)), (q1206, .inl (I .int, 200, .inl f1221)), (q1207, .inl (I .int, 200, .inl f1222)), (q1208, .inl (I .int, 200, .inl f1223)), (q1209, .inl (I .int, 200, .inl f1224)), (q1210, .inl (I .int, 200, .inl f1225))]) (gV_ok D I) (ct_1230_Arrays_fill l hl0 D I q1199 0 f1214 ) d_cX6_find_5 ⟨w_3_234, w_1_30, w_3_236, by decide, rfl, (Nat.le_of_ble_eq_true rfl), (Nat.le_of_ble_eq_true rfl)⟩ w_3_235 [2] [0, 1, 3, 4, 5, 6, 7, 8, 9, 10, 11, 12, 13] rfl rfl rfl rfl (by decide) (Nat.le_of_ble_eq_true rfl) (Nat.le_of_ble_eq_true rfl) (Nat.le_of_ble_eq_true rfl) (fun r w hp => ?_) (fun _ _ _ z => z.elim)
  obtain ⟨f1266, rfl, rfl⟩ := hp
  change G _ _ _ _ _ _ _ _ _ _ _
  refine G_ws (ws' := [(q1197, .inr (11, [.ref q1199, .ref q1200, .ref q1201])), (q1198, .inr (5, [.ref q1202, .ref q1203, .ref q1204, .ref q1205, .ref q1206, .ref q1207, .ref q1208, .ref q1209, .ref q1210, .int p1211, .int p1212, .int p1213])), (q1200, .inl (I .long, 40, .inr (.inl f1215))), (q1201, .inl (I .int, 40, .inl f1216)), (q1202, .inl (I .int, 40, .inl f1217)), (q1203, .inl (I .int, 40, .inl f1218)), (q1204, .inl (I .int, 40, .inl f1219)), (q1205, .inl (I .int, 200, .inl f1220)), (q1206, .inl (I .int, 200, .inl f1221)), (q1207, .inl (I .int, 200, .inl f1222)), (q1208, .inl (I .int, 200, .inl f1223)), (q1209, .inl (I .int, 200, .inl f1224)), (q1210, .inl (I .int, 200, .inl f1225)), (q1199, .inl (I .long, 40, .inr (.inl f1266)))]) (cs' := 0) (sl' := 0) rfl rfl rfl ?_
  refine G_aload_n 0 d_cX6_find_8 rfl ?_
  refine G_getf 0 1 d_cX6_find_9 rfl (gk_X6 D I) (Nat.le_of_ble_eq_true rfl) w_1_234 rfl ?_
  refine G_lconst 0 d_cX6_find_12 rfl ?_
  refine G_callS (As := [.ref q1200, .long 0]) (wr := [(q1197, .inr (11, [.ref q1199, .ref q1200, .ref q1201])), (q1198, .inr (5, [.ref q1202, .ref q1203, .ref q1204, .ref q1205, .ref q1206, .ref q1207, .ref q1208, .ref q1209, .ref q1210, .int p1211, .int p1212, .int p1213])), (q1201, .inl (I .int, 40, .inl f1216)), (q1202, .inl (I .int, 40, .inl f1217)), (q1203, .inl (I .int, 40, .inl f1218)), (q1204, .inl (I .int, 40, .inl f1219)), (q1205, .inl (I .int, 200, .inl f1220)), (q1206, .inl (I .int, 200, .inl f1221)), (q1207, .inl (I .int, 200, .inl f1222)), (q1208, .inl (I .int, 200, .inl f1223)), (q1209, .inl (I .int, 200, .inl f1224)), (q1210, .inl (I .int, 200, .inl f1225)), (q1199, .inl (I .long, 40, .inr (.inl f1266)))]) (gV_ok D I) (ct_1230_Arrays_fill l hl0 D I q1200 0 f1215 ) d_cX6_find_13 ⟨w_3_234, w_1_30, w_3_236, by decide, rfl, (Nat.le_of_ble_eq_true rfl), (Nat.le_of_ble_eq_true rfl)⟩ w_3_235 [2] [0, 1, 3, 4, 5, 6, 7, 8, 9, 10, 11, 12, 13] rfl rfl rfl rfl (by decide) (Nat.le_of_ble_eq_true rfl) (Nat.le_of_ble_eq_true rfl) (Nat.le_of_ble_eq_true rfl) (fun r w hp => ?_) (fun _ _ _ z => z.elim)
  obtain ⟨f1267, rfl, rfl⟩ := hp
  change G _ _ _ _ _ _ _ _ _ _ _
  refine G_ws (ws' := [(q1197, .inr (11, [.ref q1199, .ref q1200, .ref q1201])), (q1198, .inr (5, [.ref q1202, .ref q1203, .ref q1204, .ref q1205, .ref q1206, .ref q1207, .ref q1208, .ref q1209, .ref q1210, .int p1211, .int p1212, .int p1213])), (q1201, .inl (I .int, 40, .inl f1216)), (q1202, .inl (I .int, 40, .inl f1217)), (q1203, .inl (I .int, 40, .inl f1218)), (q1204, .inl (I .int, 40, .inl f1219)), (q1205, .inl (I .int, 200, .inl f1220)), (q1206, .inl (I .int, 200, .inl f1221)), (q1207, .inl (I .int, 200, .inl f1222)), (q1208, .inl (I .int, 200, .inl f1223)), (q1209, .inl (I .int, 200, .inl f1224)), (q1210, .inl (I .int, 200, .inl f1225)), (q1199, .inl (I .long, 40, .inr (.inl f1266))), (q1200, .inl (I .long, 40, .inr (.inl f1267)))]) (cs' := 0) (sl' := 0) rfl rfl rfl ?_
  refine G_aload_n 0 d_cX6_find_16 rfl ?_
  refine G_getf 0 2 d_cX6_find_17 rfl (gk_X6 D I) (Nat.le_of_ble_eq_true rfl) w_1_235 rfl ?_
  refine G_iconst 0 d_cX6_find_20 (by decide +kernel) ?_
  refine G_callS (As := [.ref q1201, .int 0]) (wr := [(q1197, .inr (11, [.ref q1199, .ref q1200, .ref q1201])), (q1198, .inr (5, [.ref q1202, .ref q1203, .ref q1204, .ref q1205, .ref q1206, .ref q1207, .ref q1208, .ref q1209, .ref q1210, .int p1211, .int p1212, .int p1213])), (q1202, .inl (I .int, 40, .inl f1217)), (q1203, .inl (I .int, 40, .inl f1218)), (q1204, .inl (I .int, 40, .inl f1219)), (q1205, .inl (I .int, 200, .inl f1220)), (q1206, .inl (I .int, 200, .inl f1221)), (q1207, .inl (I .int, 200, .inl f1222)), (q1208, .inl (I .int, 200, .inl f1223)), (q1209, .inl (I .int, 200, .inl f1224)), (q1210, .inl (I .int, 200, .inl f1225)), (q1199, .inl (I .long, 40, .inr (.inl f1266))), (q1200, .inl (I .long, 40, .inr (.inl f1267)))]) (gV_ok D I) (ct_1271_Arrays_fill l hl0 D I q1201 0 f1216 ) d_cX6_find_21 ⟨w_3_237, w_1_30, w_3_239, by decide, rfl, (Nat.le_of_ble_eq_true rfl), (Nat.le_of_ble_eq_true rfl)⟩ w_3_238 [2] [0, 1, 3, 4, 5, 6, 7, 8, 9, 10, 11, 12, 13] rfl rfl rfl rfl (by decide) (Nat.le_of_ble_eq_true rfl) (Nat.le_of_ble_eq_true rfl) (Nat.le_of_ble_eq_true rfl) (fun r w hp => ?_) (fun _ _ _ z => z.elim)
  obtain ⟨f1307, rfl, rfl, bf1307⟩ := hp
  change G _ _ _ _ _ _ _ _ _ _ _
  refine G_ws (ws' := [(q1197, .inr (11, [.ref q1199, .ref q1200, .ref q1201])), (q1198, .inr (5, [.ref q1202, .ref q1203, .ref q1204, .ref q1205, .ref q1206, .ref q1207, .ref q1208, .ref q1209, .ref q1210, .int p1211, .int p1212, .int p1213])), (q1202, .inl (I .int, 40, .inl f1217)), (q1203, .inl (I .int, 40, .inl f1218)), (q1204, .inl (I .int, 40, .inl f1219)), (q1205, .inl (I .int, 200, .inl f1220)), (q1206, .inl (I .int, 200, .inl f1221)), (q1207, .inl (I .int, 200, .inl f1222)), (q1208, .inl (I .int, 200, .inl f1223)), (q1209, .inl (I .int, 200, .inl f1224)), (q1210, .inl (I .int, 200, .inl f1225)), (q1199, .inl (I .long, 40, .inr (.inl f1266))), (q1200, .inl (I .long, 40, .inr (.inl f1267))), (q1201, .inl (I .int, 40, .inl f1307))]) (cs' := 0) (sl' := 0) rfl rfl rfl ?_
  refine G_iconst 0 d_cX6_find_24 (by decide +kernel) ?_
  refine G_istore_n (L' := [(2, .int 0), (0, .ref q1197), (1, .ref q1198)]) d_cX6_find_25 (Nat.le_of_ble_eq_true rfl) rfl ?_
  have hlp26_2619 : ∀ (n26_2619 : Nat) (g2617 : Int32) (f2618 : Nat → Int64) (f2619 : Nat → Int64), gB g2617 0 40 → ((41 : Int) - g2617.toInt).toNat < n26_2619 → G (gV D I) l (gRm 2 59 0 0) (gM (gV D I) (po_1226_Loops_find I q1197 q1198 q1199 q1200 q1201 q1202 q1203 q1204 q1205 q1206 q1207 q1208 q1209 q1210 p1211 p1212 p1213 f1214 f1215 f1216 f1217 f1218 f1219 f1220 f1221 f1222 f1223 f1224 f1225) gN 0 0) ky_1226_Loops_find 26 [(2, .int g2617), (0, .ref q1197), (1, .ref q1198)] [] [(q1197, .inr (11, [.ref q1199, .ref q1200, .ref q1201])), (q1198, .inr (5, [.ref q1202, .ref q1203, .ref q1204, .ref q1205, .ref q1206, .ref q1207, .ref q1208, .ref q1209, .ref q1210, .int p1211, .int p1212, .int p1213])), (q1202, .inl (I .int, 40, .inl f1217)), (q1203, .inl (I .int, 40, .inl f1218)), (q1204, .inl (I .int, 40, .inl f1219)), (q1205, .inl (I .int, 200, .inl f1220)), (q1206, .inl (I .int, 200, .inl f1221)), (q1207, .inl (I .int, 200, .inl f1222)), (q1208, .inl (I .int, 200, .inl f1223)), (q1209, .inl (I .int, 200, .inl f1224)), (q1210, .inl (I .int, 200, .inl f1225)), (q1199, .inl (I .long, 40, .inr (.inl f2618))), (q1200, .inl (I .long, 40, .inr (.inl f2619))), (q1201, .inl (I .int, 40, .inl f1307))] 0 0 := by
    intro n26_2619
    induction n26_2619 with
    | zero => intro g2617 f2618 f2619 bg2617 hm26_2619; exact absurd hm26_2619 (Nat.not_lt_zero _)
    | succ n26_2619 ih26_2619 =>
      intro g2617 f2618 f2619 bg2617 hm26_2619
      refine G_iload_n 0 d_cX6_find_26 rfl ?_
      refine G_aload_n 2 d_cX6_find_27 rfl ?_
      refine G_getfN 1 9 d_cX6_find_28 rfl (gk_X0 D I) (Nat.le_of_ble_eq_true rfl) (fun _ _ _ h => gn_w 40 rfl h) rfl ?_
      refine G_icmp_ge 62 d_cX6_find_31 (by decide +kernel) (fun hc2620 => ?_) (fun hc2620 => ?_)
      · have r2621 : p1211.toInt ≤ g2617.toInt := gC_le hc2620
        refine G_aload_n 1 d_cX6_find_62 rfl ?_
        refine G_getf 0 0 d_cX6_find_63 rfl (gk_X6 D I) (Nat.le_of_ble_eq_true rfl) w_1_233 rfl ?_
        refine G_lconst 1 d_cX6_find_66 rfl ?_
        refine G_lconst 0 d_cX6_find_67 rfl ?_
        refine G_callS (As := [.ref q1199, .long 1, .long 0]) (wr := [(q1197, .inr (11, [.ref q1199, .ref q1200, .ref q1201])), (q1198, .inr (5, [.ref q1202, .ref q1203, .ref q1204, .ref q1205, .ref q1206, .ref q1207, .ref q1208, .ref q1209, .ref q1210, .int p1211, .int p1212, .int p1213])), (q1202, .inl (I .int, 40, .inl f1217)), (q1203, .inl (I .int, 40, .inl f1218)), (q1204, .inl (I .int, 40, .inl f1219)), (q1205, .inl (I .int, 200, .inl f1220)), (q1206, .inl (I .int, 200, .inl f1221)), (q1207, .inl (I .int, 200, .inl f1222)), (q1208, .inl (I .int, 200, .inl f1223)), (q1209, .inl (I .int, 200, .inl f1224)), (q1210, .inl (I .int, 200, .inl f1225)), (q1200, .inl (I .long, 40, .inr (.inl f2619))), (q1201, .inl (I .int, 40, .inl f1307))]) (gV_ok D I) (ct_1314_Loops_walk l hl0 D I q1199 1 0 f2618 ) d_cX6_find_68 ⟨w_4_4, w_1_7, w_4_6, by decide, rfl, (Nat.le_of_ble_eq_true rfl), (Nat.le_of_ble_eq_true rfl)⟩ w_4_5 [11] [0, 1, 2, 3, 4, 5, 6, 7, 8, 9, 10, 12, 13] rfl rfl rfl rfl (by decide) (Nat.le_of_ble_eq_true rfl) (Nat.le_of_ble_eq_true rfl) (Nat.le_of_ble_eq_true rfl) (fun r w hp => ?_) (fun _ _ _ z => z.elim)
        obtain ⟨ol2622, rfl, rfl⟩ := hp
        change G _ _ _ _ _ _ _ (.long ol2622 :: _) _ _ _
        refine G_ws (ws' := [(q1197, .inr (11, [.ref q1199, .ref q1200, .ref q1201])), (q1198, .inr (5, [.ref q1202, .ref q1203, .ref q1204, .ref q1205, .ref q1206, .ref q1207, .ref q1208, .ref q1209, .ref q1210, .int p1211, .int p1212, .int p1213])), (q1202, .inl (I .int, 40, .inl f1217)), (q1203, .inl (I .int, 40, .inl f1218)), (q1204, .inl (I .int, 40, .inl f1219)), (q1205, .inl (I .int, 200, .inl f1220)), (q1206, .inl (I .int, 200, .inl f1221)), (q1207, .inl (I .int, 200, .inl f1222)), (q1208, .inl (I .int, 200, .inl f1223)), (q1209, .inl (I .int, 200, .inl f1224)), (q1210, .inl (I .int, 200, .inl f1225)), (q1200, .inl (I .long, 40, .inr (.inl f2619))), (q1201, .inl (I .int, 40, .inl f1307)), (q1199, .inl (I .long, 40, .inr (.inl f2618)))]) (cs' := 0) (sl' := 0) rfl rfl rfl ?_
        refine G_lstore_n (L' := [(2, .long ol2622), (0, .ref q1197), (1, .ref q1198)]) d_cX6_find_71 (Nat.le_of_ble_eq_true rfl) rfl ?_
        refine G_iconst 0 d_cX6_find_72 (by decide +kernel) ?_
        refine G_istore (L' := [(4, .int 0), (2, .long ol2622), (0, .ref q1197), (1, .ref q1198)]) d_cX6_find_73 (Nat.le_of_ble_eq_true rfl) rfl ?_
        have hlp75_2669 : ∀ (n75_2669 : Nat) (g2668 : Int32) (f2669 : Nat → Int32), gB g2668 0 40 → gF f2669 (-2147483648) 2147483647 → ((41 : Int) - g2668.toInt).toNat < n75_2669 → G (gV D I) l (gRm 2 59 0 0) (gM (gV D I) (po_1226_Loops_find I q1197 q1198 q1199 q1200 q1201 q1202 q1203 q1204 q1205 q1206 q1207 q1208 q1209 q1210 p1211 p1212 p1213 f1214 f1215 f1216 f1217 f1218 f1219 f1220 f1221 f1222 f1223 f1224 f1225) gN 0 0) ky_1226_Loops_find 75 [(4, .int g2668), (2, .long ol2622), (0, .ref q1197), (1, .ref q1198)] [] [(q1197, .inr (11, [.ref q1199, .ref q1200, .ref q1201])), (q1198, .inr (5, [.ref q1202, .ref q1203, .ref q1204, .ref q1205, .ref q1206, .ref q1207, .ref q1208, .ref q1209, .ref q1210, .int p1211, .int p1212, .int p1213])), (q1202, .inl (I .int, 40, .inl f1217)), (q1203, .inl (I .int, 40, .inl f1218)), (q1204, .inl (I .int, 40, .inl f1219)), (q1205, .inl (I .int, 200, .inl f1220)), (q1206, .inl (I .int, 200, .inl f1221)), (q1207, .inl (I .int, 200, .inl f1222)), (q1208, .inl (I .int, 200, .inl f1223)), (q1209, .inl (I .int, 200, .inl f1224)), (q1210, .inl (I .int, 200, .inl f1225)), (q1200, .inl (I .long, 40, .inr (.inl f2619))), (q1201, .inl (I .int, 40, .inl f2669)), (q1199, .inl (I .long, 40, .inr (.inl f2618)))] 0 0 := by
          intro n75_2669
          induction n75_2669 with
          | zero => intro g2668 f2669 bg2668 bf2669 hm75_2669; exact absurd hm75_2669 (Nat.not_lt_zero _)
          | succ n75_2669 ih75_2669 =>
            intro g2668 f2669 bg2668 bf2669 hm75_2669
            refine G_iload 0 d_cX6_find_75 rfl ?_
            refine G_aload_n 3 d_cX6_find_77 rfl ?_
            refine G_getfN 1 9 d_cX6_find_78 rfl (gk_X0 D I) (Nat.le_of_ble_eq_true rfl) (fun _ _ _ h => gn_w 40 rfl h) rfl ?_
            refine G_icmp_ge 101 d_cX6_find_81 (by decide +kernel) (fun hc2670 => ?_) (fun hc2670 => ?_)
            · have r2671 : p1211.toInt ≤ g2668.toInt := gC_le hc2670
              refine G_sub (ws' := [(q1197, .inr (11, [.ref q1199, .ref q1200, .ref q1201])), (q1198, .inr (5, [.ref q1202, .ref q1203, .ref q1204, .ref q1205, .ref q1206, .ref q1207, .ref q1208, .ref q1209, .ref q1210, .int p1211, .int p1212, .int p1213])), (q1199, .inl (I .long, 40, .inr (.inl f2618))), (q1200, .inl (I .long, 40, .inr (.inl f2619))), (q1201, .inl (I .int, 40, .inl f2669)), (q1202, .inl (I .int, 40, .inl f1217)), (q1203, .inl (I .int, 40, .inl f1218)), (q1204, .inl (I .int, 40, .inl f1219)), (q1205, .inl (I .int, 200, .inl f1220)), (q1206, .inl (I .int, 200, .inl f1221)), (q1207, .inl (I .int, 200, .inl f1222)), (q1208, .inl (I .int, 200, .inl f1223)), (q1209, .inl (I .int, 200, .inl f1224)), (q1210, .inl (I .int, 200, .inl f1225))]) [0, 1, 13, 11, 12, 2, 3, 4, 5, 6, 7, 8, 9, 10] rfl rfl ?_
              exact G_vret d_cX6_find_101 rfl (Nat.le_of_ble_eq_true rfl) (Nat.le_of_ble_eq_true rfl) ⟨f2618, f2619, f2669, rfl, rfl, bf2669⟩
            · have r2672 : g2668.toInt < p1211.toInt := gC_nle hc2670
              have bg2668' : gB g2668 0 39 := ⟨by omega, by omega⟩
              have bp1211' : gB p1211 1 40 := ⟨by omega, by omega⟩
              refine G_aload_n 2 d_cX6_find_84 rfl ?_
              refine G_aload_n 2 d_cX6_find_85 rfl ?_
              refine G_iload 0 d_cX6_find_86 rfl ?_
              refine G_lload_n 1 d_cX6_find_88 rfl ?_
              refine G_callV (As := [.int g2668, .long ol2622]) (wr := [(q1198, .inr (5, [.ref q1202, .ref q1203, .ref q1204, .ref q1205, .ref q1206, .ref q1207, .ref q1208, .ref q1209, .ref q1210, .int p1211, .int p1212, .int p1213])), (q1202, .inl (I .int, 40, .inl f1217)), (q1203, .inl (I .int, 40, .inl f1218)), (q1204, .inl (I .int, 40, .inl f1219)), (q1205, .inl (I .int, 200, .inl f1220)), (q1206, .inl (I .int, 200, .inl f1221)), (q1207, .inl (I .int, 200, .inl f1222)), (q1208, .inl (I .int, 200, .inl f1223)), (q1209, .inl (I .int, 200, .inl f1224)), (q1210, .inl (I .int, 200, .inl f1225))]) (gV_ok D I) (ct_2214_Loops_loopOf l hl0 D I q1197 q1199 q1200 q1201 g2668 ol2622 f2618 f2619 f2669 bg2668') d_cX6_find_89 ⟨w_4_8, w_1_7, w_4_11, by decide, rfl, (Nat.le_of_ble_eq_true rfl), (Nat.le_of_ble_eq_true rfl)⟩ w_4_10 w_p_27 0 rfl rfl [0, 13, 11, 12] [1, 2, 3, 4, 5, 6, 7, 8, 9, 10] rfl rfl rfl rfl (by decide) (Nat.le_of_ble_eq_true rfl) (Nat.le_of_ble_eq_true rfl) (Nat.le_of_ble_eq_true rfl) (fun r w hp => ?_) (fun _ _ _ z => z.elim)
              obtain ⟨ol2673, rfl, rfl⟩ := hp
              change G _ _ _ _ _ _ _ (.long ol2673 :: _) _ _ _
              refine G_ws (ws' := [(q1198, .inr (5, [.ref q1202, .ref q1203, .ref q1204, .ref q1205, .ref q1206, .ref q1207, .ref q1208, .ref q1209, .ref q1210, .int p1211, .int p1212, .int p1213])), (q1202, .inl (I .int, 40, .inl f1217)), (q1203, .inl (I .int, 40, .inl f1218)), (q1204, .inl (I .int, 40, .inl f1219)), (q1205, .inl (I .int, 200, .inl f1220)), (q1206, .inl (I .int, 200, .inl f1221)), (q1207, .inl (I .int, 200, .inl f1222)), (q1208, .inl (I .int, 200, .inl f1223)), (q1209, .inl (I .int, 200, .inl f1224)), (q1210, .inl (I .int, 200, .inl f1225)), (q1197, .inr (11, [.ref q1199, .ref q1200, .ref q1201])), (q1199, .inl (I .long, 40, .inr (.inl f2618))), (q1200, .inl (I .long, 40, .inr (.inl f2619))), (q1201, .inl (I .int, 40, .inl f2669))]) (cs' := 0) (sl' := 0) rfl rfl rfl ?_
              refine G_callV (As := [.long ol2673]) (wr := [(q1198, .inr (5, [.ref q1202, .ref q1203, .ref q1204, .ref q1205, .ref q1206, .ref q1207, .ref q1208, .ref q1209, .ref q1210, .int p1211, .int p1212, .int p1213])), (q1202, .inl (I .int, 40, .inl f1217)), (q1203, .inl (I .int, 40, .inl f1218)), (q1204, .inl (I .int, 40, .inl f1219)), (q1205, .inl (I .int, 200, .inl f1220)), (q1206, .inl (I .int, 200, .inl f1221)), (q1207, .inl (I .int, 200, .inl f1222)), (q1208, .inl (I .int, 200, .inl f1223)), (q1209, .inl (I .int, 200, .inl f1224)), (q1210, .inl (I .int, 200, .inl f1225))]) (gV_ok D I) (ct_2239_Loops_deepen l hl0 D I q1197 q1199 q1200 q1201 ol2673 f2618 f2619 f2669 ) d_cX6_find_92 ⟨w_4_12, w_1_7, w_4_15, by decide, rfl, (Nat.le_of_ble_eq_true rfl), (Nat.le_of_ble_eq_true rfl)⟩ w_4_14 w_p_28 10 rfl rfl [10, 11, 12, 13] [0, 1, 2, 3, 4, 5, 6, 7, 8, 9] rfl rfl rfl rfl (by decide) (Nat.le_of_ble_eq_true rfl) (Nat.le_of_ble_eq_true rfl) (Nat.le_of_ble_eq_true rfl) (fun r w hp => ?_) (fun _ _ _ z => z.elim)
              obtain ⟨f2674, rfl, rfl, bf2674⟩ := hp
              change G _ _ _ _ _ _ _ _ _ _ _
              refine G_ws (ws' := [(q1198, .inr (5, [.ref q1202, .ref q1203, .ref q1204, .ref q1205, .ref q1206, .ref q1207, .ref q1208, .ref q1209, .ref q1210, .int p1211, .int p1212, .int p1213])), (q1202, .inl (I .int, 40, .inl f1217)), (q1203, .inl (I .int, 40, .inl f1218)), (q1204, .inl (I .int, 40, .inl f1219)), (q1205, .inl (I .int, 200, .inl f1220)), (q1206, .inl (I .int, 200, .inl f1221)), (q1207, .inl (I .int, 200, .inl f1222)), (q1208, .inl (I .int, 200, .inl f1223)), (q1209, .inl (I .int, 200, .inl f1224)), (q1210, .inl (I .int, 200, .inl f1225)), (q1197, .inr (11, [.ref q1199, .ref q1200, .ref q1201])), (q1199, .inl (I .long, 40, .inr (.inl f2618))), (q1200, .inl (I .long, 40, .inr (.inl f2619))), (q1201, .inl (I .int, 40, .inl f2674))]) (cs' := 0) (sl' := 0) rfl rfl rfl ?_
              obtain ⟨z2675, hz2675⟩ : ∃ z : Int32, z = g2668 + Int32.ofInt 1 := ⟨_, rfl⟩
              have ez2675 : z2675.toInt = g2668.toInt + 1 := gI_inc hz2675 (by decide) bg2668' (by decide) (by decide)
              have bz2675 : gB z2675 1 40 := ⟨by omega, by omega⟩
              refine G_iinc (L' := [(4, .int z2675), (2, .long ol2622), (0, .ref q1197), (1, .ref q1198)]) z2675 0 d_cX6_find_95 rfl hz2675.symm (Nat.le_of_ble_eq_true rfl) rfl ?_
              refine G_goto 75 d_cX6_find_98 (by decide +kernel) ?_
              refine G_sub (ws' := [(q1197, .inr (11, [.ref q1199, .ref q1200, .ref q1201])), (q1198, .inr (5, [.ref q1202, .ref q1203, .ref q1204, .ref q1205, .ref q1206, .ref q1207, .ref q1208, .ref q1209, .ref q1210, .int p1211, .int p1212, .int p1213])), (q1202, .inl (I .int, 40, .inl f1217)), (q1203, .inl (I .int, 40, .inl f1218)), (q1204, .inl (I .int, 40, .inl f1219)), (q1205, .inl (I .int, 200, .inl f1220)), (q1206, .inl (I .int, 200, .inl f1221)), (q1207, .inl (I .int, 200, .inl f1222)), (q1208, .inl (I .int, 200, .inl f1223)), (q1209, .inl (I .int, 200, .inl f1224)), (q1210, .inl (I .int, 200, .inl f1225)), (q1200, .inl (I .long, 40, .inr (.inl f2619))), (q1201, .inl (I .int, 40, .inl f2674)), (q1199, .inl (I .long, 40, .inr (.inl f2618)))]) [10, 0, 1, 2, 3, 4, 5, 6, 7, 8, 9, 12, 13, 11] rfl rfl ?_
              exact ih75_2669 z2675 f2674 (gB_w bz2675 (by decide) (by decide)) bf2674 (by omega)
        exact hlp75_2669 (((41 : Int) - 0).toNat + 1) 0 f1307 (gB_w (gBl (show Int32.toInt 0 = 0 by decide)) (by decide) (by decide)) bf1307 (Nat.lt_succ_self _)
      · have r2676 : g2617.toInt < p1211.toInt := gC_nle hc2620
        have bg2617' : gB g2617 0 39 := ⟨by omega, by omega⟩
        have bp1211' : gB p1211 1 40 := ⟨by omega, by omega⟩
        refine G_aload_n 1 d_cX6_find_34 rfl ?_
        refine G_iload_n 0 d_cX6_find_35 rfl ?_
        refine G_aload_n 2 d_cX6_find_36 rfl ?_
        refine G_getfN 1 1 d_cX6_find_37 rfl (gk_X0 D I) (Nat.le_of_ble_eq_true rfl) (fun _ _ _ h => gn_w 7 rfl h) rfl ?_
        refine G_iload_n 0 d_cX6_find_40 rfl ?_
        refine G_iald 3 0 d_cX6_find_41 rfl rfl (gB_in bg2617' (by decide) (by decide)) (G_nam fun z2677 hz2677 => ?_)
        have bz2677 : gB z2677 (-2147483648) 2147483647 := gB_any z2677
        refine G_callV (As := [.int g2617, .int z2677]) (wr := [(q1198, .inr (5, [.ref q1202, .ref q1203, .ref q1204, .ref q1205, .ref q1206, .ref q1207, .ref q1208, .ref q1209, .ref q1210, .int p1211, .int p1212, .int p1213])), (q1202, .inl (I .int, 40, .inl f1217)), (q1203, .inl (I .int, 40, .inl f1218)), (q1204, .inl (I .int, 40, .inl f1219)), (q1205, .inl (I .int, 200, .inl f1220)), (q1206, .inl (I .int, 200, .inl f1221)), (q1207, .inl (I .int, 200, .inl f1222)), (q1208, .inl (I .int, 200, .inl f1223)), (q1209, .inl (I .int, 200, .inl f1224)), (q1210, .inl (I .int, 200, .inl f1225))]) (gV_ok D I) (ct_2174_Loops_link l hl0 D I q1197 q1199 q1200 q1201 g2617 z2677 f2618 f2619 f1307 bg2617') d_cX6_find_42 ⟨w_4_0, w_1_7, w_4_3, by decide, rfl, (Nat.le_of_ble_eq_true rfl), (Nat.le_of_ble_eq_true rfl)⟩ w_4_2 w_p_26 0 rfl rfl [0, 11, 12, 13] [1, 2, 3, 4, 5, 6, 7, 8, 9, 10] rfl rfl rfl rfl (by decide) (Nat.le_of_ble_eq_true rfl) (Nat.le_of_ble_eq_true rfl) (Nat.le_of_ble_eq_true rfl) (fun r w hp => ?_) (fun _ _ _ z => z.elim)
        obtain ⟨f2678, f2679, rfl, rfl⟩ := hp
        change G _ _ _ _ _ _ _ _ _ _ _
        refine G_ws (ws' := [(q1198, .inr (5, [.ref q1202, .ref q1203, .ref q1204, .ref q1205, .ref q1206, .ref q1207, .ref q1208, .ref q1209, .ref q1210, .int p1211, .int p1212, .int p1213])), (q1202, .inl (I .int, 40, .inl f1217)), (q1203, .inl (I .int, 40, .inl f1218)), (q1204, .inl (I .int, 40, .inl f1219)), (q1205, .inl (I .int, 200, .inl f1220)), (q1206, .inl (I .int, 200, .inl f1221)), (q1207, .inl (I .int, 200, .inl f1222)), (q1208, .inl (I .int, 200, .inl f1223)), (q1209, .inl (I .int, 200, .inl f1224)), (q1210, .inl (I .int, 200, .inl f1225)), (q1197, .inr (11, [.ref q1199, .ref q1200, .ref q1201])), (q1199, .inl (I .long, 40, .inr (.inl f2678))), (q1200, .inl (I .long, 40, .inr (.inl f2679))), (q1201, .inl (I .int, 40, .inl f1307))]) (cs' := 0) (sl' := 0) rfl rfl rfl ?_
        refine G_aload_n 1 d_cX6_find_45 rfl ?_
        refine G_iload_n 0 d_cX6_find_46 rfl ?_
        refine G_aload_n 2 d_cX6_find_47 rfl ?_
        refine G_getfN 0 2 d_cX6_find_48 rfl (gk_X0 D I) (Nat.le_of_ble_eq_true rfl) (fun _ _ _ h => gn_w 11 rfl h) rfl ?_
        refine G_iload_n 0 d_cX6_find_51 rfl ?_
        refine G_iald 3 0 d_cX6_find_52 rfl rfl (gB_in bg2617' (by decide) (by decide)) (G_nam fun z2680 hz2680 => ?_)
        have bz2680 : gB z2680 (-2147483648) 2147483647 := gB_any z2680
        refine G_callV (As := [.int g2617, .int z2680]) (wr := [(q1198, .inr (5, [.ref q1202, .ref q1203, .ref q1204, .ref q1205, .ref q1206, .ref q1207, .ref q1208, .ref q1209, .ref q1210, .int p1211, .int p1212, .int p1213])), (q1202, .inl (I .int, 40, .inl f1217)), (q1203, .inl (I .int, 40, .inl f1218)), (q1204, .inl (I .int, 40, .inl f1219)), (q1205, .inl (I .int, 200, .inl f1220)), (q1206, .inl (I .int, 200, .inl f1221)), (q1207, .inl (I .int, 200, .inl f1222)), (q1208, .inl (I .int, 200, .inl f1223)), (q1209, .inl (I .int, 200, .inl f1224)), (q1210, .inl (I .int, 200, .inl f1225))]) (gV_ok D I) (ct_2174_Loops_link l hl0 D I q1197 q1199 q1200 q1201 g2617 z2680 f2678 f2679 f1307 bg2617') d_cX6_find_53 ⟨w_4_0, w_1_7, w_4_3, by decide, rfl, (Nat.le_of_ble_eq_true rfl), (Nat.le_of_ble_eq_true rfl)⟩ w_4_2 w_p_26 10 rfl rfl [10, 11, 12, 13] [0, 1, 2, 3, 4, 5, 6, 7, 8, 9] rfl rfl rfl rfl (by decide) (Nat.le_of_ble_eq_true rfl) (Nat.le_of_ble_eq_true rfl) (Nat.le_of_ble_eq_true rfl) (fun r w hp => ?_) (fun _ _ _ z => z.elim)
        obtain ⟨f2681, f2682, rfl, rfl⟩ := hp
        change G _ _ _ _ _ _ _ _ _ _ _
        refine G_ws (ws' := [(q1198, .inr (5, [.ref q1202, .ref q1203, .ref q1204, .ref q1205, .ref q1206, .ref q1207, .ref q1208, .ref q1209, .ref q1210, .int p1211, .int p1212, .int p1213])), (q1202, .inl (I .int, 40, .inl f1217)), (q1203, .inl (I .int, 40, .inl f1218)), (q1204, .inl (I .int, 40, .inl f1219)), (q1205, .inl (I .int, 200, .inl f1220)), (q1206, .inl (I .int, 200, .inl f1221)), (q1207, .inl (I .int, 200, .inl f1222)), (q1208, .inl (I .int, 200, .inl f1223)), (q1209, .inl (I .int, 200, .inl f1224)), (q1210, .inl (I .int, 200, .inl f1225)), (q1197, .inr (11, [.ref q1199, .ref q1200, .ref q1201])), (q1199, .inl (I .long, 40, .inr (.inl f2681))), (q1200, .inl (I .long, 40, .inr (.inl f2682))), (q1201, .inl (I .int, 40, .inl f1307))]) (cs' := 0) (sl' := 0) rfl rfl rfl ?_
        obtain ⟨z2683, hz2683⟩ : ∃ z : Int32, z = g2617 + Int32.ofInt 1 := ⟨_, rfl⟩
        have ez2683 : z2683.toInt = g2617.toInt + 1 := gI_inc hz2683 (by decide) bg2617' (by decide) (by decide)
        have bz2683 : gB z2683 1 40 := ⟨by omega, by omega⟩
        refine G_iinc (L' := [(2, .int z2683), (0, .ref q1197), (1, .ref q1198)]) z2683 0 d_cX6_find_56 rfl hz2683.symm (Nat.le_of_ble_eq_true rfl) rfl ?_
        refine G_goto 26 d_cX6_find_59 (by decide +kernel) ?_
        refine G_sub (ws' := [(q1197, .inr (11, [.ref q1199, .ref q1200, .ref q1201])), (q1198, .inr (5, [.ref q1202, .ref q1203, .ref q1204, .ref q1205, .ref q1206, .ref q1207, .ref q1208, .ref q1209, .ref q1210, .int p1211, .int p1212, .int p1213])), (q1202, .inl (I .int, 40, .inl f1217)), (q1203, .inl (I .int, 40, .inl f1218)), (q1204, .inl (I .int, 40, .inl f1219)), (q1205, .inl (I .int, 200, .inl f1220)), (q1206, .inl (I .int, 200, .inl f1221)), (q1207, .inl (I .int, 200, .inl f1222)), (q1208, .inl (I .int, 200, .inl f1223)), (q1209, .inl (I .int, 200, .inl f1224)), (q1210, .inl (I .int, 200, .inl f1225)), (q1199, .inl (I .long, 40, .inr (.inl f2681))), (q1200, .inl (I .long, 40, .inr (.inl f2682))), (q1201, .inl (I .int, 40, .inl f1307))]) [10, 0, 1, 2, 3, 4, 5, 6, 7, 8, 9, 11, 12, 13] rfl rfl ?_
        exact ih26_2619 z2683 f2681 f2682 (gB_w bz2683 (by decide) (by decide)) (by omega)
  exact hlp26_2619 (((41 : Int) - 0).toNat + 1) 0 f1266 f1267 (gB_w (gBl (show Int32.toInt 0 = 0 by decide)) (by decide) (by decide)) (Nat.lt_succ_self _)
abbrev ky_2707_Machine_takeInput : gKey := (cX7_takeInput, 3, yX7_takeInput.cls, (some FieldType.int), [], yX7_takeInput.name, fun _ _ => True)
abbrev po_2707_Machine_takeInput (I : FieldType → ClassId) (q2687 : Nat) (q2688 : Nat) (q2689 : Nat) (q2690 : Nat) (q2691 : Nat) (q2692 : Nat) (q2693 : Nat) (p2694 : Int32) (p2695 : Int32) (p2696 : Int32) (p2697 : Int32) (p2698 : Int32) (p2699 : Int32) (p2700 : Int32) (p2701 : Int32) (f2702 : Nat → Int32) (f2703 : Nat → Int32) (f2704 : Nat → Int32) (f2705 : Nat → Int32) (f2706 : Nat → Int32) : Option Value → va_W → Prop := fun r w => ∃ (o2771 : Int32) (o2769 : Int32) (f2770 : Nat → Int32), r = some (.int o2771) ∧ w = [(q2687, .inr (12, [.ref q2689, .ref q2690, .ref q2691, .ref q2692, .int o2769, .int p2695, .int p2696, .int p2697, .int p2698, .int p2699, .int p2700])), (q2688, .inr (15, [.ref q2693, .int p2701])), (q2689, .inl (I .int, 2048, .inl f2770)), (q2690, .inl (I .int, 100, .inl f2703)), (q2691, .inl (I .int, 100, .inl f2704)), (q2692, .inl (I .int, 512, .inl f2705)), (q2693, .inl (I .byte, 8192, .inl f2706))] ∧ gB o2771 0 2048 ∧ gB o2769 0 2048 ∧ gF f2770 (-2147483648) 2147483647
set_option maxRecDepth 100000 in
set_option maxHeartbeats 4000000 in
theorem ct_2707_Machine_takeInput (l : Launch) (hl0 : l.stackTraces = false) (D : va_G) (I : FieldType → ClassId) (q2687 : Nat) (q2688 : Nat) (q2689 : Nat) (q2690 : Nat) (q2691 : Nat) (q2692 : Nat) (q2693 : Nat) (p2694 : Int32) (p2695 : Int32) (p2696 : Int32) (p2697 : Int32) (p2698 : Int32) (p2699 : Int32) (p2700 : Int32) (p2701 : Int32) (f2702 : Nat → Int32) (f2703 : Nat → Int32) (f2704 : Nat → Int32) (f2705 : Nat → Int32) (f2706 : Nat → Int32) (bp2694 : gB p2694 0 2048) (bp2695 : gB p2695 0 39) (bp2697 : gB p2697 0 512) (bp2699 : gB p2699 0 2048) (bp2701 : gB p2701 0 8192) (bf2706 : gF f2706 (-128) 127) : Ct (gV D I) l yX7_takeInput cX7_takeInput 3 (some FieldType.int) 2 44 0 0 [.ref q2687, .ref q2688] [(q2687, .inr (12, [.ref q2689, .ref q2690, .ref q2691, .ref q2692, .int p2694, .int p2695, .int p2696, .int p2697, .int p2698, .int p2699, .int p2700])), (q2688, .inr (15, [.ref q2693, .int p2701])), (q2689, .inl (I .int, 2048, .inl f2702)), (q2690, .inl (I .int, 100, .inl f2703)), (q2691, .inl (I .int, 100, .inl f2704)), (q2692, .inl (I .int, 512, .inl f2705)), (q2693, .inl (I .byte, 8192, .inl f2706))] (po_2707_Machine_takeInput I q2687 q2688 q2689 q2690 q2691 q2692 q2693 p2694 p2695 p2696 p2697 p2698 p2699 p2700 p2701 f2702 f2703 f2704 f2705 f2706) gN := by
  refine Ct_of hl0 (by decide) (Nat.le_of_ble_eq_true rfl) ?_
  have bp2696 := gB_any p2696
  have bp2698 := gB_any p2698
  have bp2700 := gB_any p2700
  refine G_aload_n 0 d_cX7_takeInput_0 rfl ?_
  refine G_aload_n 1 d_cX7_takeInput_1 rfl ?_
  refine G_callV (As := []) (wr := [(q2687, .inr (12, [.ref q2689, .ref q2690, .ref q2691, .ref q2692, .int p2694, .int p2695, .int p2696, .int p2697, .int p2698, .int p2699, .int p2700])), (q2689, .inl (I .int, 2048, .inl f2702)), (q2690, .inl (I .int, 100, .inl f2703)), (q2691, .inl (I .int, 100, .inl f2704)), (q2692, .inl (I .int, 512, .inl f2705))]) (gV_ok D I) (ct_5_Tape_size l hl0 D I q2688 q2693 p2701 f2706 bp2701 bf2706) d_cX7_takeInput_2 ⟨w_4_176, w_1_2, w_3_19, by decide, rfl, (Nat.le_of_ble_eq_true rfl), (Nat.le_of_ble_eq_true rfl)⟩ w_3_17 w_3_18 1 rfl rfl [1, 6] [0, 2, 3, 4, 5] rfl rfl rfl rfl (by decide) (Nat.le_of_ble_eq_true rfl) (Nat.le_of_ble_eq_true rfl) (Nat.le_of_ble_eq_true rfl) (fun r w hp => ?_) (fun _ _ _ z => z.elim)
  obtain ⟨rfl, rfl⟩ := hp
  change G _ _ _ _ _ _ _ (.int p2701 :: _) _ _ _
  refine G_ws (ws' := [(q2687, .inr (12, [.ref q2689, .ref q2690, .ref q2691, .ref q2692, .int p2694, .int p2695, .int p2696, .int p2697, .int p2698, .int p2699, .int p2700])), (q2689, .inl (I .int, 2048, .inl f2702)), (q2690, .inl (I .int, 100, .inl f2703)), (q2691, .inl (I .int, 100, .inl f2704)), (q2692, .inl (I .int, 512, .inl f2705)), (q2688, .inr (15, [.ref q2693, .int p2701])), (q2693, .inl (I .byte, 8192, .inl f2706))]) (cs' := 0) (sl' := 0) rfl rfl rfl ?_
  refine G_iconst 4 d_cX7_takeInput_5 (by decide +kernel) ?_
  refine G_idiv d_cX7_takeInput_6 (by decide) (G_nam fun z2708 hz2708 => ?_)
  have ez2708 : z2708.toInt = p2701.toInt / 4 := gI_div hz2708 bp2701 (by decide) (by decide) (by decide)
  have bz2708 : gB z2708 0 2048 := ⟨by omega, by omega⟩
  refine G_aload_n 0 d_cX7_takeInput_7 rfl ?_
  refine G_getf 0 0 d_cX7_takeInput_8 rfl (gk_X7 D I) (Nat.le_of_ble_eq_true rfl) w_2_160 rfl ?_
  refine G_alen 2048 1 0 d_cX7_takeInput_11 rfl rfl rfl ?_
  refine G_mmin d_cX7_takeInput_12 w_4_177 w_3_227 w_1_6 w_3_228 (Nat.le_of_ble_eq_true rfl) (Nat.le_of_ble_eq_true rfl) (Nat.le_of_ble_eq_true rfl) (Nat.le_of_ble_eq_true rfl) (G_nam fun z2709 hz2709 => ?_)
  have ez2709 : z2708.toInt ≥ z2709.toInt ∧ 2048 ≥ z2709.toInt ∧ (z2709.toInt = z2708.toInt ∨ z2709.toInt = 2048) := by have := gI_min hz2709; rw [show Int32.toInt 2048 = 2048 from by decide] at this; omega
  have bz2709 : gB z2709 0 2048 := ⟨by omega, by omega⟩
  refine G_putf (ws' := [(q2687, .inr (12, [.ref q2689, .ref q2690, .ref q2691, .ref q2692, .int z2709, .int p2695, .int p2696, .int p2697, .int p2698, .int p2699, .int p2700])), (q2689, .inl (I .int, 2048, .inl f2702)), (q2690, .inl (I .int, 100, .inl f2703)), (q2691, .inl (I .int, 100, .inl f2704)), (q2692, .inl (I .int, 512, .inl f2705)), (q2688, .inr (15, [.ref q2693, .int p2701])), (q2693, .inl (I .byte, 8192, .inl f2706))]) 0 4 d_cX7_takeInput_15 rfl (gk_X7 D I) (Nat.le_of_ble_eq_true rfl) w_2_164 rfl rfl rfl (Nat.le_of_ble_eq_true rfl) rfl ?_
  refine G_iconst 0 d_cX7_takeInput_18 (by decide +kernel) ?_
  refine G_istore_n (L' := [(2, .int 0), (0, .ref q2687), (1, .ref q2688)]) d_cX7_takeInput_19 (Nat.le_of_ble_eq_true rfl) rfl ?_
  have hlp20_2761 : ∀ (n20_2761 : Nat) (g2760 : Int32) (f2761 : Nat → Int32), gB g2760 0 2048 → gF f2761 (-2147483648) 2147483647 → ((2049 : Int) - g2760.toInt).toNat < n20_2761 → G (gV D I) l (gRm 2 44 0 0) (gM (gV D I) (po_2707_Machine_takeInput I q2687 q2688 q2689 q2690 q2691 q2692 q2693 p2694 p2695 p2696 p2697 p2698 p2699 p2700 p2701 f2702 f2703 f2704 f2705 f2706) gN 0 0) ky_2707_Machine_takeInput 20 [(2, .int g2760), (0, .ref q2687), (1, .ref q2688)] [] [(q2687, .inr (12, [.ref q2689, .ref q2690, .ref q2691, .ref q2692, .int z2709, .int p2695, .int p2696, .int p2697, .int p2698, .int p2699, .int p2700])), (q2689, .inl (I .int, 2048, .inl f2761)), (q2690, .inl (I .int, 100, .inl f2703)), (q2691, .inl (I .int, 100, .inl f2704)), (q2692, .inl (I .int, 512, .inl f2705)), (q2688, .inr (15, [.ref q2693, .int p2701])), (q2693, .inl (I .byte, 8192, .inl f2706))] 0 0 := by
    intro n20_2761
    induction n20_2761 with
    | zero => intro g2760 f2761 bg2760 bf2761 hm20_2761; exact absurd hm20_2761 (Nat.not_lt_zero _)
    | succ n20_2761 ih20_2761 =>
      intro g2760 f2761 bg2760 bf2761 hm20_2761
      refine G_iload_n 0 d_cX7_takeInput_20 rfl ?_
      refine G_aload_n 1 d_cX7_takeInput_21 rfl ?_
      refine G_getf 0 4 d_cX7_takeInput_22 rfl (gk_X7 D I) (Nat.le_of_ble_eq_true rfl) w_2_164 rfl ?_
      refine G_icmp_ge 47 d_cX7_takeInput_25 (by decide +kernel) (fun hc2762 => ?_) (fun hc2762 => ?_)
      · have r2763 : z2709.toInt ≤ g2760.toInt := gC_le hc2762
        refine G_aload_n 1 d_cX7_takeInput_47 rfl ?_
        refine G_getf 0 4 d_cX7_takeInput_48 rfl (gk_X7 D I) (Nat.le_of_ble_eq_true rfl) w_2_164 rfl ?_
        refine G_sub (ws' := [(q2687, .inr (12, [.ref q2689, .ref q2690, .ref q2691, .ref q2692, .int z2709, .int p2695, .int p2696, .int p2697, .int p2698, .int p2699, .int p2700])), (q2688, .inr (15, [.ref q2693, .int p2701])), (q2689, .inl (I .int, 2048, .inl f2761)), (q2690, .inl (I .int, 100, .inl f2703)), (q2691, .inl (I .int, 100, .inl f2704)), (q2692, .inl (I .int, 512, .inl f2705)), (q2693, .inl (I .byte, 8192, .inl f2706))]) [0, 5, 1, 2, 3, 4, 6] rfl rfl ?_
        exact G_iret d_cX7_takeInput_51 rfl (Nat.le_of_ble_eq_true rfl) (Nat.le_of_ble_eq_true rfl) ⟨z2709, z2709, f2761, rfl, rfl, bz2709, bz2709, bf2761⟩
      · have r2764 : g2760.toInt < z2709.toInt := gC_nle hc2762
        have bg2760' : gB g2760 0 2047 := ⟨by omega, by omega⟩
        have bz2709' : gB z2709 1 2048 := ⟨by omega, by omega⟩
        refine G_aload_n 1 d_cX7_takeInput_28 rfl ?_
        refine G_getf 0 0 d_cX7_takeInput_29 rfl (gk_X7 D I) (Nat.le_of_ble_eq_true rfl) w_2_160 rfl ?_
        refine G_iload_n 0 d_cX7_takeInput_32 rfl ?_
        refine G_aload_n 2 d_cX7_takeInput_33 rfl ?_
        refine G_iconst 4 d_cX7_takeInput_34 (by decide +kernel) ?_
        refine G_iload_n 0 d_cX7_takeInput_35 rfl ?_
        refine G_imul d_cX7_takeInput_36 (G_nam fun z2765 hz2765 => ?_)
        have ez2765 : z2765.toInt = 4 * g2760.toInt := by rw [gI_mul hz2765 (gBl (show Int32.toInt 4 = 4 by decide)) bg2760' (by decide) (by decide) (by decide), show Int32.toInt 4 = 4 from by decide]
        have bz2765 : gB z2765 0 8188 := gB_mul hz2765 (gBl (show Int32.toInt 4 = 4 by decide)) bg2760' (by decide) (by decide) (by decide) (by decide)
        refine G_callV (As := [.int z2765]) (wr := [(q2687, .inr (12, [.ref q2689, .ref q2690, .ref q2691, .ref q2692, .int z2709, .int p2695, .int p2696, .int p2697, .int p2698, .int p2699, .int p2700])), (q2689, .inl (I .int, 2048, .inl f2761)), (q2690, .inl (I .int, 100, .inl f2703)), (q2691, .inl (I .int, 100, .inl f2704)), (q2692, .inl (I .int, 512, .inl f2705))]) (gV_ok D I) (ct_134_Tape_intAt l hl0 D I q2688 q2693 z2765 p2701 f2706 bp2701 bf2706) d_cX7_takeInput_37 ⟨w_4_178, w_1_2, w_4_181, by decide, rfl, (Nat.le_of_ble_eq_true rfl), (Nat.le_of_ble_eq_true rfl)⟩ w_4_179 w_4_180 5 rfl rfl [5, 6] [0, 1, 2, 3, 4] rfl rfl rfl rfl (by decide) (Nat.le_of_ble_eq_true rfl) (Nat.le_of_ble_eq_true rfl) (Nat.le_of_ble_eq_true rfl) (fun r w hp => ?_) (fun _ _ _ z => z.elim)
        obtain ⟨o2766, rfl, rfl, bo2766⟩ := hp
        change G _ _ _ _ _ _ _ (.int o2766 :: _) _ _ _
        refine G_ws (ws' := [(q2687, .inr (12, [.ref q2689, .ref q2690, .ref q2691, .ref q2692, .int z2709, .int p2695, .int p2696, .int p2697, .int p2698, .int p2699, .int p2700])), (q2689, .inl (I .int, 2048, .inl f2761)), (q2690, .inl (I .int, 100, .inl f2703)), (q2691, .inl (I .int, 100, .inl f2704)), (q2692, .inl (I .int, 512, .inl f2705)), (q2688, .inr (15, [.ref q2693, .int p2701])), (q2693, .inl (I .byte, 8192, .inl f2706))]) (cs' := 0) (sl' := 0) rfl rfl rfl ?_
        refine G_iastN 1 0 d_cX7_takeInput_40 rfl rfl (gB_in bg2760' (by decide) (by decide)) (fun f2767 hf2767 => ?_)
        refine G_ws (ws' := [(q2687, .inr (12, [.ref q2689, .ref q2690, .ref q2691, .ref q2692, .int z2709, .int p2695, .int p2696, .int p2697, .int p2698, .int p2699, .int p2700])), (q2689, .inl (I .int, 2048, .inl f2767)), (q2690, .inl (I .int, 100, .inl f2703)), (q2691, .inl (I .int, 100, .inl f2704)), (q2692, .inl (I .int, 512, .inl f2705)), (q2688, .inr (15, [.ref q2693, .int p2701])), (q2693, .inl (I .byte, 8192, .inl f2706))]) (cs' := 0) (sl' := 0) rfl rfl rfl ?_
        obtain ⟨z2768, hz2768⟩ : ∃ z : Int32, z = g2760 + Int32.ofInt 1 := ⟨_, rfl⟩
        have ez2768 : z2768.toInt = g2760.toInt + 1 := gI_inc hz2768 (by decide) bg2760' (by decide) (by decide)
        have bz2768 : gB z2768 1 2048 := ⟨by omega, by omega⟩
        refine G_iinc (L' := [(2, .int z2768), (0, .ref q2687), (1, .ref q2688)]) z2768 0 d_cX7_takeInput_41 rfl hz2768.symm (Nat.le_of_ble_eq_true rfl) rfl ?_
        refine G_goto 20 d_cX7_takeInput_44 (by decide +kernel) ?_
        exact ih20_2761 z2768 f2767 (gB_w bz2768 (by decide) (by decide)) (gF_any f2767) (by omega)
  exact hlp20_2761 (((2049 : Int) - 0).toNat + 1) 0 f2702 (gB_w (gBl (show Int32.toInt 0 = 0 by decide)) (by decide) (by decide)) (gF_any f2702) (Nat.lt_succ_self _)
abbrev ky_2815_Arrays_fill : gKey := (cJ7_fill_53178, 4, yJ7_fill_53178.cls, none, [], yJ7_fill_53178.name, fun _ _ => True)
abbrev po_2815_Arrays_fill (I : FieldType → ClassId) (q2812 : Nat) (p2813 : Int32) (f2814 : Nat → Int32) : Option Value → va_W → Prop := fun r w => ∃ (f2850 : Nat → Int32), r = none ∧ w = [(q2812, .inl (I .int, 100, .inl f2850))] ∧ gF f2850 (-2147483648) 2147483647
set_option maxRecDepth 100000 in
set_option maxHeartbeats 4000000 in
theorem ct_2815_Arrays_fill (l : Launch) (hl0 : l.stackTraces = false) (D : va_G) (I : FieldType → ClassId) (q2812 : Nat) (p2813 : Int32) (f2814 : Nat → Int32)  : Ct (gV D I) l yJ7_fill_53178 cJ7_fill_53178 4 none 0 0 0 0 [.ref q2812, .int p2813] [(q2812, .inl (I .int, 100, .inl f2814))] (po_2815_Arrays_fill I q2812 p2813 f2814) gN := by
  refine Ct_ofF hl0 (by decide +kernel) (Nat.le_of_ble_eq_true rfl) ?_
  have bp2813 := gB_any p2813
  refine G_iconst 0 d_cJ7_fill_53178_0 (by decide +kernel) ?_
  refine G_istore_n (L' := [(2, .int 0), (0, .ref q2812), (1, .int p2813)]) d_cJ7_fill_53178_1 (Nat.le_of_ble_eq_true rfl) rfl ?_
  refine G_aload_n 1 d_cJ7_fill_53178_2 rfl ?_
  refine G_alen 100 0 0 d_cJ7_fill_53178_3 rfl rfl rfl ?_
  refine G_istore_n (L' := [(3, .int 100), (2, .int 0), (0, .ref q2812), (1, .int p2813)]) d_cJ7_fill_53178_4 (Nat.le_of_ble_eq_true rfl) rfl ?_
  have hlp5_2844 : ∀ (n5_2844 : Nat) (g2843 : Int32) (f2844 : Nat → Int32), gB g2843 0 100 → gF f2844 (-2147483648) 2147483647 → ((101 : Int) - g2843.toInt).toNat < n5_2844 → G (gV D I) l (gRm 0 0 0 0) (gM (gV D I) (po_2815_Arrays_fill I q2812 p2813 f2814) gN 0 0) ky_2815_Arrays_fill 5 [(3, .int 100), (2, .int g2843), (0, .ref q2812), (1, .int p2813)] [] [(q2812, .inl (I .int, 100, .inl f2844))] 0 0 := by
    intro n5_2844
    induction n5_2844 with
    | zero => intro g2843 f2844 bg2843 bf2844 hm5_2844; exact absurd hm5_2844 (Nat.not_lt_zero _)
    | succ n5_2844 ih5_2844 =>
      intro g2843 f2844 bg2843 bf2844 hm5_2844
      refine G_iload_n 1 d_cJ7_fill_53178_5 rfl ?_
      refine G_iload_n 0 d_cJ7_fill_53178_6 rfl ?_
      refine G_icmp_ge 20 d_cJ7_fill_53178_7 (by decide +kernel) (fun hc2845 => ?_) (fun hc2845 => ?_)
      · have r2846 : 100 ≤ g2843.toInt := gj_leL hc2845 (show Int32.toInt 100 = 100 by decide)
        have bg2843' : gB g2843 100 100 := ⟨by omega, by omega⟩
        exact G_vret d_cJ7_fill_53178_20 rfl (Nat.le_of_ble_eq_true rfl) (Nat.le_of_ble_eq_true rfl) ⟨f2844, rfl, rfl, bf2844⟩
      · have r2847 : g2843.toInt < 100 := gj_nleL hc2845 (show Int32.toInt 100 = 100 by decide)
        have bg2843' : gB g2843 0 99 := ⟨by omega, by omega⟩
        refine G_aload_n 2 d_cJ7_fill_53178_10 rfl ?_
        refine G_iload_n 1 d_cJ7_fill_53178_11 rfl ?_
        refine G_iload_n 3 d_cJ7_fill_53178_12 rfl ?_
        refine G_iastN 0 0 d_cJ7_fill_53178_13 rfl rfl (gB_in bg2843' (by decide) (by decide)) (fun f2848 hf2848 => ?_)
        refine G_ws (ws' := [(q2812, .inl (I .int, 100, .inl f2848))]) (cs' := 0) (sl' := 0) rfl rfl rfl ?_
        obtain ⟨z2849, hz2849⟩ : ∃ z : Int32, z = g2843 + Int32.ofInt 1 := ⟨_, rfl⟩
        have ez2849 : z2849.toInt = g2843.toInt + 1 := gI_inc hz2849 (by decide) bg2843' (by decide) (by decide)
        have bz2849 : gB z2849 1 100 := ⟨by omega, by omega⟩
        refine G_iinc (L' := [(2, .int z2849), (3, .int 100), (0, .ref q2812), (1, .int p2813)]) z2849 1 d_cJ7_fill_53178_14 rfl hz2849.symm (Nat.le_of_ble_eq_true rfl) rfl ?_
        refine G_goto 5 d_cJ7_fill_53178_17 (by decide +kernel) ?_
        refine G_lv (L' := [(3, .int 100), (2, .int z2849), (0, .ref q2812), (1, .int p2813)]) [1, 0, 2, 3] rfl ?_
        exact ih5_2844 z2849 f2848 (gB_w bz2849 (by decide) (by decide)) (gF_any f2848) (by have qa0 : Int32.toInt 100 = 100 := (by decide); omega)
  exact hlp5_2844 (((101 : Int) - 0).toNat + 1) 0 f2814 (gB_w (gBl (show Int32.toInt 0 = 0 by decide)) (by decide) (by decide)) (gF_any f2814) (Nat.lt_succ_self _)
abbrev ky_2872_Machine_halt : gKey := (cX7_halt, 2, yX7_halt.cls, (some FieldType.int), [], yX7_halt.name, fun _ _ => True)
abbrev po_2872_Machine_halt (I : FieldType → ClassId) (q2855 : Nat) (q2856 : Nat) (q2857 : Nat) (q2858 : Nat) (q2859 : Nat) (p2860 : Int32) (p2861 : Int32) (p2862 : Int32) (p2863 : Int32) (p2864 : Int32) (p2865 : Int32) (p2866 : Int32) (p2867 : Int32) (f2868 : Nat → Int32) (f2869 : Nat → Int32) (f2870 : Nat → Int32) (f2871 : Nat → Int32) : Option Value → va_W → Prop := fun r w => ∃ (o2873 : Int32), r = some (.int (-1)) ∧ w = [(q2855, .inr (12, [.ref q2856, .ref q2857, .ref q2858, .ref q2859, .int p2861, .int p2862, .int p2863, .int p2864, .int p2865, .int p2866, .int o2873])), (q2856, .inl (I .int, 2048, .inl f2868)), (q2857, .inl (I .int, 100, .inl f2869)), (q2858, .inl (I .int, 100, .inl f2870)), (q2859, .inl (I .int, 512, .inl f2871))] ∧ gB o2873 (-2147483648) 2147483647
set_option maxRecDepth 100000 in
set_option maxHeartbeats 4000000 in
theorem ct_2872_Machine_halt (l : Launch) (hl0 : l.stackTraces = false) (D : va_G) (I : FieldType → ClassId) (q2855 : Nat) (q2856 : Nat) (q2857 : Nat) (q2858 : Nat) (q2859 : Nat) (p2860 : Int32) (p2861 : Int32) (p2862 : Int32) (p2863 : Int32) (p2864 : Int32) (p2865 : Int32) (p2866 : Int32) (p2867 : Int32) (f2868 : Nat → Int32) (f2869 : Nat → Int32) (f2870 : Nat → Int32) (f2871 : Nat → Int32) (bp2861 : gB p2861 0 2048) (bp2862 : gB p2862 0 39) (bp2864 : gB p2864 0 512) (bp2866 : gB p2866 0 2048) : Ct (gV D I) l yX7_halt cX7_halt 2 (some FieldType.int) 0 0 0 0 [.ref q2855, .int p2860] [(q2855, .inr (12, [.ref q2856, .ref q2857, .ref q2858, .ref q2859, .int p2861, .int p2862, .int p2863, .int p2864, .int p2865, .int p2866, .int p2867])), (q2856, .inl (I .int, 2048, .inl f2868)), (q2857, .inl (I .int, 100, .inl f2869)), (q2858, .inl (I .int, 100, .inl f2870)), (q2859, .inl (I .int, 512, .inl f2871))] (po_2872_Machine_halt I q2855 q2856 q2857 q2858 q2859 p2860 p2861 p2862 p2863 p2864 p2865 p2866 p2867 f2868 f2869 f2870 f2871) gN := by
  refine Ct_of hl0 (by decide) (Nat.le_of_ble_eq_true rfl) ?_
  have bp2860 := gB_any p2860
  have bp2863 := gB_any p2863
  have bp2865 := gB_any p2865
  have bp2867 := gB_any p2867
  refine G_aload_n 0 d_cX7_halt_0 rfl ?_
  refine G_iload_n 1 d_cX7_halt_1 rfl ?_
  refine G_putf (ws' := [(q2855, .inr (12, [.ref q2856, .ref q2857, .ref q2858, .ref q2859, .int p2861, .int p2862, .int p2863, .int p2864, .int p2865, .int p2866, .int p2860])), (q2856, .inl (I .int, 2048, .inl f2868)), (q2857, .inl (I .int, 100, .inl f2869)), (q2858, .inl (I .int, 100, .inl f2870)), (q2859, .inl (I .int, 512, .inl f2871))]) 0 10 d_cX7_halt_2 rfl (gk_X7 D I) (Nat.le_of_ble_eq_true rfl) w_2_170 rfl rfl rfl (Nat.le_of_ble_eq_true rfl) rfl ?_
  refine G_iconst (-1) d_cX7_halt_5 (by decide +kernel) ?_
  exact G_iret d_cX7_halt_6 rfl (Nat.le_of_ble_eq_true rfl) (Nat.le_of_ble_eq_true rfl) ⟨p2860, rfl, rfl, bp2860⟩
abbrev ky_2937_Machine_valueOf : gKey := (cX7_valueOf, 3, yX7_valueOf.cls, (some FieldType.int), [], yX7_valueOf.name, fun _ _ => True)
abbrev po_2937_Machine_valueOf (I : FieldType → ClassId) (q2919 : Nat) (q2920 : Nat) (q2921 : Nat) (q2922 : Nat) (q2923 : Nat) (p2924 : Int32) (p2925 : Int32) (p2926 : Int32) (p2927 : Int32) (p2928 : Int32) (p2929 : Int32) (p2930 : Int32) (p2931 : Int32) (p2932 : Int32) (f2933 : Nat → Int32) (f2934 : Nat → Int32) (f2935 : Nat → Int32) (f2936 : Nat → Int32) : Option Value → va_W → Prop := fun r w => (r = some (.int p2925) ∧ w = [(q2919, .inr (12, [.ref q2920, .ref q2921, .ref q2922, .ref q2923, .int p2926, .int p2927, .int p2928, .int p2929, .int p2930, .int p2931, .int p2932])), (q2920, .inl (I .int, 2048, .inl f2933)), (q2921, .inl (I .int, 100, .inl f2934)), (q2922, .inl (I .int, 100, .inl f2935)), (q2923, .inl (I .int, 512, .inl f2936))] ∧ p2924.toInt < 0) ∨ (r = some (.int p2925) ∧ w = [(q2919, .inr (12, [.ref q2920, .ref q2921, .ref q2922, .ref q2923, .int p2926, .int p2927, .int p2928, .int p2929, .int p2930, .int p2931, .int p2932])), (q2920, .inl (I .int, 2048, .inl f2933)), (q2921, .inl (I .int, 100, .inl f2934)), (q2922, .inl (I .int, 100, .inl f2935)), (q2923, .inl (I .int, 512, .inl f2936))] ∧ 0 ≤ p2924.toInt ∧ 100 ≤ p2924.toInt) ∨ (∃ (z2944 : Int32), r = some (.int z2944) ∧ w = [(q2919, .inr (12, [.ref q2920, .ref q2921, .ref q2922, .ref q2923, .int p2926, .int p2927, .int p2928, .int p2929, .int p2930, .int p2931, .int p2932])), (q2920, .inl (I .int, 2048, .inl f2933)), (q2921, .inl (I .int, 100, .inl f2934)), (q2922, .inl (I .int, 100, .inl f2935)), (q2923, .inl (I .int, 512, .inl f2936))] ∧ 0 ≤ p2924.toInt ∧ p2924.toInt < 100 ∧ z2944 = f2934 p2924.toNatClampNeg ∧ gB z2944 (-2147483648) 2147483647)
set_option maxRecDepth 100000 in
set_option maxHeartbeats 4000000 in
theorem ct_2937_Machine_valueOf (l : Launch) (hl0 : l.stackTraces = false) (D : va_G) (I : FieldType → ClassId) (q2919 : Nat) (q2920 : Nat) (q2921 : Nat) (q2922 : Nat) (q2923 : Nat) (p2924 : Int32) (p2925 : Int32) (p2926 : Int32) (p2927 : Int32) (p2928 : Int32) (p2929 : Int32) (p2930 : Int32) (p2931 : Int32) (p2932 : Int32) (f2933 : Nat → Int32) (f2934 : Nat → Int32) (f2935 : Nat → Int32) (f2936 : Nat → Int32) (bp2926 : gB p2926 0 2048) (bp2927 : gB p2927 0 39) (bp2929 : gB p2929 0 512) (bp2931 : gB p2931 0 2048) : Ct (gV D I) l yX7_valueOf cX7_valueOf 3 (some FieldType.int) 0 0 0 0 [.ref q2919, .int p2924, .int p2925] [(q2919, .inr (12, [.ref q2920, .ref q2921, .ref q2922, .ref q2923, .int p2926, .int p2927, .int p2928, .int p2929, .int p2930, .int p2931, .int p2932])), (q2920, .inl (I .int, 2048, .inl f2933)), (q2921, .inl (I .int, 100, .inl f2934)), (q2922, .inl (I .int, 100, .inl f2935)), (q2923, .inl (I .int, 512, .inl f2936))] (po_2937_Machine_valueOf I q2919 q2920 q2921 q2922 q2923 p2924 p2925 p2926 p2927 p2928 p2929 p2930 p2931 p2932 f2933 f2934 f2935 f2936) gN := by
  refine Ct_of hl0 (by decide) (Nat.le_of_ble_eq_true rfl) ?_
  have bp2924 := gB_any p2924
  have bp2925 := gB_any p2925
  have bp2928 := gB_any p2928
  have bp2930 := gB_any p2930
  have bp2932 := gB_any p2932
  refine G_iload_n 1 d_cX7_valueOf_0 rfl ?_
  refine G_if_lt 19 d_cX7_valueOf_1 (by decide +kernel) (fun hc2938 => ?_) (fun hc2938 => ?_)
  · have r2939 : p2924.toInt < 0 := gj_lt hc2938 (show Int32.toInt 0 = 0 by decide)
    have bp2924' : gB p2924 (-2147483648) (-1) := ⟨by omega, by omega⟩
    refine G_iload_n 2 d_cX7_valueOf_19 rfl ?_
    exact G_iret d_cX7_valueOf_20 rfl (Nat.le_of_ble_eq_true rfl) (Nat.le_of_ble_eq_true rfl) (Or.inl ⟨rfl, rfl, r2939⟩)
  · have r2940 : 0 ≤ p2924.toInt := gj_nlt hc2938 (show Int32.toInt 0 = 0 by decide)
    have bp2924' : gB p2924 0 2147483647 := ⟨by omega, by omega⟩
    refine G_iload_n 1 d_cX7_valueOf_4 rfl ?_
    refine G_bipush 100 d_cX7_valueOf_5 (by decide +kernel) ?_
    refine G_icmp_ge 19 d_cX7_valueOf_7 (by decide +kernel) (fun hc2941 => ?_) (fun hc2941 => ?_)
    · have r2942 : 100 ≤ p2924.toInt := gj_leL hc2941 (show Int32.toInt 100 = 100 by decide)
      have bp2924'' : gB p2924 100 2147483647 := ⟨by omega, by omega⟩
      refine G_iload_n 2 d_cX7_valueOf_19 rfl ?_
      exact G_iret d_cX7_valueOf_20 rfl (Nat.le_of_ble_eq_true rfl) (Nat.le_of_ble_eq_true rfl) (Or.inr (Or.inl ⟨rfl, rfl, r2940, r2942⟩))
    · have r2943 : p2924.toInt < 100 := gj_nleL hc2941 (show Int32.toInt 100 = 100 by decide)
      have bp2924'' : gB p2924 0 99 := ⟨by omega, by omega⟩
      refine G_aload_n 0 d_cX7_valueOf_10 rfl ?_
      refine G_getf 0 1 d_cX7_valueOf_11 rfl (gk_X7 D I) (Nat.le_of_ble_eq_true rfl) w_2_161 rfl ?_
      refine G_iload_n 1 d_cX7_valueOf_14 rfl ?_
      refine G_iald 2 0 d_cX7_valueOf_15 rfl rfl (gB_in bp2924'' (by decide) (by decide)) (G_nam fun z2944 hz2944 => ?_)
      have bz2944 : gB z2944 (-2147483648) 2147483647 := gB_any z2944
      refine G_goto 20 d_cX7_valueOf_16 (by decide +kernel) ?_
      exact G_iret d_cX7_valueOf_20 rfl (Nat.le_of_ble_eq_true rfl) (Nat.le_of_ble_eq_true rfl) (Or.inr (Or.inr (⟨z2944, rfl, rfl, r2940, r2943, hz2944, bz2944⟩)))
abbrev ky_2958_Machine_put : gKey := (cX7_put, 3, yX7_put.cls, none, [], yX7_put.name, fun _ _ => True)
abbrev po_2958_Machine_put (I : FieldType → ClassId) (q2954 : Nat) (p2955 : Int32) (p2956 : Int32) (f2957 : Nat → Int32) : Option Value → va_W → Prop := fun r w => ∃ (f2966 : Nat → Int32), r = none ∧ w = [(q2954, .inl (I .int, 100, .inl f2966))] ∧ gF f2966 (-2147483648) 2147483647
set_option maxRecDepth 100000 in
set_option maxHeartbeats 4000000 in
theorem ct_2958_Machine_put (l : Launch) (hl0 : l.stackTraces = false) (D : va_G) (I : FieldType → ClassId) (q2954 : Nat) (p2955 : Int32) (p2956 : Int32) (f2957 : Nat → Int32)  : Ct (gV D I) l yX7_put cX7_put 3 none 0 0 0 0 [.ref q2954, .int p2955, .int p2956] [(q2954, .inl (I .int, 100, .inl f2957))] (po_2958_Machine_put I q2954 p2955 p2956 f2957) gN := by
  refine Ct_of hl0 (by decide) (Nat.le_of_ble_eq_true rfl) ?_
  have bp2955 := gB_any p2955
  have bp2956 := gB_any p2956
  refine G_iload_n 1 d_cX7_put_0 rfl ?_
  refine G_if_lt 14 d_cX7_put_1 (by decide +kernel) (fun hc2959 => ?_) (fun hc2959 => ?_)
  · have r2960 : p2955.toInt < 0 := gj_lt hc2959 (show Int32.toInt 0 = 0 by decide)
    have bp2955' : gB p2955 (-2147483648) (-1) := ⟨by omega, by omega⟩
    exact G_vret d_cX7_put_14 rfl (Nat.le_of_ble_eq_true rfl) (Nat.le_of_ble_eq_true rfl) ⟨f2957, rfl, rfl, (gF_any f2957)⟩
  · have r2961 : 0 ≤ p2955.toInt := gj_nlt hc2959 (show Int32.toInt 0 = 0 by decide)
    have bp2955' : gB p2955 0 2147483647 := ⟨by omega, by omega⟩
    refine G_iload_n 1 d_cX7_put_4 rfl ?_
    refine G_aload_n 0 d_cX7_put_5 rfl ?_
    refine G_alen 100 0 0 d_cX7_put_6 rfl rfl rfl ?_
    refine G_icmp_ge 14 d_cX7_put_7 (by decide +kernel) (fun hc2962 => ?_) (fun hc2962 => ?_)
    · have r2963 : 100 ≤ p2955.toInt := gj_leL hc2962 (show Int32.toInt 100 = 100 by decide)
      have bp2955'' : gB p2955 100 2147483647 := ⟨by omega, by omega⟩
      exact G_vret d_cX7_put_14 rfl (Nat.le_of_ble_eq_true rfl) (Nat.le_of_ble_eq_true rfl) ⟨f2957, rfl, rfl, (gF_any f2957)⟩
    · have r2964 : p2955.toInt < 100 := gj_nleL hc2962 (show Int32.toInt 100 = 100 by decide)
      have bp2955'' : gB p2955 0 99 := ⟨by omega, by omega⟩
      refine G_aload_n 0 d_cX7_put_10 rfl ?_
      refine G_iload_n 1 d_cX7_put_11 rfl ?_
      refine G_iload_n 2 d_cX7_put_12 rfl ?_
      refine G_iastN 0 0 d_cX7_put_13 rfl rfl (gB_in bp2955'' (by decide) (by decide)) (fun f2965 hf2965 => ?_)
      refine G_ws (ws' := [(q2954, .inl (I .int, 100, .inl f2965))]) (cs' := 0) (sl' := 0) rfl rfl rfl ?_
      exact G_vret d_cX7_put_14 rfl (Nat.le_of_ble_eq_true rfl) (Nat.le_of_ble_eq_true rfl) ⟨f2965, rfl, rfl, (gF_any f2965)⟩
abbrev ky_2987_Machine_takeNext : gKey := (cX7_takeNext, 1, yX7_takeNext.cls, (some FieldType.int), [], yX7_takeNext.name, fun _ _ => True)
abbrev po_2987_Machine_takeNext (I : FieldType → ClassId) (q2971 : Nat) (q2972 : Nat) (q2973 : Nat) (q2974 : Nat) (q2975 : Nat) (p2976 : Int32) (p2977 : Int32) (p2978 : Int32) (p2979 : Int32) (p2980 : Int32) (p2981 : Int32) (p2982 : Int32) (f2983 : Nat → Int32) (f2984 : Nat → Int32) (f2985 : Nat → Int32) (f2986 : Nat → Int32) : Option Value → va_W → Prop := fun r w => ∃ (o2995 : Int32) (o2994 : Int32), r = some (.int o2995) ∧ w = [(q2971, .inr (12, [.ref q2972, .ref q2973, .ref q2974, .ref q2975, .int p2976, .int p2977, .int p2978, .int p2979, .int p2980, .int o2994, .int p2982])), (q2972, .inl (I .int, 2048, .inl f2983)), (q2973, .inl (I .int, 100, .inl f2984)), (q2974, .inl (I .int, 100, .inl f2985)), (q2975, .inl (I .int, 512, .inl f2986))] ∧ gB o2995 (-2147483648) 2147483647 ∧ gB o2994 0 2048
set_option maxRecDepth 100000 in
set_option maxHeartbeats 4000000 in
theorem ct_2987_Machine_takeNext (l : Launch) (hl0 : l.stackTraces = false) (D : va_G) (I : FieldType → ClassId) (q2971 : Nat) (q2972 : Nat) (q2973 : Nat) (q2974 : Nat) (q2975 : Nat) (p2976 : Int32) (p2977 : Int32) (p2978 : Int32) (p2979 : Int32) (p2980 : Int32) (p2981 : Int32) (p2982 : Int32) (f2983 : Nat → Int32) (f2984 : Nat → Int32) (f2985 : Nat → Int32) (f2986 : Nat → Int32) (bp2976 : gB p2976 0 2048) (bp2977 : gB p2977 0 39) (bp2979 : gB p2979 0 512) (bp2981 : gB p2981 0 2048) : Ct (gV D I) l yX7_takeNext cX7_takeNext 1 (some FieldType.int) 0 0 0 0 [.ref q2971] [(q2971, .inr (12, [.ref q2972, .ref q2973, .ref q2974, .ref q2975, .int p2976, .int p2977, .int p2978, .int p2979, .int p2980, .int p2981, .int p2982])), (q2972, .inl (I .int, 2048, .inl f2983)), (q2973, .inl (I .int, 100, .inl f2984)), (q2974, .inl (I .int, 100, .inl f2985)), (q2975, .inl (I .int, 512, .inl f2986))] (po_2987_Machine_takeNext I q2971 q2972 q2973 q2974 q2975 p2976 p2977 p2978 p2979 p2980 p2981 p2982 f2983 f2984 f2985 f2986) gN := by
  refine Ct_of hl0 (by decide) (Nat.le_of_ble_eq_true rfl) ?_
  have bp2978 := gB_any p2978
  have bp2980 := gB_any p2980
  have bp2982 := gB_any p2982
  refine G_aload_n 0 d_cX7_takeNext_0 rfl ?_
  refine G_getf 0 9 d_cX7_takeNext_1 rfl (gk_X7 D I) (Nat.le_of_ble_eq_true rfl) w_2_169 rfl ?_
  refine G_aload_n 0 d_cX7_takeNext_4 rfl ?_
  refine G_getf 0 4 d_cX7_takeNext_5 rfl (gk_X7 D I) (Nat.le_of_ble_eq_true rfl) w_2_164 rfl ?_
  refine G_icmp_lt 13 d_cX7_takeNext_8 (by decide +kernel) (fun hc2988 => ?_) (fun hc2988 => ?_)
  · have r2989 : p2981.toInt < p2976.toInt := gC_lt hc2988
    have bp2981' : gB p2981 0 2047 := ⟨by omega, by omega⟩
    have bp2976' : gB p2976 1 2048 := ⟨by omega, by omega⟩
    refine G_aload_n 0 d_cX7_takeNext_13 rfl ?_
    refine G_dup d_cX7_takeNext_14 rfl ?_
    refine G_getf 0 9 d_cX7_takeNext_15 rfl (gk_X7 D I) (Nat.le_of_ble_eq_true rfl) w_2_169 rfl ?_
    refine G_iconst 1 d_cX7_takeNext_18 (by decide +kernel) ?_
    refine G_iadd d_cX7_takeNext_19 (G_nam fun z2990 hz2990 => ?_)
    have ez2990 : z2990.toInt = p2981.toInt + 1 := by rw [gI_add hz2990 bp2981' (gBl (show Int32.toInt 1 = 1 by decide)) (by decide) (by decide), show Int32.toInt 1 = 1 from by decide]
    have bz2990 : gB z2990 1 2048 := gB_add (gI_add hz2990 bp2981' (gBl (show Int32.toInt 1 = 1 by decide)) (by decide) (by decide)) bp2981' (gBl (show Int32.toInt 1 = 1 by decide)) (by decide) (by decide)
    refine G_putf (ws' := [(q2971, .inr (12, [.ref q2972, .ref q2973, .ref q2974, .ref q2975, .int p2976, .int p2977, .int p2978, .int p2979, .int p2980, .int z2990, .int p2982])), (q2972, .inl (I .int, 2048, .inl f2983)), (q2973, .inl (I .int, 100, .inl f2984)), (q2974, .inl (I .int, 100, .inl f2985)), (q2975, .inl (I .int, 512, .inl f2986))]) 0 9 d_cX7_takeNext_20 rfl (gk_X7 D I) (Nat.le_of_ble_eq_true rfl) w_2_169 rfl rfl rfl (Nat.le_of_ble_eq_true rfl) rfl ?_
    refine G_aload_n 0 d_cX7_takeNext_23 rfl ?_
    refine G_getf 0 0 d_cX7_takeNext_24 rfl (gk_X7 D I) (Nat.le_of_ble_eq_true rfl) w_2_160 rfl ?_
    refine G_aload_n 0 d_cX7_takeNext_27 rfl ?_
    refine G_getf 0 9 d_cX7_takeNext_28 rfl (gk_X7 D I) (Nat.le_of_ble_eq_true rfl) w_2_169 rfl ?_
    refine G_iconst 1 d_cX7_takeNext_31 (by decide +kernel) ?_
    refine G_isub d_cX7_takeNext_32 (G_nam fun z2991 hz2991 => ?_)
    have ez2991 : z2991.toInt = z2990.toInt - 1 := by rw [gI_sub hz2991 bz2990 (gBl (show Int32.toInt 1 = 1 by decide)) (by decide) (by decide), show Int32.toInt 1 = 1 from by decide]
    have bz2991 : gB z2991 0 2047 := gB_sub (gI_sub hz2991 bz2990 (gBl (show Int32.toInt 1 = 1 by decide)) (by decide) (by decide)) bz2990 (gBl (show Int32.toInt 1 = 1 by decide)) (by decide) (by decide)
    refine G_iald 1 0 d_cX7_takeNext_33 rfl rfl (gB_in bz2991 (by decide) (by decide)) (G_nam fun z2992 hz2992 => ?_)
    have bz2992 : gB z2992 (-2147483648) 2147483647 := gB_any z2992
    exact G_iret d_cX7_takeNext_34 rfl (Nat.le_of_ble_eq_true rfl) (Nat.le_of_ble_eq_true rfl) ⟨z2992, z2990, rfl, rfl, bz2992, (gB_w bz2990 (by decide) (by decide))⟩
  · have r2993 : p2976.toInt ≤ p2981.toInt := gC_nlt hc2988
    refine G_iconst 0 d_cX7_takeNext_11 (by decide +kernel) ?_
    exact G_iret d_cX7_takeNext_12 rfl (Nat.le_of_ble_eq_true rfl) (Nat.le_of_ble_eq_true rfl) ⟨0, p2981, rfl, rfl, (gB_w (gBl (show Int32.toInt 0 = 0 by decide)) (by decide) (by decide)), bp2981⟩
abbrev ky_3018_Machine_addShow : gKey := (cX7_addShow, 2, yX7_addShow.cls, (some FieldType.boolean), [], yX7_addShow.name, fun _ _ => True)
abbrev po_3018_Machine_addShow (I : FieldType → ClassId) (q3001 : Nat) (q3002 : Nat) (q3003 : Nat) (q3004 : Nat) (q3005 : Nat) (p3006 : Int32) (p3007 : Int32) (p3008 : Int32) (p3009 : Int32) (p3010 : Int32) (p3011 : Int32) (p3012 : Int32) (p3013 : Int32) (f3014 : Nat → Int32) (f3015 : Nat → Int32) (f3016 : Nat → Int32) (f3017 : Nat → Int32) : Option Value → va_W → Prop := fun r w => ∃ (o3026 : Int32) (o3024 : Int32) (f3025 : Nat → Int32), r = some (.int o3026) ∧ w = [(q3001, .inr (12, [.ref q3002, .ref q3003, .ref q3004, .ref q3005, .int p3007, .int p3008, .int p3009, .int o3024, .int p3011, .int p3012, .int p3013])), (q3002, .inl (I .int, 2048, .inl f3014)), (q3003, .inl (I .int, 100, .inl f3015)), (q3004, .inl (I .int, 100, .inl f3016)), (q3005, .inl (I .int, 512, .inl f3025))] ∧ gB o3026 0 1 ∧ gB o3024 1 512 ∧ gF f3025 (-2147483648) 2147483647
set_option maxRecDepth 100000 in
set_option maxHeartbeats 4000000 in
theorem ct_3018_Machine_addShow (l : Launch) (hl0 : l.stackTraces = false) (D : va_G) (I : FieldType → ClassId) (q3001 : Nat) (q3002 : Nat) (q3003 : Nat) (q3004 : Nat) (q3005 : Nat) (p3006 : Int32) (p3007 : Int32) (p3008 : Int32) (p3009 : Int32) (p3010 : Int32) (p3011 : Int32) (p3012 : Int32) (p3013 : Int32) (f3014 : Nat → Int32) (f3015 : Nat → Int32) (f3016 : Nat → Int32) (f3017 : Nat → Int32) (bp3007 : gB p3007 0 2048) (bp3008 : gB p3008 0 39) (bp3010 : gB p3010 0 512) (bp3012 : gB p3012 0 2048) : Ct (gV D I) l yX7_addShow cX7_addShow 2 (some FieldType.boolean) 0 0 0 0 [.ref q3001, .int p3006] [(q3001, .inr (12, [.ref q3002, .ref q3003, .ref q3004, .ref q3005, .int p3007, .int p3008, .int p3009, .int p3010, .int p3011, .int p3012, .int p3013])), (q3002, .inl (I .int, 2048, .inl f3014)), (q3003, .inl (I .int, 100, .inl f3015)), (q3004, .inl (I .int, 100, .inl f3016)), (q3005, .inl (I .int, 512, .inl f3017))] (po_3018_Machine_addShow I q3001 q3002 q3003 q3004 q3005 p3006 p3007 p3008 p3009 p3010 p3011 p3012 p3013 f3014 f3015 f3016 f3017) gN := by
  refine Ct_of hl0 (by decide) (Nat.le_of_ble_eq_true rfl) ?_
  have bp3006 := gB_any p3006
  have bp3009 := gB_any p3009
  have bp3011 := gB_any p3011
  have bp3013 := gB_any p3013
  refine G_aload_n 0 d_cX7_addShow_0 rfl ?_
  refine G_getf 0 7 d_cX7_addShow_1 rfl (gk_X7 D I) (Nat.le_of_ble_eq_true rfl) w_2_167 rfl ?_
  refine G_sipush 512 d_cX7_addShow_4 (by decide +kernel) ?_
  refine G_icmp_lt 12 d_cX7_addShow_7 (by decide +kernel) (fun hc3019 => ?_) (fun hc3019 => ?_)
  · have r3020 : p3010.toInt < 512 := gj_lt hc3019 (show Int32.toInt 512 = 512 by decide)
    have bp3010' : gB p3010 0 511 := ⟨by omega, by omega⟩
    refine G_aload_n 0 d_cX7_addShow_12 rfl ?_
    refine G_getf 0 3 d_cX7_addShow_13 rfl (gk_X7 D I) (Nat.le_of_ble_eq_true rfl) w_2_163 rfl ?_
    refine G_aload_n 0 d_cX7_addShow_16 rfl ?_
    refine G_getf 0 7 d_cX7_addShow_17 rfl (gk_X7 D I) (Nat.le_of_ble_eq_true rfl) w_2_167 rfl ?_
    refine G_iload_n 1 d_cX7_addShow_20 rfl ?_
    refine G_iastN 4 0 d_cX7_addShow_21 rfl rfl (gB_in bp3010' (by decide) (by decide)) (fun f3021 hf3021 => ?_)
    refine G_ws (ws' := [(q3001, .inr (12, [.ref q3002, .ref q3003, .ref q3004, .ref q3005, .int p3007, .int p3008, .int p3009, .int p3010, .int p3011, .int p3012, .int p3013])), (q3002, .inl (I .int, 2048, .inl f3014)), (q3003, .inl (I .int, 100, .inl f3015)), (q3004, .inl (I .int, 100, .inl f3016)), (q3005, .inl (I .int, 512, .inl f3021))]) (cs' := 0) (sl' := 0) rfl rfl rfl ?_
    refine G_aload_n 0 d_cX7_addShow_22 rfl ?_
    refine G_dup d_cX7_addShow_23 rfl ?_
    refine G_getf 0 7 d_cX7_addShow_24 rfl (gk_X7 D I) (Nat.le_of_ble_eq_true rfl) w_2_167 rfl ?_
    refine G_iconst 1 d_cX7_addShow_27 (by decide +kernel) ?_
    refine G_iadd d_cX7_addShow_28 (G_nam fun z3022 hz3022 => ?_)
    have ez3022 : z3022.toInt = p3010.toInt + 1 := by rw [gI_add hz3022 bp3010' (gBl (show Int32.toInt 1 = 1 by decide)) (by decide) (by decide), show Int32.toInt 1 = 1 from by decide]
    have bz3022 : gB z3022 1 512 := gB_add (gI_add hz3022 bp3010' (gBl (show Int32.toInt 1 = 1 by decide)) (by decide) (by decide)) bp3010' (gBl (show Int32.toInt 1 = 1 by decide)) (by decide) (by decide)
    refine G_putf (ws' := [(q3001, .inr (12, [.ref q3002, .ref q3003, .ref q3004, .ref q3005, .int p3007, .int p3008, .int p3009, .int z3022, .int p3011, .int p3012, .int p3013])), (q3002, .inl (I .int, 2048, .inl f3014)), (q3003, .inl (I .int, 100, .inl f3015)), (q3004, .inl (I .int, 100, .inl f3016)), (q3005, .inl (I .int, 512, .inl f3021))]) 0 7 d_cX7_addShow_29 rfl (gk_X7 D I) (Nat.le_of_ble_eq_true rfl) w_2_167 rfl rfl rfl (Nat.le_of_ble_eq_true rfl) rfl ?_
    refine G_iconst 1 d_cX7_addShow_32 (by decide +kernel) ?_
    exact G_zret FieldType.boolean d_cX7_addShow_33 rfl rfl (Nat.le_of_ble_eq_true rfl) (Nat.le_of_ble_eq_true rfl) ⟨1, z3022, f3021, rfl, rfl, (gB_w (gBl (show Int32.toInt 1 = 1 by decide)) (by decide) (by decide)), bz3022, (gF_any f3021)⟩
  · have r3023 : 512 ≤ p3010.toInt := gj_nlt hc3019 (show Int32.toInt 512 = 512 by decide)
    have bp3010' : gB p3010 512 512 := ⟨by omega, by omega⟩
    refine G_iconst 0 d_cX7_addShow_10 (by decide +kernel) ?_
    exact G_zret FieldType.boolean d_cX7_addShow_11 rfl rfl (Nat.le_of_ble_eq_true rfl) (Nat.le_of_ble_eq_true rfl) ⟨0, p3010, f3017, rfl, rfl, (gB_w (gBl (show Int32.toInt 0 = 0 by decide)) (by decide) (by decide)), (gB_w bp3010' (by decide) (by decide)), (gF_any f3017)⟩
abbrev ky_3055_Machine_slotAt : gKey := (cX7_slotAt, 2, yX7_slotAt.cls, (some FieldType.int), [], yX7_slotAt.name, fun _ _ => True)
abbrev po_3055_Machine_slotAt (I : FieldType → ClassId) (q3038 : Nat) (q3039 : Nat) (q3040 : Nat) (q3041 : Nat) (q3042 : Nat) (p3043 : Int32) (p3044 : Int32) (p3045 : Int32) (p3046 : Int32) (p3047 : Int32) (p3048 : Int32) (p3049 : Int32) (p3050 : Int32) (f3051 : Nat → Int32) (f3052 : Nat → Int32) (f3053 : Nat → Int32) (f3054 : Nat → Int32) : Option Value → va_W → Prop := fun r w => (r = some (.int 0) ∧ w = [(q3038, .inr (12, [.ref q3039, .ref q3040, .ref q3041, .ref q3042, .int p3044, .int p3045, .int p3046, .int p3047, .int p3048, .int p3049, .int p3050])), (q3039, .inl (I .int, 2048, .inl f3051)), (q3040, .inl (I .int, 100, .inl f3052)), (q3041, .inl (I .int, 100, .inl f3053)), (q3042, .inl (I .int, 512, .inl f3054))] ∧ p3043.toInt < 0) ∨ (r = some (.int 0) ∧ w = [(q3038, .inr (12, [.ref q3039, .ref q3040, .ref q3041, .ref q3042, .int p3044, .int p3045, .int p3046, .int p3047, .int p3048, .int p3049, .int p3050])), (q3039, .inl (I .int, 2048, .inl f3051)), (q3040, .inl (I .int, 100, .inl f3052)), (q3041, .inl (I .int, 100, .inl f3053)), (q3042, .inl (I .int, 512, .inl f3054))] ∧ 0 ≤ p3043.toInt ∧ 100 ≤ p3043.toInt) ∨ (∃ (z3062 : Int32), r = some (.int z3062) ∧ w = [(q3038, .inr (12, [.ref q3039, .ref q3040, .ref q3041, .ref q3042, .int p3044, .int p3045, .int p3046, .int p3047, .int p3048, .int p3049, .int p3050])), (q3039, .inl (I .int, 2048, .inl f3051)), (q3040, .inl (I .int, 100, .inl f3052)), (q3041, .inl (I .int, 100, .inl f3053)), (q3042, .inl (I .int, 512, .inl f3054))] ∧ 0 ≤ p3043.toInt ∧ p3043.toInt < 100 ∧ z3062 = f3053 p3043.toNatClampNeg ∧ gB z3062 (-2147483648) 2147483647)
set_option maxRecDepth 100000 in
set_option maxHeartbeats 4000000 in
theorem ct_3055_Machine_slotAt (l : Launch) (hl0 : l.stackTraces = false) (D : va_G) (I : FieldType → ClassId) (q3038 : Nat) (q3039 : Nat) (q3040 : Nat) (q3041 : Nat) (q3042 : Nat) (p3043 : Int32) (p3044 : Int32) (p3045 : Int32) (p3046 : Int32) (p3047 : Int32) (p3048 : Int32) (p3049 : Int32) (p3050 : Int32) (f3051 : Nat → Int32) (f3052 : Nat → Int32) (f3053 : Nat → Int32) (f3054 : Nat → Int32) (bp3044 : gB p3044 0 2048) (bp3045 : gB p3045 0 39) (bp3047 : gB p3047 0 512) (bp3049 : gB p3049 0 2048) : Ct (gV D I) l yX7_slotAt cX7_slotAt 2 (some FieldType.int) 0 0 0 0 [.ref q3038, .int p3043] [(q3038, .inr (12, [.ref q3039, .ref q3040, .ref q3041, .ref q3042, .int p3044, .int p3045, .int p3046, .int p3047, .int p3048, .int p3049, .int p3050])), (q3039, .inl (I .int, 2048, .inl f3051)), (q3040, .inl (I .int, 100, .inl f3052)), (q3041, .inl (I .int, 100, .inl f3053)), (q3042, .inl (I .int, 512, .inl f3054))] (po_3055_Machine_slotAt I q3038 q3039 q3040 q3041 q3042 p3043 p3044 p3045 p3046 p3047 p3048 p3049 p3050 f3051 f3052 f3053 f3054) gN := by
  refine Ct_of hl0 (by decide) (Nat.le_of_ble_eq_true rfl) ?_
  have bp3043 := gB_any p3043
  have bp3046 := gB_any p3046
  have bp3048 := gB_any p3048
  have bp3050 := gB_any p3050
  refine G_iload_n 1 d_cX7_slotAt_0 rfl ?_
  refine G_if_lt 19 d_cX7_slotAt_1 (by decide +kernel) (fun hc3056 => ?_) (fun hc3056 => ?_)
  · have r3057 : p3043.toInt < 0 := gj_lt hc3056 (show Int32.toInt 0 = 0 by decide)
    have bp3043' : gB p3043 (-2147483648) (-1) := ⟨by omega, by omega⟩
    refine G_iconst 0 d_cX7_slotAt_19 (by decide +kernel) ?_
    exact G_iret d_cX7_slotAt_20 rfl (Nat.le_of_ble_eq_true rfl) (Nat.le_of_ble_eq_true rfl) (Or.inl ⟨rfl, rfl, r3057⟩)
  · have r3058 : 0 ≤ p3043.toInt := gj_nlt hc3056 (show Int32.toInt 0 = 0 by decide)
    have bp3043' : gB p3043 0 2147483647 := ⟨by omega, by omega⟩
    refine G_iload_n 1 d_cX7_slotAt_4 rfl ?_
    refine G_bipush 100 d_cX7_slotAt_5 (by decide +kernel) ?_
    refine G_icmp_ge 19 d_cX7_slotAt_7 (by decide +kernel) (fun hc3059 => ?_) (fun hc3059 => ?_)
    · have r3060 : 100 ≤ p3043.toInt := gj_leL hc3059 (show Int32.toInt 100 = 100 by decide)
      have bp3043'' : gB p3043 100 2147483647 := ⟨by omega, by omega⟩
      refine G_iconst 0 d_cX7_slotAt_19 (by decide +kernel) ?_
      exact G_iret d_cX7_slotAt_20 rfl (Nat.le_of_ble_eq_true rfl) (Nat.le_of_ble_eq_true rfl) (Or.inr (Or.inl ⟨rfl, rfl, r3058, r3060⟩))
    · have r3061 : p3043.toInt < 100 := gj_nleL hc3059 (show Int32.toInt 100 = 100 by decide)
      have bp3043'' : gB p3043 0 99 := ⟨by omega, by omega⟩
      refine G_aload_n 0 d_cX7_slotAt_10 rfl ?_
      refine G_getf 0 2 d_cX7_slotAt_11 rfl (gk_X7 D I) (Nat.le_of_ble_eq_true rfl) w_2_162 rfl ?_
      refine G_iload_n 1 d_cX7_slotAt_14 rfl ?_
      refine G_iald 3 0 d_cX7_slotAt_15 rfl rfl (gB_in bp3043'' (by decide) (by decide)) (G_nam fun z3062 hz3062 => ?_)
      have bz3062 : gB z3062 (-2147483648) 2147483647 := gB_any z3062
      refine G_goto 20 d_cX7_slotAt_16 (by decide +kernel) ?_
      exact G_iret d_cX7_slotAt_20 rfl (Nat.le_of_ble_eq_true rfl) (Nat.le_of_ble_eq_true rfl) (Or.inr (Or.inr (⟨z3062, rfl, rfl, r3058, r3061, hz3062, bz3062⟩)))
