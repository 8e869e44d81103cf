theorem d_cX6_walk_0 : decode cX6_walk 0 = .ok (.lload_n 1, 1) := by decide +kernel
theorem d_cX6_walk_1 : decode cX6_walk 1 = .ok (.lload_n 3, 1) := by decide +kernel
theorem d_cX6_walk_2 : decode cX6_walk 2 = .ok (.ldc2_w 62, 3) := by decide +kernel
theorem w_4_7 : (Jvm.Cond.constantLong "SpillForge$Loops" (62 : Nat) (-1 : Int64)) ∈ gw := gw_4 7 rfl rfl
theorem d_cX6_walk_5 : decode cX6_walk 5 = .ok (.lxor, 1) := by decide +kernel
theorem d_cX6_walk_6 : decode cX6_walk 6 = .ok (.land, 1) := by decide +kernel
theorem d_cX6_walk_7 : decode cX6_walk 7 = .ok (.lstore 5, 2) := by decide +kernel
theorem d_cX6_walk_9 : decode cX6_walk 9 = .ok (.iconst 0, 1) := by decide +kernel
theorem d_cX6_walk_10 : decode cX6_walk 10 = .ok (.istore 7, 2) := by decide +kernel
theorem d_cX6_walk_12 : decode cX6_walk 12 = .ok (.iload 7, 2) := by decide +kernel
theorem d_cX6_walk_14 : decode cX6_walk 14 = .ok (.aload_n 0, 1) := by decide +kernel
theorem d_cX6_walk_15 : decode cX6_walk 15 = .ok (.arraylength, 1) := by decide +kernel
theorem d_cX6_walk_16 : decode cX6_walk 16 = .ok (.if_icmp .ge 71, 3) := by decide +kernel
theorem d_cX6_walk_87 : decode cX6_walk 87 = .ok (.lload 5, 2) := by decide +kernel
theorem d_cX6_walk_89 : decode cX6_walk 89 = .ok (.lreturn, 1) := by decide +kernel
theorem d_cX6_walk_19 : decode cX6_walk 19 = .ok (.lload 5, 2) := by decide +kernel
theorem d_cX6_walk_21 : decode cX6_walk 21 = .ok (.lstore 8, 2) := by decide +kernel
theorem d_cX6_walk_23 : decode cX6_walk 23 = .ok (.iconst 0, 1) := by decide +kernel
theorem d_cX6_walk_24 : decode cX6_walk 24 = .ok (.istore 10, 2) := by decide +kernel
theorem d_cX6_walk_26 : decode cX6_walk 26 = .ok (.iload 10, 2) := by decide +kernel
theorem d_cX6_walk_28 : decode cX6_walk 28 = .ok (.aload_n 0, 1) := by decide +kernel
theorem d_cX6_walk_29 : decode cX6_walk 29 = .ok (.arraylength, 1) := by decide +kernel
theorem d_cX6_walk_30 : decode cX6_walk 30 = .ok (.if_icmp .ge 36, 3) := by decide +kernel
theorem d_cX6_walk_66 : decode cX6_walk 66 = .ok (.lload 8, 2) := by decide +kernel
theorem d_cX6_walk_68 : decode cX6_walk 68 = .ok (.lload 5, 2) := by decide +kernel
theorem d_cX6_walk_70 : decode cX6_walk 70 = .ok (.lcmp, 1) := by decide +kernel
theorem d_cX6_walk_71 : decode cX6_walk 71 = .ok (.ifCond .ne 6, 3) := by decide +kernel
theorem d_cX6_walk_77 : decode cX6_walk 77 = .ok (.lload 8, 2) := by decide +kernel
theorem d_cX6_walk_79 : decode cX6_walk 79 = .ok (.lstore 5, 2) := by decide +kernel
theorem d_cX6_walk_81 : decode cX6_walk 81 = .ok (.iinc 7 1, 3) := by decide +kernel
theorem d_cX6_walk_84 : decode cX6_walk 84 = .ok (.goto (-72), 3) := by decide +kernel
theorem d_cX6_walk_74 : decode cX6_walk 74 = .ok (.lload 5, 2) := by decide +kernel
theorem d_cX6_walk_76 : decode cX6_walk 76 = .ok (.lreturn, 1) := by decide +kernel
theorem d_cX6_walk_33 : decode cX6_walk 33 = .ok (.lload 5, 2) := by decide +kernel
theorem d_cX6_walk_35 : decode cX6_walk 35 = .ok (.iload 10, 2) := by decide +kernel
theorem d_cX6_walk_37 : decode cX6_walk 37 = .ok (.lshr, 1) := by decide +kernel
theorem d_cX6_walk_38 : decode cX6_walk 38 = .ok (.lconst 1, 1) := by decide +kernel
theorem d_cX6_walk_39 : decode cX6_walk 39 = .ok (.land, 1) := by decide +kernel
theorem d_cX6_walk_40 : decode cX6_walk 40 = .ok (.lconst 0, 1) := by decide +kernel
theorem d_cX6_walk_41 : decode cX6_walk 41 = .ok (.lcmp, 1) := by decide +kernel
theorem d_cX6_walk_42 : decode cX6_walk 42 = .ok (.ifCond .eq 18, 3) := by decide +kernel
theorem d_cX6_walk_60 : decode cX6_walk 60 = .ok (.iinc 10 1, 3) := by decide +kernel
theorem d_cX6_walk_63 : decode cX6_walk 63 = .ok (.goto (-37), 3) := by decide +kernel
theorem d_cX6_walk_45 : decode cX6_walk 45 = .ok (.lload 8, 2) := by decide +kernel
theorem d_cX6_walk_47 : decode cX6_walk 47 = .ok (.aload_n 0, 1) := by decide +kernel
theorem d_cX6_walk_48 : decode cX6_walk 48 = .ok (.iload 10, 2) := by decide +kernel
theorem d_cX6_walk_50 : decode cX6_walk 50 = .ok (.laload, 1) := by decide +kernel
theorem d_cX6_walk_51 : decode cX6_walk 51 = .ok (.lload_n 3, 1) := by decide +kernel
theorem d_cX6_walk_52 : decode cX6_walk 52 = .ok (.ldc2_w 62, 3) := by decide +kernel
theorem d_cX6_walk_55 : decode cX6_walk 55 = .ok (.lxor, 1) := by decide +kernel
theorem d_cX6_walk_56 : decode cX6_walk 56 = .ok (.land, 1) := by decide +kernel
theorem d_cX6_walk_57 : decode cX6_walk 57 = .ok (.lor, 1) := by decide +kernel
theorem d_cX6_walk_58 : decode cX6_walk 58 = .ok (.lstore 8, 2) := by decide +kernel
theorem d_cX6_link_0 : decode cX6_link 0 = .ok (.iload_n 2, 1) := by decide +kernel
theorem d_cX6_link_1 : decode cX6_link 1 = .ok (.ifCond .lt 33, 3) := by decide +kernel
theorem d_cX6_link_34 : decode cX6_link 34 = .ok (.return_, 1) := by decide +kernel
theorem d_cX6_link_4 : decode cX6_link 4 = .ok (.iload_n 2, 1) := by decide +kernel
theorem d_cX6_link_5 : decode cX6_link 5 = .ok (.bipush 40, 2) := by decide +kernel
theorem d_cX6_link_7 : decode cX6_link 7 = .ok (.if_icmp .ge 27, 3) := by decide +kernel
theorem d_cX6_link_10 : decode cX6_link 10 = .ok (.aload_n 0, 1) := by decide +kernel
theorem d_cX6_link_11 : decode cX6_link 11 = .ok (.getfield 9, 3) := by decide +kernel
theorem w_1_233 : (Jvm.Cond.fieldLink "SpillForge$Loops" (9 : Nat) "SpillForge$Loops" "goals" "[J") ∈ gw := gw_1 233 rfl rfl
theorem d_cX6_link_14 : decode cX6_link 14 = .ok (.iload_n 1, 1) := by decide +kernel
theorem d_cX6_link_15 : decode cX6_link 15 = .ok (.dup2, 1) := by decide +kernel
theorem d_cX6_link_16 : decode cX6_link 16 = .ok (.laload, 1) := by decide +kernel
theorem d_cX6_link_17 : decode cX6_link 17 = .ok (.lconst 1, 1) := by decide +kernel
theorem d_cX6_link_18 : decode cX6_link 18 = .ok (.iload_n 2, 1) := by decide +kernel
theorem d_cX6_link_19 : decode cX6_link 19 = .ok (.lshl, 1) := by decide +kernel
theorem d_cX6_link_20 : decode cX6_link 20 = .ok (.lor, 1) := by decide +kernel
theorem d_cX6_link_21 : decode cX6_link 21 = .ok (.lastore, 1) := by decide +kernel
theorem d_cX6_link_22 : decode cX6_link 22 = .ok (.aload_n 0, 1) := by decide +kernel
theorem d_cX6_link_23 : decode cX6_link 23 = .ok (.getfield 15, 3) := by decide +kernel
theorem w_1_234 : (Jvm.Cond.fieldLink "SpillForge$Loops" (15 : Nat) "SpillForge$Loops" "sources" "[J") ∈ gw := gw_1 234 rfl rfl
theorem d_cX6_link_26 : decode cX6_link 26 = .ok (.iload_n 2, 1) := by decide +kernel
theorem d_cX6_link_27 : decode cX6_link 27 = .ok (.dup2, 1) := by decide +kernel
theorem d_cX6_link_28 : decode cX6_link 28 = .ok (.laload, 1) := by decide +kernel
theorem d_cX6_link_29 : decode cX6_link 29 = .ok (.lconst 1, 1) := by decide +kernel
theorem d_cX6_link_30 : decode cX6_link 30 = .ok (.iload_n 1, 1) := by decide +kernel
theorem d_cX6_link_31 : decode cX6_link 31 = .ok (.lshl, 1) := by decide +kernel
theorem d_cX6_link_32 : decode cX6_link 32 = .ok (.lor, 1) := by decide +kernel
theorem d_cX6_link_33 : decode cX6_link 33 = .ok (.lastore, 1) := by decide +kernel
theorem d_cX6_loopOf_0 : decode cX6_loopOf 0 = .ok (.lconst 1, 1) := by decide +kernel
theorem d_cX6_loopOf_1 : decode cX6_loopOf 1 = .ok (.iload_n 1, 1) := by decide +kernel
theorem d_cX6_loopOf_2 : decode cX6_loopOf 2 = .ok (.lshl, 1) := by decide +kernel
theorem d_cX6_loopOf_3 : decode cX6_loopOf 3 = .ok (.lstore 4, 2) := by decide +kernel
theorem d_cX6_loopOf_5 : decode cX6_loopOf 5 = .ok (.aload_n 0, 1) := by decide +kernel
theorem d_cX6_loopOf_6 : decode cX6_loopOf 6 = .ok (.getfield 9, 3) := by decide +kernel
theorem d_cX6_loopOf_9 : decode cX6_loopOf 9 = .ok (.lconst 1, 1) := by decide +kernel
theorem d_cX6_loopOf_10 : decode cX6_loopOf 10 = .ok (.lload 4, 2) := by decide +kernel
theorem d_cX6_loopOf_12 : decode cX6_loopOf 12 = .ok (.invokestatic 50, 3) := by decide +kernel
theorem w_4_4 : (Jvm.Cond.methodLink "SpillForge$Loops" (50 : Nat) ({ cls := "SpillForge$Loops", name := "walk", desc := "([JJJ)J" } : Jvm.MethodName)) ∈ gw := gw_4 4 rfl rfl
theorem w_1_7 : (Jvm.Cond.initialized "SpillForge$Loops") ∈ gw := gw_1 7 rfl rfl
theorem w_4_6 : (Jvm.Cond.code ({ cls := "SpillForge$Loops", name := "walk", desc := "([JJJ)J" } : Jvm.MethodName) prog_8_method_8_code (11 : Nat) (Option.some Jvm.ClassFile.FieldType.long)) ∈ gw := gw_4 6 rfl rfl
theorem w_4_5 : (Jvm.Cond.static ({ cls := "SpillForge$Loops", name := "walk", desc := "([JJJ)J" } : Jvm.MethodName)) ∈ gw := gw_4 5 rfl rfl
theorem d_cX6_loopOf_15 : decode cX6_loopOf 15 = .ok (.lstore 6, 2) := by decide +kernel
theorem d_cX6_loopOf_17 : decode cX6_loopOf 17 = .ok (.aload_n 0, 1) := by decide +kernel
theorem d_cX6_loopOf_18 : decode cX6_loopOf 18 = .ok (.getfield 15, 3) := by decide +kernel
theorem d_cX6_loopOf_21 : decode cX6_loopOf 21 = .ok (.iload_n 1, 1) := by decide +kernel
theorem d_cX6_loopOf_22 : decode cX6_loopOf 22 = .ok (.laload, 1) := by decide +kernel
theorem d_cX6_loopOf_23 : decode cX6_loopOf 23 = .ok (.lload_n 2, 1) := by decide +kernel
theorem d_cX6_loopOf_24 : decode cX6_loopOf 24 = .ok (.land, 1) := by decide +kernel
theorem d_cX6_loopOf_25 : decode cX6_loopOf 25 = .ok (.lload 6, 2) := by decide +kernel
theorem d_cX6_loopOf_27 : decode cX6_loopOf 27 = .ok (.ldc2_w 62, 3) := by decide +kernel
theorem d_cX6_loopOf_30 : decode cX6_loopOf 30 = .ok (.lxor, 1) := by decide +kernel
theorem d_cX6_loopOf_31 : decode cX6_loopOf 31 = .ok (.land, 1) := by decide +kernel
theorem d_cX6_loopOf_32 : decode cX6_loopOf 32 = .ok (.lstore 8, 2) := by decide +kernel
theorem d_cX6_loopOf_34 : decode cX6_loopOf 34 = .ok (.lload 8, 2) := by decide +kernel
theorem d_cX6_loopOf_36 : decode cX6_loopOf 36 = .ok (.lconst 0, 1) := by decide +kernel
theorem d_cX6_loopOf_37 : decode cX6_loopOf 37 = .ok (.lcmp, 1) := by decide +kernel
theorem d_cX6_loopOf_38 : decode cX6_loopOf 38 = .ok (.ifCond .ne 7, 3) := by decide +kernel
theorem d_cX6_loopOf_45 : decode cX6_loopOf 45 = .ok (.lload 4, 2) := by decide +kernel
theorem d_cX6_loopOf_47 : decode cX6_loopOf 47 = .ok (.aload_n 0, 1) := by decide +kernel
theorem d_cX6_loopOf_48 : decode cX6_loopOf 48 = .ok (.getfield 15, 3) := by decide +kernel
theorem d_cX6_loopOf_51 : decode cX6_loopOf 51 = .ok (.lload 8, 2) := by decide +kernel
theorem d_cX6_loopOf_53 : decode cX6_loopOf 53 = .ok (.lload 4, 2) := by decide +kernel
theorem d_cX6_loopOf_55 : decode cX6_loopOf 55 = .ok (.lload_n 2, 1) := by decide +kernel
theorem d_cX6_loopOf_56 : decode cX6_loopOf 56 = .ok (.ldc2_w 62, 3) := by decide +kernel
theorem d_cX6_loopOf_59 : decode cX6_loopOf 59 = .ok (.lxor, 1) := by decide +kernel
theorem d_cX6_loopOf_60 : decode cX6_loopOf 60 = .ok (.lor, 1) := by decide +kernel
theorem d_cX6_loopOf_61 : decode cX6_loopOf 61 = .ok (.invokestatic 50, 3) := by decide +kernel
theorem d_cX6_loopOf_64 : decode cX6_loopOf 64 = .ok (.lor, 1) := by decide +kernel
theorem d_cX6_loopOf_65 : decode cX6_loopOf 65 = .ok (.lreturn, 1) := by decide +kernel
theorem d_cX6_loopOf_41 : decode cX6_loopOf 41 = .ok (.lconst 0, 1) := by decide +kernel
theorem d_cX6_loopOf_42 : decode cX6_loopOf 42 = .ok (.goto 23, 3) := by decide +kernel
theorem d_cX6_deepen_0 : decode cX6_deepen 0 = .ok (.iconst 0, 1) := by decide +kernel
theorem d_cX6_deepen_1 : decode cX6_deepen 1 = .ok (.istore_n 3, 1) := by decide +kernel
theorem d_cX6_deepen_2 : decode cX6_deepen 2 = .ok (.iload_n 3, 1) := by decide +kernel
theorem d_cX6_deepen_3 : decode cX6_deepen 3 = .ok (.bipush 40, 2) := by decide +kernel
theorem d_cX6_deepen_5 : decode cX6_deepen 5 = .ok (.if_icmp .ge 39, 3) := by decide +kernel
theorem d_cX6_deepen_44 : decode cX6_deepen 44 = .ok (.return_, 1) := by decide +kernel
theorem d_cX6_deepen_8 : decode cX6_deepen 8 = .ok (.lload_n 1, 1) := by decide +kernel
theorem d_cX6_deepen_9 : decode cX6_deepen 9 = .ok (.iload_n 3, 1) := by decide +kernel
theorem d_cX6_deepen_10 : decode cX6_deepen 10 = .ok (.lshr, 1) := by decide +kernel
theorem d_cX6_deepen_11 : decode cX6_deepen 11 = .ok (.lconst 1, 1) := by decide +kernel
theorem d_cX6_deepen_12 : decode cX6_deepen 12 = .ok (.land, 1) := by decide +kernel
theorem d_cX6_deepen_13 : decode cX6_deepen 13 = .ok (.lconst 0, 1) := by decide +kernel
theorem d_cX6_deepen_14 : decode cX6_deepen 14 = .ok (.lcmp, 1) := by decide +kernel
theorem d_cX6_deepen_15 : decode cX6_deepen 15 = .ok (.ifCond .eq 23, 3) := by decide +kernel
theorem d_cX6_deepen_38 : decode cX6_deepen 38 = .ok (.iinc 3 1, 3) := by decide +kernel
theorem d_cX6_deepen_41 : decode cX6_deepen 41 = .ok (.goto (-39), 3) := by decide +kernel
theorem d_cX6_deepen_18 : decode cX6_deepen 18 = .ok (.aload_n 0, 1) := by decide +kernel
theorem d_cX6_deepen_19 : decode cX6_deepen 19 = .ok (.getfield 18, 3) := by decide +kernel
theorem w_1_235 : (Jvm.Cond.fieldLink "SpillForge$Loops" (18 : Nat) "SpillForge$Loops" "depth" "[I") ∈ gw := gw_1 235 rfl rfl
theorem d_cX6_deepen_22 : decode cX6_deepen 22 = .ok (.iload_n 3, 1) := by decide +kernel
theorem d_cX6_deepen_23 : decode cX6_deepen 23 = .ok (.iaload, 1) := by decide +kernel
theorem d_cX6_deepen_24 : decode cX6_deepen 24 = .ok (.iconst 4, 1) := by decide +kernel
theorem d_cX6_deepen_25 : decode cX6_deepen 25 = .ok (.if_icmp .ge 13, 3) := by decide +kernel
theorem d_cX6_deepen_28 : decode cX6_deepen 28 = .ok (.aload_n 0, 1) := by decide +kernel
theorem d_cX6_deepen_29 : decode cX6_deepen 29 = .ok (.getfield 18, 3) := by decide +kernel
theorem d_cX6_deepen_32 : decode cX6_deepen 32 = .ok (.iload_n 3, 1) := by decide +kernel
theorem d_cX6_deepen_33 : decode cX6_deepen 33 = .ok (.dup2, 1) := by decide +kernel
theorem d_cX6_deepen_34 : decode cX6_deepen 34 = .ok (.iaload, 1) := by decide +kernel
theorem d_cX6_deepen_35 : decode cX6_deepen 35 = .ok (.iconst 1, 1) := by decide +kernel
theorem d_cX6_deepen_36 : decode cX6_deepen 36 = .ok (.iadd, 1) := by decide +kernel
theorem d_cX6_deepen_37 : decode cX6_deepen 37 = .ok (.iastore, 1) := by decide +kernel
theorem d_cX6_find_0 : decode cX6_find 0 = .ok (.aload_n 0, 1) := by decide +kernel
theorem d_cX6_find_1 : decode cX6_find 1 = .ok (.getfield 9, 3) := by decide +kernel
theorem d_cX6_find_4 : decode cX6_find 4 = .ok (.lconst 0, 1) := by decide +kernel
theorem d_cX6_find_5 : decode cX6_find 5 = .ok (.invokestatic 25, 3) := by decide +kernel
theorem w_3_234 : (Jvm.Cond.methodLink "SpillForge$Loops" (25 : Nat) ({ cls := "java/util/Arrays", name := "fill", desc := "([JJ)V" } : Jvm.MethodName)) ∈ gw := gw_3 234 rfl rfl
theorem w_1_30 : (Jvm.Cond.initialized "java/util/Arrays") ∈ gw := gw_1 30 rfl rfl
theorem w_3_236 : (Jvm.Cond.code ({ cls := "java/util/Arrays", name := "fill", desc := "([JJ)V" } : Jvm.MethodName) prog_44_method_101_code (5 : Nat) (Option.none : Option Jvm.ClassFile.FieldType)) ∈ gw := gw_3 236 rfl rfl
theorem w_3_235 : (Jvm.Cond.static ({ cls := "java/util/Arrays", name := "fill", desc := "([JJ)V" } : Jvm.MethodName)) ∈ gw := gw_3 235 rfl rfl
theorem d_cX6_find_8 : decode cX6_find 8 = .ok (.aload_n 0, 1) := by decide +kernel
theorem d_cX6_find_9 : decode cX6_find 9 = .ok (.getfield 15, 3) := by decide +kernel
theorem d_cX6_find_12 : decode cX6_find 12 = .ok (.lconst 0, 1) := by decide +kernel
theorem d_cX6_find_13 : decode cX6_find 13 = .ok (.invokestatic 25, 3) := by decide +kernel
theorem d_cX6_find_16 : decode cX6_find 16 = .ok (.aload_n 0, 1) := by decide +kernel
theorem d_cX6_find_17 : decode cX6_find 17 = .ok (.getfield 18, 3) := by decide +kernel
theorem d_cX6_find_20 : decode cX6_find 20 = .ok (.iconst 0, 1) := by decide +kernel
theorem d_cX6_find_21 : decode cX6_find 21 = .ok (.invokestatic 31, 3) := by decide +kernel
theorem w_3_237 : (Jvm.Cond.methodLink "SpillForge$Loops" (31 : Nat) ({ cls := "java/util/Arrays", name := "fill", desc := "([II)V" } : Jvm.MethodName)) ∈ gw := gw_3 237 rfl rfl
theorem w_3_239 : (Jvm.Cond.code ({ cls := "java/util/Arrays", name := "fill", desc := "([II)V" } : Jvm.MethodName) prog_44_method_103_code (4 : Nat) (Option.none : Option Jvm.ClassFile.FieldType)) ∈ gw := gw_3 239 rfl rfl
theorem w_3_238 : (Jvm.Cond.static ({ cls := "java/util/Arrays", name := "fill", desc := "([II)V" } : Jvm.MethodName)) ∈ gw := gw_3 238 rfl rfl
theorem d_cX6_find_24 : decode cX6_find 24 = .ok (.iconst 0, 1) := by decide +kernel
theorem d_cX6_find_25 : decode cX6_find 25 = .ok (.istore_n 2, 1) := by decide +kernel
theorem d_cX6_find_26 : decode cX6_find 26 = .ok (.iload_n 2, 1) := by decide +kernel
theorem d_cX6_find_27 : decode cX6_find 27 = .ok (.aload_n 1, 1) := by decide +kernel
theorem d_cX6_find_28 : decode cX6_find 28 = .ok (.getfield 34, 3) := by decide +kernel
theorem d_cX6_find_31 : decode cX6_find 31 = .ok (.if_icmp .ge 31, 3) := by decide +kernel
theorem d_cX6_find_62 : decode cX6_find 62 = .ok (.aload_n 0, 1) := by decide +kernel
theorem d_cX6_find_63 : decode cX6_find 63 = .ok (.getfield 9, 3) := by decide +kernel
theorem d_cX6_find_66 : decode cX6_find 66 = .ok (.lconst 1, 1) := by decide +kernel
theorem d_cX6_find_67 : decode cX6_find 67 = .ok (.lconst 0, 1) := by decide +kernel
theorem d_cX6_find_68 : decode cX6_find 68 = .ok (.invokestatic 50, 3) := by decide +kernel
theorem d_cX6_find_71 : decode cX6_find 71 = .ok (.lstore_n 2, 1) := by decide +kernel
theorem d_cX6_find_72 : decode cX6_find 72 = .ok (.iconst 0, 1) := by decide +kernel
theorem d_cX6_find_73 : decode cX6_find 73 = .ok (.istore 4, 2) := by decide +kernel
theorem d_cX6_find_75 : decode cX6_find 75 = .ok (.iload 4, 2) := by decide +kernel
theorem d_cX6_find_77 : decode cX6_find 77 = .ok (.aload_n 1, 1) := by decide +kernel
theorem d_cX6_find_78 : decode cX6_find 78 = .ok (.getfield 34, 3) := by decide +kernel
theorem d_cX6_find_81 : decode cX6_find 81 = .ok (.if_icmp .ge 20, 3) := by decide +kernel
theorem d_cX6_find_101 : decode cX6_find 101 = .ok (.return_, 1) := by decide +kernel
theorem d_cX6_find_84 : decode cX6_find 84 = .ok (.aload_n 0, 1) := by decide +kernel
theorem d_cX6_find_85 : decode cX6_find 85 = .ok (.aload_n 0, 1) := by decide +kernel
theorem d_cX6_find_86 : decode cX6_find 86 = .ok (.iload 4, 2) := by decide +kernel
theorem d_cX6_find_88 : decode cX6_find 88 = .ok (.lload_n 2, 1) := by decide +kernel
theorem d_cX6_find_89 : decode cX6_find 89 = .ok (.invokevirtual 54, 3) := by decide +kernel
theorem w_4_8 : (Jvm.Cond.methodLink "SpillForge$Loops" (54 : Nat) ({ cls := "SpillForge$Loops", name := "loopOf", desc := "(IJ)J" } : Jvm.MethodName)) ∈ gw := gw_4 8 rfl rfl
theorem w_4_11 : (Jvm.Cond.code ({ cls := "SpillForge$Loops", name := "loopOf", desc := "(IJ)J" } : Jvm.MethodName) prog_8_method_6_code (10 : Nat) (Option.some Jvm.ClassFile.FieldType.long)) ∈ gw := gw_4 11 rfl rfl
theorem w_4_10 : (Jvm.Cond.instanceMethod ({ cls := "SpillForge$Loops", name := "loopOf", desc := "(IJ)J" } : Jvm.MethodName)) ∈ gw := gw_4 10 rfl rfl
theorem w_p_27 : Cond.selects "SpillForge$Loops" ⟨"SpillForge$Loops", "loopOf", "(IJ)J"⟩ ⟨"SpillForge$Loops", "loopOf", "(IJ)J"⟩ ∈ gw := gw_p _ 27 rfl rfl rfl
theorem d_cX6_find_92 : decode cX6_find 92 = .ok (.invokevirtual 58, 3) := by decide +kernel
theorem w_4_12 : (Jvm.Cond.methodLink "SpillForge$Loops" (58 : Nat) ({ cls := "SpillForge$Loops", name := "deepen", desc := "(J)V" } : Jvm.MethodName)) ∈ gw := gw_4 12 rfl rfl
theorem w_4_15 : (Jvm.Cond.code ({ cls := "SpillForge$Loops", name := "deepen", desc := "(J)V" } : Jvm.MethodName) prog_8_method_7_code (4 : Nat) (Option.none : Option Jvm.ClassFile.FieldType)) ∈ gw := gw_4 15 rfl rfl
theorem w_4_14 : (Jvm.Cond.instanceMethod ({ cls := "SpillForge$Loops", name := "deepen", desc := "(J)V" } : Jvm.MethodName)) ∈ gw := gw_4 14 rfl rfl
theorem w_p_28 : Cond.selects "SpillForge$Loops" ⟨"SpillForge$Loops", "deepen", "(J)V"⟩ ⟨"SpillForge$Loops", "deepen", "(J)V"⟩ ∈ gw := gw_p _ 28 rfl rfl rfl
theorem d_cX6_find_95 : decode cX6_find 95 = .ok (.iinc 4 1, 3) := by decide +kernel
theorem d_cX6_find_98 : decode cX6_find 98 = .ok (.goto (-23), 3) := by decide +kernel
theorem d_cX6_find_34 : decode cX6_find 34 = .ok (.aload_n 0, 1) := by decide +kernel
theorem d_cX6_find_35 : decode cX6_find 35 = .ok (.iload_n 2, 1) := by decide +kernel
theorem d_cX6_find_36 : decode cX6_find 36 = .ok (.aload_n 1, 1) := by decide +kernel
theorem d_cX6_find_37 : decode cX6_find 37 = .ok (.getfield 40, 3) := by decide +kernel
theorem d_cX6_find_40 : decode cX6_find 40 = .ok (.iload_n 2, 1) := by decide +kernel
theorem d_cX6_find_41 : decode cX6_find 41 = .ok (.iaload, 1) := by decide +kernel
theorem d_cX6_find_42 : decode cX6_find 42 = .ok (.invokevirtual 43, 3) := by decide +kernel
theorem w_4_0 : (Jvm.Cond.methodLink "SpillForge$Loops" (43 : Nat) ({ cls := "SpillForge$Loops", name := "link", desc := "(II)V" } : Jvm.MethodName)) ∈ gw := gw_4 0 rfl rfl
theorem w_4_3 : (Jvm.Cond.code ({ cls := "SpillForge$Loops", name := "link", desc := "(II)V" } : Jvm.MethodName) prog_8_method_5_code (3 : Nat) (Option.none : Option Jvm.ClassFile.FieldType)) ∈ gw := gw_4 3 rfl rfl
theorem w_4_2 : (Jvm.Cond.instanceMethod ({ cls := "SpillForge$Loops", name := "link", desc := "(II)V" } : Jvm.MethodName)) ∈ gw := gw_4 2 rfl rfl
theorem w_p_26 : Cond.selects "SpillForge$Loops" ⟨"SpillForge$Loops", "link", "(II)V"⟩ ⟨"SpillForge$Loops", "link", "(II)V"⟩ ∈ gw := gw_p _ 26 rfl rfl rfl
theorem d_cX6_find_45 : decode cX6_find 45 = .ok (.aload_n 0, 1) := by decide +kernel
theorem d_cX6_find_46 : decode cX6_find 46 = .ok (.iload_n 2, 1) := by decide +kernel
theorem d_cX6_find_47 : decode cX6_find 47 = .ok (.aload_n 1, 1) := by decide +kernel
theorem d_cX6_find_48 : decode cX6_find 48 = .ok (.getfield 47, 3) := by decide +kernel
theorem d_cX6_find_51 : decode cX6_find 51 = .ok (.iload_n 2, 1) := by decide +kernel
theorem d_cX6_find_52 : decode cX6_find 52 = .ok (.iaload, 1) := by decide +kernel
theorem d_cX6_find_53 : decode cX6_find 53 = .ok (.invokevirtual 43, 3) := by decide +kernel
theorem d_cX6_find_56 : decode cX6_find 56 = .ok (.iinc 2 1, 3) := by decide +kernel
theorem d_cX6_find_59 : decode cX6_find 59 = .ok (.goto (-33), 3) := by decide +kernel
theorem d_cX7_takeInput_0 : decode cX7_takeInput 0 = .ok (.aload_n 0, 1) := by decide +kernel
theorem d_cX7_takeInput_1 : decode cX7_takeInput 1 = .ok (.aload_n 1, 1) := by decide +kernel
theorem d_cX7_takeInput_2 : decode cX7_takeInput 2 = .ok (.invokevirtual 28, 3) := by decide +kernel
theorem w_4_176 : (Jvm.Cond.methodLink "SpillForge$Machine" (28 : Nat) ({ cls := "SpillForge$Tape", name := "size", desc := "()I" } : Jvm.MethodName)) ∈ gw := gw_4 176 rfl rfl
theorem d_cX7_takeInput_5 : decode cX7_takeInput 5 = .ok (.iconst 4, 1) := by decide +kernel
theorem d_cX7_takeInput_6 : decode cX7_takeInput 6 = .ok (.idiv, 1) := by decide +kernel
theorem d_cX7_takeInput_7 : decode cX7_takeInput 7 = .ok (.aload_n 0, 1) := by decide +kernel
theorem d_cX7_takeInput_8 : decode cX7_takeInput 8 = .ok (.getfield 9, 3) := by decide +kernel
theorem w_2_160 : (Jvm.Cond.fieldLink "SpillForge$Machine" (9 : Nat) "SpillForge$Machine" "given" "[I") ∈ gw := gw_2 160 rfl rfl
theorem d_cX7_takeInput_11 : decode cX7_takeInput 11 = .ok (.arraylength, 1) := by decide +kernel
theorem d_cX7_takeInput_12 : decode cX7_takeInput 12 = .ok (.invokestatic 34, 3) := by decide +kernel
theorem w_4_177 : (Jvm.Cond.methodLink "SpillForge$Machine" (34 : Nat) ({ cls := "java/lang/Math", name := "min", desc := "(II)I" } : Jvm.MethodName)) ∈ gw := gw_4 177 rfl rfl
theorem d_cX7_takeInput_15 : decode cX7_takeInput 15 = .ok (.putfield 40, 3) := by decide +kernel
theorem w_2_164 : (Jvm.Cond.fieldLink "SpillForge$Machine" (40 : Nat) "SpillForge$Machine" "givens" "I") ∈ gw := gw_2 164 rfl rfl
theorem d_cX7_takeInput_18 : decode cX7_takeInput 18 = .ok (.iconst 0, 1) := by decide +kernel
theorem d_cX7_takeInput_19 : decode cX7_takeInput 19 = .ok (.istore_n 2, 1) := by decide +kernel
theorem d_cX7_takeInput_20 : decode cX7_takeInput 20 = .ok (.iload_n 2, 1) := by decide +kernel
theorem d_cX7_takeInput_21 : decode cX7_takeInput 21 = .ok (.aload_n 0, 1) := by decide +kernel
theorem d_cX7_takeInput_22 : decode cX7_takeInput 22 = .ok (.getfield 40, 3) := by decide +kernel
theorem d_cX7_takeInput_25 : decode cX7_takeInput 25 = .ok (.if_icmp .ge 22, 3) := by decide +kernel
theorem d_cX7_takeInput_47 : decode cX7_takeInput 47 = .ok (.aload_n 0, 1) := by decide +kernel
theorem d_cX7_takeInput_48 : decode cX7_takeInput 48 = .ok (.getfield 40, 3) := by decide +kernel
theorem d_cX7_takeInput_51 : decode cX7_takeInput 51 = .ok (.ireturn, 1) := by decide +kernel
theorem d_cX7_takeInput_28 : decode cX7_takeInput 28 = .ok (.aload_n 0, 1) := by decide +kernel
theorem d_cX7_takeInput_29 : decode cX7_takeInput 29 = .ok (.getfield 9, 3) := by decide +kernel
theorem d_cX7_takeInput_32 : decode cX7_takeInput 32 = .ok (.iload_n 2, 1) := by decide +kernel
theorem d_cX7_takeInput_33 : decode cX7_takeInput 33 = .ok (.aload_n 1, 1) := by decide +kernel
theorem d_cX7_takeInput_34 : decode cX7_takeInput 34 = .ok (.iconst 4, 1) := by decide +kernel
theorem d_cX7_takeInput_35 : decode cX7_takeInput 35 = .ok (.iload_n 2, 1) := by decide +kernel
theorem d_cX7_takeInput_36 : decode cX7_takeInput 36 = .ok (.imul, 1) := by decide +kernel
theorem d_cX7_takeInput_37 : decode cX7_takeInput 37 = .ok (.invokevirtual 43, 3) := by decide +kernel
theorem w_4_178 : (Jvm.Cond.methodLink "SpillForge$Machine" (43 : Nat) ({ cls := "SpillForge$Tape", name := "intAt", desc := "(I)I" } : Jvm.MethodName)) ∈ gw := gw_4 178 rfl rfl
theorem w_4_181 : (Jvm.Cond.code ({ cls := "SpillForge$Tape", name := "intAt", desc := "(I)I" } : Jvm.MethodName) prog_12_method_7_code (4 : Nat) (Option.some Jvm.ClassFile.FieldType.int)) ∈ gw := gw_4 181 rfl rfl
theorem w_4_179 : (Jvm.Cond.instanceMethod ({ cls := "SpillForge$Tape", name := "intAt", desc := "(I)I" } : Jvm.MethodName)) ∈ gw := gw_4 179 rfl rfl
theorem w_4_180 : (Jvm.Cond.selects "SpillForge$Tape" ({ cls := "SpillForge$Tape", name := "intAt", desc := "(I)I" } : Jvm.MethodName) ({ cls := "SpillForge$Tape", name := "intAt", desc := "(I)I" } : Jvm.MethodName)) ∈ gw := gw_4 180 rfl rfl
theorem d_cX7_takeInput_40 : decode cX7_takeInput 40 = .ok (.iastore, 1) := by decide +kernel
theorem d_cX7_takeInput_41 : decode cX7_takeInput 41 = .ok (.iinc 2 1, 3) := by decide +kernel
theorem d_cX7_takeInput_44 : decode cX7_takeInput 44 = .ok (.goto (-24), 3) := by decide +kernel
theorem d_cX7_halt_0 : decode cX7_halt 0 = .ok (.aload_n 0, 1) := by decide +kernel
theorem d_cX7_halt_1 : decode cX7_halt 1 = .ok (.iload_n 1, 1) := by decide +kernel
theorem d_cX7_halt_2 : decode cX7_halt 2 = .ok (.putfield 24, 3) := by decide +kernel
theorem w_2_170 : (Jvm.Cond.fieldLink "SpillForge$Machine" (24 : Nat) "SpillForge$Machine" "ending" "I") ∈ gw := gw_2 170 rfl rfl
theorem d_cX7_halt_5 : decode cX7_halt 5 = .ok (.iconst (-1), 1) := by decide +kernel
theorem d_cX7_halt_6 : decode cX7_halt 6 = .ok (.ireturn, 1) := by decide +kernel
theorem d_cX7_valueOf_0 : decode cX7_valueOf 0 = .ok (.iload_n 1, 1) := by decide +kernel
theorem d_cX7_valueOf_1 : decode cX7_valueOf 1 = .ok (.ifCond .lt 18, 3) := by decide +kernel
theorem d_cX7_valueOf_19 : decode cX7_valueOf 19 = .ok (.iload_n 2, 1) := by decide +kernel
theorem d_cX7_valueOf_20 : decode cX7_valueOf 20 = .ok (.ireturn, 1) := by decide +kernel
theorem d_cX7_valueOf_4 : decode cX7_valueOf 4 = .ok (.iload_n 1, 1) := by decide +kernel
theorem d_cX7_valueOf_5 : decode cX7_valueOf 5 = .ok (.bipush 100, 2) := by decide +kernel
theorem d_cX7_valueOf_7 : decode cX7_valueOf 7 = .ok (.if_icmp .ge 12, 3) := by decide +kernel
theorem d_cX7_valueOf_10 : decode cX7_valueOf 10 = .ok (.aload_n 0, 1) := by decide +kernel
theorem d_cX7_valueOf_11 : decode cX7_valueOf 11 = .ok (.getfield 15, 3) := by decide +kernel
theorem w_2_161 : (Jvm.Cond.fieldLink "SpillForge$Machine" (15 : Nat) "SpillForge$Machine" "registers" "[I") ∈ gw := gw_2 161 rfl rfl
theorem d_cX7_valueOf_14 : decode cX7_valueOf 14 = .ok (.iload_n 1, 1) := by decide +kernel
theorem d_cX7_valueOf_15 : decode cX7_valueOf 15 = .ok (.iaload, 1) := by decide +kernel
theorem d_cX7_valueOf_16 : decode cX7_valueOf 16 = .ok (.goto 4, 3) := by decide +kernel
theorem d_cX7_put_0 : decode cX7_put 0 = .ok (.iload_n 1, 1) := by decide +kernel
theorem d_cX7_put_1 : decode cX7_put 1 = .ok (.ifCond .lt 13, 3) := by decide +kernel
theorem d_cX7_put_14 : decode cX7_put 14 = .ok (.return_, 1) := by decide +kernel
theorem d_cX7_put_4 : decode cX7_put 4 = .ok (.iload_n 1, 1) := by decide +kernel
theorem d_cX7_put_5 : decode cX7_put 5 = .ok (.aload_n 0, 1) := by decide +kernel
theorem d_cX7_put_6 : decode cX7_put 6 = .ok (.arraylength, 1) := by decide +kernel
theorem d_cX7_put_7 : decode cX7_put 7 = .ok (.if_icmp .ge 7, 3) := by decide +kernel
theorem d_cX7_put_10 : decode cX7_put 10 = .ok (.aload_n 0, 1) := by decide +kernel
theorem d_cX7_put_11 : decode cX7_put 11 = .ok (.iload_n 1, 1) := by decide +kernel
theorem d_cX7_put_12 : decode cX7_put 12 = .ok (.iload_n 2, 1) := by decide +kernel
theorem d_cX7_put_13 : decode cX7_put 13 = .ok (.iastore, 1) := by decide +kernel
theorem d_cX7_takeNext_0 : decode cX7_takeNext 0 = .ok (.aload_n 0, 1) := by decide +kernel
theorem d_cX7_takeNext_1 : decode cX7_takeNext 1 = .ok (.getfield 56, 3) := by decide +kernel
theorem w_2_169 : (Jvm.Cond.fieldLink "SpillForge$Machine" (56 : Nat) "SpillForge$Machine" "taken" "I") ∈ gw := gw_2 169 rfl rfl
theorem d_cX7_takeNext_4 : decode cX7_takeNext 4 = .ok (.aload_n 0, 1) := by decide +kernel
theorem d_cX7_takeNext_5 : decode cX7_takeNext 5 = .ok (.getfield 40, 3) := by decide +kernel
theorem d_cX7_takeNext_8 : decode cX7_takeNext 8 = .ok (.if_icmp .lt 5, 3) := by decide +kernel
theorem d_cX7_takeNext_13 : decode cX7_takeNext 13 = .ok (.aload_n 0, 1) := by decide +kernel
theorem d_cX7_takeNext_14 : decode cX7_takeNext 14 = .ok (.dup, 1) := by decide +kernel
theorem d_cX7_takeNext_15 : decode cX7_takeNext 15 = .ok (.getfield 56, 3) := by decide +kernel
theorem d_cX7_takeNext_18 : decode cX7_takeNext 18 = .ok (.iconst 1, 1) := by decide +kernel
theorem d_cX7_takeNext_19 : decode cX7_takeNext 19 = .ok (.iadd, 1) := by decide +kernel
theorem d_cX7_takeNext_20 : decode cX7_takeNext 20 = .ok (.putfield 56, 3) := by decide +kernel
theorem d_cX7_takeNext_23 : decode cX7_takeNext 23 = .ok (.aload_n 0, 1) := by decide +kernel
theorem d_cX7_takeNext_24 : decode cX7_takeNext 24 = .ok (.getfield 9, 3) := by decide +kernel
theorem d_cX7_takeNext_27 : decode cX7_takeNext 27 = .ok (.aload_n 0, 1) := by decide +kernel
theorem d_cX7_takeNext_28 : decode cX7_takeNext 28 = .ok (.getfield 56, 3) := by decide +kernel
theorem d_cX7_takeNext_31 : decode cX7_takeNext 31 = .ok (.iconst 1, 1) := by decide +kernel
theorem d_cX7_takeNext_32 : decode cX7_takeNext 32 = .ok (.isub, 1) := by decide +kernel
theorem d_cX7_takeNext_33 : decode cX7_takeNext 33 = .ok (.iaload, 1) := by decide +kernel
theorem d_cX7_takeNext_34 : decode cX7_takeNext 34 = .ok (.ireturn, 1) := by decide +kernel
theorem d_cX7_takeNext_11 : decode cX7_takeNext 11 = .ok (.iconst 0, 1) := by decide +kernel
theorem d_cX7_takeNext_12 : decode cX7_takeNext 12 = .ok (.ireturn, 1) := by decide +kernel
theorem d_cX7_addShow_0 : decode cX7_addShow 0 = .ok (.aload_n 0, 1) := by decide +kernel
theorem d_cX7_addShow_1 : decode cX7_addShow 1 = .ok (.getfield 50, 3) := by decide +kernel
theorem w_2_167 : (Jvm.Cond.fieldLink "SpillForge$Machine" (50 : Nat) "SpillForge$Machine" "showCount" "I") ∈ gw := gw_2 167 rfl rfl
theorem d_cX7_addShow_4 : decode cX7_addShow 4 = .ok (.sipush 512, 3) := by decide +kernel
theorem d_cX7_addShow_7 : decode cX7_addShow 7 = .ok (.if_icmp .lt 5, 3) := by decide +kernel
theorem d_cX7_addShow_12 : decode cX7_addShow 12 = .ok (.aload_n 0, 1) := by decide +kernel
theorem d_cX7_addShow_13 : decode cX7_addShow 13 = .ok (.getfield 21, 3) := by decide +kernel
theorem w_2_163 : (Jvm.Cond.fieldLink "SpillForge$Machine" (21 : Nat) "SpillForge$Machine" "shows" "[I") ∈ gw := gw_2 163 rfl rfl
theorem d_cX7_addShow_16 : decode cX7_addShow 16 = .ok (.aload_n 0, 1) := by decide +kernel
theorem d_cX7_addShow_17 : decode cX7_addShow 17 = .ok (.getfield 50, 3) := by decide +kernel
theorem d_cX7_addShow_20 : decode cX7_addShow 20 = .ok (.iload_n 1, 1) := by decide +kernel
theorem d_cX7_addShow_21 : decode cX7_addShow 21 = .ok (.iastore, 1) := by decide +kernel
theorem d_cX7_addShow_22 : decode cX7_addShow 22 = .ok (.aload_n 0, 1) := by decide +kernel
theorem d_cX7_addShow_23 : decode cX7_addShow 23 = .ok (.dup, 1) := by decide +kernel
theorem d_cX7_addShow_24 : decode cX7_addShow 24 = .ok (.getfield 50, 3) := by decide +kernel
theorem d_cX7_addShow_27 : decode cX7_addShow 27 = .ok (.iconst 1, 1) := by decide +kernel
theorem d_cX7_addShow_28 : decode cX7_addShow 28 = .ok (.iadd, 1) := by decide +kernel
theorem d_cX7_addShow_29 : decode cX7_addShow 29 = .ok (.putfield 50, 3) := by decide +kernel
theorem d_cX7_addShow_32 : decode cX7_addShow 32 = .ok (.iconst 1, 1) := by decide +kernel
theorem d_cX7_addShow_33 : decode cX7_addShow 33 = .ok (.ireturn, 1) := by decide +kernel
theorem d_cX7_addShow_10 : decode cX7_addShow 10 = .ok (.iconst 0, 1) := by decide +kernel
theorem d_cX7_addShow_11 : decode cX7_addShow 11 = .ok (.ireturn, 1) := by decide +kernel
theorem d_cX7_slotAt_0 : decode cX7_slotAt 0 = .ok (.iload_n 1, 1) := by decide +kernel
theorem d_cX7_slotAt_1 : decode cX7_slotAt 1 = .ok (.ifCond .lt 18, 3) := by decide +kernel
theorem d_cX7_slotAt_19 : decode cX7_slotAt 19 = .ok (.iconst 0, 1) := by decide +kernel
theorem d_cX7_slotAt_20 : decode cX7_slotAt 20 = .ok (.ireturn, 1) := by decide +kernel
theorem d_cX7_slotAt_4 : decode cX7_slotAt 4 = .ok (.iload_n 1, 1) := by decide +kernel
theorem d_cX7_slotAt_5 : decode cX7_slotAt 5 = .ok (.bipush 100, 2) := by decide +kernel
theorem d_cX7_slotAt_7 : decode cX7_slotAt 7 = .ok (.if_icmp .ge 12, 3) := by decide +kernel
theorem d_cX7_slotAt_10 : decode cX7_slotAt 10 = .ok (.aload_n 0, 1) := by decide +kernel
theorem d_cX7_slotAt_11 : decode cX7_slotAt 11 = .ok (.getfield 18, 3) := by decide +kernel
theorem w_2_162 : (Jvm.Cond.fieldLink "SpillForge$Machine" (18 : Nat) "SpillForge$Machine" "slots" "[I") ∈ gw := gw_2 162 rfl rfl
theorem d_cX7_slotAt_14 : decode cX7_slotAt 14 = .ok (.iload_n 1, 1) := by decide +kernel
theorem d_cX7_slotAt_15 : decode cX7_slotAt 15 = .ok (.iaload, 1) := by decide +kernel
theorem d_cX7_slotAt_16 : decode cX7_slotAt 16 = .ok (.goto 4, 3) := by decide +kernel
abbrev ky_1318_Loops_walk : gKey := (cX6_walk, 11, yX6_walk.cls, (some FieldType.long), [], yX6_walk.name, fun _ _ => True)
abbrev po_1318_Loops_walk (I : FieldType → ClassId) (q1314 : Nat) (pl1315 : Int64) (pl1316 : Int64) (f1317 : Nat → Int64) : Option Value → va_W → Prop := fun r w => ∃ (ol2165 : Int64), r = some (.long ol2165) ∧ w = [(q1314, .inl (I .long, 40, .inr (.inl f1317)))]
set_option maxRecDepth 100000 in
set_option maxHeartbeats 4000000 in
theorem ct_1318_Loops_walk (l : Launch) (hl0 : l.stackTraces = false) (D : va_G) (I : FieldType → ClassId) (q1314 : Nat) (pl1315 : Int64) (pl1316 : Int64) (f1317 : Nat → Int64)  : Ct (gV D I) l yX6_walk cX6_walk 11 (some FieldType.long) 0 0 0 0 [.ref q1314, .long pl1315, .long pl1316] [(q1314, .inl (I .long, 40, .inr (.inl f1317)))] (po_1318_Loops_walk I q1314 pl1315 pl1316 f1317) gN := by
  refine Ct_of hl0 (by decide) (Nat.le_of_ble_eq_true rfl) ?_
  refine G_lload_n 1 d_cX6_walk_0 rfl ?_
  refine G_lload_n 2 d_cX6_walk_1 rfl ?_
  refine G_ldc2 (-1) d_cX6_walk_2 w_4_7 ?_
  refine G_lxor d_cX6_walk_5 (G_namL fun u1319 hu1319 => ?_)
  refine G_land d_cX6_walk_6 (G_namL fun u1320 hu1320 => ?_)
  refine G_lstore (L' := [(5, .long u1320), (0, .ref q1314), (1, .long pl1315), (3, .long pl1316)]) d_cX6_walk_7 (Nat.le_of_ble_eq_true rfl) rfl ?_
  refine G_iconst 0 d_cX6_walk_9 (by decide +kernel) ?_
  refine G_istore (L' := [(7, .int 0), (5, .long u1320), (0, .ref q1314), (1, .long pl1315), (3, .long pl1316)]) d_cX6_walk_10 (Nat.le_of_ble_eq_true rfl) rfl ?_
  have hlp12_2043 : ∀ (n12_2043 : Nat) (g2042 : Int32) (gl2043 : Int64), gB g2042 0 40 → ((41 : Int) - g2042.toInt).toNat < n12_2043 → G (gV D I) l (gRm 0 0 0 0) (gM (gV D I) (po_1318_Loops_walk I q1314 pl1315 pl1316 f1317) gN 0 0) ky_1318_Loops_walk 12 [(7, .int g2042), (5, .long gl2043), (0, .ref q1314), (1, .long pl1315), (3, .long pl1316)] [] [(q1314, .inl (I .long, 40, .inr (.inl f1317)))] 0 0 := by
    intro n12_2043
    induction n12_2043 with
    | zero => intro g2042 gl2043 bg2042 hm12_2043; exact absurd hm12_2043 (Nat.not_lt_zero _)
    | succ n12_2043 ih12_2043 =>
      intro g2042 gl2043 bg2042 hm12_2043
      refine G_iload 0 d_cX6_walk_12 rfl ?_
      refine G_aload_n 2 d_cX6_walk_14 rfl ?_
      refine G_alen 40 0 2 d_cX6_walk_15 rfl rfl rfl ?_
      refine G_icmp_ge 87 d_cX6_walk_16 (by decide +kernel) (fun hc2044 => ?_) (fun hc2044 => ?_)
      · have r2045 : 40 ≤ g2042.toInt := gj_leL hc2044 (show Int32.toInt 40 = 40 by decide)
        have bg2042' : gB g2042 40 40 := ⟨by omega, by omega⟩
        refine G_lload 1 d_cX6_walk_87 rfl ?_
        exact G_lret d_cX6_walk_89 rfl (Nat.le_of_ble_eq_true rfl) (Nat.le_of_ble_eq_true rfl) ⟨gl2043, rfl, rfl⟩
      · have r2046 : g2042.toInt < 40 := gj_nleL hc2044 (show Int32.toInt 40 = 40 by decide)
        have bg2042' : gB g2042 0 39 := ⟨by omega, by omega⟩
        refine G_lload 1 d_cX6_walk_19 rfl ?_
        refine G_lstore (L' := [(8, .long gl2043), (7, .int g2042), (5, .long gl2043), (0, .ref q1314), (1, .long pl1315), (3, .long pl1316)]) d_cX6_walk_21 (Nat.le_of_ble_eq_true rfl) rfl ?_
        refine G_iconst 0 d_cX6_walk_23 (by decide +kernel) ?_
        refine G_istore (L' := [(10, .int 0), (8, .long gl2043), (7, .int g2042), (5, .long gl2043), (0, .ref q1314), (1, .long pl1315), (3, .long pl1316)]) d_cX6_walk_24 (Nat.le_of_ble_eq_true rfl) rfl ?_
        have hlp26_2144 : ∀ (n26_2144 : Nat) (g2143 : Int32) (gl2144 : Int64), gB g2143 0 40 → ((41 : Int) - g2143.toInt).toNat < n26_2144 → G (gV D I) l (gRm 0 0 0 0) (gM (gV D I) (po_1318_Loops_walk I q1314 pl1315 pl1316 f1317) gN 0 0) ky_1318_Loops_walk 26 [(10, .int g2143), (8, .long gl2144), (7, .int g2042), (5, .long gl2043), (0, .ref q1314), (1, .long pl1315), (3, .long pl1316)] [] [(q1314, .inl (I .long, 40, .inr (.inl f1317)))] 0 0 := by
          intro n26_2144
          induction n26_2144 with
          | zero => intro g2143 gl2144 bg2143 hm26_2144; exact absurd hm26_2144 (Nat.not_lt_zero _)
          | succ n26_2144 ih26_2144 =>
            intro g2143 gl2144 bg2143 hm26_2144
            refine G_iload 0 d_cX6_walk_26 rfl ?_
            refine G_aload_n 4 d_cX6_walk_28 rfl ?_
            refine G_alen 40 0 2 d_cX6_walk_29 rfl rfl rfl ?_
            refine G_icmp_ge 66 d_cX6_walk_30 (by decide +kernel) (fun hc2145 => ?_) (fun hc2145 => ?_)
            · have r2146 : 40 ≤ g2143.toInt := gj_leL hc2145 (show Int32.toInt 40 = 40 by decide)
              have bg2143' : gB g2143 40 40 := ⟨by omega, by omega⟩
              refine G_lload 1 d_cX6_walk_66 rfl ?_
              refine G_lload 3 d_cX6_walk_68 rfl ?_
              refine G_lcmp d_cX6_walk_70 (G_nam fun z2147 hz2147 => ?_)
              have bz2147 : gB z2147 (-1) 1 := gB_cmp hz2147
              refine G_if_ne 77 d_cX6_walk_71 (by decide +kernel) (fun hc2148 => ?_) (fun hc2148 => ?_)
              · have r2149 : z2147.toInt ≠ 0 := gj_neq hc2148 (show Int32.toInt 0 = 0 by decide)
                have lhc2148 := gC_cmpN hz2147 hc2148
                refine G_lload 1 d_cX6_walk_77 rfl ?_
                refine G_lstore (L' := [(5, .long gl2144), (10, .int g2143), (8, .long gl2144), (7, .int g2042), (0, .ref q1314), (1, .long pl1315), (3, .long pl1316)]) d_cX6_walk_79 (Nat.le_of_ble_eq_true rfl) rfl ?_
                obtain ⟨z2150, hz2150⟩ : ∃ z : Int32, z = g2042 + Int32.ofInt 1 := ⟨_, rfl⟩
                have ez2150 : z2150.toInt = g2042.toInt + 1 := gI_inc hz2150 (by decide) bg2042' (by decide) (by decide)
                have bz2150 : gB z2150 1 40 := ⟨by omega, by omega⟩
                refine G_iinc (L' := [(7, .int z2150), (5, .long gl2144), (10, .int g2143), (8, .long gl2144), (0, .ref q1314), (1, .long pl1315), (3, .long pl1316)]) z2150 3 d_cX6_walk_81 rfl hz2150.symm (Nat.le_of_ble_eq_true rfl) rfl ?_
                refine G_goto 12 d_cX6_walk_84 (by decide +kernel) ?_
                refine G_lv (L' := [(7, .int z2150), (5, .long gl2144), (0, .ref q1314), (1, .long pl1315), (3, .long pl1316)]) [0, 1, 4, 5, 6] rfl ?_
                exact ih12_2043 z2150 gl2144 (gB_w bz2150 (by decide) (by decide)) (by omega)
              · have r2151 : z2147.toInt = 0 := gj_eq hc2148 (show Int32.toInt 0 = 0 by decide)
                have bz2147' : gB z2147 0 0 := ⟨by omega, by omega⟩
                have lhc2148 := gC_cmpE hz2147 hc2148
                refine G_lload 3 d_cX6_walk_74 rfl ?_
                exact G_lret d_cX6_walk_76 rfl (Nat.le_of_ble_eq_true rfl) (Nat.le_of_ble_eq_true rfl) ⟨gl2043, rfl, rfl⟩
            · have r2152 : g2143.toInt < 40 := gj_nleL hc2145 (show Int32.toInt 40 = 40 by decide)
              have bg2143' : gB g2143 0 39 := ⟨by omega, by omega⟩
              refine G_lload 3 d_cX6_walk_33 rfl ?_
              refine G_iload 0 d_cX6_walk_35 rfl ?_
              refine G_lshr d_cX6_walk_37 (G_namL fun u2153 hu2153 => ?_)
              refine G_lconst 1 d_cX6_walk_38 rfl ?_
              refine G_land d_cX6_walk_39 (G_namL fun u2154 hu2154 => ?_)
              refine G_lconst 0 d_cX6_walk_40 rfl ?_
              refine G_lcmp d_cX6_walk_41 (G_nam fun z2155 hz2155 => ?_)
              have bz2155 : gB z2155 (-1) 1 := gB_cmp hz2155
              refine G_if_eq 60 d_cX6_walk_42 (by decide +kernel) (fun hc2156 => ?_) (fun hc2156 => ?_)
              · have r2157 : z2155.toInt = 0 := gj_eq hc2156 (show Int32.toInt 0 = 0 by decide)
                have bz2155' : gB z2155 0 0 := ⟨by omega, by omega⟩
                have lhc2156 := gC_cmpE hz2155 hc2156
                obtain ⟨z2158, hz2158⟩ : ∃ z : Int32, z = g2143 + Int32.ofInt 1 := ⟨_, rfl⟩
                have ez2158 : z2158.toInt = g2143.toInt + 1 := gI_inc hz2158 (by decide) bg2143' (by decide) (by decide)
                have bz2158 : gB z2158 1 40 := ⟨by omega, by omega⟩
                refine G_iinc (L' := [(10, .int z2158), (8, .long gl2144), (7, .int g2042), (5, .long gl2043), (0, .ref q1314), (1, .long pl1315), (3, .long pl1316)]) z2158 0 d_cX6_walk_60 rfl hz2158.symm (Nat.le_of_ble_eq_true rfl) rfl ?_
                refine G_goto 26 d_cX6_walk_63 (by decide +kernel) ?_
                exact ih26_2144 z2158 gl2144 (gB_w bz2158 (by decide) (by decide)) (by omega)
              · have r2159 : z2155.toInt ≠ 0 := gj_neq hc2156 (show Int32.toInt 0 = 0 by decide)
                have lhc2156 := gC_cmpN hz2155 hc2156
                refine G_lload 1 d_cX6_walk_45 rfl ?_
                refine G_aload_n 4 d_cX6_walk_47 rfl ?_
                refine G_iload 0 d_cX6_walk_48 rfl ?_
                refine G_lald 0 2 d_cX6_walk_50 rfl rfl (gB_in bg2143' (by decide) (by decide)) (G_namL fun u2160 hu2160 => ?_)
                refine G_lload_n 6 d_cX6_walk_51 rfl ?_
                refine G_ldc2 (-1) d_cX6_walk_52 w_4_7 ?_
                refine G_lxor d_cX6_walk_55 (G_namL fun u2161 hu2161 => ?_)
                refine G_land d_cX6_walk_56 (G_namL fun u2162 hu2162 => ?_)
                refine G_lor d_cX6_walk_57 (G_namL fun u2163 hu2163 => ?_)
                refine G_lstore (L' := [(8, .long u2163), (10, .int g2143), (7, .int g2042), (5, .long gl2043), (0, .ref q1314), (1, .long pl1315), (3, .long pl1316)]) d_cX6_walk_58 (Nat.le_of_ble_eq_true rfl) rfl ?_
                obtain ⟨z2164, hz2164⟩ : ∃ z : Int32, z = g2143 + Int32.ofInt 1 := ⟨_, rfl⟩
                have ez2164 : z2164.toInt = g2143.toInt + 1 := gI_inc hz2164 (by decide) bg2143' (by decide) (by decide)
                have bz2164 : gB z2164 1 40 := ⟨by omega, by omega⟩
                refine G_iinc (L' := [(10, .int z2164), (8, .long u2163), (7, .int g2042), (5, .long gl2043), (0, .ref q1314), (1, .long pl1315), (3, .long pl1316)]) z2164 1 d_cX6_walk_60 rfl hz2164.symm (Nat.le_of_ble_eq_true rfl) rfl ?_
                refine G_goto 26 d_cX6_walk_63 (by decide +kernel) ?_
                exact ih26_2144 z2164 u2163 (gB_w bz2164 (by decide) (by decide)) (by omega)
        exact hlp26_2144 (((41 : Int) - 0).toNat + 1) 0 gl2043 (gB_w (gBl (show Int32.toInt 0 = 0 by decide)) (by decide) (by decide)) (Nat.lt_succ_self _)
  exact hlp12_2043 (((41 : Int) - 0).toNat + 1) 0 u1320 (gB_w (gBl (show Int32.toInt 0 = 0 by decide)) (by decide) (by decide)) (Nat.lt_succ_self _)
abbrev ky_2178_Loops_link : gKey := (cX6_link, 3, yX6_link.cls, none, [], yX6_link.name, fun _ _ => True)
abbrev po_2178_Loops_link (I : FieldType → ClassId) (q2169 : Nat) (q2170 : Nat) (q2171 : Nat) (q2172 : Nat) (p2173 : Int32) (p2174 : Int32) (f2175 : Nat → Int64) (f2176 : Nat → Int64) (f2177 : Nat → Int32) : Option Value → va_W → Prop := fun r w => ∃ (f2193 : Nat → Int64) (f2194 : Nat → Int64), r = none ∧ w = [(q2169, .inr (11, [.ref q2170, .ref q2171, .ref q2172])), (q2170, .inl (I .long, 40, .inr (.inl f2193))), (q2171, .inl (I .long, 40, .inr (.inl f2194))), (q2172, .inl (I .int, 40, .inl f2177))]
set_option maxRecDepth 100000 in
set_option maxHeartbeats 4000000 in
theorem ct_2178_Loops_link (l : Launch) (hl0 : l.stackTraces = false) (D : va_G) (I : FieldType → ClassId) (q2169 : Nat) (q2170 : Nat) (q2171 : Nat) (q2172 : Nat) (p2173 : Int32) (p2174 : Int32) (f2175 : Nat → Int64) (f2176 : Nat → Int64) (f2177 : Nat → Int32) (bp2173 : gB p2173 0 39) : Ct (gV D I) l yX6_link cX6_link 3 none 0 0 0 0 [.ref q2169, .int p2173, .int p2174] [(q2169, .inr (11, [.ref q2170, .ref q2171, .ref q2172])), (q2170, .inl (I .long, 40, .inr (.inl f2175))), (q2171, .inl (I .long, 40, .inr (.inl f2176))), (q2172, .inl (I .int, 40, .inl f2177))] (po_2178_Loops_link I q2169 q2170 q2171 q2172 p2173 p2174 f2175 f2176 f2177) gN := by
  refine Ct_of hl0 (by decide) (Nat.le_of_ble_eq_true rfl) ?_
  have bp2174 := gB_any p2174
  refine G_iload_n 2 d_cX6_link_0 rfl ?_
  refine G_if_lt 34 d_cX6_link_1 (by decide +kernel) (fun hc2179 => ?_) (fun hc2179 => ?_)
  · have r2180 : p2174.toInt < 0 := gj_lt hc2179 (show Int32.toInt 0 = 0 by decide)
    have bp2174' : gB p2174 (-2147483648) (-1) := ⟨by omega, by omega⟩
    exact G_vret d_cX6_link_34 rfl (Nat.le_of_ble_eq_true rfl) (Nat.le_of_ble_eq_true rfl) ⟨f2175, f2176, rfl, rfl⟩
  · have r2181 : 0 ≤ p2174.toInt := gj_nlt hc2179 (show Int32.toInt 0 = 0 by decide)
    have bp2174' : gB p2174 0 2147483647 := ⟨by omega, by omega⟩
    refine G_iload_n 2 d_cX6_link_4 rfl ?_
    refine G_bipush 40 d_cX6_link_5 (by decide +kernel) ?_
    refine G_icmp_ge 34 d_cX6_link_7 (by decide +kernel) (fun hc2182 => ?_) (fun hc2182 => ?_)
    · have r2183 : 40 ≤ p2174.toInt := gj_leL hc2182 (show Int32.toInt 40 = 40 by decide)
      have bp2174'' : gB p2174 40 2147483647 := ⟨by omega, by omega⟩
      exact G_vret d_cX6_link_34 rfl (Nat.le_of_ble_eq_true rfl) (Nat.le_of_ble_eq_true rfl) ⟨f2175, f2176, rfl, rfl⟩
    · have r2184 : p2174.toInt < 40 := gj_nleL hc2182 (show Int32.toInt 40 = 40 by decide)
      have bp2174'' : gB p2174 0 39 := ⟨by omega, by omega⟩
      refine G_aload_n 0 d_cX6_link_10 rfl ?_
      refine G_getf 0 0 d_cX6_link_11 rfl (gk_X6 D I) (Nat.le_of_ble_eq_true rfl) w_1_233 rfl ?_
      refine G_iload_n 1 d_cX6_link_14 rfl ?_
      refine G_dup2_11 d_cX6_link_15 rfl rfl ?_
      refine G_lald 1 2 d_cX6_link_16 rfl rfl (gB_in bp2173 (by decide) (by decide)) (G_namL fun u2185 hu2185 => ?_)
      refine G_lconst 1 d_cX6_link_17 rfl ?_
      refine G_iload_n 2 d_cX6_link_18 rfl ?_
      refine G_lshl d_cX6_link_19 (G_namL fun u2186 hu2186 => ?_)
      have qu2186 : lb_Q u2186 (p2174.toInt % 64 + 1) := lb_Qshl hu2186 (by omega)
      refine G_lor d_cX6_link_20 (G_namL fun u2187 hu2187 => ?_)
      refine G_lastN 1 2 d_cX6_link_21 rfl rfl (gB_in bp2173 (by decide) (by decide)) (fun f2188 hf2188 => ?_)
      refine G_ws (ws' := [(q2169, .inr (11, [.ref q2170, .ref q2171, .ref q2172])), (q2170, .inl (I .long, 40, .inr (.inl f2188))), (q2171, .inl (I .long, 40, .inr (.inl f2176))), (q2172, .inl (I .int, 40, .inl f2177))]) (cs' := 0) (sl' := 0) rfl rfl rfl ?_
      refine G_aload_n 0 d_cX6_link_22 rfl ?_
      refine G_getf 0 1 d_cX6_link_23 rfl (gk_X6 D I) (Nat.le_of_ble_eq_true rfl) w_1_234 rfl ?_
      refine G_iload_n 2 d_cX6_link_26 rfl ?_
      refine G_dup2_11 d_cX6_link_27 rfl rfl ?_
      refine G_lald 2 2 d_cX6_link_28 rfl rfl (gB_in bp2174'' (by decide) (by decide)) (G_namL fun u2189 hu2189 => ?_)
      refine G_lconst 1 d_cX6_link_29 rfl ?_
      refine G_iload_n 1 d_cX6_link_30 rfl ?_
      refine G_lshl d_cX6_link_31 (G_namL fun u2190 hu2190 => ?_)
      have qu2190 : lb_Q u2190 (p2173.toInt % 64 + 1) := lb_Qshl hu2190 (by omega)
      refine G_lor d_cX6_link_32 (G_namL fun u2191 hu2191 => ?_)
      refine G_lastN 2 2 d_cX6_link_33 rfl rfl (gB_in bp2174'' (by decide) (by decide)) (fun f2192 hf2192 => ?_)
      refine G_ws (ws' := [(q2169, .inr (11, [.ref q2170, .ref q2171, .ref q2172])), (q2170, .inl (I .long, 40, .inr (.inl f2188))), (q2171, .inl (I .long, 40, .inr (.inl f2192))), (q2172, .inl (I .int, 40, .inl f2177))]) (cs' := 0) (sl' := 0) rfl rfl rfl ?_
      exact G_vret d_cX6_link_34 rfl (Nat.le_of_ble_eq_true rfl) (Nat.le_of_ble_eq_true rfl) ⟨f2188, f2192, rfl, rfl⟩
abbrev ky_2218_Loops_loopOf : gKey := (cX6_loopOf, 10, yX6_loopOf.cls, (some FieldType.long), [], yX6_loopOf.name, fun _ _ => True)
abbrev po_2218_Loops_loopOf (I : FieldType → ClassId) (q2209 : Nat) (q2210 : Nat) (q2211 : Nat) (q2212 : Nat) (p2213 : Int32) (pl2214 : Int64) (f2215 : Nat → Int64) (f2216 : Nat → Int64) (f2217 : Nat → Int32) : Option Value → va_W → Prop := fun r w => ∃ (ol2233 : Int64), r = some (.long ol2233) ∧ w = [(q2209, .inr (11, [.ref q2210, .ref q2211, .ref q2212])), (q2210, .inl (I .long, 40, .inr (.inl f2215))), (q2211, .inl (I .long, 40, .inr (.inl f2216))), (q2212, .inl (I .int, 40, .inl f2217))]
set_option maxRecDepth 100000 in
set_option maxHeartbeats 4000000 in
theorem ct_2218_Loops_loopOf (l : Launch) (hl0 : l.stackTraces = false) (D : va_G) (I : FieldType → ClassId) (q2209 : Nat) (q2210 : Nat) (q2211 : Nat) (q2212 : Nat) (p2213 : Int32) (pl2214 : Int64) (f2215 : Nat → Int64) (f2216 : Nat → Int64) (f2217 : Nat → Int32) (bp2213 : gB p2213 0 39) : Ct (gV D I) l yX6_loopOf cX6_loopOf 10 (some FieldType.long) 1 30 0 0 [.ref q2209, .int p2213, .long pl2214] [(q2209, .inr (11, [.ref q2210, .ref q2211, .ref q2212])), (q2210, .inl (I .long, 40, .inr (.inl f2215))), (q2211, .inl (I .long, 40, .inr (.inl f2216))), (q2212, .inl (I .int, 40, .inl f2217))] (po_2218_Loops_loopOf I q2209 q2210 q2211 q2212 p2213 pl2214 f2215 f2216 f2217) gN := by
  refine Ct_of hl0 (by decide) (Nat.le_of_ble_eq_true rfl) ?_
  refine G_lconst 1 d_cX6_loopOf_0 rfl ?_
  refine G_iload_n 1 d_cX6_loopOf_1 rfl ?_
  refine G_lshl d_cX6_loopOf_2 (G_namL fun u2219 hu2219 => ?_)
  have qu2219 : lb_Q u2219 (p2213.toInt % 64 + 1) := lb_Qshl hu2219 (by omega)
  refine G_lstore (L' := [(4, .long u2219), (0, .ref q2209), (1, .int p2213), (2, .long pl2214)]) d_cX6_loopOf_3 (Nat.le_of_ble_eq_true rfl) rfl ?_
  refine G_aload_n 1 d_cX6_loopOf_5 rfl ?_
  refine G_getf 0 0 d_cX6_loopOf_6 rfl (gk_X6 D I) (Nat.le_of_ble_eq_true rfl) w_1_233 rfl ?_
  refine G_lconst 1 d_cX6_loopOf_9 rfl ?_
  refine G_lload 0 d_cX6_loopOf_10 rfl ?_
  refine G_callS (As := [.ref q2210, .long 1, .long u2219]) (wr := [(q2209, .inr (11, [.ref q2210, .ref q2211, .ref q2212])), (q2211, .inl (I .long, 40, .inr (.inl f2216))), (q2212, .inl (I .int, 40, .inl f2217))]) (gV_ok D I) (ct_1318_Loops_walk l hl0 D I q2210 1 u2219 f2215 ) d_cX6_loopOf_12 ⟨w_4_4, w_1_7, w_4_6, by decide, rfl, (Nat.le_of_ble_eq_true rfl), (Nat.le_of_ble_eq_true rfl)⟩ w_4_5 [1] [0, 2, 3] rfl rfl rfl rfl (by decide) (Nat.le_of_ble_eq_true rfl) (Nat.le_of_ble_eq_true rfl) (Nat.le_of_ble_eq_true rfl) (fun r w hp => ?_) (fun _ _ _ z => z.elim)
  obtain ⟨ol2220, rfl, rfl⟩ := hp
  change G _ _ _ _ _ _ _ (.long ol2220 :: _) _ _ _
  refine G_ws (ws' := [(q2209, .inr (11, [.ref q2210, .ref q2211, .ref q2212])), (q2211, .inl (I .long, 40, .inr (.inl f2216))), (q2212, .inl (I .int, 40, .inl f2217)), (q2210, .inl (I .long, 40, .inr (.inl f2215)))]) (cs' := 0) (sl' := 0) rfl rfl rfl ?_
  refine G_lstore (L' := [(6, .long ol2220), (4, .long u2219), (0, .ref q2209), (1, .int p2213), (2, .long pl2214)]) d_cX6_loopOf_15 (Nat.le_of_ble_eq_true rfl) rfl ?_
  refine G_aload_n 2 d_cX6_loopOf_17 rfl ?_
  refine G_getf 0 1 d_cX6_loopOf_18 rfl (gk_X6 D I) (Nat.le_of_ble_eq_true rfl) w_1_234 rfl ?_
  refine G_iload_n 3 d_cX6_loopOf_21 rfl ?_
  refine G_lald 1 2 d_cX6_loopOf_22 rfl rfl (gB_in bp2213 (by decide) (by decide)) (G_namL fun u2221 hu2221 => ?_)
  refine G_lload_n 4 d_cX6_loopOf_23 rfl ?_
  refine G_land d_cX6_loopOf_24 (G_namL fun u2222 hu2222 => ?_)
  refine G_lload 0 d_cX6_loopOf_25 rfl ?_
  refine G_ldc2 (-1) d_cX6_loopOf_27 w_4_7 ?_
  refine G_lxor d_cX6_loopOf_30 (G_namL fun u2223 hu2223 => ?_)
  refine G_land d_cX6_loopOf_31 (G_namL fun u2224 hu2224 => ?_)
  refine G_lstore (L' := [(8, .long u2224), (6, .long ol2220), (4, .long u2219), (0, .ref q2209), (1, .int p2213), (2, .long pl2214)]) d_cX6_loopOf_32 (Nat.le_of_ble_eq_true rfl) rfl ?_
  refine G_lload 0 d_cX6_loopOf_34 rfl ?_
  refine G_lconst 0 d_cX6_loopOf_36 rfl ?_
  refine G_lcmp d_cX6_loopOf_37 (G_nam fun z2225 hz2225 => ?_)
  have bz2225 : gB z2225 (-1) 1 := gB_cmp hz2225
  refine G_if_ne 45 d_cX6_loopOf_38 (by decide +kernel) (fun hc2226 => ?_) (fun hc2226 => ?_)
  · have r2227 : z2225.toInt ≠ 0 := gj_neq hc2226 (show Int32.toInt 0 = 0 by decide)
    have lhc2226 := gC_cmpN hz2225 hc2226
    refine G_lload 2 d_cX6_loopOf_45 rfl ?_
    refine G_aload_n 3 d_cX6_loopOf_47 rfl ?_
    refine G_getf 0 1 d_cX6_loopOf_48 rfl (gk_X6 D I) (Nat.le_of_ble_eq_true rfl) w_1_234 rfl ?_
    refine G_lload 0 d_cX6_loopOf_51 rfl ?_
    refine G_lload 2 d_cX6_loopOf_53 rfl ?_
    refine G_lload_n 5 d_cX6_loopOf_55 rfl ?_
    refine G_ldc2 (-1) d_cX6_loopOf_56 w_4_7 ?_
    refine G_lxor d_cX6_loopOf_59 (G_namL fun u2228 hu2228 => ?_)
    refine G_lor d_cX6_loopOf_60 (G_namL fun u2229 hu2229 => ?_)
    refine G_callS (As := [.ref q2211, .long u2224, .long u2229]) (wr := [(q2209, .inr (11, [.ref q2210, .ref q2211, .ref q2212])), (q2212, .inl (I .int, 40, .inl f2217)), (q2210, .inl (I .long, 40, .inr (.inl f2215)))]) (gV_ok D I) (ct_1318_Loops_walk l hl0 D I q2211 u2224 u2229 f2216 ) d_cX6_loopOf_61 ⟨w_4_4, w_1_7, w_4_6, by decide, rfl, (Nat.le_of_ble_eq_true rfl), (Nat.le_of_ble_eq_true rfl)⟩ w_4_5 [1] [0, 2, 3] rfl rfl rfl rfl (by decide) (Nat.le_of_ble_eq_true rfl) (Nat.le_of_ble_eq_true rfl) (Nat.le_of_ble_eq_true rfl) (fun r w hp => ?_) (fun _ _ _ z => z.elim)
    obtain ⟨ol2230, rfl, rfl⟩ := hp
    change G _ _ _ _ _ _ _ (.long ol2230 :: _) _ _ _
    refine G_ws (ws' := [(q2209, .inr (11, [.ref q2210, .ref q2211, .ref q2212])), (q2212, .inl (I .int, 40, .inl f2217)), (q2210, .inl (I .long, 40, .inr (.inl f2215))), (q2211, .inl (I .long, 40, .inr (.inl f2216)))]) (cs' := 0) (sl' := 0) rfl rfl rfl ?_
    refine G_lor d_cX6_loopOf_64 (G_namL fun u2231 hu2231 => ?_)
    refine G_sub (ws' := [(q2209, .inr (11, [.ref q2210, .ref q2211, .ref q2212])), (q2210, .inl (I .long, 40, .inr (.inl f2215))), (q2211, .inl (I .long, 40, .inr (.inl f2216))), (q2212, .inl (I .int, 40, .inl f2217))]) [0, 2, 3, 1] rfl rfl ?_
    exact G_lret d_cX6_loopOf_65 rfl (Nat.le_of_ble_eq_true rfl) (Nat.le_of_ble_eq_true rfl) ⟨u2231, rfl, rfl⟩
  · have r2232 : z2225.toInt = 0 := gj_eq hc2226 (show Int32.toInt 0 = 0 by decide)
    have bz2225' : gB z2225 0 0 := ⟨by omega, by omega⟩
    have lhc2226 := gC_cmpE hz2225 hc2226
    refine G_lconst 0 d_cX6_loopOf_41 rfl ?_
    refine G_goto 65 d_cX6_loopOf_42 (by decide +kernel) ?_
    refine G_sub (ws' := [(q2209, .inr (11, [.ref q2210, .ref q2211, .ref q2212])), (q2210, .inl (I .long, 40, .inr (.inl f2215))), (q2211, .inl (I .long, 40, .inr (.inl f2216))), (q2212, .inl (I .int, 40, .inl f2217))]) [0, 3, 1, 2] rfl rfl ?_
    exact G_lret d_cX6_loopOf_65 rfl (Nat.le_of_ble_eq_true rfl) (Nat.le_of_ble_eq_true rfl) ⟨0, rfl, rfl⟩
abbrev ky_2243_Loops_deepen : gKey := (cX6_deepen, 4, yX6_deepen.cls, none, [], yX6_deepen.name, fun _ _ => True)
abbrev po_2243_Loops_deepen (I : FieldType → ClassId) (q2235 : Nat) (q2236 : Nat) (q2237 : Nat) (q2238 : Nat) (pl2239 : Int64) (f2240 : Nat → Int64) (f2241 : Nat → Int64) (f2242 : Nat → Int32) : Option Value → va_W → Prop := fun r w => ∃ (f2367 : Nat → Int32), r = none ∧ w = [(q2235, .inr (11, [.ref q2236, .ref q2237, .ref q2238])), (q2236, .inl (I .long, 40, .inr (.inl f2240))), (q2237, .inl (I .long, 40, .inr (.inl f2241))), (q2238, .inl (I .int, 40, .inl f2367))] ∧ gF f2367 (-2147483648) 2147483647
set_option maxRecDepth 100000 in
set_option maxHeartbeats 4000000 in
theorem ct_2243_Loops_deepen (l : Launch) (hl0 : l.stackTraces = false) (D : va_G) (I : FieldType → ClassId) (q2235 : Nat) (q2236 : Nat) (q2237 : Nat) (q2238 : Nat) (pl2239 : Int64) (f2240 : Nat → Int64) (f2241 : Nat → Int64) (f2242 : Nat → Int32)  : Ct (gV D I) l yX6_deepen cX6_deepen 4 none 0 0 0 0 [.ref q2235, .long pl2239] [(q2235, .inr (11, [.ref q2236, .ref q2237, .ref q2238])), (q2236, .inl (I .long, 40, .inr (.inl f2240))), (q2237, .inl (I .long, 40, .inr (.inl f2241))), (q2238, .inl (I .int, 40, .inl f2242))] (po_2243_Loops_deepen I q2235 q2236 q2237 q2238 pl2239 f2240 f2241 f2242) gN := by
  refine Ct_of hl0 (by decide) (Nat.le_of_ble_eq_true rfl) ?_
  refine G_iconst 0 d_cX6_deepen_0 (by decide +kernel) ?_
  refine G_istore_n (L' := [(3, .int 0), (0, .ref q2235), (1, .long pl2239)]) d_cX6_deepen_1 (Nat.le_of_ble_eq_true rfl) rfl ?_
  have hlp2_2348 : ∀ (n2_2348 : Nat) (g2347 : Int32) (f2348 : Nat → Int32), gB g2347 0 40 → gF f2348 (-2147483648) 2147483647 → ((41 : Int) - g2347.toInt).toNat < n2_2348 → G (gV D I) l (gRm 0 0 0 0) (gM (gV D I) (po_2243_Loops_deepen I q2235 q2236 q2237 q2238 pl2239 f2240 f2241 f2242) gN 0 0) ky_2243_Loops_deepen 2 [(3, .int g2347), (0, .ref q2235), (1, .long pl2239)] [] [(q2235, .inr (11, [.ref q2236, .ref q2237, .ref q2238])), (q2236, .inl (I .long, 40, .inr (.inl f2240))), (q2237, .inl (I .long, 40, .inr (.inl f2241))), (q2238, .inl (I .int, 40, .inl f2348))] 0 0 := by
    intro n2_2348
    induction n2_2348 with
    | zero => intro g2347 f2348 bg2347 bf2348 hm2_2348; exact absurd hm2_2348 (Nat.not_lt_zero _)
    | succ n2_2348 ih2_2348 =>
      intro g2347 f2348 bg2347 bf2348 hm2_2348
      refine G_iload_n 0 d_cX6_deepen_2 rfl ?_
      refine G_bipush 40 d_cX6_deepen_3 (by decide +kernel) ?_
      refine G_icmp_ge 44 d_cX6_deepen_5 (by decide +kernel) (fun hc2349 => ?_) (fun hc2349 => ?_)
      · have r2350 : 40 ≤ g2347.toInt := gj_leL hc2349 (show Int32.toInt 40 = 40 by decide)
        have bg2347' : gB g2347 40 40 := ⟨by omega, by omega⟩
        exact G_vret d_cX6_deepen_44 rfl (Nat.le_of_ble_eq_true rfl) (Nat.le_of_ble_eq_true rfl) ⟨f2348, rfl, rfl, bf2348⟩
      · have r2351 : g2347.toInt < 40 := gj_nleL hc2349 (show Int32.toInt 40 = 40 by decide)
        have bg2347' : gB g2347 0 39 := ⟨by omega, by omega⟩
        refine G_lload_n 2 d_cX6_deepen_8 rfl ?_
        refine G_iload_n 0 d_cX6_deepen_9 rfl ?_
        refine G_lshr d_cX6_deepen_10 (G_namL fun u2352 hu2352 => ?_)
        refine G_lconst 1 d_cX6_deepen_11 rfl ?_
        refine G_land d_cX6_deepen_12 (G_namL fun u2353 hu2353 => ?_)
        refine G_lconst 0 d_cX6_deepen_13 rfl ?_
        refine G_lcmp d_cX6_deepen_14 (G_nam fun z2354 hz2354 => ?_)
        have bz2354 : gB z2354 (-1) 1 := gB_cmp hz2354
        refine G_if_eq 38 d_cX6_deepen_15 (by decide +kernel) (fun hc2355 => ?_) (fun hc2355 => ?_)
        · have r2356 : z2354.toInt = 0 := gj_eq hc2355 (show Int32.toInt 0 = 0 by decide)
          have bz2354' : gB z2354 0 0 := ⟨by omega, by omega⟩
          have lhc2355 := gC_cmpE hz2354 hc2355
          obtain ⟨z2357, hz2357⟩ : ∃ z : Int32, z = g2347 + Int32.ofInt 1 := ⟨_, rfl⟩
          have ez2357 : z2357.toInt = g2347.toInt + 1 := gI_inc hz2357 (by decide) bg2347' (by decide) (by decide)
          have bz2357 : gB z2357 1 40 := ⟨by omega, by omega⟩
          refine G_iinc (L' := [(3, .int z2357), (0, .ref q2235), (1, .long pl2239)]) z2357 0 d_cX6_deepen_38 rfl hz2357.symm (Nat.le_of_ble_eq_true rfl) rfl ?_
          refine G_goto 2 d_cX6_deepen_41 (by decide +kernel) ?_
          exact ih2_2348 z2357 f2348 (gB_w bz2357 (by decide) (by decide)) bf2348 (by omega)
        · have r2358 : z2354.toInt ≠ 0 := gj_neq hc2355 (show Int32.toInt 0 = 0 by decide)
          have lhc2355 := gC_cmpN hz2354 hc2355
          refine G_aload_n 1 d_cX6_deepen_18 rfl ?_
          refine G_getf 0 2 d_cX6_deepen_19 rfl (gk_X6 D I) (Nat.le_of_ble_eq_true rfl) w_1_235 rfl ?_
          refine G_iload_n 0 d_cX6_deepen_22 rfl ?_
          refine G_iald 3 0 d_cX6_deepen_23 rfl rfl (gB_in bg2347' (by decide) (by decide)) (G_nam fun z2359 hz2359 => ?_)
          have bz2359 : gB z2359 (-2147483648) 2147483647 := by rw [hz2359]; exact bf2348 _
          refine G_iconst 4 d_cX6_deepen_24 (by decide +kernel) ?_
          refine G_icmp_ge 38 d_cX6_deepen_25 (by decide +kernel) (fun hc2360 => ?_) (fun hc2360 => ?_)
          · have r2361 : 4 ≤ z2359.toInt := gj_leL hc2360 (show Int32.toInt 4 = 4 by decide)
            have bz2359' : gB z2359 4 2147483647 := ⟨by omega, by omega⟩
            obtain ⟨z2362, hz2362⟩ : ∃ z : Int32, z = g2347 + Int32.ofInt 1 := ⟨_, rfl⟩
            have ez2362 : z2362.toInt = g2347.toInt + 1 := gI_inc hz2362 (by decide) bg2347' (by decide) (by decide)
            have bz2362 : gB z2362 1 40 := ⟨by omega, by omega⟩
            refine G_iinc (L' := [(3, .int z2362), (0, .ref q2235), (1, .long pl2239)]) z2362 0 d_cX6_deepen_38 rfl hz2362.symm (Nat.le_of_ble_eq_true rfl) rfl ?_
            refine G_goto 2 d_cX6_deepen_41 (by decide +kernel) ?_
            exact ih2_2348 z2362 f2348 (gB_w bz2362 (by decide) (by decide)) bf2348 (by omega)
          · have r2363 : z2359.toInt < 4 := gj_nleL hc2360 (show Int32.toInt 4 = 4 by decide)
            have bz2359' : gB z2359 (-2147483648) 3 := ⟨by omega, by omega⟩
            refine G_aload_n 1 d_cX6_deepen_28 rfl ?_
            refine G_getf 0 2 d_cX6_deepen_29 rfl (gk_X6 D I) (Nat.le_of_ble_eq_true rfl) w_1_235 rfl ?_
            refine G_iload_n 0 d_cX6_deepen_32 rfl ?_
            refine G_dup2_11 d_cX6_deepen_33 rfl rfl ?_
            refine G_iald 3 0 d_cX6_deepen_34 rfl rfl (gB_in bg2347' (by decide) (by decide)) (G_eqi (y := z2359) hz2359.symm ?_)
            refine G_iconst 1 d_cX6_deepen_35 (by decide +kernel) ?_
            refine G_iadd d_cX6_deepen_36 (G_nam fun z2364 hz2364 => ?_)
            have ez2364 : z2364.toInt = z2359.toInt + 1 := by rw [gI_add hz2364 bz2359' (gBl (show Int32.toInt 1 = 1 by decide)) (by decide) (by decide), show Int32.toInt 1 = 1 from by decide]
            have bz2364 : gB z2364 (-2147483647) 4 := gB_add (gI_add hz2364 bz2359' (gBl (show Int32.toInt 1 = 1 by decide)) (by decide) (by decide)) bz2359' (gBl (show Int32.toInt 1 = 1 by decide)) (by decide) (by decide)
            refine G_iastN 3 0 d_cX6_deepen_37 rfl rfl (gB_in bg2347' (by decide) (by decide)) (fun f2365 hf2365 => ?_)
            refine G_ws (ws' := [(q2235, .inr (11, [.ref q2236, .ref q2237, .ref q2238])), (q2236, .inl (I .long, 40, .inr (.inl f2240))), (q2237, .inl (I .long, 40, .inr (.inl f2241))), (q2238, .inl (I .int, 40, .inl f2365))]) (cs' := 0) (sl' := 0) rfl rfl rfl ?_
            obtain ⟨z2366, hz2366⟩ : ∃ z : Int32, z = g2347 + Int32.ofInt 1 := ⟨_, rfl⟩
            have ez2366 : z2366.toInt = g2347.toInt + 1 := gI_inc hz2366 (by decide) bg2347' (by decide) (by decide)
            have bz2366 : gB z2366 1 40 := ⟨by omega, by omega⟩
            refine G_iinc (L' := [(3, .int z2366), (0, .ref q2235), (1, .long pl2239)]) z2366 0 d_cX6_deepen_38 rfl hz2366.symm (Nat.le_of_ble_eq_true rfl) rfl ?_
            refine G_goto 2 d_cX6_deepen_41 (by decide +kernel) ?_
            exact ih2_2348 z2366 f2365 (gB_w bz2366 (by decide) (by decide)) (gF_any f2365) (by omega)
  exact hlp2_2348 (((41 : Int) - 0).toNat + 1) 0 f2242 (gB_w (gBl (show Int32.toInt 0 = 0 by decide)) (by decide) (by decide)) (gF_any f2242) (Nat.lt_succ_self _)
abbrev ky_1230_Loops_find : gKey := (cX6_find, 5, yX6_find.cls, none, [], yX6_find.name, fun _ _ => True)
abbrev po_1230_Loops_find (I : FieldType → ClassId) (q1201 : Nat) (q1202 : Nat) (q1203 : Nat) (q1204 : Nat) (q1205 : Nat) (q1206 : Nat) (q1207 : Nat) (q1208 : Nat) (q1209 : Nat) (q1210 : Nat) (q1211 : Nat) (q1212 : Nat) (q1213 : Nat) (q1214 : Nat) (p1215 : Int32) (p1216 : Int32) (p1217 : Int32) (f1218 : Nat → Int64) (f1219 : Nat → Int64) (f1220 : Nat → Int32) (f1221 : Nat → Int32) (f1222 : Nat → Int32) (f1223 : Nat → Int32) (f1224 : Nat → Int32) (f1225 : Nat → Int32) (f1226 : Nat → Int32) (f1227 : Nat → Int32) (f1228 : Nat → Int32) (f1229 : Nat → Int32) : Option Value → va_W → Prop := fun r w => ∃ (f2688 : Nat → Int64) (f2689 : Nat → Int64) (f2690 : Nat → Int32), r = none ∧ w = [(q1201, .inr (11, [.ref q1203, .ref q1204, .ref q1205])), (q1202, .inr (5, [.ref q1206, .ref q1207, .ref q1208, .ref q1209, .ref q1210, .ref q1211, .ref q1212, .ref q1213, .ref q1214, .int p1215, .int p1216, .int p1217])), (q1203, .inl (I .long, 40, .inr (.inl f2688))), (q1204, .inl (I .long, 40, .inr (.inl f2689))), (q1205, .inl (I .int, 40, .inl f2690)), (q1206, .inl (I .int, 40, .inl f1221)), (q1207, .inl (I .int, 40, .inl f1222)), (q1208, .inl (I .int, 40, .inl f1223)), (q1209, .inl (I .int, 200, .inl f1224)), (q1210, .inl (I .int, 200, .inl f1225)), (q1211, .inl (I .int, 200, .inl f1226)), (q1212, .inl (I .int, 200, .inl f1227)), (q1213, .inl (I .int, 200, .inl f1228)), (q1214, .inl (I .int, 200, .inl f1229))] ∧ gF f2690 (-2147483648) 2147483647
set_option maxRecDepth 100000 in
set_option maxHeartbeats 4000000 in
theorem ct_1230_Loops_find (l : Launch) (hl0 : l.stackTraces = false) (D : va_G) (I : FieldType → ClassId) (q1201 : Nat) (q1202 : Nat) (q1203 : Nat) (q1204 : Nat) (q1205 : Nat) (q1206 : Nat) (q1207 : Nat) (q1208 : Nat) (q1209 : Nat) (q1210 : Nat) (q1211 : Nat) (q1212 : Nat) (q1213 : Nat) (q1214 : Nat) (p1215 : Int32) (p1216 : Int32) (p1217 : Int32) (f1218 : Nat → Int64) (f1219 : Nat → Int64) (f1220 : Nat → Int32) (f1221 : Nat → Int32) (f1222 : Nat → Int32) (f1223 : Nat → Int32) (f1224 : Nat → Int32) (f1225 : Nat → Int32) (f1226 : Nat → Int32) (f1227 : Nat → Int32) (f1228 : Nat → Int32) (f1229 : Nat → Int32) (bp1215 : gB p1215 0 40) (bp1216 : gB p1216 0 200) (bp1217 : gB p1217 0 1) (bf1221 : gF f1221 0 200) (bf1224 : gF f1224 0 21) : Ct (gV D I) l yX6_find cX6_find 5 none 2 59 0 0 [.ref q1201, .ref q1202] [(q1201, .inr (11, [.ref q1203, .ref q1204, .ref q1205])), (q1202, .inr (5, [.ref q1206, .ref q1207, .ref q1208, .ref q1209, .ref q1210, .ref q1211, .ref q1212, .ref q1213, .ref q1214, .int p1215, .int p1216, .int p1217])), (q1203, .inl (I .long, 40, .inr (.inl f1218))), (q1204, .inl (I .long, 40, .inr (.inl f1219))), (q1205, .inl (I .int, 40, .inl f1220)), (q1206, .inl (I .int, 40, .inl f1221)), (q1207, .inl (I .int, 40, .inl f1222)), (q1208, .inl (I .int, 40, .inl f1223)), (q1209, .inl (I .int, 200, .inl f1224)), (q1210, .inl (I .int, 200, .inl f1225)), (q1211, .inl (I .int, 200, .inl f1226)), (q1212, .inl (I .int, 200, .inl f1227)), (q1213, .inl (I .int, 200, .inl f1228)), (q1214, .inl (I .int, 200, .inl f1229))] (po_1230_Loops_find I q1201 q1202 q1203 q1204 q1205 q1206 q1207 q1208 q1209 q1210 q1211 q1212 q1213 q1214 p1215 p1216 p1217 f1218 f1219 f1220 f1221 f1222 f1223 f1224 f1225 f1226 f1227 f1228 f1229) gN := by
  refine Ct_of hl0 (by decide) (Nat.le_of_ble_eq_true rfl) ?_
  refine G_aload_n 0 d_cX6_find_0 rfl ?_
  refine G_getf 0 0 d_cX6_find_1 rfl (gk_X6 D I) (Nat.le_of_ble_eq_true rfl) w_1_233 rfl ?_
  refine G_lconst 0 d_cX6_find_4 rfl ?_
  refine G_callS (As := [.ref q1203, .long 0]) (wr := [(q1201, .inr (11, [.ref q1203, .ref q1204, .ref q1205])), (q1202, .inr (5, [.ref q1206, .ref q1207, .ref q1208, .ref q1209, .ref q1210, .ref q1211, .ref q1212, .ref q1213, .ref q1214, .int p1215, .int p1216, .int p1217])), (q1204, .inl (I .long, 40, .inr (.inl f1219))), (q1205, .inl (I .int, 40, .inl f1220)), (q1206, .inl (I .int, 40, .inl f1221)), (q1207, .inl (I .int, 40, .inl f1222)), (q1208, .inl (I .int, 40, .inl f1223)), (q1209, .inl (I .int, 200, .inl f1224)), (q1210, .inl (I .int, 200, .inl f1225)), (q1211, .inl (I .int, 200, .inl f1226)), (q1212, .inl (I .int, 200, .inl f1227)), (q1213, .inl (I .int, 200, .inl f1228)), (q1214, .inl (I .int, 200, .inl f1229))]) (gV_ok D I) (ct_1234_Arrays_fill l hl0 D I q1203 0 f1218 ) d_cX6_find_5 ⟨w_3_234, w_1_30, w_3_236, by decide, rfl, (Nat.le_of_ble_eq_true rfl), (Nat.le_of_ble_eq_true rfl)⟩ w_3_235 [2] [0, 1, 3, 4, 5, 6, 7, 8, 9, 10, 11, 12, 13] rfl rfl rfl rfl (by decide) (Nat.le_of_ble_eq_true rfl) (Nat.le_of_ble_eq_true rfl) (Nat.le_of_ble_eq_true rfl) (fun r w hp => ?_) (fun _ _ _ z => z.elim)
  obtain ⟨f1270, rfl, rfl⟩ := hp
  change G _ _ _ _ _ _ _ _ _ _ _
  refine G_ws (ws' := [(q1201, .inr (11, [.ref q1203, .ref q1204, .ref q1205])), (q1202, .inr (5, [.ref q1206, .ref q1207, .ref q1208, .ref q1209, .ref q1210, .ref q1211, .ref q1212, .ref q1213, .ref q1214, .int p1215, .int p1216, .int p1217])), (q1204, .inl (I .long, 40, .inr (.inl f1219))), (q1205, .inl (I .int, 40, .inl f1220)), (q1206, .inl (I .int, 40, .inl f1221)), (q1207, .inl (I .int, 40, .inl f1222)), (q1208, .inl (I .int, 40, .inl f1223)), (q1209, .inl (I .int, 200, .inl f1224)), (q1210, .inl (I .int, 200, .inl f1225)), (q1211, .inl (I .int, 200, .inl f1226)), (q1212, .inl (I .int, 200, .inl f1227)), (q1213, .inl (I .int, 200, .inl f1228)), (q1214, .inl (I .int, 200, .inl f1229)), (q1203, .inl (I .long, 40, .inr (.inl f1270)))]) (cs' := 0) (sl' := 0) rfl rfl rfl ?_
  refine G_aload_n 0 d_cX6_find_8 rfl ?_
  refine G_getf 0 1 d_cX6_find_9 rfl (gk_X6 D I) (Nat.le_of_ble_eq_true rfl) w_1_234 rfl ?_
  refine G_lconst 0 d_cX6_find_12 rfl ?_
  refine G_callS (As := [.ref q1204, .long 0]) (wr := [(q1201, .inr (11, [.ref q1203, .ref q1204, .ref q1205])), (q1202, .inr (5, [.ref q1206, .ref q1207, .ref q1208, .ref q1209, .ref q1210, .ref q1211, .ref q1212, .ref q1213, .ref q1214, .int p1215, .int p1216, .int p1217])), (q1205, .inl (I .int, 40, .inl f1220)), (q1206, .inl (I .int, 40, .inl f1221)), (q1207, .inl (I .int, 40, .inl f1222)), (q1208, .inl (I .int, 40, .inl f1223)), (q1209, .inl (I .int, 200, .inl f1224)), (q1210, .inl (I .int, 200, .inl f1225)), (q1211, .inl (I .int, 200, .inl f1226)), (q1212, .inl (I .int, 200, .inl f1227)), (q1213, .inl (I .int, 200, .inl f1228)), (q1214, .inl (I .int, 200, .inl f1229)), (q1203, .inl (I .long, 40, .inr (.inl f1270)))]) (gV_ok D I) (ct_1234_Arrays_fill l hl0 D I q1204 0 f1219 ) d_cX6_find_13 ⟨w_3_234, w_1_30, w_3_236, by decide, rfl, (Nat.le_of_ble_eq_true rfl), (Nat.le_of_ble_eq_true rfl)⟩ w_3_235 [2] [0, 1, 3, 4, 5, 6, 7, 8, 9, 10, 11, 12, 13] rfl rfl rfl rfl (by decide) (Nat.le_of_ble_eq_true rfl) (Nat.le_of_ble_eq_true rfl) (Nat.le_of_ble_eq_true rfl) (fun r w hp => ?_) (fun _ _ _ z => z.elim)
  obtain ⟨f1271, rfl, rfl⟩ := hp
  change G _ _ _ _ _ _ _ _ _ _ _
  refine G_ws (ws' := [(q1201, .inr (11, [.ref q1203, .ref q1204, .ref q1205])), (q1202, .inr (5, [.ref q1206, .ref q1207, .ref q1208, .ref q1209, .ref q1210, .ref q1211, .ref q1212, .ref q1213, .ref q1214, .int p1215, .int p1216, .int p1217])), (q1205, .inl (I .int, 40, .inl f1220)), (q1206, .inl (I .int, 40, .inl f1221)), (q1207, .inl (I .int, 40, .inl f1222)), (q1208, .inl (I .int, 40, .inl f1223)), (q1209, .inl (I .int, 200, .inl f1224)), (q1210, .inl (I .int, 200, .inl f1225)), (q1211, .inl (I .int, 200, .inl f1226)), (q1212, .inl (I .int, 200, .inl f1227)), (q1213, .inl (I .int, 200, .inl f1228)), (q1214, .inl (I .int, 200, .inl f1229)), (q1203, .inl (I .long, 40, .inr (.inl f1270))), (q1204, .inl (I .long, 40, .inr (.inl f1271)))]) (cs' := 0) (sl' := 0) rfl rfl rfl ?_
  refine G_aload_n 0 d_cX6_find_16 rfl ?_
  refine G_getf 0 2 d_cX6_find_17 rfl (gk_X6 D I) (Nat.le_of_ble_eq_true rfl) w_1_235 rfl ?_
  refine G_iconst 0 d_cX6_find_20 (by decide +kernel) ?_
  refine G_callS (As := [.ref q1205, .int 0]) (wr := [(q1201, .inr (11, [.ref q1203, .ref q1204, .ref q1205])), (q1202, .inr (5, [.ref q1206, .ref q1207, .ref q1208, .ref q1209, .ref q1210, .ref q1211, .ref q1212, .ref q1213, .ref q1214, .int p1215, .int p1216, .int p1217])), (q1206, .inl (I .int, 40, .inl f1221)), (q1207, .inl (I .int, 40, .inl f1222)), (q1208, .inl (I .int, 40, .inl f1223)), (q1209, .inl (I .int, 200, .inl f1224)), (q1210, .inl (I .int, 200, .inl f1225)), (q1211, .inl (I .int, 200, .inl f1226)), (q1212, .inl (I .int, 200, .inl f1227)), (q1213, .inl (I .int, 200, .inl f1228)), (q1214, .inl (I .int, 200, .inl f1229)), (q1203, .inl (I .long, 40, .inr (.inl f1270))), (q1204, .inl (I .long, 40, .inr (.inl f1271)))]) (gV_ok D I) (ct_1275_Arrays_fill l hl0 D I q1205 0 f1220 ) d_cX6_find_21 ⟨w_3_237, w_1_30, w_3_239, by decide, rfl, (Nat.le_of_ble_eq_true rfl), (Nat.le_of_ble_eq_true rfl)⟩ w_3_238 [2] [0, 1, 3, 4, 5, 6, 7, 8, 9, 10, 11, 12, 13] rfl rfl rfl rfl (by decide) (Nat.le_of_ble_eq_true rfl) (Nat.le_of_ble_eq_true rfl) (Nat.le_of_ble_eq_true rfl) (fun r w hp => ?_) (fun _ _ _ z => z.elim)
  obtain ⟨f1311, rfl, rfl, bf1311⟩ := hp
  change G _ _ _ _ _ _ _ _ _ _ _
  refine G_ws (ws' := [(q1201, .inr (11, [.ref q1203, .ref q1204, .ref q1205])), (q1202, .inr (5, [.ref q1206, .ref q1207, .ref q1208, .ref q1209, .ref q1210, .ref q1211, .ref q1212, .ref q1213, .ref q1214, .int p1215, .int p1216, .int p1217])), (q1206, .inl (I .int, 40, .inl f1221)), (q1207, .inl (I .int, 40, .inl f1222)), (q1208, .inl (I .int, 40, .inl f1223)), (q1209, .inl (I .int, 200, .inl f1224)), (q1210, .inl (I .int, 200, .inl f1225)), (q1211, .inl (I .int, 200, .inl f1226)), (q1212, .inl (I .int, 200, .inl f1227)), (q1213, .inl (I .int, 200, .inl f1228)), (q1214, .inl (I .int, 200, .inl f1229)), (q1203, .inl (I .long, 40, .inr (.inl f1270))), (q1204, .inl (I .long, 40, .inr (.inl f1271))), (q1205, .inl (I .int, 40, .inl f1311))]) (cs' := 0) (sl' := 0) rfl rfl rfl ?_
  refine G_iconst 0 d_cX6_find_24 (by decide +kernel) ?_
  refine G_istore_n (L' := [(2, .int 0), (0, .ref q1201), (1, .ref q1202)]) d_cX6_find_25 (Nat.le_of_ble_eq_true rfl) rfl ?_
  have hlp26_2623 : ∀ (n26_2623 : Nat) (g2621 : Int32) (f2622 : Nat → Int64) (f2623 : Nat → Int64), gB g2621 0 40 → ((41 : Int) - g2621.toInt).toNat < n26_2623 → G (gV D I) l (gRm 2 59 0 0) (gM (gV D I) (po_1230_Loops_find I q1201 q1202 q1203 q1204 q1205 q1206 q1207 q1208 q1209 q1210 q1211 q1212 q1213 q1214 p1215 p1216 p1217 f1218 f1219 f1220 f1221 f1222 f1223 f1224 f1225 f1226 f1227 f1228 f1229) gN 0 0) ky_1230_Loops_find 26 [(2, .int g2621), (0, .ref q1201), (1, .ref q1202)] [] [(q1201, .inr (11, [.ref q1203, .ref q1204, .ref q1205])), (q1202, .inr (5, [.ref q1206, .ref q1207, .ref q1208, .ref q1209, .ref q1210, .ref q1211, .ref q1212, .ref q1213, .ref q1214, .int p1215, .int p1216, .int p1217])), (q1206, .inl (I .int, 40, .inl f1221)), (q1207, .inl (I .int, 40, .inl f1222)), (q1208, .inl (I .int, 40, .inl f1223)), (q1209, .inl (I .int, 200, .inl f1224)), (q1210, .inl (I .int, 200, .inl f1225)), (q1211, .inl (I .int, 200, .inl f1226)), (q1212, .inl (I .int, 200, .inl f1227)), (q1213, .inl (I .int, 200, .inl f1228)), (q1214, .inl (I .int, 200, .inl f1229)), (q1203, .inl (I .long, 40, .inr (.inl f2622))), (q1204, .inl (I .long, 40, .inr (.inl f2623))), (q1205, .inl (I .int, 40, .inl f1311))] 0 0 := by
    intro n26_2623
    induction n26_2623 with
    | zero => intro g2621 f2622 f2623 bg2621 hm26_2623; exact absurd hm26_2623 (Nat.not_lt_zero _)
    | succ n26_2623 ih26_2623 =>
      intro g2621 f2622 f2623 bg2621 hm26_2623
      refine G_iload_n 0 d_cX6_find_26 rfl ?_
      refine G_aload_n 2 d_cX6_find_27 rfl ?_
      refine G_getfN 1 9 d_cX6_find_28 rfl (gk_X0 D I) (Nat.le_of_ble_eq_true rfl) (fun _ _ _ h => gn_w 40 rfl h) rfl ?_
      refine G_icmp_ge 62 d_cX6_find_31 (by decide +kernel) (fun hc2624 => ?_) (fun hc2624 => ?_)
      · have r2625 : p1215.toInt ≤ g2621.toInt := gC_le hc2624
        refine G_aload_n 1 d_cX6_find_62 rfl ?_
        refine G_getf 0 0 d_cX6_find_63 rfl (gk_X6 D I) (Nat.le_of_ble_eq_true rfl) w_1_233 rfl ?_
        refine G_lconst 1 d_cX6_find_66 rfl ?_
        refine G_lconst 0 d_cX6_find_67 rfl ?_
        refine G_callS (As := [.ref q1203, .long 1, .long 0]) (wr := [(q1201, .inr (11, [.ref q1203, .ref q1204, .ref q1205])), (q1202, .inr (5, [.ref q1206, .ref q1207, .ref q1208, .ref q1209, .ref q1210, .ref q1211, .ref q1212, .ref q1213, .ref q1214, .int p1215, .int p1216, .int p1217])), (q1206, .inl (I .int, 40, .inl f1221)), (q1207, .inl (I .int, 40, .inl f1222)), (q1208, .inl (I .int, 40, .inl f1223)), (q1209, .inl (I .int, 200, .inl f1224)), (q1210, .inl (I .int, 200, .inl f1225)), (q1211, .inl (I .int, 200, .inl f1226)), (q1212, .inl (I .int, 200, .inl f1227)), (q1213, .inl (I .int, 200, .inl f1228)), (q1214, .inl (I .int, 200, .inl f1229)), (q1204, .inl (I .long, 40, .inr (.inl f2623))), (q1205, .inl (I .int, 40, .inl f1311))]) (gV_ok D I) (ct_1318_Loops_walk l hl0 D I q1203 1 0 f2622 ) d_cX6_find_68 ⟨w_4_4, w_1_7, w_4_6, by decide, rfl, (Nat.le_of_ble_eq_true rfl), (Nat.le_of_ble_eq_true rfl)⟩ w_4_5 [11] [0, 1, 2, 3, 4, 5, 6, 7, 8, 9, 10, 12, 13] rfl rfl rfl rfl (by decide) (Nat.le_of_ble_eq_true rfl) (Nat.le_of_ble_eq_true rfl) (Nat.le_of_ble_eq_true rfl) (fun r w hp => ?_) (fun _ _ _ z => z.elim)
        obtain ⟨ol2626, rfl, rfl⟩ := hp
        change G _ _ _ _ _ _ _ (.long ol2626 :: _) _ _ _
        refine G_ws (ws' := [(q1201, .inr (11, [.ref q1203, .ref q1204, .ref q1205])), (q1202, .inr (5, [.ref q1206, .ref q1207, .ref q1208, .ref q1209, .ref q1210, .ref q1211, .ref q1212, .ref q1213, .ref q1214, .int p1215, .int p1216, .int p1217])), (q1206, .inl (I .int, 40, .inl f1221)), (q1207, .inl (I .int, 40, .inl f1222)), (q1208, .inl (I .int, 40, .inl f1223)), (q1209, .inl (I .int, 200, .inl f1224)), (q1210, .inl (I .int, 200, .inl f1225)), (q1211, .inl (I .int, 200, .inl f1226)), (q1212, .inl (I .int, 200, .inl f1227)), (q1213, .inl (I .int, 200, .inl f1228)), (q1214, .inl (I .int, 200, .inl f1229)), (q1204, .inl (I .long, 40, .inr (.inl f2623))), (q1205, .inl (I .int, 40, .inl f1311)), (q1203, .inl (I .long, 40, .inr (.inl f2622)))]) (cs' := 0) (sl' := 0) rfl rfl rfl ?_
        refine G_lstore_n (L' := [(2, .long ol2626), (0, .ref q1201), (1, .ref q1202)]) d_cX6_find_71 (Nat.le_of_ble_eq_true rfl) rfl ?_
        refine G_iconst 0 d_cX6_find_72 (by decide +kernel) ?_
        refine G_istore (L' := [(4, .int 0), (2, .long ol2626), (0, .ref q1201), (1, .ref q1202)]) d_cX6_find_73 (Nat.le_of_ble_eq_true rfl) rfl ?_
        have hlp75_2673 : ∀ (n75_2673 : Nat) (g2672 : Int32) (f2673 : Nat → Int32), gB g2672 0 40 → gF f2673 (-2147483648) 2147483647 → ((41 : Int) - g2672.toInt).toNat < n75_2673 → G (gV D I) l (gRm 2 59 0 0) (gM (gV D I) (po_1230_Loops_find I q1201 q1202 q1203 q1204 q1205 q1206 q1207 q1208 q1209 q1210 q1211 q1212 q1213 q1214 p1215 p1216 p1217 f1218 f1219 f1220 f1221 f1222 f1223 f1224 f1225 f1226 f1227 f1228 f1229) gN 0 0) ky_1230_Loops_find 75 [(4, .int g2672), (2, .long ol2626), (0, .ref q1201), (1, .ref q1202)] [] [(q1201, .inr (11, [.ref q1203, .ref q1204, .ref q1205])), (q1202, .inr (5, [.ref q1206, .ref q1207, .ref q1208, .ref q1209, .ref q1210, .ref q1211, .ref q1212, .ref q1213, .ref q1214, .int p1215, .int p1216, .int p1217])), (q1206, .inl (I .int, 40, .inl f1221)), (q1207, .inl (I .int, 40, .inl f1222)), (q1208, .inl (I .int, 40, .inl f1223)), (q1209, .inl (I .int, 200, .inl f1224)), (q1210, .inl (I .int, 200, .inl f1225)), (q1211, .inl (I .int, 200, .inl f1226)), (q1212, .inl (I .int, 200, .inl f1227)), (q1213, .inl (I .int, 200, .inl f1228)), (q1214, .inl (I .int, 200, .inl f1229)), (q1204, .inl (I .long, 40, .inr (.inl f2623))), (q1205, .inl (I .int, 40, .inl f2673)), (q1203, .inl (I .long, 40, .inr (.inl f2622)))] 0 0 := by
          intro n75_2673
          induction n75_2673 with
          | zero => intro g2672 f2673 bg2672 bf2673 hm75_2673; exact absurd hm75_2673 (Nat.not_lt_zero _)
          | succ n75_2673 ih75_2673 =>
            intro g2672 f2673 bg2672 bf2673 hm75_2673
            refine G_iload 0 d_cX6_find_75 rfl ?_
            refine G_aload_n 3 d_cX6_find_77 rfl ?_
            refine G_getfN 1 9 d_cX6_find_78 rfl (gk_X0 D I) (Nat.le_of_ble_eq_true rfl) (fun _ _ _ h => gn_w 40 rfl h) rfl ?_
            refine G_icmp_ge 101 d_cX6_find_81 (by decide +kernel) (fun hc2674 => ?_) (fun hc2674 => ?_)
            · have r2675 : p1215.toInt ≤ g2672.toInt := gC_le hc2674
              refine G_sub (ws' := [(q1201, .inr (11, [.ref q1203, .ref q1204, .ref q1205])), (q1202, .inr (5, [.ref q1206, .ref q1207, .ref q1208, .ref q1209, .ref q1210, .ref q1211, .ref q1212, .ref q1213, .ref q1214, .int p1215, .int p1216, .int p1217])), (q1203, .inl (I .long, 40, .inr (.inl f2622))), (q1204, .inl (I .long, 40, .inr (.inl f2623))), (q1205, .inl (I .int, 40, .inl f2673)), (q1206, .inl (I .int, 40, .inl f1221)), (q1207, .inl (I .int, 40, .inl f1222)), (q1208, .inl (I .int, 40, .inl f1223)), (q1209, .inl (I .int, 200, .inl f1224)), (q1210, .inl (I .int, 200, .inl f1225)), (q1211, .inl (I .int, 200, .inl f1226)), (q1212, .inl (I .int, 200, .inl f1227)), (q1213, .inl (I .int, 200, .inl f1228)), (q1214, .inl (I .int, 200, .inl f1229))]) [0, 1, 13, 11, 12, 2, 3, 4, 5, 6, 7, 8, 9, 10] rfl rfl ?_
              exact G_vret d_cX6_find_101 rfl (Nat.le_of_ble_eq_true rfl) (Nat.le_of_ble_eq_true rfl) ⟨f2622, f2623, f2673, rfl, rfl, bf2673⟩
            · have r2676 : g2672.toInt < p1215.toInt := gC_nle hc2674
              have bg2672' : gB g2672 0 39 := ⟨by omega, by omega⟩
              have bp1215' : gB p1215 1 40 := ⟨by omega, by omega⟩
              refine G_aload_n 2 d_cX6_find_84 rfl ?_
              refine G_aload_n 2 d_cX6_find_85 rfl ?_
              refine G_iload 0 d_cX6_find_86 rfl ?_
              refine G_lload_n 1 d_cX6_find_88 rfl ?_
              refine G_callV (As := [.int g2672, .long ol2626]) (wr := [(q1202, .inr (5, [.ref q1206, .ref q1207, .ref q1208, .ref q1209, .ref q1210, .ref q1211, .ref q1212, .ref q1213, .ref q1214, .int p1215, .int p1216, .int p1217])), (q1206, .inl (I .int, 40, .inl f1221)), (q1207, .inl (I .int, 40, .inl f1222)), (q1208, .inl (I .int, 40, .inl f1223)), (q1209, .inl (I .int, 200, .inl f1224)), (q1210, .inl (I .int, 200, .inl f1225)), (q1211, .inl (I .int, 200, .inl f1226)), (q1212, .inl (I .int, 200, .inl f1227)), (q1213, .inl (I .int, 200, .inl f1228)), (q1214, .inl (I .int, 200, .inl f1229))]) (gV_ok D I) (ct_2218_Loops_loopOf l hl0 D I q1201 q1203 q1204 q1205 g2672 ol2626 f2622 f2623 f2673 bg2672') d_cX6_find_89 ⟨w_4_8, w_1_7, w_4_11, by decide, rfl, (Nat.le_of_ble_eq_true rfl), (Nat.le_of_ble_eq_true rfl)⟩ w_4_10 w_p_27 0 rfl rfl [0, 13, 11, 12] [1, 2, 3, 4, 5, 6, 7, 8, 9, 10] rfl rfl rfl rfl (by decide) (Nat.le_of_ble_eq_true rfl) (Nat.le_of_ble_eq_true rfl) (Nat.le_of_ble_eq_true rfl) (fun r w hp => ?_) (fun _ _ _ z => z.elim)
              obtain ⟨ol2677, rfl, rfl⟩ := hp
              change G _ _ _ _ _ _ _ (.long ol2677 :: _) _ _ _
              refine G_ws (ws' := [(q1202, .inr (5, [.ref q1206, .ref q1207, .ref q1208, .ref q1209, .ref q1210, .ref q1211, .ref q1212, .ref q1213, .ref q1214, .int p1215, .int p1216, .int p1217])), (q1206, .inl (I .int, 40, .inl f1221)), (q1207, .inl (I .int, 40, .inl f1222)), (q1208, .inl (I .int, 40, .inl f1223)), (q1209, .inl (I .int, 200, .inl f1224)), (q1210, .inl (I .int, 200, .inl f1225)), (q1211, .inl (I .int, 200, .inl f1226)), (q1212, .inl (I .int, 200, .inl f1227)), (q1213, .inl (I .int, 200, .inl f1228)), (q1214, .inl (I .int, 200, .inl f1229)), (q1201, .inr (11, [.ref q1203, .ref q1204, .ref q1205])), (q1203, .inl (I .long, 40, .inr (.inl f2622))), (q1204, .inl (I .long, 40, .inr (.inl f2623))), (q1205, .inl (I .int, 40, .inl f2673))]) (cs' := 0) (sl' := 0) rfl rfl rfl ?_
              refine G_callV (As := [.long ol2677]) (wr := [(q1202, .inr (5, [.ref q1206, .ref q1207, .ref q1208, .ref q1209, .ref q1210, .ref q1211, .ref q1212, .ref q1213, .ref q1214, .int p1215, .int p1216, .int p1217])), (q1206, .inl (I .int, 40, .inl f1221)), (q1207, .inl (I .int, 40, .inl f1222)), (q1208, .inl (I .int, 40, .inl f1223)), (q1209, .inl (I .int, 200, .inl f1224)), (q1210, .inl (I .int, 200, .inl f1225)), (q1211, .inl (I .int, 200, .inl f1226)), (q1212, .inl (I .int, 200, .inl f1227)), (q1213, .inl (I .int, 200, .inl f1228)), (q1214, .inl (I .int, 200, .inl f1229))]) (gV_ok D I) (ct_2243_Loops_deepen l hl0 D I q1201 q1203 q1204 q1205 ol2677 f2622 f2623 f2673 ) d_cX6_find_92 ⟨w_4_12, w_1_7, w_4_15, by decide, rfl, (Nat.le_of_ble_eq_true rfl), (Nat.le_of_ble_eq_true rfl)⟩ w_4_14 w_p_28 10 rfl rfl [10, 11, 12, 13] [0, 1, 2, 3, 4, 5, 6, 7, 8, 9] rfl rfl rfl rfl (by decide) (Nat.le_of_ble_eq_true rfl) (Nat.le_of_ble_eq_true rfl) (Nat.le_of_ble_eq_true rfl) (fun r w hp => ?_) (fun _ _ _ z => z.elim)
              obtain ⟨f2678, rfl, rfl, bf2678⟩ := hp
              change G _ _ _ _ _ _ _ _ _ _ _
              refine G_ws (ws' := [(q1202, .inr (5, [.ref q1206, .ref q1207, .ref q1208, .ref q1209, .ref q1210, .ref q1211, .ref q1212, .ref q1213, .ref q1214, .int p1215, .int p1216, .int p1217])), (q1206, .inl (I .int, 40, .inl f1221)), (q1207, .inl (I .int, 40, .inl f1222)), (q1208, .inl (I .int, 40, .inl f1223)), (q1209, .inl (I .int, 200, .inl f1224)), (q1210, .inl (I .int, 200, .inl f1225)), (q1211, .inl (I .int, 200, .inl f1226)), (q1212, .inl (I .int, 200, .inl f1227)), (q1213, .inl (I .int, 200, .inl f1228)), (q1214, .inl (I .int, 200, .inl f1229)), (q1201, .inr (11, [.ref q1203, .ref q1204, .ref q1205])), (q1203, .inl (I .long, 40, .inr (.inl f2622))), (q1204, .inl (I .long, 40, .inr (.inl f2623))), (q1205, .inl (I .int, 40, .inl f2678))]) (cs' := 0) (sl' := 0) rfl rfl rfl ?_
              obtain ⟨z2679, hz2679⟩ : ∃ z : Int32, z = g2672 + Int32.ofInt 1 := ⟨_, rfl⟩
              have ez2679 : z2679.toInt = g2672.toInt + 1 := gI_inc hz2679 (by decide) bg2672' (by decide) (by decide)
              have bz2679 : gB z2679 1 40 := ⟨by omega, by omega⟩
              refine G_iinc (L' := [(4, .int z2679), (2, .long ol2626), (0, .ref q1201), (1, .ref q1202)]) z2679 0 d_cX6_find_95 rfl hz2679.symm (Nat.le_of_ble_eq_true rfl) rfl ?_
              refine G_goto 75 d_cX6_find_98 (by decide +kernel) ?_
              refine G_sub (ws' := [(q1201, .inr (11, [.ref q1203, .ref q1204, .ref q1205])), (q1202, .inr (5, [.ref q1206, .ref q1207, .ref q1208, .ref q1209, .ref q1210, .ref q1211, .ref q1212, .ref q1213, .ref q1214, .int p1215, .int p1216, .int p1217])), (q1206, .inl (I .int, 40, .inl f1221)), (q1207, .inl (I .int, 40, .inl f1222)), (q1208, .inl (I .int, 40, .inl f1223)), (q1209, .inl (I .int, 200, .inl f1224)), (q1210, .inl (I .int, 200, .inl f1225)), (q1211, .inl (I .int, 200, .inl f1226)), (q1212, .inl (I .int, 200, .inl f1227)), (q1213, .inl (I .int, 200, .inl f1228)), (q1214, .inl (I .int, 200, .inl f1229)), (q1204, .inl (I .long, 40, .inr (.inl f2623))), (q1205, .inl (I .int, 40, .inl f2678)), (q1203, .inl (I .long, 40, .inr (.inl f2622)))]) [10, 0, 1, 2, 3, 4, 5, 6, 7, 8, 9, 12, 13, 11] rfl rfl ?_
              exact ih75_2673 z2679 f2678 (gB_w bz2679 (by decide) (by decide)) bf2678 (by omega)
        exact hlp75_2673 (((41 : Int) - 0).toNat + 1) 0 f1311 (gB_w (gBl (show Int32.toInt 0 = 0 by decide)) (by decide) (by decide)) bf1311 (Nat.lt_succ_self _)
      · have r2680 : g2621.toInt < p1215.toInt := gC_nle hc2624
        have bg2621' : gB g2621 0 39 := ⟨by omega, by omega⟩
        have bp1215' : gB p1215 1 40 := ⟨by omega, by omega⟩
        refine G_aload_n 1 d_cX6_find_34 rfl ?_
        refine G_iload_n 0 d_cX6_find_35 rfl ?_
        refine G_aload_n 2 d_cX6_find_36 rfl ?_
        refine G_getfN 1 1 d_cX6_find_37 rfl (gk_X0 D I) (Nat.le_of_ble_eq_true rfl) (fun _ _ _ h => gn_w 7 rfl h) rfl ?_
        refine G_iload_n 0 d_cX6_find_40 rfl ?_
        refine G_iald 3 0 d_cX6_find_41 rfl rfl (gB_in bg2621' (by decide) (by decide)) (G_nam fun z2681 hz2681 => ?_)
        have bz2681 : gB z2681 (-2147483648) 2147483647 := gB_any z2681
        refine G_callV (As := [.int g2621, .int z2681]) (wr := [(q1202, .inr (5, [.ref q1206, .ref q1207, .ref q1208, .ref q1209, .ref q1210, .ref q1211, .ref q1212, .ref q1213, .ref q1214, .int p1215, .int p1216, .int p1217])), (q1206, .inl (I .int, 40, .inl f1221)), (q1207, .inl (I .int, 40, .inl f1222)), (q1208, .inl (I .int, 40, .inl f1223)), (q1209, .inl (I .int, 200, .inl f1224)), (q1210, .inl (I .int, 200, .inl f1225)), (q1211, .inl (I .int, 200, .inl f1226)), (q1212, .inl (I .int, 200, .inl f1227)), (q1213, .inl (I .int, 200, .inl f1228)), (q1214, .inl (I .int, 200, .inl f1229))]) (gV_ok D I) (ct_2178_Loops_link l hl0 D I q1201 q1203 q1204 q1205 g2621 z2681 f2622 f2623 f1311 bg2621') d_cX6_find_42 ⟨w_4_0, w_1_7, w_4_3, by decide, rfl, (Nat.le_of_ble_eq_true rfl), (Nat.le_of_ble_eq_true rfl)⟩ w_4_2 w_p_26 0 rfl rfl [0, 11, 12, 13] [1, 2, 3, 4, 5, 6, 7, 8, 9, 10] rfl rfl rfl rfl (by decide) (Nat.le_of_ble_eq_true rfl) (Nat.le_of_ble_eq_true rfl) (Nat.le_of_ble_eq_true rfl) (fun r w hp => ?_) (fun _ _ _ z => z.elim)
        obtain ⟨f2682, f2683, rfl, rfl⟩ := hp
        change G _ _ _ _ _ _ _ _ _ _ _
        refine G_ws (ws' := [(q1202, .inr (5, [.ref q1206, .ref q1207, .ref q1208, .ref q1209, .ref q1210, .ref q1211, .ref q1212, .ref q1213, .ref q1214, .int p1215, .int p1216, .int p1217])), (q1206, .inl (I .int, 40, .inl f1221)), (q1207, .inl (I .int, 40, .inl f1222)), (q1208, .inl (I .int, 40, .inl f1223)), (q1209, .inl (I .int, 200, .inl f1224)), (q1210, .inl (I .int, 200, .inl f1225)), (q1211, .inl (I .int, 200, .inl f1226)), (q1212, .inl (I .int, 200, .inl f1227)), (q1213, .inl (I .int, 200, .inl f1228)), (q1214, .inl (I .int, 200, .inl f1229)), (q1201, .inr (11, [.ref q1203, .ref q1204, .ref q1205])), (q1203, .inl (I .long, 40, .inr (.inl f2682))), (q1204, .inl (I .long, 40, .inr (.inl f2683))), (q1205, .inl (I .int, 40, .inl f1311))]) (cs' := 0) (sl' := 0) rfl rfl rfl ?_
        refine G_aload_n 1 d_cX6_find_45 rfl ?_
        refine G_iload_n 0 d_cX6_find_46 rfl ?_
        refine G_aload_n 2 d_cX6_find_47 rfl ?_
        refine G_getfN 0 2 d_cX6_find_48 rfl (gk_X0 D I) (Nat.le_of_ble_eq_true rfl) (fun _ _ _ h => gn_w 11 rfl h) rfl ?_
        refine G_iload_n 0 d_cX6_find_51 rfl ?_
        refine G_iald 3 0 d_cX6_find_52 rfl rfl (gB_in bg2621' (by decide) (by decide)) (G_nam fun z2684 hz2684 => ?_)
        have bz2684 : gB z2684 (-2147483648) 2147483647 := gB_any z2684
        refine G_callV (As := [.int g2621, .int z2684]) (wr := [(q1202, .inr (5, [.ref q1206, .ref q1207, .ref q1208, .ref q1209, .ref q1210, .ref q1211, .ref q1212, .ref q1213, .ref q1214, .int p1215, .int p1216, .int p1217])), (q1206, .inl (I .int, 40, .inl f1221)), (q1207, .inl (I .int, 40, .inl f1222)), (q1208, .inl (I .int, 40, .inl f1223)), (q1209, .inl (I .int, 200, .inl f1224)), (q1210, .inl (I .int, 200, .inl f1225)), (q1211, .inl (I .int, 200, .inl f1226)), (q1212, .inl (I .int, 200, .inl f1227)), (q1213, .inl (I .int, 200, .inl f1228)), (q1214, .inl (I .int, 200, .inl f1229))]) (gV_ok D I) (ct_2178_Loops_link l hl0 D I q1201 q1203 q1204 q1205 g2621 z2684 f2682 f2683 f1311 bg2621') d_cX6_find_53 ⟨w_4_0, w_1_7, w_4_3, by decide, rfl, (Nat.le_of_ble_eq_true rfl), (Nat.le_of_ble_eq_true rfl)⟩ w_4_2 w_p_26 10 rfl rfl [10, 11, 12, 13] [0, 1, 2, 3, 4, 5, 6, 7, 8, 9] rfl rfl rfl rfl (by decide) (Nat.le_of_ble_eq_true rfl) (Nat.le_of_ble_eq_true rfl) (Nat.le_of_ble_eq_true rfl) (fun r w hp => ?_) (fun _ _ _ z => z.elim)
        obtain ⟨f2685, f2686, rfl, rfl⟩ := hp
        change G _ _ _ _ _ _ _ _ _ _ _
        refine G_ws (ws' := [(q1202, .inr (5, [.ref q1206, .ref q1207, .ref q1208, .ref q1209, .ref q1210, .ref q1211, .ref q1212, .ref q1213, .ref q1214, .int p1215, .int p1216, .int p1217])), (q1206, .inl (I .int, 40, .inl f1221)), (q1207, .inl (I .int, 40, .inl f1222)), (q1208, .inl (I .int, 40, .inl f1223)), (q1209, .inl (I .int, 200, .inl f1224)), (q1210, .inl (I .int, 200, .inl f1225)), (q1211, .inl (I .int, 200, .inl f1226)), (q1212, .inl (I .int, 200, .inl f1227)), (q1213, .inl (I .int, 200, .inl f1228)), (q1214, .inl (I .int, 200, .inl f1229)), (q1201, .inr (11, [.ref q1203, .ref q1204, .ref q1205])), (q1203, .inl (I .long, 40, .inr (.inl f2685))), (q1204, .inl (I .long, 40, .inr (.inl f2686))), (q1205, .inl (I .int, 40, .inl f1311))]) (cs' := 0) (sl' := 0) rfl rfl rfl ?_
        obtain ⟨z2687, hz2687⟩ : ∃ z : Int32, z = g2621 + Int32.ofInt 1 := ⟨_, rfl⟩
        have ez2687 : z2687.toInt = g2621.toInt + 1 := gI_inc hz2687 (by decide) bg2621' (by decide) (by decide)
        have bz2687 : gB z2687 1 40 := ⟨by omega, by omega⟩
        refine G_iinc (L' := [(2, .int z2687), (0, .ref q1201), (1, .ref q1202)]) z2687 0 d_cX6_find_56 rfl hz2687.symm (Nat.le_of_ble_eq_true rfl) rfl ?_
        refine G_goto 26 d_cX6_find_59 (by decide +kernel) ?_
        refine G_sub (ws' := [(q1201, .inr (11, [.ref q1203, .ref q1204, .ref q1205])), (q1202, .inr (5, [.ref q1206, .ref q1207, .ref q1208, .ref q1209, .ref q1210, .ref q1211, .ref q1212, .ref q1213, .ref q1214, .int p1215, .int p1216, .int p1217])), (q1206, .inl (I .int, 40, .inl f1221)), (q1207, .inl (I .int, 40, .inl f1222)), (q1208, .inl (I .int, 40, .inl f1223)), (q1209, .inl (I .int, 200, .inl f1224)), (q1210, .inl (I .int, 200, .inl f1225)), (q1211, .inl (I .int, 200, .inl f1226)), (q1212, .inl (I .int, 200, .inl f1227)), (q1213, .inl (I .int, 200, .inl f1228)), (q1214, .inl (I .int, 200, .inl f1229)), (q1203, .inl (I .long, 40, .inr (.inl f2685))), (q1204, .inl (I .long, 40, .inr (.inl f2686))), (q1205, .inl (I .int, 40, .inl f1311))]) [10, 0, 1, 2, 3, 4, 5, 6, 7, 8, 9, 11, 12, 13] rfl rfl ?_
        exact ih26_2623 z2687 f2685 f2686 (gB_w bz2687 (by decide) (by decide)) (by omega)
  exact hlp26_2623 (((41 : Int) - 0).toNat + 1) 0 f1270 f1271 (gB_w (gBl (show Int32.toInt 0 = 0 by decide)) (by decide) (by decide)) (Nat.lt_succ_self _)
abbrev ky_2711_Machine_takeInput : gKey := (cX7_takeInput, 3, yX7_takeInput.cls, (some FieldType.int), [], yX7_takeInput.name, fun _ _ => True)
abbrev po_2711_Machine_takeInput (I : FieldType → ClassId) (q2691 : Nat) (q2692 : Nat) (q2693 : Nat) (q2694 : Nat) (q2695 : Nat) (q2696 : Nat) (q2697 : Nat) (p2698 : Int32) (p2699 : Int32) (p2700 : Int32) (p2701 : Int32) (p2702 : Int32) (p2703 : Int32) (p2704 : Int32) (p2705 : Int32) (f2706 : Nat → Int32) (f2707 : Nat → Int32) (f2708 : Nat → Int32) (f2709 : Nat → Int32) (f2710 : Nat → Int32) : Option Value → va_W → Prop := fun r w => ∃ (o2775 : Int32) (o2773 : Int32) (f2774 : Nat → Int32), r = some (.int o2775) ∧ w = [(q2691, .inr (12, [.ref q2693, .ref q2694, .ref q2695, .ref q2696, .int o2773, .int p2699, .int p2700, .int p2701, .int p2702, .int p2703, .int p2704])), (q2692, .inr (15, [.ref q2697, .int p2705])), (q2693, .inl (I .int, 2048, .inl f2774)), (q2694, .inl (I .int, 100, .inl f2707)), (q2695, .inl (I .int, 100, .inl f2708)), (q2696, .inl (I .int, 512, .inl f2709)), (q2697, .inl (I .byte, 8192, .inl f2710))] ∧ gB o2775 0 2048 ∧ gB o2773 0 2048 ∧ gF f2774 (-2147483648) 2147483647 ∧ o2775.toInt = p2705.toInt / 4
set_option maxRecDepth 100000 in
set_option maxHeartbeats 4000000 in
theorem ct_2711_Machine_takeInput (l : Launch) (hl0 : l.stackTraces = false) (D : va_G) (I : FieldType → ClassId) (q2691 : Nat) (q2692 : Nat) (q2693 : Nat) (q2694 : Nat) (q2695 : Nat) (q2696 : Nat) (q2697 : Nat) (p2698 : Int32) (p2699 : Int32) (p2700 : Int32) (p2701 : Int32) (p2702 : Int32) (p2703 : Int32) (p2704 : Int32) (p2705 : Int32) (f2706 : Nat → Int32) (f2707 : Nat → Int32) (f2708 : Nat → Int32) (f2709 : Nat → Int32) (f2710 : Nat → Int32) (bp2698 : gB p2698 0 2048) (bp2699 : gB p2699 0 39) (bp2701 : gB p2701 0 512) (bp2703 : gB p2703 0 2048) (bp2705 : gB p2705 0 8192) (bf2710 : gF f2710 (-128) 127) : Ct (gV D I) l yX7_takeInput cX7_takeInput 3 (some FieldType.int) 2 44 0 0 [.ref q2691, .ref q2692] [(q2691, .inr (12, [.ref q2693, .ref q2694, .ref q2695, .ref q2696, .int p2698, .int p2699, .int p2700, .int p2701, .int p2702, .int p2703, .int p2704])), (q2692, .inr (15, [.ref q2697, .int p2705])), (q2693, .inl (I .int, 2048, .inl f2706)), (q2694, .inl (I .int, 100, .inl f2707)), (q2695, .inl (I .int, 100, .inl f2708)), (q2696, .inl (I .int, 512, .inl f2709)), (q2697, .inl (I .byte, 8192, .inl f2710))] (po_2711_Machine_takeInput I q2691 q2692 q2693 q2694 q2695 q2696 q2697 p2698 p2699 p2700 p2701 p2702 p2703 p2704 p2705 f2706 f2707 f2708 f2709 f2710) gN := by
  refine Ct_of hl0 (by decide) (Nat.le_of_ble_eq_true rfl) ?_
  have bp2700 := gB_any p2700
  have bp2702 := gB_any p2702
  have bp2704 := gB_any p2704
  refine G_aload_n 0 d_cX7_takeInput_0 rfl ?_
  refine G_aload_n 1 d_cX7_takeInput_1 rfl ?_
  refine G_callV (As := []) (wr := [(q2691, .inr (12, [.ref q2693, .ref q2694, .ref q2695, .ref q2696, .int p2698, .int p2699, .int p2700, .int p2701, .int p2702, .int p2703, .int p2704])), (q2693, .inl (I .int, 2048, .inl f2706)), (q2694, .inl (I .int, 100, .inl f2707)), (q2695, .inl (I .int, 100, .inl f2708)), (q2696, .inl (I .int, 512, .inl f2709))]) (gV_ok D I) (ct_5_Tape_size l hl0 D I q2692 q2697 p2705 f2710 bp2705 bf2710) d_cX7_takeInput_2 ⟨w_4_176, w_1_2, w_3_19, by decide, rfl, (Nat.le_of_ble_eq_true rfl), (Nat.le_of_ble_eq_true rfl)⟩ w_3_17 w_3_18 1 rfl rfl [1, 6] [0, 2, 3, 4, 5] rfl rfl rfl rfl (by decide) (Nat.le_of_ble_eq_true rfl) (Nat.le_of_ble_eq_true rfl) (Nat.le_of_ble_eq_true rfl) (fun r w hp => ?_) (fun _ _ _ z => z.elim)
  obtain ⟨rfl, rfl⟩ := hp
  change G _ _ _ _ _ _ _ (.int p2705 :: _) _ _ _
  refine G_ws (ws' := [(q2691, .inr (12, [.ref q2693, .ref q2694, .ref q2695, .ref q2696, .int p2698, .int p2699, .int p2700, .int p2701, .int p2702, .int p2703, .int p2704])), (q2693, .inl (I .int, 2048, .inl f2706)), (q2694, .inl (I .int, 100, .inl f2707)), (q2695, .inl (I .int, 100, .inl f2708)), (q2696, .inl (I .int, 512, .inl f2709)), (q2692, .inr (15, [.ref q2697, .int p2705])), (q2697, .inl (I .byte, 8192, .inl f2710))]) (cs' := 0) (sl' := 0) rfl rfl rfl ?_
  refine G_iconst 4 d_cX7_takeInput_5 (by decide +kernel) ?_
  refine G_idiv d_cX7_takeInput_6 (by decide) (G_nam fun z2712 hz2712 => ?_)
  have ez2712 : z2712.toInt = p2705.toInt / 4 := gI_div hz2712 bp2705 (by decide) (by decide) (by decide)
  have bz2712 : gB z2712 0 2048 := ⟨by omega, by omega⟩
  refine G_aload_n 0 d_cX7_takeInput_7 rfl ?_
  refine G_getf 0 0 d_cX7_takeInput_8 rfl (gk_X7 D I) (Nat.le_of_ble_eq_true rfl) w_2_160 rfl ?_
  refine G_alen 2048 1 0 d_cX7_takeInput_11 rfl rfl rfl ?_
  refine G_mmin d_cX7_takeInput_12 w_4_177 w_3_227 w_1_6 w_3_228 (Nat.le_of_ble_eq_true rfl) (Nat.le_of_ble_eq_true rfl) (Nat.le_of_ble_eq_true rfl) (Nat.le_of_ble_eq_true rfl) (G_nam fun z2713 hz2713 => ?_)
  have ez2713 : z2712.toInt ≥ z2713.toInt ∧ 2048 ≥ z2713.toInt ∧ (z2713.toInt = z2712.toInt ∨ z2713.toInt = 2048) := by have := gI_min hz2713; rw [show Int32.toInt 2048 = 2048 from by decide] at this; omega
  have bz2713 : gB z2713 0 2048 := ⟨by omega, by omega⟩
  refine G_putf (ws' := [(q2691, .inr (12, [.ref q2693, .ref q2694, .ref q2695, .ref q2696, .int z2713, .int p2699, .int p2700, .int p2701, .int p2702, .int p2703, .int p2704])), (q2693, .inl (I .int, 2048, .inl f2706)), (q2694, .inl (I .int, 100, .inl f2707)), (q2695, .inl (I .int, 100, .inl f2708)), (q2696, .inl (I .int, 512, .inl f2709)), (q2692, .inr (15, [.ref q2697, .int p2705])), (q2697, .inl (I .byte, 8192, .inl f2710))]) 0 4 d_cX7_takeInput_15 rfl (gk_X7 D I) (Nat.le_of_ble_eq_true rfl) w_2_164 rfl rfl rfl (Nat.le_of_ble_eq_true rfl) rfl ?_
  refine G_iconst 0 d_cX7_takeInput_18 (by decide +kernel) ?_
  refine G_istore_n (L' := [(2, .int 0), (0, .ref q2691), (1, .ref q2692)]) d_cX7_takeInput_19 (Nat.le_of_ble_eq_true rfl) rfl ?_
  have hlp20_2765 : ∀ (n20_2765 : Nat) (g2764 : Int32) (f2765 : Nat → Int32), gB g2764 0 2048 → gF f2765 (-2147483648) 2147483647 → ((2049 : Int) - g2764.toInt).toNat < n20_2765 → G (gV D I) l (gRm 2 44 0 0) (gM (gV D I) (po_2711_Machine_takeInput I q2691 q2692 q2693 q2694 q2695 q2696 q2697 p2698 p2699 p2700 p2701 p2702 p2703 p2704 p2705 f2706 f2707 f2708 f2709 f2710) gN 0 0) ky_2711_Machine_takeInput 20 [(2, .int g2764), (0, .ref q2691), (1, .ref q2692)] [] [(q2691, .inr (12, [.ref q2693, .ref q2694, .ref q2695, .ref q2696, .int z2713, .int p2699, .int p2700, .int p2701, .int p2702, .int p2703, .int p2704])), (q2693, .inl (I .int, 2048, .inl f2765)), (q2694, .inl (I .int, 100, .inl f2707)), (q2695, .inl (I .int, 100, .inl f2708)), (q2696, .inl (I .int, 512, .inl f2709)), (q2692, .inr (15, [.ref q2697, .int p2705])), (q2697, .inl (I .byte, 8192, .inl f2710))] 0 0 := by
    intro n20_2765
    induction n20_2765 with
    | zero => intro g2764 f2765 bg2764 bf2765 hm20_2765; exact absurd hm20_2765 (Nat.not_lt_zero _)
    | succ n20_2765 ih20_2765 =>
      intro g2764 f2765 bg2764 bf2765 hm20_2765
      refine G_iload_n 0 d_cX7_takeInput_20 rfl ?_
      refine G_aload_n 1 d_cX7_takeInput_21 rfl ?_
      refine G_getf 0 4 d_cX7_takeInput_22 rfl (gk_X7 D I) (Nat.le_of_ble_eq_true rfl) w_2_164 rfl ?_
      refine G_icmp_ge 47 d_cX7_takeInput_25 (by decide +kernel) (fun hc2766 => ?_) (fun hc2766 => ?_)
      · have r2767 : z2713.toInt ≤ g2764.toInt := gC_le hc2766
        refine G_aload_n 1 d_cX7_takeInput_47 rfl ?_
        refine G_getf 0 4 d_cX7_takeInput_48 rfl (gk_X7 D I) (Nat.le_of_ble_eq_true rfl) w_2_164 rfl ?_
        refine G_sub (ws' := [(q2691, .inr (12, [.ref q2693, .ref q2694, .ref q2695, .ref q2696, .int z2713, .int p2699, .int p2700, .int p2701, .int p2702, .int p2703, .int p2704])), (q2692, .inr (15, [.ref q2697, .int p2705])), (q2693, .inl (I .int, 2048, .inl f2765)), (q2694, .inl (I .int, 100, .inl f2707)), (q2695, .inl (I .int, 100, .inl f2708)), (q2696, .inl (I .int, 512, .inl f2709)), (q2697, .inl (I .byte, 8192, .inl f2710))]) [0, 5, 1, 2, 3, 4, 6] rfl rfl ?_
        exact G_iret d_cX7_takeInput_51 rfl (Nat.le_of_ble_eq_true rfl) (Nat.le_of_ble_eq_true rfl) ⟨z2713, z2713, f2765, rfl, rfl, bz2713, bz2713, bf2765, (by omega)⟩
      · have r2768 : g2764.toInt < z2713.toInt := gC_nle hc2766
        have bg2764' : gB g2764 0 2047 := ⟨by omega, by omega⟩
        have bz2713' : gB z2713 1 2048 := ⟨by omega, by omega⟩
        refine G_aload_n 1 d_cX7_takeInput_28 rfl ?_
        refine G_getf 0 0 d_cX7_takeInput_29 rfl (gk_X7 D I) (Nat.le_of_ble_eq_true rfl) w_2_160 rfl ?_
        refine G_iload_n 0 d_cX7_takeInput_32 rfl ?_
        refine G_aload_n 2 d_cX7_takeInput_33 rfl ?_
        refine G_iconst 4 d_cX7_takeInput_34 (by decide +kernel) ?_
        refine G_iload_n 0 d_cX7_takeInput_35 rfl ?_
        refine G_imul d_cX7_takeInput_36 (G_nam fun z2769 hz2769 => ?_)
        have ez2769 : z2769.toInt = 4 * g2764.toInt := by rw [gI_mul hz2769 (gBl (show Int32.toInt 4 = 4 by decide)) bg2764' (by decide) (by decide) (by decide), show Int32.toInt 4 = 4 from by decide]
        have bz2769 : gB z2769 0 8188 := gB_mul hz2769 (gBl (show Int32.toInt 4 = 4 by decide)) bg2764' (by decide) (by decide) (by decide) (by decide)
        refine G_callV (As := [.int z2769]) (wr := [(q2691, .inr (12, [.ref q2693, .ref q2694, .ref q2695, .ref q2696, .int z2713, .int p2699, .int p2700, .int p2701, .int p2702, .int p2703, .int p2704])), (q2693, .inl (I .int, 2048, .inl f2765)), (q2694, .inl (I .int, 100, .inl f2707)), (q2695, .inl (I .int, 100, .inl f2708)), (q2696, .inl (I .int, 512, .inl f2709))]) (gV_ok D I) (ct_138_Tape_intAt l hl0 D I q2692 q2697 z2769 p2705 f2710 bp2705 bf2710) d_cX7_takeInput_37 ⟨w_4_178, w_1_2, w_4_181, by decide, rfl, (Nat.le_of_ble_eq_true rfl), (Nat.le_of_ble_eq_true rfl)⟩ w_4_179 w_4_180 5 rfl rfl [5, 6] [0, 1, 2, 3, 4] rfl rfl rfl rfl (by decide) (Nat.le_of_ble_eq_true rfl) (Nat.le_of_ble_eq_true rfl) (Nat.le_of_ble_eq_true rfl) (fun r w hp => ?_) (fun _ _ _ z => z.elim)
        obtain ⟨o2770, rfl, rfl, bo2770⟩ := hp
        change G _ _ _ _ _ _ _ (.int o2770 :: _) _ _ _
        refine G_ws (ws' := [(q2691, .inr (12, [.ref q2693, .ref q2694, .ref q2695, .ref q2696, .int z2713, .int p2699, .int p2700, .int p2701, .int p2702, .int p2703, .int p2704])), (q2693, .inl (I .int, 2048, .inl f2765)), (q2694, .inl (I .int, 100, .inl f2707)), (q2695, .inl (I .int, 100, .inl f2708)), (q2696, .inl (I .int, 512, .inl f2709)), (q2692, .inr (15, [.ref q2697, .int p2705])), (q2697, .inl (I .byte, 8192, .inl f2710))]) (cs' := 0) (sl' := 0) rfl rfl rfl ?_
        refine G_iastN 1 0 d_cX7_takeInput_40 rfl rfl (gB_in bg2764' (by decide) (by decide)) (fun f2771 hf2771 => ?_)
        refine G_ws (ws' := [(q2691, .inr (12, [.ref q2693, .ref q2694, .ref q2695, .ref q2696, .int z2713, .int p2699, .int p2700, .int p2701, .int p2702, .int p2703, .int p2704])), (q2693, .inl (I .int, 2048, .inl f2771)), (q2694, .inl (I .int, 100, .inl f2707)), (q2695, .inl (I .int, 100, .inl f2708)), (q2696, .inl (I .int, 512, .inl f2709)), (q2692, .inr (15, [.ref q2697, .int p2705])), (q2697, .inl (I .byte, 8192, .inl f2710))]) (cs' := 0) (sl' := 0) rfl rfl rfl ?_
        obtain ⟨z2772, hz2772⟩ : ∃ z : Int32, z = g2764 + Int32.ofInt 1 := ⟨_, rfl⟩
        have ez2772 : z2772.toInt = g2764.toInt + 1 := gI_inc hz2772 (by decide) bg2764' (by decide) (by decide)
        have bz2772 : gB z2772 1 2048 := ⟨by omega, by omega⟩
        refine G_iinc (L' := [(2, .int z2772), (0, .ref q2691), (1, .ref q2692)]) z2772 0 d_cX7_takeInput_41 rfl hz2772.symm (Nat.le_of_ble_eq_true rfl) rfl ?_
        refine G_goto 20 d_cX7_takeInput_44 (by decide +kernel) ?_
        exact ih20_2765 z2772 f2771 (gB_w bz2772 (by decide) (by decide)) (gF_any f2771) (by omega)
  exact hlp20_2765 (((2049 : Int) - 0).toNat + 1) 0 f2706 (gB_w (gBl (show Int32.toInt 0 = 0 by decide)) (by decide) (by decide)) (gF_any f2706) (Nat.lt_succ_self _)
abbrev ky_2819_Arrays_fill : gKey := (cJ7_fill_53178, 4, yJ7_fill_53178.cls, none, [], yJ7_fill_53178.name, fun _ _ => True)
abbrev po_2819_Arrays_fill (I : FieldType → ClassId) (q2816 : Nat) (p2817 : Int32) (f2818 : Nat → Int32) : Option Value → va_W → Prop := fun r w => ∃ (f2854 : Nat → Int32), r = none ∧ w = [(q2816, .inl (I .int, 100, .inl f2854))] ∧ gF f2854 (-2147483648) 2147483647
set_option maxRecDepth 100000 in
set_option maxHeartbeats 4000000 in
theorem ct_2819_Arrays_fill (l : Launch) (hl0 : l.stackTraces = false) (D : va_G) (I : FieldType → ClassId) (q2816 : Nat) (p2817 : Int32) (f2818 : Nat → Int32)  : Ct (gV D I) l yJ7_fill_53178 cJ7_fill_53178 4 none 0 0 0 0 [.ref q2816, .int p2817] [(q2816, .inl (I .int, 100, .inl f2818))] (po_2819_Arrays_fill I q2816 p2817 f2818) gN := by
  refine Ct_ofF hl0 (by decide +kernel) (Nat.le_of_ble_eq_true rfl) ?_
  have bp2817 := gB_any p2817
  refine G_iconst 0 d_cJ7_fill_53178_0 (by decide +kernel) ?_
  refine G_istore_n (L' := [(2, .int 0), (0, .ref q2816), (1, .int p2817)]) d_cJ7_fill_53178_1 (Nat.le_of_ble_eq_true rfl) rfl ?_
  refine G_aload_n 1 d_cJ7_fill_53178_2 rfl ?_
  refine G_alen 100 0 0 d_cJ7_fill_53178_3 rfl rfl rfl ?_
  refine G_istore_n (L' := [(3, .int 100), (2, .int 0), (0, .ref q2816), (1, .int p2817)]) d_cJ7_fill_53178_4 (Nat.le_of_ble_eq_true rfl) rfl ?_
  have hlp5_2848 : ∀ (n5_2848 : Nat) (g2847 : Int32) (f2848 : Nat → Int32), gB g2847 0 100 → gF f2848 (-2147483648) 2147483647 → ((101 : Int) - g2847.toInt).toNat < n5_2848 → G (gV D I) l (gRm 0 0 0 0) (gM (gV D I) (po_2819_Arrays_fill I q2816 p2817 f2818) gN 0 0) ky_2819_Arrays_fill 5 [(3, .int 100), (2, .int g2847), (0, .ref q2816), (1, .int p2817)] [] [(q2816, .inl (I .int, 100, .inl f2848))] 0 0 := by
    intro n5_2848
    induction n5_2848 with
    | zero => intro g2847 f2848 bg2847 bf2848 hm5_2848; exact absurd hm5_2848 (Nat.not_lt_zero _)
    | succ n5_2848 ih5_2848 =>
      intro g2847 f2848 bg2847 bf2848 hm5_2848
      refine G_iload_n 1 d_cJ7_fill_53178_5 rfl ?_
      refine G_iload_n 0 d_cJ7_fill_53178_6 rfl ?_
      refine G_icmp_ge 20 d_cJ7_fill_53178_7 (by decide +kernel) (fun hc2849 => ?_) (fun hc2849 => ?_)
      · have r2850 : 100 ≤ g2847.toInt := gj_leL hc2849 (show Int32.toInt 100 = 100 by decide)
        have bg2847' : gB g2847 100 100 := ⟨by omega, by omega⟩
        exact G_vret d_cJ7_fill_53178_20 rfl (Nat.le_of_ble_eq_true rfl) (Nat.le_of_ble_eq_true rfl) ⟨f2848, rfl, rfl, bf2848⟩
      · have r2851 : g2847.toInt < 100 := gj_nleL hc2849 (show Int32.toInt 100 = 100 by decide)
        have bg2847' : gB g2847 0 99 := ⟨by omega, by omega⟩
        refine G_aload_n 2 d_cJ7_fill_53178_10 rfl ?_
        refine G_iload_n 1 d_cJ7_fill_53178_11 rfl ?_
        refine G_iload_n 3 d_cJ7_fill_53178_12 rfl ?_
        refine G_iastN 0 0 d_cJ7_fill_53178_13 rfl rfl (gB_in bg2847' (by decide) (by decide)) (fun f2852 hf2852 => ?_)
        refine G_ws (ws' := [(q2816, .inl (I .int, 100, .inl f2852))]) (cs' := 0) (sl' := 0) rfl rfl rfl ?_
        obtain ⟨z2853, hz2853⟩ : ∃ z : Int32, z = g2847 + Int32.ofInt 1 := ⟨_, rfl⟩
        have ez2853 : z2853.toInt = g2847.toInt + 1 := gI_inc hz2853 (by decide) bg2847' (by decide) (by decide)
        have bz2853 : gB z2853 1 100 := ⟨by omega, by omega⟩
        refine G_iinc (L' := [(2, .int z2853), (3, .int 100), (0, .ref q2816), (1, .int p2817)]) z2853 1 d_cJ7_fill_53178_14 rfl hz2853.symm (Nat.le_of_ble_eq_true rfl) rfl ?_
        refine G_goto 5 d_cJ7_fill_53178_17 (by decide +kernel) ?_
        refine G_lv (L' := [(3, .int 100), (2, .int z2853), (0, .ref q2816), (1, .int p2817)]) [1, 0, 2, 3] rfl ?_
        exact ih5_2848 z2853 f2852 (gB_w bz2853 (by decide) (by decide)) (gF_any f2852) (by have qa0 : Int32.toInt 100 = 100 := (by decide); omega)
  exact hlp5_2848 (((101 : Int) - 0).toNat + 1) 0 f2818 (gB_w (gBl (show Int32.toInt 0 = 0 by decide)) (by decide) (by decide)) (gF_any f2818) (Nat.lt_succ_self _)
abbrev ky_2876_Machine_halt : gKey := (cX7_halt, 2, yX7_halt.cls, (some FieldType.int), [], yX7_halt.name, fun _ _ => True)
abbrev po_2876_Machine_halt (I : FieldType → ClassId) (q2859 : Nat) (q2860 : Nat) (q2861 : Nat) (q2862 : Nat) (q2863 : Nat) (p2864 : Int32) (p2865 : Int32) (p2866 : Int32) (p2867 : Int32) (p2868 : Int32) (p2869 : Int32) (p2870 : Int32) (p2871 : Int32) (f2872 : Nat → Int32) (f2873 : Nat → Int32) (f2874 : Nat → Int32) (f2875 : Nat → Int32) : Option Value → va_W → Prop := fun r w => ∃ (o2877 : Int32), r = some (.int (-1)) ∧ w = [(q2859, .inr (12, [.ref q2860, .ref q2861, .ref q2862, .ref q2863, .int p2865, .int p2866, .int p2867, .int p2868, .int p2869, .int p2870, .int o2877])), (q2860, .inl (I .int, 2048, .inl f2872)), (q2861, .inl (I .int, 100, .inl f2873)), (q2862, .inl (I .int, 100, .inl f2874)), (q2863, .inl (I .int, 512, .inl f2875))] ∧ gB o2877 (-2147483648) 2147483647
set_option maxRecDepth 100000 in
set_option maxHeartbeats 4000000 in
theorem ct_2876_Machine_halt (l : Launch) (hl0 : l.stackTraces = false) (D : va_G) (I : FieldType → ClassId) (q2859 : Nat) (q2860 : Nat) (q2861 : Nat) (q2862 : Nat) (q2863 : Nat) (p2864 : Int32) (p2865 : Int32) (p2866 : Int32) (p2867 : Int32) (p2868 : Int32) (p2869 : Int32) (p2870 : Int32) (p2871 : Int32) (f2872 : Nat → Int32) (f2873 : Nat → Int32) (f2874 : Nat → Int32) (f2875 : Nat → Int32) (bp2865 : gB p2865 0 2048) (bp2866 : gB p2866 0 39) (bp2868 : gB p2868 0 512) (bp2870 : gB p2870 0 2048) : Ct (gV D I) l yX7_halt cX7_halt 2 (some FieldType.int) 0 0 0 0 [.ref q2859, .int p2864] [(q2859, .inr (12, [.ref q2860, .ref q2861, .ref q2862, .ref q2863, .int p2865, .int p2866, .int p2867, .int p2868, .int p2869, .int p2870, .int p2871])), (q2860, .inl (I .int, 2048, .inl f2872)), (q2861, .inl (I .int, 100, .inl f2873)), (q2862, .inl (I .int, 100, .inl f2874)), (q2863, .inl (I .int, 512, .inl f2875))] (po_2876_Machine_halt I q2859 q2860 q2861 q2862 q2863 p2864 p2865 p2866 p2867 p2868 p2869 p2870 p2871 f2872 f2873 f2874 f2875) gN := by
  refine Ct_of hl0 (by decide) (Nat.le_of_ble_eq_true rfl) ?_
  have bp2864 := gB_any p2864
  have bp2867 := gB_any p2867
  have bp2869 := gB_any p2869
  have bp2871 := gB_any p2871
  refine G_aload_n 0 d_cX7_halt_0 rfl ?_
  refine G_iload_n 1 d_cX7_halt_1 rfl ?_
  refine G_putf (ws' := [(q2859, .inr (12, [.ref q2860, .ref q2861, .ref q2862, .ref q2863, .int p2865, .int p2866, .int p2867, .int p2868, .int p2869, .int p2870, .int p2864])), (q2860, .inl (I .int, 2048, .inl f2872)), (q2861, .inl (I .int, 100, .inl f2873)), (q2862, .inl (I .int, 100, .inl f2874)), (q2863, .inl (I .int, 512, .inl f2875))]) 0 10 d_cX7_halt_2 rfl (gk_X7 D I) (Nat.le_of_ble_eq_true rfl) w_2_170 rfl rfl rfl (Nat.le_of_ble_eq_true rfl) rfl ?_
  refine G_iconst (-1) d_cX7_halt_5 (by decide +kernel) ?_
  exact G_iret d_cX7_halt_6 rfl (Nat.le_of_ble_eq_true rfl) (Nat.le_of_ble_eq_true rfl) ⟨p2864, rfl, rfl, bp2864⟩
abbrev ky_2941_Machine_valueOf : gKey := (cX7_valueOf, 3, yX7_valueOf.cls, (some FieldType.int), [], yX7_valueOf.name, fun _ _ => True)
abbrev po_2941_Machine_valueOf (I : FieldType → ClassId) (q2923 : Nat) (q2924 : Nat) (q2925 : Nat) (q2926 : Nat) (q2927 : Nat) (p2928 : Int32) (p2929 : Int32) (p2930 : Int32) (p2931 : Int32) (p2932 : Int32) (p2933 : Int32) (p2934 : Int32) (p2935 : Int32) (p2936 : Int32) (f2937 : Nat → Int32) (f2938 : Nat → Int32) (f2939 : Nat → Int32) (f2940 : Nat → Int32) : Option Value → va_W → Prop := fun r w => (r = some (.int p2929) ∧ w = [(q2923, .inr (12, [.ref q2924, .ref q2925, .ref q2926, .ref q2927, .int p2930, .int p2931, .int p2932, .int p2933, .int p2934, .int p2935, .int p2936])), (q2924, .inl (I .int, 2048, .inl f2937)), (q2925, .inl (I .int, 100, .inl f2938)), (q2926, .inl (I .int, 100, .inl f2939)), (q2927, .inl (I .int, 512, .inl f2940))] ∧ p2928.toInt < 0) ∨ (r = some (.int p2929) ∧ w = [(q2923, .inr (12, [.ref q2924, .ref q2925, .ref q2926, .ref q2927, .int p2930, .int p2931, .int p2932, .int p2933, .int p2934, .int p2935, .int p2936])), (q2924, .inl (I .int, 2048, .inl f2937)), (q2925, .inl (I .int, 100, .inl f2938)), (q2926, .inl (I .int, 100, .inl f2939)), (q2927, .inl (I .int, 512, .inl f2940))] ∧ 0 ≤ p2928.toInt ∧ 100 ≤ p2928.toInt) ∨ (∃ (z2948 : Int32), r = some (.int z2948) ∧ w = [(q2923, .inr (12, [.ref q2924, .ref q2925, .ref q2926, .ref q2927, .int p2930, .int p2931, .int p2932, .int p2933, .int p2934, .int p2935, .int p2936])), (q2924, .inl (I .int, 2048, .inl f2937)), (q2925, .inl (I .int, 100, .inl f2938)), (q2926, .inl (I .int, 100, .inl f2939)), (q2927, .inl (I .int, 512, .inl f2940))] ∧ 0 ≤ p2928.toInt ∧ p2928.toInt < 100 ∧ z2948 = f2938 p2928.toNatClampNeg ∧ gB z2948 (-2147483648) 2147483647)
set_option maxRecDepth 100000 in
set_option maxHeartbeats 4000000 in
theorem ct_2941_Machine_valueOf (l : Launch) (hl0 : l.stackTraces = false) (D : va_G) (I : FieldType → ClassId) (q2923 : Nat) (q2924 : Nat) (q2925 : Nat) (q2926 : Nat) (q2927 : Nat) (p2928 : Int32) (p2929 : Int32) (p2930 : Int32) (p2931 : Int32) (p2932 : Int32) (p2933 : Int32) (p2934 : Int32) (p2935 : Int32) (p2936 : Int32) (f2937 : Nat → Int32) (f2938 : Nat → Int32) (f2939 : Nat → Int32) (f2940 : Nat → Int32) (bp2930 : gB p2930 0 2048) (bp2931 : gB p2931 0 39) (bp2933 : gB p2933 0 512) (bp2935 : gB p2935 0 2048) : Ct (gV D I) l yX7_valueOf cX7_valueOf 3 (some FieldType.int) 0 0 0 0 [.ref q2923, .int p2928, .int p2929] [(q2923, .inr (12, [.ref q2924, .ref q2925, .ref q2926, .ref q2927, .int p2930, .int p2931, .int p2932, .int p2933, .int p2934, .int p2935, .int p2936])), (q2924, .inl (I .int, 2048, .inl f2937)), (q2925, .inl (I .int, 100, .inl f2938)), (q2926, .inl (I .int, 100, .inl f2939)), (q2927, .inl (I .int, 512, .inl f2940))] (po_2941_Machine_valueOf I q2923 q2924 q2925 q2926 q2927 p2928 p2929 p2930 p2931 p2932 p2933 p2934 p2935 p2936 f2937 f2938 f2939 f2940) gN := by
  refine Ct_of hl0 (by decide) (Nat.le_of_ble_eq_true rfl) ?_
  have bp2928 := gB_any p2928
  have bp2929 := gB_any p2929
  have bp2932 := gB_any p2932
  have bp2934 := gB_any p2934
  have bp2936 := gB_any p2936
  refine G_iload_n 1 d_cX7_valueOf_0 rfl ?_
  refine G_if_lt 19 d_cX7_valueOf_1 (by decide +kernel) (fun hc2942 => ?_) (fun hc2942 => ?_)
  · have r2943 : p2928.toInt < 0 := gj_lt hc2942 (show Int32.toInt 0 = 0 by decide)
    have bp2928' : gB p2928 (-2147483648) (-1) := ⟨by omega, by omega⟩
    refine G_iload_n 2 d_cX7_valueOf_19 rfl ?_
    exact G_iret d_cX7_valueOf_20 rfl (Nat.le_of_ble_eq_true rfl) (Nat.le_of_ble_eq_true rfl) (Or.inl ⟨rfl, rfl, r2943⟩)
  · have r2944 : 0 ≤ p2928.toInt := gj_nlt hc2942 (show Int32.toInt 0 = 0 by decide)
    have bp2928' : gB p2928 0 2147483647 := ⟨by omega, by omega⟩
    refine G_iload_n 1 d_cX7_valueOf_4 rfl ?_
    refine G_bipush 100 d_cX7_valueOf_5 (by decide +kernel) ?_
    refine G_icmp_ge 19 d_cX7_valueOf_7 (by decide +kernel) (fun hc2945 => ?_) (fun hc2945 => ?_)
    · have r2946 : 100 ≤ p2928.toInt := gj_leL hc2945 (show Int32.toInt 100 = 100 by decide)
      have bp2928'' : gB p2928 100 2147483647 := ⟨by omega, by omega⟩
      refine G_iload_n 2 d_cX7_valueOf_19 rfl ?_
      exact G_iret d_cX7_valueOf_20 rfl (Nat.le_of_ble_eq_true rfl) (Nat.le_of_ble_eq_true rfl) (Or.inr (Or.inl ⟨rfl, rfl, r2944, r2946⟩))
    · have r2947 : p2928.toInt < 100 := gj_nleL hc2945 (show Int32.toInt 100 = 100 by decide)
      have bp2928'' : gB p2928 0 99 := ⟨by omega, by omega⟩
      refine G_aload_n 0 d_cX7_valueOf_10 rfl ?_
      refine G_getf 0 1 d_cX7_valueOf_11 rfl (gk_X7 D I) (Nat.le_of_ble_eq_true rfl) w_2_161 rfl ?_
      refine G_iload_n 1 d_cX7_valueOf_14 rfl ?_
      refine G_iald 2 0 d_cX7_valueOf_15 rfl rfl (gB_in bp2928'' (by decide) (by decide)) (G_nam fun z2948 hz2948 => ?_)
      have bz2948 : gB z2948 (-2147483648) 2147483647 := gB_any z2948
      refine G_goto 20 d_cX7_valueOf_16 (by decide +kernel) ?_
      exact G_iret d_cX7_valueOf_20 rfl (Nat.le_of_ble_eq_true rfl) (Nat.le_of_ble_eq_true rfl) (Or.inr (Or.inr (⟨z2948, rfl, rfl, r2944, r2947, hz2948, bz2948⟩)))
abbrev ky_2962_Machine_put : gKey := (cX7_put, 3, yX7_put.cls, none, [], yX7_put.name, fun _ _ => True)
abbrev po_2962_Machine_put (I : FieldType → ClassId) (q2958 : Nat) (p2959 : Int32) (p2960 : Int32) (f2961 : Nat → Int32) : Option Value → va_W → Prop := fun r w => ∃ (f2970 : Nat → Int32), r = none ∧ w = [(q2958, .inl (I .int, 100, .inl f2970))] ∧ gF f2970 (-2147483648) 2147483647
set_option maxRecDepth 100000 in
set_option maxHeartbeats 4000000 in
theorem ct_2962_Machine_put (l : Launch) (hl0 : l.stackTraces = false) (D : va_G) (I : FieldType → ClassId) (q2958 : Nat) (p2959 : Int32) (p2960 : Int32) (f2961 : Nat → Int32)  : Ct (gV D I) l yX7_put cX7_put 3 none 0 0 0 0 [.ref q2958, .int p2959, .int p2960] [(q2958, .inl (I .int, 100, .inl f2961))] (po_2962_Machine_put I q2958 p2959 p2960 f2961) gN := by
  refine Ct_of hl0 (by decide) (Nat.le_of_ble_eq_true rfl) ?_
  have bp2959 := gB_any p2959
  have bp2960 := gB_any p2960
  refine G_iload_n 1 d_cX7_put_0 rfl ?_
  refine G_if_lt 14 d_cX7_put_1 (by decide +kernel) (fun hc2963 => ?_) (fun hc2963 => ?_)
  · have r2964 : p2959.toInt < 0 := gj_lt hc2963 (show Int32.toInt 0 = 0 by decide)
    have bp2959' : gB p2959 (-2147483648) (-1) := ⟨by omega, by omega⟩
    exact G_vret d_cX7_put_14 rfl (Nat.le_of_ble_eq_true rfl) (Nat.le_of_ble_eq_true rfl) ⟨f2961, rfl, rfl, (gF_any f2961)⟩
  · have r2965 : 0 ≤ p2959.toInt := gj_nlt hc2963 (show Int32.toInt 0 = 0 by decide)
    have bp2959' : gB p2959 0 2147483647 := ⟨by omega, by omega⟩
    refine G_iload_n 1 d_cX7_put_4 rfl ?_
    refine G_aload_n 0 d_cX7_put_5 rfl ?_
    refine G_alen 100 0 0 d_cX7_put_6 rfl rfl rfl ?_
    refine G_icmp_ge 14 d_cX7_put_7 (by decide +kernel) (fun hc2966 => ?_) (fun hc2966 => ?_)
    · have r2967 : 100 ≤ p2959.toInt := gj_leL hc2966 (show Int32.toInt 100 = 100 by decide)
      have bp2959'' : gB p2959 100 2147483647 := ⟨by omega, by omega⟩
      exact G_vret d_cX7_put_14 rfl (Nat.le_of_ble_eq_true rfl) (Nat.le_of_ble_eq_true rfl) ⟨f2961, rfl, rfl, (gF_any f2961)⟩
    · have r2968 : p2959.toInt < 100 := gj_nleL hc2966 (show Int32.toInt 100 = 100 by decide)
      have bp2959'' : gB p2959 0 99 := ⟨by omega, by omega⟩
      refine G_aload_n 0 d_cX7_put_10 rfl ?_
      refine G_iload_n 1 d_cX7_put_11 rfl ?_
      refine G_iload_n 2 d_cX7_put_12 rfl ?_
      refine G_iastN 0 0 d_cX7_put_13 rfl rfl (gB_in bp2959'' (by decide) (by decide)) (fun f2969 hf2969 => ?_)
      refine G_ws (ws' := [(q2958, .inl (I .int, 100, .inl f2969))]) (cs' := 0) (sl' := 0) rfl rfl rfl ?_
      exact G_vret d_cX7_put_14 rfl (Nat.le_of_ble_eq_true rfl) (Nat.le_of_ble_eq_true rfl) ⟨f2969, rfl, rfl, (gF_any f2969)⟩
abbrev ky_2991_Machine_takeNext : gKey := (cX7_takeNext, 1, yX7_takeNext.cls, (some FieldType.int), [], yX7_takeNext.name, fun _ _ => True)
abbrev po_2991_Machine_takeNext (I : FieldType → ClassId) (q2975 : Nat) (q2976 : Nat) (q2977 : Nat) (q2978 : Nat) (q2979 : Nat) (p2980 : Int32) (p2981 : Int32) (p2982 : Int32) (p2983 : Int32) (p2984 : Int32) (p2985 : Int32) (p2986 : Int32) (f2987 : Nat → Int32) (f2988 : Nat → Int32) (f2989 : Nat → Int32) (f2990 : Nat → Int32) : Option Value → va_W → Prop := fun r w => ∃ (o2999 : Int32) (o2998 : Int32), r = some (.int o2999) ∧ w = [(q2975, .inr (12, [.ref q2976, .ref q2977, .ref q2978, .ref q2979, .int p2980, .int p2981, .int p2982, .int p2983, .int p2984, .int o2998, .int p2986])), (q2976, .inl (I .int, 2048, .inl f2987)), (q2977, .inl (I .int, 100, .inl f2988)), (q2978, .inl (I .int, 100, .inl f2989)), (q2979, .inl (I .int, 512, .inl f2990))] ∧ gB o2999 (-2147483648) 2147483647 ∧ gB o2998 0 2048
set_option maxRecDepth 100000 in
set_option maxHeartbeats 4000000 in
theorem ct_2991_Machine_takeNext (l : Launch) (hl0 : l.stackTraces = false) (D : va_G) (I : FieldType → ClassId) (q2975 : Nat) (q2976 : Nat) (q2977 : Nat) (q2978 : Nat) (q2979 : Nat) (p2980 : Int32) (p2981 : Int32) (p2982 : Int32) (p2983 : Int32) (p2984 : Int32) (p2985 : Int32) (p2986 : Int32) (f2987 : Nat → Int32) (f2988 : Nat → Int32) (f2989 : Nat → Int32) (f2990 : Nat → Int32) (bp2980 : gB p2980 0 2048) (bp2981 : gB p2981 0 39) (bp2983 : gB p2983 0 512) (bp2985 : gB p2985 0 2048) : Ct (gV D I) l yX7_takeNext cX7_takeNext 1 (some FieldType.int) 0 0 0 0 [.ref q2975] [(q2975, .inr (12, [.ref q2976, .ref q2977, .ref q2978, .ref q2979, .int p2980, .int p2981, .int p2982, .int p2983, .int p2984, .int p2985, .int p2986])), (q2976, .inl (I .int, 2048, .inl f2987)), (q2977, .inl (I .int, 100, .inl f2988)), (q2978, .inl (I .int, 100, .inl f2989)), (q2979, .inl (I .int, 512, .inl f2990))] (po_2991_Machine_takeNext I q2975 q2976 q2977 q2978 q2979 p2980 p2981 p2982 p2983 p2984 p2985 p2986 f2987 f2988 f2989 f2990) gN := by
  refine Ct_of hl0 (by decide) (Nat.le_of_ble_eq_true rfl) ?_
  have bp2982 := gB_any p2982
  have bp2984 := gB_any p2984
  have bp2986 := gB_any p2986
  refine G_aload_n 0 d_cX7_takeNext_0 rfl ?_
  refine G_getf 0 9 d_cX7_takeNext_1 rfl (gk_X7 D I) (Nat.le_of_ble_eq_true rfl) w_2_169 rfl ?_
  refine G_aload_n 0 d_cX7_takeNext_4 rfl ?_
  refine G_getf 0 4 d_cX7_takeNext_5 rfl (gk_X7 D I) (Nat.le_of_ble_eq_true rfl) w_2_164 rfl ?_
  refine G_icmp_lt 13 d_cX7_takeNext_8 (by decide +kernel) (fun hc2992 => ?_) (fun hc2992 => ?_)
  · have r2993 : p2985.toInt < p2980.toInt := gC_lt hc2992
    have bp2985' : gB p2985 0 2047 := ⟨by omega, by omega⟩
    have bp2980' : gB p2980 1 2048 := ⟨by omega, by omega⟩
    refine G_aload_n 0 d_cX7_takeNext_13 rfl ?_
    refine G_dup d_cX7_takeNext_14 rfl ?_
    refine G_getf 0 9 d_cX7_takeNext_15 rfl (gk_X7 D I) (Nat.le_of_ble_eq_true rfl) w_2_169 rfl ?_
    refine G_iconst 1 d_cX7_takeNext_18 (by decide +kernel) ?_
    refine G_iadd d_cX7_takeNext_19 (G_nam fun z2994 hz2994 => ?_)
    have ez2994 : z2994.toInt = p2985.toInt + 1 := by rw [gI_add hz2994 bp2985' (gBl (show Int32.toInt 1 = 1 by decide)) (by decide) (by decide), show Int32.toInt 1 = 1 from by decide]
    have bz2994 : gB z2994 1 2048 := gB_add (gI_add hz2994 bp2985' (gBl (show Int32.toInt 1 = 1 by decide)) (by decide) (by decide)) bp2985' (gBl (show Int32.toInt 1 = 1 by decide)) (by decide) (by decide)
    refine G_putf (ws' := [(q2975, .inr (12, [.ref q2976, .ref q2977, .ref q2978, .ref q2979, .int p2980, .int p2981, .int p2982, .int p2983, .int p2984, .int z2994, .int p2986])), (q2976, .inl (I .int, 2048, .inl f2987)), (q2977, .inl (I .int, 100, .inl f2988)), (q2978, .inl (I .int, 100, .inl f2989)), (q2979, .inl (I .int, 512, .inl f2990))]) 0 9 d_cX7_takeNext_20 rfl (gk_X7 D I) (Nat.le_of_ble_eq_true rfl) w_2_169 rfl rfl rfl (Nat.le_of_ble_eq_true rfl) rfl ?_
    refine G_aload_n 0 d_cX7_takeNext_23 rfl ?_
    refine G_getf 0 0 d_cX7_takeNext_24 rfl (gk_X7 D I) (Nat.le_of_ble_eq_true rfl) w_2_160 rfl ?_
    refine G_aload_n 0 d_cX7_takeNext_27 rfl ?_
    refine G_getf 0 9 d_cX7_takeNext_28 rfl (gk_X7 D I) (Nat.le_of_ble_eq_true rfl) w_2_169 rfl ?_
    refine G_iconst 1 d_cX7_takeNext_31 (by decide +kernel) ?_
    refine G_isub d_cX7_takeNext_32 (G_nam fun z2995 hz2995 => ?_)
    have ez2995 : z2995.toInt = z2994.toInt - 1 := by rw [gI_sub hz2995 bz2994 (gBl (show Int32.toInt 1 = 1 by decide)) (by decide) (by decide), show Int32.toInt 1 = 1 from by decide]
    have bz2995 : gB z2995 0 2047 := gB_sub (gI_sub hz2995 bz2994 (gBl (show Int32.toInt 1 = 1 by decide)) (by decide) (by decide)) bz2994 (gBl (show Int32.toInt 1 = 1 by decide)) (by decide) (by decide)
    refine G_iald 1 0 d_cX7_takeNext_33 rfl rfl (gB_in bz2995 (by decide) (by decide)) (G_nam fun z2996 hz2996 => ?_)
    have bz2996 : gB z2996 (-2147483648) 2147483647 := gB_any z2996
    exact G_iret d_cX7_takeNext_34 rfl (Nat.le_of_ble_eq_true rfl) (Nat.le_of_ble_eq_true rfl) ⟨z2996, z2994, rfl, rfl, bz2996, (gB_w bz2994 (by decide) (by decide))⟩
  · have r2997 : p2980.toInt ≤ p2985.toInt := gC_nlt hc2992
    refine G_iconst 0 d_cX7_takeNext_11 (by decide +kernel) ?_
    exact G_iret d_cX7_takeNext_12 rfl (Nat.le_of_ble_eq_true rfl) (Nat.le_of_ble_eq_true rfl) ⟨0, p2985, rfl, rfl, (gB_w (gBl (show Int32.toInt 0 = 0 by decide)) (by decide) (by decide)), bp2985⟩
abbrev ky_3022_Machine_addShow : gKey := (cX7_addShow, 2, yX7_addShow.cls, (some FieldType.boolean), [], yX7_addShow.name, fun _ _ => True)
abbrev po_3022_Machine_addShow (I : FieldType → ClassId) (q3005 : Nat) (q3006 : Nat) (q3007 : Nat) (q3008 : Nat) (q3009 : Nat) (p3010 : Int32) (p3011 : Int32) (p3012 : Int32) (p3013 : Int32) (p3014 : Int32) (p3015 : Int32) (p3016 : Int32) (p3017 : Int32) (f3018 : Nat → Int32) (f3019 : Nat → Int32) (f3020 : Nat → Int32) (f3021 : Nat → Int32) : Option Value → va_W → Prop := fun r w => ∃ (o3030 : Int32) (o3028 : Int32) (f3029 : Nat → Int32), r = some (.int o3030) ∧ w = [(q3005, .inr (12, [.ref q3006, .ref q3007, .ref q3008, .ref q3009, .int p3011, .int p3012, .int p3013, .int o3028, .int p3015, .int p3016, .int p3017])), (q3006, .inl (I .int, 2048, .inl f3018)), (q3007, .inl (I .int, 100, .inl f3019)), (q3008, .inl (I .int, 100, .inl f3020)), (q3009, .inl (I .int, 512, .inl f3029))] ∧ gB o3030 0 1 ∧ gB o3028 1 512 ∧ gF f3029 (-2147483648) 2147483647
set_option maxRecDepth 100000 in
set_option maxHeartbeats 4000000 in
theorem ct_3022_Machine_addShow (l : Launch) (hl0 : l.stackTraces = false) (D : va_G) (I : FieldType → ClassId) (q3005 : Nat) (q3006 : Nat) (q3007 : Nat) (q3008 : Nat) (q3009 : Nat) (p3010 : Int32) (p3011 : Int32) (p3012 : Int32) (p3013 : Int32) (p3014 : Int32) (p3015 : Int32) (p3016 : Int32) (p3017 : Int32) (f3018 : Nat → Int32) (f3019 : Nat → Int32) (f3020 : Nat → Int32) (f3021 : Nat → Int32) (bp3011 : gB p3011 0 2048) (bp3012 : gB p3012 0 39) (bp3014 : gB p3014 0 512) (bp3016 : gB p3016 0 2048) : Ct (gV D I) l yX7_addShow cX7_addShow 2 (some FieldType.boolean) 0 0 0 0 [.ref q3005, .int p3010] [(q3005, .inr (12, [.ref q3006, .ref q3007, .ref q3008, .ref q3009, .int p3011, .int p3012, .int p3013, .int p3014, .int p3015, .int p3016, .int p3017])), (q3006, .inl (I .int, 2048, .inl f3018)), (q3007, .inl (I .int, 100, .inl f3019)), (q3008, .inl (I .int, 100, .inl f3020)), (q3009, .inl (I .int, 512, .inl f3021))] (po_3022_Machine_addShow I q3005 q3006 q3007 q3008 q3009 p3010 p3011 p3012 p3013 p3014 p3015 p3016 p3017 f3018 f3019 f3020 f3021) gN := by
  refine Ct_of hl0 (by decide) (Nat.le_of_ble_eq_true rfl) ?_
  have bp3010 := gB_any p3010
  have bp3013 := gB_any p3013
  have bp3015 := gB_any p3015
  have bp3017 := gB_any p3017
  refine G_aload_n 0 d_cX7_addShow_0 rfl ?_
  refine G_getf 0 7 d_cX7_addShow_1 rfl (gk_X7 D I) (Nat.le_of_ble_eq_true rfl) w_2_167 rfl ?_
  refine G_sipush 512 d_cX7_addShow_4 (by decide +kernel) ?_
  refine G_icmp_lt 12 d_cX7_addShow_7 (by decide +kernel) (fun hc3023 => ?_) (fun hc3023 => ?_)
  · have r3024 : p3014.toInt < 512 := gj_lt hc3023 (show Int32.toInt 512 = 512 by decide)
    have bp3014' : gB p3014 0 511 := ⟨by omega, by omega⟩
    refine G_aload_n 0 d_cX7_addShow_12 rfl ?_
    refine G_getf 0 3 d_cX7_addShow_13 rfl (gk_X7 D I) (Nat.le_of_ble_eq_true rfl) w_2_163 rfl ?_
    refine G_aload_n 0 d_cX7_addShow_16 rfl ?_
    refine G_getf 0 7 d_cX7_addShow_17 rfl (gk_X7 D I) (Nat.le_of_ble_eq_true rfl) w_2_167 rfl ?_
    refine G_iload_n 1 d_cX7_addShow_20 rfl ?_
    refine G_iastN 4 0 d_cX7_addShow_21 rfl rfl (gB_in bp3014' (by decide) (by decide)) (fun f3025 hf3025 => ?_)
    refine G_ws (ws' := [(q3005, .inr (12, [.ref q3006, .ref q3007, .ref q3008, .ref q3009, .int p3011, .int p3012, .int p3013, .int p3014, .int p3015, .int p3016, .int p3017])), (q3006, .inl (I .int, 2048, .inl f3018)), (q3007, .inl (I .int, 100, .inl f3019)), (q3008, .inl (I .int, 100, .inl f3020)), (q3009, .inl (I .int, 512, .inl f3025))]) (cs' := 0) (sl' := 0) rfl rfl rfl ?_
    refine G_aload_n 0 d_cX7_addShow_22 rfl ?_
    refine G_dup d_cX7_addShow_23 rfl ?_
    refine G_getf 0 7 d_cX7_addShow_24 rfl (gk_X7 D I) (Nat.le_of_ble_eq_true rfl) w_2_167 rfl ?_
    refine G_iconst 1 d_cX7_addShow_27 (by decide +kernel) ?_
    refine G_iadd d_cX7_addShow_28 (G_nam fun z3026 hz3026 => ?_)
    have ez3026 : z3026.toInt = p3014.toInt + 1 := by rw [gI_add hz3026 bp3014' (gBl (show Int32.toInt 1 = 1 by decide)) (by decide) (by decide), show Int32.toInt 1 = 1 from by decide]
    have bz3026 : gB z3026 1 512 := gB_add (gI_add hz3026 bp3014' (gBl (show Int32.toInt 1 = 1 by decide)) (by decide) (by decide)) bp3014' (gBl (show Int32.toInt 1 = 1 by decide)) (by decide) (by decide)
    refine G_putf (ws' := [(q3005, .inr (12, [.ref q3006, .ref q3007, .ref q3008, .ref q3009, .int p3011, .int p3012, .int p3013, .int z3026, .int p3015, .int p3016, .int p3017])), (q3006, .inl (I .int, 2048, .inl f3018)), (q3007, .inl (I .int, 100, .inl f3019)), (q3008, .inl (I .int, 100, .inl f3020)), (q3009, .inl (I .int, 512, .inl f3025))]) 0 7 d_cX7_addShow_29 rfl (gk_X7 D I) (Nat.le_of_ble_eq_true rfl) w_2_167 rfl rfl rfl (Nat.le_of_ble_eq_true rfl) rfl ?_
    refine G_iconst 1 d_cX7_addShow_32 (by decide +kernel) ?_
    exact G_zret FieldType.boolean d_cX7_addShow_33 rfl rfl (Nat.le_of_ble_eq_true rfl) (Nat.le_of_ble_eq_true rfl) ⟨1, z3026, f3025, rfl, rfl, (gB_w (gBl (show Int32.toInt 1 = 1 by decide)) (by decide) (by decide)), bz3026, (gF_any f3025)⟩
  · have r3027 : 512 ≤ p3014.toInt := gj_nlt hc3023 (show Int32.toInt 512 = 512 by decide)
    have bp3014' : gB p3014 512 512 := ⟨by omega, by omega⟩
    refine G_iconst 0 d_cX7_addShow_10 (by decide +kernel) ?_
    exact G_zret FieldType.boolean d_cX7_addShow_11 rfl rfl (Nat.le_of_ble_eq_true rfl) (Nat.le_of_ble_eq_true rfl) ⟨0, p3014, f3021, rfl, rfl, (gB_w (gBl (show Int32.toInt 0 = 0 by decide)) (by decide) (by decide)), (gB_w bp3014' (by decide) (by decide)), (gF_any f3021)⟩
abbrev ky_3059_Machine_slotAt : gKey := (cX7_slotAt, 2, yX7_slotAt.cls, (some FieldType.int), [], yX7_slotAt.name, fun _ _ => True)
abbrev po_3059_Machine_slotAt (I : FieldType → ClassId) (q3042 : Nat) (q3043 : Nat) (q3044 : Nat) (q3045 : Nat) (q3046 : Nat) (p3047 : Int32) (p3048 : Int32) (p3049 : Int32) (p3050 : Int32) (p3051 : Int32) (p3052 : Int32) (p3053 : Int32) (p3054 : Int32) (f3055 : Nat → Int32) (f3056 : Nat → Int32) (f3057 : Nat → Int32) (f3058 : Nat → Int32) : Option Value → va_W → Prop := fun r w => (r = some (.int 0) ∧ w = [(q3042, .inr (12, [.ref q3043, .ref q3044, .ref q3045, .ref q3046, .int p3048, .int p3049, .int p3050, .int p3051, .int p3052, .int p3053, .int p3054])), (q3043, .inl (I .int, 2048, .inl f3055)), (q3044, .inl (I .int, 100, .inl f3056)), (q3045, .inl (I .int, 100, .inl f3057)), (q3046, .inl (I .int, 512, .inl f3058))] ∧ p3047.toInt < 0) ∨ (r = some (.int 0) ∧ w = [(q3042, .inr (12, [.ref q3043, .ref q3044, .ref q3045, .ref q3046, .int p3048, .int p3049, .int p3050, .int p3051, .int p3052, .int p3053, .int p3054])), (q3043, .inl (I .int, 2048, .inl f3055)), (q3044, .inl (I .int, 100, .inl f3056)), (q3045, .inl (I .int, 100, .inl f3057)), (q3046, .inl (I .int, 512, .inl f3058))] ∧ 0 ≤ p3047.toInt ∧ 100 ≤ p3047.toInt) ∨ (∃ (z3066 : Int32), r = some (.int z3066) ∧ w = [(q3042, .inr (12, [.ref q3043, .ref q3044, .ref q3045, .ref q3046, .int p3048, .int p3049, .int p3050, .int p3051, .int p3052, .int p3053, .int p3054])), (q3043, .inl (I .int, 2048, .inl f3055)), (q3044, .inl (I .int, 100, .inl f3056)), (q3045, .inl (I .int, 100, .inl f3057)), (q3046, .inl (I .int, 512, .inl f3058))] ∧ 0 ≤ p3047.toInt ∧ p3047.toInt < 100 ∧ z3066 = f3057 p3047.toNatClampNeg ∧ gB z3066 (-2147483648) 2147483647)
set_option maxRecDepth 100000 in
set_option maxHeartbeats 4000000 in
theorem ct_3059_Machine_slotAt (l : Launch) (hl0 : l.stackTraces = false) (D : va_G) (I : FieldType → ClassId) (q3042 : Nat) (q3043 : Nat) (q3044 : Nat) (q3045 : Nat) (q3046 : Nat) (p3047 : Int32) (p3048 : Int32) (p3049 : Int32) (p3050 : Int32) (p3051 : Int32) (p3052 : Int32) (p3053 : Int32) (p3054 : Int32) (f3055 : Nat → Int32) (f3056 : Nat → Int32) (f3057 : Nat → Int32) (f3058 : Nat → Int32) (bp3048 : gB p3048 0 2048) (bp3049 : gB p3049 0 39) (bp3051 : gB p3051 0 512) (bp3053 : gB p3053 0 2048) : Ct (gV D I) l yX7_slotAt cX7_slotAt 2 (some FieldType.int) 0 0 0 0 [.ref q3042, .int p3047] [(q3042, .inr (12, [.ref q3043, .ref q3044, .ref q3045, .ref q3046, .int p3048, .int p3049, .int p3050, .int p3051, .int p3052, .int p3053, .int p3054])), (q3043, .inl (I .int, 2048, .inl f3055)), (q3044, .inl (I .int, 100, .inl f3056)), (q3045, .inl (I .int, 100, .inl f3057)), (q3046, .inl (I .int, 512, .inl f3058))] (po_3059_Machine_slotAt I q3042 q3043 q3044 q3045 q3046 p3047 p3048 p3049 p3050 p3051 p3052 p3053 p3054 f3055 f3056 f3057 f3058) gN := by
  refine Ct_of hl0 (by decide) (Nat.le_of_ble_eq_true rfl) ?_
  have bp3047 := gB_any p3047
  have bp3050 := gB_any p3050
  have bp3052 := gB_any p3052
  have bp3054 := gB_any p3054
  refine G_iload_n 1 d_cX7_slotAt_0 rfl ?_
  refine G_if_lt 19 d_cX7_slotAt_1 (by decide +kernel) (fun hc3060 => ?_) (fun hc3060 => ?_)
  · have r3061 : p3047.toInt < 0 := gj_lt hc3060 (show Int32.toInt 0 = 0 by decide)
    have bp3047' : gB p3047 (-2147483648) (-1) := ⟨by omega, by omega⟩
    refine G_iconst 0 d_cX7_slotAt_19 (by decide +kernel) ?_
    exact G_iret d_cX7_slotAt_20 rfl (Nat.le_of_ble_eq_true rfl) (Nat.le_of_ble_eq_true rfl) (Or.inl ⟨rfl, rfl, r3061⟩)
  · have r3062 : 0 ≤ p3047.toInt := gj_nlt hc3060 (show Int32.toInt 0 = 0 by decide)
    have bp3047' : gB p3047 0 2147483647 := ⟨by omega, by omega⟩
    refine G_iload_n 1 d_cX7_slotAt_4 rfl ?_
    refine G_bipush 100 d_cX7_slotAt_5 (by decide +kernel) ?_
    refine G_icmp_ge 19 d_cX7_slotAt_7 (by decide +kernel) (fun hc3063 => ?_) (fun hc3063 => ?_)
    · have r3064 : 100 ≤ p3047.toInt := gj_leL hc3063 (show Int32.toInt 100 = 100 by decide)
      have bp3047'' : gB p3047 100 2147483647 := ⟨by omega, by omega⟩
      refine G_iconst 0 d_cX7_slotAt_19 (by decide +kernel) ?_
      exact G_iret d_cX7_slotAt_20 rfl (Nat.le_of_ble_eq_true rfl) (Nat.le_of_ble_eq_true rfl) (Or.inr (Or.inl ⟨rfl, rfl, r3062, r3064⟩))
    · have r3065 : p3047.toInt < 100 := gj_nleL hc3063 (show Int32.toInt 100 = 100 by decide)
      have bp3047'' : gB p3047 0 99 := ⟨by omega, by omega⟩
      refine G_aload_n 0 d_cX7_slotAt_10 rfl ?_
      refine G_getf 0 2 d_cX7_slotAt_11 rfl (gk_X7 D I) (Nat.le_of_ble_eq_true rfl) w_2_162 rfl ?_
      refine G_iload_n 1 d_cX7_slotAt_14 rfl ?_
      refine G_iald 3 0 d_cX7_slotAt_15 rfl rfl (gB_in bp3047'' (by decide) (by decide)) (G_nam fun z3066 hz3066 => ?_)
      have bz3066 : gB z3066 (-2147483648) 2147483647 := gB_any z3066
      refine G_goto 20 d_cX7_slotAt_16 (by decide +kernel) ?_
      exact G_iret d_cX7_slotAt_20 rfl (Nat.le_of_ble_eq_true rfl) (Nat.le_of_ble_eq_true rfl) (Or.inr (Or.inr (⟨z3066, rfl, rfl, r3062, r3065, hz3066, bz3066⟩)))
