theorem d_cJ7_fill_53178_0 : decode cJ7_fill_53178 0 = .ok (.iconst 0, 1) := by decide +kernel
theorem d_cJ7_fill_53178_1 : decode cJ7_fill_53178 1 = .ok (.istore_n 2, 1) := by decide +kernel
theorem d_cJ7_fill_53178_2 : decode cJ7_fill_53178 2 = .ok (.aload_n 0, 1) := by decide +kernel
theorem d_cJ7_fill_53178_3 : decode cJ7_fill_53178 3 = .ok (.arraylength, 1) := by decide +kernel
theorem d_cJ7_fill_53178_4 : decode cJ7_fill_53178 4 = .ok (.istore_n 3, 1) := by decide +kernel
theorem d_cJ7_fill_53178_5 : decode cJ7_fill_53178 5 = .ok (.iload_n 2, 1) := by decide +kernel
theorem d_cJ7_fill_53178_6 : decode cJ7_fill_53178 6 = .ok (.iload_n 3, 1) := by decide +kernel
theorem d_cJ7_fill_53178_7 : decode cJ7_fill_53178 7 = .ok (.if_icmp .ge 13, 3) := by decide +kernel
theorem d_cJ7_fill_53178_20 : decode cJ7_fill_53178 20 = .ok (.return_, 1) := by decide +kernel
theorem d_cJ7_fill_53178_10 : decode cJ7_fill_53178 10 = .ok (.aload_n 0, 1) := by decide +kernel
theorem d_cJ7_fill_53178_11 : decode cJ7_fill_53178 11 = .ok (.iload_n 2, 1) := by decide +kernel
theorem d_cJ7_fill_53178_12 : decode cJ7_fill_53178 12 = .ok (.iload_n 1, 1) := by decide +kernel
theorem d_cJ7_fill_53178_13 : decode cJ7_fill_53178 13 = .ok (.iastore, 1) := by decide +kernel
theorem d_cJ7_fill_53178_14 : decode cJ7_fill_53178 14 = .ok (.iinc 2 1, 3) := by decide +kernel
theorem d_cJ7_fill_53178_17 : decode cJ7_fill_53178 17 = .ok (.goto (-12), 3) := by decide +kernel
theorem d_cX6_walk_0 : decode cX6_walk 0 = .ok (.lload_n 1, 1) := by decide +kernel
theorem d_cX6_walk_1 : decode cX6_walk 1 = .ok (.lload_n 3, 1) := by decide +kernel
theorem d_cX6_walk_2 : decode cX6_walk 2 = .ok (.ldc2_w 62, 3) := by decide +kernel
theorem w_4_7 : (Jvm.Cond.constantLong "SpillForge$Loops" (62 : Nat) (-1 : Int64)) ∈ gw := gw_4 7 rfl rfl
theorem d_cX6_walk_5 : decode cX6_walk 5 = .ok (.lxor, 1) := by decide +kernel
theorem d_cX6_walk_6 : decode cX6_walk 6 = .ok (.land, 1) := by decide +kernel
theorem d_cX6_walk_7 : decode cX6_walk 7 = .ok (.lstore 5, 2) := by decide +kernel
theorem d_cX6_walk_9 : decode cX6_walk 9 = .ok (.iconst 0, 1) := by decide +kernel
theorem d_cX6_walk_10 : decode cX6_walk 10 = .ok (.istore 7, 2) := by decide +kernel
theorem d_cX6_walk_12 : decode cX6_walk 12 = .ok (.iload 7, 2) := by decide +kernel
theorem d_cX6_walk_14 : decode cX6_walk 14 = .ok (.aload_n 0, 1) := by decide +kernel
theorem d_cX6_walk_15 : decode cX6_walk 15 = .ok (.arraylength, 1) := by decide +kernel
theorem d_cX6_walk_16 : decode cX6_walk 16 = .ok (.if_icmp .ge 71, 3) := by decide +kernel
theorem d_cX6_walk_87 : decode cX6_walk 87 = .ok (.lload 5, 2) := by decide +kernel
theorem d_cX6_walk_89 : decode cX6_walk 89 = .ok (.lreturn, 1) := by decide +kernel
theorem d_cX6_walk_19 : decode cX6_walk 19 = .ok (.lload 5, 2) := by decide +kernel
theorem d_cX6_walk_21 : decode cX6_walk 21 = .ok (.lstore 8, 2) := by decide +kernel
theorem d_cX6_walk_23 : decode cX6_walk 23 = .ok (.iconst 0, 1) := by decide +kernel
theorem d_cX6_walk_24 : decode cX6_walk 24 = .ok (.istore 10, 2) := by decide +kernel
theorem d_cX6_walk_26 : decode cX6_walk 26 = .ok (.iload 10, 2) := by decide +kernel
theorem d_cX6_walk_28 : decode cX6_walk 28 = .ok (.aload_n 0, 1) := by decide +kernel
theorem d_cX6_walk_29 : decode cX6_walk 29 = .ok (.arraylength, 1) := by decide +kernel
theorem d_cX6_walk_30 : decode cX6_walk 30 = .ok (.if_icmp .ge 36, 3) := by decide +kernel
theorem d_cX6_walk_66 : decode cX6_walk 66 = .ok (.lload 8, 2) := by decide +kernel
theorem d_cX6_walk_68 : decode cX6_walk 68 = .ok (.lload 5, 2) := by decide +kernel
theorem d_cX6_walk_70 : decode cX6_walk 70 = .ok (.lcmp, 1) := by decide +kernel
theorem d_cX6_walk_71 : decode cX6_walk 71 = .ok (.ifCond .ne 6, 3) := by decide +kernel
theorem d_cX6_walk_77 : decode cX6_walk 77 = .ok (.lload 8, 2) := by decide +kernel
theorem d_cX6_walk_79 : decode cX6_walk 79 = .ok (.lstore 5, 2) := by decide +kernel
theorem d_cX6_walk_81 : decode cX6_walk 81 = .ok (.iinc 7 1, 3) := by decide +kernel
theorem d_cX6_walk_84 : decode cX6_walk 84 = .ok (.goto (-72), 3) := by decide +kernel
theorem d_cX6_walk_74 : decode cX6_walk 74 = .ok (.lload 5, 2) := by decide +kernel
theorem d_cX6_walk_76 : decode cX6_walk 76 = .ok (.lreturn, 1) := by decide +kernel
theorem d_cX6_walk_33 : decode cX6_walk 33 = .ok (.lload 5, 2) := by decide +kernel
theorem d_cX6_walk_35 : decode cX6_walk 35 = .ok (.iload 10, 2) := by decide +kernel
theorem d_cX6_walk_37 : decode cX6_walk 37 = .ok (.lshr, 1) := by decide +kernel
theorem d_cX6_walk_38 : decode cX6_walk 38 = .ok (.lconst 1, 1) := by decide +kernel
theorem d_cX6_walk_39 : decode cX6_walk 39 = .ok (.land, 1) := by decide +kernel
theorem d_cX6_walk_40 : decode cX6_walk 40 = .ok (.lconst 0, 1) := by decide +kernel
theorem d_cX6_walk_41 : decode cX6_walk 41 = .ok (.lcmp, 1) := by decide +kernel
theorem d_cX6_walk_42 : decode cX6_walk 42 = .ok (.ifCond .eq 18, 3) := by decide +kernel
theorem d_cX6_walk_60 : decode cX6_walk 60 = .ok (.iinc 10 1, 3) := by decide +kernel
theorem d_cX6_walk_63 : decode cX6_walk 63 = .ok (.goto (-37), 3) := by decide +kernel
theorem d_cX6_walk_45 : decode cX6_walk 45 = .ok (.lload 8, 2) := by decide +kernel
theorem d_cX6_walk_47 : decode cX6_walk 47 = .ok (.aload_n 0, 1) := by decide +kernel
theorem d_cX6_walk_48 : decode cX6_walk 48 = .ok (.iload 10, 2) := by decide +kernel
theorem d_cX6_walk_50 : decode cX6_walk 50 = .ok (.laload, 1) := by decide +kernel
theorem d_cX6_walk_51 : decode cX6_walk 51 = .ok (.lload_n 3, 1) := by decide +kernel
theorem d_cX6_walk_52 : decode cX6_walk 52 = .ok (.ldc2_w 62, 3) := by decide +kernel
theorem d_cX6_walk_55 : decode cX6_walk 55 = .ok (.lxor, 1) := by decide +kernel
theorem d_cX6_walk_56 : decode cX6_walk 56 = .ok (.land, 1) := by decide +kernel
theorem d_cX6_walk_57 : decode cX6_walk 57 = .ok (.lor, 1) := by decide +kernel
theorem d_cX6_walk_58 : decode cX6_walk 58 = .ok (.lstore 8, 2) := by decide +kernel
theorem d_cX6_link_0 : decode cX6_link 0 = .ok (.iload_n 2, 1) := by decide +kernel
theorem d_cX6_link_1 : decode cX6_link 1 = .ok (.ifCond .lt 33, 3) := by decide +kernel
theorem d_cX6_link_34 : decode cX6_link 34 = .ok (.return_, 1) := by decide +kernel
theorem d_cX6_link_4 : decode cX6_link 4 = .ok (.iload_n 2, 1) := by decide +kernel
theorem d_cX6_link_5 : decode cX6_link 5 = .ok (.bipush 40, 2) := by decide +kernel
theorem d_cX6_link_7 : decode cX6_link 7 = .ok (.if_icmp .ge 27, 3) := by decide +kernel
theorem d_cX6_link_10 : decode cX6_link 10 = .ok (.aload_n 0, 1) := by decide +kernel
theorem d_cX6_link_11 : decode cX6_link 11 = .ok (.getfield 9, 3) := by decide +kernel
theorem w_1_233 : (Jvm.Cond.fieldLink "SpillForge$Loops" (9 : Nat) "SpillForge$Loops" "goals" "[J") ∈ gw := gw_1 233 rfl rfl
theorem d_cX6_link_14 : decode cX6_link 14 = .ok (.iload_n 1, 1) := by decide +kernel
theorem d_cX6_link_15 : decode cX6_link 15 = .ok (.dup2, 1) := by decide +kernel
theorem d_cX6_link_16 : decode cX6_link 16 = .ok (.laload, 1) := by decide +kernel
theorem d_cX6_link_17 : decode cX6_link 17 = .ok (.lconst 1, 1) := by decide +kernel
theorem d_cX6_link_18 : decode cX6_link 18 = .ok (.iload_n 2, 1) := by decide +kernel
theorem d_cX6_link_19 : decode cX6_link 19 = .ok (.lshl, 1) := by decide +kernel
theorem d_cX6_link_20 : decode cX6_link 20 = .ok (.lor, 1) := by decide +kernel
theorem d_cX6_link_21 : decode cX6_link 21 = .ok (.lastore, 1) := by decide +kernel
theorem d_cX6_link_22 : decode cX6_link 22 = .ok (.aload_n 0, 1) := by decide +kernel
theorem d_cX6_link_23 : decode cX6_link 23 = .ok (.getfield 15, 3) := by decide +kernel
theorem w_1_234 : (Jvm.Cond.fieldLink "SpillForge$Loops" (15 : Nat) "SpillForge$Loops" "sources" "[J") ∈ gw := gw_1 234 rfl rfl
theorem d_cX6_link_26 : decode cX6_link 26 = .ok (.iload_n 2, 1) := by decide +kernel
theorem d_cX6_link_27 : decode cX6_link 27 = .ok (.dup2, 1) := by decide +kernel
theorem d_cX6_link_28 : decode cX6_link 28 = .ok (.laload, 1) := by decide +kernel
theorem d_cX6_link_29 : decode cX6_link 29 = .ok (.lconst 1, 1) := by decide +kernel
theorem d_cX6_link_30 : decode cX6_link 30 = .ok (.iload_n 1, 1) := by decide +kernel
theorem d_cX6_link_31 : decode cX6_link 31 = .ok (.lshl, 1) := by decide +kernel
theorem d_cX6_link_32 : decode cX6_link 32 = .ok (.lor, 1) := by decide +kernel
theorem d_cX6_link_33 : decode cX6_link 33 = .ok (.lastore, 1) := by decide +kernel
theorem d_cX6_loopOf_0 : decode cX6_loopOf 0 = .ok (.lconst 1, 1) := by decide +kernel
theorem d_cX6_loopOf_1 : decode cX6_loopOf 1 = .ok (.iload_n 1, 1) := by decide +kernel
theorem d_cX6_loopOf_2 : decode cX6_loopOf 2 = .ok (.lshl, 1) := by decide +kernel
theorem d_cX6_loopOf_3 : decode cX6_loopOf 3 = .ok (.lstore 4, 2) := by decide +kernel
theorem d_cX6_loopOf_5 : decode cX6_loopOf 5 = .ok (.aload_n 0, 1) := by decide +kernel
theorem d_cX6_loopOf_6 : decode cX6_loopOf 6 = .ok (.getfield 9, 3) := by decide +kernel
theorem d_cX6_loopOf_9 : decode cX6_loopOf 9 = .ok (.lconst 1, 1) := by decide +kernel
theorem d_cX6_loopOf_10 : decode cX6_loopOf 10 = .ok (.lload 4, 2) := by decide +kernel
theorem d_cX6_loopOf_12 : decode cX6_loopOf 12 = .ok (.invokestatic 50, 3) := by decide +kernel
theorem w_4_4 : (Jvm.Cond.methodLink "SpillForge$Loops" (50 : Nat) ({ cls := "SpillForge$Loops", name := "walk", desc := "([JJJ)J" } : Jvm.MethodName)) ∈ gw := gw_4 4 rfl rfl
theorem w_1_7 : (Jvm.Cond.initialized "SpillForge$Loops") ∈ gw := gw_1 7 rfl rfl
theorem w_4_6 : (Jvm.Cond.code ({ cls := "SpillForge$Loops", name := "walk", desc := "([JJJ)J" } : Jvm.MethodName) prog_8_method_8_code (11 : Nat) (Option.some Jvm.ClassFile.FieldType.long)) ∈ gw := gw_4 6 rfl rfl
theorem w_4_5 : (Jvm.Cond.static ({ cls := "SpillForge$Loops", name := "walk", desc := "([JJJ)J" } : Jvm.MethodName)) ∈ gw := gw_4 5 rfl rfl
theorem d_cX6_loopOf_15 : decode cX6_loopOf 15 = .ok (.lstore 6, 2) := by decide +kernel
theorem d_cX6_loopOf_17 : decode cX6_loopOf 17 = .ok (.aload_n 0, 1) := by decide +kernel
theorem d_cX6_loopOf_18 : decode cX6_loopOf 18 = .ok (.getfield 15, 3) := by decide +kernel
theorem d_cX6_loopOf_21 : decode cX6_loopOf 21 = .ok (.iload_n 1, 1) := by decide +kernel
theorem d_cX6_loopOf_22 : decode cX6_loopOf 22 = .ok (.laload, 1) := by decide +kernel
theorem d_cX6_loopOf_23 : decode cX6_loopOf 23 = .ok (.lload_n 2, 1) := by decide +kernel
theorem d_cX6_loopOf_24 : decode cX6_loopOf 24 = .ok (.land, 1) := by decide +kernel
theorem d_cX6_loopOf_25 : decode cX6_loopOf 25 = .ok (.lload 6, 2) := by decide +kernel
theorem d_cX6_loopOf_27 : decode cX6_loopOf 27 = .ok (.ldc2_w 62, 3) := by decide +kernel
theorem d_cX6_loopOf_30 : decode cX6_loopOf 30 = .ok (.lxor, 1) := by decide +kernel
theorem d_cX6_loopOf_31 : decode cX6_loopOf 31 = .ok (.land, 1) := by decide +kernel
theorem d_cX6_loopOf_32 : decode cX6_loopOf 32 = .ok (.lstore 8, 2) := by decide +kernel
theorem d_cX6_loopOf_34 : decode cX6_loopOf 34 = .ok (.lload 8, 2) := by decide +kernel
theorem d_cX6_loopOf_36 : decode cX6_loopOf 36 = .ok (.lconst 0, 1) := by decide +kernel
theorem d_cX6_loopOf_37 : decode cX6_loopOf 37 = .ok (.lcmp, 1) := by decide +kernel
theorem d_cX6_loopOf_38 : decode cX6_loopOf 38 = .ok (.ifCond .ne 7, 3) := by decide +kernel
theorem d_cX6_loopOf_45 : decode cX6_loopOf 45 = .ok (.lload 4, 2) := by decide +kernel
theorem d_cX6_loopOf_47 : decode cX6_loopOf 47 = .ok (.aload_n 0, 1) := by decide +kernel
theorem d_cX6_loopOf_48 : decode cX6_loopOf 48 = .ok (.getfield 15, 3) := by decide +kernel
theorem d_cX6_loopOf_51 : decode cX6_loopOf 51 = .ok (.lload 8, 2) := by decide +kernel
theorem d_cX6_loopOf_53 : decode cX6_loopOf 53 = .ok (.lload 4, 2) := by decide +kernel
theorem d_cX6_loopOf_55 : decode cX6_loopOf 55 = .ok (.lload_n 2, 1) := by decide +kernel
theorem d_cX6_loopOf_56 : decode cX6_loopOf 56 = .ok (.ldc2_w 62, 3) := by decide +kernel
theorem d_cX6_loopOf_59 : decode cX6_loopOf 59 = .ok (.lxor, 1) := by decide +kernel
theorem d_cX6_loopOf_60 : decode cX6_loopOf 60 = .ok (.lor, 1) := by decide +kernel
theorem d_cX6_loopOf_61 : decode cX6_loopOf 61 = .ok (.invokestatic 50, 3) := by decide +kernel
theorem d_cX6_loopOf_64 : decode cX6_loopOf 64 = .ok (.lor, 1) := by decide +kernel
theorem d_cX6_loopOf_65 : decode cX6_loopOf 65 = .ok (.lreturn, 1) := by decide +kernel
theorem d_cX6_loopOf_41 : decode cX6_loopOf 41 = .ok (.lconst 0, 1) := by decide +kernel
theorem d_cX6_loopOf_42 : decode cX6_loopOf 42 = .ok (.goto 23, 3) := by decide +kernel
theorem d_cX6_deepen_0 : decode cX6_deepen 0 = .ok (.iconst 0, 1) := by decide +kernel
theorem d_cX6_deepen_1 : decode cX6_deepen 1 = .ok (.istore_n 3, 1) := by decide +kernel
theorem d_cX6_deepen_2 : decode cX6_deepen 2 = .ok (.iload_n 3, 1) := by decide +kernel
theorem d_cX6_deepen_3 : decode cX6_deepen 3 = .ok (.bipush 40, 2) := by decide +kernel
theorem d_cX6_deepen_5 : decode cX6_deepen 5 = .ok (.if_icmp .ge 39, 3) := by decide +kernel
theorem d_cX6_deepen_44 : decode cX6_deepen 44 = .ok (.return_, 1) := by decide +kernel
theorem d_cX6_deepen_8 : decode cX6_deepen 8 = .ok (.lload_n 1, 1) := by decide +kernel
theorem d_cX6_deepen_9 : decode cX6_deepen 9 = .ok (.iload_n 3, 1) := by decide +kernel
theorem d_cX6_deepen_10 : decode cX6_deepen 10 = .ok (.lshr, 1) := by decide +kernel
theorem d_cX6_deepen_11 : decode cX6_deepen 11 = .ok (.lconst 1, 1) := by decide +kernel
theorem d_cX6_deepen_12 : decode cX6_deepen 12 = .ok (.land, 1) := by decide +kernel
theorem d_cX6_deepen_13 : decode cX6_deepen 13 = .ok (.lconst 0, 1) := by decide +kernel
theorem d_cX6_deepen_14 : decode cX6_deepen 14 = .ok (.lcmp, 1) := by decide +kernel
theorem d_cX6_deepen_15 : decode cX6_deepen 15 = .ok (.ifCond .eq 23, 3) := by decide +kernel
theorem d_cX6_deepen_38 : decode cX6_deepen 38 = .ok (.iinc 3 1, 3) := by decide +kernel
theorem d_cX6_deepen_41 : decode cX6_deepen 41 = .ok (.goto (-39), 3) := by decide +kernel
theorem d_cX6_deepen_18 : decode cX6_deepen 18 = .ok (.aload_n 0, 1) := by decide +kernel
theorem d_cX6_deepen_19 : decode cX6_deepen 19 = .ok (.getfield 18, 3) := by decide +kernel
theorem w_1_235 : (Jvm.Cond.fieldLink "SpillForge$Loops" (18 : Nat) "SpillForge$Loops" "depth" "[I") ∈ gw := gw_1 235 rfl rfl
theorem d_cX6_deepen_22 : decode cX6_deepen 22 = .ok (.iload_n 3, 1) := by decide +kernel
theorem d_cX6_deepen_23 : decode cX6_deepen 23 = .ok (.iaload, 1) := by decide +kernel
theorem d_cX6_deepen_24 : decode cX6_deepen 24 = .ok (.iconst 4, 1) := by decide +kernel
theorem d_cX6_deepen_25 : decode cX6_deepen 25 = .ok (.if_icmp .ge 13, 3) := by decide +kernel
theorem d_cX6_deepen_28 : decode cX6_deepen 28 = .ok (.aload_n 0, 1) := by decide +kernel
theorem d_cX6_deepen_29 : decode cX6_deepen 29 = .ok (.getfield 18, 3) := by decide +kernel
theorem d_cX6_deepen_32 : decode cX6_deepen 32 = .ok (.iload_n 3, 1) := by decide +kernel
theorem d_cX6_deepen_33 : decode cX6_deepen 33 = .ok (.dup2, 1) := by decide +kernel
theorem d_cX6_deepen_34 : decode cX6_deepen 34 = .ok (.iaload, 1) := by decide +kernel
theorem d_cX6_deepen_35 : decode cX6_deepen 35 = .ok (.iconst 1, 1) := by decide +kernel
theorem d_cX6_deepen_36 : decode cX6_deepen 36 = .ok (.iadd, 1) := by decide +kernel
theorem d_cX6_deepen_37 : decode cX6_deepen 37 = .ok (.iastore, 1) := by decide +kernel
theorem d_cX6_find_0 : decode cX6_find 0 = .ok (.aload_n 0, 1) := by decide +kernel
theorem d_cX6_find_1 : decode cX6_find 1 = .ok (.getfield 9, 3) := by decide +kernel
theorem d_cX6_find_4 : decode cX6_find 4 = .ok (.lconst 0, 1) := by decide +kernel
theorem d_cX6_find_5 : decode cX6_find 5 = .ok (.invokestatic 25, 3) := by decide +kernel
theorem w_3_234 : (Jvm.Cond.methodLink "SpillForge$Loops" (25 : Nat) ({ cls := "java/util/Arrays", name := "fill", desc := "([JJ)V" } : Jvm.MethodName)) ∈ gw := gw_3 234 rfl rfl
theorem w_1_30 : (Jvm.Cond.initialized "java/util/Arrays") ∈ gw := gw_1 30 rfl rfl
theorem w_3_236 : (Jvm.Cond.code ({ cls := "java/util/Arrays", name := "fill", desc := "([JJ)V" } : Jvm.MethodName) prog_44_method_101_code (5 : Nat) (Option.none : Option Jvm.ClassFile.FieldType)) ∈ gw := gw_3 236 rfl rfl
theorem w_3_235 : (Jvm.Cond.static ({ cls := "java/util/Arrays", name := "fill", desc := "([JJ)V" } : Jvm.MethodName)) ∈ gw := gw_3 235 rfl rfl
theorem d_cX6_find_8 : decode cX6_find 8 = .ok (.aload_n 0, 1) := by decide +kernel
theorem d_cX6_find_9 : decode cX6_find 9 = .ok (.getfield 15, 3) := by decide +kernel
theorem d_cX6_find_12 : decode cX6_find 12 = .ok (.lconst 0, 1) := by decide +kernel
theorem d_cX6_find_13 : decode cX6_find 13 = .ok (.invokestatic 25, 3) := by decide +kernel
theorem d_cX6_find_16 : decode cX6_find 16 = .ok (.aload_n 0, 1) := by decide +kernel
theorem d_cX6_find_17 : decode cX6_find 17 = .ok (.getfield 18, 3) := by decide +kernel
theorem d_cX6_find_20 : decode cX6_find 20 = .ok (.iconst 0, 1) := by decide +kernel
theorem d_cX6_find_21 : decode cX6_find 21 = .ok (.invokestatic 31, 3) := by decide +kernel
theorem w_3_237 : (Jvm.Cond.methodLink "SpillForge$Loops" (31 : Nat) ({ cls := "java/util/Arrays", name := "fill", desc := "([II)V" } : Jvm.MethodName)) ∈ gw := gw_3 237 rfl rfl
theorem w_3_239 : (Jvm.Cond.code ({ cls := "java/util/Arrays", name := "fill", desc := "([II)V" } : Jvm.MethodName) prog_44_method_103_code (4 : Nat) (Option.none : Option Jvm.ClassFile.FieldType)) ∈ gw := gw_3 239 rfl rfl
theorem w_3_238 : (Jvm.Cond.static ({ cls := "java/util/Arrays", name := "fill", desc := "([II)V" } : Jvm.MethodName)) ∈ gw := gw_3 238 rfl rfl
theorem d_cX6_find_24 : decode cX6_find 24 = .ok (.iconst 0, 1) := by decide +kernel
theorem d_cX6_find_25 : decode cX6_find 25 = .ok (.istore_n 2, 1) := by decide +kernel
theorem d_cX6_find_26 : decode cX6_find 26 = .ok (.iload_n 2, 1) := by decide +kernel
theorem d_cX6_find_27 : decode cX6_find 27 = .ok (.aload_n 1, 1) := by decide +kernel
theorem d_cX6_find_28 : decode cX6_find 28 = .ok (.getfield 34, 3) := by decide +kernel
theorem d_cX6_find_31 : decode cX6_find 31 = .ok (.if_icmp .ge 31, 3) := by decide +kernel
theorem d_cX6_find_62 : decode cX6_find 62 = .ok (.aload_n 0, 1) := by decide +kernel
theorem d_cX6_find_63 : decode cX6_find 63 = .ok (.getfield 9, 3) := by decide +kernel
theorem d_cX6_find_66 : decode cX6_find 66 = .ok (.lconst 1, 1) := by decide +kernel
theorem d_cX6_find_67 : decode cX6_find 67 = .ok (.lconst 0, 1) := by decide +kernel
theorem d_cX6_find_68 : decode cX6_find 68 = .ok (.invokestatic 50, 3) := by decide +kernel
theorem d_cX6_find_71 : decode cX6_find 71 = .ok (.lstore_n 2, 1) := by decide +kernel
theorem d_cX6_find_72 : decode cX6_find 72 = .ok (.iconst 0, 1) := by decide +kernel
theorem d_cX6_find_73 : decode cX6_find 73 = .ok (.istore 4, 2) := by decide +kernel
theorem d_cX6_find_75 : decode cX6_find 75 = .ok (.iload 4, 2) := by decide +kernel
theorem d_cX6_find_77 : decode cX6_find 77 = .ok (.aload_n 1, 1) := by decide +kernel
theorem d_cX6_find_78 : decode cX6_find 78 = .ok (.getfield 34, 3) := by decide +kernel
theorem d_cX6_find_81 : decode cX6_find 81 = .ok (.if_icmp .ge 20, 3) := by decide +kernel
theorem d_cX6_find_101 : decode cX6_find 101 = .ok (.return_, 1) := by decide +kernel
theorem d_cX6_find_84 : decode cX6_find 84 = .ok (.aload_n 0, 1) := by decide +kernel
theorem d_cX6_find_85 : decode cX6_find 85 = .ok (.aload_n 0, 1) := by decide +kernel
theorem d_cX6_find_86 : decode cX6_find 86 = .ok (.iload 4, 2) := by decide +kernel
theorem d_cX6_find_88 : decode cX6_find 88 = .ok (.lload_n 2, 1) := by decide +kernel
theorem d_cX6_find_89 : decode cX6_find 89 = .ok (.invokevirtual 54, 3) := by decide +kernel
theorem w_4_8 : (Jvm.Cond.methodLink "SpillForge$Loops" (54 : Nat) ({ cls := "SpillForge$Loops", name := "loopOf", desc := "(IJ)J" } : Jvm.MethodName)) ∈ gw := gw_4 8 rfl rfl
theorem w_4_11 : (Jvm.Cond.code ({ cls := "SpillForge$Loops", name := "loopOf", desc := "(IJ)J" } : Jvm.MethodName) prog_8_method_6_code (10 : Nat) (Option.some Jvm.ClassFile.FieldType.long)) ∈ gw := gw_4 11 rfl rfl
theorem w_4_10 : (Jvm.Cond.instanceMethod ({ cls := "SpillForge$Loops", name := "loopOf", desc := "(IJ)J" } : Jvm.MethodName)) ∈ gw := gw_4 10 rfl rfl
theorem w_p_27 : Cond.selects "SpillForge$Loops" ⟨"SpillForge$Loops", "loopOf", "(IJ)J"⟩ ⟨"SpillForge$Loops", "loopOf", "(IJ)J"⟩ ∈ gw := gw_p _ 27 rfl rfl rfl
theorem d_cX6_find_92 : decode cX6_find 92 = .ok (.invokevirtual 58, 3) := by decide +kernel
theorem w_4_12 : (Jvm.Cond.methodLink "SpillForge$Loops" (58 : Nat) ({ cls := "SpillForge$Loops", name := "deepen", desc := "(J)V" } : Jvm.MethodName)) ∈ gw := gw_4 12 rfl rfl
theorem w_4_15 : (Jvm.Cond.code ({ cls := "SpillForge$Loops", name := "deepen", desc := "(J)V" } : Jvm.MethodName) prog_8_method_7_code (4 : Nat) (Option.none : Option Jvm.ClassFile.FieldType)) ∈ gw := gw_4 15 rfl rfl
theorem w_4_14 : (Jvm.Cond.instanceMethod ({ cls := "SpillForge$Loops", name := "deepen", desc := "(J)V" } : Jvm.MethodName)) ∈ gw := gw_4 14 rfl rfl
theorem w_p_28 : Cond.selects "SpillForge$Loops" ⟨"SpillForge$Loops", "deepen", "(J)V"⟩ ⟨"SpillForge$Loops", "deepen", "(J)V"⟩ ∈ gw := gw_p _ 28 rfl rfl rfl
theorem d_cX6_find_95 : decode cX6_find 95 = .ok (.iinc 4 1, 3) := by decide +kernel
theorem d_cX6_find_98 : decode cX6_find 98 = .ok (.goto (-23), 3) := by decide +kernel
theorem d_cX6_find_34 : decode cX6_find 34 = .ok (.aload_n 0, 1) := by decide +kernel
theorem d_cX6_find_35 : decode cX6_find 35 = .ok (.iload_n 2, 1) := by decide +kernel
theorem d_cX6_find_36 : decode cX6_find 36 = .ok (.aload_n 1, 1) := by decide +kernel
theorem d_cX6_find_37 : decode cX6_find 37 = .ok (.getfield 40, 3) := by decide +kernel
theorem d_cX6_find_40 : decode cX6_find 40 = .ok (.iload_n 2, 1) := by decide +kernel
theorem d_cX6_find_41 : decode cX6_find 41 = .ok (.iaload, 1) := by decide +kernel
theorem d_cX6_find_42 : decode cX6_find 42 = .ok (.invokevirtual 43, 3) := by decide +kernel
theorem w_4_0 : (Jvm.Cond.methodLink "SpillForge$Loops" (43 : Nat) ({ cls := "SpillForge$Loops", name := "link", desc := "(II)V" } : Jvm.MethodName)) ∈ gw := gw_4 0 rfl rfl
theorem w_4_3 : (Jvm.Cond.code ({ cls := "SpillForge$Loops", name := "link", desc := "(II)V" } : Jvm.MethodName) prog_8_method_5_code (3 : Nat) (Option.none : Option Jvm.ClassFile.FieldType)) ∈ gw := gw_4 3 rfl rfl
theorem w_4_2 : (Jvm.Cond.instanceMethod ({ cls := "SpillForge$Loops", name := "link", desc := "(II)V" } : Jvm.MethodName)) ∈ gw := gw_4 2 rfl rfl
theorem w_p_26 : Cond.selects "SpillForge$Loops" ⟨"SpillForge$Loops", "link", "(II)V"⟩ ⟨"SpillForge$Loops", "link", "(II)V"⟩ ∈ gw := gw_p _ 26 rfl rfl rfl
theorem d_cX6_find_45 : decode cX6_find 45 = .ok (.aload_n 0, 1) := by decide +kernel
theorem d_cX6_find_46 : decode cX6_find 46 = .ok (.iload_n 2, 1) := by decide +kernel
theorem d_cX6_find_47 : decode cX6_find 47 = .ok (.aload_n 1, 1) := by decide +kernel
theorem d_cX6_find_48 : decode cX6_find 48 = .ok (.getfield 47, 3) := by decide +kernel
theorem d_cX6_find_51 : decode cX6_find 51 = .ok (.iload_n 2, 1) := by decide +kernel
theorem d_cX6_find_52 : decode cX6_find 52 = .ok (.iaload, 1) := by decide +kernel
theorem d_cX6_find_53 : decode cX6_find 53 = .ok (.invokevirtual 43, 3) := by decide +kernel
theorem d_cX6_find_56 : decode cX6_find 56 = .ok (.iinc 2 1, 3) := by decide +kernel
theorem d_cX6_find_59 : decode cX6_find 59 = .ok (.goto (-33), 3) := by decide +kernel
theorem d_cX7_takeInput_0 : decode cX7_takeInput 0 = .ok (.aload_n 0, 1) := by decide +kernel
theorem d_cX7_takeInput_1 : decode cX7_takeInput 1 = .ok (.aload_n 1, 1) := by decide +kernel
theorem d_cX7_takeInput_2 : decode cX7_takeInput 2 = .ok (.invokevirtual 28, 3) := by decide +kernel
theorem w_4_176 : (Jvm.Cond.methodLink "SpillForge$Machine" (28 : Nat) ({ cls := "SpillForge$Tape", name := "size", desc := "()I" } : Jvm.MethodName)) ∈ gw := gw_4 176 rfl rfl
theorem d_cX7_takeInput_5 : decode cX7_takeInput 5 = .ok (.iconst 4, 1) := by decide +kernel
theorem d_cX7_takeInput_6 : decode cX7_takeInput 6 = .ok (.idiv, 1) := by decide +kernel
theorem d_cX7_takeInput_7 : decode cX7_takeInput 7 = .ok (.aload_n 0, 1) := by decide +kernel
theorem d_cX7_takeInput_8 : decode cX7_takeInput 8 = .ok (.getfield 9, 3) := by decide +kernel
theorem w_2_160 : (Jvm.Cond.fieldLink "SpillForge$Machine" (9 : Nat) "SpillForge$Machine" "given" "[I") ∈ gw := gw_2 160 rfl rfl
theorem d_cX7_takeInput_11 : decode cX7_takeInput 11 = .ok (.arraylength, 1) := by decide +kernel
theorem d_cX7_takeInput_12 : decode cX7_takeInput 12 = .ok (.invokestatic 34, 3) := by decide +kernel
theorem w_4_177 : (Jvm.Cond.methodLink "SpillForge$Machine" (34 : Nat) ({ cls := "java/lang/Math", name := "min", desc := "(II)I" } : Jvm.MethodName)) ∈ gw := gw_4 177 rfl rfl
theorem d_cX7_takeInput_15 : decode cX7_takeInput 15 = .ok (.putfield 40, 3) := by decide +kernel
theorem w_2_164 : (Jvm.Cond.fieldLink "SpillForge$Machine" (40 : Nat) "SpillForge$Machine" "givens" "I") ∈ gw := gw_2 164 rfl rfl
theorem d_cX7_takeInput_18 : decode cX7_takeInput 18 = .ok (.iconst 0, 1) := by decide +kernel
theorem d_cX7_takeInput_19 : decode cX7_takeInput 19 = .ok (.istore_n 2, 1) := by decide +kernel
theorem d_cX7_takeInput_20 : decode cX7_takeInput 20 = .ok (.iload_n 2, 1) := by decide +kernel
theorem d_cX7_takeInput_21 : decode cX7_takeInput 21 = .ok (.aload_n 0, 1) := by decide +kernel
theorem d_cX7_takeInput_22 : decode cX7_takeInput 22 = .ok (.getfield 40, 3) := by decide +kernel
theorem d_cX7_takeInput_25 : decode cX7_takeInput 25 = .ok (.if_icmp .ge 22, 3) := by decide +kernel
theorem d_cX7_takeInput_47 : decode cX7_takeInput 47 = .ok (.aload_n 0, 1) := by decide +kernel
theorem d_cX7_takeInput_48 : decode cX7_takeInput 48 = .ok (.getfield 40, 3) := by decide +kernel
theorem d_cX7_takeInput_51 : decode cX7_takeInput 51 = .ok (.ireturn, 1) := by decide +kernel
theorem d_cX7_takeInput_28 : decode cX7_takeInput 28 = .ok (.aload_n 0, 1) := by decide +kernel
theorem d_cX7_takeInput_29 : decode cX7_takeInput 29 = .ok (.getfield 9, 3) := by decide +kernel
theorem d_cX7_takeInput_32 : decode cX7_takeInput 32 = .ok (.iload_n 2, 1) := by decide +kernel
theorem d_cX7_takeInput_33 : decode cX7_takeInput 33 = .ok (.aload_n 1, 1) := by decide +kernel
theorem d_cX7_takeInput_34 : decode cX7_takeInput 34 = .ok (.iconst 4, 1) := by decide +kernel
theorem d_cX7_takeInput_35 : decode cX7_takeInput 35 = .ok (.iload_n 2, 1) := by decide +kernel
theorem d_cX7_takeInput_36 : decode cX7_takeInput 36 = .ok (.imul, 1) := by decide +kernel
theorem d_cX7_takeInput_37 : decode cX7_takeInput 37 = .ok (.invokevirtual 43, 3) := by decide +kernel
theorem w_4_178 : (Jvm.Cond.methodLink "SpillForge$Machine" (43 : Nat) ({ cls := "SpillForge$Tape", name := "intAt", desc := "(I)I" } : Jvm.MethodName)) ∈ gw := gw_4 178 rfl rfl
theorem w_4_181 : (Jvm.Cond.code ({ cls := "SpillForge$Tape", name := "intAt", desc := "(I)I" } : Jvm.MethodName) prog_12_method_7_code (4 : Nat) (Option.some Jvm.ClassFile.FieldType.int)) ∈ gw := gw_4 181 rfl rfl
theorem w_4_179 : (Jvm.Cond.instanceMethod ({ cls := "SpillForge$Tape", name := "intAt", desc := "(I)I" } : Jvm.MethodName)) ∈ gw := gw_4 179 rfl rfl
theorem w_4_180 : (Jvm.Cond.selects "SpillForge$Tape" ({ cls := "SpillForge$Tape", name := "intAt", desc := "(I)I" } : Jvm.MethodName) ({ cls := "SpillForge$Tape", name := "intAt", desc := "(I)I" } : Jvm.MethodName)) ∈ gw := gw_4 180 rfl rfl
theorem d_cX7_takeInput_40 : decode cX7_takeInput 40 = .ok (.iastore, 1) := by decide +kernel
theorem d_cX7_takeInput_41 : decode cX7_takeInput 41 = .ok (.iinc 2 1, 3) := by decide +kernel
theorem d_cX7_takeInput_44 : decode cX7_takeInput 44 = .ok (.goto (-24), 3) := by decide +kernel
theorem d_cX7_halt_0 : decode cX7_halt 0 = .ok (.aload_n 0, 1) := by decide +kernel
theorem d_cX7_halt_1 : decode cX7_halt 1 = .ok (.iload_n 1, 1) := by decide +kernel
theorem d_cX7_halt_2 : decode cX7_halt 2 = .ok (.putfield 24, 3) := by decide +kernel
theorem w_2_170 : (Jvm.Cond.fieldLink "SpillForge$Machine" (24 : Nat) "SpillForge$Machine" "ending" "I") ∈ gw := gw_2 170 rfl rfl
theorem d_cX7_halt_5 : decode cX7_halt 5 = .ok (.iconst (-1), 1) := by decide +kernel
theorem d_cX7_halt_6 : decode cX7_halt 6 = .ok (.ireturn, 1) := by decide +kernel
theorem d_cX7_valueOf_0 : decode cX7_valueOf 0 = .ok (.iload_n 1, 1) := by decide +kernel
theorem d_cX7_valueOf_1 : decode cX7_valueOf 1 = .ok (.ifCond .lt 18, 3) := by decide +kernel
theorem d_cX7_valueOf_19 : decode cX7_valueOf 19 = .ok (.iload_n 2, 1) := by decide +kernel
theorem d_cX7_valueOf_20 : decode cX7_valueOf 20 = .ok (.ireturn, 1) := by decide +kernel
theorem d_cX7_valueOf_4 : decode cX7_valueOf 4 = .ok (.iload_n 1, 1) := by decide +kernel
theorem d_cX7_valueOf_5 : decode cX7_valueOf 5 = .ok (.bipush 100, 2) := by decide +kernel
theorem d_cX7_valueOf_7 : decode cX7_valueOf 7 = .ok (.if_icmp .ge 12, 3) := by decide +kernel
theorem d_cX7_valueOf_10 : decode cX7_valueOf 10 = .ok (.aload_n 0, 1) := by decide +kernel
theorem d_cX7_valueOf_11 : decode cX7_valueOf 11 = .ok (.getfield 15, 3) := by decide +kernel
theorem w_2_161 : (Jvm.Cond.fieldLink "SpillForge$Machine" (15 : Nat) "SpillForge$Machine" "registers" "[I") ∈ gw := gw_2 161 rfl rfl
theorem d_cX7_valueOf_14 : decode cX7_valueOf 14 = .ok (.iload_n 1, 1) := by decide +kernel
theorem d_cX7_valueOf_15 : decode cX7_valueOf 15 = .ok (.iaload, 1) := by decide +kernel
theorem d_cX7_valueOf_16 : decode cX7_valueOf 16 = .ok (.goto 4, 3) := by decide +kernel
abbrev ky_1128_Arrays_fill : gKey := (cJ7_fill_53178, 4, yJ7_fill_53178.cls, none, [], yJ7_fill_53178.name, fun _ _ => True)
abbrev po_1128_Arrays_fill (I : FieldType → ClassId) (q1125 : Nat) (p1126 : Int32) (f1127 : Nat → Int32) : Option Value → va_W → Prop := fun r w => ∃ (f1164 : Nat → Int32), r = none ∧ w = [(q1125, .inl (I .int, 40, .inl f1164))] ∧ gF f1164 (-2147483648) 2147483647 ∧ tr_Arrays_fill2 p1126 f1127 f1164
set_option maxRecDepth 100000 in
set_option maxHeartbeats 4000000 in
theorem ct_1128_Arrays_fill (l : Launch) (hl0 : l.stackTraces = false) (D : va_G) (I : FieldType → ClassId) (q1125 : Nat) (p1126 : Int32) (f1127 : Nat → Int32)  : Ct (gV D I) l yJ7_fill_53178 cJ7_fill_53178 4 none 0 0 0 0 [.ref q1125, .int p1126] [(q1125, .inl (I .int, 40, .inl f1127))] (po_1128_Arrays_fill I q1125 p1126 f1127) gN := by
  refine Ct_ofF hl0 (by decide +kernel) (Nat.le_of_ble_eq_true rfl) ?_
  have bp1126 := gB_any p1126
  refine G_iconst 0 d_cJ7_fill_53178_0 (by decide +kernel) ?_
  refine G_istore_n (L' := [(2, .int 0), (0, .ref q1125), (1, .int p1126)]) d_cJ7_fill_53178_1 (Nat.le_of_ble_eq_true rfl) rfl ?_
  refine G_aload_n 1 d_cJ7_fill_53178_2 rfl ?_
  refine G_alen 40 0 0 d_cJ7_fill_53178_3 rfl rfl rfl ?_
  refine G_istore_n (L' := [(3, .int 40), (2, .int 0), (0, .ref q1125), (1, .int p1126)]) d_cJ7_fill_53178_4 (Nat.le_of_ble_eq_true rfl) rfl ?_
  have hlp5_1157 : ∀ (n5_1157 : Nat) (g1156 : Int32) (f1157 : Nat → Int32), gB g1156 0 40 → gF f1157 (-2147483648) 2147483647 → (∀ (k : Nat) (e1 : Nat → Int32), tl_Arrays_fill2_5 p1126 g1156 f1157 k e1 → tl_Arrays_fill2_5 p1126 (0 : Int32) f1127 k e1) → ((41 : Int) - g1156.toInt).toNat < n5_1157 → G (gV D I) l (gRm 0 0 0 0) (gM (gV D I) (po_1128_Arrays_fill I q1125 p1126 f1127) gN 0 0) ky_1128_Arrays_fill 5 [(3, .int 40), (2, .int g1156), (0, .ref q1125), (1, .int p1126)] [] [(q1125, .inl (I .int, 40, .inl f1157))] 0 0 := by
    intro n5_1157
    induction n5_1157 with
    | zero => intro g1156 f1157 bg1156 bf1157 kt5_1157 hm5_1157; exact absurd hm5_1157 (Nat.not_lt_zero _)
    | succ n5_1157 ih5_1157 =>
      intro g1156 f1157 bg1156 bf1157 kt5_1157 hm5_1157
      refine G_iload_n 1 d_cJ7_fill_53178_5 rfl ?_
      refine G_iload_n 0 d_cJ7_fill_53178_6 rfl ?_
      refine G_icmp_ge 20 d_cJ7_fill_53178_7 (by decide +kernel) (fun hc1158 => ?_) (fun hc1158 => ?_)
      · have r1159 : 40 ≤ g1156.toInt := gj_leL hc1158 (show Int32.toInt 40 = 40 by decide)
        have bg1156' : gB g1156 40 40 := ⟨by omega, by omega⟩
        have hx1160 : tl_Arrays_fill2_5 p1126 (0 : Int32) f1127 20 f1157 := kt5_1157 20 f1157 (fun R c1 c2 => c1 g1156 f1157 bg1156 r1159)
        exact G_vret d_cJ7_fill_53178_20 rfl (Nat.le_of_ble_eq_true rfl) (Nat.le_of_ble_eq_true rfl) ⟨f1157, rfl, rfl, bf1157, (fun R c1 => c1 f1157 hx1160)⟩
      · have r1161 : g1156.toInt < 40 := gj_nleL hc1158 (show Int32.toInt 40 = 40 by decide)
        have bg1156' : gB g1156 0 39 := ⟨by omega, by omega⟩
        refine G_aload_n 2 d_cJ7_fill_53178_10 rfl ?_
        refine G_iload_n 1 d_cJ7_fill_53178_11 rfl ?_
        refine G_iload_n 3 d_cJ7_fill_53178_12 rfl ?_
        refine G_iastN 0 0 d_cJ7_fill_53178_13 rfl rfl (gB_in bg1156' (by decide) (by decide)) (fun f1162 hf1162 => ?_)
        refine G_ws (ws' := [(q1125, .inl (I .int, 40, .inl f1162))]) (cs' := 0) (sl' := 0) rfl rfl rfl ?_
        obtain ⟨z1163, hz1163⟩ : ∃ z : Int32, z = g1156 + Int32.ofInt 1 := ⟨_, rfl⟩
        have ez1163 : z1163.toInt = g1156.toInt + 1 := gI_inc hz1163 (by decide) bg1156' (by decide) (by decide)
        have bz1163 : gB z1163 1 40 := ⟨by omega, by omega⟩
        refine G_iinc (L' := [(2, .int z1163), (3, .int 40), (0, .ref q1125), (1, .int p1126)]) z1163 1 d_cJ7_fill_53178_14 rfl hz1163.symm (Nat.le_of_ble_eq_true rfl) rfl ?_
        refine G_goto 5 d_cJ7_fill_53178_17 (by decide +kernel) ?_
        refine G_lv (L' := [(3, .int 40), (2, .int z1163), (0, .ref q1125), (1, .int p1126)]) [1, 0, 2, 3] rfl ?_
        exact ih5_1157 z1163 f1162 (gB_w bz1163 (by decide) (by decide)) (gF_any f1162) (fun k e1 ht => kt5_1157 k e1 (fun R c1 c2 => c2 g1156 f1157 f1162 z1163 k e1 bg1156 r1161 hf1162 ez1163 (ht R c1 c2))) (by have qa0 : Int32.toInt 40 = 40 := (by decide); omega)
  exact hlp5_1157 (((41 : Int) - 0).toNat + 1) 0 f1127 (gB_w (gBl (show Int32.toInt 0 = 0 by decide)) (by decide) (by decide)) (gF_any f1127) (fun k e1 ht => ht) (Nat.lt_succ_self _)
/- tl_Loops_walk_26: l10, l8; out: l8 -/
def tl_Loops_walk_26 (l5_1 : Int64) (c1 : Nat → Int64) (a2 : Int64) (s1 : Int32) (s2 : Int64) (k : Nat) (e1 : Int64) : Prop := ∀ R : (Int32) → (Int64) → Nat → (Int64) → Prop,
  (∀ (l10_2 : Int32) (l8_2 : Int64), gB l10_2 0 40 → 40 ≤ l10_2.toInt → R l10_2 l8_2 66 l8_2) →
  (∀ (l10_2 : Int32) (l8_2 : Int64) (x1 : Int64) (x2 : Int64) (x3 : Int32) (k : Nat) (e1 : Int64), gB l10_2 0 40 → l10_2.toInt < 40 → x1 = l5_1 >>> (l10_2.toInt64 &&& 63) → x2 = x1 &&& (1 : Int64) → x2 = (0 : Int64) → x3.toInt = l10_2.toInt + 1 → R x3 l8_2 k e1 → R l10_2 l8_2 k e1) →
  (∀ (l10_2 : Int32) (l8_2 : Int64) (x1 : Int64) (x2 : Int64) (x3 : Int64) (x4 : Int64) (x5 : Int64) (x6 : Int64) (x7 : Int32) (k : Nat) (e1 : Int64), gB l10_2 0 40 → l10_2.toInt < 40 → x1 = l5_1 >>> (l10_2.toInt64 &&& 63) → x2 = x1 &&& (1 : Int64) → (¬ x2 = (0 : Int64)) → x3 = c1 l10_2.toNatClampNeg → x4 = a2 ^^^ (-1 : Int64) → x5 = x3 &&& x4 → x6 = l8_2 ||| x5 → x7.toInt = l10_2.toInt + 1 → R x7 x6 k e1 → R l10_2 l8_2 k e1) →
  R s1 s2 k e1
/- tl_Loops_walk_12: l7, l5; out: l5 -/
def tl_Loops_walk_12 (c1 : Nat → Int64) (a2 : Int64) (s1 : Int32) (s2 : Int64) (k : Nat) (e1 : Int64) : Prop := ∀ R : (Int32) → (Int64) → Nat → (Int64) → Prop,
  (∀ (l7_1 : Int32) (l5_1 : Int64), gB l7_1 0 40 → 40 ≤ l7_1.toInt → R l7_1 l5_1 87 l5_1) →
  (∀ (l7_1 : Int32) (l5_1 : Int64) (x1 : Int64) (x2 : Int32) (k : Nat) (e1 : Int64), gB l7_1 0 40 → l7_1.toInt < 40 → tl_Loops_walk_26 l5_1 c1 a2 (0 : Int32) l5_1 66 x1 → (¬ x1 = l5_1) → x2.toInt = l7_1.toInt + 1 → R x2 x1 k e1 → R l7_1 l5_1 k e1) →
  (∀ (l7_1 : Int32) (l5_1 : Int64) (x1 : Int64), gB l7_1 0 40 → l7_1.toInt < 40 → tl_Loops_walk_26 l5_1 c1 a2 (0 : Int32) l5_1 66 x1 → x1 = l5_1 → R l7_1 l5_1 74 l5_1) →
  R s1 s2 k e1
/- tr_Loops_walk: result -/
def tr_Loops_walk (a1 : Int64) (a2 : Int64) (p : Nat → Int64) (o1 : Int64) : Prop := ∀ R : (Int64) → Prop,
  (∀ (x1 : Int64) (x2 : Int64) (x3 : Int64), x1 = a2 ^^^ (-1 : Int64) → x2 = a1 &&& x1 → tl_Loops_walk_12 p a2 (0 : Int32) x2 87 x3 → R x3) →
  (∀ (x1 : Int64) (x2 : Int64) (x3 : Int64), x1 = a2 ^^^ (-1 : Int64) → x2 = a1 &&& x1 → tl_Loops_walk_12 p a2 (0 : Int32) x2 74 x3 → R x3) →
  R o1
abbrev ky_1173_Loops_walk : gKey := (cX6_walk, 11, yX6_walk.cls, (some FieldType.long), [], yX6_walk.name, fun _ _ => True)
abbrev po_1173_Loops_walk (I : FieldType → ClassId) (q1169 : Nat) (pl1170 : Int64) (pl1171 : Int64) (f1172 : Nat → Int64) : Option Value → va_W → Prop := fun r w => ∃ (ol2023 : Int64), r = some (.long ol2023) ∧ w = [(q1169, .inl (I .long, 40, .inr (.inl f1172)))] ∧ tr_Loops_walk pl1170 pl1171 f1172 ol2023
set_option maxRecDepth 100000 in
set_option maxHeartbeats 4000000 in
theorem ct_1173_Loops_walk (l : Launch) (hl0 : l.stackTraces = false) (D : va_G) (I : FieldType → ClassId) (q1169 : Nat) (pl1170 : Int64) (pl1171 : Int64) (f1172 : Nat → Int64)  : Ct (gV D I) l yX6_walk cX6_walk 11 (some FieldType.long) 0 0 0 0 [.ref q1169, .long pl1170, .long pl1171] [(q1169, .inl (I .long, 40, .inr (.inl f1172)))] (po_1173_Loops_walk I q1169 pl1170 pl1171 f1172) gN := by
  refine Ct_of hl0 (by decide) (Nat.le_of_ble_eq_true rfl) ?_
  refine G_lload_n 1 d_cX6_walk_0 rfl ?_
  refine G_lload_n 2 d_cX6_walk_1 rfl ?_
  refine G_ldc2 (-1) d_cX6_walk_2 w_4_7 ?_
  refine G_lxor d_cX6_walk_5 (G_namL fun u1174 hu1174 => ?_)
  refine G_land d_cX6_walk_6 (G_namL fun u1175 hu1175 => ?_)
  refine G_lstore (L' := [(5, .long u1175), (0, .ref q1169), (1, .long pl1170), (3, .long pl1171)]) d_cX6_walk_7 (Nat.le_of_ble_eq_true rfl) rfl ?_
  refine G_iconst 0 d_cX6_walk_9 (by decide +kernel) ?_
  refine G_istore (L' := [(7, .int 0), (5, .long u1175), (0, .ref q1169), (1, .long pl1170), (3, .long pl1171)]) d_cX6_walk_10 (Nat.le_of_ble_eq_true rfl) rfl ?_
  have hlp12_1898 : ∀ (n12_1898 : Nat) (g1897 : Int32) (gl1898 : Int64), gB g1897 0 40 → (∀ (k : Nat) (e1 : Int64), tl_Loops_walk_12 f1172 pl1171 g1897 gl1898 k e1 → tl_Loops_walk_12 f1172 pl1171 (0 : Int32) u1175 k e1) → ((41 : Int) - g1897.toInt).toNat < n12_1898 → G (gV D I) l (gRm 0 0 0 0) (gM (gV D I) (po_1173_Loops_walk I q1169 pl1170 pl1171 f1172) gN 0 0) ky_1173_Loops_walk 12 [(7, .int g1897), (5, .long gl1898), (0, .ref q1169), (1, .long pl1170), (3, .long pl1171)] [] [(q1169, .inl (I .long, 40, .inr (.inl f1172)))] 0 0 := by
    intro n12_1898
    induction n12_1898 with
    | zero => intro g1897 gl1898 bg1897 kt12_1898 hm12_1898; exact absurd hm12_1898 (Nat.not_lt_zero _)
    | succ n12_1898 ih12_1898 =>
      intro g1897 gl1898 bg1897 kt12_1898 hm12_1898
      refine G_iload 0 d_cX6_walk_12 rfl ?_
      refine G_aload_n 2 d_cX6_walk_14 rfl ?_
      refine G_alen 40 0 2 d_cX6_walk_15 rfl rfl rfl ?_
      refine G_icmp_ge 87 d_cX6_walk_16 (by decide +kernel) (fun hc1899 => ?_) (fun hc1899 => ?_)
      · have r1900 : 40 ≤ g1897.toInt := gj_leL hc1899 (show Int32.toInt 40 = 40 by decide)
        have bg1897' : gB g1897 40 40 := ⟨by omega, by omega⟩
        have hx1901 : tl_Loops_walk_12 f1172 pl1171 (0 : Int32) u1175 87 gl1898 := kt12_1898 87 gl1898 (fun R c1 c2 c3 => c1 g1897 gl1898 bg1897 r1900)
        refine G_lload 1 d_cX6_walk_87 rfl ?_
        exact G_lret d_cX6_walk_89 rfl (Nat.le_of_ble_eq_true rfl) (Nat.le_of_ble_eq_true rfl) ⟨gl1898, rfl, rfl, (fun R c1 c2 => c1 u1174 u1175 gl1898 hu1174 hu1175 hx1901)⟩
      · have r1902 : g1897.toInt < 40 := gj_nleL hc1899 (show Int32.toInt 40 = 40 by decide)
        have bg1897' : gB g1897 0 39 := ⟨by omega, by omega⟩
        refine G_lload 1 d_cX6_walk_19 rfl ?_
        refine G_lstore (L' := [(8, .long gl1898), (7, .int g1897), (5, .long gl1898), (0, .ref q1169), (1, .long pl1170), (3, .long pl1171)]) d_cX6_walk_21 (Nat.le_of_ble_eq_true rfl) rfl ?_
        refine G_iconst 0 d_cX6_walk_23 (by decide +kernel) ?_
        refine G_istore (L' := [(10, .int 0), (8, .long gl1898), (7, .int g1897), (5, .long gl1898), (0, .ref q1169), (1, .long pl1170), (3, .long pl1171)]) d_cX6_walk_24 (Nat.le_of_ble_eq_true rfl) rfl ?_
        have hlp26_2000 : ∀ (n26_2000 : Nat) (g1999 : Int32) (gl2000 : Int64), gB g1999 0 40 → (∀ (k : Nat) (e1 : Int64), tl_Loops_walk_26 gl1898 f1172 pl1171 g1999 gl2000 k e1 → tl_Loops_walk_26 gl1898 f1172 pl1171 (0 : Int32) gl1898 k e1) → ((41 : Int) - g1999.toInt).toNat < n26_2000 → G (gV D I) l (gRm 0 0 0 0) (gM (gV D I) (po_1173_Loops_walk I q1169 pl1170 pl1171 f1172) gN 0 0) ky_1173_Loops_walk 26 [(10, .int g1999), (8, .long gl2000), (7, .int g1897), (5, .long gl1898), (0, .ref q1169), (1, .long pl1170), (3, .long pl1171)] [] [(q1169, .inl (I .long, 40, .inr (.inl f1172)))] 0 0 := by
          intro n26_2000
          induction n26_2000 with
          | zero => intro g1999 gl2000 bg1999 kt26_2000 hm26_2000; exact absurd hm26_2000 (Nat.not_lt_zero _)
          | succ n26_2000 ih26_2000 =>
            intro g1999 gl2000 bg1999 kt26_2000 hm26_2000
            refine G_iload 0 d_cX6_walk_26 rfl ?_
            refine G_aload_n 4 d_cX6_walk_28 rfl ?_
            refine G_alen 40 0 2 d_cX6_walk_29 rfl rfl rfl ?_
            refine G_icmp_ge 66 d_cX6_walk_30 (by decide +kernel) (fun hc2001 => ?_) (fun hc2001 => ?_)
            · have r2002 : 40 ≤ g1999.toInt := gj_leL hc2001 (show Int32.toInt 40 = 40 by decide)
              have bg1999' : gB g1999 40 40 := ⟨by omega, by omega⟩
              have hx2003 : tl_Loops_walk_26 gl1898 f1172 pl1171 (0 : Int32) gl1898 66 gl2000 := kt26_2000 66 gl2000 (fun R c1 c2 c3 => c1 g1999 gl2000 bg1999 r2002)
              refine G_lload 1 d_cX6_walk_66 rfl ?_
              refine G_lload 3 d_cX6_walk_68 rfl ?_
              refine G_lcmp d_cX6_walk_70 (G_nam fun z2004 hz2004 => ?_)
              have bz2004 : gB z2004 (-1) 1 := gB_cmp hz2004
              refine G_if_ne 77 d_cX6_walk_71 (by decide +kernel) (fun hc2005 => ?_) (fun hc2005 => ?_)
              · have r2006 : z2004.toInt ≠ 0 := gj_neq hc2005 (show Int32.toInt 0 = 0 by decide)
                have lhc2005 := gC_cmpN hz2004 hc2005
                refine G_lload 1 d_cX6_walk_77 rfl ?_
                refine G_lstore (L' := [(5, .long gl2000), (10, .int g1999), (8, .long gl2000), (7, .int g1897), (0, .ref q1169), (1, .long pl1170), (3, .long pl1171)]) d_cX6_walk_79 (Nat.le_of_ble_eq_true rfl) rfl ?_
                obtain ⟨z2007, hz2007⟩ : ∃ z : Int32, z = g1897 + Int32.ofInt 1 := ⟨_, rfl⟩
                have ez2007 : z2007.toInt = g1897.toInt + 1 := gI_inc hz2007 (by decide) bg1897' (by decide) (by decide)
                have bz2007 : gB z2007 1 40 := ⟨by omega, by omega⟩
                refine G_iinc (L' := [(7, .int z2007), (5, .long gl2000), (10, .int g1999), (8, .long gl2000), (0, .ref q1169), (1, .long pl1170), (3, .long pl1171)]) z2007 3 d_cX6_walk_81 rfl hz2007.symm (Nat.le_of_ble_eq_true rfl) rfl ?_
                refine G_goto 12 d_cX6_walk_84 (by decide +kernel) ?_
                refine G_lv (L' := [(7, .int z2007), (5, .long gl2000), (0, .ref q1169), (1, .long pl1170), (3, .long pl1171)]) [0, 1, 4, 5, 6] rfl ?_
                exact ih12_1898 z2007 gl2000 (gB_w bz2007 (by decide) (by decide)) (fun k e1 ht => kt12_1898 k e1 (fun R c1 c2 c3 => c2 g1897 gl1898 gl2000 z2007 k e1 bg1897 r1902 hx2003 lhc2005 ez2007 (ht R c1 c2 c3))) (by omega)
              · have r2008 : z2004.toInt = 0 := gj_eq hc2005 (show Int32.toInt 0 = 0 by decide)
                have bz2004' : gB z2004 0 0 := ⟨by omega, by omega⟩
                have lhc2005 := gC_cmpE hz2004 hc2005
                have hx2009 : tl_Loops_walk_12 f1172 pl1171 (0 : Int32) u1175 74 gl1898 := kt12_1898 74 gl1898 (fun R c1 c2 c3 => c3 g1897 gl1898 gl2000 bg1897 r1902 hx2003 lhc2005)
                refine G_lload 3 d_cX6_walk_74 rfl ?_
                exact G_lret d_cX6_walk_76 rfl (Nat.le_of_ble_eq_true rfl) (Nat.le_of_ble_eq_true rfl) ⟨gl1898, rfl, rfl, (fun R c1 c2 => c2 u1174 u1175 gl1898 hu1174 hu1175 hx2009)⟩
            · have r2010 : g1999.toInt < 40 := gj_nleL hc2001 (show Int32.toInt 40 = 40 by decide)
              have bg1999' : gB g1999 0 39 := ⟨by omega, by omega⟩
              refine G_lload 3 d_cX6_walk_33 rfl ?_
              refine G_iload 0 d_cX6_walk_35 rfl ?_
              refine G_lshr d_cX6_walk_37 (G_namL fun u2011 hu2011 => ?_)
              refine G_lconst 1 d_cX6_walk_38 rfl ?_
              refine G_land d_cX6_walk_39 (G_namL fun u2012 hu2012 => ?_)
              refine G_lconst 0 d_cX6_walk_40 rfl ?_
              refine G_lcmp d_cX6_walk_41 (G_nam fun z2013 hz2013 => ?_)
              have bz2013 : gB z2013 (-1) 1 := gB_cmp hz2013
              refine G_if_eq 60 d_cX6_walk_42 (by decide +kernel) (fun hc2014 => ?_) (fun hc2014 => ?_)
              · have r2015 : z2013.toInt = 0 := gj_eq hc2014 (show Int32.toInt 0 = 0 by decide)
                have bz2013' : gB z2013 0 0 := ⟨by omega, by omega⟩
                have lhc2014 := gC_cmpE hz2013 hc2014
                obtain ⟨z2016, hz2016⟩ : ∃ z : Int32, z = g1999 + Int32.ofInt 1 := ⟨_, rfl⟩
                have ez2016 : z2016.toInt = g1999.toInt + 1 := gI_inc hz2016 (by decide) bg1999' (by decide) (by decide)
                have bz2016 : gB z2016 1 40 := ⟨by omega, by omega⟩
                refine G_iinc (L' := [(10, .int z2016), (8, .long gl2000), (7, .int g1897), (5, .long gl1898), (0, .ref q1169), (1, .long pl1170), (3, .long pl1171)]) z2016 0 d_cX6_walk_60 rfl hz2016.symm (Nat.le_of_ble_eq_true rfl) rfl ?_
                refine G_goto 26 d_cX6_walk_63 (by decide +kernel) ?_
                exact ih26_2000 z2016 gl2000 (gB_w bz2016 (by decide) (by decide)) (fun k e1 ht => kt26_2000 k e1 (fun R c1 c2 c3 => c2 g1999 gl2000 u2011 u2012 z2016 k e1 bg1999 r2010 hu2011 hu2012 lhc2014 ez2016 (ht R c1 c2 c3))) (by omega)
              · have r2017 : z2013.toInt ≠ 0 := gj_neq hc2014 (show Int32.toInt 0 = 0 by decide)
                have lhc2014 := gC_cmpN hz2013 hc2014
                refine G_lload 1 d_cX6_walk_45 rfl ?_
                refine G_aload_n 4 d_cX6_walk_47 rfl ?_
                refine G_iload 0 d_cX6_walk_48 rfl ?_
                refine G_lald 0 2 d_cX6_walk_50 rfl rfl (gB_in bg1999' (by decide) (by decide)) (G_namL fun u2018 hu2018 => ?_)
                refine G_lload_n 6 d_cX6_walk_51 rfl ?_
                refine G_ldc2 (-1) d_cX6_walk_52 w_4_7 ?_
                refine G_lxor d_cX6_walk_55 (G_namL fun u2019 hu2019 => ?_)
                refine G_land d_cX6_walk_56 (G_namL fun u2020 hu2020 => ?_)
                refine G_lor d_cX6_walk_57 (G_namL fun u2021 hu2021 => ?_)
                refine G_lstore (L' := [(8, .long u2021), (10, .int g1999), (7, .int g1897), (5, .long gl1898), (0, .ref q1169), (1, .long pl1170), (3, .long pl1171)]) d_cX6_walk_58 (Nat.le_of_ble_eq_true rfl) rfl ?_
                obtain ⟨z2022, hz2022⟩ : ∃ z : Int32, z = g1999 + Int32.ofInt 1 := ⟨_, rfl⟩
                have ez2022 : z2022.toInt = g1999.toInt + 1 := gI_inc hz2022 (by decide) bg1999' (by decide) (by decide)
                have bz2022 : gB z2022 1 40 := ⟨by omega, by omega⟩
                refine G_iinc (L' := [(10, .int z2022), (8, .long u2021), (7, .int g1897), (5, .long gl1898), (0, .ref q1169), (1, .long pl1170), (3, .long pl1171)]) z2022 1 d_cX6_walk_60 rfl hz2022.symm (Nat.le_of_ble_eq_true rfl) rfl ?_
                refine G_goto 26 d_cX6_walk_63 (by decide +kernel) ?_
                exact ih26_2000 z2022 u2021 (gB_w bz2022 (by decide) (by decide)) (fun k e1 ht => kt26_2000 k e1 (fun R c1 c2 c3 => c3 g1999 gl2000 u2011 u2012 u2018 u2019 u2020 u2021 z2022 k e1 bg1999 r2010 hu2011 hu2012 lhc2014 hu2018 hu2019 hu2020 hu2021 ez2022 (ht R c1 c2 c3))) (by omega)
        exact hlp26_2000 (((41 : Int) - 0).toNat + 1) 0 gl1898 (gB_w (gBl (show Int32.toInt 0 = 0 by decide)) (by decide) (by decide)) (fun k e1 ht => ht) (Nat.lt_succ_self _)
  exact hlp12_1898 (((41 : Int) - 0).toNat + 1) 0 u1175 (gB_w (gBl (show Int32.toInt 0 = 0 by decide)) (by decide) (by decide)) (fun k e1 ht => ht) (Nat.lt_succ_self _)
/- tr_Loops_link: Loops_goals, Loops_sources -/
def tr_Loops_link (a1 : Int32) (a2 : Int32) (Loops_goals : Nat → Int64) (Loops_sources : Nat → Int64) (o1 : Nat → Int64) (o2 : Nat → Int64) : Prop := ∀ R : (Nat → Int64) → (Nat → Int64) → Prop,
  (a2.toInt < 0 → R Loops_goals Loops_sources) →
  (0 ≤ a2.toInt → 40 ≤ a2.toInt → R Loops_goals Loops_sources) →
  (∀ (x1 : Int64) (x2 : Int64) (x3 : Int64) (x4 : Nat → Int64) (x5 : Int64) (x6 : Int64) (x7 : Int64) (x8 : Nat → Int64), 0 ≤ a2.toInt → a2.toInt < 40 → x1 = Loops_goals a1.toNatClampNeg → x2 = (1 : Int64) <<< (a2.toInt64 &&& 63) → x3 = x1 ||| x2 → x4 = vp_updL Loops_goals a1.toNatClampNeg x3 → x5 = Loops_sources a2.toNatClampNeg → x6 = (1 : Int64) <<< (a1.toInt64 &&& 63) → x7 = x5 ||| x6 → x8 = vp_updL Loops_sources a2.toNatClampNeg x7 → R x4 x8) →
  R o1 o2
abbrev ky_2037_Loops_link : gKey := (cX6_link, 3, yX6_link.cls, none, [], yX6_link.name, fun _ _ => True)
abbrev po_2037_Loops_link (I : FieldType → ClassId) (q2028 : Nat) (q2029 : Nat) (q2030 : Nat) (q2031 : Nat) (p2032 : Int32) (p2033 : Int32) (f2034 : Nat → Int64) (f2035 : Nat → Int64) (f2036 : Nat → Int32) : Option Value → va_W → Prop := fun r w => ∃ (f2052 : Nat → Int64) (f2053 : Nat → Int64), r = none ∧ w = [(q2028, .inr (11, [.ref q2029, .ref q2030, .ref q2031])), (q2029, .inl (I .long, 40, .inr (.inl f2052))), (q2030, .inl (I .long, 40, .inr (.inl f2053))), (q2031, .inl (I .int, 40, .inl f2036))] ∧ tr_Loops_link p2032 p2033 f2034 f2035 f2052 f2053
set_option maxRecDepth 100000 in
set_option maxHeartbeats 4000000 in
theorem ct_2037_Loops_link (l : Launch) (hl0 : l.stackTraces = false) (D : va_G) (I : FieldType → ClassId) (q2028 : Nat) (q2029 : Nat) (q2030 : Nat) (q2031 : Nat) (p2032 : Int32) (p2033 : Int32) (f2034 : Nat → Int64) (f2035 : Nat → Int64) (f2036 : Nat → Int32) (bp2032 : gB p2032 0 39) : Ct (gV D I) l yX6_link cX6_link 3 none 0 0 0 0 [.ref q2028, .int p2032, .int p2033] [(q2028, .inr (11, [.ref q2029, .ref q2030, .ref q2031])), (q2029, .inl (I .long, 40, .inr (.inl f2034))), (q2030, .inl (I .long, 40, .inr (.inl f2035))), (q2031, .inl (I .int, 40, .inl f2036))] (po_2037_Loops_link I q2028 q2029 q2030 q2031 p2032 p2033 f2034 f2035 f2036) gN := by
  refine Ct_of hl0 (by decide) (Nat.le_of_ble_eq_true rfl) ?_
  have bp2033 := gB_any p2033
  refine G_iload_n 2 d_cX6_link_0 rfl ?_
  refine G_if_lt 34 d_cX6_link_1 (by decide +kernel) (fun hc2038 => ?_) (fun hc2038 => ?_)
  · have r2039 : p2033.toInt < 0 := gj_lt hc2038 (show Int32.toInt 0 = 0 by decide)
    have bp2033' : gB p2033 (-2147483648) (-1) := ⟨by omega, by omega⟩
    exact G_vret d_cX6_link_34 rfl (Nat.le_of_ble_eq_true rfl) (Nat.le_of_ble_eq_true rfl) ⟨f2034, f2035, rfl, rfl, (fun R c1 c2 c3 => c1 r2039)⟩
  · have r2040 : 0 ≤ p2033.toInt := gj_nlt hc2038 (show Int32.toInt 0 = 0 by decide)
    have bp2033' : gB p2033 0 2147483647 := ⟨by omega, by omega⟩
    refine G_iload_n 2 d_cX6_link_4 rfl ?_
    refine G_bipush 40 d_cX6_link_5 (by decide +kernel) ?_
    refine G_icmp_ge 34 d_cX6_link_7 (by decide +kernel) (fun hc2041 => ?_) (fun hc2041 => ?_)
    · have r2042 : 40 ≤ p2033.toInt := gj_leL hc2041 (show Int32.toInt 40 = 40 by decide)
      have bp2033'' : gB p2033 40 2147483647 := ⟨by omega, by omega⟩
      exact G_vret d_cX6_link_34 rfl (Nat.le_of_ble_eq_true rfl) (Nat.le_of_ble_eq_true rfl) ⟨f2034, f2035, rfl, rfl, (fun R c1 c2 c3 => c2 r2040 r2042)⟩
    · have r2043 : p2033.toInt < 40 := gj_nleL hc2041 (show Int32.toInt 40 = 40 by decide)
      have bp2033'' : gB p2033 0 39 := ⟨by omega, by omega⟩
      refine G_aload_n 0 d_cX6_link_10 rfl ?_
      refine G_getf 0 0 d_cX6_link_11 rfl (gk_X6 D I) (Nat.le_of_ble_eq_true rfl) w_1_233 rfl ?_
      refine G_iload_n 1 d_cX6_link_14 rfl ?_
      refine G_dup2_11 d_cX6_link_15 rfl rfl ?_
      refine G_lald 1 2 d_cX6_link_16 rfl rfl (gB_in bp2032 (by decide) (by decide)) (G_namL fun u2044 hu2044 => ?_)
      refine G_lconst 1 d_cX6_link_17 rfl ?_
      refine G_iload_n 2 d_cX6_link_18 rfl ?_
      refine G_lshl d_cX6_link_19 (G_namL fun u2045 hu2045 => ?_)
      have qu2045 : lb_Q u2045 (p2033.toInt % 64 + 1) := lb_Qshl hu2045 (by omega)
      refine G_lor d_cX6_link_20 (G_namL fun u2046 hu2046 => ?_)
      refine G_lastN 1 2 d_cX6_link_21 rfl rfl (gB_in bp2032 (by decide) (by decide)) (fun f2047 hf2047 => ?_)
      refine G_ws (ws' := [(q2028, .inr (11, [.ref q2029, .ref q2030, .ref q2031])), (q2029, .inl (I .long, 40, .inr (.inl f2047))), (q2030, .inl (I .long, 40, .inr (.inl f2035))), (q2031, .inl (I .int, 40, .inl f2036))]) (cs' := 0) (sl' := 0) rfl rfl rfl ?_
      refine G_aload_n 0 d_cX6_link_22 rfl ?_
      refine G_getf 0 1 d_cX6_link_23 rfl (gk_X6 D I) (Nat.le_of_ble_eq_true rfl) w_1_234 rfl ?_
      refine G_iload_n 2 d_cX6_link_26 rfl ?_
      refine G_dup2_11 d_cX6_link_27 rfl rfl ?_
      refine G_lald 2 2 d_cX6_link_28 rfl rfl (gB_in bp2033'' (by decide) (by decide)) (G_namL fun u2048 hu2048 => ?_)
      refine G_lconst 1 d_cX6_link_29 rfl ?_
      refine G_iload_n 1 d_cX6_link_30 rfl ?_
      refine G_lshl d_cX6_link_31 (G_namL fun u2049 hu2049 => ?_)
      have qu2049 : lb_Q u2049 (p2032.toInt % 64 + 1) := lb_Qshl hu2049 (by omega)
      refine G_lor d_cX6_link_32 (G_namL fun u2050 hu2050 => ?_)
      refine G_lastN 2 2 d_cX6_link_33 rfl rfl (gB_in bp2033'' (by decide) (by decide)) (fun f2051 hf2051 => ?_)
      refine G_ws (ws' := [(q2028, .inr (11, [.ref q2029, .ref q2030, .ref q2031])), (q2029, .inl (I .long, 40, .inr (.inl f2047))), (q2030, .inl (I .long, 40, .inr (.inl f2051))), (q2031, .inl (I .int, 40, .inl f2036))]) (cs' := 0) (sl' := 0) rfl rfl rfl ?_
      exact G_vret d_cX6_link_34 rfl (Nat.le_of_ble_eq_true rfl) (Nat.le_of_ble_eq_true rfl) ⟨f2047, f2051, rfl, rfl, (fun R c1 c2 c3 => c3 u2044 u2045 u2046 f2047 u2048 u2049 u2050 f2051 r2040 r2043 hu2044 hu2045 hu2046 hf2047 hu2048 hu2049 hu2050 hf2051)⟩
/- tr_Loops_loopOf: result -/
def tr_Loops_loopOf (a1 : Int32) (a2 : Int64) (Loops_goals : Nat → Int64) (Loops_sources : Nat → Int64) (o1 : Int64) : Prop := ∀ R : (Int64) → Prop,
  (∀ (x1 : Int64) (x2 : Int64) (x3 : Int64) (x4 : Int64) (x5 : Int64) (x6 : Int64) (x7 : Int64) (x8 : Int64) (x9 : Int64) (x10 : Int64), x1 = (1 : Int64) <<< (a1.toInt64 &&& 63) → tr_Loops_walk (1 : Int64) x1 Loops_goals x2 → x3 = Loops_sources a1.toNatClampNeg → x4 = x3 &&& a2 → x5 = x2 ^^^ (-1 : Int64) → x6 = x4 &&& x5 → (¬ x6 = (0 : Int64)) → x7 = a2 ^^^ (-1 : Int64) → x8 = x1 ||| x7 → tr_Loops_walk x6 x8 Loops_sources x9 → x10 = x1 ||| x9 → R x10) →
  (∀ (x1 : Int64) (x2 : Int64) (x3 : Int64) (x4 : Int64) (x5 : Int64) (x6 : Int64), x1 = (1 : Int64) <<< (a1.toInt64 &&& 63) → tr_Loops_walk (1 : Int64) x1 Loops_goals x2 → x3 = Loops_sources a1.toNatClampNeg → x4 = x3 &&& a2 → x5 = x2 ^^^ (-1 : Int64) → x6 = x4 &&& x5 → x6 = (0 : Int64) → R (0 : Int64)) →
  R o1
abbrev ky_2080_Loops_loopOf : gKey := (cX6_loopOf, 10, yX6_loopOf.cls, (some FieldType.long), [], yX6_loopOf.name, fun _ _ => True)
abbrev po_2080_Loops_loopOf (I : FieldType → ClassId) (q2071 : Nat) (q2072 : Nat) (q2073 : Nat) (q2074 : Nat) (p2075 : Int32) (pl2076 : Int64) (f2077 : Nat → Int64) (f2078 : Nat → Int64) (f2079 : Nat → Int32) : Option Value → va_W → Prop := fun r w => ∃ (ol2097 : Int64), r = some (.long ol2097) ∧ w = [(q2071, .inr (11, [.ref q2072, .ref q2073, .ref q2074])), (q2072, .inl (I .long, 40, .inr (.inl f2077))), (q2073, .inl (I .long, 40, .inr (.inl f2078))), (q2074, .inl (I .int, 40, .inl f2079))] ∧ tr_Loops_loopOf p2075 pl2076 f2077 f2078 ol2097
set_option maxRecDepth 100000 in
set_option maxHeartbeats 4000000 in
theorem ct_2080_Loops_loopOf (l : Launch) (hl0 : l.stackTraces = false) (D : va_G) (I : FieldType → ClassId) (q2071 : Nat) (q2072 : Nat) (q2073 : Nat) (q2074 : Nat) (p2075 : Int32) (pl2076 : Int64) (f2077 : Nat → Int64) (f2078 : Nat → Int64) (f2079 : Nat → Int32) (bp2075 : gB p2075 0 39) : Ct (gV D I) l yX6_loopOf cX6_loopOf 10 (some FieldType.long) 1 30 0 0 [.ref q2071, .int p2075, .long pl2076] [(q2071, .inr (11, [.ref q2072, .ref q2073, .ref q2074])), (q2072, .inl (I .long, 40, .inr (.inl f2077))), (q2073, .inl (I .long, 40, .inr (.inl f2078))), (q2074, .inl (I .int, 40, .inl f2079))] (po_2080_Loops_loopOf I q2071 q2072 q2073 q2074 p2075 pl2076 f2077 f2078 f2079) gN := by
  refine Ct_of hl0 (by decide) (Nat.le_of_ble_eq_true rfl) ?_
  refine G_lconst 1 d_cX6_loopOf_0 rfl ?_
  refine G_iload_n 1 d_cX6_loopOf_1 rfl ?_
  refine G_lshl d_cX6_loopOf_2 (G_namL fun u2081 hu2081 => ?_)
  have qu2081 : lb_Q u2081 (p2075.toInt % 64 + 1) := lb_Qshl hu2081 (by omega)
  refine G_lstore (L' := [(4, .long u2081), (0, .ref q2071), (1, .int p2075), (2, .long pl2076)]) d_cX6_loopOf_3 (Nat.le_of_ble_eq_true rfl) rfl ?_
  refine G_aload_n 1 d_cX6_loopOf_5 rfl ?_
  refine G_getf 0 0 d_cX6_loopOf_6 rfl (gk_X6 D I) (Nat.le_of_ble_eq_true rfl) w_1_233 rfl ?_
  refine G_lconst 1 d_cX6_loopOf_9 rfl ?_
  refine G_lload 0 d_cX6_loopOf_10 rfl ?_
  refine G_callS (As := [.ref q2072, .long 1, .long u2081]) (wr := [(q2071, .inr (11, [.ref q2072, .ref q2073, .ref q2074])), (q2073, .inl (I .long, 40, .inr (.inl f2078))), (q2074, .inl (I .int, 40, .inl f2079))]) (gV_ok D I) (ct_1173_Loops_walk l hl0 D I q2072 1 u2081 f2077 ) d_cX6_loopOf_12 ⟨w_4_4, w_1_7, w_4_6, by decide, rfl, (Nat.le_of_ble_eq_true rfl), (Nat.le_of_ble_eq_true rfl)⟩ w_4_5 [1] [0, 2, 3] rfl rfl rfl rfl (by decide) (Nat.le_of_ble_eq_true rfl) (Nat.le_of_ble_eq_true rfl) (Nat.le_of_ble_eq_true rfl) (fun r w hp => ?_) (fun _ _ _ z => z.elim)
  obtain ⟨ol2082, rfl, rfl, ht2083⟩ := hp
  change G _ _ _ _ _ _ _ (.long ol2082 :: _) _ _ _
  refine G_ws (ws' := [(q2071, .inr (11, [.ref q2072, .ref q2073, .ref q2074])), (q2073, .inl (I .long, 40, .inr (.inl f2078))), (q2074, .inl (I .int, 40, .inl f2079)), (q2072, .inl (I .long, 40, .inr (.inl f2077)))]) (cs' := 0) (sl' := 0) rfl rfl rfl ?_
  refine G_lstore (L' := [(6, .long ol2082), (4, .long u2081), (0, .ref q2071), (1, .int p2075), (2, .long pl2076)]) d_cX6_loopOf_15 (Nat.le_of_ble_eq_true rfl) rfl ?_
  refine G_aload_n 2 d_cX6_loopOf_17 rfl ?_
  refine G_getf 0 1 d_cX6_loopOf_18 rfl (gk_X6 D I) (Nat.le_of_ble_eq_true rfl) w_1_234 rfl ?_
  refine G_iload_n 3 d_cX6_loopOf_21 rfl ?_
  refine G_lald 1 2 d_cX6_loopOf_22 rfl rfl (gB_in bp2075 (by decide) (by decide)) (G_namL fun u2084 hu2084 => ?_)
  refine G_lload_n 4 d_cX6_loopOf_23 rfl ?_
  refine G_land d_cX6_loopOf_24 (G_namL fun u2085 hu2085 => ?_)
  refine G_lload 0 d_cX6_loopOf_25 rfl ?_
  refine G_ldc2 (-1) d_cX6_loopOf_27 w_4_7 ?_
  refine G_lxor d_cX6_loopOf_30 (G_namL fun u2086 hu2086 => ?_)
  refine G_land d_cX6_loopOf_31 (G_namL fun u2087 hu2087 => ?_)
  refine G_lstore (L' := [(8, .long u2087), (6, .long ol2082), (4, .long u2081), (0, .ref q2071), (1, .int p2075), (2, .long pl2076)]) d_cX6_loopOf_32 (Nat.le_of_ble_eq_true rfl) rfl ?_
  refine G_lload 0 d_cX6_loopOf_34 rfl ?_
  refine G_lconst 0 d_cX6_loopOf_36 rfl ?_
  refine G_lcmp d_cX6_loopOf_37 (G_nam fun z2088 hz2088 => ?_)
  have bz2088 : gB z2088 (-1) 1 := gB_cmp hz2088
  refine G_if_ne 45 d_cX6_loopOf_38 (by decide +kernel) (fun hc2089 => ?_) (fun hc2089 => ?_)
  · have r2090 : z2088.toInt ≠ 0 := gj_neq hc2089 (show Int32.toInt 0 = 0 by decide)
    have lhc2089 := gC_cmpN hz2088 hc2089
    refine G_lload 2 d_cX6_loopOf_45 rfl ?_
    refine G_aload_n 3 d_cX6_loopOf_47 rfl ?_
    refine G_getf 0 1 d_cX6_loopOf_48 rfl (gk_X6 D I) (Nat.le_of_ble_eq_true rfl) w_1_234 rfl ?_
    refine G_lload 0 d_cX6_loopOf_51 rfl ?_
    refine G_lload 2 d_cX6_loopOf_53 rfl ?_
    refine G_lload_n 5 d_cX6_loopOf_55 rfl ?_
    refine G_ldc2 (-1) d_cX6_loopOf_56 w_4_7 ?_
    refine G_lxor d_cX6_loopOf_59 (G_namL fun u2091 hu2091 => ?_)
    refine G_lor d_cX6_loopOf_60 (G_namL fun u2092 hu2092 => ?_)
    refine G_callS (As := [.ref q2073, .long u2087, .long u2092]) (wr := [(q2071, .inr (11, [.ref q2072, .ref q2073, .ref q2074])), (q2074, .inl (I .int, 40, .inl f2079)), (q2072, .inl (I .long, 40, .inr (.inl f2077)))]) (gV_ok D I) (ct_1173_Loops_walk l hl0 D I q2073 u2087 u2092 f2078 ) d_cX6_loopOf_61 ⟨w_4_4, w_1_7, w_4_6, by decide, rfl, (Nat.le_of_ble_eq_true rfl), (Nat.le_of_ble_eq_true rfl)⟩ w_4_5 [1] [0, 2, 3] rfl rfl rfl rfl (by decide) (Nat.le_of_ble_eq_true rfl) (Nat.le_of_ble_eq_true rfl) (Nat.le_of_ble_eq_true rfl) (fun r w hp => ?_) (fun _ _ _ z => z.elim)
    obtain ⟨ol2093, rfl, rfl, ht2094⟩ := hp
    change G _ _ _ _ _ _ _ (.long ol2093 :: _) _ _ _
    refine G_ws (ws' := [(q2071, .inr (11, [.ref q2072, .ref q2073, .ref q2074])), (q2074, .inl (I .int, 40, .inl f2079)), (q2072, .inl (I .long, 40, .inr (.inl f2077))), (q2073, .inl (I .long, 40, .inr (.inl f2078)))]) (cs' := 0) (sl' := 0) rfl rfl rfl ?_
    refine G_lor d_cX6_loopOf_64 (G_namL fun u2095 hu2095 => ?_)
    refine G_sub (ws' := [(q2071, .inr (11, [.ref q2072, .ref q2073, .ref q2074])), (q2072, .inl (I .long, 40, .inr (.inl f2077))), (q2073, .inl (I .long, 40, .inr (.inl f2078))), (q2074, .inl (I .int, 40, .inl f2079))]) [0, 2, 3, 1] rfl rfl ?_
    exact G_lret d_cX6_loopOf_65 rfl (Nat.le_of_ble_eq_true rfl) (Nat.le_of_ble_eq_true rfl) ⟨u2095, rfl, rfl, (fun R c1 c2 => c1 u2081 ol2082 u2084 u2085 u2086 u2087 u2091 u2092 ol2093 u2095 hu2081 ht2083 hu2084 hu2085 hu2086 hu2087 lhc2089 hu2091 hu2092 ht2094 hu2095)⟩
  · have r2096 : z2088.toInt = 0 := gj_eq hc2089 (show Int32.toInt 0 = 0 by decide)
    have bz2088' : gB z2088 0 0 := ⟨by omega, by omega⟩
    have lhc2089 := gC_cmpE hz2088 hc2089
    refine G_lconst 0 d_cX6_loopOf_41 rfl ?_
    refine G_goto 65 d_cX6_loopOf_42 (by decide +kernel) ?_
    refine G_sub (ws' := [(q2071, .inr (11, [.ref q2072, .ref q2073, .ref q2074])), (q2072, .inl (I .long, 40, .inr (.inl f2077))), (q2073, .inl (I .long, 40, .inr (.inl f2078))), (q2074, .inl (I .int, 40, .inl f2079))]) [0, 3, 1, 2] rfl rfl ?_
    exact G_lret d_cX6_loopOf_65 rfl (Nat.le_of_ble_eq_true rfl) (Nat.le_of_ble_eq_true rfl) ⟨0, rfl, rfl, (fun R c1 c2 => c2 u2081 ol2082 u2084 u2085 u2086 u2087 hu2081 ht2083 hu2084 hu2085 hu2086 hu2087 lhc2089)⟩
/- tl_Loops_deepen_2: l3, Loops_depth; out: Loops_depth -/
def tl_Loops_deepen_2 (a1 : Int64) (s1 : Int32) (s2 : Nat → Int32) (k : Nat) (e1 : Nat → Int32) : Prop := ∀ R : (Int32) → (Nat → Int32) → Nat → (Nat → Int32) → Prop,
  (∀ (l3_1 : Int32) (Loops_depth_1 : Nat → Int32), gB l3_1 0 40 → 40 ≤ l3_1.toInt → R l3_1 Loops_depth_1 44 Loops_depth_1) →
  (∀ (l3_1 : Int32) (Loops_depth_1 : Nat → Int32) (x1 : Int64) (x2 : Int64) (x3 : Int32) (k : Nat) (e1 : Nat → Int32), gB l3_1 0 40 → l3_1.toInt < 40 → x1 = a1 >>> (l3_1.toInt64 &&& 63) → x2 = x1 &&& (1 : Int64) → x2 = (0 : Int64) → x3.toInt = l3_1.toInt + 1 → R x3 Loops_depth_1 k e1 → R l3_1 Loops_depth_1 k e1) →
  (∀ (l3_1 : Int32) (Loops_depth_1 : Nat → Int32) (x1 : Int64) (x2 : Int64) (x3 : Int32) (x4 : Int32) (k : Nat) (e1 : Nat → Int32), gB l3_1 0 40 → l3_1.toInt < 40 → x1 = a1 >>> (l3_1.toInt64 &&& 63) → x2 = x1 &&& (1 : Int64) → (¬ x2 = (0 : Int64)) → x3 = Loops_depth_1 l3_1.toNatClampNeg → 4 ≤ x3.toInt → x4.toInt = l3_1.toInt + 1 → R x4 Loops_depth_1 k e1 → R l3_1 Loops_depth_1 k e1) →
  (∀ (l3_1 : Int32) (Loops_depth_1 : Nat → Int32) (x1 : Int64) (x2 : Int64) (x3 : Int32) (x4 : Int32) (x5 : Nat → Int32) (x6 : Int32) (k : Nat) (e1 : Nat → Int32), gB l3_1 0 40 → l3_1.toInt < 40 → x1 = a1 >>> (l3_1.toInt64 &&& 63) → x2 = x1 &&& (1 : Int64) → (¬ x2 = (0 : Int64)) → x3 = Loops_depth_1 l3_1.toNatClampNeg → x3.toInt < 4 → x4.toInt = x3.toInt + 1 → x5 = upd Loops_depth_1 l3_1.toNatClampNeg x4 → x6.toInt = l3_1.toInt + 1 → R x6 x5 k e1 → R l3_1 Loops_depth_1 k e1) →
  R s1 s2 k e1
/- tr_Loops_deepen: Loops_depth -/
def tr_Loops_deepen (a1 : Int64) (Loops_depth : Nat → Int32) (o1 : Nat → Int32) : Prop := ∀ R : (Nat → Int32) → Prop,
  (∀ (x1 : Nat → Int32), tl_Loops_deepen_2 a1 (0 : Int32) Loops_depth 44 x1 → R x1) →
  R o1
abbrev ky_2108_Loops_deepen : gKey := (cX6_deepen, 4, yX6_deepen.cls, none, [], yX6_deepen.name, fun _ _ => True)
abbrev po_2108_Loops_deepen (I : FieldType → ClassId) (q2100 : Nat) (q2101 : Nat) (q2102 : Nat) (q2103 : Nat) (pl2104 : Int64) (f2105 : Nat → Int64) (f2106 : Nat → Int64) (f2107 : Nat → Int32) : Option Value → va_W → Prop := fun r w => ∃ (f2233 : Nat → Int32), r = none ∧ w = [(q2100, .inr (11, [.ref q2101, .ref q2102, .ref q2103])), (q2101, .inl (I .long, 40, .inr (.inl f2105))), (q2102, .inl (I .long, 40, .inr (.inl f2106))), (q2103, .inl (I .int, 40, .inl f2233))] ∧ gF f2233 (-2147483648) 2147483647 ∧ tr_Loops_deepen pl2104 f2107 f2233
set_option maxRecDepth 100000 in
set_option maxHeartbeats 4000000 in
theorem ct_2108_Loops_deepen (l : Launch) (hl0 : l.stackTraces = false) (D : va_G) (I : FieldType → ClassId) (q2100 : Nat) (q2101 : Nat) (q2102 : Nat) (q2103 : Nat) (pl2104 : Int64) (f2105 : Nat → Int64) (f2106 : Nat → Int64) (f2107 : Nat → Int32)  : Ct (gV D I) l yX6_deepen cX6_deepen 4 none 0 0 0 0 [.ref q2100, .long pl2104] [(q2100, .inr (11, [.ref q2101, .ref q2102, .ref q2103])), (q2101, .inl (I .long, 40, .inr (.inl f2105))), (q2102, .inl (I .long, 40, .inr (.inl f2106))), (q2103, .inl (I .int, 40, .inl f2107))] (po_2108_Loops_deepen I q2100 q2101 q2102 q2103 pl2104 f2105 f2106 f2107) gN := by
  refine Ct_of hl0 (by decide) (Nat.le_of_ble_eq_true rfl) ?_
  refine G_iconst 0 d_cX6_deepen_0 (by decide +kernel) ?_
  refine G_istore_n (L' := [(3, .int 0), (0, .ref q2100), (1, .long pl2104)]) d_cX6_deepen_1 (Nat.le_of_ble_eq_true rfl) rfl ?_
  have hlp2_2213 : ∀ (n2_2213 : Nat) (g2212 : Int32) (f2213 : Nat → Int32), gB g2212 0 40 → gF f2213 (-2147483648) 2147483647 → (∀ (k : Nat) (e1 : Nat → Int32), tl_Loops_deepen_2 pl2104 g2212 f2213 k e1 → tl_Loops_deepen_2 pl2104 (0 : Int32) f2107 k e1) → ((41 : Int) - g2212.toInt).toNat < n2_2213 → G (gV D I) l (gRm 0 0 0 0) (gM (gV D I) (po_2108_Loops_deepen I q2100 q2101 q2102 q2103 pl2104 f2105 f2106 f2107) gN 0 0) ky_2108_Loops_deepen 2 [(3, .int g2212), (0, .ref q2100), (1, .long pl2104)] [] [(q2100, .inr (11, [.ref q2101, .ref q2102, .ref q2103])), (q2101, .inl (I .long, 40, .inr (.inl f2105))), (q2102, .inl (I .long, 40, .inr (.inl f2106))), (q2103, .inl (I .int, 40, .inl f2213))] 0 0 := by
    intro n2_2213
    induction n2_2213 with
    | zero => intro g2212 f2213 bg2212 bf2213 kt2_2213 hm2_2213; exact absurd hm2_2213 (Nat.not_lt_zero _)
    | succ n2_2213 ih2_2213 =>
      intro g2212 f2213 bg2212 bf2213 kt2_2213 hm2_2213
      refine G_iload_n 0 d_cX6_deepen_2 rfl ?_
      refine G_bipush 40 d_cX6_deepen_3 (by decide +kernel) ?_
      refine G_icmp_ge 44 d_cX6_deepen_5 (by decide +kernel) (fun hc2214 => ?_) (fun hc2214 => ?_)
      · have r2215 : 40 ≤ g2212.toInt := gj_leL hc2214 (show Int32.toInt 40 = 40 by decide)
        have bg2212' : gB g2212 40 40 := ⟨by omega, by omega⟩
        have hx2216 : tl_Loops_deepen_2 pl2104 (0 : Int32) f2107 44 f2213 := kt2_2213 44 f2213 (fun R c1 c2 c3 c4 => c1 g2212 f2213 bg2212 r2215)
        exact G_vret d_cX6_deepen_44 rfl (Nat.le_of_ble_eq_true rfl) (Nat.le_of_ble_eq_true rfl) ⟨f2213, rfl, rfl, bf2213, (fun R c1 => c1 f2213 hx2216)⟩
      · have r2217 : g2212.toInt < 40 := gj_nleL hc2214 (show Int32.toInt 40 = 40 by decide)
        have bg2212' : gB g2212 0 39 := ⟨by omega, by omega⟩
        refine G_lload_n 2 d_cX6_deepen_8 rfl ?_
        refine G_iload_n 0 d_cX6_deepen_9 rfl ?_
        refine G_lshr d_cX6_deepen_10 (G_namL fun u2218 hu2218 => ?_)
        refine G_lconst 1 d_cX6_deepen_11 rfl ?_
        refine G_land d_cX6_deepen_12 (G_namL fun u2219 hu2219 => ?_)
        refine G_lconst 0 d_cX6_deepen_13 rfl ?_
        refine G_lcmp d_cX6_deepen_14 (G_nam fun z2220 hz2220 => ?_)
        have bz2220 : gB z2220 (-1) 1 := gB_cmp hz2220
        refine G_if_eq 38 d_cX6_deepen_15 (by decide +kernel) (fun hc2221 => ?_) (fun hc2221 => ?_)
        · have r2222 : z2220.toInt = 0 := gj_eq hc2221 (show Int32.toInt 0 = 0 by decide)
          have bz2220' : gB z2220 0 0 := ⟨by omega, by omega⟩
          have lhc2221 := gC_cmpE hz2220 hc2221
          obtain ⟨z2223, hz2223⟩ : ∃ z : Int32, z = g2212 + Int32.ofInt 1 := ⟨_, rfl⟩
          have ez2223 : z2223.toInt = g2212.toInt + 1 := gI_inc hz2223 (by decide) bg2212' (by decide) (by decide)
          have bz2223 : gB z2223 1 40 := ⟨by omega, by omega⟩
          refine G_iinc (L' := [(3, .int z2223), (0, .ref q2100), (1, .long pl2104)]) z2223 0 d_cX6_deepen_38 rfl hz2223.symm (Nat.le_of_ble_eq_true rfl) rfl ?_
          refine G_goto 2 d_cX6_deepen_41 (by decide +kernel) ?_
          exact ih2_2213 z2223 f2213 (gB_w bz2223 (by decide) (by decide)) bf2213 (fun k e1 ht => kt2_2213 k e1 (fun R c1 c2 c3 c4 => c2 g2212 f2213 u2218 u2219 z2223 k e1 bg2212 r2217 hu2218 hu2219 lhc2221 ez2223 (ht R c1 c2 c3 c4))) (by omega)
        · have r2224 : z2220.toInt ≠ 0 := gj_neq hc2221 (show Int32.toInt 0 = 0 by decide)
          have lhc2221 := gC_cmpN hz2220 hc2221
          refine G_aload_n 1 d_cX6_deepen_18 rfl ?_
          refine G_getf 0 2 d_cX6_deepen_19 rfl (gk_X6 D I) (Nat.le_of_ble_eq_true rfl) w_1_235 rfl ?_
          refine G_iload_n 0 d_cX6_deepen_22 rfl ?_
          refine G_iald 3 0 d_cX6_deepen_23 rfl rfl (gB_in bg2212' (by decide) (by decide)) (G_nam fun z2225 hz2225 => ?_)
          have bz2225 : gB z2225 (-2147483648) 2147483647 := by rw [hz2225]; exact bf2213 _
          refine G_iconst 4 d_cX6_deepen_24 (by decide +kernel) ?_
          refine G_icmp_ge 38 d_cX6_deepen_25 (by decide +kernel) (fun hc2226 => ?_) (fun hc2226 => ?_)
          · have r2227 : 4 ≤ z2225.toInt := gj_leL hc2226 (show Int32.toInt 4 = 4 by decide)
            have bz2225' : gB z2225 4 2147483647 := ⟨by omega, by omega⟩
            obtain ⟨z2228, hz2228⟩ : ∃ z : Int32, z = g2212 + Int32.ofInt 1 := ⟨_, rfl⟩
            have ez2228 : z2228.toInt = g2212.toInt + 1 := gI_inc hz2228 (by decide) bg2212' (by decide) (by decide)
            have bz2228 : gB z2228 1 40 := ⟨by omega, by omega⟩
            refine G_iinc (L' := [(3, .int z2228), (0, .ref q2100), (1, .long pl2104)]) z2228 0 d_cX6_deepen_38 rfl hz2228.symm (Nat.le_of_ble_eq_true rfl) rfl ?_
            refine G_goto 2 d_cX6_deepen_41 (by decide +kernel) ?_
            exact ih2_2213 z2228 f2213 (gB_w bz2228 (by decide) (by decide)) bf2213 (fun k e1 ht => kt2_2213 k e1 (fun R c1 c2 c3 c4 => c3 g2212 f2213 u2218 u2219 z2225 z2228 k e1 bg2212 r2217 hu2218 hu2219 lhc2221 hz2225 r2227 ez2228 (ht R c1 c2 c3 c4))) (by omega)
          · have r2229 : z2225.toInt < 4 := gj_nleL hc2226 (show Int32.toInt 4 = 4 by decide)
            have bz2225' : gB z2225 (-2147483648) 3 := ⟨by omega, by omega⟩
            refine G_aload_n 1 d_cX6_deepen_28 rfl ?_
            refine G_getf 0 2 d_cX6_deepen_29 rfl (gk_X6 D I) (Nat.le_of_ble_eq_true rfl) w_1_235 rfl ?_
            refine G_iload_n 0 d_cX6_deepen_32 rfl ?_
            refine G_dup2_11 d_cX6_deepen_33 rfl rfl ?_
            refine G_iald 3 0 d_cX6_deepen_34 rfl rfl (gB_in bg2212' (by decide) (by decide)) (G_eqi (y := z2225) hz2225.symm ?_)
            refine G_iconst 1 d_cX6_deepen_35 (by decide +kernel) ?_
            refine G_iadd d_cX6_deepen_36 (G_nam fun z2230 hz2230 => ?_)
            have ez2230 : z2230.toInt = z2225.toInt + 1 := by rw [gI_add hz2230 bz2225' (gBl (show Int32.toInt 1 = 1 by decide)) (by decide) (by decide), show Int32.toInt 1 = 1 from by decide]
            have bz2230 : gB z2230 (-2147483647) 4 := gB_add (gI_add hz2230 bz2225' (gBl (show Int32.toInt 1 = 1 by decide)) (by decide) (by decide)) bz2225' (gBl (show Int32.toInt 1 = 1 by decide)) (by decide) (by decide)
            refine G_iastN 3 0 d_cX6_deepen_37 rfl rfl (gB_in bg2212' (by decide) (by decide)) (fun f2231 hf2231 => ?_)
            refine G_ws (ws' := [(q2100, .inr (11, [.ref q2101, .ref q2102, .ref q2103])), (q2101, .inl (I .long, 40, .inr (.inl f2105))), (q2102, .inl (I .long, 40, .inr (.inl f2106))), (q2103, .inl (I .int, 40, .inl f2231))]) (cs' := 0) (sl' := 0) rfl rfl rfl ?_
            obtain ⟨z2232, hz2232⟩ : ∃ z : Int32, z = g2212 + Int32.ofInt 1 := ⟨_, rfl⟩
            have ez2232 : z2232.toInt = g2212.toInt + 1 := gI_inc hz2232 (by decide) bg2212' (by decide) (by decide)
            have bz2232 : gB z2232 1 40 := ⟨by omega, by omega⟩
            refine G_iinc (L' := [(3, .int z2232), (0, .ref q2100), (1, .long pl2104)]) z2232 0 d_cX6_deepen_38 rfl hz2232.symm (Nat.le_of_ble_eq_true rfl) rfl ?_
            refine G_goto 2 d_cX6_deepen_41 (by decide +kernel) ?_
            exact ih2_2213 z2232 f2231 (gB_w bz2232 (by decide) (by decide)) (gF_any f2231) (fun k e1 ht => kt2_2213 k e1 (fun R c1 c2 c3 c4 => c4 g2212 f2213 u2218 u2219 z2225 z2230 f2231 z2232 k e1 bg2212 r2217 hu2218 hu2219 lhc2221 hz2225 r2229 ez2230 hf2231 ez2232 (ht R c1 c2 c3 c4))) (by omega)
  exact hlp2_2213 (((41 : Int) - 0).toNat + 1) 0 f2107 (gB_w (gBl (show Int32.toInt 0 = 0 by decide)) (by decide) (by decide)) (gF_any f2107) (fun k e1 ht => ht) (Nat.lt_succ_self _)
/- tl_Loops_find_75: l4, Loops_depth; out: Loops_depth -/
def tl_Loops_find_75 (Code_blocks : Int32) (c1 : Int64) (Loops_goals_1 : Nat → Int64) (Loops_sources_1 : Nat → Int64) (s1 : Int32) (s2 : Nat → Int32) (k : Nat) (e1 : Nat → Int32) : Prop := ∀ R : (Int32) → (Nat → Int32) → Nat → (Nat → Int32) → Prop,
  (∀ (l4_1 : Int32) (Loops_depth_1 : Nat → Int32), gB l4_1 0 40 → Code_blocks.toInt ≤ l4_1.toInt → R l4_1 Loops_depth_1 101 Loops_depth_1) →
  (∀ (l4_1 : Int32) (Loops_depth_1 : Nat → Int32) (x1 : Int64) (x2 : Nat → Int32) (x3 : Int32) (k : Nat) (e1 : Nat → Int32), gB l4_1 0 40 → l4_1.toInt < Code_blocks.toInt → tr_Loops_loopOf l4_1 c1 Loops_goals_1 Loops_sources_1 x1 → tr_Loops_deepen x1 Loops_depth_1 x2 → x3.toInt = l4_1.toInt + 1 → R x3 x2 k e1 → R l4_1 Loops_depth_1 k e1) →
  R s1 s2 k e1
/- tl_Loops_find_26: l2, Loops_goals, Loops_sources; out: Loops_goals, Loops_sources -/
def tl_Loops_find_26 (Code_blocks : Int32) (Code_firstGoal : Nat → Int32) (Code_secondGoal : Nat → Int32) (s1 : Int32) (s2 : Nat → Int64) (s3 : Nat → Int64) (k : Nat) (e1 : Nat → Int64) (e2 : Nat → Int64) : Prop := ∀ R : (Int32) → (Nat → Int64) → (Nat → Int64) → Nat → (Nat → Int64) → (Nat → Int64) → Prop,
  (∀ (l2_1 : Int32) (Loops_goals_1 : Nat → Int64) (Loops_sources_1 : Nat → Int64), gB l2_1 0 40 → Code_blocks.toInt ≤ l2_1.toInt → R l2_1 Loops_goals_1 Loops_sources_1 62 Loops_goals_1 Loops_sources_1) →
  (∀ (l2_1 : Int32) (Loops_goals_1 : Nat → Int64) (Loops_sources_1 : Nat → Int64) (x1 : Int32) (x2 : Nat → Int64) (x3 : Nat → Int64) (x4 : Int32) (x5 : Nat → Int64) (x6 : Nat → Int64) (x7 : Int32) (k : Nat) (e1 : Nat → Int64) (e2 : Nat → Int64), gB l2_1 0 40 → l2_1.toInt < Code_blocks.toInt → x1 = Code_firstGoal l2_1.toNatClampNeg → tr_Loops_link l2_1 x1 Loops_goals_1 Loops_sources_1 x2 x3 → x4 = Code_secondGoal l2_1.toNatClampNeg → tr_Loops_link l2_1 x4 x2 x3 x5 x6 → x7.toInt = l2_1.toInt + 1 → R x7 x5 x6 k e1 e2 → R l2_1 Loops_goals_1 Loops_sources_1 k e1 e2) →
  R s1 s2 s3 k e1 e2
/- tr_Loops_find: Loops_goals, Loops_sources, Loops_depth -/
def tr_Loops_find (Code_blocks : Int32) (Loops_goals : Nat → Int64) (Loops_sources : Nat → Int64) (Loops_depth : Nat → Int32) (Code_firstGoal : Nat → Int32) (Code_secondGoal : Nat → Int32) (o1 : Nat → Int64) (o2 : Nat → Int64) (o3 : Nat → Int32) : Prop := ∀ R : (Nat → Int64) → (Nat → Int64) → (Nat → Int32) → Prop,
  (∀ (x1 : Nat → Int64) (x2 : Nat → Int64) (x3 : Nat → Int32) (x4 : Nat → Int64) (x5 : Nat → Int64) (x6 : Int64) (x7 : Nat → Int32), tr_Arrays_fill (0 : Int64) Loops_goals x1 → tr_Arrays_fill (0 : Int64) Loops_sources x2 → tr_Arrays_fill2 (0 : Int32) Loops_depth x3 → tl_Loops_find_26 Code_blocks Code_firstGoal Code_secondGoal (0 : Int32) x1 x2 62 x4 x5 → tr_Loops_walk (1 : Int64) (0 : Int64) x4 x6 → tl_Loops_find_75 Code_blocks x6 x4 x5 (0 : Int32) x3 101 x7 → R x4 x5 x7) →
  R o1 o2 o3
abbrev ky_1080_Loops_find : gKey := (cX6_find, 5, yX6_find.cls, none, [], yX6_find.name, fun _ _ => True)
abbrev po_1080_Loops_find (I : FieldType → ClassId) (q1051 : Nat) (q1052 : Nat) (q1053 : Nat) (q1054 : Nat) (q1055 : Nat) (q1056 : Nat) (q1057 : Nat) (q1058 : Nat) (q1059 : Nat) (q1060 : Nat) (q1061 : Nat) (q1062 : Nat) (q1063 : Nat) (q1064 : Nat) (p1065 : Int32) (p1066 : Int32) (p1067 : Int32) (f1068 : Nat → Int64) (f1069 : Nat → Int64) (f1070 : Nat → Int32) (f1071 : Nat → Int32) (f1072 : Nat → Int32) (f1073 : Nat → Int32) (f1074 : Nat → Int32) (f1075 : Nat → Int32) (f1076 : Nat → Int32) (f1077 : Nat → Int32) (f1078 : Nat → Int32) (f1079 : Nat → Int32) : Option Value → va_W → Prop := fun r w => ∃ (f2638 : Nat → Int64) (f2639 : Nat → Int64) (f2640 : Nat → Int32), r = none ∧ w = [(q1051, .inr (11, [.ref q1053, .ref q1054, .ref q1055])), (q1052, .inr (5, [.ref q1056, .ref q1057, .ref q1058, .ref q1059, .ref q1060, .ref q1061, .ref q1062, .ref q1063, .ref q1064, .int p1065, .int p1066, .int p1067])), (q1053, .inl (I .long, 40, .inr (.inl f2638))), (q1054, .inl (I .long, 40, .inr (.inl f2639))), (q1055, .inl (I .int, 40, .inl f2640)), (q1056, .inl (I .int, 40, .inl f1071)), (q1057, .inl (I .int, 40, .inl f1072)), (q1058, .inl (I .int, 40, .inl f1073)), (q1059, .inl (I .int, 200, .inl f1074)), (q1060, .inl (I .int, 200, .inl f1075)), (q1061, .inl (I .int, 200, .inl f1076)), (q1062, .inl (I .int, 200, .inl f1077)), (q1063, .inl (I .int, 200, .inl f1078)), (q1064, .inl (I .int, 200, .inl f1079))] ∧ gF f2640 (-2147483648) 2147483647 ∧ tr_Loops_find p1065 f1068 f1069 f1070 f1072 f1073 f2638 f2639 f2640
set_option maxRecDepth 100000 in
set_option maxHeartbeats 4000000 in
theorem ct_1080_Loops_find (l : Launch) (hl0 : l.stackTraces = false) (D : va_G) (I : FieldType → ClassId) (q1051 : Nat) (q1052 : Nat) (q1053 : Nat) (q1054 : Nat) (q1055 : Nat) (q1056 : Nat) (q1057 : Nat) (q1058 : Nat) (q1059 : Nat) (q1060 : Nat) (q1061 : Nat) (q1062 : Nat) (q1063 : Nat) (q1064 : Nat) (p1065 : Int32) (p1066 : Int32) (p1067 : Int32) (f1068 : Nat → Int64) (f1069 : Nat → Int64) (f1070 : Nat → Int32) (f1071 : Nat → Int32) (f1072 : Nat → Int32) (f1073 : Nat → Int32) (f1074 : Nat → Int32) (f1075 : Nat → Int32) (f1076 : Nat → Int32) (f1077 : Nat → Int32) (f1078 : Nat → Int32) (f1079 : Nat → Int32) (bp1065 : gB p1065 0 40) (bp1066 : gB p1066 0 200) (bp1067 : gB p1067 0 1) (bf1071 : gF f1071 0 200) (bf1074 : gF f1074 0 21) : Ct (gV D I) l yX6_find cX6_find 5 none 2 59 0 0 [.ref q1051, .ref q1052] [(q1051, .inr (11, [.ref q1053, .ref q1054, .ref q1055])), (q1052, .inr (5, [.ref q1056, .ref q1057, .ref q1058, .ref q1059, .ref q1060, .ref q1061, .ref q1062, .ref q1063, .ref q1064, .int p1065, .int p1066, .int p1067])), (q1053, .inl (I .long, 40, .inr (.inl f1068))), (q1054, .inl (I .long, 40, .inr (.inl f1069))), (q1055, .inl (I .int, 40, .inl f1070)), (q1056, .inl (I .int, 40, .inl f1071)), (q1057, .inl (I .int, 40, .inl f1072)), (q1058, .inl (I .int, 40, .inl f1073)), (q1059, .inl (I .int, 200, .inl f1074)), (q1060, .inl (I .int, 200, .inl f1075)), (q1061, .inl (I .int, 200, .inl f1076)), (q1062, .inl (I .int, 200, .inl f1077)), (q1063, .inl (I .int, 200, .inl f1078)), (q1064, .inl (I .int, 200, .inl f1079))] (po_1080_Loops_find I q1051 q1052 q1053 q1054 q1055 q1056 q1057 q1058 q1059 q1060 q1061 q1062 q1063 q1064 p1065 p1066 p1067 f1068 f1069 f1070 f1071 f1072 f1073 f1074 f1075 f1076 f1077 f1078 f1079) gN := by
  refine Ct_of hl0 (by decide) (Nat.le_of_ble_eq_true rfl) ?_
  refine G_aload_n 0 d_cX6_find_0 rfl ?_
  refine G_getf 0 0 d_cX6_find_1 rfl (gk_X6 D I) (Nat.le_of_ble_eq_true rfl) w_1_233 rfl ?_
  refine G_lconst 0 d_cX6_find_4 rfl ?_
  refine G_callS (As := [.ref q1053, .long 0]) (wr := [(q1051, .inr (11, [.ref q1053, .ref q1054, .ref q1055])), (q1052, .inr (5, [.ref q1056, .ref q1057, .ref q1058, .ref q1059, .ref q1060, .ref q1061, .ref q1062, .ref q1063, .ref q1064, .int p1065, .int p1066, .int p1067])), (q1054, .inl (I .long, 40, .inr (.inl f1069))), (q1055, .inl (I .int, 40, .inl f1070)), (q1056, .inl (I .int, 40, .inl f1071)), (q1057, .inl (I .int, 40, .inl f1072)), (q1058, .inl (I .int, 40, .inl f1073)), (q1059, .inl (I .int, 200, .inl f1074)), (q1060, .inl (I .int, 200, .inl f1075)), (q1061, .inl (I .int, 200, .inl f1076)), (q1062, .inl (I .int, 200, .inl f1077)), (q1063, .inl (I .int, 200, .inl f1078)), (q1064, .inl (I .int, 200, .inl f1079))]) (gV_ok D I) (ct_1084_Arrays_fill l hl0 D I q1053 0 f1068 ) d_cX6_find_5 ⟨w_3_234, w_1_30, w_3_236, by decide, rfl, (Nat.le_of_ble_eq_true rfl), (Nat.le_of_ble_eq_true rfl)⟩ w_3_235 [2] [0, 1, 3, 4, 5, 6, 7, 8, 9, 10, 11, 12, 13] rfl rfl rfl rfl (by decide) (Nat.le_of_ble_eq_true rfl) (Nat.le_of_ble_eq_true rfl) (Nat.le_of_ble_eq_true rfl) (fun r w hp => ?_) (fun _ _ _ z => z.elim)
  obtain ⟨f1121, rfl, rfl, ht1122⟩ := hp
  change G _ _ _ _ _ _ _ _ _ _ _
  refine G_ws (ws' := [(q1051, .inr (11, [.ref q1053, .ref q1054, .ref q1055])), (q1052, .inr (5, [.ref q1056, .ref q1057, .ref q1058, .ref q1059, .ref q1060, .ref q1061, .ref q1062, .ref q1063, .ref q1064, .int p1065, .int p1066, .int p1067])), (q1054, .inl (I .long, 40, .inr (.inl f1069))), (q1055, .inl (I .int, 40, .inl f1070)), (q1056, .inl (I .int, 40, .inl f1071)), (q1057, .inl (I .int, 40, .inl f1072)), (q1058, .inl (I .int, 40, .inl f1073)), (q1059, .inl (I .int, 200, .inl f1074)), (q1060, .inl (I .int, 200, .inl f1075)), (q1061, .inl (I .int, 200, .inl f1076)), (q1062, .inl (I .int, 200, .inl f1077)), (q1063, .inl (I .int, 200, .inl f1078)), (q1064, .inl (I .int, 200, .inl f1079)), (q1053, .inl (I .long, 40, .inr (.inl f1121)))]) (cs' := 0) (sl' := 0) rfl rfl rfl ?_
  refine G_aload_n 0 d_cX6_find_8 rfl ?_
  refine G_getf 0 1 d_cX6_find_9 rfl (gk_X6 D I) (Nat.le_of_ble_eq_true rfl) w_1_234 rfl ?_
  refine G_lconst 0 d_cX6_find_12 rfl ?_
  refine G_callS (As := [.ref q1054, .long 0]) (wr := [(q1051, .inr (11, [.ref q1053, .ref q1054, .ref q1055])), (q1052, .inr (5, [.ref q1056, .ref q1057, .ref q1058, .ref q1059, .ref q1060, .ref q1061, .ref q1062, .ref q1063, .ref q1064, .int p1065, .int p1066, .int p1067])), (q1055, .inl (I .int, 40, .inl f1070)), (q1056, .inl (I .int, 40, .inl f1071)), (q1057, .inl (I .int, 40, .inl f1072)), (q1058, .inl (I .int, 40, .inl f1073)), (q1059, .inl (I .int, 200, .inl f1074)), (q1060, .inl (I .int, 200, .inl f1075)), (q1061, .inl (I .int, 200, .inl f1076)), (q1062, .inl (I .int, 200, .inl f1077)), (q1063, .inl (I .int, 200, .inl f1078)), (q1064, .inl (I .int, 200, .inl f1079)), (q1053, .inl (I .long, 40, .inr (.inl f1121)))]) (gV_ok D I) (ct_1084_Arrays_fill l hl0 D I q1054 0 f1069 ) d_cX6_find_13 ⟨w_3_234, w_1_30, w_3_236, by decide, rfl, (Nat.le_of_ble_eq_true rfl), (Nat.le_of_ble_eq_true rfl)⟩ w_3_235 [2] [0, 1, 3, 4, 5, 6, 7, 8, 9, 10, 11, 12, 13] rfl rfl rfl rfl (by decide) (Nat.le_of_ble_eq_true rfl) (Nat.le_of_ble_eq_true rfl) (Nat.le_of_ble_eq_true rfl) (fun r w hp => ?_) (fun _ _ _ z => z.elim)
  obtain ⟨f1123, rfl, rfl, ht1124⟩ := hp
  change G _ _ _ _ _ _ _ _ _ _ _
  refine G_ws (ws' := [(q1051, .inr (11, [.ref q1053, .ref q1054, .ref q1055])), (q1052, .inr (5, [.ref q1056, .ref q1057, .ref q1058, .ref q1059, .ref q1060, .ref q1061, .ref q1062, .ref q1063, .ref q1064, .int p1065, .int p1066, .int p1067])), (q1055, .inl (I .int, 40, .inl f1070)), (q1056, .inl (I .int, 40, .inl f1071)), (q1057, .inl (I .int, 40, .inl f1072)), (q1058, .inl (I .int, 40, .inl f1073)), (q1059, .inl (I .int, 200, .inl f1074)), (q1060, .inl (I .int, 200, .inl f1075)), (q1061, .inl (I .int, 200, .inl f1076)), (q1062, .inl (I .int, 200, .inl f1077)), (q1063, .inl (I .int, 200, .inl f1078)), (q1064, .inl (I .int, 200, .inl f1079)), (q1053, .inl (I .long, 40, .inr (.inl f1121))), (q1054, .inl (I .long, 40, .inr (.inl f1123)))]) (cs' := 0) (sl' := 0) rfl rfl rfl ?_
  refine G_aload_n 0 d_cX6_find_16 rfl ?_
  refine G_getf 0 2 d_cX6_find_17 rfl (gk_X6 D I) (Nat.le_of_ble_eq_true rfl) w_1_235 rfl ?_
  refine G_iconst 0 d_cX6_find_20 (by decide +kernel) ?_
  refine G_callS (As := [.ref q1055, .int 0]) (wr := [(q1051, .inr (11, [.ref q1053, .ref q1054, .ref q1055])), (q1052, .inr (5, [.ref q1056, .ref q1057, .ref q1058, .ref q1059, .ref q1060, .ref q1061, .ref q1062, .ref q1063, .ref q1064, .int p1065, .int p1066, .int p1067])), (q1056, .inl (I .int, 40, .inl f1071)), (q1057, .inl (I .int, 40, .inl f1072)), (q1058, .inl (I .int, 40, .inl f1073)), (q1059, .inl (I .int, 200, .inl f1074)), (q1060, .inl (I .int, 200, .inl f1075)), (q1061, .inl (I .int, 200, .inl f1076)), (q1062, .inl (I .int, 200, .inl f1077)), (q1063, .inl (I .int, 200, .inl f1078)), (q1064, .inl (I .int, 200, .inl f1079)), (q1053, .inl (I .long, 40, .inr (.inl f1121))), (q1054, .inl (I .long, 40, .inr (.inl f1123)))]) (gV_ok D I) (ct_1128_Arrays_fill l hl0 D I q1055 0 f1070 ) d_cX6_find_21 ⟨w_3_237, w_1_30, w_3_239, by decide, rfl, (Nat.le_of_ble_eq_true rfl), (Nat.le_of_ble_eq_true rfl)⟩ w_3_238 [2] [0, 1, 3, 4, 5, 6, 7, 8, 9, 10, 11, 12, 13] rfl rfl rfl rfl (by decide) (Nat.le_of_ble_eq_true rfl) (Nat.le_of_ble_eq_true rfl) (Nat.le_of_ble_eq_true rfl) (fun r w hp => ?_) (fun _ _ _ z => z.elim)
  obtain ⟨f1165, rfl, rfl, bf1165, ht1166⟩ := hp
  change G _ _ _ _ _ _ _ _ _ _ _
  refine G_ws (ws' := [(q1051, .inr (11, [.ref q1053, .ref q1054, .ref q1055])), (q1052, .inr (5, [.ref q1056, .ref q1057, .ref q1058, .ref q1059, .ref q1060, .ref q1061, .ref q1062, .ref q1063, .ref q1064, .int p1065, .int p1066, .int p1067])), (q1056, .inl (I .int, 40, .inl f1071)), (q1057, .inl (I .int, 40, .inl f1072)), (q1058, .inl (I .int, 40, .inl f1073)), (q1059, .inl (I .int, 200, .inl f1074)), (q1060, .inl (I .int, 200, .inl f1075)), (q1061, .inl (I .int, 200, .inl f1076)), (q1062, .inl (I .int, 200, .inl f1077)), (q1063, .inl (I .int, 200, .inl f1078)), (q1064, .inl (I .int, 200, .inl f1079)), (q1053, .inl (I .long, 40, .inr (.inl f1121))), (q1054, .inl (I .long, 40, .inr (.inl f1123))), (q1055, .inl (I .int, 40, .inl f1165))]) (cs' := 0) (sl' := 0) rfl rfl rfl ?_
  refine G_iconst 0 d_cX6_find_24 (by decide +kernel) ?_
  refine G_istore_n (L' := [(2, .int 0), (0, .ref q1051), (1, .ref q1052)]) d_cX6_find_25 (Nat.le_of_ble_eq_true rfl) rfl ?_
  have hlp26_2554 : ∀ (n26_2554 : Nat) (g2552 : Int32) (f2553 : Nat → Int64) (f2554 : Nat → Int64), gB g2552 0 40 → (∀ (k : Nat) (e1 : Nat → Int64) (e2 : Nat → Int64), tl_Loops_find_26 p1065 f1072 f1073 g2552 f2553 f2554 k e1 e2 → tl_Loops_find_26 p1065 f1072 f1073 (0 : Int32) f1121 f1123 k e1 e2) → ((41 : Int) - g2552.toInt).toNat < n26_2554 → G (gV D I) l (gRm 2 59 0 0) (gM (gV D I) (po_1080_Loops_find I q1051 q1052 q1053 q1054 q1055 q1056 q1057 q1058 q1059 q1060 q1061 q1062 q1063 q1064 p1065 p1066 p1067 f1068 f1069 f1070 f1071 f1072 f1073 f1074 f1075 f1076 f1077 f1078 f1079) gN 0 0) ky_1080_Loops_find 26 [(2, .int g2552), (0, .ref q1051), (1, .ref q1052)] [] [(q1051, .inr (11, [.ref q1053, .ref q1054, .ref q1055])), (q1052, .inr (5, [.ref q1056, .ref q1057, .ref q1058, .ref q1059, .ref q1060, .ref q1061, .ref q1062, .ref q1063, .ref q1064, .int p1065, .int p1066, .int p1067])), (q1056, .inl (I .int, 40, .inl f1071)), (q1057, .inl (I .int, 40, .inl f1072)), (q1058, .inl (I .int, 40, .inl f1073)), (q1059, .inl (I .int, 200, .inl f1074)), (q1060, .inl (I .int, 200, .inl f1075)), (q1061, .inl (I .int, 200, .inl f1076)), (q1062, .inl (I .int, 200, .inl f1077)), (q1063, .inl (I .int, 200, .inl f1078)), (q1064, .inl (I .int, 200, .inl f1079)), (q1053, .inl (I .long, 40, .inr (.inl f2553))), (q1054, .inl (I .long, 40, .inr (.inl f2554))), (q1055, .inl (I .int, 40, .inl f1165))] 0 0 := by
    intro n26_2554
    induction n26_2554 with
    | zero => intro g2552 f2553 f2554 bg2552 kt26_2554 hm26_2554; exact absurd hm26_2554 (Nat.not_lt_zero _)
    | succ n26_2554 ih26_2554 =>
      intro g2552 f2553 f2554 bg2552 kt26_2554 hm26_2554
      refine G_iload_n 0 d_cX6_find_26 rfl ?_
      refine G_aload_n 2 d_cX6_find_27 rfl ?_
      refine G_getfN 1 9 d_cX6_find_28 rfl (gk_X0 D I) (Nat.le_of_ble_eq_true rfl) (fun _ _ _ h => gn_w 40 rfl h) rfl ?_
      refine G_icmp_ge 62 d_cX6_find_31 (by decide +kernel) (fun hc2555 => ?_) (fun hc2555 => ?_)
      · have r2556 : p1065.toInt ≤ g2552.toInt := gC_le hc2555
        have hx2557 : tl_Loops_find_26 p1065 f1072 f1073 (0 : Int32) f1121 f1123 62 f2553 f2554 := kt26_2554 62 f2553 f2554 (fun R c1 c2 => c1 g2552 f2553 f2554 bg2552 r2556)
        refine G_aload_n 1 d_cX6_find_62 rfl ?_
        refine G_getf 0 0 d_cX6_find_63 rfl (gk_X6 D I) (Nat.le_of_ble_eq_true rfl) w_1_233 rfl ?_
        refine G_lconst 1 d_cX6_find_66 rfl ?_
        refine G_lconst 0 d_cX6_find_67 rfl ?_
        refine G_callS (As := [.ref q1053, .long 1, .long 0]) (wr := [(q1051, .inr (11, [.ref q1053, .ref q1054, .ref q1055])), (q1052, .inr (5, [.ref q1056, .ref q1057, .ref q1058, .ref q1059, .ref q1060, .ref q1061, .ref q1062, .ref q1063, .ref q1064, .int p1065, .int p1066, .int p1067])), (q1056, .inl (I .int, 40, .inl f1071)), (q1057, .inl (I .int, 40, .inl f1072)), (q1058, .inl (I .int, 40, .inl f1073)), (q1059, .inl (I .int, 200, .inl f1074)), (q1060, .inl (I .int, 200, .inl f1075)), (q1061, .inl (I .int, 200, .inl f1076)), (q1062, .inl (I .int, 200, .inl f1077)), (q1063, .inl (I .int, 200, .inl f1078)), (q1064, .inl (I .int, 200, .inl f1079)), (q1054, .inl (I .long, 40, .inr (.inl f2554))), (q1055, .inl (I .int, 40, .inl f1165))]) (gV_ok D I) (ct_1173_Loops_walk l hl0 D I q1053 1 0 f2553 ) d_cX6_find_68 ⟨w_4_4, w_1_7, w_4_6, by decide, rfl, (Nat.le_of_ble_eq_true rfl), (Nat.le_of_ble_eq_true rfl)⟩ w_4_5 [11] [0, 1, 2, 3, 4, 5, 6, 7, 8, 9, 10, 12, 13] rfl rfl rfl rfl (by decide) (Nat.le_of_ble_eq_true rfl) (Nat.le_of_ble_eq_true rfl) (Nat.le_of_ble_eq_true rfl) (fun r w hp => ?_) (fun _ _ _ z => z.elim)
        obtain ⟨ol2558, rfl, rfl, ht2559⟩ := hp
        change G _ _ _ _ _ _ _ (.long ol2558 :: _) _ _ _
        refine G_ws (ws' := [(q1051, .inr (11, [.ref q1053, .ref q1054, .ref q1055])), (q1052, .inr (5, [.ref q1056, .ref q1057, .ref q1058, .ref q1059, .ref q1060, .ref q1061, .ref q1062, .ref q1063, .ref q1064, .int p1065, .int p1066, .int p1067])), (q1056, .inl (I .int, 40, .inl f1071)), (q1057, .inl (I .int, 40, .inl f1072)), (q1058, .inl (I .int, 40, .inl f1073)), (q1059, .inl (I .int, 200, .inl f1074)), (q1060, .inl (I .int, 200, .inl f1075)), (q1061, .inl (I .int, 200, .inl f1076)), (q1062, .inl (I .int, 200, .inl f1077)), (q1063, .inl (I .int, 200, .inl f1078)), (q1064, .inl (I .int, 200, .inl f1079)), (q1054, .inl (I .long, 40, .inr (.inl f2554))), (q1055, .inl (I .int, 40, .inl f1165)), (q1053, .inl (I .long, 40, .inr (.inl f2553)))]) (cs' := 0) (sl' := 0) rfl rfl rfl ?_
        refine G_lstore_n (L' := [(2, .long ol2558), (0, .ref q1051), (1, .ref q1052)]) d_cX6_find_71 (Nat.le_of_ble_eq_true rfl) rfl ?_
        refine G_iconst 0 d_cX6_find_72 (by decide +kernel) ?_
        refine G_istore (L' := [(4, .int 0), (2, .long ol2558), (0, .ref q1051), (1, .ref q1052)]) d_cX6_find_73 (Nat.le_of_ble_eq_true rfl) rfl ?_
        have hlp75_2618 : ∀ (n75_2618 : Nat) (g2617 : Int32) (f2618 : Nat → Int32), gB g2617 0 40 → gF f2618 (-2147483648) 2147483647 → (∀ (k : Nat) (e1 : Nat → Int32), tl_Loops_find_75 p1065 ol2558 f2553 f2554 g2617 f2618 k e1 → tl_Loops_find_75 p1065 ol2558 f2553 f2554 (0 : Int32) f1165 k e1) → ((41 : Int) - g2617.toInt).toNat < n75_2618 → G (gV D I) l (gRm 2 59 0 0) (gM (gV D I) (po_1080_Loops_find I q1051 q1052 q1053 q1054 q1055 q1056 q1057 q1058 q1059 q1060 q1061 q1062 q1063 q1064 p1065 p1066 p1067 f1068 f1069 f1070 f1071 f1072 f1073 f1074 f1075 f1076 f1077 f1078 f1079) gN 0 0) ky_1080_Loops_find 75 [(4, .int g2617), (2, .long ol2558), (0, .ref q1051), (1, .ref q1052)] [] [(q1051, .inr (11, [.ref q1053, .ref q1054, .ref q1055])), (q1052, .inr (5, [.ref q1056, .ref q1057, .ref q1058, .ref q1059, .ref q1060, .ref q1061, .ref q1062, .ref q1063, .ref q1064, .int p1065, .int p1066, .int p1067])), (q1056, .inl (I .int, 40, .inl f1071)), (q1057, .inl (I .int, 40, .inl f1072)), (q1058, .inl (I .int, 40, .inl f1073)), (q1059, .inl (I .int, 200, .inl f1074)), (q1060, .inl (I .int, 200, .inl f1075)), (q1061, .inl (I .int, 200, .inl f1076)), (q1062, .inl (I .int, 200, .inl f1077)), (q1063, .inl (I .int, 200, .inl f1078)), (q1064, .inl (I .int, 200, .inl f1079)), (q1054, .inl (I .long, 40, .inr (.inl f2554))), (q1055, .inl (I .int, 40, .inl f2618)), (q1053, .inl (I .long, 40, .inr (.inl f2553)))] 0 0 := by
          intro n75_2618
          induction n75_2618 with
          | zero => intro g2617 f2618 bg2617 bf2618 kt75_2618 hm75_2618; exact absurd hm75_2618 (Nat.not_lt_zero _)
          | succ n75_2618 ih75_2618 =>
            intro g2617 f2618 bg2617 bf2618 kt75_2618 hm75_2618
            refine G_iload 0 d_cX6_find_75 rfl ?_
            refine G_aload_n 3 d_cX6_find_77 rfl ?_
            refine G_getfN 1 9 d_cX6_find_78 rfl (gk_X0 D I) (Nat.le_of_ble_eq_true rfl) (fun _ _ _ h => gn_w 40 rfl h) rfl ?_
            refine G_icmp_ge 101 d_cX6_find_81 (by decide +kernel) (fun hc2619 => ?_) (fun hc2619 => ?_)
            · have r2620 : p1065.toInt ≤ g2617.toInt := gC_le hc2619
              have hx2621 : tl_Loops_find_75 p1065 ol2558 f2553 f2554 (0 : Int32) f1165 101 f2618 := kt75_2618 101 f2618 (fun R c1 c2 => c1 g2617 f2618 bg2617 r2620)
              refine G_sub (ws' := [(q1051, .inr (11, [.ref q1053, .ref q1054, .ref q1055])), (q1052, .inr (5, [.ref q1056, .ref q1057, .ref q1058, .ref q1059, .ref q1060, .ref q1061, .ref q1062, .ref q1063, .ref q1064, .int p1065, .int p1066, .int p1067])), (q1053, .inl (I .long, 40, .inr (.inl f2553))), (q1054, .inl (I .long, 40, .inr (.inl f2554))), (q1055, .inl (I .int, 40, .inl f2618)), (q1056, .inl (I .int, 40, .inl f1071)), (q1057, .inl (I .int, 40, .inl f1072)), (q1058, .inl (I .int, 40, .inl f1073)), (q1059, .inl (I .int, 200, .inl f1074)), (q1060, .inl (I .int, 200, .inl f1075)), (q1061, .inl (I .int, 200, .inl f1076)), (q1062, .inl (I .int, 200, .inl f1077)), (q1063, .inl (I .int, 200, .inl f1078)), (q1064, .inl (I .int, 200, .inl f1079))]) [0, 1, 13, 11, 12, 2, 3, 4, 5, 6, 7, 8, 9, 10] rfl rfl ?_
              exact G_vret d_cX6_find_101 rfl (Nat.le_of_ble_eq_true rfl) (Nat.le_of_ble_eq_true rfl) ⟨f2553, f2554, f2618, rfl, rfl, bf2618, (fun R c1 => c1 f1121 f1123 f1165 f2553 f2554 ol2558 f2618 ht1122 ht1124 ht1166 hx2557 ht2559 hx2621)⟩
            · have r2622 : g2617.toInt < p1065.toInt := gC_nle hc2619
              have bg2617' : gB g2617 0 39 := ⟨by omega, by omega⟩
              have bp1065' : gB p1065 1 40 := ⟨by omega, by omega⟩
              refine G_aload_n 2 d_cX6_find_84 rfl ?_
              refine G_aload_n 2 d_cX6_find_85 rfl ?_
              refine G_iload 0 d_cX6_find_86 rfl ?_
              refine G_lload_n 1 d_cX6_find_88 rfl ?_
              refine G_callV (As := [.int g2617, .long ol2558]) (wr := [(q1052, .inr (5, [.ref q1056, .ref q1057, .ref q1058, .ref q1059, .ref q1060, .ref q1061, .ref q1062, .ref q1063, .ref q1064, .int p1065, .int p1066, .int p1067])), (q1056, .inl (I .int, 40, .inl f1071)), (q1057, .inl (I .int, 40, .inl f1072)), (q1058, .inl (I .int, 40, .inl f1073)), (q1059, .inl (I .int, 200, .inl f1074)), (q1060, .inl (I .int, 200, .inl f1075)), (q1061, .inl (I .int, 200, .inl f1076)), (q1062, .inl (I .int, 200, .inl f1077)), (q1063, .inl (I .int, 200, .inl f1078)), (q1064, .inl (I .int, 200, .inl f1079))]) (gV_ok D I) (ct_2080_Loops_loopOf l hl0 D I q1051 q1053 q1054 q1055 g2617 ol2558 f2553 f2554 f2618 bg2617') d_cX6_find_89 ⟨w_4_8, w_1_7, w_4_11, by decide, rfl, (Nat.le_of_ble_eq_true rfl), (Nat.le_of_ble_eq_true rfl)⟩ w_4_10 w_p_27 0 rfl rfl [0, 13, 11, 12] [1, 2, 3, 4, 5, 6, 7, 8, 9, 10] rfl rfl rfl rfl (by decide) (Nat.le_of_ble_eq_true rfl) (Nat.le_of_ble_eq_true rfl) (Nat.le_of_ble_eq_true rfl) (fun r w hp => ?_) (fun _ _ _ z => z.elim)
              obtain ⟨ol2623, rfl, rfl, ht2624⟩ := hp
              change G _ _ _ _ _ _ _ (.long ol2623 :: _) _ _ _
              refine G_ws (ws' := [(q1052, .inr (5, [.ref q1056, .ref q1057, .ref q1058, .ref q1059, .ref q1060, .ref q1061, .ref q1062, .ref q1063, .ref q1064, .int p1065, .int p1066, .int p1067])), (q1056, .inl (I .int, 40, .inl f1071)), (q1057, .inl (I .int, 40, .inl f1072)), (q1058, .inl (I .int, 40, .inl f1073)), (q1059, .inl (I .int, 200, .inl f1074)), (q1060, .inl (I .int, 200, .inl f1075)), (q1061, .inl (I .int, 200, .inl f1076)), (q1062, .inl (I .int, 200, .inl f1077)), (q1063, .inl (I .int, 200, .inl f1078)), (q1064, .inl (I .int, 200, .inl f1079)), (q1051, .inr (11, [.ref q1053, .ref q1054, .ref q1055])), (q1053, .inl (I .long, 40, .inr (.inl f2553))), (q1054, .inl (I .long, 40, .inr (.inl f2554))), (q1055, .inl (I .int, 40, .inl f2618))]) (cs' := 0) (sl' := 0) rfl rfl rfl ?_
              refine G_callV (As := [.long ol2623]) (wr := [(q1052, .inr (5, [.ref q1056, .ref q1057, .ref q1058, .ref q1059, .ref q1060, .ref q1061, .ref q1062, .ref q1063, .ref q1064, .int p1065, .int p1066, .int p1067])), (q1056, .inl (I .int, 40, .inl f1071)), (q1057, .inl (I .int, 40, .inl f1072)), (q1058, .inl (I .int, 40, .inl f1073)), (q1059, .inl (I .int, 200, .inl f1074)), (q1060, .inl (I .int, 200, .inl f1075)), (q1061, .inl (I .int, 200, .inl f1076)), (q1062, .inl (I .int, 200, .inl f1077)), (q1063, .inl (I .int, 200, .inl f1078)), (q1064, .inl (I .int, 200, .inl f1079))]) (gV_ok D I) (ct_2108_Loops_deepen l hl0 D I q1051 q1053 q1054 q1055 ol2623 f2553 f2554 f2618 ) d_cX6_find_92 ⟨w_4_12, w_1_7, w_4_15, by decide, rfl, (Nat.le_of_ble_eq_true rfl), (Nat.le_of_ble_eq_true rfl)⟩ w_4_14 w_p_28 10 rfl rfl [10, 11, 12, 13] [0, 1, 2, 3, 4, 5, 6, 7, 8, 9] rfl rfl rfl rfl (by decide) (Nat.le_of_ble_eq_true rfl) (Nat.le_of_ble_eq_true rfl) (Nat.le_of_ble_eq_true rfl) (fun r w hp => ?_) (fun _ _ _ z => z.elim)
              obtain ⟨f2625, rfl, rfl, bf2625, ht2626⟩ := hp
              change G _ _ _ _ _ _ _ _ _ _ _
              refine G_ws (ws' := [(q1052, .inr (5, [.ref q1056, .ref q1057, .ref q1058, .ref q1059, .ref q1060, .ref q1061, .ref q1062, .ref q1063, .ref q1064, .int p1065, .int p1066, .int p1067])), (q1056, .inl (I .int, 40, .inl f1071)), (q1057, .inl (I .int, 40, .inl f1072)), (q1058, .inl (I .int, 40, .inl f1073)), (q1059, .inl (I .int, 200, .inl f1074)), (q1060, .inl (I .int, 200, .inl f1075)), (q1061, .inl (I .int, 200, .inl f1076)), (q1062, .inl (I .int, 200, .inl f1077)), (q1063, .inl (I .int, 200, .inl f1078)), (q1064, .inl (I .int, 200, .inl f1079)), (q1051, .inr (11, [.ref q1053, .ref q1054, .ref q1055])), (q1053, .inl (I .long, 40, .inr (.inl f2553))), (q1054, .inl (I .long, 40, .inr (.inl f2554))), (q1055, .inl (I .int, 40, .inl f2625))]) (cs' := 0) (sl' := 0) rfl rfl rfl ?_
              obtain ⟨z2627, hz2627⟩ : ∃ z : Int32, z = g2617 + Int32.ofInt 1 := ⟨_, rfl⟩
              have ez2627 : z2627.toInt = g2617.toInt + 1 := gI_inc hz2627 (by decide) bg2617' (by decide) (by decide)
              have bz2627 : gB z2627 1 40 := ⟨by omega, by omega⟩
              refine G_iinc (L' := [(4, .int z2627), (2, .long ol2558), (0, .ref q1051), (1, .ref q1052)]) z2627 0 d_cX6_find_95 rfl hz2627.symm (Nat.le_of_ble_eq_true rfl) rfl ?_
              refine G_goto 75 d_cX6_find_98 (by decide +kernel) ?_
              refine G_sub (ws' := [(q1051, .inr (11, [.ref q1053, .ref q1054, .ref q1055])), (q1052, .inr (5, [.ref q1056, .ref q1057, .ref q1058, .ref q1059, .ref q1060, .ref q1061, .ref q1062, .ref q1063, .ref q1064, .int p1065, .int p1066, .int p1067])), (q1056, .inl (I .int, 40, .inl f1071)), (q1057, .inl (I .int, 40, .inl f1072)), (q1058, .inl (I .int, 40, .inl f1073)), (q1059, .inl (I .int, 200, .inl f1074)), (q1060, .inl (I .int, 200, .inl f1075)), (q1061, .inl (I .int, 200, .inl f1076)), (q1062, .inl (I .int, 200, .inl f1077)), (q1063, .inl (I .int, 200, .inl f1078)), (q1064, .inl (I .int, 200, .inl f1079)), (q1054, .inl (I .long, 40, .inr (.inl f2554))), (q1055, .inl (I .int, 40, .inl f2625)), (q1053, .inl (I .long, 40, .inr (.inl f2553)))]) [10, 0, 1, 2, 3, 4, 5, 6, 7, 8, 9, 12, 13, 11] rfl rfl ?_
              exact ih75_2618 z2627 f2625 (gB_w bz2627 (by decide) (by decide)) bf2625 (fun k e1 ht => kt75_2618 k e1 (fun R c1 c2 => c2 g2617 f2618 ol2623 f2625 z2627 k e1 bg2617 r2622 ht2624 ht2626 ez2627 (ht R c1 c2))) (by omega)
        exact hlp75_2618 (((41 : Int) - 0).toNat + 1) 0 f1165 (gB_w (gBl (show Int32.toInt 0 = 0 by decide)) (by decide) (by decide)) bf1165 (fun k e1 ht => ht) (Nat.lt_succ_self _)
      · have r2628 : g2552.toInt < p1065.toInt := gC_nle hc2555
        have bg2552' : gB g2552 0 39 := ⟨by omega, by omega⟩
        have bp1065' : gB p1065 1 40 := ⟨by omega, by omega⟩
        refine G_aload_n 1 d_cX6_find_34 rfl ?_
        refine G_iload_n 0 d_cX6_find_35 rfl ?_
        refine G_aload_n 2 d_cX6_find_36 rfl ?_
        refine G_getfN 1 1 d_cX6_find_37 rfl (gk_X0 D I) (Nat.le_of_ble_eq_true rfl) (fun _ _ _ h => gn_w 7 rfl h) rfl ?_
        refine G_iload_n 0 d_cX6_find_40 rfl ?_
        refine G_iald 3 0 d_cX6_find_41 rfl rfl (gB_in bg2552' (by decide) (by decide)) (G_nam fun z2629 hz2629 => ?_)
        have bz2629 : gB z2629 (-2147483648) 2147483647 := gB_any z2629
        refine G_callV (As := [.int g2552, .int z2629]) (wr := [(q1052, .inr (5, [.ref q1056, .ref q1057, .ref q1058, .ref q1059, .ref q1060, .ref q1061, .ref q1062, .ref q1063, .ref q1064, .int p1065, .int p1066, .int p1067])), (q1056, .inl (I .int, 40, .inl f1071)), (q1057, .inl (I .int, 40, .inl f1072)), (q1058, .inl (I .int, 40, .inl f1073)), (q1059, .inl (I .int, 200, .inl f1074)), (q1060, .inl (I .int, 200, .inl f1075)), (q1061, .inl (I .int, 200, .inl f1076)), (q1062, .inl (I .int, 200, .inl f1077)), (q1063, .inl (I .int, 200, .inl f1078)), (q1064, .inl (I .int, 200, .inl f1079))]) (gV_ok D I) (ct_2037_Loops_link l hl0 D I q1051 q1053 q1054 q1055 g2552 z2629 f2553 f2554 f1165 bg2552') d_cX6_find_42 ⟨w_4_0, w_1_7, w_4_3, by decide, rfl, (Nat.le_of_ble_eq_true rfl), (Nat.le_of_ble_eq_true rfl)⟩ w_4_2 w_p_26 0 rfl rfl [0, 11, 12, 13] [1, 2, 3, 4, 5, 6, 7, 8, 9, 10] rfl rfl rfl rfl (by decide) (Nat.le_of_ble_eq_true rfl) (Nat.le_of_ble_eq_true rfl) (Nat.le_of_ble_eq_true rfl) (fun r w hp => ?_) (fun _ _ _ z => z.elim)
        obtain ⟨f2630, f2631, rfl, rfl, ht2632⟩ := hp
        change G _ _ _ _ _ _ _ _ _ _ _
        refine G_ws (ws' := [(q1052, .inr (5, [.ref q1056, .ref q1057, .ref q1058, .ref q1059, .ref q1060, .ref q1061, .ref q1062, .ref q1063, .ref q1064, .int p1065, .int p1066, .int p1067])), (q1056, .inl (I .int, 40, .inl f1071)), (q1057, .inl (I .int, 40, .inl f1072)), (q1058, .inl (I .int, 40, .inl f1073)), (q1059, .inl (I .int, 200, .inl f1074)), (q1060, .inl (I .int, 200, .inl f1075)), (q1061, .inl (I .int, 200, .inl f1076)), (q1062, .inl (I .int, 200, .inl f1077)), (q1063, .inl (I .int, 200, .inl f1078)), (q1064, .inl (I .int, 200, .inl f1079)), (q1051, .inr (11, [.ref q1053, .ref q1054, .ref q1055])), (q1053, .inl (I .long, 40, .inr (.inl f2630))), (q1054, .inl (I .long, 40, .inr (.inl f2631))), (q1055, .inl (I .int, 40, .inl f1165))]) (cs' := 0) (sl' := 0) rfl rfl rfl ?_
        refine G_aload_n 1 d_cX6_find_45 rfl ?_
        refine G_iload_n 0 d_cX6_find_46 rfl ?_
        refine G_aload_n 2 d_cX6_find_47 rfl ?_
        refine G_getfN 0 2 d_cX6_find_48 rfl (gk_X0 D I) (Nat.le_of_ble_eq_true rfl) (fun _ _ _ h => gn_w 11 rfl h) rfl ?_
        refine G_iload_n 0 d_cX6_find_51 rfl ?_
        refine G_iald 3 0 d_cX6_find_52 rfl rfl (gB_in bg2552' (by decide) (by decide)) (G_nam fun z2633 hz2633 => ?_)
        have bz2633 : gB z2633 (-2147483648) 2147483647 := gB_any z2633
        refine G_callV (As := [.int g2552, .int z2633]) (wr := [(q1052, .inr (5, [.ref q1056, .ref q1057, .ref q1058, .ref q1059, .ref q1060, .ref q1061, .ref q1062, .ref q1063, .ref q1064, .int p1065, .int p1066, .int p1067])), (q1056, .inl (I .int, 40, .inl f1071)), (q1057, .inl (I .int, 40, .inl f1072)), (q1058, .inl (I .int, 40, .inl f1073)), (q1059, .inl (I .int, 200, .inl f1074)), (q1060, .inl (I .int, 200, .inl f1075)), (q1061, .inl (I .int, 200, .inl f1076)), (q1062, .inl (I .int, 200, .inl f1077)), (q1063, .inl (I .int, 200, .inl f1078)), (q1064, .inl (I .int, 200, .inl f1079))]) (gV_ok D I) (ct_2037_Loops_link l hl0 D I q1051 q1053 q1054 q1055 g2552 z2633 f2630 f2631 f1165 bg2552') d_cX6_find_53 ⟨w_4_0, w_1_7, w_4_3, by decide, rfl, (Nat.le_of_ble_eq_true rfl), (Nat.le_of_ble_eq_true rfl)⟩ w_4_2 w_p_26 10 rfl rfl [10, 11, 12, 13] [0, 1, 2, 3, 4, 5, 6, 7, 8, 9] rfl rfl rfl rfl (by decide) (Nat.le_of_ble_eq_true rfl) (Nat.le_of_ble_eq_true rfl) (Nat.le_of_ble_eq_true rfl) (fun r w hp => ?_) (fun _ _ _ z => z.elim)
        obtain ⟨f2634, f2635, rfl, rfl, ht2636⟩ := hp
        change G _ _ _ _ _ _ _ _ _ _ _
        refine G_ws (ws' := [(q1052, .inr (5, [.ref q1056, .ref q1057, .ref q1058, .ref q1059, .ref q1060, .ref q1061, .ref q1062, .ref q1063, .ref q1064, .int p1065, .int p1066, .int p1067])), (q1056, .inl (I .int, 40, .inl f1071)), (q1057, .inl (I .int, 40, .inl f1072)), (q1058, .inl (I .int, 40, .inl f1073)), (q1059, .inl (I .int, 200, .inl f1074)), (q1060, .inl (I .int, 200, .inl f1075)), (q1061, .inl (I .int, 200, .inl f1076)), (q1062, .inl (I .int, 200, .inl f1077)), (q1063, .inl (I .int, 200, .inl f1078)), (q1064, .inl (I .int, 200, .inl f1079)), (q1051, .inr (11, [.ref q1053, .ref q1054, .ref q1055])), (q1053, .inl (I .long, 40, .inr (.inl f2634))), (q1054, .inl (I .long, 40, .inr (.inl f2635))), (q1055, .inl (I .int, 40, .inl f1165))]) (cs' := 0) (sl' := 0) rfl rfl rfl ?_
        obtain ⟨z2637, hz2637⟩ : ∃ z : Int32, z = g2552 + Int32.ofInt 1 := ⟨_, rfl⟩
        have ez2637 : z2637.toInt = g2552.toInt + 1 := gI_inc hz2637 (by decide) bg2552' (by decide) (by decide)
        have bz2637 : gB z2637 1 40 := ⟨by omega, by omega⟩
        refine G_iinc (L' := [(2, .int z2637), (0, .ref q1051), (1, .ref q1052)]) z2637 0 d_cX6_find_56 rfl hz2637.symm (Nat.le_of_ble_eq_true rfl) rfl ?_
        refine G_goto 26 d_cX6_find_59 (by decide +kernel) ?_
        refine G_sub (ws' := [(q1051, .inr (11, [.ref q1053, .ref q1054, .ref q1055])), (q1052, .inr (5, [.ref q1056, .ref q1057, .ref q1058, .ref q1059, .ref q1060, .ref q1061, .ref q1062, .ref q1063, .ref q1064, .int p1065, .int p1066, .int p1067])), (q1056, .inl (I .int, 40, .inl f1071)), (q1057, .inl (I .int, 40, .inl f1072)), (q1058, .inl (I .int, 40, .inl f1073)), (q1059, .inl (I .int, 200, .inl f1074)), (q1060, .inl (I .int, 200, .inl f1075)), (q1061, .inl (I .int, 200, .inl f1076)), (q1062, .inl (I .int, 200, .inl f1077)), (q1063, .inl (I .int, 200, .inl f1078)), (q1064, .inl (I .int, 200, .inl f1079)), (q1053, .inl (I .long, 40, .inr (.inl f2634))), (q1054, .inl (I .long, 40, .inr (.inl f2635))), (q1055, .inl (I .int, 40, .inl f1165))]) [10, 0, 1, 2, 3, 4, 5, 6, 7, 8, 9, 11, 12, 13] rfl rfl ?_
        exact ih26_2554 z2637 f2634 f2635 (gB_w bz2637 (by decide) (by decide)) (fun k e1 e2 ht => kt26_2554 k e1 e2 (fun R c1 c2 => c2 g2552 f2553 f2554 z2629 f2630 f2631 z2633 f2634 f2635 z2637 k e1 e2 bg2552 r2628 hz2629 ht2632 hz2633 ht2636 ez2637 (ht R c1 c2))) (by omega)
  exact hlp26_2554 (((41 : Int) - 0).toNat + 1) 0 f1121 f1123 (gB_w (gBl (show Int32.toInt 0 = 0 by decide)) (by decide) (by decide)) (fun k e1 e2 ht => ht) (Nat.lt_succ_self _)
/- tl_Machine_takeInput_20: l2, Machine_given; out: Machine_given -/
def tl_Machine_takeInput_20 (c1 : Int32) (Tape_size : Int32) (Tape_bytes : Nat → Int32) (s1 : Int32) (s2 : Nat → Int32) (k : Nat) (e1 : Nat → Int32) : Prop := ∀ R : (Int32) → (Nat → Int32) → Nat → (Nat → Int32) → Prop,
  (∀ (l2_1 : Int32) (Machine_given_1 : Nat → Int32), gB l2_1 0 2048 → c1.toInt ≤ l2_1.toInt → R l2_1 Machine_given_1 47 Machine_given_1) →
  (∀ (l2_1 : Int32) (Machine_given_1 : Nat → Int32) (x1 : Int32) (x2 : Int32) (x3 : Nat → Int32) (x4 : Int32) (k : Nat) (e1 : Nat → Int32), gB l2_1 0 2048 → l2_1.toInt < c1.toInt → x1.toInt = 4 * l2_1.toInt → tr_Tape_intAt x1 Tape_size Tape_bytes x2 → x3 = upd Machine_given_1 l2_1.toNatClampNeg x2 → x4.toInt = l2_1.toInt + 1 → R x4 x3 k e1 → R l2_1 Machine_given_1 k e1) →
  R s1 s2 k e1
/- tr_Machine_takeInput: result, Machine_givens, Machine_given -/
def tr_Machine_takeInput (Tape_size : Int32) (Machine_given : Nat → Int32) (Tape_bytes : Nat → Int32) (o1 : Int32) (o2 : Int32) (o3 : Nat → Int32) : Prop := ∀ R : (Int32) → (Int32) → (Nat → Int32) → Prop,
  (∀ (x1 : Int32) (x2 : Int32) (x3 : Nat → Int32), x1.toInt = Tape_size.toInt / 4 → (x1.toInt ≥ x2.toInt ∧ 2048 ≥ x2.toInt ∧ (x2.toInt = x1.toInt ∨ x2.toInt = 2048)) → tl_Machine_takeInput_20 x2 Tape_size Tape_bytes (0 : Int32) Machine_given 47 x3 → R x2 x2 x3) →
  R o1 o2 o3
abbrev ky_2661_Machine_takeInput : gKey := (cX7_takeInput, 3, yX7_takeInput.cls, (some FieldType.int), [], yX7_takeInput.name, fun _ _ => True)
abbrev po_2661_Machine_takeInput (I : FieldType → ClassId) (q2641 : Nat) (q2642 : Nat) (q2643 : Nat) (q2644 : Nat) (q2645 : Nat) (q2646 : Nat) (q2647 : Nat) (p2648 : Int32) (p2649 : Int32) (p2650 : Int32) (p2651 : Int32) (p2652 : Int32) (p2653 : Int32) (p2654 : Int32) (p2655 : Int32) (f2656 : Nat → Int32) (f2657 : Nat → Int32) (f2658 : Nat → Int32) (f2659 : Nat → Int32) (f2660 : Nat → Int32) : Option Value → va_W → Prop := fun r w => ∃ (o2733 : Int32) (o2731 : Int32) (f2732 : Nat → Int32), r = some (.int o2733) ∧ w = [(q2641, .inr (12, [.ref q2643, .ref q2644, .ref q2645, .ref q2646, .int o2731, .int p2649, .int p2650, .int p2651, .int p2652, .int p2653, .int p2654])), (q2642, .inr (15, [.ref q2647, .int p2655])), (q2643, .inl (I .int, 2048, .inl f2732)), (q2644, .inl (I .int, 100, .inl f2657)), (q2645, .inl (I .int, 100, .inl f2658)), (q2646, .inl (I .int, 512, .inl f2659)), (q2647, .inl (I .byte, 8192, .inl f2660))] ∧ gB o2733 0 2048 ∧ gB o2731 0 2048 ∧ gF f2732 (-2147483648) 2147483647 ∧ o2733.toInt = p2655.toInt / 4 ∧ tr_Machine_takeInput p2655 f2656 f2660 o2733 o2731 f2732
set_option maxRecDepth 100000 in
set_option maxHeartbeats 4000000 in
theorem ct_2661_Machine_takeInput (l : Launch) (hl0 : l.stackTraces = false) (D : va_G) (I : FieldType → ClassId) (q2641 : Nat) (q2642 : Nat) (q2643 : Nat) (q2644 : Nat) (q2645 : Nat) (q2646 : Nat) (q2647 : Nat) (p2648 : Int32) (p2649 : Int32) (p2650 : Int32) (p2651 : Int32) (p2652 : Int32) (p2653 : Int32) (p2654 : Int32) (p2655 : Int32) (f2656 : Nat → Int32) (f2657 : Nat → Int32) (f2658 : Nat → Int32) (f2659 : Nat → Int32) (f2660 : Nat → Int32) (bp2648 : gB p2648 0 2048) (bp2649 : gB p2649 0 39) (bp2651 : gB p2651 0 512) (bp2653 : gB p2653 0 2048) (bp2655 : gB p2655 0 8192) (bf2660 : gF f2660 (-128) 127) : Ct (gV D I) l yX7_takeInput cX7_takeInput 3 (some FieldType.int) 2 44 0 0 [.ref q2641, .ref q2642] [(q2641, .inr (12, [.ref q2643, .ref q2644, .ref q2645, .ref q2646, .int p2648, .int p2649, .int p2650, .int p2651, .int p2652, .int p2653, .int p2654])), (q2642, .inr (15, [.ref q2647, .int p2655])), (q2643, .inl (I .int, 2048, .inl f2656)), (q2644, .inl (I .int, 100, .inl f2657)), (q2645, .inl (I .int, 100, .inl f2658)), (q2646, .inl (I .int, 512, .inl f2659)), (q2647, .inl (I .byte, 8192, .inl f2660))] (po_2661_Machine_takeInput I q2641 q2642 q2643 q2644 q2645 q2646 q2647 p2648 p2649 p2650 p2651 p2652 p2653 p2654 p2655 f2656 f2657 f2658 f2659 f2660) gN := by
  refine Ct_of hl0 (by decide) (Nat.le_of_ble_eq_true rfl) ?_
  have bp2650 := gB_any p2650
  have bp2652 := gB_any p2652
  have bp2654 := gB_any p2654
  refine G_aload_n 0 d_cX7_takeInput_0 rfl ?_
  refine G_aload_n 1 d_cX7_takeInput_1 rfl ?_
  refine G_callV (As := []) (wr := [(q2641, .inr (12, [.ref q2643, .ref q2644, .ref q2645, .ref q2646, .int p2648, .int p2649, .int p2650, .int p2651, .int p2652, .int p2653, .int p2654])), (q2643, .inl (I .int, 2048, .inl f2656)), (q2644, .inl (I .int, 100, .inl f2657)), (q2645, .inl (I .int, 100, .inl f2658)), (q2646, .inl (I .int, 512, .inl f2659))]) (gV_ok D I) (ct_5_Tape_size l hl0 D I q2642 q2647 p2655 f2660 bp2655 bf2660) d_cX7_takeInput_2 ⟨w_4_176, w_1_2, w_3_19, by decide, rfl, (Nat.le_of_ble_eq_true rfl), (Nat.le_of_ble_eq_true rfl)⟩ w_3_17 w_3_18 1 rfl rfl [1, 6] [0, 2, 3, 4, 5] rfl rfl rfl rfl (by decide) (Nat.le_of_ble_eq_true rfl) (Nat.le_of_ble_eq_true rfl) (Nat.le_of_ble_eq_true rfl) (fun r w hp => ?_) (fun _ _ _ z => z.elim)
  obtain ⟨rfl, rfl⟩ := hp
  change G _ _ _ _ _ _ _ (.int p2655 :: _) _ _ _
  refine G_ws (ws' := [(q2641, .inr (12, [.ref q2643, .ref q2644, .ref q2645, .ref q2646, .int p2648, .int p2649, .int p2650, .int p2651, .int p2652, .int p2653, .int p2654])), (q2643, .inl (I .int, 2048, .inl f2656)), (q2644, .inl (I .int, 100, .inl f2657)), (q2645, .inl (I .int, 100, .inl f2658)), (q2646, .inl (I .int, 512, .inl f2659)), (q2642, .inr (15, [.ref q2647, .int p2655])), (q2647, .inl (I .byte, 8192, .inl f2660))]) (cs' := 0) (sl' := 0) rfl rfl rfl ?_
  refine G_iconst 4 d_cX7_takeInput_5 (by decide +kernel) ?_
  refine G_idiv d_cX7_takeInput_6 (by decide) (G_nam fun z2662 hz2662 => ?_)
  have ez2662 : z2662.toInt = p2655.toInt / 4 := gI_div hz2662 bp2655 (by decide) (by decide) (by decide)
  have bz2662 : gB z2662 0 2048 := ⟨by omega, by omega⟩
  refine G_aload_n 0 d_cX7_takeInput_7 rfl ?_
  refine G_getf 0 0 d_cX7_takeInput_8 rfl (gk_X7 D I) (Nat.le_of_ble_eq_true rfl) w_2_160 rfl ?_
  refine G_alen 2048 1 0 d_cX7_takeInput_11 rfl rfl rfl ?_
  refine G_mmin d_cX7_takeInput_12 w_4_177 w_3_227 w_1_6 w_3_228 (Nat.le_of_ble_eq_true rfl) (Nat.le_of_ble_eq_true rfl) (Nat.le_of_ble_eq_true rfl) (Nat.le_of_ble_eq_true rfl) (G_nam fun z2663 hz2663 => ?_)
  have ez2663 : z2662.toInt ≥ z2663.toInt ∧ 2048 ≥ z2663.toInt ∧ (z2663.toInt = z2662.toInt ∨ z2663.toInt = 2048) := by have := gI_min hz2663; rw [show Int32.toInt 2048 = 2048 from by decide] at this; omega
  have bz2663 : gB z2663 0 2048 := ⟨by omega, by omega⟩
  refine G_putf (ws' := [(q2641, .inr (12, [.ref q2643, .ref q2644, .ref q2645, .ref q2646, .int z2663, .int p2649, .int p2650, .int p2651, .int p2652, .int p2653, .int p2654])), (q2643, .inl (I .int, 2048, .inl f2656)), (q2644, .inl (I .int, 100, .inl f2657)), (q2645, .inl (I .int, 100, .inl f2658)), (q2646, .inl (I .int, 512, .inl f2659)), (q2642, .inr (15, [.ref q2647, .int p2655])), (q2647, .inl (I .byte, 8192, .inl f2660))]) 0 4 d_cX7_takeInput_15 rfl (gk_X7 D I) (Nat.le_of_ble_eq_true rfl) w_2_164 rfl rfl rfl (Nat.le_of_ble_eq_true rfl) rfl ?_
  refine G_iconst 0 d_cX7_takeInput_18 (by decide +kernel) ?_
  refine G_istore_n (L' := [(2, .int 0), (0, .ref q2641), (1, .ref q2642)]) d_cX7_takeInput_19 (Nat.le_of_ble_eq_true rfl) rfl ?_
  have hlp20_2721 : ∀ (n20_2721 : Nat) (g2720 : Int32) (f2721 : Nat → Int32), gB g2720 0 2048 → gF f2721 (-2147483648) 2147483647 → (∀ (k : Nat) (e1 : Nat → Int32), tl_Machine_takeInput_20 z2663 p2655 f2660 g2720 f2721 k e1 → tl_Machine_takeInput_20 z2663 p2655 f2660 (0 : Int32) f2656 k e1) → ((2049 : Int) - g2720.toInt).toNat < n20_2721 → G (gV D I) l (gRm 2 44 0 0) (gM (gV D I) (po_2661_Machine_takeInput I q2641 q2642 q2643 q2644 q2645 q2646 q2647 p2648 p2649 p2650 p2651 p2652 p2653 p2654 p2655 f2656 f2657 f2658 f2659 f2660) gN 0 0) ky_2661_Machine_takeInput 20 [(2, .int g2720), (0, .ref q2641), (1, .ref q2642)] [] [(q2641, .inr (12, [.ref q2643, .ref q2644, .ref q2645, .ref q2646, .int z2663, .int p2649, .int p2650, .int p2651, .int p2652, .int p2653, .int p2654])), (q2643, .inl (I .int, 2048, .inl f2721)), (q2644, .inl (I .int, 100, .inl f2657)), (q2645, .inl (I .int, 100, .inl f2658)), (q2646, .inl (I .int, 512, .inl f2659)), (q2642, .inr (15, [.ref q2647, .int p2655])), (q2647, .inl (I .byte, 8192, .inl f2660))] 0 0 := by
    intro n20_2721
    induction n20_2721 with
    | zero => intro g2720 f2721 bg2720 bf2721 kt20_2721 hm20_2721; exact absurd hm20_2721 (Nat.not_lt_zero _)
    | succ n20_2721 ih20_2721 =>
      intro g2720 f2721 bg2720 bf2721 kt20_2721 hm20_2721
      refine G_iload_n 0 d_cX7_takeInput_20 rfl ?_
      refine G_aload_n 1 d_cX7_takeInput_21 rfl ?_
      refine G_getf 0 4 d_cX7_takeInput_22 rfl (gk_X7 D I) (Nat.le_of_ble_eq_true rfl) w_2_164 rfl ?_
      refine G_icmp_ge 47 d_cX7_takeInput_25 (by decide +kernel) (fun hc2722 => ?_) (fun hc2722 => ?_)
      · have r2723 : z2663.toInt ≤ g2720.toInt := gC_le hc2722
        have hx2724 : tl_Machine_takeInput_20 z2663 p2655 f2660 (0 : Int32) f2656 47 f2721 := kt20_2721 47 f2721 (fun R c1 c2 => c1 g2720 f2721 bg2720 r2723)
        refine G_aload_n 1 d_cX7_takeInput_47 rfl ?_
        refine G_getf 0 4 d_cX7_takeInput_48 rfl (gk_X7 D I) (Nat.le_of_ble_eq_true rfl) w_2_164 rfl ?_
        refine G_sub (ws' := [(q2641, .inr (12, [.ref q2643, .ref q2644, .ref q2645, .ref q2646, .int z2663, .int p2649, .int p2650, .int p2651, .int p2652, .int p2653, .int p2654])), (q2642, .inr (15, [.ref q2647, .int p2655])), (q2643, .inl (I .int, 2048, .inl f2721)), (q2644, .inl (I .int, 100, .inl f2657)), (q2645, .inl (I .int, 100, .inl f2658)), (q2646, .inl (I .int, 512, .inl f2659)), (q2647, .inl (I .byte, 8192, .inl f2660))]) [0, 5, 1, 2, 3, 4, 6] rfl rfl ?_
        exact G_iret d_cX7_takeInput_51 rfl (Nat.le_of_ble_eq_true rfl) (Nat.le_of_ble_eq_true rfl) ⟨z2663, z2663, f2721, rfl, rfl, bz2663, bz2663, bf2721, (by omega), (fun R c1 => c1 z2662 z2663 f2721 ez2662 ez2663 hx2724)⟩
      · have r2725 : g2720.toInt < z2663.toInt := gC_nle hc2722
        have bg2720' : gB g2720 0 2047 := ⟨by omega, by omega⟩
        have bz2663' : gB z2663 1 2048 := ⟨by omega, by omega⟩
        refine G_aload_n 1 d_cX7_takeInput_28 rfl ?_
        refine G_getf 0 0 d_cX7_takeInput_29 rfl (gk_X7 D I) (Nat.le_of_ble_eq_true rfl) w_2_160 rfl ?_
        refine G_iload_n 0 d_cX7_takeInput_32 rfl ?_
        refine G_aload_n 2 d_cX7_takeInput_33 rfl ?_
        refine G_iconst 4 d_cX7_takeInput_34 (by decide +kernel) ?_
        refine G_iload_n 0 d_cX7_takeInput_35 rfl ?_
        refine G_imul d_cX7_takeInput_36 (G_nam fun z2726 hz2726 => ?_)
        have ez2726 : z2726.toInt = 4 * g2720.toInt := by rw [gI_mul hz2726 (gBl (show Int32.toInt 4 = 4 by decide)) bg2720' (by decide) (by decide) (by decide), show Int32.toInt 4 = 4 from by decide]
        have bz2726 : gB z2726 0 8188 := gB_mul hz2726 (gBl (show Int32.toInt 4 = 4 by decide)) bg2720' (by decide) (by decide) (by decide) (by decide)
        refine G_callV (As := [.int z2726]) (wr := [(q2641, .inr (12, [.ref q2643, .ref q2644, .ref q2645, .ref q2646, .int z2663, .int p2649, .int p2650, .int p2651, .int p2652, .int p2653, .int p2654])), (q2643, .inl (I .int, 2048, .inl f2721)), (q2644, .inl (I .int, 100, .inl f2657)), (q2645, .inl (I .int, 100, .inl f2658)), (q2646, .inl (I .int, 512, .inl f2659))]) (gV_ok D I) (ct_141_Tape_intAt l hl0 D I q2642 q2647 z2726 p2655 f2660 bp2655 bf2660) d_cX7_takeInput_37 ⟨w_4_178, w_1_2, w_4_181, by decide, rfl, (Nat.le_of_ble_eq_true rfl), (Nat.le_of_ble_eq_true rfl)⟩ w_4_179 w_4_180 5 rfl rfl [5, 6] [0, 1, 2, 3, 4] rfl rfl rfl rfl (by decide) (Nat.le_of_ble_eq_true rfl) (Nat.le_of_ble_eq_true rfl) (Nat.le_of_ble_eq_true rfl) (fun r w hp => ?_) (fun _ _ _ z => z.elim)
        obtain ⟨o2727, rfl, rfl, bo2727, ht2728⟩ := hp
        change G _ _ _ _ _ _ _ (.int o2727 :: _) _ _ _
        refine G_ws (ws' := [(q2641, .inr (12, [.ref q2643, .ref q2644, .ref q2645, .ref q2646, .int z2663, .int p2649, .int p2650, .int p2651, .int p2652, .int p2653, .int p2654])), (q2643, .inl (I .int, 2048, .inl f2721)), (q2644, .inl (I .int, 100, .inl f2657)), (q2645, .inl (I .int, 100, .inl f2658)), (q2646, .inl (I .int, 512, .inl f2659)), (q2642, .inr (15, [.ref q2647, .int p2655])), (q2647, .inl (I .byte, 8192, .inl f2660))]) (cs' := 0) (sl' := 0) rfl rfl rfl ?_
        refine G_iastN 1 0 d_cX7_takeInput_40 rfl rfl (gB_in bg2720' (by decide) (by decide)) (fun f2729 hf2729 => ?_)
        refine G_ws (ws' := [(q2641, .inr (12, [.ref q2643, .ref q2644, .ref q2645, .ref q2646, .int z2663, .int p2649, .int p2650, .int p2651, .int p2652, .int p2653, .int p2654])), (q2643, .inl (I .int, 2048, .inl f2729)), (q2644, .inl (I .int, 100, .inl f2657)), (q2645, .inl (I .int, 100, .inl f2658)), (q2646, .inl (I .int, 512, .inl f2659)), (q2642, .inr (15, [.ref q2647, .int p2655])), (q2647, .inl (I .byte, 8192, .inl f2660))]) (cs' := 0) (sl' := 0) rfl rfl rfl ?_
        obtain ⟨z2730, hz2730⟩ : ∃ z : Int32, z = g2720 + Int32.ofInt 1 := ⟨_, rfl⟩
        have ez2730 : z2730.toInt = g2720.toInt + 1 := gI_inc hz2730 (by decide) bg2720' (by decide) (by decide)
        have bz2730 : gB z2730 1 2048 := ⟨by omega, by omega⟩
        refine G_iinc (L' := [(2, .int z2730), (0, .ref q2641), (1, .ref q2642)]) z2730 0 d_cX7_takeInput_41 rfl hz2730.symm (Nat.le_of_ble_eq_true rfl) rfl ?_
        refine G_goto 20 d_cX7_takeInput_44 (by decide +kernel) ?_
        exact ih20_2721 z2730 f2729 (gB_w bz2730 (by decide) (by decide)) (gF_any f2729) (fun k e1 ht => kt20_2721 k e1 (fun R c1 c2 => c2 g2720 f2721 z2726 o2727 f2729 z2730 k e1 bg2720 r2725 ez2726 ht2728 hf2729 ez2730 (ht R c1 c2))) (by omega)
  exact hlp20_2721 (((2049 : Int) - 0).toNat + 1) 0 f2656 (gB_w (gBl (show Int32.toInt 0 = 0 by decide)) (by decide) (by decide)) (gF_any f2656) (fun k e1 ht => ht) (Nat.lt_succ_self _)
/- tl_Arrays_fill3_5: l2, z; out: z -/
def tl_Arrays_fill3_5 (a1 : Int32) (s1 : Int32) (s2 : Nat → Int32) (k : Nat) (e1 : Nat → Int32) : Prop := ∀ R : (Int32) → (Nat → Int32) → Nat → (Nat → Int32) → Prop,
  (∀ (l2_1 : Int32) (z_1 : Nat → Int32), gB l2_1 0 100 → 100 ≤ l2_1.toInt → R l2_1 z_1 20 z_1) →
  (∀ (l2_1 : Int32) (z_1 : Nat → Int32) (x1 : Nat → Int32) (x2 : Int32) (k : Nat) (e1 : Nat → Int32), gB l2_1 0 100 → l2_1.toInt < 100 → x1 = upd z_1 l2_1.toNatClampNeg a1 → x2.toInt = l2_1.toInt + 1 → R x2 x1 k e1 → R l2_1 z_1 k e1) →
  R s1 s2 k e1
/- tr_Arrays_fill3: z -/
def tr_Arrays_fill3 (a1 : Int32) (p : Nat → Int32) (o1 : Nat → Int32) : Prop := ∀ R : (Nat → Int32) → Prop,
  (∀ (x1 : Nat → Int32), tl_Arrays_fill3_5 a1 (0 : Int32) p 20 x1 → R x1) →
  R o1
abbrev ky_2777_Arrays_fill : gKey := (cJ7_fill_53178, 4, yJ7_fill_53178.cls, none, [], yJ7_fill_53178.name, fun _ _ => True)
abbrev po_2777_Arrays_fill (I : FieldType → ClassId) (q2774 : Nat) (p2775 : Int32) (f2776 : Nat → Int32) : Option Value → va_W → Prop := fun r w => ∃ (f2813 : Nat → Int32), r = none ∧ w = [(q2774, .inl (I .int, 100, .inl f2813))] ∧ gF f2813 (-2147483648) 2147483647 ∧ tr_Arrays_fill3 p2775 f2776 f2813
set_option maxRecDepth 100000 in
set_option maxHeartbeats 4000000 in
theorem ct_2777_Arrays_fill (l : Launch) (hl0 : l.stackTraces = false) (D : va_G) (I : FieldType → ClassId) (q2774 : Nat) (p2775 : Int32) (f2776 : Nat → Int32)  : Ct (gV D I) l yJ7_fill_53178 cJ7_fill_53178 4 none 0 0 0 0 [.ref q2774, .int p2775] [(q2774, .inl (I .int, 100, .inl f2776))] (po_2777_Arrays_fill I q2774 p2775 f2776) gN := by
  refine Ct_ofF hl0 (by decide +kernel) (Nat.le_of_ble_eq_true rfl) ?_
  have bp2775 := gB_any p2775
  refine G_iconst 0 d_cJ7_fill_53178_0 (by decide +kernel) ?_
  refine G_istore_n (L' := [(2, .int 0), (0, .ref q2774), (1, .int p2775)]) d_cJ7_fill_53178_1 (Nat.le_of_ble_eq_true rfl) rfl ?_
  refine G_aload_n 1 d_cJ7_fill_53178_2 rfl ?_
  refine G_alen 100 0 0 d_cJ7_fill_53178_3 rfl rfl rfl ?_
  refine G_istore_n (L' := [(3, .int 100), (2, .int 0), (0, .ref q2774), (1, .int p2775)]) d_cJ7_fill_53178_4 (Nat.le_of_ble_eq_true rfl) rfl ?_
  have hlp5_2806 : ∀ (n5_2806 : Nat) (g2805 : Int32) (f2806 : Nat → Int32), gB g2805 0 100 → gF f2806 (-2147483648) 2147483647 → (∀ (k : Nat) (e1 : Nat → Int32), tl_Arrays_fill3_5 p2775 g2805 f2806 k e1 → tl_Arrays_fill3_5 p2775 (0 : Int32) f2776 k e1) → ((101 : Int) - g2805.toInt).toNat < n5_2806 → G (gV D I) l (gRm 0 0 0 0) (gM (gV D I) (po_2777_Arrays_fill I q2774 p2775 f2776) gN 0 0) ky_2777_Arrays_fill 5 [(3, .int 100), (2, .int g2805), (0, .ref q2774), (1, .int p2775)] [] [(q2774, .inl (I .int, 100, .inl f2806))] 0 0 := by
    intro n5_2806
    induction n5_2806 with
    | zero => intro g2805 f2806 bg2805 bf2806 kt5_2806 hm5_2806; exact absurd hm5_2806 (Nat.not_lt_zero _)
    | succ n5_2806 ih5_2806 =>
      intro g2805 f2806 bg2805 bf2806 kt5_2806 hm5_2806
      refine G_iload_n 1 d_cJ7_fill_53178_5 rfl ?_
      refine G_iload_n 0 d_cJ7_fill_53178_6 rfl ?_
      refine G_icmp_ge 20 d_cJ7_fill_53178_7 (by decide +kernel) (fun hc2807 => ?_) (fun hc2807 => ?_)
      · have r2808 : 100 ≤ g2805.toInt := gj_leL hc2807 (show Int32.toInt 100 = 100 by decide)
        have bg2805' : gB g2805 100 100 := ⟨by omega, by omega⟩
        have hx2809 : tl_Arrays_fill3_5 p2775 (0 : Int32) f2776 20 f2806 := kt5_2806 20 f2806 (fun R c1 c2 => c1 g2805 f2806 bg2805 r2808)
        exact G_vret d_cJ7_fill_53178_20 rfl (Nat.le_of_ble_eq_true rfl) (Nat.le_of_ble_eq_true rfl) ⟨f2806, rfl, rfl, bf2806, (fun R c1 => c1 f2806 hx2809)⟩
      · have r2810 : g2805.toInt < 100 := gj_nleL hc2807 (show Int32.toInt 100 = 100 by decide)
        have bg2805' : gB g2805 0 99 := ⟨by omega, by omega⟩
        refine G_aload_n 2 d_cJ7_fill_53178_10 rfl ?_
        refine G_iload_n 1 d_cJ7_fill_53178_11 rfl ?_
        refine G_iload_n 3 d_cJ7_fill_53178_12 rfl ?_
        refine G_iastN 0 0 d_cJ7_fill_53178_13 rfl rfl (gB_in bg2805' (by decide) (by decide)) (fun f2811 hf2811 => ?_)
        refine G_ws (ws' := [(q2774, .inl (I .int, 100, .inl f2811))]) (cs' := 0) (sl' := 0) rfl rfl rfl ?_
        obtain ⟨z2812, hz2812⟩ : ∃ z : Int32, z = g2805 + Int32.ofInt 1 := ⟨_, rfl⟩
        have ez2812 : z2812.toInt = g2805.toInt + 1 := gI_inc hz2812 (by decide) bg2805' (by decide) (by decide)
        have bz2812 : gB z2812 1 100 := ⟨by omega, by omega⟩
        refine G_iinc (L' := [(2, .int z2812), (3, .int 100), (0, .ref q2774), (1, .int p2775)]) z2812 1 d_cJ7_fill_53178_14 rfl hz2812.symm (Nat.le_of_ble_eq_true rfl) rfl ?_
        refine G_goto 5 d_cJ7_fill_53178_17 (by decide +kernel) ?_
        refine G_lv (L' := [(3, .int 100), (2, .int z2812), (0, .ref q2774), (1, .int p2775)]) [1, 0, 2, 3] rfl ?_
        exact ih5_2806 z2812 f2811 (gB_w bz2812 (by decide) (by decide)) (gF_any f2811) (fun k e1 ht => kt5_2806 k e1 (fun R c1 c2 => c2 g2805 f2806 f2811 z2812 k e1 bg2805 r2810 hf2811 ez2812 (ht R c1 c2))) (by have qa0 : Int32.toInt 100 = 100 := (by decide); omega)
  exact hlp5_2806 (((101 : Int) - 0).toNat + 1) 0 f2776 (gB_w (gBl (show Int32.toInt 0 = 0 by decide)) (by decide) (by decide)) (gF_any f2776) (fun k e1 ht => ht) (Nat.lt_succ_self _)
/- tr_Machine_halt: Machine_ending -/
def tr_Machine_halt (a1 : Int32) (o1 : Int32) : Prop := ∀ R : (Int32) → Prop,
  (R a1) →
  R o1
abbrev ky_2837_Machine_halt : gKey := (cX7_halt, 2, yX7_halt.cls, (some FieldType.int), [], yX7_halt.name, fun _ _ => True)
abbrev po_2837_Machine_halt (I : FieldType → ClassId) (q2820 : Nat) (q2821 : Nat) (q2822 : Nat) (q2823 : Nat) (q2824 : Nat) (p2825 : Int32) (p2826 : Int32) (p2827 : Int32) (p2828 : Int32) (p2829 : Int32) (p2830 : Int32) (p2831 : Int32) (p2832 : Int32) (f2833 : Nat → Int32) (f2834 : Nat → Int32) (f2835 : Nat → Int32) (f2836 : Nat → Int32) : Option Value → va_W → Prop := fun r w => ∃ (o2838 : Int32), r = some (.int (-1)) ∧ w = [(q2820, .inr (12, [.ref q2821, .ref q2822, .ref q2823, .ref q2824, .int p2826, .int p2827, .int p2828, .int p2829, .int p2830, .int p2831, .int o2838])), (q2821, .inl (I .int, 2048, .inl f2833)), (q2822, .inl (I .int, 100, .inl f2834)), (q2823, .inl (I .int, 100, .inl f2835)), (q2824, .inl (I .int, 512, .inl f2836))] ∧ gB o2838 (-2147483648) 2147483647 ∧ tr_Machine_halt p2825 o2838
set_option maxRecDepth 100000 in
set_option maxHeartbeats 4000000 in
theorem ct_2837_Machine_halt (l : Launch) (hl0 : l.stackTraces = false) (D : va_G) (I : FieldType → ClassId) (q2820 : Nat) (q2821 : Nat) (q2822 : Nat) (q2823 : Nat) (q2824 : Nat) (p2825 : Int32) (p2826 : Int32) (p2827 : Int32) (p2828 : Int32) (p2829 : Int32) (p2830 : Int32) (p2831 : Int32) (p2832 : Int32) (f2833 : Nat → Int32) (f2834 : Nat → Int32) (f2835 : Nat → Int32) (f2836 : Nat → Int32) (bp2826 : gB p2826 0 2048) (bp2827 : gB p2827 0 39) (bp2829 : gB p2829 0 512) (bp2831 : gB p2831 0 2048) : Ct (gV D I) l yX7_halt cX7_halt 2 (some FieldType.int) 0 0 0 0 [.ref q2820, .int p2825] [(q2820, .inr (12, [.ref q2821, .ref q2822, .ref q2823, .ref q2824, .int p2826, .int p2827, .int p2828, .int p2829, .int p2830, .int p2831, .int p2832])), (q2821, .inl (I .int, 2048, .inl f2833)), (q2822, .inl (I .int, 100, .inl f2834)), (q2823, .inl (I .int, 100, .inl f2835)), (q2824, .inl (I .int, 512, .inl f2836))] (po_2837_Machine_halt I q2820 q2821 q2822 q2823 q2824 p2825 p2826 p2827 p2828 p2829 p2830 p2831 p2832 f2833 f2834 f2835 f2836) gN := by
  refine Ct_of hl0 (by decide) (Nat.le_of_ble_eq_true rfl) ?_
  have bp2825 := gB_any p2825
  have bp2828 := gB_any p2828
  have bp2830 := gB_any p2830
  have bp2832 := gB_any p2832
  refine G_aload_n 0 d_cX7_halt_0 rfl ?_
  refine G_iload_n 1 d_cX7_halt_1 rfl ?_
  refine G_putf (ws' := [(q2820, .inr (12, [.ref q2821, .ref q2822, .ref q2823, .ref q2824, .int p2826, .int p2827, .int p2828, .int p2829, .int p2830, .int p2831, .int p2825])), (q2821, .inl (I .int, 2048, .inl f2833)), (q2822, .inl (I .int, 100, .inl f2834)), (q2823, .inl (I .int, 100, .inl f2835)), (q2824, .inl (I .int, 512, .inl f2836))]) 0 10 d_cX7_halt_2 rfl (gk_X7 D I) (Nat.le_of_ble_eq_true rfl) w_2_170 rfl rfl rfl (Nat.le_of_ble_eq_true rfl) rfl ?_
  refine G_iconst (-1) d_cX7_halt_5 (by decide +kernel) ?_
  exact G_iret d_cX7_halt_6 rfl (Nat.le_of_ble_eq_true rfl) (Nat.le_of_ble_eq_true rfl) ⟨p2825, rfl, rfl, bp2825, (fun R c1 => c1)⟩
/- tr_Machine_valueOf: result -/
def tr_Machine_valueOf (a1 : Int32) (a2 : Int32) (Machine_registers : Nat → Int32) (o1 : Int32) : Prop := ∀ R : (Int32) → Prop,
  (a1.toInt < 0 → R a2) →
  (0 ≤ a1.toInt → 100 ≤ a1.toInt → R a2) →
  (∀ (x1 : Int32), 0 ≤ a1.toInt → a1.toInt < 100 → x1 = Machine_registers a1.toNatClampNeg → R x1) →
  R o1
abbrev ky_2903_Machine_valueOf : gKey := (cX7_valueOf, 3, yX7_valueOf.cls, (some FieldType.int), [], yX7_valueOf.name, fun _ _ => True)
abbrev po_2903_Machine_valueOf (I : FieldType → ClassId) (q2885 : Nat) (q2886 : Nat) (q2887 : Nat) (q2888 : Nat) (q2889 : Nat) (p2890 : Int32) (p2891 : Int32) (p2892 : Int32) (p2893 : Int32) (p2894 : Int32) (p2895 : Int32) (p2896 : Int32) (p2897 : Int32) (p2898 : Int32) (f2899 : Nat → Int32) (f2900 : Nat → Int32) (f2901 : Nat → Int32) (f2902 : Nat → Int32) : Option Value → va_W → Prop := fun r w => (r = some (.int p2891) ∧ w = [(q2885, .inr (12, [.ref q2886, .ref q2887, .ref q2888, .ref q2889, .int p2892, .int p2893, .int p2894, .int p2895, .int p2896, .int p2897, .int p2898])), (q2886, .inl (I .int, 2048, .inl f2899)), (q2887, .inl (I .int, 100, .inl f2900)), (q2888, .inl (I .int, 100, .inl f2901)), (q2889, .inl (I .int, 512, .inl f2902))] ∧ p2890.toInt < 0 ∧ tr_Machine_valueOf p2890 p2891 f2900 p2891) ∨ (r = some (.int p2891) ∧ w = [(q2885, .inr (12, [.ref q2886, .ref q2887, .ref q2888, .ref q2889, .int p2892, .int p2893, .int p2894, .int p2895, .int p2896, .int p2897, .int p2898])), (q2886, .inl (I .int, 2048, .inl f2899)), (q2887, .inl (I .int, 100, .inl f2900)), (q2888, .inl (I .int, 100, .inl f2901)), (q2889, .inl (I .int, 512, .inl f2902))] ∧ 0 ≤ p2890.toInt ∧ 100 ≤ p2890.toInt ∧ tr_Machine_valueOf p2890 p2891 f2900 p2891) ∨ (∃ (z2910 : Int32), r = some (.int z2910) ∧ w = [(q2885, .inr (12, [.ref q2886, .ref q2887, .ref q2888, .ref q2889, .int p2892, .int p2893, .int p2894, .int p2895, .int p2896, .int p2897, .int p2898])), (q2886, .inl (I .int, 2048, .inl f2899)), (q2887, .inl (I .int, 100, .inl f2900)), (q2888, .inl (I .int, 100, .inl f2901)), (q2889, .inl (I .int, 512, .inl f2902))] ∧ 0 ≤ p2890.toInt ∧ p2890.toInt < 100 ∧ z2910 = f2900 p2890.toNatClampNeg ∧ gB z2910 (-2147483648) 2147483647 ∧ tr_Machine_valueOf p2890 p2891 f2900 z2910)
set_option maxRecDepth 100000 in
set_option maxHeartbeats 4000000 in
theorem ct_2903_Machine_valueOf (l : Launch) (hl0 : l.stackTraces = false) (D : va_G) (I : FieldType → ClassId) (q2885 : Nat) (q2886 : Nat) (q2887 : Nat) (q2888 : Nat) (q2889 : Nat) (p2890 : Int32) (p2891 : Int32) (p2892 : Int32) (p2893 : Int32) (p2894 : Int32) (p2895 : Int32) (p2896 : Int32) (p2897 : Int32) (p2898 : Int32) (f2899 : Nat → Int32) (f2900 : Nat → Int32) (f2901 : Nat → Int32) (f2902 : Nat → Int32) (bp2892 : gB p2892 0 2048) (bp2893 : gB p2893 0 39) (bp2895 : gB p2895 0 512) (bp2897 : gB p2897 0 2048) : Ct (gV D I) l yX7_valueOf cX7_valueOf 3 (some FieldType.int) 0 0 0 0 [.ref q2885, .int p2890, .int p2891] [(q2885, .inr (12, [.ref q2886, .ref q2887, .ref q2888, .ref q2889, .int p2892, .int p2893, .int p2894, .int p2895, .int p2896, .int p2897, .int p2898])), (q2886, .inl (I .int, 2048, .inl f2899)), (q2887, .inl (I .int, 100, .inl f2900)), (q2888, .inl (I .int, 100, .inl f2901)), (q2889, .inl (I .int, 512, .inl f2902))] (po_2903_Machine_valueOf I q2885 q2886 q2887 q2888 q2889 p2890 p2891 p2892 p2893 p2894 p2895 p2896 p2897 p2898 f2899 f2900 f2901 f2902) gN := by
  refine Ct_of hl0 (by decide) (Nat.le_of_ble_eq_true rfl) ?_
  have bp2890 := gB_any p2890
  have bp2891 := gB_any p2891
  have bp2894 := gB_any p2894
  have bp2896 := gB_any p2896
  have bp2898 := gB_any p2898
  refine G_iload_n 1 d_cX7_valueOf_0 rfl ?_
  refine G_if_lt 19 d_cX7_valueOf_1 (by decide +kernel) (fun hc2904 => ?_) (fun hc2904 => ?_)
  · have r2905 : p2890.toInt < 0 := gj_lt hc2904 (show Int32.toInt 0 = 0 by decide)
    have bp2890' : gB p2890 (-2147483648) (-1) := ⟨by omega, by omega⟩
    refine G_iload_n 2 d_cX7_valueOf_19 rfl ?_
    exact G_iret d_cX7_valueOf_20 rfl (Nat.le_of_ble_eq_true rfl) (Nat.le_of_ble_eq_true rfl) (Or.inl ⟨rfl, rfl, r2905, (fun R c1 c2 c3 => c1 r2905)⟩)
  · have r2906 : 0 ≤ p2890.toInt := gj_nlt hc2904 (show Int32.toInt 0 = 0 by decide)
    have bp2890' : gB p2890 0 2147483647 := ⟨by omega, by omega⟩
    refine G_iload_n 1 d_cX7_valueOf_4 rfl ?_
    refine G_bipush 100 d_cX7_valueOf_5 (by decide +kernel) ?_
    refine G_icmp_ge 19 d_cX7_valueOf_7 (by decide +kernel) (fun hc2907 => ?_) (fun hc2907 => ?_)
    · have r2908 : 100 ≤ p2890.toInt := gj_leL hc2907 (show Int32.toInt 100 = 100 by decide)
      have bp2890'' : gB p2890 100 2147483647 := ⟨by omega, by omega⟩
      refine G_iload_n 2 d_cX7_valueOf_19 rfl ?_
      exact G_iret d_cX7_valueOf_20 rfl (Nat.le_of_ble_eq_true rfl) (Nat.le_of_ble_eq_true rfl) (Or.inr (Or.inl ⟨rfl, rfl, r2906, r2908, (fun R c1 c2 c3 => c2 r2906 r2908)⟩))
    · have r2909 : p2890.toInt < 100 := gj_nleL hc2907 (show Int32.toInt 100 = 100 by decide)
      have bp2890'' : gB p2890 0 99 := ⟨by omega, by omega⟩
      refine G_aload_n 0 d_cX7_valueOf_10 rfl ?_
      refine G_getf 0 1 d_cX7_valueOf_11 rfl (gk_X7 D I) (Nat.le_of_ble_eq_true rfl) w_2_161 rfl ?_
      refine G_iload_n 1 d_cX7_valueOf_14 rfl ?_
      refine G_iald 2 0 d_cX7_valueOf_15 rfl rfl (gB_in bp2890'' (by decide) (by decide)) (G_nam fun z2910 hz2910 => ?_)
      have bz2910 : gB z2910 (-2147483648) 2147483647 := gB_any z2910
      refine G_goto 20 d_cX7_valueOf_16 (by decide +kernel) ?_
      exact G_iret d_cX7_valueOf_20 rfl (Nat.le_of_ble_eq_true rfl) (Nat.le_of_ble_eq_true rfl) (Or.inr (Or.inr (⟨z2910, rfl, rfl, r2906, r2909, hz2910, bz2910, (fun R c1 c2 c3 => c3 z2910 r2906 r2909 hz2910)⟩)))
/- tr_Machine_put: z -/
def tr_Machine_put (a1 : Int32) (a2 : Int32) (p : Nat → Int32) (o1 : Nat → Int32) : Prop := ∀ R : (Nat → Int32) → Prop,
  (a1.toInt < 0 → R p) →
  (0 ≤ a1.toInt → 100 ≤ a1.toInt → R p) →
  (∀ (x1 : Nat → Int32), 0 ≤ a1.toInt → a1.toInt < 100 → x1 = upd p a1.toNatClampNeg a2 → R x1) →
  R o1
