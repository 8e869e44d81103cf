section
theorem d_cJ7_fill_53178_0 : decode cJ7_fill_53178 0 = .ok (.iconst 0, 1) := by decide +kernel
theorem d_cJ7_fill_53178_1 : decode cJ7_fill_53178 1 = .ok (.istore_n 2, 1) := by decide +kernel
theorem d_cJ7_fill_53178_2 : decode cJ7_fill_53178 2 = .ok (.aload_n 0, 1) := by decide +kernel
theorem d_cJ7_fill_53178_3 : decode cJ7_fill_53178 3 = .ok (.arraylength, 1) := by decide +kernel
theorem d_cJ7_fill_53178_4 : decode cJ7_fill_53178 4 = .ok (.istore_n 3, 1) := by decide +kernel
theorem d_cJ7_fill_53178_5 : decode cJ7_fill_53178 5 = .ok (.iload_n 2, 1) := by decide +kernel
theorem d_cJ7_fill_53178_6 : decode cJ7_fill_53178 6 = .ok (.iload_n 3, 1) := by decide +kernel
theorem d_cJ7_fill_53178_7 : decode cJ7_fill_53178 7 = .ok (.if_icmp .ge 13, 3) := by decide +kernel
theorem d_cJ7_fill_53178_20 : decode cJ7_fill_53178 20 = .ok (.return_, 1) := by decide +kernel
theorem d_cJ7_fill_53178_10 : decode cJ7_fill_53178 10 = .ok (.aload_n 0, 1) := by decide +kernel
theorem d_cJ7_fill_53178_11 : decode cJ7_fill_53178 11 = .ok (.iload_n 2, 1) := by decide +kernel
theorem d_cJ7_fill_53178_12 : decode cJ7_fill_53178 12 = .ok (.iload_n 1, 1) := by decide +kernel
theorem d_cJ7_fill_53178_13 : decode cJ7_fill_53178 13 = .ok (.iastore, 1) := by decide +kernel
theorem d_cJ7_fill_53178_14 : decode cJ7_fill_53178 14 = .ok (.iinc 2 1, 3) := by decide +kernel
theorem d_cJ7_fill_53178_17 : decode cJ7_fill_53178 17 = .ok (.goto (-12), 3) := by decide +kernel
theorem d_cX6_walk_0 : decode cX6_walk 0 = .ok (.lload_n 1, 1) := by decide +kernel
theorem d_cX6_walk_1 : decode cX6_walk 1 = .ok (.lload_n 3, 1) := by decide +kernel
theorem d_cX6_walk_2 : decode cX6_walk 2 = .ok (.ldc2_w 62, 3) := by decide +kernel
theorem w_4_7 : (Jvm.Cond.constantLong "SpillForge$Loops" (62 : Nat) (-1 : Int64)) ∈ gw := gw_4 7 rfl rfl
theorem d_cX6_walk_5 : decode cX6_walk 5 = .ok (.lxor, 1) := by decide +kernel
theorem d_cX6_walk_6 : decode cX6_walk 6 = .ok (.land, 1) := by decide +kernel
theorem d_cX6_walk_7 : decode cX6_walk 7 = .ok (.lstore 5, 2) := by decide +kernel
theorem d_cX6_walk_9 : decode cX6_walk 9 = .ok (.iconst 0, 1) := by decide +kernel
theorem d_cX6_walk_10 : decode cX6_walk 10 = .ok (.istore 7, 2) := by decide +kernel
theorem d_cX6_walk_12 : decode cX6_walk 12 = .ok (.iload 7, 2) := by decide +kernel
theorem d_cX6_walk_14 : decode cX6_walk 14 = .ok (.aload_n 0, 1) := by decide +kernel
theorem d_cX6_walk_15 : decode cX6_walk 15 = .ok (.arraylength, 1) := by decide +kernel
theorem d_cX6_walk_16 : decode cX6_walk 16 = .ok (.if_icmp .ge 71, 3) := by decide +kernel
theorem d_cX6_walk_87 : decode cX6_walk 87 = .ok (.lload 5, 2) := by decide +kernel
theorem d_cX6_walk_89 : decode cX6_walk 89 = .ok (.lreturn, 1) := by decide +kernel
theorem d_cX6_walk_19 : decode cX6_walk 19 = .ok (.lload 5, 2) := by decide +kernel
theorem d_cX6_walk_21 : decode cX6_walk 21 = .ok (.lstore 8, 2) := by decide +kernel
theorem d_cX6_walk_23 : decode cX6_walk 23 = .ok (.iconst 0, 1) := by decide +kernel
theorem d_cX6_walk_24 : decode cX6_walk 24 = .ok (.istore 10, 2) := by decide +kernel
theorem d_cX6_walk_26 : decode cX6_walk 26 = .ok (.iload 10, 2) := by decide +kernel
theorem d_cX6_walk_28 : decode cX6_walk 28 = .ok (.aload_n 0, 1) := by decide +kernel
theorem d_cX6_walk_29 : decode cX6_walk 29 = .ok (.arraylength, 1) := by decide +kernel
theorem d_cX6_walk_30 : decode cX6_walk 30 = .ok (.if_icmp .ge 36, 3) := by decide +kernel
theorem d_cX6_walk_66 : decode cX6_walk 66 = .ok (.lload 8, 2) := by decide +kernel
theorem d_cX6_walk_68 : decode cX6_walk 68 = .ok (.lload 5, 2) := by decide +kernel
theorem d_cX6_walk_70 : decode cX6_walk 70 = .ok (.lcmp, 1) := by decide +kernel
theorem d_cX6_walk_71 : decode cX6_walk 71 = .ok (.ifCond .ne 6, 3) := by decide +kernel
theorem d_cX6_walk_77 : decode cX6_walk 77 = .ok (.lload 8, 2) := by decide +kernel
theorem d_cX6_walk_79 : decode cX6_walk 79 = .ok (.lstore 5, 2) := by decide +kernel
theorem d_cX6_walk_81 : decode cX6_walk 81 = .ok (.iinc 7 1, 3) := by decide +kernel
theorem d_cX6_walk_84 : decode cX6_walk 84 = .ok (.goto (-72), 3) := by decide +kernel
theorem d_cX6_walk_74 : decode cX6_walk 74 = .ok (.lload 5, 2) := by decide +kernel
theorem d_cX6_walk_76 : decode cX6_walk 76 = .ok (.lreturn, 1) := by decide +kernel
theorem d_cX6_walk_33 : decode cX6_walk 33 = .ok (.lload 5, 2) := by decide +kernel
theorem d_cX6_walk_35 : decode cX6_walk 35 = .ok (.iload 10, 2) := by decide +kernel
theorem d_cX6_walk_37 : decode cX6_walk 37 = .ok (.lshr, 1) := by decide +kernel
theorem d_cX6_walk_38 : decode cX6_walk 38 = .ok (.lconst 1, 1) := by decide +kernel
theorem d_cX6_walk_39 : decode cX6_walk 39 = .ok (.land, 1) := by decide +kernel
theorem d_cX6_walk_40 : decode cX6_walk 40 = .ok (.lconst 0, 1) := by decide +kernel
theorem d_cX6_walk_41 : decode cX6_walk 41 = .ok (.lcmp, 1) := by decide +kernel
theorem d_cX6_walk_42 : decode cX6_walk 42 = .ok (.ifCond .eq 18, 3) := by decide +kernel
theorem d_cX6_walk_60 : decode cX6_walk 60 = .ok (.iinc 10 1, 3) := by decide +kernel
theorem d_cX6_walk_63 : decode cX6_walk 63 = .ok (.goto (-37), 3) := by decide +kernel
theorem d_cX6_walk_45 : decode cX6_walk 45 = .ok (.lload 8, 2) := by decide +kernel
theorem d_cX6_walk_47 : decode cX6_walk 47 = .ok (.aload_n 0, 1) := by decide +kernel
theorem d_cX6_walk_48 : decode cX6_walk 48 = .ok (.iload 10, 2) := by decide +kernel
theorem d_cX6_walk_50 : decode cX6_walk 50 = .ok (.laload, 1) := by decide +kernel
theorem d_cX6_walk_51 : decode cX6_walk 51 = .ok (.lload_n 3, 1) := by decide +kernel
theorem d_cX6_walk_52 : decode cX6_walk 52 = .ok (.ldc2_w 62, 3) := by decide +kernel
theorem d_cX6_walk_55 : decode cX6_walk 55 = .ok (.lxor, 1) := by decide +kernel
theorem d_cX6_walk_56 : decode cX6_walk 56 = .ok (.land, 1) := by decide +kernel
theorem d_cX6_walk_57 : decode cX6_walk 57 = .ok (.lor, 1) := by decide +kernel
theorem d_cX6_walk_58 : decode cX6_walk 58 = .ok (.lstore 8, 2) := by decide +kernel
theorem d_cX6_link_0 : decode cX6_link 0 = .ok (.iload_n 2, 1) := by decide +kernel
theorem d_cX6_link_1 : decode cX6_link 1 = .ok (.ifCond .lt 33, 3) := by decide +kernel
theorem d_cX6_link_34 : decode cX6_link 34 = .ok (.return_, 1) := by decide +kernel
theorem d_cX6_link_4 : decode cX6_link 4 = .ok (.iload_n 2, 1) := by decide +kernel
theorem d_cX6_link_5 : decode cX6_link 5 = .ok (.bipush 40, 2) := by decide +kernel
theorem d_cX6_link_7 : decode cX6_link 7 = .ok (.if_icmp .ge 27, 3) := by decide +kernel
theorem d_cX6_link_10 : decode cX6_link 10 = .ok (.aload_n 0, 1) := by decide +kernel
theorem d_cX6_link_11 : decode cX6_link 11 = .ok (.getfield 9, 3) := by decide +kernel
theorem w_1_233 : (Jvm.Cond.fieldLink "SpillForge$Loops" (9 : Nat) "SpillForge$Loops" "goals" "[J") ∈ gw := gw_1 233 rfl rfl
theorem d_cX6_link_14 : decode cX6_link 14 = .ok (.iload_n 1, 1) := by decide +kernel
theorem d_cX6_link_15 : decode cX6_link 15 = .ok (.dup2, 1) := by decide +kernel
theorem d_cX6_link_16 : decode cX6_link 16 = .ok (.laload, 1) := by decide +kernel
theorem d_cX6_link_17 : decode cX6_link 17 = .ok (.lconst 1, 1) := by decide +kernel
theorem d_cX6_link_18 : decode cX6_link 18 = .ok (.iload_n 2, 1) := by decide +kernel
theorem d_cX6_link_19 : decode cX6_link 19 = .ok (.lshl, 1) := by decide +kernel
theorem d_cX6_link_20 : decode cX6_link 20 = .ok (.lor, 1) := by decide +kernel
theorem d_cX6_link_21 : decode cX6_link 21 = .ok (.lastore, 1) := by decide +kernel
theorem d_cX6_link_22 : decode cX6_link 22 = .ok (.aload_n 0, 1) := by decide +kernel
theorem d_cX6_link_23 : decode cX6_link 23 = .ok (.getfield 15, 3) := by decide +kernel
theorem w_1_234 : (Jvm.Cond.fieldLink "SpillForge$Loops" (15 : Nat) "SpillForge$Loops" "sources" "[J") ∈ gw := gw_1 234 rfl rfl
theorem d_cX6_link_26 : decode cX6_link 26 = .ok (.iload_n 2, 1) := by decide +kernel
theorem d_cX6_link_27 : decode cX6_link 27 = .ok (.dup2, 1) := by decide +kernel
theorem d_cX6_link_28 : decode cX6_link 28 = .ok (.laload, 1) := by decide +kernel
theorem d_cX6_link_29 : decode cX6_link 29 = .ok (.lconst 1, 1) := by decide +kernel
theorem d_cX6_link_30 : decode cX6_link 30 = .ok (.iload_n 1, 1) := by decide +kernel
theorem d_cX6_link_31 : decode cX6_link 31 = .ok (.lshl, 1) := by decide +kernel
theorem d_cX6_link_32 : decode cX6_link 32 = .ok (.lor, 1) := by decide +kernel
theorem d_cX6_link_33 : decode cX6_link 33 = .ok (.lastore, 1) := by decide +kernel
theorem d_cX6_loopOf_0 : decode cX6_loopOf 0 = .ok (.lconst 1, 1) := by decide +kernel
theorem d_cX6_loopOf_1 : decode cX6_loopOf 1 = .ok (.iload_n 1, 1) := by decide +kernel
theorem d_cX6_loopOf_2 : decode cX6_loopOf 2 = .ok (.lshl, 1) := by decide +kernel
theorem d_cX6_loopOf_3 : decode cX6_loopOf 3 = .ok (.lstore 4, 2) := by decide +kernel
theorem d_cX6_loopOf_5 : decode cX6_loopOf 5 = .ok (.aload_n 0, 1) := by decide +kernel
theorem d_cX6_loopOf_6 : decode cX6_loopOf 6 = .ok (.getfield 9, 3) := by decide +kernel
theorem d_cX6_loopOf_9 : decode cX6_loopOf 9 = .ok (.lconst 1, 1) := by decide +kernel
theorem d_cX6_loopOf_10 : decode cX6_loopOf 10 = .ok (.lload 4, 2) := by decide +kernel
theorem d_cX6_loopOf_12 : decode cX6_loopOf 12 = .ok (.invokestatic 50, 3) := by decide +kernel
theorem w_4_4 : (Jvm.Cond.methodLink "SpillForge$Loops" (50 : Nat) ({ cls := "SpillForge$Loops", name := "walk", desc := "([JJJ)J" } : Jvm.MethodName)) ∈ gw := gw_4 4 rfl rfl
theorem w_1_7 : (Jvm.Cond.initialized "SpillForge$Loops") ∈ gw := gw_1 7 rfl rfl
theorem w_4_6 : (Jvm.Cond.code ({ cls := "SpillForge$Loops", name := "walk", desc := "([JJJ)J" } : Jvm.MethodName) prog_8_method_8_code (11 : Nat) (Option.some Jvm.ClassFile.FieldType.long)) ∈ gw := gw_4 6 rfl rfl
theorem w_4_5 : (Jvm.Cond.static ({ cls := "SpillForge$Loops", name := "walk", desc := "([JJJ)J" } : Jvm.MethodName)) ∈ gw := gw_4 5 rfl rfl
theorem d_cX6_loopOf_15 : decode cX6_loopOf 15 = .ok (.lstore 6, 2) := by decide +kernel
theorem d_cX6_loopOf_17 : decode cX6_loopOf 17 = .ok (.aload_n 0, 1) := by decide +kernel
theorem d_cX6_loopOf_18 : decode cX6_loopOf 18 = .ok (.getfield 15, 3) := by decide +kernel
theorem d_cX6_loopOf_21 : decode cX6_loopOf 21 = .ok (.iload_n 1, 1) := by decide +kernel
theorem d_cX6_loopOf_22 : decode cX6_loopOf 22 = .ok (.laload, 1) := by decide +kernel
theorem d_cX6_loopOf_23 : decode cX6_loopOf 23 = .ok (.lload_n 2, 1) := by decide +kernel
theorem d_cX6_loopOf_24 : decode cX6_loopOf 24 = .ok (.land, 1) := by decide +kernel
theorem d_cX6_loopOf_25 : decode cX6_loopOf 25 = .ok (.lload 6, 2) := by decide +kernel
theorem d_cX6_loopOf_27 : decode cX6_loopOf 27 = .ok (.ldc2_w 62, 3) := by decide +kernel
theorem d_cX6_loopOf_30 : decode cX6_loopOf 30 = .ok (.lxor, 1) := by decide +kernel
theorem d_cX6_loopOf_31 : decode cX6_loopOf 31 = .ok (.land, 1) := by decide +kernel
theorem d_cX6_loopOf_32 : decode cX6_loopOf 32 = .ok (.lstore 8, 2) := by decide +kernel
theorem d_cX6_loopOf_34 : decode cX6_loopOf 34 = .ok (.lload 8, 2) := by decide +kernel
theorem d_cX6_loopOf_36 : decode cX6_loopOf 36 = .ok (.lconst 0, 1) := by decide +kernel
theorem d_cX6_loopOf_37 : decode cX6_loopOf 37 = .ok (.lcmp, 1) := by decide +kernel
theorem d_cX6_loopOf_38 : decode cX6_loopOf 38 = .ok (.ifCond .ne 7, 3) := by decide +kernel
theorem d_cX6_loopOf_45 : decode cX6_loopOf 45 = .ok (.lload 4, 2) := by decide +kernel
theorem d_cX6_loopOf_47 : decode cX6_loopOf 47 = .ok (.aload_n 0, 1) := by decide +kernel
theorem d_cX6_loopOf_48 : decode cX6_loopOf 48 = .ok (.getfield 15, 3) := by decide +kernel
theorem d_cX6_loopOf_51 : decode cX6_loopOf 51 = .ok (.lload 8, 2) := by decide +kernel
theorem d_cX6_loopOf_53 : decode cX6_loopOf 53 = .ok (.lload 4, 2) := by decide +kernel
theorem d_cX6_loopOf_55 : decode cX6_loopOf 55 = .ok (.lload_n 2, 1) := by decide +kernel
theorem d_cX6_loopOf_56 : decode cX6_loopOf 56 = .ok (.ldc2_w 62, 3) := by decide +kernel
theorem d_cX6_loopOf_59 : decode cX6_loopOf 59 = .ok (.lxor, 1) := by decide +kernel
theorem d_cX6_loopOf_60 : decode cX6_loopOf 60 = .ok (.lor, 1) := by decide +kernel
theorem d_cX6_loopOf_61 : decode cX6_loopOf 61 = .ok (.invokestatic 50, 3) := by decide +kernel
theorem d_cX6_loopOf_64 : decode cX6_loopOf 64 = .ok (.lor, 1) := by decide +kernel
theorem d_cX6_loopOf_65 : decode cX6_loopOf 65 = .ok (.lreturn, 1) := by decide +kernel
theorem d_cX6_loopOf_41 : decode cX6_loopOf 41 = .ok (.lconst 0, 1) := by decide +kernel
theorem d_cX6_loopOf_42 : decode cX6_loopOf 42 = .ok (.goto 23, 3) := by decide +kernel
theorem d_cX6_deepen_0 : decode cX6_deepen 0 = .ok (.iconst 0, 1) := by decide +kernel
theorem d_cX6_deepen_1 : decode cX6_deepen 1 = .ok (.istore_n 3, 1) := by decide +kernel
theorem d_cX6_deepen_2 : decode cX6_deepen 2 = .ok (.iload_n 3, 1) := by decide +kernel
theorem d_cX6_deepen_3 : decode cX6_deepen 3 = .ok (.bipush 40, 2) := by decide +kernel
theorem d_cX6_deepen_5 : decode cX6_deepen 5 = .ok (.if_icmp .ge 39, 3) := by decide +kernel
theorem d_cX6_deepen_44 : decode cX6_deepen 44 = .ok (.return_, 1) := by decide +kernel
theorem d_cX6_deepen_8 : decode cX6_deepen 8 = .ok (.lload_n 1, 1) := by decide +kernel
theorem d_cX6_deepen_9 : decode cX6_deepen 9 = .ok (.iload_n 3, 1) := by decide +kernel
theorem d_cX6_deepen_10 : decode cX6_deepen 10 = .ok (.lshr, 1) := by decide +kernel
theorem d_cX6_deepen_11 : decode cX6_deepen 11 = .ok (.lconst 1, 1) := by decide +kernel
theorem d_cX6_deepen_12 : decode cX6_deepen 12 = .ok (.land, 1) := by decide +kernel
theorem d_cX6_deepen_13 : decode cX6_deepen 13 = .ok (.lconst 0, 1) := by decide +kernel
theorem d_cX6_deepen_14 : decode cX6_deepen 14 = .ok (.lcmp, 1) := by decide +kernel
theorem d_cX6_deepen_15 : decode cX6_deepen 15 = .ok (.ifCond .eq 23, 3) := by decide +kernel
theorem d_cX6_deepen_38 : decode cX6_deepen 38 = .ok (.iinc 3 1, 3) := by decide +kernel
theorem d_cX6_deepen_41 : decode cX6_deepen 41 = .ok (.goto (-39), 3) := by decide +kernel
theorem d_cX6_deepen_18 : decode cX6_deepen 18 = .ok (.aload_n 0, 1) := by decide +kernel
theorem d_cX6_deepen_19 : decode cX6_deepen 19 = .ok (.getfield 18, 3) := by decide +kernel
theorem w_1_235 : (Jvm.Cond.fieldLink "SpillForge$Loops" (18 : Nat) "SpillForge$Loops" "depth" "[I") ∈ gw := gw_1 235 rfl rfl
theorem d_cX6_deepen_22 : decode cX6_deepen 22 = .ok (.iload_n 3, 1) := by decide +kernel
theorem d_cX6_deepen_23 : decode cX6_deepen 23 = .ok (.iaload, 1) := by decide +kernel
theorem d_cX6_deepen_24 : decode cX6_deepen 24 = .ok (.iconst 4, 1) := by decide +kernel
theorem d_cX6_deepen_25 : decode cX6_deepen 25 = .ok (.if_icmp .ge 13, 3) := by decide +kernel
theorem d_cX6_deepen_28 : decode cX6_deepen 28 = .ok (.aload_n 0, 1) := by decide +kernel
theorem d_cX6_deepen_29 : decode cX6_deepen 29 = .ok (.getfield 18, 3) := by decide +kernel
theorem d_cX6_deepen_32 : decode cX6_deepen 32 = .ok (.iload_n 3, 1) := by decide +kernel
theorem d_cX6_deepen_33 : decode cX6_deepen 33 = .ok (.dup2, 1) := by decide +kernel
theorem d_cX6_deepen_34 : decode cX6_deepen 34 = .ok (.iaload, 1) := by decide +kernel
theorem d_cX6_deepen_35 : decode cX6_deepen 35 = .ok (.iconst 1, 1) := by decide +kernel
theorem d_cX6_deepen_36 : decode cX6_deepen 36 = .ok (.iadd, 1) := by decide +kernel
theorem d_cX6_deepen_37 : decode cX6_deepen 37 = .ok (.iastore, 1) := by decide +kernel
theorem d_cX6_find_0 : decode cX6_find 0 = .ok (.aload_n 0, 1) := by decide +kernel
theorem d_cX6_find_1 : decode cX6_find 1 = .ok (.getfield 9, 3) := by decide +kernel
theorem d_cX6_find_4 : decode cX6_find 4 = .ok (.lconst 0, 1) := by decide +kernel
theorem d_cX6_find_5 : decode cX6_find 5 = .ok (.invokestatic 25, 3) := by decide +kernel
theorem w_3_234 : (Jvm.Cond.methodLink "SpillForge$Loops" (25 : Nat) ({ cls := "java/util/Arrays", name := "fill", desc := "([JJ)V" } : Jvm.MethodName)) ∈ gw := gw_3 234 rfl rfl
theorem w_1_30 : (Jvm.Cond.initialized "java/util/Arrays") ∈ gw := gw_1 30 rfl rfl
theorem w_3_236 : (Jvm.Cond.code ({ cls := "java/util/Arrays", name := "fill", desc := "([JJ)V" } : Jvm.MethodName) prog_44_method_101_code (5 : Nat) (Option.none : Option Jvm.ClassFile.FieldType)) ∈ gw := gw_3 236 rfl rfl
theorem w_3_235 : (Jvm.Cond.static ({ cls := "java/util/Arrays", name := "fill", desc := "([JJ)V" } : Jvm.MethodName)) ∈ gw := gw_3 235 rfl rfl
theorem d_cX6_find_8 : decode cX6_find 8 = .ok (.aload_n 0, 1) := by decide +kernel
theorem d_cX6_find_9 : decode cX6_find 9 = .ok (.getfield 15, 3) := by decide +kernel
theorem d_cX6_find_12 : decode cX6_find 12 = .ok (.lconst 0, 1) := by decide +kernel
theorem d_cX6_find_13 : decode cX6_find 13 = .ok (.invokestatic 25, 3) := by decide +kernel
theorem d_cX6_find_16 : decode cX6_find 16 = .ok (.aload_n 0, 1) := by decide +kernel
theorem d_cX6_find_17 : decode cX6_find 17 = .ok (.getfield 18, 3) := by decide +kernel
theorem d_cX6_find_20 : decode cX6_find 20 = .ok (.iconst 0, 1) := by decide +kernel
theorem d_cX6_find_21 : decode cX6_find 21 = .ok (.invokestatic 31, 3) := by decide +kernel
theorem w_3_237 : (Jvm.Cond.methodLink "SpillForge$Loops" (31 : Nat) ({ cls := "java/util/Arrays", name := "fill", desc := "([II)V" } : Jvm.MethodName)) ∈ gw := gw_3 237 rfl rfl
theorem w_3_239 : (Jvm.Cond.code ({ cls := "java/util/Arrays", name := "fill", desc := "([II)V" } : Jvm.MethodName) prog_44_method_103_code (4 : Nat) (Option.none : Option Jvm.ClassFile.FieldType)) ∈ gw := gw_3 239 rfl rfl
theorem w_3_238 : (Jvm.Cond.static ({ cls := "java/util/Arrays", name := "fill", desc := "([II)V" } : Jvm.MethodName)) ∈ gw := gw_3 238 rfl rfl
theorem d_cX6_find_24 : decode cX6_find 24 = .ok (.iconst 0, 1) := by decide +kernel
theorem d_cX6_find_25 : decode cX6_find 25 = .ok (.istore_n 2, 1) := by decide +kernel
theorem d_cX6_find_26 : decode cX6_find 26 = .ok (.iload_n 2, 1) := by decide +kernel
theorem d_cX6_find_27 : decode cX6_find 27 = .ok (.aload_n 1, 1) := by decide +kernel
theorem d_cX6_find_28 : decode cX6_find 28 = .ok (.getfield 34, 3) := by decide +kernel
theorem d_cX6_find_31 : decode cX6_find 31 = .ok (.if_icmp .ge 31, 3) := by decide +kernel
theorem d_cX6_find_62 : decode cX6_find 62 = .ok (.aload_n 0, 1) := by decide +kernel
theorem d_cX6_find_63 : decode cX6_find 63 = .ok (.getfield 9, 3) := by decide +kernel
theorem d_cX6_find_66 : decode cX6_find 66 = .ok (.lconst 1, 1) := by decide +kernel
theorem d_cX6_find_67 : decode cX6_find 67 = .ok (.lconst 0, 1) := by decide +kernel
theorem d_cX6_find_68 : decode cX6_find 68 = .ok (.invokestatic 50, 3) := by decide +kernel
theorem d_cX6_find_71 : decode cX6_find 71 = .ok (.lstore_n 2, 1) := by decide +kernel
theorem d_cX6_find_72 : decode cX6_find 72 = .ok (.iconst 0, 1) := by decide +kernel
theorem d_cX6_find_73 : decode cX6_find 73 = .ok (.istore 4, 2) := by decide +kernel
theorem d_cX6_find_75 : decode cX6_find 75 = .ok (.iload 4, 2) := by decide +kernel
theorem d_cX6_find_77 : decode cX6_find 77 = .ok (.aload_n 1, 1) := by decide +kernel
theorem d_cX6_find_78 : decode cX6_find 78 = .ok (.getfield 34, 3) := by decide +kernel
theorem d_cX6_find_81 : decode cX6_find 81 = .ok (.if_icmp .ge 20, 3) := by decide +kernel
theorem d_cX6_find_101 : decode cX6_find 101 = .ok (.return_, 1) := by decide +kernel
theorem d_cX6_find_84 : decode cX6_find 84 = .ok (.aload_n 0, 1) := by decide +kernel
theorem d_cX6_find_85 : decode cX6_find 85 = .ok (.aload_n 0, 1) := by decide +kernel
theorem d_cX6_find_86 : decode cX6_find 86 = .ok (.iload 4, 2) := by decide +kernel
theorem d_cX6_find_88 : decode cX6_find 88 = .ok (.lload_n 2, 1) := by decide +kernel
theorem d_cX6_find_89 : decode cX6_find 89 = .ok (.invokevirtual 54, 3) := by decide +kernel
theorem w_4_8 : (Jvm.Cond.methodLink "SpillForge$Loops" (54 : Nat) ({ cls := "SpillForge$Loops", name := "loopOf", desc := "(IJ)J" } : Jvm.MethodName)) ∈ gw := gw_4 8 rfl rfl
theorem w_4_11 : (Jvm.Cond.code ({ cls := "SpillForge$Loops", name := "loopOf", desc := "(IJ)J" } : Jvm.MethodName) prog_8_method_6_code (10 : Nat) (Option.some Jvm.ClassFile.FieldType.long)) ∈ gw := gw_4 11 rfl rfl
theorem w_4_10 : (Jvm.Cond.instanceMethod ({ cls := "SpillForge$Loops", name := "loopOf", desc := "(IJ)J" } : Jvm.MethodName)) ∈ gw := gw_4 10 rfl rfl
theorem w_p_27 : Cond.selects "SpillForge$Loops" ⟨"SpillForge$Loops", "loopOf", "(IJ)J"⟩ ⟨"SpillForge$Loops", "loopOf", "(IJ)J"⟩ ∈ gw := gw_p _ 27 rfl rfl rfl
theorem d_cX6_find_92 : decode cX6_find 92 = .ok (.invokevirtual 58, 3) := by decide +kernel
theorem w_4_12 : (Jvm.Cond.methodLink "SpillForge$Loops" (58 : Nat) ({ cls := "SpillForge$Loops", name := "deepen", desc := "(J)V" } : Jvm.MethodName)) ∈ gw := gw_4 12 rfl rfl
theorem w_4_15 : (Jvm.Cond.code ({ cls := "SpillForge$Loops", name := "deepen", desc := "(J)V" } : Jvm.MethodName) prog_8_method_7_code (4 : Nat) (Option.none : Option Jvm.ClassFile.FieldType)) ∈ gw := gw_4 15 rfl rfl
theorem w_4_14 : (Jvm.Cond.instanceMethod ({ cls := "SpillForge$Loops", name := "deepen", desc := "(J)V" } : Jvm.MethodName)) ∈ gw := gw_4 14 rfl rfl
theorem w_p_28 : Cond.selects "SpillForge$Loops" ⟨"SpillForge$Loops", "deepen", "(J)V"⟩ ⟨"SpillForge$Loops", "deepen", "(J)V"⟩ ∈ gw := gw_p _ 28 rfl rfl rfl
theorem d_cX6_find_95 : decode cX6_find 95 = .ok (.iinc 4 1, 3) := by decide +kernel
theorem d_cX6_find_98 : decode cX6_find 98 = .ok (.goto (-23), 3) := by decide +kernel
theorem d_cX6_find_34 : decode cX6_find 34 = .ok (.aload_n 0, 1) := by decide +kernel
theorem d_cX6_find_35 : decode cX6_find 35 = .ok (.iload_n 2, 1) := by decide +kernel
theorem d_cX6_find_36 : decode cX6_find 36 = .ok (.aload_n 1, 1) := by decide +kernel
theorem d_cX6_find_37 : decode cX6_find 37 = .ok (.getfield 40, 3) := by decide +kernel
theorem d_cX6_find_40 : decode cX6_find 40 = .ok (.iload_n 2, 1) := by decide +kernel
theorem d_cX6_find_41 : decode cX6_find 41 = .ok (.iaload, 1) := by decide +kernel
theorem d_cX6_find_42 : decode cX6_find 42 = .ok (.invokevirtual 43, 3) := by decide +kernel
theorem w_4_0 : (Jvm.Cond.methodLink "SpillForge$Loops" (43 : Nat) ({ cls := "SpillForge$Loops", name := "link", desc := "(II)V" } : Jvm.MethodName)) ∈ gw := gw_4 0 rfl rfl
theorem w_4_3 : (Jvm.Cond.code ({ cls := "SpillForge$Loops", name := "link", desc := "(II)V" } : Jvm.MethodName) prog_8_method_5_code (3 : Nat) (Option.none : Option Jvm.ClassFile.FieldType)) ∈ gw := gw_4 3 rfl rfl
theorem w_4_2 : (Jvm.Cond.instanceMethod ({ cls := "SpillForge$Loops", name := "link", desc := "(II)V" } : Jvm.MethodName)) ∈ gw := gw_4 2 rfl rfl
theorem w_p_26 : Cond.selects "SpillForge$Loops" ⟨"SpillForge$Loops", "link", "(II)V"⟩ ⟨"SpillForge$Loops", "link", "(II)V"⟩ ∈ gw := gw_p _ 26 rfl rfl rfl
theorem d_cX6_find_45 : decode cX6_find 45 = .ok (.aload_n 0, 1) := by decide +kernel
theorem d_cX6_find_46 : decode cX6_find 46 = .ok (.iload_n 2, 1) := by decide +kernel
theorem d_cX6_find_47 : decode cX6_find 47 = .ok (.aload_n 1, 1) := by decide +kernel
theorem d_cX6_find_48 : decode cX6_find 48 = .ok (.getfield 47, 3) := by decide +kernel
theorem d_cX6_find_51 : decode cX6_find 51 = .ok (.iload_n 2, 1) := by decide +kernel
theorem d_cX6_find_52 : decode cX6_find 52 = .ok (.iaload, 1) := by decide +kernel
theorem d_cX6_find_53 : decode cX6_find 53 = .ok (.invokevirtual 43, 3) := by decide +kernel
theorem d_cX6_find_56 : decode cX6_find 56 = .ok (.iinc 2 1, 3) := by decide +kernel
theorem d_cX6_find_59 : decode cX6_find 59 = .ok (.goto (-33), 3) := by decide +kernel
theorem d_cX7_takeInput_0 : decode cX7_takeInput 0 = .ok (.aload_n 0, 1) := by decide +kernel
theorem d_cX7_takeInput_1 : decode cX7_takeInput 1 = .ok (.aload_n 1, 1) := by decide +kernel
theorem d_cX7_takeInput_2 : decode cX7_takeInput 2 = .ok (.invokevirtual 28, 3) := by decide +kernel
theorem w_4_176 : (Jvm.Cond.methodLink "SpillForge$Machine" (28 : Nat) ({ cls := "SpillForge$Tape", name := "size", desc := "()I" } : Jvm.MethodName)) ∈ gw := gw_4 176 rfl rfl
theorem d_cX7_takeInput_5 : decode cX7_takeInput 5 = .ok (.iconst 4, 1) := by decide +kernel
theorem d_cX7_takeInput_6 : decode cX7_takeInput 6 = .ok (.idiv, 1) := by decide +kernel
theorem d_cX7_takeInput_7 : decode cX7_takeInput 7 = .ok (.aload_n 0, 1) := by decide +kernel
theorem d_cX7_takeInput_8 : decode cX7_takeInput 8 = .ok (.getfield 9, 3) := by decide +kernel
theorem w_2_160 : (Jvm.Cond.fieldLink "SpillForge$Machine" (9 : Nat) "SpillForge$Machine" "given" "[I") ∈ gw := gw_2 160 rfl rfl
theorem d_cX7_takeInput_11 : decode cX7_takeInput 11 = .ok (.arraylength, 1) := by decide +kernel
theorem d_cX7_takeInput_12 : decode cX7_takeInput 12 = .ok (.invokestatic 34, 3) := by decide +kernel
theorem w_4_177 : (Jvm.Cond.methodLink "SpillForge$Machine" (34 : Nat) ({ cls := "java/lang/Math", name := "min", desc := "(II)I" } : Jvm.MethodName)) ∈ gw := gw_4 177 rfl rfl
theorem d_cX7_takeInput_15 : decode cX7_takeInput 15 = .ok (.putfield 40, 3) := by decide +kernel
theorem w_2_164 : (Jvm.Cond.fieldLink "SpillForge$Machine" (40 : Nat) "SpillForge$Machine" "givens" "I") ∈ gw := gw_2 164 rfl rfl
theorem d_cX7_takeInput_18 : decode cX7_takeInput 18 = .ok (.iconst 0, 1) := by decide +kernel
theorem d_cX7_takeInput_19 : decode cX7_takeInput 19 = .ok (.istore_n 2, 1) := by decide +kernel
theorem d_cX7_takeInput_20 : decode cX7_takeInput 20 = .ok (.iload_n 2, 1) := by decide +kernel
theorem d_cX7_takeInput_21 : decode cX7_takeInput 21 = .ok (.aload_n 0, 1) := by decide +kernel
theorem d_cX7_takeInput_22 : decode cX7_takeInput 22 = .ok (.getfield 40, 3) := by decide +kernel
theorem d_cX7_takeInput_25 : decode cX7_takeInput 25 = .ok (.if_icmp .ge 22, 3) := by decide +kernel
theorem d_cX7_takeInput_47 : decode cX7_takeInput 47 = .ok (.aload_n 0, 1) := by decide +kernel
theorem d_cX7_takeInput_48 : decode cX7_takeInput 48 = .ok (.getfield 40, 3) := by decide +kernel
theorem d_cX7_takeInput_51 : decode cX7_takeInput 51 = .ok (.ireturn, 1) := by decide +kernel
theorem d_cX7_takeInput_28 : decode cX7_takeInput 28 = .ok (.aload_n 0, 1) := by decide +kernel
theorem d_cX7_takeInput_29 : decode cX7_takeInput 29 = .ok (.getfield 9, 3) := by decide +kernel
theorem d_cX7_takeInput_32 : decode cX7_takeInput 32 = .ok (.iload_n 2, 1) := by decide +kernel
theorem d_cX7_takeInput_33 : decode cX7_takeInput 33 = .ok (.aload_n 1, 1) := by decide +kernel
theorem d_cX7_takeInput_34 : decode cX7_takeInput 34 = .ok (.iconst 4, 1) := by decide +kernel
theorem d_cX7_takeInput_35 : decode cX7_takeInput 35 = .ok (.iload_n 2, 1) := by decide +kernel
theorem d_cX7_takeInput_36 : decode cX7_takeInput 36 = .ok (.imul, 1) := by decide +kernel
theorem d_cX7_takeInput_37 : decode cX7_takeInput 37 = .ok (.invokevirtual 43, 3) := by decide +kernel
theorem w_4_178 : (Jvm.Cond.methodLink "SpillForge$Machine" (43 : Nat) ({ cls := "SpillForge$Tape", name := "intAt", desc := "(I)I" } : Jvm.MethodName)) ∈ gw := gw_4 178 rfl rfl
theorem w_4_181 : (Jvm.Cond.code ({ cls := "SpillForge$Tape", name := "intAt", desc := "(I)I" } : Jvm.MethodName) prog_12_method_7_code (4 : Nat) (Option.some Jvm.ClassFile.FieldType.int)) ∈ gw := gw_4 181 rfl rfl
theorem w_4_179 : (Jvm.Cond.instanceMethod ({ cls := "SpillForge$Tape", name := "intAt", desc := "(I)I" } : Jvm.MethodName)) ∈ gw := gw_4 179 rfl rfl
theorem w_4_180 : (Jvm.Cond.selects "SpillForge$Tape" ({ cls := "SpillForge$Tape", name := "intAt", desc := "(I)I" } : Jvm.MethodName) ({ cls := "SpillForge$Tape", name := "intAt", desc := "(I)I" } : Jvm.MethodName)) ∈ gw := gw_4 180 rfl rfl
theorem d_cX7_takeInput_40 : decode cX7_takeInput 40 = .ok (.iastore, 1) := by decide +kernel
theorem d_cX7_takeInput_41 : decode cX7_takeInput 41 = .ok (.iinc 2 1, 3) := by decide +kernel
theorem d_cX7_takeInput_44 : decode cX7_takeInput 44 = .ok (.goto (-24), 3) := by decide +kernel
theorem d_cX7_halt_0 : decode cX7_halt 0 = .ok (.aload_n 0, 1) := by decide +kernel
theorem d_cX7_halt_1 : decode cX7_halt 1 = .ok (.iload_n 1, 1) := by decide +kernel
theorem d_cX7_halt_2 : decode cX7_halt 2 = .ok (.putfield 24, 3) := by decide +kernel
theorem w_2_170 : (Jvm.Cond.fieldLink "SpillForge$Machine" (24 : Nat) "SpillForge$Machine" "ending" "I") ∈ gw := gw_2 170 rfl rfl
theorem d_cX7_halt_5 : decode cX7_halt 5 = .ok (.iconst (-1), 1) := by decide +kernel
theorem d_cX7_halt_6 : decode cX7_halt 6 = .ok (.ireturn, 1) := by decide +kernel
theorem d_cX7_valueOf_0 : decode cX7_valueOf 0 = .ok (.iload_n 1, 1) := by decide +kernel
theorem d_cX7_valueOf_1 : decode cX7_valueOf 1 = .ok (.ifCond .lt 18, 3) := by decide +kernel
theorem d_cX7_valueOf_19 : decode cX7_valueOf 19 = .ok (.iload_n 2, 1) := by decide +kernel
theorem d_cX7_valueOf_20 : decode cX7_valueOf 20 = .ok (.ireturn, 1) := by decide +kernel
theorem d_cX7_valueOf_4 : decode cX7_valueOf 4 = .ok (.iload_n 1, 1) := by decide +kernel
theorem d_cX7_valueOf_5 : decode cX7_valueOf 5 = .ok (.bipush 100, 2) := by decide +kernel
theorem d_cX7_valueOf_7 : decode cX7_valueOf 7 = .ok (.if_icmp .ge 12, 3) := by decide +kernel
theorem d_cX7_valueOf_10 : decode cX7_valueOf 10 = .ok (.aload_n 0, 1) := by decide +kernel
theorem d_cX7_valueOf_11 : decode cX7_valueOf 11 = .ok (.getfield 15, 3) := by decide +kernel
theorem w_2_161 : (Jvm.Cond.fieldLink "SpillForge$Machine" (15 : Nat) "SpillForge$Machine" "registers" "[I") ∈ gw := gw_2 161 rfl rfl
theorem d_cX7_valueOf_14 : decode cX7_valueOf 14 = .ok (.iload_n 1, 1) := by decide +kernel
theorem d_cX7_valueOf_15 : decode cX7_valueOf 15 = .ok (.iaload, 1) := by decide +kernel
theorem d_cX7_valueOf_16 : decode cX7_valueOf 16 = .ok (.goto 4, 3) := by decide +kernel
abbrev ky_1128_Arrays_fill : gKey := (cJ7_fill_53178, 4, yJ7_fill_53178.cls, none, [], yJ7_fill_53178.name, fun _ _ => True)
abbrev po_1128_Arrays_fill (I : FieldType → ClassId) (q1125 : Nat) (p1126 : Int32) (f1127 : Nat → Int32) : Option Value → va_W → Prop := fun r w => ∃ (f1164 : Nat → Int32), r = none ∧ w = [(q1125, .inl (I .int, 40, .inl f1164))] ∧ gF f1164 (-2147483648) 2147483647 ∧ tr_Arrays_fill2 p1126 f1127 f1164
set_option maxRecDepth 100000 in
set_option maxHeartbeats 4000000 in
theorem ct_1128_Arrays_fill (l : Launch) (hl0 : l.stackTraces = false) (D : va_G) (I : FieldType → ClassId) (q1125 : Nat) (p1126 : Int32) (f1127 : Nat → Int32)  : Ct (gV D I) l yJ7_fill_53178 cJ7_fill_53178 4 none 0 0 0 0 [.ref q1125, .int p1126] [(q1125, .inl (I .int, 40, .inl f1127))] (po_1128_Arrays_fill I q1125 p1126 f1127) gN := by
  refine Ct_ofF hl0 (by decide +kernel) (Nat.le_of_ble_eq_true rfl) ?_
  have bp1126 := gB_any p1126
  refine G_iconst 0 d_cJ7_fill_53178_0 (by decide +kernel) ?_
  refine G_istore_n (L' := [(2, .int 0), (0, .ref q1125), (1, .int p1126)]) d_cJ7_fill_53178_1 (Nat.le_of_ble_eq_true rfl) rfl ?_
  refine G_aload_n 1 d_cJ7_fill_53178_2 rfl ?_
  refine G_alen 40 0 0 d_cJ7_fill_53178_3 rfl rfl rfl ?_
  refine G_istore_n (L' := [(3, .int 40), (2, .int 0), (0, .ref q1125), (1, .int p1126)]) d_cJ7_fill_53178_4 (Nat.le_of_ble_eq_true rfl) rfl ?_
  have hlp5_1157 : ∀ (n5_1157 : Nat) (g1156 : Int32) (f1157 : Nat → Int32), gB g1156 0 40 → gF f1157 (-2147483648) 2147483647 → (∀ (k : Nat) (e1 : Nat → Int32), tl_Arrays_fill2_5 p1126 g1156 f1157 k e1 → tl_Arrays_fill2_5 p1126 (0 : Int32) f1127 k e1) → ((41 : Int) - g1156.toInt).toNat < n5_1157 → G (gV D I) l (gRm 0 0 0 0) (gM (gV D I) (po_1128_Arrays_fill I q1125 p1126 f1127) gN 0 0) ky_1128_Arrays_fill 5 [(3, .int 40), (2, .int g1156), (0, .ref q1125), (1, .int p1126)] [] [(q1125, .inl (I .int, 40, .inl f1157))] 0 0 := by
    intro n5_1157
    induction n5_1157 with
    | zero => intro g1156 f1157 bg1156 bf1157 kt5_1157 hm5_1157; exact absurd hm5_1157 (Nat.not_lt_zero _)
    | succ n5_1157 ih5_1157 =>
      intro g1156 f1157 bg1156 bf1157 kt5_1157 hm5_1157
      refine G_iload_n 1 d_cJ7_fill_53178_5 rfl ?_
      refine G_iload_n 0 d_cJ7_fill_53178_6 rfl ?_
      refine G_icmp_ge 20 d_cJ7_fill_53178_7 (by decide +kernel) (fun hc1158 => ?_) (fun hc1158 => ?_)
      · have r1159 : 40 ≤ g1156.toInt := gj_leL hc1158 (show Int32.toInt 40 = 40 by decide)
        have bg1156' : gB g1156 40 40 := ⟨by omega, by omega⟩
        have hx1160 : tl_Arrays_fill2_5 p1126 (0 : Int32) f1127 20 f1157 := kt5_1157 20 f1157 (fun R c1 c2 => c1 g1156 f1157 bg1156 r1159)
        exact G_vret d_cJ7_fill_53178_20 rfl (Nat.le_of_ble_eq_true rfl) (Nat.le_of_ble_eq_true rfl) ⟨f1157, rfl, rfl, bf1157, (fun R c1 => c1 f1157 hx1160)⟩
      · have r1161 : g1156.toInt < 40 := gj_nleL hc1158 (show Int32.toInt 40 = 40 by decide)
        have bg1156' : gB g1156 0 39 := ⟨by omega, by omega⟩
        refine G_aload_n 2 d_cJ7_fill_53178_10 rfl ?_
        refine G_iload_n 1 d_cJ7_fill_53178_11 rfl ?_
        refine G_iload_n 3 d_cJ7_fill_53178_12 rfl ?_
        refine G_iastN 0 0 d_cJ7_fill_53178_13 rfl rfl (gB_in bg1156' (by decide) (by decide)) (fun f1162 hf1162 => ?_)
        refine G_ws (ws' := [(q1125, .inl (I .int, 40, .inl f1162))]) (cs' := 0) (sl' := 0) rfl rfl rfl ?_
        obtain ⟨z1163, hz1163⟩ : ∃ z : Int32, z = g1156 + Int32.ofInt 1 := ⟨_, rfl⟩
        have ez1163 : z1163.toInt = g1156.toInt + 1 := gI_inc hz1163 (by decide) bg1156' (by decide) (by decide)
        have bz1163 : gB z1163 1 40 := ⟨by omega, by omega⟩
        refine G_iinc (L' := [(2, .int z1163), (3, .int 40), (0, .ref q1125), (1, .int p1126)]) z1163 1 d_cJ7_fill_53178_14 rfl hz1163.symm (Nat.le_of_ble_eq_true rfl) rfl ?_
        refine G_goto 5 d_cJ7_fill_53178_17 (by decide +kernel) ?_
        refine G_lv (L' := [(3, .int 40), (2, .int z1163), (0, .ref q1125), (1, .int p1126)]) [1, 0, 2, 3] rfl ?_
        exact ih5_1157 z1163 f1162 (gB_w bz1163 (by decide) (by decide)) (gF_any f1162) (fun k e1 ht => kt5_1157 k e1 (fun R c1 c2 => c2 g1156 f1157 f1162 z1163 k e1 bg1156 r1161 hf1162 ez1163 (ht R c1 c2))) (by have qa0 : Int32.toInt 40 = 40 := (by decide); omega)
  exact hlp5_1157 (((41 : Int) - 0).toNat + 1) 0 f1127 (gB_w (gBl (show Int32.toInt 0 = 0 by decide)) (by decide) (by decide)) (gF_any f1127) (fun k e1 ht => ht) (Nat.lt_succ_self _)
/- tl_Loops_walk_26: l10, l8; out: l8 -/
def tl_Loops_walk_26 (l5_1 : Int64) (c1 : Nat → Int64) (a2 : Int64) (s1 : Int32) (s2 : Int64) (k : Nat) (e1 : Int64) : Prop := ∀ R : (Int32) → (Int64) → Nat → (Int64) → Prop,
  (∀ (l10_2 : Int32) (l8_2 : Int64), gB l10_2 0 40 → 40 ≤ l10_2.toInt → R l10_2 l8_2 66 l8_2) →
  (∀ (l10_2 : Int32) (l8_2 : Int64) (x1 : Int64) (x2 : Int64) (x3 : Int32) (k : Nat) (e1 : Int64), gB l10_2 0 40 → l10_2.toInt < 40 → x1 = l5_1 >>> (l10_2.toInt64 &&& 63) → x2 = x1 &&& (1 : Int64) → x2 = (0 : Int64) → x3.toInt = l10_2.toInt + 1 → R x3 l8_2 k e1 → R l10_2 l8_2 k e1) →
  (∀ (l10_2 : Int32) (l8_2 : Int64) (x1 : Int64) (x2 : Int64) (x3 : Int64) (x4 : Int64) (x5 : Int64) (x6 : Int64) (x7 : Int32) (k : Nat) (e1 : Int64), gB l10_2 0 40 → l10_2.toInt < 40 → x1 = l5_1 >>> (l10_2.toInt64 &&& 63) → x2 = x1 &&& (1 : Int64) → (¬ x2 = (0 : Int64)) → x3 = c1 l10_2.toNatClampNeg → x4 = a2 ^^^ (-1 : Int64) → x5 = x3 &&& x4 → x6 = l8_2 ||| x5 → x7.toInt = l10_2.toInt + 1 → R x7 x6 k e1 → R l10_2 l8_2 k e1) →
  R s1 s2 k e1
/- tl_Loops_walk_12: l7, l5; out: l5 -/
def tl_Loops_walk_12 (c1 : Nat → Int64) (a2 : Int64) (s1 : Int32) (s2 : Int64) (k : Nat) (e1 : Int64) : Prop := ∀ R : (Int32) → (Int64) → Nat → (Int64) → Prop,
  (∀ (l7_1 : Int32) (l5_1 : Int64), gB l7_1 0 40 → 40 ≤ l7_1.toInt → R l7_1 l5_1 87 l5_1) →
  (∀ (l7_1 : Int32) (l5_1 : Int64) (x1 : Int64) (x2 : Int32) (k : Nat) (e1 : Int64), gB l7_1 0 40 → l7_1.toInt < 40 → tl_Loops_walk_26 l5_1 c1 a2 (0 : Int32) l5_1 66 x1 → (¬ x1 = l5_1) → x2.toInt = l7_1.toInt + 1 → R x2 x1 k e1 → R l7_1 l5_1 k e1) →
  (∀ (l7_1 : Int32) (l5_1 : Int64) (x1 : Int64), gB l7_1 0 40 → l7_1.toInt < 40 → tl_Loops_walk_26 l5_1 c1 a2 (0 : Int32) l5_1 66 x1 → x1 = l5_1 → R l7_1 l5_1 74 l5_1) →
  R s1 s2 k e1
/- tr_Loops_walk: result -/
def tr_Loops_walk (a1 : Int64) (a2 : Int64) (p : Nat → Int64) (o1 : Int64) : Prop := ∀ R : (Int64) → Prop,
  (∀ (x1 : Int64) (x2 : Int64) (x3 : Int64), x1 = a2 ^^^ (-1 : Int64) → x2 = a1 &&& x1 → tl_Loops_walk_12 p a2 (0 : Int32) x2 87 x3 → R x3) →
  (∀ (x1 : Int64) (x2 : Int64) (x3 : Int64), x1 = a2 ^^^ (-1 : Int64) → x2 = a1 &&& x1 → tl_Loops_walk_12 p a2 (0 : Int32) x2 74 x3 → R x3) →
  R o1
abbrev ky_1173_Loops_walk : gKey := (cX6_walk, 11, yX6_walk.cls, (some FieldType.long), [], yX6_walk.name, fun _ _ => True)
abbrev po_1173_Loops_walk (I : FieldType → ClassId) (q1169 : Nat) (pl1170 : Int64) (pl1171 : Int64) (f1172 : Nat → Int64) : Option Value → va_W → Prop := fun r w => ∃ (ol2023 : Int64), r = some (.long ol2023) ∧ w = [(q1169, .inl (I .long, 40, .inr (.inl f1172)))] ∧ tr_Loops_walk pl1170 pl1171 f1172 ol2023
set_option maxRecDepth 100000 in
set_option maxHeartbeats 4000000 in
theorem ct_1173_Loops_walk (l : Launch) (hl0 : l.stackTraces = false) (D : va_G) (I : FieldType → ClassId) (q1169 : Nat) (pl1170 : Int64) (pl1171 : Int64) (f1172 : Nat → Int64)  : Ct (gV D I) l yX6_walk cX6_walk 11 (some FieldType.long) 0 0 0 0 [.ref q1169, .long pl1170, .long pl1171] [(q1169, .inl (I .long, 40, .inr (.inl f1172)))] (po_1173_Loops_walk I q1169 pl1170 pl1171 f1172) gN := by
  refine Ct_of hl0 (by decide) (Nat.le_of_ble_eq_true rfl) ?_
  refine G_lload_n 1 d_cX6_walk_0 rfl ?_
  refine G_lload_n 2 d_cX6_walk_1 rfl ?_
  refine G_ldc2 (-1) d_cX6_walk_2 w_4_7 ?_
  refine G_lxor d_cX6_walk_5 (G_namL fun u1174 hu1174 => ?_)
  refine G_land d_cX6_walk_6 (G_namL fun u1175 hu1175 => ?_)
  refine G_lstore (L' := [(5, .long u1175), (0, .ref q1169), (1, .long pl1170), (3, .long pl1171)]) d_cX6_walk_7 (Nat.le_of_ble_eq_true rfl) rfl ?_
  refine G_iconst 0 d_cX6_walk_9 (by decide +kernel) ?_
  refine G_istore (L' := [(7, .int 0), (5, .long u1175), (0, .ref q1169), (1, .long pl1170), (3, .long pl1171)]) d_cX6_walk_10 (Nat.le_of_ble_eq_true rfl) rfl ?_
  have hlp12_1898 : ∀ (n12_1898 : Nat) (g1897 : Int32) (gl1898 : Int64), gB g1897 0 40 → (∀ (k : Nat) (e1 : Int64), tl_Loops_walk_12 f1172 pl1171 g1897 gl1898 k e1 → tl_Loops_walk_12 f1172 pl1171 (0 : Int32) u1175 k e1) → ((41 : Int) - g1897.toInt).toNat < n12_1898 → G (gV D I) l (gRm 0 0 0 0) (gM (gV D I) (po_1173_Loops_walk I q1169 pl1170 pl1171 f1172) gN 0 0) ky_1173_Loops_walk 12 [(7, .int g1897), (5, .long gl1898), (0, .ref q1169), (1, .long pl1170), (3, .long pl1171)] [] [(q1169, .inl (I .long, 40, .inr (.inl f1172)))] 0 0 := by
    intro n12_1898
    induction n12_1898 with
    | zero => intro g1897 gl1898 bg1897 kt12_1898 hm12_1898; exact absurd hm12_1898 (Nat.not_lt_zero _)
    | succ n12_1898 ih12_1898 =>
      intro g1897 gl1898 bg1897 kt12_1898 hm12_1898
      refine G_iload 0 d_cX6_walk_12 rfl ?_
      refine G_aload_n 2 d_cX6_walk_14 rfl ?_
      refine G_alen 40 0 2 d_cX6_walk_15 rfl rfl rfl ?_
      refine G_icmp_ge 87 d_cX6_walk_16 (by decide +kernel) (fun hc1899 => ?_) (fun hc1899 => ?_)
      · have r1900 : 40 ≤ g1897.toInt := gj_leL hc1899 (show Int32.toInt 40 = 40 by decide)
        have bg1897' : gB g1897 40 40 := ⟨by omega, by omega⟩
        have hx1901 : tl_Loops_walk_12 f1172 pl1171 (0 : Int32) u1175 87 gl1898 := kt12_1898 87 gl1898 (fun R c1 c2 c3 => c1 g1897 gl1898 bg1897 r1900)
        refine G_lload 1 d_cX6_walk_87 rfl ?_
        exact G_lret d_cX6_walk_89 rfl (Nat.le_of_ble_eq_true rfl) (Nat.le_of_ble_eq_true rfl) ⟨gl1898, rfl, rfl, (fun R c1 c2 => c1 u1174 u1175 gl1898 hu1174 hu1175 hx1901)⟩
      · have r1902 : g1897.toInt < 40 := gj_nleL hc1899 (show Int32.toInt 40 = 40 by decide)
        have bg1897' : gB g1897 0 39 := ⟨by omega, by omega⟩
        refine G_lload 1 d_cX6_walk_19 rfl ?_
        refine G_lstore (L' := [(8, .long gl1898), (7, .int g1897), (5, .long gl1898), (0, .ref q1169), (1, .long pl1170), (3, .long pl1171)]) d_cX6_walk_21 (Nat.le_of_ble_eq_true rfl) rfl ?_
        refine G_iconst 0 d_cX6_walk_23 (by decide +kernel) ?_
        refine G_istore (L' := [(10, .int 0), (8, .long gl1898), (7, .int g1897), (5, .long gl1898), (0, .ref q1169), (1, .long pl1170), (3, .long pl1171)]) d_cX6_walk_24 (Nat.le_of_ble_eq_true rfl) rfl ?_
        have hlp26_2000 : ∀ (n26_2000 : Nat) (g1999 : Int32) (gl2000 : Int64), gB g1999 0 40 → (∀ (k : Nat) (e1 : Int64), tl_Loops_walk_26 gl1898 f1172 pl1171 g1999 gl2000 k e1 → tl_Loops_walk_26 gl1898 f1172 pl1171 (0 : Int32) gl1898 k e1) → ((41 : Int) - g1999.toInt).toNat < n26_2000 → G (gV D I) l (gRm 0 0 0 0) (gM (gV D I) (po_1173_Loops_walk I q1169 pl1170 pl1171 f1172) gN 0 0) ky_1173_Loops_walk 26 [(10, .int g1999), (8, .long gl2000), (7, .int g1897), (5, .long gl1898), (0, .ref q1169), (1, .long pl1170), (3, .long pl1171)] [] [(q1169, .inl (I .long, 40, .inr (.inl f1172)))] 0 0 := by
          intro n26_2000
          induction n26_2000 with
          | zero => intro g1999 gl2000 bg1999 kt26_2000 hm26_2000; exact absurd hm26_2000 (Nat.not_lt_zero _)
          | succ n26_2000 ih26_2000 =>
            intro g1999 gl2000 bg1999 kt26_2000 hm26_2000
            refine G_iload 0 d_cX6_walk_26 rfl ?_
            refine G_aload_n 4 d_cX6_walk_28 rfl ?_
            refine G_alen 40 0 2 d_cX6_walk_29 rfl rfl rfl ?_
            refine G_icmp_ge 66 d_cX6_walk_30 (by decide +kernel) (fun hc2001 => ?_) (fun hc2001 => ?_)
            · have r2002 : 40 ≤ g1999.toInt := gj_leL hc2001 (show Int32.toInt 40 = 40 by decide)
              have bg1999' : gB g1999 40 40 := ⟨by omega, by omega⟩
              have hx2003 : tl_Loops_walk_26 gl1898 f1172 pl1171 (0 : Int32) gl1898 66 gl2000 := kt26_2000 66 gl2000 (fun R c1 c2 c3 => c1 g1999 gl2000 bg1999 r2002)
              refine G_lload 1 d_cX6_walk_66 rfl ?_
              refine G_lload 3 d_cX6_walk_68 rfl ?_
              refine G_lcmp d_cX6_walk_70 (G_nam fun z2004 hz2004 => ?_)
              have bz2004 : gB z2004 (-1) 1 := gB_cmp hz2004
              refine G_if_ne 77 d_cX6_walk_71 (by decide +kernel) (fun hc2005 => ?_) (fun hc2005 => ?_)
              · have r2006 : z2004.toInt ≠ 0 := gj_neq hc2005 (show Int32.toInt 0 = 0 by decide)
                have lhc2005 := gC_cmpN hz2004 hc2005
                refine G_lload 1 d_cX6_walk_77 rfl ?_
                refine G_lstore (L' := [(5, .long gl2000), (10, .int g1999), (8, .long gl2000), (7, .int g1897), (0, .ref q1169), (1, .long pl1170), (3, .long pl1171)]) d_cX6_walk_79 (Nat.le_of_ble_eq_true rfl) rfl ?_
                obtain ⟨z2007, hz2007⟩ : ∃ z : Int32, z = g1897 + Int32.ofInt 1 := ⟨_, rfl⟩
                have ez2007 : z2007.toInt = g1897.toInt + 1 := gI_inc hz2007 (by decide) bg1897' (by decide) (by decide)
                have bz2007 : gB z2007 1 40 := ⟨by omega, by omega⟩
                refine G_iinc (L' := [(7, .int z2007), (5, .long gl2000), (10, .int g1999), (8, .long gl2000), (0, .ref q1169), (1, .long pl1170), (3, .long pl1171)]) z2007 3 d_cX6_walk_81 rfl hz2007.symm (Nat.le_of_ble_eq_true rfl) rfl ?_
                refine G_goto 12 d_cX6_walk_84 (by decide +kernel) ?_
                refine G_lv (L' := [(7, .int z2007), (5, .long gl2000), (0, .ref q1169), (1, .long pl1170), (3, .long pl1171)]) [0, 1, 4, 5, 6] rfl ?_
                exact ih12_1898 z2007 gl2000 (gB_w bz2007 (by decide) (by decide)) (fun k e1 ht => kt12_1898 k e1 (fun R c1 c2 c3 => c2 g1897 gl1898 gl2000 z2007 k e1 bg1897 r1902 hx2003 lhc2005 ez2007 (ht R c1 c2 c3))) (by omega)
              · have r2008 : z2004.toInt = 0 := gj_eq hc2005 (show Int32.toInt 0 = 0 by decide)
                have bz2004' : gB z2004 0 0 := ⟨by omega, by omega⟩
                have lhc2005 := gC_cmpE hz2004 hc2005
                have hx2009 : tl_Loops_walk_12 f1172 pl1171 (0 : Int32) u1175 74 gl1898 := kt12_1898 74 gl1898 (fun R c1 c2 c3 => c3 g1897 gl1898 gl2000 bg1897 r1902 hx2003 lhc2005)
                refine G_lload 3 d_cX6_walk_74 rfl ?_
                exact G_lret d_cX6_walk_76 rfl (Nat.le_of_ble_eq_true rfl) (Nat.le_of_ble_eq_true rfl) ⟨gl1898, rfl, rfl, (fun R c1 c2 => c2 u1174 u1175 gl1898 hu1174 hu1175 hx2009)⟩
            · have r2010 : g1999.toInt < 40 := gj_nleL hc2001 (show Int32.toInt 40 = 40 by decide)
              have bg1999' : gB g1999 0 39 := ⟨by omega, by omega⟩
              refine G_lload 3 d_cX6_walk_33 rfl ?_
              refine G_iload 0 d_cX6_walk_35 rfl ?_
              refine G_lshr d_cX6_walk_37 (G_namL fun u2011 hu2011 => ?_)
              refine G_lconst 1 d_cX6_walk_38 rfl ?_
              refine G_land d_cX6_walk_39 (G_namL fun u2012 hu2012 => ?_)
              refine G_lconst 0 d_cX6_walk_40 rfl ?_
              refine G_lcmp d_cX6_walk_41 (G_nam fun z2013 hz2013 => ?_)
              have bz2013 : gB z2013 (-1) 1 := gB_cmp hz2013
              refine G_if_eq 60 d_cX6_walk_42 (by decide +kernel) (fun hc2014 => ?_) (fun hc2014 => ?_)
              · have r2015 : z2013.toInt = 0 := gj_eq hc2014 (show Int32.toInt 0 = 0 by decide)
                have bz2013' : gB z2013 0 0 := ⟨by omega, by omega⟩
                have lhc2014 := gC_cmpE hz2013 hc2014
                obtain ⟨z2016, hz2016⟩ : ∃ z : Int32, z = g1999 + Int32.ofInt 1 := ⟨_, rfl⟩
                have ez2016 : z2016.toInt = g1999.toInt + 1 := gI_inc hz2016 (by decide) bg1999' (by decide) (by decide)
                have bz2016 : gB z2016 1 40 := ⟨by omega, by omega⟩
                refine G_iinc (L' := [(10, .int z2016), (8, .long gl2000), (7, .int g1897), (5, .long gl1898), (0, .ref q1169), (1, .long pl1170), (3, .long pl1171)]) z2016 0 d_cX6_walk_60 rfl hz2016.symm (Nat.le_of_ble_eq_true rfl) rfl ?_
                refine G_goto 26 d_cX6_walk_63 (by decide +kernel) ?_
                exact ih26_2000 z2016 gl2000 (gB_w bz2016 (by decide) (by decide)) (fun k e1 ht => kt26_2000 k e1 (fun R c1 c2 c3 => c2 g1999 gl2000 u2011 u2012 z2016 k e1 bg1999 r2010 hu2011 hu2012 lhc2014 ez2016 (ht R c1 c2 c3))) (by omega)
              · have r2017 : z2013.toInt ≠ 0 := gj_neq hc2014 (show Int32.toInt 0 = 0 by decide)
                have lhc2014 := gC_cmpN hz2013 hc2014
                refine G_lload 1 d_cX6_walk_45 rfl ?_
                refine G_aload_n 4 d_cX6_walk_47 rfl ?_
                refine G_iload 0 d_cX6_walk_48 rfl ?_
                refine G_lald 0 2 d_cX6_walk_50 rfl rfl (gB_in bg1999' (by decide) (by decide)) (G_namL fun u2018 hu2018 => ?_)
                refine G_lload_n 6 d_cX6_walk_51 rfl ?_
                refine G_ldc2 (-1) d_cX6_walk_52 w_4_7 ?_
                refine G_lxor d_cX6_walk_55 (G_namL fun u2019 hu2019 => ?_)
                refine G_land d_cX6_walk_56 (G_namL fun u2020 hu2020 => ?_)
                refine G_lor d_cX6_walk_57 (G_namL fun u2021 hu2021 => ?_)
                refine G_lstore (L' := [(8, .long u2021), (10, .int g1999), (7, .int g1897), (5, .long gl1898), (0, .ref q1169), (1, .long pl1170), (3, .long pl1171)]) d_cX6_walk_58 (Nat.le_of_ble_eq_true rfl) rfl ?_
                obtain ⟨z2022, hz2022⟩ : ∃ z : Int32, z = g1999 + Int32.ofInt 1 := ⟨_, rfl⟩
                have ez2022 : z2022.toInt = g1999.toInt + 1 := gI_inc hz2022 (by decide) bg1999' (by decide) (by decide)
                have bz2022 : gB z2022 1 40 := ⟨by omega, by omega⟩
                refine G_iinc (L' := [(10, .int z2022), (8, .long u2021), (7, .int g1897), (5, .long gl1898), (0, .ref q1169), (1, .long pl1170), (3, .long pl1171)]) z2022 1 d_cX6_walk_60 rfl hz2022.symm (Nat.le_of_ble_eq_true rfl) rfl ?_
                refine G_goto 26 d_cX6_walk_63 (by decide +kernel) ?_
                exact ih26_2000 z2022 u2021 (gB_w bz2022 (by decide) (by decide)) (fun k e1 ht => kt26_2000 k e1 (fun R c1 c2 c3 => c3 g1999 gl2000 u2011 u2012 u2018 u2019 u2020 u2021 z2022 k e1 bg1999 r2010 hu2011 hu2012 lhc2014 hu2018 hu2019 hu2020 hu2021 ez2022 (ht R c1 c2 c3))) (by omega)
        exact hlp26_2000 (((41 : Int) - 0).toNat + 1) 0 gl1898 (gB_w (gBl (show Int32.toInt 0 = 0 by decide)) (by decide) (by decide)) (fun k e1 ht => ht) (Nat.lt_succ_self _)
  exact hlp12_1898 (((41 : Int) - 0).toNat + 1) 0 u1175 (gB_w (gBl (show Int32.toInt 0 = 0 by decide)) (by decide) (by decide)) (fun k e1 ht => ht) (Nat.lt_succ_self _)
/- tr_Loops_link: Loops_goals, Loops_sources -/
def tr_Loops_link (a1 : Int32) (a2 : Int32) (Loops_goals : Nat → Int64) (Loops_sources : Nat → Int64) (o1 : Nat → Int64) (o2 : Nat → Int64) : Prop := ∀ R : (Nat → Int64) → (Nat → Int64) → Prop,
  (a2.toInt < 0 → R Loops_goals Loops_sources) →
  (0 ≤ a2.toInt → 40 ≤ a2.toInt → R Loops_goals Loops_sources) →
  (∀ (x1 : Int64) (x2 : Int64) (x3 : Int64) (x4 : Nat → Int64) (x5 : Int64) (x6 : Int64) (x7 : Int64) (x8 : Nat → Int64), 0 ≤ a2.toInt → a2.toInt < 40 → x1 = Loops_goals a1.toNatClampNeg → x2 = (1 : Int64) <<< (a2.toInt64 &&& 63) → x3 = x1 ||| x2 → x4 = vp_updL Loops_goals a1.toNatClampNeg x3 → x5 = Loops_sources a2.toNatClampNeg → x6 = (1 : Int64) <<< (a1.toInt64 &&& 63) → x7 = x5 ||| x6 → x8 = vp_updL Loops_sources a2.toNatClampNeg x7 → R x4 x8) →
  R o1 o2
abbrev ky_2037_Loops_link : gKey := (cX6_link, 3, yX6_link.cls, none, [], yX6_link.name, fun _ _ => True)
abbrev po_2037_Loops_link (I : FieldType → ClassId) (q2028 : Nat) (q2029 : Nat) (q2030 : Nat) (q2031 : Nat) (p2032 : Int32) (p2033 : Int32) (f2034 : Nat → Int64) (f2035 : Nat → Int64) (f2036 : Nat → Int32) : Option Value → va_W → Prop := fun r w => ∃ (f2052 : Nat → Int64) (f2053 : Nat → Int64), r = none ∧ w = [(q2028, .inr (11, [.ref q2029, .ref q2030, .ref q2031])), (q2029, .inl (I .long, 40, .inr (.inl f2052))), (q2030, .inl (I .long, 40, .inr (.inl f2053))), (q2031, .inl (I .int, 40, .inl f2036))] ∧ tr_Loops_link p2032 p2033 f2034 f2035 f2052 f2053
set_option maxRecDepth 100000 in
set_option maxHeartbeats 4000000 in
theorem ct_2037_Loops_link (l : Launch) (hl0 : l.stackTraces = false) (D : va_G) (I : FieldType → ClassId) (q2028 : Nat) (q2029 : Nat) (q2030 : Nat) (q2031 : Nat) (p2032 : Int32) (p2033 : Int32) (f2034 : Nat → Int64) (f2035 : Nat → Int64) (f2036 : Nat → Int32) (bp2032 : gB p2032 0 39) : Ct (gV D I) l yX6_link cX6_link 3 none 0 0 0 0 [.ref q2028, .int p2032, .int p2033] [(q2028, .inr (11, [.ref q2029, .ref q2030, .ref q2031])), (q2029, .inl (I .long, 40, .inr (.inl f2034))), (q2030, .inl (I .long, 40, .inr (.inl f2035))), (q2031, .inl (I .int, 40, .inl f2036))] (po_2037_Loops_link I q2028 q2029 q2030 q2031 p2032 p2033 f2034 f2035 f2036) gN := by
  refine Ct_of hl0 (by decide) (Nat.le_of_ble_eq_true rfl) ?_
  have bp2033 := gB_any p2033
  refine G_iload_n 2 d_cX6_link_0 rfl ?_
  refine G_if_lt 34 d_cX6_link_1 (by decide +kernel) (fun hc2038 => ?_) (fun hc2038 => ?_)
  · have r2039 : p2033.toInt < 0 := gj_lt hc2038 (show Int32.toInt 0 = 0 by decide)
    have bp2033' : gB p2033 (-2147483648) (-1) := ⟨by omega, by omega⟩
    exact G_vret d_cX6_link_34 rfl (Nat.le_of_ble_eq_true rfl) (Nat.le_of_ble_eq_true rfl) ⟨f2034, f2035, rfl, rfl, (fun R c1 c2 c3 => c1 r2039)⟩
  · have r2040 : 0 ≤ p2033.toInt := gj_nlt hc2038 (show Int32.toInt 0 = 0 by decide)
    have bp2033' : gB p2033 0 2147483647 := ⟨by omega, by omega⟩
    refine G_iload_n 2 d_cX6_link_4 rfl ?_
    refine G_bipush 40 d_cX6_link_5 (by decide +kernel) ?_
    refine G_icmp_ge 34 d_cX6_link_7 (by decide +kernel) (fun hc2041 => ?_) (fun hc2041 => ?_)
    · have r2042 : 40 ≤ p2033.toInt := gj_leL hc2041 (show Int32.toInt 40 = 40 by decide)
      have bp2033'' : gB p2033 40 2147483647 := ⟨by omega, by omega⟩
      exact G_vret d_cX6_link_34 rfl (Nat.le_of_ble_eq_true rfl) (Nat.le_of_ble_eq_true rfl) ⟨f2034, f2035, rfl, rfl, (fun R c1 c2 c3 => c2 r2040 r2042)⟩
    · have r2043 : p2033.toInt < 40 := gj_nleL hc2041 (show Int32.toInt 40 = 40 by decide)
      have bp2033'' : gB p2033 0 39 := ⟨by omega, by omega⟩
      refine G_aload_n 0 d_cX6_link_10 rfl ?_
      refine G_getf 0 0 d_cX6_link_11 rfl (gk_X6 D I) (Nat.le_of_ble_eq_true rfl) w_1_233 rfl ?_
      refine G_iload_n 1 d_cX6_link_14 rfl ?_
      refine G_dup2_11 d_cX6_link_15 rfl rfl ?_
      refine G_lald 1 2 d_cX6_link_16 rfl rfl (gB_in bp2032 (by decide) (by decide)) (G_namL fun u2044 hu2044 => ?_)
      refine G_lconst 1 d_cX6_link_17 rfl ?_
      refine G_iload_n 2 d_cX6_link_18 rfl ?_
      refine G_lshl d_cX6_link_19 (G_namL fun u2045 hu2045 => ?_)
      have qu2045 : lb_Q u2045 (p2033.toInt % 64 + 1) := lb_Qshl hu2045 (by omega)
      refine G_lor d_cX6_link_20 (G_namL fun u2046 hu2046 => ?_)
      refine G_lastN 1 2 d_cX6_link_21 rfl rfl (gB_in bp2032 (by decide) (by decide)) (fun f2047 hf2047 => ?_)
      refine G_ws (ws' := [(q2028, .inr (11, [.ref q2029, .ref q2030, .ref q2031])), (q2029, .inl (I .long, 40, .inr (.inl f2047))), (q2030, .inl (I .long, 40, .inr (.inl f2035))), (q2031, .inl (I .int, 40, .inl f2036))]) (cs' := 0) (sl' := 0) rfl rfl rfl ?_
      refine G_aload_n 0 d_cX6_link_22 rfl ?_
      refine G_getf 0 1 d_cX6_link_23 rfl (gk_X6 D I) (Nat.le_of_ble_eq_true rfl) w_1_234 rfl ?_
      refine G_iload_n 2 d_cX6_link_26 rfl ?_
      refine G_dup2_11 d_cX6_link_27 rfl rfl ?_
      refine G_lald 2 2 d_cX6_link_28 rfl rfl (gB_in bp2033'' (by decide) (by decide)) (G_namL fun u2048 hu2048 => ?_)
      refine G_lconst 1 d_cX6_link_29 rfl ?_
      refine G_iload_n 1 d_cX6_link_30 rfl ?_
      refine G_lshl d_cX6_link_31 (G_namL fun u2049 hu2049 => ?_)
      have qu2049 : lb_Q u2049 (p2032.toInt % 64 + 1) := lb_Qshl hu2049 (by omega)
      refine G_lor d_cX6_link_32 (G_namL fun u2050 hu2050 => ?_)
      refine G_lastN 2 2 d_cX6_link_33 rfl rfl (gB_in bp2033'' (by decide) (by decide)) (fun f2051 hf2051 => ?_)
      refine G_ws (ws' := [(q2028, .inr (11, [.ref q2029, .ref q2030, .ref q2031])), (q2029, .inl (I .long, 40, .inr (.inl f2047))), (q2030, .inl (I .long, 40, .inr (.inl f2051))), (q2031, .inl (I .int, 40, .inl f2036))]) (cs' := 0) (sl' := 0) rfl rfl rfl ?_
      exact G_vret d_cX6_link_34 rfl (Nat.le_of_ble_eq_true rfl) (Nat.le_of_ble_eq_true rfl) ⟨f2047, f2051, rfl, rfl, (fun R c1 c2 c3 => c3 u2044 u2045 u2046 f2047 u2048 u2049 u2050 f2051 r2040 r2043 hu2044 hu2045 hu2046 hf2047 hu2048 hu2049 hu2050 hf2051)⟩
/- tr_Loops_loopOf: result -/
def tr_Loops_loopOf (a1 : Int32) (a2 : Int64) (Loops_goals : Nat → Int64) (Loops_sources : Nat → Int64) (o1 : Int64) : Prop := ∀ R : (Int64) → Prop,
  (∀ (x1 : Int64) (x2 : Int64) (x3 : Int64) (x4 : Int64) (x5 : Int64) (x6 : Int64) (x7 : Int64) (x8 : Int64) (x9 : Int64) (x10 : Int64), x1 = (1 : Int64) <<< (a1.toInt64 &&& 63) → tr_Loops_walk (1 : Int64) x1 Loops_goals x2 → x3 = Loops_sources a1.toNatClampNeg → x4 = x3 &&& a2 → x5 = x2 ^^^ (-1 : Int64) → x6 = x4 &&& x5 → (¬ x6 = (0 : Int64)) → x7 = a2 ^^^ (-1 : Int64) → x8 = x1 ||| x7 → tr_Loops_walk x6 x8 Loops_sources x9 → x10 = x1 ||| x9 → R x10) →
  (∀ (x1 : Int64) (x2 : Int64) (x3 : Int64) (x4 : Int64) (x5 : Int64) (x6 : Int64), x1 = (1 : Int64) <<< (a1.toInt64 &&& 63) → tr_Loops_walk (1 : Int64) x1 Loops_goals x2 → x3 = Loops_sources a1.toNatClampNeg → x4 = x3 &&& a2 → x5 = x2 ^^^ (-1 : Int64) → x6 = x4 &&& x5 → x6 = (0 : Int64) → R (0 : Int64)) →
  R o1
abbrev ky_2080_Loops_loopOf : gKey := (cX6_loopOf, 10, yX6_loopOf.cls, (some FieldType.long), [], yX6_loopOf.name, fun _ _ => True)
abbrev po_2080_Loops_loopOf (I : FieldType → ClassId) (q2071 : Nat) (q2072 : Nat) (q2073 : Nat) (q2074 : Nat) (p2075 : Int32) (pl2076 : Int64) (f2077 : Nat → Int64) (f2078 : Nat → Int64) (f2079 : Nat → Int32) : Option Value → va_W → Prop := fun r w => ∃ (ol2097 : Int64), r = some (.long ol2097) ∧ w = [(q2071, .inr (11, [.ref q2072, .ref q2073, .ref q2074])), (q2072, .inl (I .long, 40, .inr (.inl f2077))), (q2073, .inl (I .long, 40, .inr (.inl f2078))), (q2074, .inl (I .int, 40, .inl f2079))] ∧ tr_Loops_loopOf p2075 pl2076 f2077 f2078 ol2097
set_option maxRecDepth 100000 in
set_option maxHeartbeats 4000000 in
theorem ct_2080_Loops_loopOf (l : Launch) (hl0 : l.stackTraces = false) (D : va_G) (I : FieldType → ClassId) (q2071 : Nat) (q2072 : Nat) (q2073 : Nat) (q2074 : Nat) (p2075 : Int32) (pl2076 : Int64) (f2077 : Nat → Int64) (f2078 : Nat → Int64) (f2079 : Nat → Int32) (bp2075 : gB p2075 0 39) : Ct (gV D I) l yX6_loopOf cX6_loopOf 10 (some FieldType.long) 1 30 0 0 [.ref q2071, .int p2075, .long pl2076] [(q2071, .inr (11, [.ref q2072, .ref q2073, .ref q2074])), (q2072, .inl (I .long, 40, .inr (.inl f2077))), (q2073, .inl (I .long, 40, .inr (.inl f2078))), (q2074, .inl (I .int, 40, .inl f2079))] (po_2080_Loops_loopOf I q2071 q2072 q2073 q2074 p2075 pl2076 f2077 f2078 f2079) gN := by
  refine Ct_of hl0 (by decide) (Nat.le_of_ble_eq_true rfl) ?_
  refine G_lconst 1 d_cX6_loopOf_0 rfl ?_
  refine G_iload_n 1 d_cX6_loopOf_1 rfl ?_
  refine G_lshl d_cX6_loopOf_2 (G_namL fun u2081 hu2081 => ?_)
  have qu2081 : lb_Q u2081 (p2075.toInt % 64 + 1) := lb_Qshl hu2081 (by omega)
  refine G_lstore (L' := [(4, .long u2081), (0, .ref q2071), (1, .int p2075), (2, .long pl2076)]) d_cX6_loopOf_3 (Nat.le_of_ble_eq_true rfl) rfl ?_
  refine G_aload_n 1 d_cX6_loopOf_5 rfl ?_
  refine G_getf 0 0 d_cX6_loopOf_6 rfl (gk_X6 D I) (Nat.le_of_ble_eq_true rfl) w_1_233 rfl ?_
  refine G_lconst 1 d_cX6_loopOf_9 rfl ?_
  refine G_lload 0 d_cX6_loopOf_10 rfl ?_
  refine G_callS (As := [.ref q2072, .long 1, .long u2081]) (wr := [(q2071, .inr (11, [.ref q2072, .ref q2073, .ref q2074])), (q2073, .inl (I .long, 40, .inr (.inl f2078))), (q2074, .inl (I .int, 40, .inl f2079))]) (gV_ok D I) (ct_1173_Loops_walk l hl0 D I q2072 1 u2081 f2077 ) d_cX6_loopOf_12 ⟨w_4_4, w_1_7, w_4_6, by decide, rfl, (Nat.le_of_ble_eq_true rfl), (Nat.le_of_ble_eq_true rfl)⟩ w_4_5 [1] [0, 2, 3] rfl rfl rfl rfl (by decide) (Nat.le_of_ble_eq_true rfl) (Nat.le_of_ble_eq_true rfl) (Nat.le_of_ble_eq_true rfl) (fun r w hp => ?_) (fun _ _ _ z => z.elim)
  obtain ⟨ol2082, rfl, rfl, ht2083⟩ := hp
  change G _ _ _ _ _ _ _ (.long ol2082 :: _) _ _ _
  refine G_ws (ws' := [(q2071, .inr (11, [.ref q2072, .ref q2073, .ref q2074])), (q2073, .inl (I .long, 40, .inr (.inl f2078))), (q2074, .inl (I .int, 40, .inl f2079)), (q2072, .inl (I .long, 40, .inr (.inl f2077)))]) (cs' := 0) (sl' := 0) rfl rfl rfl ?_
  refine G_lstore (L' := [(6, .long ol2082), (4, .long u2081), (0, .ref q2071), (1, .int p2075), (2, .long pl2076)]) d_cX6_loopOf_15 (Nat.le_of_ble_eq_true rfl) rfl ?_
  refine G_aload_n 2 d_cX6_loopOf_17 rfl ?_
  refine G_getf 0 1 d_cX6_loopOf_18 rfl (gk_X6 D I) (Nat.le_of_ble_eq_true rfl) w_1_234 rfl ?_
  refine G_iload_n 3 d_cX6_loopOf_21 rfl ?_
  refine G_lald 1 2 d_cX6_loopOf_22 rfl rfl (gB_in bp2075 (by decide) (by decide)) (G_namL fun u2084 hu2084 => ?_)
  refine G_lload_n 4 d_cX6_loopOf_23 rfl ?_
  refine G_land d_cX6_loopOf_24 (G_namL fun u2085 hu2085 => ?_)
  refine G_lload 0 d_cX6_loopOf_25 rfl ?_
  refine G_ldc2 (-1) d_cX6_loopOf_27 w_4_7 ?_
  refine G_lxor d_cX6_loopOf_30 (G_namL fun u2086 hu2086 => ?_)
  refine G_land d_cX6_loopOf_31 (G_namL fun u2087 hu2087 => ?_)
  refine G_lstore (L' := [(8, .long u2087), (6, .long ol2082), (4, .long u2081), (0, .ref q2071), (1, .int p2075), (2, .long pl2076)]) d_cX6_loopOf_32 (Nat.le_of_ble_eq_true rfl) rfl ?_
  refine G_lload 0 d_cX6_loopOf_34 rfl ?_
  refine G_lconst 0 d_cX6_loopOf_36 rfl ?_
  refine G_lcmp d_cX6_loopOf_37 (G_nam fun z2088 hz2088 => ?_)
  have bz2088 : gB z2088 (-1) 1 := gB_cmp hz2088
  refine G_if_ne 45 d_cX6_loopOf_38 (by decide +kernel) (fun hc2089 => ?_) (fun hc2089 => ?_)
  · have r2090 : z2088.toInt ≠ 0 := gj_neq hc2089 (show Int32.toInt 0 = 0 by decide)
    have lhc2089 := gC_cmpN hz2088 hc2089
    refine G_lload 2 d_cX6_loopOf_45 rfl ?_
    refine G_aload_n 3 d_cX6_loopOf_47 rfl ?_
    refine G_getf 0 1 d_cX6_loopOf_48 rfl (gk_X6 D I) (Nat.le_of_ble_eq_true rfl) w_1_234 rfl ?_
    refine G_lload 0 d_cX6_loopOf_51 rfl ?_
    refine G_lload 2 d_cX6_loopOf_53 rfl ?_
    refine G_lload_n 5 d_cX6_loopOf_55 rfl ?_
    refine G_ldc2 (-1) d_cX6_loopOf_56 w_4_7 ?_
    refine G_lxor d_cX6_loopOf_59 (G_namL fun u2091 hu2091 => ?_)
    refine G_lor d_cX6_loopOf_60 (G_namL fun u2092 hu2092 => ?_)
    refine G_callS (As := [.ref q2073, .long u2087, .long u2092]) (wr := [(q2071, .inr (11, [.ref q2072, .ref q2073, .ref q2074])), (q2074, .inl (I .int, 40, .inl f2079)), (q2072, .inl (I .long, 40, .inr (.inl f2077)))]) (gV_ok D I) (ct_1173_Loops_walk l hl0 D I q2073 u2087 u2092 f2078 ) d_cX6_loopOf_61 ⟨w_4_4, w_1_7, w_4_6, by decide, rfl, (Nat.le_of_ble_eq_true rfl), (Nat.le_of_ble_eq_true rfl)⟩ w_4_5 [1] [0, 2, 3] rfl rfl rfl rfl (by decide) (Nat.le_of_ble_eq_true rfl) (Nat.le_of_ble_eq_true rfl) (Nat.le_of_ble_eq_true rfl) (fun r w hp => ?_) (fun _ _ _ z => z.elim)
    obtain ⟨ol2093, rfl, rfl, ht2094⟩ := hp
    change G _ _ _ _ _ _ _ (.long ol2093 :: _) _ _ _
    refine G_ws (ws' := [(q2071, .inr (11, [.ref q2072, .ref q2073, .ref q2074])), (q2074, .inl (I .int, 40, .inl f2079)), (q2072, .inl (I .long, 40, .inr (.inl f2077))), (q2073, .inl (I .long, 40, .inr (.inl f2078)))]) (cs' := 0) (sl' := 0) rfl rfl rfl ?_
    refine G_lor d_cX6_loopOf_64 (G_namL fun u2095 hu2095 => ?_)
    refine G_sub (ws' := [(q2071, .inr (11, [.ref q2072, .ref q2073, .ref q2074])), (q2072, .inl (I .long, 40, .inr (.inl f2077))), (q2073, .inl (I .long, 40, .inr (.inl f2078))), (q2074, .inl (I .int, 40, .inl f2079))]) [0, 2, 3, 1] rfl rfl ?_
    exact G_lret d_cX6_loopOf_65 rfl (Nat.le_of_ble_eq_true rfl) (Nat.le_of_ble_eq_true rfl) ⟨u2095, rfl, rfl, (fun R c1 c2 => c1 u2081 ol2082 u2084 u2085 u2086 u2087 u2091 u2092 ol2093 u2095 hu2081 ht2083 hu2084 hu2085 hu2086 hu2087 lhc2089 hu2091 hu2092 ht2094 hu2095)⟩
  · have r2096 : z2088.toInt = 0 := gj_eq hc2089 (show Int32.toInt 0 = 0 by decide)
    have bz2088' : gB z2088 0 0 := ⟨by omega, by omega⟩
    have lhc2089 := gC_cmpE hz2088 hc2089
    refine G_lconst 0 d_cX6_loopOf_41 rfl ?_
    refine G_goto 65 d_cX6_loopOf_42 (by decide +kernel) ?_
    refine G_sub (ws' := [(q2071, .inr (11, [.ref q2072, .ref q2073, .ref q2074])), (q2072, .inl (I .long, 40, .inr (.inl f2077))), (q2073, .inl (I .long, 40, .inr (.inl f2078))), (q2074, .inl (I .int, 40, .inl f2079))]) [0, 3, 1, 2] rfl rfl ?_
    exact G_lret d_cX6_loopOf_65 rfl (Nat.le_of_ble_eq_true rfl) (Nat.le_of_ble_eq_true rfl) ⟨0, rfl, rfl, (fun R c1 c2 => c2 u2081 ol2082 u2084 u2085 u2086 u2087 hu2081 ht2083 hu2084 hu2085 hu2086 hu2087 lhc2089)⟩
/- tl_Loops_deepen_2: l3, Loops_depth; out: Loops_depth -/
def tl_Loops_deepen_2 (a1 : Int64) (s1 : Int32) (s2 : Nat → Int32) (k : Nat) (e1 : Nat → Int32) : Prop := ∀ R : (Int32) → (Nat → Int32) → Nat → (Nat → Int32) → Prop,
  (∀ (l3_1 : Int32) (Loops_depth_1 : Nat → Int32), gB l3_1 0 40 → 40 ≤ l3_1.toInt → R l3_1 Loops_depth_1 44 Loops_depth_1) →
  (∀ (l3_1 : Int32) (Loops_depth_1 : Nat → Int32) (x1 : Int64) (x2 : Int64) (x3 : Int32) (k : Nat) (e1 : Nat → Int32), gB l3_1 0 40 → l3_1.toInt < 40 → x1 = a1 >>> (l3_1.toInt64 &&& 63) → x2 = x1 &&& (1 : Int64) → x2 = (0 : Int64) → x3.toInt = l3_1.toInt + 1 → R x3 Loops_depth_1 k e1 → R l3_1 Loops_depth_1 k e1) →
  (∀ (l3_1 : Int32) (Loops_depth_1 : Nat → Int32) (x1 : Int64) (x2 : Int64) (x3 : Int32) (x4 : Int32) (k : Nat) (e1 : Nat → Int32), gB l3_1 0 40 → l3_1.toInt < 40 → x1 = a1 >>> (l3_1.toInt64 &&& 63) → x2 = x1 &&& (1 : Int64) → (¬ x2 = (0 : Int64)) → x3 = Loops_depth_1 l3_1.toNatClampNeg → 4 ≤ x3.toInt → x4.toInt = l3_1.toInt + 1 → R x4 Loops_depth_1 k e1 → R l3_1 Loops_depth_1 k e1) →
  (∀ (l3_1 : Int32) (Loops_depth_1 : Nat → Int32) (x1 : Int64) (x2 : Int64) (x3 : Int32) (x4 : Int32) (x5 : Nat → Int32) (x6 : Int32) (k : Nat) (e1 : Nat → Int32), gB l3_1 0 40 → l3_1.toInt < 40 → x1 = a1 >>> (l3_1.toInt64 &&& 63) → x2 = x1 &&& (1 : Int64) → (¬ x2 = (0 : Int64)) → x3 = Loops_depth_1 l3_1.toNatClampNeg → x3.toInt < 4 → x4.toInt = x3.toInt + 1 → x5 = upd Loops_depth_1 l3_1.toNatClampNeg x4 → x6.toInt = l3_1.toInt + 1 → R x6 x5 k e1 → R l3_1 Loops_depth_1 k e1) →
  R s1 s2 k e1
/- tr_Loops_deepen: Loops_depth -/
def tr_Loops_deepen (a1 : Int64) (Loops_depth : Nat → Int32) (o1 : Nat → Int32) : Prop := ∀ R : (Nat → Int32) → Prop,
  (∀ (x1 : Nat → Int32), tl_Loops_deepen_2 a1 (0 : Int32) Loops_depth 44 x1 → R x1) →
  R o1
abbrev ky_2108_Loops_deepen : gKey := (cX6_deepen, 4, yX6_deepen.cls, none, [], yX6_deepen.name, fun _ _ => True)
abbrev po_2108_Loops_deepen (I : FieldType → ClassId) (q2100 : Nat) (q2101 : Nat) (q2102 : Nat) (q2103 : Nat) (pl2104 : Int64) (f2105 : Nat → Int64) (f2106 : Nat → Int64) (f2107 : Nat → Int32) : Option Value → va_W → Prop := fun r w => ∃ (f2233 : Nat → Int32), r = none ∧ w = [(q2100, .inr (11, [.ref q2101, .ref q2102, .ref q2103])), (q2101, .inl (I .long, 40, .inr (.inl f2105))), (q2102, .inl (I .long, 40, .inr (.inl f2106))), (q2103, .inl (I .int, 40, .inl f2233))] ∧ gF f2233 (-2147483648) 2147483647 ∧ tr_Loops_deepen pl2104 f2107 f2233
set_option maxRecDepth 100000 in
set_option maxHeartbeats 4000000 in
theorem ct_2108_Loops_deepen (l : Launch) (hl0 : l.stackTraces = false) (D : va_G) (I : FieldType → ClassId) (q2100 : Nat) (q2101 : Nat) (q2102 : Nat) (q2103 : Nat) (pl2104 : Int64) (f2105 : Nat → Int64) (f2106 : Nat → Int64) (f2107 : Nat → Int32)  : Ct (gV D I) l yX6_deepen cX6_deepen 4 none 0 0 0 0 [.ref q2100, .long pl2104] [(q2100, .inr (11, [.ref q2101, .ref q2102, .ref q2103])), (q2101, .inl (I .long, 40, .inr (.inl f2105))), (q2102, .inl (I .long, 40, .inr (.inl f2106))), (q2103, .inl (I .int, 40, .inl f2107))] (po_2108_Loops_deepen I q2100 q2101 q2102 q2103 pl2104 f2105 f2106 f2107) gN := by
  refine Ct_of hl0 (by decide) (Nat.le_of_ble_eq_true rfl) ?_
  refine G_iconst 0 d_cX6_deepen_0 (by decide +kernel) ?_
  refine G_istore_n (L' := [(3, .int 0), (0, .ref q2100), (1, .long pl2104)]) d_cX6_deepen_1 (Nat.le_of_ble_eq_true rfl) rfl ?_
  have hlp2_2213 : ∀ (n2_2213 : Nat) (g2212 : Int32) (f2213 : Nat → Int32), gB g2212 0 40 → gF f2213 (-2147483648) 2147483647 → (∀ (k : Nat) (e1 : Nat → Int32), tl_Loops_deepen_2 pl2104 g2212 f2213 k e1 → tl_Loops_deepen_2 pl2104 (0 : Int32) f2107 k e1) → ((41 : Int) - g2212.toInt).toNat < n2_2213 → G (gV D I) l (gRm 0 0 0 0) (gM (gV D I) (po_2108_Loops_deepen I q2100 q2101 q2102 q2103 pl2104 f2105 f2106 f2107) gN 0 0) ky_2108_Loops_deepen 2 [(3, .int g2212), (0, .ref q2100), (1, .long pl2104)] [] [(q2100, .inr (11, [.ref q2101, .ref q2102, .ref q2103])), (q2101, .inl (I .long, 40, .inr (.inl f2105))), (q2102, .inl (I .long, 40, .inr (.inl f2106))), (q2103, .inl (I .int, 40, .inl f2213))] 0 0 := by
    intro n2_2213
    induction n2_2213 with
    | zero => intro g2212 f2213 bg2212 bf2213 kt2_2213 hm2_2213; exact absurd hm2_2213 (Nat.not_lt_zero _)
    | succ n2_2213 ih2_2213 =>
      intro g2212 f2213 bg2212 bf2213 kt2_2213 hm2_2213
      refine G_iload_n 0 d_cX6_deepen_2 rfl ?_
      refine G_bipush 40 d_cX6_deepen_3 (by decide +kernel) ?_
      refine G_icmp_ge 44 d_cX6_deepen_5 (by decide +kernel) (fun hc2214 => ?_) (fun hc2214 => ?_)
      · have r2215 : 40 ≤ g2212.toInt := gj_leL hc2214 (show Int32.toInt 40 = 40 by decide)
        have bg2212' : gB g2212 40 40 := ⟨by omega, by omega⟩
        have hx2216 : tl_Loops_deepen_2 pl2104 (0 : Int32) f2107 44 f2213 := kt2_2213 44 f2213 (fun R c1 c2 c3 c4 => c1 g2212 f2213 bg2212 r2215)
        exact G_vret d_cX6_deepen_44 rfl (Nat.le_of_ble_eq_true rfl) (Nat.le_of_ble_eq_true rfl) ⟨f2213, rfl, rfl, bf2213, (fun R c1 => c1 f2213 hx2216)⟩
      · have r2217 : g2212.toInt < 40 := gj_nleL hc2214 (show Int32.toInt 40 = 40 by decide)
        have bg2212' : gB g2212 0 39 := ⟨by omega, by omega⟩
        refine G_lload_n 2 d_cX6_deepen_8 rfl ?_
        refine G_iload_n 0 d_cX6_deepen_9 rfl ?_
        refine G_lshr d_cX6_deepen_10 (G_namL fun u2218 hu2218 => ?_)
        refine G_lconst 1 d_cX6_deepen_11 rfl ?_
        refine G_land d_cX6_deepen_12 (G_namL fun u2219 hu2219 => ?_)
        refine G_lconst 0 d_cX6_deepen_13 rfl ?_
        refine G_lcmp d_cX6_deepen_14 (G_nam fun z2220 hz2220 => ?_)
        have bz2220 : gB z2220 (-1) 1 := gB_cmp hz2220
        refine G_if_eq 38 d_cX6_deepen_15 (by decide +kernel) (fun hc2221 => ?_) (fun hc2221 => ?_)
        · have r2222 : z2220.toInt = 0 := gj_eq hc2221 (show Int32.toInt 0 = 0 by decide)
          have bz2220' : gB z2220 0 0 := ⟨by omega, by omega⟩
          have lhc2221 := gC_cmpE hz2220 hc2221
          obtain ⟨z2223, hz2223⟩ : ∃ z : Int32, z = g2212 + Int32.ofInt 1 := ⟨_, rfl⟩
          have ez2223 : z2223.toInt = g2212.toInt + 1 := gI_inc hz2223 (by decide) bg2212' (by decide) (by decide)
          have bz2223 : gB z2223 1 40 := ⟨by omega, by omega⟩
          refine G_iinc (L' := [(3, .int z2223), (0, .ref q2100), (1, .long pl2104)]) z2223 0 d_cX6_deepen_38 rfl hz2223.symm (Nat.le_of_ble_eq_true rfl) rfl ?_
          refine G_goto 2 d_cX6_deepen_41 (by decide +kernel) ?_
          exact ih2_2213 z2223 f2213 (gB_w bz2223 (by decide) (by decide)) bf2213 (fun k e1 ht => kt2_2213 k e1 (fun R c1 c2 c3 c4 => c2 g2212 f2213 u2218 u2219 z2223 k e1 bg2212 r2217 hu2218 hu2219 lhc2221 ez2223 (ht R c1 c2 c3 c4))) (by omega)
        · have r2224 : z2220.toInt ≠ 0 := gj_neq hc2221 (show Int32.toInt 0 = 0 by decide)
          have lhc2221 := gC_cmpN hz2220 hc2221
          refine G_aload_n 1 d_cX6_deepen_18 rfl ?_
          refine G_getf 0 2 d_cX6_deepen_19 rfl (gk_X6 D I) (Nat.le_of_ble_eq_true rfl) w_1_235 rfl ?_
          refine G_iload_n 0 d_cX6_deepen_22 rfl ?_
          refine G_iald 3 0 d_cX6_deepen_23 rfl rfl (gB_in bg2212' (by decide) (by decide)) (G_nam fun z2225 hz2225 => ?_)
          have bz2225 : gB z2225 (-2147483648) 2147483647 := by rw [hz2225]; exact bf2213 _
          refine G_iconst 4 d_cX6_deepen_24 (by decide +kernel) ?_
          refine G_icmp_ge 38 d_cX6_deepen_25 (by decide +kernel) (fun hc2226 => ?_) (fun hc2226 => ?_)
          · have r2227 : 4 ≤ z2225.toInt := gj_leL hc2226 (show Int32.toInt 4 = 4 by decide)
            have bz2225' : gB z2225 4 2147483647 := ⟨by omega, by omega⟩
            obtain ⟨z2228, hz2228⟩ : ∃ z : Int32, z = g2212 + Int32.ofInt 1 := ⟨_, rfl⟩
            have ez2228 : z2228.toInt = g2212.toInt + 1 := gI_inc hz2228 (by decide) bg2212' (by decide) (by decide)
            have bz2228 : gB z2228 1 40 := ⟨by omega, by omega⟩
            refine G_iinc (L' := [(3, .int z2228), (0, .ref q2100), (1, .long pl2104)]) z2228 0 d_cX6_deepen_38 rfl hz2228.symm (Nat.le_of_ble_eq_true rfl) rfl ?_
            refine G_goto 2 d_cX6_deepen_41 (by decide +kernel) ?_
            exact ih2_2213 z2228 f2213 (gB_w bz2228 (by decide) (by decide)) bf2213 (fun k e1 ht => kt2_2213 k e1 (fun R c1 c2 c3 c4 => c3 g2212 f2213 u2218 u2219 z2225 z2228 k e1 bg2212 r2217 hu2218 hu2219 lhc2221 hz2225 r2227 ez2228 (ht R c1 c2 c3 c4))) (by omega)
          · have r2229 : z2225.toInt < 4 := gj_nleL hc2226 (show Int32.toInt 4 = 4 by decide)
            have bz2225' : gB z2225 (-2147483648) 3 := ⟨by omega, by omega⟩
            refine G_aload_n 1 d_cX6_deepen_28 rfl ?_
            refine G_getf 0 2 d_cX6_deepen_29 rfl (gk_X6 D I) (Nat.le_of_ble_eq_true rfl) w_1_235 rfl ?_
            refine G_iload_n 0 d_cX6_deepen_32 rfl ?_
            refine G_dup2_11 d_cX6_deepen_33 rfl rfl ?_
            refine G_iald 3 0 d_cX6_deepen_34 rfl rfl (gB_in bg2212' (by decide) (by decide)) (G_eqi (y := z2225) hz2225.symm ?_)
            refine G_iconst 1 d_cX6_deepen_35 (by decide +kernel) ?_
            refine G_iadd d_cX6_deepen_36 (G_nam fun z2230 hz2230 => ?_)
            have ez2230 : z2230.toInt = z2225.toInt + 1 := by rw [gI_add hz2230 bz2225' (gBl (show Int32.toInt 1 = 1 by decide)) (by decide) (by decide), show Int32.toInt 1 = 1 from by decide]
            have bz2230 : gB z2230 (-2147483647) 4 := gB_add (gI_add hz2230 bz2225' (gBl (show Int32.toInt 1 = 1 by decide)) (by decide) (by decide)) bz2225' (gBl (show Int32.toInt 1 = 1 by decide)) (by decide) (by decide)
            refine G_iastN 3 0 d_cX6_deepen_37 rfl rfl (gB_in bg2212' (by decide) (by decide)) (fun f2231 hf2231 => ?_)
            refine G_ws (ws' := [(q2100, .inr (11, [.ref q2101, .ref q2102, .ref q2103])), (q2101, .inl (I .long, 40, .inr (.inl f2105))), (q2102, .inl (I .long, 40, .inr (.inl f2106))), (q2103, .inl (I .int, 40, .inl f2231))]) (cs' := 0) (sl' := 0) rfl rfl rfl ?_
            obtain ⟨z2232, hz2232⟩ : ∃ z : Int32, z = g2212 + Int32.ofInt 1 := ⟨_, rfl⟩
            have ez2232 : z2232.toInt = g2212.toInt + 1 := gI_inc hz2232 (by decide) bg2212' (by decide) (by decide)
            have bz2232 : gB z2232 1 40 := ⟨by omega, by omega⟩
            refine G_iinc (L' := [(3, .int z2232), (0, .ref q2100), (1, .long pl2104)]) z2232 0 d_cX6_deepen_38 rfl hz2232.symm (Nat.le_of_ble_eq_true rfl) rfl ?_
            refine G_goto 2 d_cX6_deepen_41 (by decide +kernel) ?_
            exact ih2_2213 z2232 f2231 (gB_w bz2232 (by decide) (by decide)) (gF_any f2231) (fun k e1 ht => kt2_2213 k e1 (fun R c1 c2 c3 c4 => c4 g2212 f2213 u2218 u2219 z2225 z2230 f2231 z2232 k e1 bg2212 r2217 hu2218 hu2219 lhc2221 hz2225 r2229 ez2230 hf2231 ez2232 (ht R c1 c2 c3 c4))) (by omega)
  exact hlp2_2213 (((41 : Int) - 0).toNat + 1) 0 f2107 (gB_w (gBl (show Int32.toInt 0 = 0 by decide)) (by decide) (by decide)) (gF_any f2107) (fun k e1 ht => ht) (Nat.lt_succ_self _)
/- tl_Loops_find_75: l4, Loops_depth; out: Loops_depth -/
def tl_Loops_find_75 (Code_blocks : Int32) (c1 : Int64) (Loops_goals_1 : Nat → Int64) (Loops_sources_1 : Nat → Int64) (s1 : Int32) (s2 : Nat → Int32) (k : Nat) (e1 : Nat → Int32) : Prop := ∀ R : (Int32) → (Nat → Int32) → Nat → (Nat → Int32) → Prop,
  (∀ (l4_1 : Int32) (Loops_depth_1 : Nat → Int32), gB l4_1 0 40 → Code_blocks.toInt ≤ l4_1.toInt → R l4_1 Loops_depth_1 101 Loops_depth_1) →
  (∀ (l4_1 : Int32) (Loops_depth_1 : Nat → Int32) (x1 : Int64) (x2 : Nat → Int32) (x3 : Int32) (k : Nat) (e1 : Nat → Int32), gB l4_1 0 40 → l4_1.toInt < Code_blocks.toInt → tr_Loops_loopOf l4_1 c1 Loops_goals_1 Loops_sources_1 x1 → tr_Loops_deepen x1 Loops_depth_1 x2 → x3.toInt = l4_1.toInt + 1 → R x3 x2 k e1 → R l4_1 Loops_depth_1 k e1) →
  R s1 s2 k e1
/- tl_Loops_find_26: l2, Loops_goals, Loops_sources; out: Loops_goals, Loops_sources -/
def tl_Loops_find_26 (Code_blocks : Int32) (Code_firstGoal : Nat → Int32) (Code_secondGoal : Nat → Int32) (s1 : Int32) (s2 : Nat → Int64) (s3 : Nat → Int64) (k : Nat) (e1 : Nat → Int64) (e2 : Nat → Int64) : Prop := ∀ R : (Int32) → (Nat → Int64) → (Nat → Int64) → Nat → (Nat → Int64) → (Nat → Int64) → Prop,
  (∀ (l2_1 : Int32) (Loops_goals_1 : Nat → Int64) (Loops_sources_1 : Nat → Int64), gB l2_1 0 40 → Code_blocks.toInt ≤ l2_1.toInt → R l2_1 Loops_goals_1 Loops_sources_1 62 Loops_goals_1 Loops_sources_1) →
  (∀ (l2_1 : Int32) (Loops_goals_1 : Nat → Int64) (Loops_sources_1 : Nat → Int64) (x1 : Int32) (x2 : Nat → Int64) (x3 : Nat → Int64) (x4 : Int32) (x5 : Nat → Int64) (x6 : Nat → Int64) (x7 : Int32) (k : Nat) (e1 : Nat → Int64) (e2 : Nat → Int64), gB l2_1 0 40 → l2_1.toInt < Code_blocks.toInt → x1 = Code_firstGoal l2_1.toNatClampNeg → tr_Loops_link l2_1 x1 Loops_goals_1 Loops_sources_1 x2 x3 → x4 = Code_secondGoal l2_1.toNatClampNeg → tr_Loops_link l2_1 x4 x2 x3 x5 x6 → x7.toInt = l2_1.toInt + 1 → R x7 x5 x6 k e1 e2 → R l2_1 Loops_goals_1 Loops_sources_1 k e1 e2) →
  R s1 s2 s3 k e1 e2
/- tr_Loops_find: Loops_goals, Loops_sources, Loops_depth -/
def tr_Loops_find (Code_blocks : Int32) (Loops_goals : Nat → Int64) (Loops_sources : Nat → Int64) (Loops_depth : Nat → Int32) (Code_firstGoal : Nat → Int32) (Code_secondGoal : Nat → Int32) (o1 : Nat → Int64) (o2 : Nat → Int64) (o3 : Nat → Int32) : Prop := ∀ R : (Nat → Int64) → (Nat → Int64) → (Nat → Int32) → Prop,
  (∀ (x1 : Nat → Int64) (x2 : Nat → Int64) (x3 : Nat → Int32) (x4 : Nat → Int64) (x5 : Nat → Int64) (x6 : Int64) (x7 : Nat → Int32), tr_Arrays_fill (0 : Int64) Loops_goals x1 → tr_Arrays_fill (0 : Int64) Loops_sources x2 → tr_Arrays_fill2 (0 : Int32) Loops_depth x3 → tl_Loops_find_26 Code_blocks Code_firstGoal Code_secondGoal (0 : Int32) x1 x2 62 x4 x5 → tr_Loops_walk (1 : Int64) (0 : Int64) x4 x6 → tl_Loops_find_75 Code_blocks x6 x4 x5 (0 : Int32) x3 101 x7 → R x4 x5 x7) →
  R o1 o2 o3
abbrev ky_1080_Loops_find : gKey := (cX6_find, 5, yX6_find.cls, none, [], yX6_find.name, fun _ _ => True)
abbrev po_1080_Loops_find (I : FieldType → ClassId) (q1051 : Nat) (q1052 : Nat) (q1053 : Nat) (q1054 : Nat) (q1055 : Nat) (q1056 : Nat) (q1057 : Nat) (q1058 : Nat) (q1059 : Nat) (q1060 : Nat) (q1061 : Nat) (q1062 : Nat) (q1063 : Nat) (q1064 : Nat) (p1065 : Int32) (p1066 : Int32) (p1067 : Int32) (f1068 : Nat → Int64) (f1069 : Nat → Int64) (f1070 : Nat → Int32) (f1071 : Nat → Int32) (f1072 : Nat → Int32) (f1073 : Nat → Int32) (f1074 : Nat → Int32) (f1075 : Nat → Int32) (f1076 : Nat → Int32) (f1077 : Nat → Int32) (f1078 : Nat → Int32) (f1079 : Nat → Int32) : Option Value → va_W → Prop := fun r w => ∃ (f2638 : Nat → Int64) (f2639 : Nat → Int64) (f2640 : Nat → Int32), r = none ∧ w = [(q1051, .inr (11, [.ref q1053, .ref q1054, .ref q1055])), (q1052, .inr (5, [.ref q1056, .ref q1057, .ref q1058, .ref q1059, .ref q1060, .ref q1061, .ref q1062, .ref q1063, .ref q1064, .int p1065, .int p1066, .int p1067])), (q1053, .inl (I .long, 40, .inr (.inl f2638))), (q1054, .inl (I .long, 40, .inr (.inl f2639))), (q1055, .inl (I .int, 40, .inl f2640)), (q1056, .inl (I .int, 40, .inl f1071)), (q1057, .inl (I .int, 40, .inl f1072)), (q1058, .inl (I .int, 40, .inl f1073)), (q1059, .inl (I .int, 200, .inl f1074)), (q1060, .inl (I .int, 200, .inl f1075)), (q1061, .inl (I .int, 200, .inl f1076)), (q1062, .inl (I .int, 200, .inl f1077)), (q1063, .inl (I .int, 200, .inl f1078)), (q1064, .inl (I .int, 200, .inl f1079))] ∧ gF f2640 (-2147483648) 2147483647 ∧ tr_Loops_find p1065 f1068 f1069 f1070 f1072 f1073 f2638 f2639 f2640
set_option maxRecDepth 100000 in
set_option maxHeartbeats 4000000 in
theorem ct_1080_Loops_find (l : Launch) (hl0 : l.stackTraces = false) (D : va_G) (I : FieldType → ClassId) (q1051 : Nat) (q1052 : Nat) (q1053 : Nat) (q1054 : Nat) (q1055 : Nat) (q1056 : Nat) (q1057 : Nat) (q1058 : Nat) (q1059 : Nat) (q1060 : Nat) (q1061 : Nat) (q1062 : Nat) (q1063 : Nat) (q1064 : Nat) (p1065 : Int32) (p1066 : Int32) (p1067 : Int32) (f1068 : Nat → Int64) (f1069 : Nat → Int64) (f1070 : Nat → Int32) (f1071 : Nat → Int32) (f1072 : Nat → Int32) (f1073 : Nat → Int32) (f1074 : Nat → Int32) (f1075 : Nat → Int32) (f1076 : Nat → Int32) (f1077 : Nat → Int32) (f1078 : Nat → Int32) (f1079 : Nat → Int32) (bp1065 : gB p1065 0 40) (bp1066 : gB p1066 0 200) (bp1067 : gB p1067 0 1) (bf1071 : gF f1071 0 200) (bf1074 : gF f1074 0 21) : Ct (gV D I) l yX6_find cX6_find 5 none 2 59 0 0 [.ref q1051, .ref q1052] [(q1051, .inr (11, [.ref q1053, .ref q1054, .ref q1055])), (q1052, .inr (5, [.ref q1056, .ref q1057, .ref q1058, .ref q1059, .ref q1060, .ref q1061, .ref q1062, .ref q1063, .ref q1064, .int p1065, .int p1066, .int p1067])), (q1053, .inl (I .long, 40, .inr (.inl f1068))), (q1054, .inl (I .long, 40, .inr (.inl f1069))), (q1055, .inl (I .int, 40, .inl f1070)), (q1056, .inl (I .int, 40, .inl f1071)), (q1057, .inl (I .int, 40, .inl f1072)), (q1058, .inl (I .int, 40, .inl f1073)), (q1059, .inl (I .int, 200, .inl f1074)), (q1060, .inl (I .int, 200, .inl f1075)), (q1061, .inl (I .int, 200, .inl f1076)), (q1062, .inl (I .int, 200, .inl f1077)), (q1063, .inl (I .int, 200, .inl f1078)), (q1064, .inl (I .int, 200, .inl f1079))] (po_1080_Loops_find I q1051 q1052 q1053 q1054 q1055 q1056 q1057 q1058 q1059 q1060 q1061 q1062 q1063 q1064 p1065 p1066 p1067 f1068 f1069 f1070 f1071 f1072 f1073 f1074 f1075 f1076 f1077 f1078 f1079) gN := by
  refine Ct_of hl0 (by decide) (Nat.le_of_ble_eq_true rfl) ?_
  refine G_aload_n 0 d_cX6_find_0 rfl ?_
  refine G_getf 0 0 d_cX6_find_1 rfl (gk_X6 D I) (Nat.le_of_ble_eq_true rfl) w_1_233 rfl ?_
  refine G_lconst 0 d_cX6_find_4 rfl ?_
  refine G_callS (As := [.ref q1053, .long 0]) (wr := [(q1051, .inr (11, [.ref q1053, .ref q1054, .ref q1055])), (q1052, .inr (5, [.ref q1056, .ref q1057, .ref q1058, .ref q1059, .ref q1060, .ref q1061, .ref q1062, .ref q1063, .ref q1064, .int p1065, .int p1066, .int p1067])), (q1054, .inl (I .long, 40, .inr (.inl f1069))), (q1055, .inl (I .int, 40, .inl f1070)), (q1056, .inl (I .int, 40, .inl f1071)), (q1057, .inl (I .int, 40, .inl f1072)), (q1058, .inl (I .int, 40, .inl f1073)), (q1059, .inl (I .int, 200, .inl f1074)), (q1060, .inl (I .int, 200, .inl f1075)), (q1061, .inl (I .int, 200, .inl f1076)), (q1062, .inl (I .int, 200, .inl f1077)), (q1063, .inl (I .int, 200, .inl f1078)), (q1064, .inl (I .int, 200, .inl f1079))]) (gV_ok D I) (ct_1084_Arrays_fill l hl0 D I q1053 0 f1068 ) d_cX6_find_5 ⟨w_3_234, w_1_30, w_3_236, by decide, rfl, (Nat.le_of_ble_eq_true rfl), (Nat.le_of_ble_eq_true rfl)⟩ w_3_235 [2] [0, 1, 3, 4, 5, 6, 7, 8, 9, 10, 11, 12, 13] rfl rfl rfl rfl (by decide) (Nat.le_of_ble_eq_true rfl) (Nat.le_of_ble_eq_true rfl) (Nat.le_of_ble_eq_true rfl) (fun r w hp => ?_) (fun _ _ _ z => z.elim)
  obtain ⟨f1121, rfl, rfl, ht1122⟩ := hp
  change G _ _ _ _ _ _ _ _ _ _ _
  refine G_ws (ws' := [(q1051, .inr (11, [.ref q1053, .ref q1054, .ref q1055])), (q1052, .inr (5, [.ref q1056, .ref q1057, .ref q1058, .ref q1059, .ref q1060, .ref q1061, .ref q1062, .ref q1063, .ref q1064, .int p1065, .int p1066, .int p1067])), (q1054, .inl (I .long, 40, .inr (.inl f1069))), (q1055, .inl (I .int, 40, .inl f1070)), (q1056, .inl (I .int, 40, .inl f1071)), (q1057, .inl (I .int, 40, .inl f1072)), (q1058, .inl (I .int, 40, .inl f1073)), (q1059, .inl (I .int, 200, .inl f1074)), (q1060, .inl (I .int, 200, .inl f1075)), (q1061, .inl (I .int, 200, .inl f1076)), (q1062, .inl (I .int, 200, .inl f1077)), (q1063, .inl (I .int, 200, .inl f1078)), (q1064, .inl (I .int, 200, .inl f1079)), (q1053, .inl (I .long, 40, .inr (.inl f1121)))]) (cs' := 0) (sl' := 0) rfl rfl rfl ?_
  refine G_aload_n 0 d_cX6_find_8 rfl ?_
  refine G_getf 0 1 d_cX6_find_9 rfl (gk_X6 D I) (Nat.le_of_ble_eq_true rfl) w_1_234 rfl ?_
  refine G_lconst 0 d_cX6_find_12 rfl ?_
  refine G_callS (As := [.ref q1054, .long 0]) (wr := [(q1051, .inr (11, [.ref q1053, .ref q1054, .ref q1055])), (q1052, .inr (5, [.ref q1056, .ref q1057, .ref q1058, .ref q1059, .ref q1060, .ref q1061, .ref q1062, .ref q1063, .ref q1064, .int p1065, .int p1066, .int p1067])), (q1055, .inl (I .int, 40, .inl f1070)), (q1056, .inl (I .int, 40, .inl f1071)), (q1057, .inl (I .int, 40, .inl f1072)), (q1058, .inl (I .int, 40, .inl f1073)), (q1059, .inl (I .int, 200, .inl f1074)), (q1060, .inl (I .int, 200, .inl f1075)), (q1061, .inl (I .int, 200, .inl f1076)), (q1062, .inl (I .int, 200, .inl f1077)), (q1063, .inl (I .int, 200, .inl f1078)), (q1064, .inl (I .int, 200, .inl f1079)), (q1053, .inl (I .long, 40, .inr (.inl f1121)))]) (gV_ok D I) (ct_1084_Arrays_fill l hl0 D I q1054 0 f1069 ) d_cX6_find_13 ⟨w_3_234, w_1_30, w_3_236, by decide, rfl, (Nat.le_of_ble_eq_true rfl), (Nat.le_of_ble_eq_true rfl)⟩ w_3_235 [2] [0, 1, 3, 4, 5, 6, 7, 8, 9, 10, 11, 12, 13] rfl rfl rfl rfl (by decide) (Nat.le_of_ble_eq_true rfl) (Nat.le_of_ble_eq_true rfl) (Nat.le_of_ble_eq_true rfl) (fun r w hp => ?_) (fun _ _ _ z => z.elim)
  obtain ⟨f1123, rfl, rfl, ht1124⟩ := hp
  change G _ _ _ _ _ _ _ _ _ _ _
  refine G_ws (ws' := [(q1051, .inr (11, [.ref q1053, .ref q1054, .ref q1055])), (q1052, .inr (5, [.ref q1056, .ref q1057, .ref q1058, .ref q1059, .ref q1060, .ref q1061, .ref q1062, .ref q1063, .ref q1064, .int p1065, .int p1066, .int p1067])), (q1055, .inl (I .int, 40, .inl f1070)), (q1056, .inl (I .int, 40, .inl f1071)), (q1057, .inl (I .int, 40, .inl f1072)), (q1058, .inl (I .int, 40, .inl f1073)), (q1059, .inl (I .int, 200, .inl f1074)), (q1060, .inl (I .int, 200, .inl f1075)), (q1061, .inl (I .int, 200, .inl f1076)), (q1062, .inl (I .int, 200, .inl f1077)), (q1063, .inl (I .int, 200, .inl f1078)), (q1064, .inl (I .int, 200, .inl f1079)), (q1053, .inl (I .long, 40, .inr (.inl f1121))), (q1054, .inl (I .long, 40, .inr (.inl f1123)))]) (cs' := 0) (sl' := 0) rfl rfl rfl ?_
  refine G_aload_n 0 d_cX6_find_16 rfl ?_
  refine G_getf 0 2 d_cX6_find_17 rfl (gk_X6 D I) (Nat.le_of_ble_eq_true rfl) w_1_235 rfl ?_
  refine G_iconst 0 d_cX6_find_20 (by decide +kernel) ?_
  refine G_callS (As := [.ref q1055, .int 0]) (wr := [(q1051, .inr (11, [.ref q1053, .ref q1054, .ref q1055])), (q1052, .inr (5, [.ref q1056, .ref q1057, .ref q1058, .ref q1059, .ref q1060, .ref q1061, .ref q1062, .ref q1063, .ref q1064, .int p1065, .int p1066, .int p1067])), (q1056, .inl (I .int, 40, .inl f1071)), (q1057, .inl (I .int, 40, .inl f1072)), (q1058, .inl (I .int, 40, .inl f1073)), (q1059, .inl (I .int, 200, .inl f1074)), (q1060, .inl (I .int, 200, .inl f1075)), (q1061, .inl (I .int, 200, .inl f1076)), (q1062, .inl (I .int, 200, .inl f1077)), (q1063, .inl (I .int, 200, .inl f1078)), (q1064, .inl (I .int, 200, .inl f1079)), (q1053, .inl (I .long, 40, .inr (.inl f1121))), (q1054, .inl (I .long, 40, .inr (.inl f1123)))]) (gV_ok D I) (ct_1128_Arrays_fill l hl0 D I q1055 0 f1070 ) d_cX6_find_21 ⟨w_3_237, w_1_30, w_3_239, by decide, rfl, (Nat.le_of_ble_eq_true rfl), (Nat.le_of_ble_eq_true rfl)⟩ w_3_238 [2] [0, 1, 3, 4, 5, 6, 7, 8, 9, 10, 11, 12, 13] rfl rfl rfl rfl (by decide) (Nat.le_of_ble_eq_true rfl) (Nat.le_of_ble_eq_true rfl) (Nat.le_of_ble_eq_true rfl) (fun r w hp => ?_) (fun _ _ _ z => z.elim)
  obtain ⟨f1165, rfl, rfl, bf1165, ht1166⟩ := hp
  change G _ _ _ _ _ _ _ _ _ _ _
  refine G_ws (ws' := [(q1051, .inr (11, [.ref q1053, .ref q1054, .ref q1055])), (q1052, .inr (5, [.ref q1056, .ref q1057, .ref q1058, .ref q1059, .ref q1060, .ref q1061, .ref q1062, .ref q1063, .ref q1064, .int p1065, .int p1066, .int p1067])), (q1056, .inl (I .int, 40, .inl f1071)), (q1057, .inl (I .int, 40, .inl f1072)), (q1058, .inl (I .int, 40, .inl f1073)), (q1059, .inl (I .int, 200, .inl f1074)), (q1060, .inl (I .int, 200, .inl f1075)), (q1061, .inl (I .int, 200, .inl f1076)), (q1062, .inl (I .int, 200, .inl f1077)), (q1063, .inl (I .int, 200, .inl f1078)), (q1064, .inl (I .int, 200, .inl f1079)), (q1053, .inl (I .long, 40, .inr (.inl f1121))), (q1054, .inl (I .long, 40, .inr (.inl f1123))), (q1055, .inl (I .int, 40, .inl f1165))]) (cs' := 0) (sl' := 0) rfl rfl rfl ?_
  refine G_iconst 0 d_cX6_find_24 (by decide +kernel) ?_
  refine G_istore_n (L' := [(2, .int 0), (0, .ref q1051), (1, .ref q1052)]) d_cX6_find_25 (Nat.le_of_ble_eq_true rfl) rfl ?_
  have hlp26_2554 : ∀ (n26_2554 : Nat) (g2552 : Int32) (f2553 : Nat → Int64) (f2554 : Nat → Int64), gB g2552 0 40 → (∀ (k : Nat) (e1 : Nat → Int64) (e2 : Nat → Int64), tl_Loops_find_26 p1065 f1072 f1073 g2552 f2553 f2554 k e1 e2 → tl_Loops_find_26 p1065 f1072 f1073 (0 : Int32) f1121 f1123 k e1 e2) → ((41 : Int) - g2552.toInt).toNat < n26_2554 → G (gV D I) l (gRm 2 59 0 0) (gM (gV D I) (po_1080_Loops_find I q1051 q1052 q1053 q1054 q1055 q1056 q1057 q1058 q1059 q1060 q1061 q1062 q1063 q1064 p1065 p1066 p1067 f1068 f1069 f1070 f1071 f1072 f1073 f1074 f1075 f1076 f1077 f1078 f1079) gN 0 0) ky_1080_Loops_find 26 [(2, .int g2552), (0, .ref q1051), (1, .ref q1052)] [] [(q1051, .inr (11, [.ref q1053, .ref q1054, .ref q1055])), (q1052, .inr (5, [.ref q1056, .ref q1057, .ref q1058, .ref q1059, .ref q1060, .ref q1061, .ref q1062, .ref q1063, .ref q1064, .int p1065, .int p1066, .int p1067])), (q1056, .inl (I .int, 40, .inl f1071)), (q1057, .inl (I .int, 40, .inl f1072)), (q1058, .inl (I .int, 40, .inl f1073)), (q1059, .inl (I .int, 200, .inl f1074)), (q1060, .inl (I .int, 200, .inl f1075)), (q1061, .inl (I .int, 200, .inl f1076)), (q1062, .inl (I .int, 200, .inl f1077)), (q1063, .inl (I .int, 200, .inl f1078)), (q1064, .inl (I .int, 200, .inl f1079)), (q1053, .inl (I .long, 40, .inr (.inl f2553))), (q1054, .inl (I .long, 40, .inr (.inl f2554))), (q1055, .inl (I .int, 40, .inl f1165))] 0 0 := by
    intro n26_2554
    induction n26_2554 with
    | zero => intro g2552 f2553 f2554 bg2552 kt26_2554 hm26_2554; exact absurd hm26_2554 (Nat.not_lt_zero _)
    | succ n26_2554 ih26_2554 =>
      intro g2552 f2553 f2554 bg2552 kt26_2554 hm26_2554
      refine G_iload_n 0 d_cX6_find_26 rfl ?_
      refine G_aload_n 2 d_cX6_find_27 rfl ?_
      refine G_getfN 1 9 d_cX6_find_28 rfl (gk_X0 D I) (Nat.le_of_ble_eq_true rfl) (fun _ _ _ h => gn_w 40 rfl h) rfl ?_
      refine G_icmp_ge 62 d_cX6_find_31 (by decide +kernel) (fun hc2555 => ?_) (fun hc2555 => ?_)
      · have r2556 : p1065.toInt ≤ g2552.toInt := gC_le hc2555
        have hx2557 : tl_Loops_find_26 p1065 f1072 f1073 (0 : Int32) f1121 f1123 62 f2553 f2554 := kt26_2554 62 f2553 f2554 (fun R c1 c2 => c1 g2552 f2553 f2554 bg2552 r2556)
        refine G_aload_n 1 d_cX6_find_62 rfl ?_
        refine G_getf 0 0 d_cX6_find_63 rfl (gk_X6 D I) (Nat.le_of_ble_eq_true rfl) w_1_233 rfl ?_
        refine G_lconst 1 d_cX6_find_66 rfl ?_
        refine G_lconst 0 d_cX6_find_67 rfl ?_
        refine G_callS (As := [.ref q1053, .long 1, .long 0]) (wr := [(q1051, .inr (11, [.ref q1053, .ref q1054, .ref q1055])), (q1052, .inr (5, [.ref q1056, .ref q1057, .ref q1058, .ref q1059, .ref q1060, .ref q1061, .ref q1062, .ref q1063, .ref q1064, .int p1065, .int p1066, .int p1067])), (q1056, .inl (I .int, 40, .inl f1071)), (q1057, .inl (I .int, 40, .inl f1072)), (q1058, .inl (I .int, 40, .inl f1073)), (q1059, .inl (I .int, 200, .inl f1074)), (q1060, .inl (I .int, 200, .inl f1075)), (q1061, .inl (I .int, 200, .inl f1076)), (q1062, .inl (I .int, 200, .inl f1077)), (q1063, .inl (I .int, 200, .inl f1078)), (q1064, .inl (I .int, 200, .inl f1079)), (q1054, .inl (I .long, 40, .inr (.inl f2554))), (q1055, .inl (I .int, 40, .inl f1165))]) (gV_ok D I) (ct_1173_Loops_walk l hl0 D I q1053 1 0 f2553 ) d_cX6_find_68 ⟨w_4_4, w_1_7, w_4_6, by decide, rfl, (Nat.le_of_ble_eq_true rfl), (Nat.le_of_ble_eq_true rfl)⟩ w_4_5 [11] [0, 1, 2, 3, 4, 5, 6, 7, 8, 9, 10, 12, 13] rfl rfl rfl rfl (by decide) (Nat.le_of_ble_eq_true rfl) (Nat.le_of_ble_eq_true rfl) (Nat.le_of_ble_eq_true rfl) (fun r w hp => ?_) (fun _ _ _ z => z.elim)
        obtain ⟨ol2558, rfl, rfl, ht2559⟩ := hp
        change G _ _ _ _ _ _ _ (.long ol2558 :: _) _ _ _
        refine G_ws (ws' := [(q1051, .inr (11, [.ref q1053, .ref q1054, .ref q1055])), (q1052, .inr (5, [.ref q1056, .ref q1057, .ref q1058, .ref q1059, .ref q1060, .ref q1061, .ref q1062, .ref q1063, .ref q1064, .int p1065, .int p1066, .int p1067])), (q1056, .inl (I .int, 40, .inl f1071)), (q1057, .inl (I .int, 40, .inl f1072)), (q1058, .inl (I .int, 40, .inl f1073)), (q1059, .inl (I .int, 200, .inl f1074)), (q1060, .inl (I .int, 200, .inl f1075)), (q1061, .inl (I .int, 200, .inl f1076)), (q1062, .inl (I .int, 200, .inl f1077)), (q1063, .inl (I .int, 200, .inl f1078)), (q1064, .inl (I .int, 200, .inl f1079)), (q1054, .inl (I .long, 40, .inr (.inl f2554))), (q1055, .inl (I .int, 40, .inl f1165)), (q1053, .inl (I .long, 40, .inr (.inl f2553)))]) (cs' := 0) (sl' := 0) rfl rfl rfl ?_
        refine G_lstore_n (L' := [(2, .long ol2558), (0, .ref q1051), (1, .ref q1052)]) d_cX6_find_71 (Nat.le_of_ble_eq_true rfl) rfl ?_
        refine G_iconst 0 d_cX6_find_72 (by decide +kernel) ?_
        refine G_istore (L' := [(4, .int 0), (2, .long ol2558), (0, .ref q1051), (1, .ref q1052)]) d_cX6_find_73 (Nat.le_of_ble_eq_true rfl) rfl ?_
        have hlp75_2618 : ∀ (n75_2618 : Nat) (g2617 : Int32) (f2618 : Nat → Int32), gB g2617 0 40 → gF f2618 (-2147483648) 2147483647 → (∀ (k : Nat) (e1 : Nat → Int32), tl_Loops_find_75 p1065 ol2558 f2553 f2554 g2617 f2618 k e1 → tl_Loops_find_75 p1065 ol2558 f2553 f2554 (0 : Int32) f1165 k e1) → ((41 : Int) - g2617.toInt).toNat < n75_2618 → G (gV D I) l (gRm 2 59 0 0) (gM (gV D I) (po_1080_Loops_find I q1051 q1052 q1053 q1054 q1055 q1056 q1057 q1058 q1059 q1060 q1061 q1062 q1063 q1064 p1065 p1066 p1067 f1068 f1069 f1070 f1071 f1072 f1073 f1074 f1075 f1076 f1077 f1078 f1079) gN 0 0) ky_1080_Loops_find 75 [(4, .int g2617), (2, .long ol2558), (0, .ref q1051), (1, .ref q1052)] [] [(q1051, .inr (11, [.ref q1053, .ref q1054, .ref q1055])), (q1052, .inr (5, [.ref q1056, .ref q1057, .ref q1058, .ref q1059, .ref q1060, .ref q1061, .ref q1062, .ref q1063, .ref q1064, .int p1065, .int p1066, .int p1067])), (q1056, .inl (I .int, 40, .inl f1071)), (q1057, .inl (I .int, 40, .inl f1072)), (q1058, .inl (I .int, 40, .inl f1073)), (q1059, .inl (I .int, 200, .inl f1074)), (q1060, .inl (I .int, 200, .inl f1075)), (q1061, .inl (I .int, 200, .inl f1076)), (q1062, .inl (I .int, 200, .inl f1077)), (q1063, .inl (I .int, 200, .inl f1078)), (q1064, .inl (I .int, 200, .inl f1079)), (q1054, .inl (I .long, 40, .inr (.inl f2554))), (q1055, .inl (I .int, 40, .inl f2618)), (q1053, .inl (I .long, 40, .inr (.inl f2553)))] 0 0 := by
          intro n75_2618
          induction n75_2618 with
          | zero => intro g2617 f2618 bg2617 bf2618 kt75_2618 hm75_2618; exact absurd hm75_2618 (Nat.not_lt_zero _)
          | succ n75_2618 ih75_2618 =>
            intro g2617 f2618 bg2617 bf2618 kt75_2618 hm75_2618
            refine G_iload 0 d_cX6_find_75 rfl ?_
            refine G_aload_n 3 d_cX6_find_77 rfl ?_
            refine G_getfN 1 9 d_cX6_find_78 rfl (gk_X0 D I) (Nat.le_of_ble_eq_true rfl) (fun _ _ _ h => gn_w 40 rfl h) rfl ?_
            refine G_icmp_ge 101 d_cX6_find_81 (by decide +kernel) (fun hc2619 => ?_) (fun hc2619 => ?_)
            · have r2620 : p1065.toInt ≤ g2617.toInt := gC_le hc2619
              have hx2621 : tl_Loops_find_75 p1065 ol2558 f2553 f2554 (0 : Int32) f1165 101 f2618 := kt75_2618 101 f2618 (fun R c1 c2 => c1 g2617 f2618 bg2617 r2620)
              refine G_sub (ws' := [(q1051, .inr (11, [.ref q1053, .ref q1054, .ref q1055])), (q1052, .inr (5, [.ref q1056, .ref q1057, .ref q1058, .ref q1059, .ref q1060, .ref q1061, .ref q1062, .ref q1063, .ref q1064, .int p1065, .int p1066, .int p1067])), (q1053, .inl (I .long, 40, .inr (.inl f2553))), (q1054, .inl (I .long, 40, .inr (.inl f2554))), (q1055, .inl (I .int, 40, .inl f2618)), (q1056, .inl (I .int, 40, .inl f1071)), (q1057, .inl (I .int, 40, .inl f1072)), (q1058, .inl (I .int, 40, .inl f1073)), (q1059, .inl (I .int, 200, .inl f1074)), (q1060, .inl (I .int, 200, .inl f1075)), (q1061, .inl (I .int, 200, .inl f1076)), (q1062, .inl (I .int, 200, .inl f1077)), (q1063, .inl (I .int, 200, .inl f1078)), (q1064, .inl (I .int, 200, .inl f1079))]) [0, 1, 13, 11, 12, 2, 3, 4, 5, 6, 7, 8, 9, 10] rfl rfl ?_
              exact G_vret d_cX6_find_101 rfl (Nat.le_of_ble_eq_true rfl) (Nat.le_of_ble_eq_true rfl) ⟨f2553, f2554, f2618, rfl, rfl, bf2618, (fun R c1 => c1 f1121 f1123 f1165 f2553 f2554 ol2558 f2618 ht1122 ht1124 ht1166 hx2557 ht2559 hx2621)⟩
            · have r2622 : g2617.toInt < p1065.toInt := gC_nle hc2619
              have bg2617' : gB g2617 0 39 := ⟨by omega, by omega⟩
              have bp1065' : gB p1065 1 40 := ⟨by omega, by omega⟩
              refine G_aload_n 2 d_cX6_find_84 rfl ?_
              refine G_aload_n 2 d_cX6_find_85 rfl ?_
              refine G_iload 0 d_cX6_find_86 rfl ?_
              refine G_lload_n 1 d_cX6_find_88 rfl ?_
              refine G_callV (As := [.int g2617, .long ol2558]) (wr := [(q1052, .inr (5, [.ref q1056, .ref q1057, .ref q1058, .ref q1059, .ref q1060, .ref q1061, .ref q1062, .ref q1063, .ref q1064, .int p1065, .int p1066, .int p1067])), (q1056, .inl (I .int, 40, .inl f1071)), (q1057, .inl (I .int, 40, .inl f1072)), (q1058, .inl (I .int, 40, .inl f1073)), (q1059, .inl (I .int, 200, .inl f1074)), (q1060, .inl (I .int, 200, .inl f1075)), (q1061, .inl (I .int, 200, .inl f1076)), (q1062, .inl (I .int, 200, .inl f1077)), (q1063, .inl (I .int, 200, .inl f1078)), (q1064, .inl (I .int, 200, .inl f1079))]) (gV_ok D I) (ct_2080_Loops_loopOf l hl0 D I q1051 q1053 q1054 q1055 g2617 ol2558 f2553 f2554 f2618 bg2617') d_cX6_find_89 ⟨w_4_8, w_1_7, w_4_11, by decide, rfl, (Nat.le_of_ble_eq_true rfl), (Nat.le_of_ble_eq_true rfl)⟩ w_4_10 w_p_27 0 rfl rfl [0, 13, 11, 12] [1, 2, 3, 4, 5, 6, 7, 8, 9, 10] rfl rfl rfl rfl (by decide) (Nat.le_of_ble_eq_true rfl) (Nat.le_of_ble_eq_true rfl) (Nat.le_of_ble_eq_true rfl) (fun r w hp => ?_) (fun _ _ _ z => z.elim)
              obtain ⟨ol2623, rfl, rfl, ht2624⟩ := hp
              change G _ _ _ _ _ _ _ (.long ol2623 :: _) _ _ _
              refine G_ws (ws' := [(q1052, .inr (5, [.ref q1056, .ref q1057, .ref q1058, .ref q1059, .ref q1060, .ref q1061, .ref q1062, .ref q1063, .ref q1064, .int p1065, .int p1066, .int p1067])), (q1056, .inl (I .int, 40, .inl f1071)), (q1057, .inl (I .int, 40, .inl f1072)), (q1058, .inl (I .int, 40, .inl f1073)), (q1059, .inl (I .int, 200, .inl f1074)), (q1060, .inl (I .int, 200, .inl f1075)), (q1061, .inl (I .int, 200, .inl f1076)), (q1062, .inl (I .int, 200, .inl f1077)), (q1063, .inl (I .int, 200, .inl f1078)), (q1064, .inl (I .int, 200, .inl f1079)), (q1051, .inr (11, [.ref q1053, .ref q1054, .ref q1055])), (q1053, .inl (I .long, 40, .inr (.inl f2553))), (q1054, .inl (I .long, 40, .inr (.inl f2554))), (q1055, .inl (I .int, 40, .inl f2618))]) (cs' := 0) (sl' := 0) rfl rfl rfl ?_
              refine G_callV (As := [.long ol2623]) (wr := [(q1052, .inr (5, [.ref q1056, .ref q1057, .ref q1058, .ref q1059, .ref q1060, .ref q1061, .ref q1062, .ref q1063, .ref q1064, .int p1065, .int p1066, .int p1067])), (q1056, .inl (I .int, 40, .inl f1071)), (q1057, .inl (I .int, 40, .inl f1072)), (q1058, .inl (I .int, 40, .inl f1073)), (q1059, .inl (I .int, 200, .inl f1074)), (q1060, .inl (I .int, 200, .inl f1075)), (q1061, .inl (I .int, 200, .inl f1076)), (q1062, .inl (I .int, 200, .inl f1077)), (q1063, .inl (I .int, 200, .inl f1078)), (q1064, .inl (I .int, 200, .inl f1079))]) (gV_ok D I) (ct_2108_Loops_deepen l hl0 D I q1051 q1053 q1054 q1055 ol2623 f2553 f2554 f2618 ) d_cX6_find_92 ⟨w_4_12, w_1_7, w_4_15, by decide, rfl, (Nat.le_of_ble_eq_true rfl), (Nat.le_of_ble_eq_true rfl)⟩ w_4_14 w_p_28 10 rfl rfl [10, 11, 12, 13] [0, 1, 2, 3, 4, 5, 6, 7, 8, 9] rfl rfl rfl rfl (by decide) (Nat.le_of_ble_eq_true rfl) (Nat.le_of_ble_eq_true rfl) (Nat.le_of_ble_eq_true rfl) (fun r w hp => ?_) (fun _ _ _ z => z.elim)
              obtain ⟨f2625, rfl, rfl, bf2625, ht2626⟩ := hp
              change G _ _ _ _ _ _ _ _ _ _ _
              refine G_ws (ws' := [(q1052, .inr (5, [.ref q1056, .ref q1057, .ref q1058, .ref q1059, .ref q1060, .ref q1061, .ref q1062, .ref q1063, .ref q1064, .int p1065, .int p1066, .int p1067])), (q1056, .inl (I .int, 40, .inl f1071)), (q1057, .inl (I .int, 40, .inl f1072)), (q1058, .inl (I .int, 40, .inl f1073)), (q1059, .inl (I .int, 200, .inl f1074)), (q1060, .inl (I .int, 200, .inl f1075)), (q1061, .inl (I .int, 200, .inl f1076)), (q1062, .inl (I .int, 200, .inl f1077)), (q1063, .inl (I .int, 200, .inl f1078)), (q1064, .inl (I .int, 200, .inl f1079)), (q1051, .inr (11, [.ref q1053, .ref q1054, .ref q1055])), (q1053, .inl (I .long, 40, .inr (.inl f2553))), (q1054, .inl (I .long, 40, .inr (.inl f2554))), (q1055, .inl (I .int, 40, .inl f2625))]) (cs' := 0) (sl' := 0) rfl rfl rfl ?_
              obtain ⟨z2627, hz2627⟩ : ∃ z : Int32, z = g2617 + Int32.ofInt 1 := ⟨_, rfl⟩
              have ez2627 : z2627.toInt = g2617.toInt + 1 := gI_inc hz2627 (by decide) bg2617' (by decide) (by decide)
              have bz2627 : gB z2627 1 40 := ⟨by omega, by omega⟩
              refine G_iinc (L' := [(4, .int z2627), (2, .long ol2558), (0, .ref q1051), (1, .ref q1052)]) z2627 0 d_cX6_find_95 rfl hz2627.symm (Nat.le_of_ble_eq_true rfl) rfl ?_
              refine G_goto 75 d_cX6_find_98 (by decide +kernel) ?_
              refine G_sub (ws' := [(q1051, .inr (11, [.ref q1053, .ref q1054, .ref q1055])), (q1052, .inr (5, [.ref q1056, .ref q1057, .ref q1058, .ref q1059, .ref q1060, .ref q1061, .ref q1062, .ref q1063, .ref q1064, .int p1065, .int p1066, .int p1067])), (q1056, .inl (I .int, 40, .inl f1071)), (q1057, .inl (I .int, 40, .inl f1072)), (q1058, .inl (I .int, 40, .inl f1073)), (q1059, .inl (I .int, 200, .inl f1074)), (q1060, .inl (I .int, 200, .inl f1075)), (q1061, .inl (I .int, 200, .inl f1076)), (q1062, .inl (I .int, 200, .inl f1077)), (q1063, .inl (I .int, 200, .inl f1078)), (q1064, .inl (I .int, 200, .inl f1079)), (q1054, .inl (I .long, 40, .inr (.inl f2554))), (q1055, .inl (I .int, 40, .inl f2625)), (q1053, .inl (I .long, 40, .inr (.inl f2553)))]) [10, 0, 1, 2, 3, 4, 5, 6, 7, 8, 9, 12, 13, 11] rfl rfl ?_
              exact ih75_2618 z2627 f2625 (gB_w bz2627 (by decide) (by decide)) bf2625 (fun k e1 ht => kt75_2618 k e1 (fun R c1 c2 => c2 g2617 f2618 ol2623 f2625 z2627 k e1 bg2617 r2622 ht2624 ht2626 ez2627 (ht R c1 c2))) (by omega)
        exact hlp75_2618 (((41 : Int) - 0).toNat + 1) 0 f1165 (gB_w (gBl (show Int32.toInt 0 = 0 by decide)) (by decide) (by decide)) bf1165 (fun k e1 ht => ht) (Nat.lt_succ_self _)
      · have r2628 : g2552.toInt < p1065.toInt := gC_nle hc2555
        have bg2552' : gB g2552 0 39 := ⟨by omega, by omega⟩
        have bp1065' : gB p1065 1 40 := ⟨by omega, by omega⟩
        refine G_aload_n 1 d_cX6_find_34 rfl ?_
        refine G_iload_n 0 d_cX6_find_35 rfl ?_
        refine G_aload_n 2 d_cX6_find_36 rfl ?_
        refine G_getfN 1 1 d_cX6_find_37 rfl (gk_X0 D I) (Nat.le_of_ble_eq_true rfl) (fun _ _ _ h => gn_w 7 rfl h) rfl ?_
        refine G_iload_n 0 d_cX6_find_40 rfl ?_
        refine G_iald 3 0 d_cX6_find_41 rfl rfl (gB_in bg2552' (by decide) (by decide)) (G_nam fun z2629 hz2629 => ?_)
        have bz2629 : gB z2629 (-2147483648) 2147483647 := gB_any z2629
        refine G_callV (As := [.int g2552, .int z2629]) (wr := [(q1052, .inr (5, [.ref q1056, .ref q1057, .ref q1058, .ref q1059, .ref q1060, .ref q1061, .ref q1062, .ref q1063, .ref q1064, .int p1065, .int p1066, .int p1067])), (q1056, .inl (I .int, 40, .inl f1071)), (q1057, .inl (I .int, 40, .inl f1072)), (q1058, .inl (I .int, 40, .inl f1073)), (q1059, .inl (I .int, 200, .inl f1074)), (q1060, .inl (I .int, 200, .inl f1075)), (q1061, .inl (I .int, 200, .inl f1076)), (q1062, .inl (I .int, 200, .inl f1077)), (q1063, .inl (I .int, 200, .inl f1078)), (q1064, .inl (I .int, 200, .inl f1079))]) (gV_ok D I) (ct_2037_Loops_link l hl0 D I q1051 q1053 q1054 q1055 g2552 z2629 f2553 f2554 f1165 bg2552') d_cX6_find_42 ⟨w_4_0, w_1_7, w_4_3, by decide, rfl, (Nat.le_of_ble_eq_true rfl), (Nat.le_of_ble_eq_true rfl)⟩ w_4_2 w_p_26 0 rfl rfl [0, 11, 12, 13] [1, 2, 3, 4, 5, 6, 7, 8, 9, 10] rfl rfl rfl rfl (by decide) (Nat.le_of_ble_eq_true rfl) (Nat.le_of_ble_eq_true rfl) (Nat.le_of_ble_eq_true rfl) (fun r w hp => ?_) (fun _ _ _ z => z.elim)
        obtain ⟨f2630, f2631, rfl, rfl, ht2632⟩ := hp
        change G _ _ _ _ _ _ _ _ _ _ _
        refine G_ws (ws' := [(q1052, .inr (5, [.ref q1056, .ref q1057, .ref q1058, .ref q1059, .ref q1060, .ref q1061, .ref q1062, .ref q1063, .ref q1064, .int p1065, .int p1066, .int p1067])), (q1056, .inl (I .int, 40, .inl f1071)), (q1057, .inl (I .int, 40, .inl f1072)), (q1058, .inl (I .int, 40, .inl f1073)), (q1059, .inl (I .int, 200, .inl f1074)), (q1060, .inl (I .int, 200, .inl f1075)), (q1061, .inl (I .int, 200, .inl f1076)), (q1062, .inl (I .int, 200, .inl f1077)), (q1063, .inl (I .int, 200, .inl f1078)), (q1064, .inl (I .int, 200, .inl f1079)), (q1051, .inr (11, [.ref q1053, .ref q1054, .ref q1055])), (q1053, .inl (I .long, 40, .inr (.inl f2630))), (q1054, .inl (I .long, 40, .inr (.inl f2631))), (q1055, .inl (I .int, 40, .inl f1165))]) (cs' := 0) (sl' := 0) rfl rfl rfl ?_
        refine G_aload_n 1 d_cX6_find_45 rfl ?_
        refine G_iload_n 0 d_cX6_find_46 rfl ?_
        refine G_aload_n 2 d_cX6_find_47 rfl ?_
        refine G_getfN 0 2 d_cX6_find_48 rfl (gk_X0 D I) (Nat.le_of_ble_eq_true rfl) (fun _ _ _ h => gn_w 11 rfl h) rfl ?_
        refine G_iload_n 0 d_cX6_find_51 rfl ?_
        refine G_iald 3 0 d_cX6_find_52 rfl rfl (gB_in bg2552' (by decide) (by decide)) (G_nam fun z2633 hz2633 => ?_)
        have bz2633 : gB z2633 (-2147483648) 2147483647 := gB_any z2633
        refine G_callV (As := [.int g2552, .int z2633]) (wr := [(q1052, .inr (5, [.ref q1056, .ref q1057, .ref q1058, .ref q1059, .ref q1060, .ref q1061, .ref q1062, .ref q1063, .ref q1064, .int p1065, .int p1066, .int p1067])), (q1056, .inl (I .int, 40, .inl f1071)), (q1057, .inl (I .int, 40, .inl f1072)), (q1058, .inl (I .int, 40, .inl f1073)), (q1059, .inl (I .int, 200, .inl f1074)), (q1060, .inl (I .int, 200, .inl f1075)), (q1061, .inl (I .int, 200, .inl f1076)), (q1062, .inl (I .int, 200, .inl f1077)), (q1063, .inl (I .int, 200, .inl f1078)), (q1064, .inl (I .int, 200, .inl f1079))]) (gV_ok D I) (ct_2037_Loops_link l hl0 D I q1051 q1053 q1054 q1055 g2552 z2633 f2630 f2631 f1165 bg2552') d_cX6_find_53 ⟨w_4_0, w_1_7, w_4_3, by decide, rfl, (Nat.le_of_ble_eq_true rfl), (Nat.le_of_ble_eq_true rfl)⟩ w_4_2 w_p_26 10 rfl rfl [10, 11, 12, 13] [0, 1, 2, 3, 4, 5, 6, 7, 8, 9] rfl rfl rfl rfl (by decide) (Nat.le_of_ble_eq_true rfl) (Nat.le_of_ble_eq_true rfl) (Nat.le_of_ble_eq_true rfl) (fun r w hp => ?_) (fun _ _ _ z => z.elim)
        obtain ⟨f2634, f2635, rfl, rfl, ht2636⟩ := hp
        change G _ _ _ _ _ _ _ _ _ _ _
        refine G_ws (ws' := [(q1052, .inr (5, [.ref q1056, .ref q1057, .ref q1058, .ref q1059, .ref q1060, .ref q1061, .ref q1062, .ref q1063, .ref q1064, .int p1065, .int p1066, .int p1067])), (q1056, .inl (I .int, 40, .inl f1071)), (q1057, .inl (I .int, 40, .inl f1072)), (q1058, .inl (I .int, 40, .inl f1073)), (q1059, .inl (I .int, 200, .inl f1074)), (q1060, .inl (I .int, 200, .inl f1075)), (q1061, .inl (I .int, 200, .inl f1076)), (q1062, .inl (I .int, 200, .inl f1077)), (q1063, .inl (I .int, 200, .inl f1078)), (q1064, .inl (I .int, 200, .inl f1079)), (q1051, .inr (11, [.ref q1053, .ref q1054, .ref q1055])), (q1053, .inl (I .long, 40, .inr (.inl f2634))), (q1054, .inl (I .long, 40, .inr (.inl f2635))), (q1055, .inl (I .int, 40, .inl f1165))]) (cs' := 0) (sl' := 0) rfl rfl rfl ?_
        obtain ⟨z2637, hz2637⟩ : ∃ z : Int32, z = g2552 + Int32.ofInt 1 := ⟨_, rfl⟩
        have ez2637 : z2637.toInt = g2552.toInt + 1 := gI_inc hz2637 (by decide) bg2552' (by decide) (by decide)
        have bz2637 : gB z2637 1 40 := ⟨by omega, by omega⟩
        refine G_iinc (L' := [(2, .int z2637), (0, .ref q1051), (1, .ref q1052)]) z2637 0 d_cX6_find_56 rfl hz2637.symm (Nat.le_of_ble_eq_true rfl) rfl ?_
        refine G_goto 26 d_cX6_find_59 (by decide +kernel) ?_
        refine G_sub (ws' := [(q1051, .inr (11, [.ref q1053, .ref q1054, .ref q1055])), (q1052, .inr (5, [.ref q1056, .ref q1057, .ref q1058, .ref q1059, .ref q1060, .ref q1061, .ref q1062, .ref q1063, .ref q1064, .int p1065, .int p1066, .int p1067])), (q1056, .inl (I .int, 40, .inl f1071)), (q1057, .inl (I .int, 40, .inl f1072)), (q1058, .inl (I .int, 40, .inl f1073)), (q1059, .inl (I .int, 200, .inl f1074)), (q1060, .inl (I .int, 200, .inl f1075)), (q1061, .inl (I .int, 200, .inl f1076)), (q1062, .inl (I .int, 200, .inl f1077)), (q1063, .inl (I .int, 200, .inl f1078)), (q1064, .inl (I .int, 200, .inl f1079)), (q1053, .inl (I .long, 40, .inr (.inl f2634))), (q1054, .inl (I .long, 40, .inr (.inl f2635))), (q1055, .inl (I .int, 40, .inl f1165))]) [10, 0, 1, 2, 3, 4, 5, 6, 7, 8, 9, 11, 12, 13] rfl rfl ?_
        exact ih26_2554 z2637 f2634 f2635 (gB_w bz2637 (by decide) (by decide)) (fun k e1 e2 ht => kt26_2554 k e1 e2 (fun R c1 c2 => c2 g2552 f2553 f2554 z2629 f2630 f2631 z2633 f2634 f2635 z2637 k e1 e2 bg2552 r2628 hz2629 ht2632 hz2633 ht2636 ez2637 (ht R c1 c2))) (by omega)
  exact hlp26_2554 (((41 : Int) - 0).toNat + 1) 0 f1121 f1123 (gB_w (gBl (show Int32.toInt 0 = 0 by decide)) (by decide) (by decide)) (fun k e1 e2 ht => ht) (Nat.lt_succ_self _)
/- tl_Machine_takeInput_20: l2, Machine_given; out: Machine_given -/
def tl_Machine_takeInput_20 (c1 : Int32) (Tape_size : Int32) (Tape_bytes : Nat → Int32) (s1 : Int32) (s2 : Nat → Int32) (k : Nat) (e1 : Nat → Int32) : Prop := ∀ R : (Int32) → (Nat → Int32) → Nat → (Nat → Int32) → Prop,
  (∀ (l2_1 : Int32) (Machine_given_1 : Nat → Int32), gB l2_1 0 2048 → c1.toInt ≤ l2_1.toInt → R l2_1 Machine_given_1 47 Machine_given_1) →
  (∀ (l2_1 : Int32) (Machine_given_1 : Nat → Int32) (x1 : Int32) (x2 : Int32) (x3 : Nat → Int32) (x4 : Int32) (k : Nat) (e1 : Nat → Int32), gB l2_1 0 2048 → l2_1.toInt < c1.toInt → x1.toInt = 4 * l2_1.toInt → tr_Tape_intAt x1 Tape_size Tape_bytes x2 → x3 = upd Machine_given_1 l2_1.toNatClampNeg x2 → x4.toInt = l2_1.toInt + 1 → R x4 x3 k e1 → R l2_1 Machine_given_1 k e1) →
  R s1 s2 k e1
/- tr_Machine_takeInput: result, Machine_givens, Machine_given -/
def tr_Machine_takeInput (Tape_size : Int32) (Machine_given : Nat → Int32) (Tape_bytes : Nat → Int32) (o1 : Int32) (o2 : Int32) (o3 : Nat → Int32) : Prop := ∀ R : (Int32) → (Int32) → (Nat → Int32) → Prop,
  (∀ (x1 : Int32) (x2 : Int32) (x3 : Nat → Int32), x1.toInt = Tape_size.toInt / 4 → (x1.toInt ≥ x2.toInt ∧ 2048 ≥ x2.toInt ∧ (x2.toInt = x1.toInt ∨ x2.toInt = 2048)) → tl_Machine_takeInput_20 x2 Tape_size Tape_bytes (0 : Int32) Machine_given 47 x3 → R x2 x2 x3) →
  R o1 o2 o3
abbrev ky_2661_Machine_takeInput : gKey := (cX7_takeInput, 3, yX7_takeInput.cls, (some FieldType.int), [], yX7_takeInput.name, fun _ _ => True)
abbrev po_2661_Machine_takeInput (I : FieldType → ClassId) (q2641 : Nat) (q2642 : Nat) (q2643 : Nat) (q2644 : Nat) (q2645 : Nat) (q2646 : Nat) (q2647 : Nat) (p2648 : Int32) (p2649 : Int32) (p2650 : Int32) (p2651 : Int32) (p2652 : Int32) (p2653 : Int32) (p2654 : Int32) (p2655 : Int32) (f2656 : Nat → Int32) (f2657 : Nat → Int32) (f2658 : Nat → Int32) (f2659 : Nat → Int32) (f2660 : Nat → Int32) : Option Value → va_W → Prop := fun r w => ∃ (o2733 : Int32) (o2731 : Int32) (f2732 : Nat → Int32), r = some (.int o2733) ∧ w = [(q2641, .inr (12, [.ref q2643, .ref q2644, .ref q2645, .ref q2646, .int o2731, .int p2649, .int p2650, .int p2651, .int p2652, .int p2653, .int p2654])), (q2642, .inr (15, [.ref q2647, .int p2655])), (q2643, .inl (I .int, 2048, .inl f2732)), (q2644, .inl (I .int, 100, .inl f2657)), (q2645, .inl (I .int, 100, .inl f2658)), (q2646, .inl (I .int, 512, .inl f2659)), (q2647, .inl (I .byte, 8192, .inl f2660))] ∧ gB o2733 0 2048 ∧ gB o2731 0 2048 ∧ gF f2732 (-2147483648) 2147483647 ∧ o2733.toInt = p2655.toInt / 4 ∧ tr_Machine_takeInput p2655 f2656 f2660 o2733 o2731 f2732
set_option maxRecDepth 100000 in
set_option maxHeartbeats 4000000 in
theorem ct_2661_Machine_takeInput (l : Launch) (hl0 : l.stackTraces = false) (D : va_G) (I : FieldType → ClassId) (q2641 : Nat) (q2642 : Nat) (q2643 : Nat) (q2644 : Nat) (q2645 : Nat) (q2646 : Nat) (q2647 : Nat) (p2648 : Int32) (p2649 : Int32) (p2650 : Int32) (p2651 : Int32) (p2652 : Int32) (p2653 : Int32) (p2654 : Int32) (p2655 : Int32) (f2656 : Nat → Int32) (f2657 : Nat → Int32) (f2658 : Nat → Int32) (f2659 : Nat → Int32) (f2660 : Nat → Int32) (bp2648 : gB p2648 0 2048) (bp2649 : gB p2649 0 39) (bp2651 : gB p2651 0 512) (bp2653 : gB p2653 0 2048) (bp2655 : gB p2655 0 8192) (bf2660 : gF f2660 (-128) 127) : Ct (gV D I) l yX7_takeInput cX7_takeInput 3 (some FieldType.int) 2 44 0 0 [.ref q2641, .ref q2642] [(q2641, .inr (12, [.ref q2643, .ref q2644, .ref q2645, .ref q2646, .int p2648, .int p2649, .int p2650, .int p2651, .int p2652, .int p2653, .int p2654])), (q2642, .inr (15, [.ref q2647, .int p2655])), (q2643, .inl (I .int, 2048, .inl f2656)), (q2644, .inl (I .int, 100, .inl f2657)), (q2645, .inl (I .int, 100, .inl f2658)), (q2646, .inl (I .int, 512, .inl f2659)), (q2647, .inl (I .byte, 8192, .inl f2660))] (po_2661_Machine_takeInput I q2641 q2642 q2643 q2644 q2645 q2646 q2647 p2648 p2649 p2650 p2651 p2652 p2653 p2654 p2655 f2656 f2657 f2658 f2659 f2660) gN := by
  refine Ct_of hl0 (by decide) (Nat.le_of_ble_eq_true rfl) ?_
  have bp2650 := gB_any p2650
  have bp2652 := gB_any p2652
  have bp2654 := gB_any p2654
  refine G_aload_n 0 d_cX7_takeInput_0 rfl ?_
  refine G_aload_n 1 d_cX7_takeInput_1 rfl ?_
  refine G_callV (As := []) (wr := [(q2641, .inr (12, [.ref q2643, .ref q2644, .ref q2645, .ref q2646, .int p2648, .int p2649, .int p2650, .int p2651, .int p2652, .int p2653, .int p2654])), (q2643, .inl (I .int, 2048, .inl f2656)), (q2644, .inl (I .int, 100, .inl f2657)), (q2645, .inl (I .int, 100, .inl f2658)), (q2646, .inl (I .int, 512, .inl f2659))]) (gV_ok D I) (ct_5_Tape_size l hl0 D I q2642 q2647 p2655 f2660 bp2655 bf2660) d_cX7_takeInput_2 ⟨w_4_176, w_1_2, w_3_19, by decide, rfl, (Nat.le_of_ble_eq_true rfl), (Nat.le_of_ble_eq_true rfl)⟩ w_3_17 w_3_18 1 rfl rfl [1, 6] [0, 2, 3, 4, 5] rfl rfl rfl rfl (by decide) (Nat.le_of_ble_eq_true rfl) (Nat.le_of_ble_eq_true rfl) (Nat.le_of_ble_eq_true rfl) (fun r w hp => ?_) (fun _ _ _ z => z.elim)
  obtain ⟨rfl, rfl⟩ := hp
  change G _ _ _ _ _ _ _ (.int p2655 :: _) _ _ _
  refine G_ws (ws' := [(q2641, .inr (12, [.ref q2643, .ref q2644, .ref q2645, .ref q2646, .int p2648, .int p2649, .int p2650, .int p2651, .int p2652, .int p2653, .int p2654])), (q2643, .inl (I .int, 2048, .inl f2656)), (q2644, .inl (I .int, 100, .inl f2657)), (q2645, .inl (I .int, 100, .inl f2658)), (q2646, .inl (I .int, 512, .inl f2659)), (q2642, .inr (15, [.ref q2647, .int p2655])), (q2647, .inl (I .byte, 8192, .inl f2660))]) (cs' := 0) (sl' := 0) rfl rfl rfl ?_
  refine G_iconst 4 d_cX7_takeInput_5 (by decide +kernel) ?_
  refine G_idiv d_cX7_takeInput_6 (by decide) (G_nam fun z2662 hz2662 => ?_)
  have ez2662 : z2662.toInt = p2655.toInt / 4 := gI_div hz2662 bp2655 (by decide) (by decide) (by decide)
  have bz2662 : gB z2662 0 2048 := ⟨by omega, by omega⟩
  refine G_aload_n 0 d_cX7_takeInput_7 rfl ?_
  refine G_getf 0 0 d_cX7_takeInput_8 rfl (gk_X7 D I) (Nat.le_of_ble_eq_true rfl) w_2_160 rfl ?_
  refine G_alen 2048 1 0 d_cX7_takeInput_11 rfl rfl rfl ?_
  refine G_mmin d_cX7_takeInput_12 w_4_177 w_3_227 w_1_6 w_3_228 (Nat.le_of_ble_eq_true rfl) (Nat.le_of_ble_eq_true rfl) (Nat.le_of_ble_eq_true rfl) (Nat.le_of_ble_eq_true rfl) (G_nam fun z2663 hz2663 => ?_)
  have ez2663 : z2662.toInt ≥ z2663.toInt ∧ 2048 ≥ z2663.toInt ∧ (z2663.toInt = z2662.toInt ∨ z2663.toInt = 2048) := by have := gI_min hz2663; rw [show Int32.toInt 2048 = 2048 from by decide] at this; omega
  have bz2663 : gB z2663 0 2048 := ⟨by omega, by omega⟩
  refine G_putf (ws' := [(q2641, .inr (12, [.ref q2643, .ref q2644, .ref q2645, .ref q2646, .int z2663, .int p2649, .int p2650, .int p2651, .int p2652, .int p2653, .int p2654])), (q2643, .inl (I .int, 2048, .inl f2656)), (q2644, .inl (I .int, 100, .inl f2657)), (q2645, .inl (I .int, 100, .inl f2658)), (q2646, .inl (I .int, 512, .inl f2659)), (q2642, .inr (15, [.ref q2647, .int p2655])), (q2647, .inl (I .byte, 8192, .inl f2660))]) 0 4 d_cX7_takeInput_15 rfl (gk_X7 D I) (Nat.le_of_ble_eq_true rfl) w_2_164 rfl rfl rfl (Nat.le_of_ble_eq_true rfl) rfl ?_
  refine G_iconst 0 d_cX7_takeInput_18 (by decide +kernel) ?_
  refine G_istore_n (L' := [(2, .int 0), (0, .ref q2641), (1, .ref q2642)]) d_cX7_takeInput_19 (Nat.le_of_ble_eq_true rfl) rfl ?_
  have hlp20_2721 : ∀ (n20_2721 : Nat) (g2720 : Int32) (f2721 : Nat → Int32), gB g2720 0 2048 → gF f2721 (-2147483648) 2147483647 → (∀ (k : Nat) (e1 : Nat → Int32), tl_Machine_takeInput_20 z2663 p2655 f2660 g2720 f2721 k e1 → tl_Machine_takeInput_20 z2663 p2655 f2660 (0 : Int32) f2656 k e1) → ((2049 : Int) - g2720.toInt).toNat < n20_2721 → G (gV D I) l (gRm 2 44 0 0) (gM (gV D I) (po_2661_Machine_takeInput I q2641 q2642 q2643 q2644 q2645 q2646 q2647 p2648 p2649 p2650 p2651 p2652 p2653 p2654 p2655 f2656 f2657 f2658 f2659 f2660) gN 0 0) ky_2661_Machine_takeInput 20 [(2, .int g2720), (0, .ref q2641), (1, .ref q2642)] [] [(q2641, .inr (12, [.ref q2643, .ref q2644, .ref q2645, .ref q2646, .int z2663, .int p2649, .int p2650, .int p2651, .int p2652, .int p2653, .int p2654])), (q2643, .inl (I .int, 2048, .inl f2721)), (q2644, .inl (I .int, 100, .inl f2657)), (q2645, .inl (I .int, 100, .inl f2658)), (q2646, .inl (I .int, 512, .inl f2659)), (q2642, .inr (15, [.ref q2647, .int p2655])), (q2647, .inl (I .byte, 8192, .inl f2660))] 0 0 := by
    intro n20_2721
    induction n20_2721 with
    | zero => intro g2720 f2721 bg2720 bf2721 kt20_2721 hm20_2721; exact absurd hm20_2721 (Nat.not_lt_zero _)
    | succ n20_2721 ih20_2721 =>
      intro g2720 f2721 bg2720 bf2721 kt20_2721 hm20_2721
      refine G_iload_n 0 d_cX7_takeInput_20 rfl ?_
      refine G_aload_n 1 d_cX7_takeInput_21 rfl ?_
      refine G_getf 0 4 d_cX7_takeInput_22 rfl (gk_X7 D I) (Nat.le_of_ble_eq_true rfl) w_2_164 rfl ?_
      refine G_icmp_ge 47 d_cX7_takeInput_25 (by decide +kernel) (fun hc2722 => ?_) (fun hc2722 => ?_)
      · have r2723 : z2663.toInt ≤ g2720.toInt := gC_le hc2722
        have hx2724 : tl_Machine_takeInput_20 z2663 p2655 f2660 (0 : Int32) f2656 47 f2721 := kt20_2721 47 f2721 (fun R c1 c2 => c1 g2720 f2721 bg2720 r2723)
        refine G_aload_n 1 d_cX7_takeInput_47 rfl ?_
        refine G_getf 0 4 d_cX7_takeInput_48 rfl (gk_X7 D I) (Nat.le_of_ble_eq_true rfl) w_2_164 rfl ?_
        refine G_sub (ws' := [(q2641, .inr (12, [.ref q2643, .ref q2644, .ref q2645, .ref q2646, .int z2663, .int p2649, .int p2650, .int p2651, .int p2652, .int p2653, .int p2654])), (q2642, .inr (15, [.ref q2647, .int p2655])), (q2643, .inl (I .int, 2048, .inl f2721)), (q2644, .inl (I .int, 100, .inl f2657)), (q2645, .inl (I .int, 100, .inl f2658)), (q2646, .inl (I .int, 512, .inl f2659)), (q2647, .inl (I .byte, 8192, .inl f2660))]) [0, 5, 1, 2, 3, 4, 6] rfl rfl ?_
        exact G_iret d_cX7_takeInput_51 rfl (Nat.le_of_ble_eq_true rfl) (Nat.le_of_ble_eq_true rfl) ⟨z2663, z2663, f2721, rfl, rfl, bz2663, bz2663, bf2721, (by omega), (fun R c1 => c1 z2662 z2663 f2721 ez2662 ez2663 hx2724)⟩
      · have r2725 : g2720.toInt < z2663.toInt := gC_nle hc2722
        have bg2720' : gB g2720 0 2047 := ⟨by omega, by omega⟩
        have bz2663' : gB z2663 1 2048 := ⟨by omega, by omega⟩
        refine G_aload_n 1 d_cX7_takeInput_28 rfl ?_
        refine G_getf 0 0 d_cX7_takeInput_29 rfl (gk_X7 D I) (Nat.le_of_ble_eq_true rfl) w_2_160 rfl ?_
        refine G_iload_n 0 d_cX7_takeInput_32 rfl ?_
        refine G_aload_n 2 d_cX7_takeInput_33 rfl ?_
        refine G_iconst 4 d_cX7_takeInput_34 (by decide +kernel) ?_
        refine G_iload_n 0 d_cX7_takeInput_35 rfl ?_
        refine G_imul d_cX7_takeInput_36 (G_nam fun z2726 hz2726 => ?_)
        have ez2726 : z2726.toInt = 4 * g2720.toInt := by rw [gI_mul hz2726 (gBl (show Int32.toInt 4 = 4 by decide)) bg2720' (by decide) (by decide) (by decide), show Int32.toInt 4 = 4 from by decide]
        have bz2726 : gB z2726 0 8188 := gB_mul hz2726 (gBl (show Int32.toInt 4 = 4 by decide)) bg2720' (by decide) (by decide) (by decide) (by decide)
        refine G_callV (As := [.int z2726]) (wr := [(q2641, .inr (12, [.ref q2643, .ref q2644, .ref q2645, .ref q2646, .int z2663, .int p2649, .int p2650, .int p2651, .int p2652, .int p2653, .int p2654])), (q2643, .inl (I .int, 2048, .inl f2721)), (q2644, .inl (I .int, 100, .inl f2657)), (q2645, .inl (I .int, 100, .inl f2658)), (q2646, .inl (I .int, 512, .inl f2659))]) (gV_ok D I) (ct_141_Tape_intAt l hl0 D I q2642 q2647 z2726 p2655 f2660 bp2655 bf2660) d_cX7_takeInput_37 ⟨w_4_178, w_1_2, w_4_181, by decide, rfl, (Nat.le_of_ble_eq_true rfl), (Nat.le_of_ble_eq_true rfl)⟩ w_4_179 w_4_180 5 rfl rfl [5, 6] [0, 1, 2, 3, 4] rfl rfl rfl rfl (by decide) (Nat.le_of_ble_eq_true rfl) (Nat.le_of_ble_eq_true rfl) (Nat.le_of_ble_eq_true rfl) (fun r w hp => ?_) (fun _ _ _ z => z.elim)
        obtain ⟨o2727, rfl, rfl, bo2727, ht2728⟩ := hp
        change G _ _ _ _ _ _ _ (.int o2727 :: _) _ _ _
        refine G_ws (ws' := [(q2641, .inr (12, [.ref q2643, .ref q2644, .ref q2645, .ref q2646, .int z2663, .int p2649, .int p2650, .int p2651, .int p2652, .int p2653, .int p2654])), (q2643, .inl (I .int, 2048, .inl f2721)), (q2644, .inl (I .int, 100, .inl f2657)), (q2645, .inl (I .int, 100, .inl f2658)), (q2646, .inl (I .int, 512, .inl f2659)), (q2642, .inr (15, [.ref q2647, .int p2655])), (q2647, .inl (I .byte, 8192, .inl f2660))]) (cs' := 0) (sl' := 0) rfl rfl rfl ?_
        refine G_iastN 1 0 d_cX7_takeInput_40 rfl rfl (gB_in bg2720' (by decide) (by decide)) (fun f2729 hf2729 => ?_)
        refine G_ws (ws' := [(q2641, .inr (12, [.ref q2643, .ref q2644, .ref q2645, .ref q2646, .int z2663, .int p2649, .int p2650, .int p2651, .int p2652, .int p2653, .int p2654])), (q2643, .inl (I .int, 2048, .inl f2729)), (q2644, .inl (I .int, 100, .inl f2657)), (q2645, .inl (I .int, 100, .inl f2658)), (q2646, .inl (I .int, 512, .inl f2659)), (q2642, .inr (15, [.ref q2647, .int p2655])), (q2647, .inl (I .byte, 8192, .inl f2660))]) (cs' := 0) (sl' := 0) rfl rfl rfl ?_
        obtain ⟨z2730, hz2730⟩ : ∃ z : Int32, z = g2720 + Int32.ofInt 1 := ⟨_, rfl⟩
        have ez2730 : z2730.toInt = g2720.toInt + 1 := gI_inc hz2730 (by decide) bg2720' (by decide) (by decide)
        have bz2730 : gB z2730 1 2048 := ⟨by omega, by omega⟩
        refine G_iinc (L' := [(2, .int z2730), (0, .ref q2641), (1, .ref q2642)]) z2730 0 d_cX7_takeInput_41 rfl hz2730.symm (Nat.le_of_ble_eq_true rfl) rfl ?_
        refine G_goto 20 d_cX7_takeInput_44 (by decide +kernel) ?_
        exact ih20_2721 z2730 f2729 (gB_w bz2730 (by decide) (by decide)) (gF_any f2729) (fun k e1 ht => kt20_2721 k e1 (fun R c1 c2 => c2 g2720 f2721 z2726 o2727 f2729 z2730 k e1 bg2720 r2725 ez2726 ht2728 hf2729 ez2730 (ht R c1 c2))) (by omega)
  exact hlp20_2721 (((2049 : Int) - 0).toNat + 1) 0 f2656 (gB_w (gBl (show Int32.toInt 0 = 0 by decide)) (by decide) (by decide)) (gF_any f2656) (fun k e1 ht => ht) (Nat.lt_succ_self _)
/- tl_Arrays_fill3_5: l2, z; out: z -/
def tl_Arrays_fill3_5 (a1 : Int32) (s1 : Int32) (s2 : Nat → Int32) (k : Nat) (e1 : Nat → Int32) : Prop := ∀ R : (Int32) → (Nat → Int32) → Nat → (Nat → Int32) → Prop,
  (∀ (l2_1 : Int32) (z_1 : Nat → Int32), gB l2_1 0 100 → 100 ≤ l2_1.toInt → R l2_1 z_1 20 z_1) →
  (∀ (l2_1 : Int32) (z_1 : Nat → Int32) (x1 : Nat → Int32) (x2 : Int32) (k : Nat) (e1 : Nat → Int32), gB l2_1 0 100 → l2_1.toInt < 100 → x1 = upd z_1 l2_1.toNatClampNeg a1 → x2.toInt = l2_1.toInt + 1 → R x2 x1 k e1 → R l2_1 z_1 k e1) →
  R s1 s2 k e1
/- tr_Arrays_fill3: z -/
def tr_Arrays_fill3 (a1 : Int32) (p : Nat → Int32) (o1 : Nat → Int32) : Prop := ∀ R : (Nat → Int32) → Prop,
  (∀ (x1 : Nat → Int32), tl_Arrays_fill3_5 a1 (0 : Int32) p 20 x1 → R x1) →
  R o1
abbrev ky_2777_Arrays_fill : gKey := (cJ7_fill_53178, 4, yJ7_fill_53178.cls, none, [], yJ7_fill_53178.name, fun _ _ => True)
abbrev po_2777_Arrays_fill (I : FieldType → ClassId) (q2774 : Nat) (p2775 : Int32) (f2776 : Nat → Int32) : Option Value → va_W → Prop := fun r w => ∃ (f2813 : Nat → Int32), r = none ∧ w = [(q2774, .inl (I .int, 100, .inl f2813))] ∧ gF f2813 (-2147483648) 2147483647 ∧ tr_Arrays_fill3 p2775 f2776 f2813
set_option maxRecDepth 100000 in
set_option maxHeartbeats 4000000 in
theorem ct_2777_Arrays_fill (l : Launch) (hl0 : l.stackTraces = false) (D : va_G) (I : FieldType → ClassId) (q2774 : Nat) (p2775 : Int32) (f2776 : Nat → Int32)  : Ct (gV D I) l yJ7_fill_53178 cJ7_fill_53178 4 none 0 0 0 0 [.ref q2774, .int p2775] [(q2774, .inl (I .int, 100, .inl f2776))] (po_2777_Arrays_fill I q2774 p2775 f2776) gN := by
  refine Ct_ofF hl0 (by decide +kernel) (Nat.le_of_ble_eq_true rfl) ?_
  have bp2775 := gB_any p2775
  refine G_iconst 0 d_cJ7_fill_53178_0 (by decide +kernel) ?_
  refine G_istore_n (L' := [(2, .int 0), (0, .ref q2774), (1, .int p2775)]) d_cJ7_fill_53178_1 (Nat.le_of_ble_eq_true rfl) rfl ?_
  refine G_aload_n 1 d_cJ7_fill_53178_2 rfl ?_
  refine G_alen 100 0 0 d_cJ7_fill_53178_3 rfl rfl rfl ?_
  refine G_istore_n (L' := [(3, .int 100), (2, .int 0), (0, .ref q2774), (1, .int p2775)]) d_cJ7_fill_53178_4 (Nat.le_of_ble_eq_true rfl) rfl ?_
  have hlp5_2806 : ∀ (n5_2806 : Nat) (g2805 : Int32) (f2806 : Nat → Int32), gB g2805 0 100 → gF f2806 (-2147483648) 2147483647 → (∀ (k : Nat) (e1 : Nat → Int32), tl_Arrays_fill3_5 p2775 g2805 f2806 k e1 → tl_Arrays_fill3_5 p2775 (0 : Int32) f2776 k e1) → ((101 : Int) - g2805.toInt).toNat < n5_2806 → G (gV D I) l (gRm 0 0 0 0) (gM (gV D I) (po_2777_Arrays_fill I q2774 p2775 f2776) gN 0 0) ky_2777_Arrays_fill 5 [(3, .int 100), (2, .int g2805), (0, .ref q2774), (1, .int p2775)] [] [(q2774, .inl (I .int, 100, .inl f2806))] 0 0 := by
    intro n5_2806
    induction n5_2806 with
    | zero => intro g2805 f2806 bg2805 bf2806 kt5_2806 hm5_2806; exact absurd hm5_2806 (Nat.not_lt_zero _)
    | succ n5_2806 ih5_2806 =>
      intro g2805 f2806 bg2805 bf2806 kt5_2806 hm5_2806
      refine G_iload_n 1 d_cJ7_fill_53178_5 rfl ?_
      refine G_iload_n 0 d_cJ7_fill_53178_6 rfl ?_
      refine G_icmp_ge 20 d_cJ7_fill_53178_7 (by decide +kernel) (fun hc2807 => ?_) (fun hc2807 => ?_)
      · have r2808 : 100 ≤ g2805.toInt := gj_leL hc2807 (show Int32.toInt 100 = 100 by decide)
        have bg2805' : gB g2805 100 100 := ⟨by omega, by omega⟩
        have hx2809 : tl_Arrays_fill3_5 p2775 (0 : Int32) f2776 20 f2806 := kt5_2806 20 f2806 (fun R c1 c2 => c1 g2805 f2806 bg2805 r2808)
        exact G_vret d_cJ7_fill_53178_20 rfl (Nat.le_of_ble_eq_true rfl) (Nat.le_of_ble_eq_true rfl) ⟨f2806, rfl, rfl, bf2806, (fun R c1 => c1 f2806 hx2809)⟩
      · have r2810 : g2805.toInt < 100 := gj_nleL hc2807 (show Int32.toInt 100 = 100 by decide)
        have bg2805' : gB g2805 0 99 := ⟨by omega, by omega⟩
        refine G_aload_n 2 d_cJ7_fill_53178_10 rfl ?_
        refine G_iload_n 1 d_cJ7_fill_53178_11 rfl ?_
        refine G_iload_n 3 d_cJ7_fill_53178_12 rfl ?_
        refine G_iastN 0 0 d_cJ7_fill_53178_13 rfl rfl (gB_in bg2805' (by decide) (by decide)) (fun f2811 hf2811 => ?_)
        refine G_ws (ws' := [(q2774, .inl (I .int, 100, .inl f2811))]) (cs' := 0) (sl' := 0) rfl rfl rfl ?_
        obtain ⟨z2812, hz2812⟩ : ∃ z : Int32, z = g2805 + Int32.ofInt 1 := ⟨_, rfl⟩
        have ez2812 : z2812.toInt = g2805.toInt + 1 := gI_inc hz2812 (by decide) bg2805' (by decide) (by decide)
        have bz2812 : gB z2812 1 100 := ⟨by omega, by omega⟩
        refine G_iinc (L' := [(2, .int z2812), (3, .int 100), (0, .ref q2774), (1, .int p2775)]) z2812 1 d_cJ7_fill_53178_14 rfl hz2812.symm (Nat.le_of_ble_eq_true rfl) rfl ?_
        refine G_goto 5 d_cJ7_fill_53178_17 (by decide +kernel) ?_
        refine G_lv (L' := [(3, .int 100), (2, .int z2812), (0, .ref q2774), (1, .int p2775)]) [1, 0, 2, 3] rfl ?_
        exact ih5_2806 z2812 f2811 (gB_w bz2812 (by decide) (by decide)) (gF_any f2811) (fun k e1 ht => kt5_2806 k e1 (fun R c1 c2 => c2 g2805 f2806 f2811 z2812 k e1 bg2805 r2810 hf2811 ez2812 (ht R c1 c2))) (by have qa0 : Int32.toInt 100 = 100 := (by decide); omega)
  exact hlp5_2806 (((101 : Int) - 0).toNat + 1) 0 f2776 (gB_w (gBl (show Int32.toInt 0 = 0 by decide)) (by decide) (by decide)) (gF_any f2776) (fun k e1 ht => ht) (Nat.lt_succ_self _)
/- tr_Machine_halt: Machine_ending -/
def tr_Machine_halt (a1 : Int32) (o1 : Int32) : Prop := ∀ R : (Int32) → Prop,
  (R a1) →
  R o1
abbrev ky_2837_Machine_halt : gKey := (cX7_halt, 2, yX7_halt.cls, (some FieldType.int), [], yX7_halt.name, fun _ _ => True)
abbrev po_2837_Machine_halt (I : FieldType → ClassId) (q2820 : Nat) (q2821 : Nat) (q2822 : Nat) (q2823 : Nat) (q2824 : Nat) (p2825 : Int32) (p2826 : Int32) (p2827 : Int32) (p2828 : Int32) (p2829 : Int32) (p2830 : Int32) (p2831 : Int32) (p2832 : Int32) (f2833 : Nat → Int32) (f2834 : Nat → Int32) (f2835 : Nat → Int32) (f2836 : Nat → Int32) : Option Value → va_W → Prop := fun r w => ∃ (o2838 : Int32), r = some (.int (-1)) ∧ w = [(q2820, .inr (12, [.ref q2821, .ref q2822, .ref q2823, .ref q2824, .int p2826, .int p2827, .int p2828, .int p2829, .int p2830, .int p2831, .int o2838])), (q2821, .inl (I .int, 2048, .inl f2833)), (q2822, .inl (I .int, 100, .inl f2834)), (q2823, .inl (I .int, 100, .inl f2835)), (q2824, .inl (I .int, 512, .inl f2836))] ∧ gB o2838 (-2147483648) 2147483647 ∧ tr_Machine_halt p2825 o2838
set_option maxRecDepth 100000 in
set_option maxHeartbeats 4000000 in
theorem ct_2837_Machine_halt (l : Launch) (hl0 : l.stackTraces = false) (D : va_G) (I : FieldType → ClassId) (q2820 : Nat) (q2821 : Nat) (q2822 : Nat) (q2823 : Nat) (q2824 : Nat) (p2825 : Int32) (p2826 : Int32) (p2827 : Int32) (p2828 : Int32) (p2829 : Int32) (p2830 : Int32) (p2831 : Int32) (p2832 : Int32) (f2833 : Nat → Int32) (f2834 : Nat → Int32) (f2835 : Nat → Int32) (f2836 : Nat → Int32) (bp2826 : gB p2826 0 2048) (bp2827 : gB p2827 0 39) (bp2829 : gB p2829 0 512) (bp2831 : gB p2831 0 2048) : Ct (gV D I) l yX7_halt cX7_halt 2 (some FieldType.int) 0 0 0 0 [.ref q2820, .int p2825] [(q2820, .inr (12, [.ref q2821, .ref q2822, .ref q2823, .ref q2824, .int p2826, .int p2827, .int p2828, .int p2829, .int p2830, .int p2831, .int p2832])), (q2821, .inl (I .int, 2048, .inl f2833)), (q2822, .inl (I .int, 100, .inl f2834)), (q2823, .inl (I .int, 100, .inl f2835)), (q2824, .inl (I .int, 512, .inl f2836))] (po_2837_Machine_halt I q2820 q2821 q2822 q2823 q2824 p2825 p2826 p2827 p2828 p2829 p2830 p2831 p2832 f2833 f2834 f2835 f2836) gN := by
  refine Ct_of hl0 (by decide) (Nat.le_of_ble_eq_true rfl) ?_
  have bp2825 := gB_any p2825
  have bp2828 := gB_any p2828
  have bp2830 := gB_any p2830
  have bp2832 := gB_any p2832
  refine G_aload_n 0 d_cX7_halt_0 rfl ?_
  refine G_iload_n 1 d_cX7_halt_1 rfl ?_
  refine G_putf (ws' := [(q2820, .inr (12, [.ref q2821, .ref q2822, .ref q2823, .ref q2824, .int p2826, .int p2827, .int p2828, .int p2829, .int p2830, .int p2831, .int p2825])), (q2821, .inl (I .int, 2048, .inl f2833)), (q2822, .inl (I .int, 100, .inl f2834)), (q2823, .inl (I .int, 100, .inl f2835)), (q2824, .inl (I .int, 512, .inl f2836))]) 0 10 d_cX7_halt_2 rfl (gk_X7 D I) (Nat.le_of_ble_eq_true rfl) w_2_170 rfl rfl rfl (Nat.le_of_ble_eq_true rfl) rfl ?_
  refine G_iconst (-1) d_cX7_halt_5 (by decide +kernel) ?_
  exact G_iret d_cX7_halt_6 rfl (Nat.le_of_ble_eq_true rfl) (Nat.le_of_ble_eq_true rfl) ⟨p2825, rfl, rfl, bp2825, (fun R c1 => c1)⟩
/- tr_Machine_valueOf: result -/
def tr_Machine_valueOf (a1 : Int32) (a2 : Int32) (Machine_registers : Nat → Int32) (o1 : Int32) : Prop := ∀ R : (Int32) → Prop,
  (a1.toInt < 0 → R a2) →
  (0 ≤ a1.toInt → 100 ≤ a1.toInt → R a2) →
  (∀ (x1 : Int32), 0 ≤ a1.toInt → a1.toInt < 100 → x1 = Machine_registers a1.toNatClampNeg → R x1) →
  R o1
abbrev ky_2903_Machine_valueOf : gKey := (cX7_valueOf, 3, yX7_valueOf.cls, (some FieldType.int), [], yX7_valueOf.name, fun _ _ => True)
abbrev po_2903_Machine_valueOf (I : FieldType → ClassId) (q2885 : Nat) (q2886 : Nat) (q2887 : Nat) (q2888 : Nat) (q2889 : Nat) (p2890 : Int32) (p2891 : Int32) (p2892 : Int32) (p2893 : Int32) (p2894 : Int32) (p2895 : Int32) (p2896 : Int32) (p2897 : Int32) (p2898 : Int32) (f2899 : Nat → Int32) (f2900 : Nat → Int32) (f2901 : Nat → Int32) (f2902 : Nat → Int32) : Option Value → va_W → Prop := fun r w => (r = some (.int p2891) ∧ w = [(q2885, .inr (12, [.ref q2886, .ref q2887, .ref q2888, .ref q2889, .int p2892, .int p2893, .int p2894, .int p2895, .int p2896, .int p2897, .int p2898])), (q2886, .inl (I .int, 2048, .inl f2899)), (q2887, .inl (I .int, 100, .inl f2900)), (q2888, .inl (I .int, 100, .inl f2901)), (q2889, .inl (I .int, 512, .inl f2902))] ∧ p2890.toInt < 0 ∧ tr_Machine_valueOf p2890 p2891 f2900 p2891) ∨ (r = some (.int p2891) ∧ w = [(q2885, .inr (12, [.ref q2886, .ref q2887, .ref q2888, .ref q2889, .int p2892, .int p2893, .int p2894, .int p2895, .int p2896, .int p2897, .int p2898])), (q2886, .inl (I .int, 2048, .inl f2899)), (q2887, .inl (I .int, 100, .inl f2900)), (q2888, .inl (I .int, 100, .inl f2901)), (q2889, .inl (I .int, 512, .inl f2902))] ∧ 0 ≤ p2890.toInt ∧ 100 ≤ p2890.toInt ∧ tr_Machine_valueOf p2890 p2891 f2900 p2891) ∨ (∃ (z2910 : Int32), r = some (.int z2910) ∧ w = [(q2885, .inr (12, [.ref q2886, .ref q2887, .ref q2888, .ref q2889, .int p2892, .int p2893, .int p2894, .int p2895, .int p2896, .int p2897, .int p2898])), (q2886, .inl (I .int, 2048, .inl f2899)), (q2887, .inl (I .int, 100, .inl f2900)), (q2888, .inl (I .int, 100, .inl f2901)), (q2889, .inl (I .int, 512, .inl f2902))] ∧ 0 ≤ p2890.toInt ∧ p2890.toInt < 100 ∧ z2910 = f2900 p2890.toNatClampNeg ∧ gB z2910 (-2147483648) 2147483647 ∧ tr_Machine_valueOf p2890 p2891 f2900 z2910)
set_option maxRecDepth 100000 in
set_option maxHeartbeats 4000000 in
theorem ct_2903_Machine_valueOf (l : Launch) (hl0 : l.stackTraces = false) (D : va_G) (I : FieldType → ClassId) (q2885 : Nat) (q2886 : Nat) (q2887 : Nat) (q2888 : Nat) (q2889 : Nat) (p2890 : Int32) (p2891 : Int32) (p2892 : Int32) (p2893 : Int32) (p2894 : Int32) (p2895 : Int32) (p2896 : Int32) (p2897 : Int32) (p2898 : Int32) (f2899 : Nat → Int32) (f2900 : Nat → Int32) (f2901 : Nat → Int32) (f2902 : Nat → Int32) (bp2892 : gB p2892 0 2048) (bp2893 : gB p2893 0 39) (bp2895 : gB p2895 0 512) (bp2897 : gB p2897 0 2048) : Ct (gV D I) l yX7_valueOf cX7_valueOf 3 (some FieldType.int) 0 0 0 0 [.ref q2885, .int p2890, .int p2891] [(q2885, .inr (12, [.ref q2886, .ref q2887, .ref q2888, .ref q2889, .int p2892, .int p2893, .int p2894, .int p2895, .int p2896, .int p2897, .int p2898])), (q2886, .inl (I .int, 2048, .inl f2899)), (q2887, .inl (I .int, 100, .inl f2900)), (q2888, .inl (I .int, 100, .inl f2901)), (q2889, .inl (I .int, 512, .inl f2902))] (po_2903_Machine_valueOf I q2885 q2886 q2887 q2888 q2889 p2890 p2891 p2892 p2893 p2894 p2895 p2896 p2897 p2898 f2899 f2900 f2901 f2902) gN := by
  refine Ct_of hl0 (by decide) (Nat.le_of_ble_eq_true rfl) ?_
  have bp2890 := gB_any p2890
  have bp2891 := gB_any p2891
  have bp2894 := gB_any p2894
  have bp2896 := gB_any p2896
  have bp2898 := gB_any p2898
  refine G_iload_n 1 d_cX7_valueOf_0 rfl ?_
  refine G_if_lt 19 d_cX7_valueOf_1 (by decide +kernel) (fun hc2904 => ?_) (fun hc2904 => ?_)
  · have r2905 : p2890.toInt < 0 := gj_lt hc2904 (show Int32.toInt 0 = 0 by decide)
    have bp2890' : gB p2890 (-2147483648) (-1) := ⟨by omega, by omega⟩
    refine G_iload_n 2 d_cX7_valueOf_19 rfl ?_
    exact G_iret d_cX7_valueOf_20 rfl (Nat.le_of_ble_eq_true rfl) (Nat.le_of_ble_eq_true rfl) (Or.inl ⟨rfl, rfl, r2905, (fun R c1 c2 c3 => c1 r2905)⟩)
  · have r2906 : 0 ≤ p2890.toInt := gj_nlt hc2904 (show Int32.toInt 0 = 0 by decide)
    have bp2890' : gB p2890 0 2147483647 := ⟨by omega, by omega⟩
    refine G_iload_n 1 d_cX7_valueOf_4 rfl ?_
    refine G_bipush 100 d_cX7_valueOf_5 (by decide +kernel) ?_
    refine G_icmp_ge 19 d_cX7_valueOf_7 (by decide +kernel) (fun hc2907 => ?_) (fun hc2907 => ?_)
    · have r2908 : 100 ≤ p2890.toInt := gj_leL hc2907 (show Int32.toInt 100 = 100 by decide)
      have bp2890'' : gB p2890 100 2147483647 := ⟨by omega, by omega⟩
      refine G_iload_n 2 d_cX7_valueOf_19 rfl ?_
      exact G_iret d_cX7_valueOf_20 rfl (Nat.le_of_ble_eq_true rfl) (Nat.le_of_ble_eq_true rfl) (Or.inr (Or.inl ⟨rfl, rfl, r2906, r2908, (fun R c1 c2 c3 => c2 r2906 r2908)⟩))
    · have r2909 : p2890.toInt < 100 := gj_nleL hc2907 (show Int32.toInt 100 = 100 by decide)
      have bp2890'' : gB p2890 0 99 := ⟨by omega, by omega⟩
      refine G_aload_n 0 d_cX7_valueOf_10 rfl ?_
      refine G_getf 0 1 d_cX7_valueOf_11 rfl (gk_X7 D I) (Nat.le_of_ble_eq_true rfl) w_2_161 rfl ?_
      refine G_iload_n 1 d_cX7_valueOf_14 rfl ?_
      refine G_iald 2 0 d_cX7_valueOf_15 rfl rfl (gB_in bp2890'' (by decide) (by decide)) (G_nam fun z2910 hz2910 => ?_)
      have bz2910 : gB z2910 (-2147483648) 2147483647 := gB_any z2910
      refine G_goto 20 d_cX7_valueOf_16 (by decide +kernel) ?_
      exact G_iret d_cX7_valueOf_20 rfl (Nat.le_of_ble_eq_true rfl) (Nat.le_of_ble_eq_true rfl) (Or.inr (Or.inr (⟨z2910, rfl, rfl, r2906, r2909, hz2910, bz2910, (fun R c1 c2 c3 => c3 z2910 r2906 r2909 hz2910)⟩)))
/- tr_Machine_put: z -/
def tr_Machine_put (a1 : Int32) (a2 : Int32) (p : Nat → Int32) (o1 : Nat → Int32) : Prop := ∀ R : (Nat → Int32) → Prop,
  (a1.toInt < 0 → R p) →
  (0 ≤ a1.toInt → 100 ≤ a1.toInt → R p) →
  (∀ (x1 : Nat → Int32), 0 ≤ a1.toInt → a1.toInt < 100 → x1 = upd p a1.toNatClampNeg a2 → R x1) →
  R o1
end
section
theorem d_cX7_put_0 : decode cX7_put 0 = .ok (.iload_n 1, 1) := by decide +kernel
theorem d_cX7_put_1 : decode cX7_put 1 = .ok (.ifCond .lt 13, 3) := by decide +kernel
theorem d_cX7_put_14 : decode cX7_put 14 = .ok (.return_, 1) := by decide +kernel
theorem d_cX7_put_4 : decode cX7_put 4 = .ok (.iload_n 1, 1) := by decide +kernel
theorem d_cX7_put_5 : decode cX7_put 5 = .ok (.aload_n 0, 1) := by decide +kernel
theorem d_cX7_put_6 : decode cX7_put 6 = .ok (.arraylength, 1) := by decide +kernel
theorem d_cX7_put_7 : decode cX7_put 7 = .ok (.if_icmp .ge 7, 3) := by decide +kernel
theorem d_cX7_put_10 : decode cX7_put 10 = .ok (.aload_n 0, 1) := by decide +kernel
theorem d_cX7_put_11 : decode cX7_put 11 = .ok (.iload_n 1, 1) := by decide +kernel
theorem d_cX7_put_12 : decode cX7_put 12 = .ok (.iload_n 2, 1) := by decide +kernel
theorem d_cX7_put_13 : decode cX7_put 13 = .ok (.iastore, 1) := by decide +kernel
theorem d_cX7_takeNext_0 : decode cX7_takeNext 0 = .ok (.aload_n 0, 1) := by decide +kernel
theorem d_cX7_takeNext_1 : decode cX7_takeNext 1 = .ok (.getfield 56, 3) := by decide +kernel
theorem w_2_169 : (Jvm.Cond.fieldLink "SpillForge$Machine" (56 : Nat) "SpillForge$Machine" "taken" "I") ∈ gw := gw_2 169 rfl rfl
theorem d_cX7_takeNext_4 : decode cX7_takeNext 4 = .ok (.aload_n 0, 1) := by decide +kernel
theorem d_cX7_takeNext_5 : decode cX7_takeNext 5 = .ok (.getfield 40, 3) := by decide +kernel
theorem d_cX7_takeNext_8 : decode cX7_takeNext 8 = .ok (.if_icmp .lt 5, 3) := by decide +kernel
theorem d_cX7_takeNext_13 : decode cX7_takeNext 13 = .ok (.aload_n 0, 1) := by decide +kernel
theorem d_cX7_takeNext_14 : decode cX7_takeNext 14 = .ok (.dup, 1) := by decide +kernel
theorem d_cX7_takeNext_15 : decode cX7_takeNext 15 = .ok (.getfield 56, 3) := by decide +kernel
theorem d_cX7_takeNext_18 : decode cX7_takeNext 18 = .ok (.iconst 1, 1) := by decide +kernel
theorem d_cX7_takeNext_19 : decode cX7_takeNext 19 = .ok (.iadd, 1) := by decide +kernel
theorem d_cX7_takeNext_20 : decode cX7_takeNext 20 = .ok (.putfield 56, 3) := by decide +kernel
theorem d_cX7_takeNext_23 : decode cX7_takeNext 23 = .ok (.aload_n 0, 1) := by decide +kernel
theorem d_cX7_takeNext_24 : decode cX7_takeNext 24 = .ok (.getfield 9, 3) := by decide +kernel
theorem d_cX7_takeNext_27 : decode cX7_takeNext 27 = .ok (.aload_n 0, 1) := by decide +kernel
theorem d_cX7_takeNext_28 : decode cX7_takeNext 28 = .ok (.getfield 56, 3) := by decide +kernel
theorem d_cX7_takeNext_31 : decode cX7_takeNext 31 = .ok (.iconst 1, 1) := by decide +kernel
theorem d_cX7_takeNext_32 : decode cX7_takeNext 32 = .ok (.isub, 1) := by decide +kernel
theorem d_cX7_takeNext_33 : decode cX7_takeNext 33 = .ok (.iaload, 1) := by decide +kernel
theorem d_cX7_takeNext_34 : decode cX7_takeNext 34 = .ok (.ireturn, 1) := by decide +kernel
theorem d_cX7_takeNext_11 : decode cX7_takeNext 11 = .ok (.iconst 0, 1) := by decide +kernel
theorem d_cX7_takeNext_12 : decode cX7_takeNext 12 = .ok (.ireturn, 1) := by decide +kernel
theorem d_cX7_addShow_0 : decode cX7_addShow 0 = .ok (.aload_n 0, 1) := by decide +kernel
theorem d_cX7_addShow_1 : decode cX7_addShow 1 = .ok (.getfield 50, 3) := by decide +kernel
theorem w_2_167 : (Jvm.Cond.fieldLink "SpillForge$Machine" (50 : Nat) "SpillForge$Machine" "showCount" "I") ∈ gw := gw_2 167 rfl rfl
theorem d_cX7_addShow_4 : decode cX7_addShow 4 = .ok (.sipush 512, 3) := by decide +kernel
theorem d_cX7_addShow_7 : decode cX7_addShow 7 = .ok (.if_icmp .lt 5, 3) := by decide +kernel
theorem d_cX7_addShow_12 : decode cX7_addShow 12 = .ok (.aload_n 0, 1) := by decide +kernel
theorem d_cX7_addShow_13 : decode cX7_addShow 13 = .ok (.getfield 21, 3) := by decide +kernel
theorem w_2_163 : (Jvm.Cond.fieldLink "SpillForge$Machine" (21 : Nat) "SpillForge$Machine" "shows" "[I") ∈ gw := gw_2 163 rfl rfl
theorem d_cX7_addShow_16 : decode cX7_addShow 16 = .ok (.aload_n 0, 1) := by decide +kernel
theorem d_cX7_addShow_17 : decode cX7_addShow 17 = .ok (.getfield 50, 3) := by decide +kernel
theorem d_cX7_addShow_20 : decode cX7_addShow 20 = .ok (.iload_n 1, 1) := by decide +kernel
theorem d_cX7_addShow_21 : decode cX7_addShow 21 = .ok (.iastore, 1) := by decide +kernel
theorem d_cX7_addShow_22 : decode cX7_addShow 22 = .ok (.aload_n 0, 1) := by decide +kernel
theorem d_cX7_addShow_23 : decode cX7_addShow 23 = .ok (.dup, 1) := by decide +kernel
theorem d_cX7_addShow_24 : decode cX7_addShow 24 = .ok (.getfield 50, 3) := by decide +kernel
theorem d_cX7_addShow_27 : decode cX7_addShow 27 = .ok (.iconst 1, 1) := by decide +kernel
theorem d_cX7_addShow_28 : decode cX7_addShow 28 = .ok (.iadd, 1) := by decide +kernel
theorem d_cX7_addShow_29 : decode cX7_addShow 29 = .ok (.putfield 50, 3) := by decide +kernel
theorem d_cX7_addShow_32 : decode cX7_addShow 32 = .ok (.iconst 1, 1) := by decide +kernel
theorem d_cX7_addShow_33 : decode cX7_addShow 33 = .ok (.ireturn, 1) := by decide +kernel
theorem d_cX7_addShow_10 : decode cX7_addShow 10 = .ok (.iconst 0, 1) := by decide +kernel
theorem d_cX7_addShow_11 : decode cX7_addShow 11 = .ok (.ireturn, 1) := by decide +kernel
theorem d_cX7_slotAt_0 : decode cX7_slotAt 0 = .ok (.iload_n 1, 1) := by decide +kernel
theorem d_cX7_slotAt_1 : decode cX7_slotAt 1 = .ok (.ifCond .lt 18, 3) := by decide +kernel
theorem d_cX7_slotAt_19 : decode cX7_slotAt 19 = .ok (.iconst 0, 1) := by decide +kernel
theorem d_cX7_slotAt_20 : decode cX7_slotAt 20 = .ok (.ireturn, 1) := by decide +kernel
theorem d_cX7_slotAt_4 : decode cX7_slotAt 4 = .ok (.iload_n 1, 1) := by decide +kernel
theorem d_cX7_slotAt_5 : decode cX7_slotAt 5 = .ok (.bipush 100, 2) := by decide +kernel
theorem d_cX7_slotAt_7 : decode cX7_slotAt 7 = .ok (.if_icmp .ge 12, 3) := by decide +kernel
theorem d_cX7_slotAt_10 : decode cX7_slotAt 10 = .ok (.aload_n 0, 1) := by decide +kernel
theorem d_cX7_slotAt_11 : decode cX7_slotAt 11 = .ok (.getfield 18, 3) := by decide +kernel
theorem w_2_162 : (Jvm.Cond.fieldLink "SpillForge$Machine" (18 : Nat) "SpillForge$Machine" "slots" "[I") ∈ gw := gw_2 162 rfl rfl
theorem d_cX7_slotAt_14 : decode cX7_slotAt 14 = .ok (.iload_n 1, 1) := by decide +kernel
theorem d_cX7_slotAt_15 : decode cX7_slotAt 15 = .ok (.iaload, 1) := by decide +kernel
theorem d_cX7_slotAt_16 : decode cX7_slotAt 16 = .ok (.goto 4, 3) := by decide +kernel
theorem d_cX7_enter_0 : decode cX7_enter 0 = .ok (.iload_n 2, 1) := by decide +kernel
theorem d_cX7_enter_1 : decode cX7_enter 1 = .ok (.ifCond .lt 11, 3) := by decide +kernel
theorem d_cX7_enter_12 : decode cX7_enter 12 = .ok (.aload_n 0, 1) := by decide +kernel
theorem d_cX7_enter_13 : decode cX7_enter 13 = .ok (.iconst 4, 1) := by decide +kernel
theorem d_cX7_enter_14 : decode cX7_enter 14 = .ok (.invokevirtual 77, 3) := by decide +kernel
theorem w_6_86 : (Jvm.Cond.methodLink "SpillForge$Machine" (77 : Nat) ({ cls := "SpillForge$Machine", name := "halt", desc := "(I)I" } : Jvm.MethodName)) ∈ gw := gw_6 86 rfl rfl
theorem w_1_12 : (Jvm.Cond.initialized "SpillForge$Machine") ∈ gw := gw_1 12 rfl rfl
theorem w_6_89 : (Jvm.Cond.code ({ cls := "SpillForge$Machine", name := "halt", desc := "(I)I" } : Jvm.MethodName) prog_9_method_12_code (2 : Nat) (Option.some Jvm.ClassFile.FieldType.int)) ∈ gw := gw_6 89 rfl rfl
theorem w_6_88 : (Jvm.Cond.instanceMethod ({ cls := "SpillForge$Machine", name := "halt", desc := "(I)I" } : Jvm.MethodName)) ∈ gw := gw_6 88 rfl rfl
theorem w_p_60 : Cond.selects "SpillForge$Machine" ⟨"SpillForge$Machine", "halt", "(I)I"⟩ ⟨"SpillForge$Machine", "halt", "(I)I"⟩ ∈ gw := gw_p _ 60 rfl rfl rfl
theorem d_cX7_enter_17 : decode cX7_enter 17 = .ok (.ireturn, 1) := by decide +kernel
theorem d_cX7_enter_4 : decode cX7_enter 4 = .ok (.iload_n 2, 1) := by decide +kernel
theorem d_cX7_enter_5 : decode cX7_enter 5 = .ok (.aload_n 1, 1) := by decide +kernel
theorem d_cX7_enter_6 : decode cX7_enter 6 = .ok (.getfield 128, 3) := by decide +kernel
theorem d_cX7_enter_9 : decode cX7_enter 9 = .ok (.if_icmp .lt 9, 3) := by decide +kernel
theorem d_cX7_enter_18 : decode cX7_enter 18 = .ok (.aload_n 0, 1) := by decide +kernel
theorem d_cX7_enter_19 : decode cX7_enter 19 = .ok (.iload_n 2, 1) := by decide +kernel
theorem d_cX7_enter_20 : decode cX7_enter 20 = .ok (.putfield 65, 3) := by decide +kernel
theorem w_2_165 : (Jvm.Cond.fieldLink "SpillForge$Machine" (65 : Nat) "SpillForge$Machine" "block" "I") ∈ gw := gw_2 165 rfl rfl
theorem d_cX7_enter_23 : decode cX7_enter 23 = .ok (.aload_n 1, 1) := by decide +kernel
theorem d_cX7_enter_24 : decode cX7_enter 24 = .ok (.getfield 131, 3) := by decide +kernel
theorem d_cX7_enter_27 : decode cX7_enter 27 = .ok (.iload_n 2, 1) := by decide +kernel
theorem d_cX7_enter_28 : decode cX7_enter 28 = .ok (.iaload, 1) := by decide +kernel
theorem d_cX7_enter_29 : decode cX7_enter 29 = .ok (.ireturn, 1) := by decide +kernel
theorem d_cX7_calculate_0 : decode cX7_calculate 0 = .ok (.iload_n 0, 1) := by decide +kernel
theorem d_cX7_calculate_1 : decode cX7_calculate 1 = .ok (.tableswitch 171 0 13 #[71, 75, 79, 83, 95, 107, 111, 115, 119, 123, 127, 138, 149, 160], 71) := by decide +kernel
theorem d_cX7_calculate_72 : decode cX7_calculate 72 = .ok (.iload_n 1, 1) := by decide +kernel
theorem d_cX7_calculate_73 : decode cX7_calculate 73 = .ok (.iload_n 2, 1) := by decide +kernel
theorem d_cX7_calculate_74 : decode cX7_calculate 74 = .ok (.iadd, 1) := by decide +kernel
theorem d_cX7_calculate_75 : decode cX7_calculate 75 = .ok (.ireturn, 1) := by decide +kernel
theorem d_cX7_calculate_76 : decode cX7_calculate 76 = .ok (.iload_n 1, 1) := by decide +kernel
theorem d_cX7_calculate_77 : decode cX7_calculate 77 = .ok (.iload_n 2, 1) := by decide +kernel
theorem d_cX7_calculate_78 : decode cX7_calculate 78 = .ok (.isub, 1) := by decide +kernel
theorem d_cX7_calculate_79 : decode cX7_calculate 79 = .ok (.ireturn, 1) := by decide +kernel
theorem d_cX7_calculate_80 : decode cX7_calculate 80 = .ok (.iload_n 1, 1) := by decide +kernel
theorem d_cX7_calculate_81 : decode cX7_calculate 81 = .ok (.iload_n 2, 1) := by decide +kernel
theorem d_cX7_calculate_82 : decode cX7_calculate 82 = .ok (.imul, 1) := by decide +kernel
theorem d_cX7_calculate_83 : decode cX7_calculate 83 = .ok (.ireturn, 1) := by decide +kernel
theorem d_cX7_calculate_84 : decode cX7_calculate 84 = .ok (.iload_n 2, 1) := by decide +kernel
theorem d_cX7_calculate_85 : decode cX7_calculate 85 = .ok (.ifCond .ne 7, 3) := by decide +kernel
theorem d_cX7_calculate_92 : decode cX7_calculate 92 = .ok (.iload_n 1, 1) := by decide +kernel
theorem d_cX7_calculate_93 : decode cX7_calculate 93 = .ok (.iload_n 2, 1) := by decide +kernel
theorem d_cX7_calculate_94 : decode cX7_calculate 94 = .ok (.idiv, 1) := by decide +kernel
theorem d_cX7_calculate_95 : decode cX7_calculate 95 = .ok (.ireturn, 1) := by decide +kernel
theorem d_cX7_calculate_88 : decode cX7_calculate 88 = .ok (.iconst 0, 1) := by decide +kernel
theorem d_cX7_calculate_89 : decode cX7_calculate 89 = .ok (.goto 6, 3) := by decide +kernel
theorem d_cX7_calculate_96 : decode cX7_calculate 96 = .ok (.iload_n 2, 1) := by decide +kernel
theorem d_cX7_calculate_97 : decode cX7_calculate 97 = .ok (.ifCond .ne 7, 3) := by decide +kernel
theorem d_cX7_calculate_104 : decode cX7_calculate 104 = .ok (.iload_n 1, 1) := by decide +kernel
theorem d_cX7_calculate_105 : decode cX7_calculate 105 = .ok (.iload_n 2, 1) := by decide +kernel
theorem d_cX7_calculate_106 : decode cX7_calculate 106 = .ok (.irem, 1) := by decide +kernel
theorem d_cX7_calculate_107 : decode cX7_calculate 107 = .ok (.ireturn, 1) := by decide +kernel
theorem d_cX7_calculate_100 : decode cX7_calculate 100 = .ok (.iconst 0, 1) := by decide +kernel
theorem d_cX7_calculate_101 : decode cX7_calculate 101 = .ok (.goto 6, 3) := by decide +kernel
theorem d_cX7_calculate_108 : decode cX7_calculate 108 = .ok (.iload_n 1, 1) := by decide +kernel
theorem d_cX7_calculate_109 : decode cX7_calculate 109 = .ok (.iload_n 2, 1) := by decide +kernel
theorem d_cX7_calculate_110 : decode cX7_calculate 110 = .ok (.iand, 1) := by decide +kernel
theorem d_cX7_calculate_111 : decode cX7_calculate 111 = .ok (.ireturn, 1) := by decide +kernel
theorem d_cX7_calculate_112 : decode cX7_calculate 112 = .ok (.iload_n 1, 1) := by decide +kernel
theorem d_cX7_calculate_113 : decode cX7_calculate 113 = .ok (.iload_n 2, 1) := by decide +kernel
theorem d_cX7_calculate_114 : decode cX7_calculate 114 = .ok (.ior, 1) := by decide +kernel
theorem d_cX7_calculate_115 : decode cX7_calculate 115 = .ok (.ireturn, 1) := by decide +kernel
theorem d_cX7_calculate_116 : decode cX7_calculate 116 = .ok (.iload_n 1, 1) := by decide +kernel
theorem d_cX7_calculate_117 : decode cX7_calculate 117 = .ok (.iload_n 2, 1) := by decide +kernel
theorem d_cX7_calculate_118 : decode cX7_calculate 118 = .ok (.ixor, 1) := by decide +kernel
theorem d_cX7_calculate_119 : decode cX7_calculate 119 = .ok (.ireturn, 1) := by decide +kernel
theorem d_cX7_calculate_120 : decode cX7_calculate 120 = .ok (.iload_n 1, 1) := by decide +kernel
theorem d_cX7_calculate_121 : decode cX7_calculate 121 = .ok (.iload_n 2, 1) := by decide +kernel
theorem d_cX7_calculate_122 : decode cX7_calculate 122 = .ok (.ishl, 1) := by decide +kernel
theorem d_cX7_calculate_123 : decode cX7_calculate 123 = .ok (.ireturn, 1) := by decide +kernel
theorem d_cX7_calculate_124 : decode cX7_calculate 124 = .ok (.iload_n 1, 1) := by decide +kernel
theorem d_cX7_calculate_125 : decode cX7_calculate 125 = .ok (.iload_n 2, 1) := by decide +kernel
theorem d_cX7_calculate_126 : decode cX7_calculate 126 = .ok (.ishr, 1) := by decide +kernel
theorem d_cX7_calculate_127 : decode cX7_calculate 127 = .ok (.ireturn, 1) := by decide +kernel
theorem d_cX7_calculate_128 : decode cX7_calculate 128 = .ok (.iload_n 1, 1) := by decide +kernel
theorem d_cX7_calculate_129 : decode cX7_calculate 129 = .ok (.iload_n 2, 1) := by decide +kernel
theorem d_cX7_calculate_130 : decode cX7_calculate 130 = .ok (.if_icmp .ge 7, 3) := by decide +kernel
theorem d_cX7_calculate_137 : decode cX7_calculate 137 = .ok (.iconst 0, 1) := by decide +kernel
theorem d_cX7_calculate_138 : decode cX7_calculate 138 = .ok (.ireturn, 1) := by decide +kernel
theorem d_cX7_calculate_133 : decode cX7_calculate 133 = .ok (.iconst 1, 1) := by decide +kernel
theorem d_cX7_calculate_134 : decode cX7_calculate 134 = .ok (.goto 4, 3) := by decide +kernel
theorem d_cX7_calculate_139 : decode cX7_calculate 139 = .ok (.iload_n 1, 1) := by decide +kernel
theorem d_cX7_calculate_140 : decode cX7_calculate 140 = .ok (.iload_n 2, 1) := by decide +kernel
theorem d_cX7_calculate_141 : decode cX7_calculate 141 = .ok (.if_icmp .gt 7, 3) := by decide +kernel
theorem d_cX7_calculate_148 : decode cX7_calculate 148 = .ok (.iconst 0, 1) := by decide +kernel
theorem d_cX7_calculate_149 : decode cX7_calculate 149 = .ok (.ireturn, 1) := by decide +kernel
theorem d_cX7_calculate_144 : decode cX7_calculate 144 = .ok (.iconst 1, 1) := by decide +kernel
theorem d_cX7_calculate_145 : decode cX7_calculate 145 = .ok (.goto 4, 3) := by decide +kernel
theorem d_cX7_calculate_150 : decode cX7_calculate 150 = .ok (.iload_n 1, 1) := by decide +kernel
theorem d_cX7_calculate_151 : decode cX7_calculate 151 = .ok (.iload_n 2, 1) := by decide +kernel
theorem d_cX7_calculate_152 : decode cX7_calculate 152 = .ok (.if_icmp .ne 7, 3) := by decide +kernel
theorem d_cX7_calculate_159 : decode cX7_calculate 159 = .ok (.iconst 0, 1) := by decide +kernel
theorem d_cX7_calculate_160 : decode cX7_calculate 160 = .ok (.ireturn, 1) := by decide +kernel
theorem d_cX7_calculate_155 : decode cX7_calculate 155 = .ok (.iconst 1, 1) := by decide +kernel
theorem d_cX7_calculate_156 : decode cX7_calculate 156 = .ok (.goto 4, 3) := by decide +kernel
theorem d_cX7_calculate_161 : decode cX7_calculate 161 = .ok (.iload_n 1, 1) := by decide +kernel
theorem d_cX7_calculate_162 : decode cX7_calculate 162 = .ok (.iload_n 2, 1) := by decide +kernel
theorem d_cX7_calculate_163 : decode cX7_calculate 163 = .ok (.if_icmp .eq 7, 3) := by decide +kernel
theorem d_cX7_calculate_170 : decode cX7_calculate 170 = .ok (.iconst 0, 1) := by decide +kernel
theorem d_cX7_calculate_171 : decode cX7_calculate 171 = .ok (.ireturn, 1) := by decide +kernel
theorem d_cX7_calculate_166 : decode cX7_calculate 166 = .ok (.iconst 1, 1) := by decide +kernel
theorem d_cX7_calculate_167 : decode cX7_calculate 167 = .ok (.goto 4, 3) := by decide +kernel
theorem d_cX7_calculate_172 : decode cX7_calculate 172 = .ok (.iconst 0, 1) := by decide +kernel
theorem d_cX7_calculate_173 : decode cX7_calculate 173 = .ok (.ireturn, 1) := by decide +kernel
theorem d_cX7_step_0 : decode cX7_step 0 = .ok (.aload_n 1, 1) := by decide +kernel
theorem d_cX7_step_1 : decode cX7_step 1 = .ok (.getfield 80, 3) := by decide +kernel
theorem d_cX7_step_4 : decode cX7_step 4 = .ok (.iload_n 2, 1) := by decide +kernel
theorem d_cX7_step_5 : decode cX7_step 5 = .ok (.iaload, 1) := by decide +kernel
theorem d_cX7_step_6 : decode cX7_step 6 = .ok (.istore_n 3, 1) := by decide +kernel
theorem d_cX7_step_7 : decode cX7_step 7 = .ok (.aload_n 0, 1) := by decide +kernel
theorem d_cX7_step_8 : decode cX7_step 8 = .ok (.aload_n 1, 1) := by decide +kernel
theorem d_cX7_step_9 : decode cX7_step 9 = .ok (.getfield 83, 3) := by decide +kernel
theorem d_cX7_step_12 : decode cX7_step 12 = .ok (.iload_n 2, 1) := by decide +kernel
theorem d_cX7_step_13 : decode cX7_step 13 = .ok (.iaload, 1) := by decide +kernel
theorem d_cX7_step_14 : decode cX7_step 14 = .ok (.aload_n 1, 1) := by decide +kernel
theorem d_cX7_step_15 : decode cX7_step 15 = .ok (.getfield 86, 3) := by decide +kernel
theorem d_cX7_step_18 : decode cX7_step 18 = .ok (.iload_n 2, 1) := by decide +kernel
theorem d_cX7_step_19 : decode cX7_step 19 = .ok (.iaload, 1) := by decide +kernel
theorem d_cX7_step_20 : decode cX7_step 20 = .ok (.invokevirtual 89, 3) := by decide +kernel
theorem w_6_78 : (Jvm.Cond.methodLink "SpillForge$Machine" (89 : Nat) ({ cls := "SpillForge$Machine", name := "valueOf", desc := "(II)I" } : Jvm.MethodName)) ∈ gw := gw_6 78 rfl rfl
theorem w_6_81 : (Jvm.Cond.code ({ cls := "SpillForge$Machine", name := "valueOf", desc := "(II)I" } : Jvm.MethodName) prog_9_method_15_code (3 : Nat) (Option.some Jvm.ClassFile.FieldType.int)) ∈ gw := gw_6 81 rfl rfl
theorem w_6_80 : (Jvm.Cond.instanceMethod ({ cls := "SpillForge$Machine", name := "valueOf", desc := "(II)I" } : Jvm.MethodName)) ∈ gw := gw_6 80 rfl rfl
theorem w_p_58 : Cond.selects "SpillForge$Machine" ⟨"SpillForge$Machine", "valueOf", "(II)I"⟩ ⟨"SpillForge$Machine", "valueOf", "(II)I"⟩ ∈ gw := gw_p _ 58 rfl rfl rfl
theorem d_cX7_step_23 : decode cX7_step 23 = .ok (.istore 4, 2) := by decide +kernel
theorem d_cX7_step_25 : decode cX7_step 25 = .ok (.iload_n 3, 1) := by decide +kernel
theorem d_cX7_step_26 : decode cX7_step 26 = .ok (.tableswitch 212 14 21 #[172, 191, 105, 145, 126, 46, 61, 93], 46) := by decide +kernel
theorem d_cX7_step_198 : decode cX7_step 198 = .ok (.aload_n 0, 1) := by decide +kernel
theorem d_cX7_step_199 : decode cX7_step 199 = .ok (.getfield 15, 3) := by decide +kernel
theorem d_cX7_step_202 : decode cX7_step 202 = .ok (.aload_n 1, 1) := by decide +kernel
theorem d_cX7_step_203 : decode cX7_step 203 = .ok (.getfield 112, 3) := by decide +kernel
theorem d_cX7_step_206 : decode cX7_step 206 = .ok (.iload_n 2, 1) := by decide +kernel
theorem d_cX7_step_207 : decode cX7_step 207 = .ok (.iaload, 1) := by decide +kernel
theorem d_cX7_step_208 : decode cX7_step 208 = .ok (.iload 4, 2) := by decide +kernel
theorem d_cX7_step_210 : decode cX7_step 210 = .ok (.invokestatic 108, 3) := by decide +kernel
theorem w_6_94 : (Jvm.Cond.methodLink "SpillForge$Machine" (108 : Nat) ({ cls := "SpillForge$Machine", name := "put", desc := "([III)V" } : Jvm.MethodName)) ∈ gw := gw_6 94 rfl rfl
theorem w_6_96 : (Jvm.Cond.code ({ cls := "SpillForge$Machine", name := "put", desc := "([III)V" } : Jvm.MethodName) prog_9_method_17_code (3 : Nat) (Option.none : Option Jvm.ClassFile.FieldType)) ∈ gw := gw_6 96 rfl rfl
theorem w_6_95 : (Jvm.Cond.static ({ cls := "SpillForge$Machine", name := "put", desc := "([III)V" } : Jvm.MethodName)) ∈ gw := gw_6 95 rfl rfl
theorem d_cX7_step_213 : decode cX7_step 213 = .ok (.iload_n 2, 1) := by decide +kernel
theorem d_cX7_step_214 : decode cX7_step 214 = .ok (.iconst 1, 1) := by decide +kernel
theorem d_cX7_step_215 : decode cX7_step 215 = .ok (.iadd, 1) := by decide +kernel
theorem d_cX7_step_216 : decode cX7_step 216 = .ok (.ireturn, 1) := by decide +kernel
theorem d_cX7_step_217 : decode cX7_step 217 = .ok (.aload_n 0, 1) := by decide +kernel
theorem d_cX7_step_218 : decode cX7_step 218 = .ok (.getfield 15, 3) := by decide +kernel
theorem d_cX7_step_221 : decode cX7_step 221 = .ok (.aload_n 1, 1) := by decide +kernel
theorem d_cX7_step_222 : decode cX7_step 222 = .ok (.getfield 112, 3) := by decide +kernel
theorem d_cX7_step_225 : decode cX7_step 225 = .ok (.iload_n 2, 1) := by decide +kernel
theorem d_cX7_step_226 : decode cX7_step 226 = .ok (.iaload, 1) := by decide +kernel
theorem d_cX7_step_227 : decode cX7_step 227 = .ok (.aload_n 0, 1) := by decide +kernel
theorem d_cX7_step_228 : decode cX7_step 228 = .ok (.invokevirtual 118, 3) := by decide +kernel
theorem w_6_101 : (Jvm.Cond.methodLink "SpillForge$Machine" (118 : Nat) ({ cls := "SpillForge$Machine", name := "takeNext", desc := "()I" } : Jvm.MethodName)) ∈ gw := gw_6 101 rfl rfl
theorem w_6_104 : (Jvm.Cond.code ({ cls := "SpillForge$Machine", name := "takeNext", desc := "()I" } : Jvm.MethodName) prog_9_method_14_code (1 : Nat) (Option.some Jvm.ClassFile.FieldType.int)) ∈ gw := gw_6 104 rfl rfl
theorem w_6_103 : (Jvm.Cond.instanceMethod ({ cls := "SpillForge$Machine", name := "takeNext", desc := "()I" } : Jvm.MethodName)) ∈ gw := gw_6 103 rfl rfl
theorem w_p_63 : Cond.selects "SpillForge$Machine" ⟨"SpillForge$Machine", "takeNext", "()I"⟩ ⟨"SpillForge$Machine", "takeNext", "()I"⟩ ∈ gw := gw_p _ 63 rfl rfl rfl
theorem d_cX7_step_231 : decode cX7_step 231 = .ok (.invokestatic 108, 3) := by decide +kernel
theorem d_cX7_step_234 : decode cX7_step 234 = .ok (.iload_n 2, 1) := by decide +kernel
theorem d_cX7_step_235 : decode cX7_step 235 = .ok (.iconst 1, 1) := by decide +kernel
theorem d_cX7_step_236 : decode cX7_step 236 = .ok (.iadd, 1) := by decide +kernel
theorem d_cX7_step_237 : decode cX7_step 237 = .ok (.ireturn, 1) := by decide +kernel
theorem d_cX7_step_131 : decode cX7_step 131 = .ok (.aload_n 0, 1) := by decide +kernel
theorem d_cX7_step_132 : decode cX7_step 132 = .ok (.iload 4, 2) := by decide +kernel
theorem d_cX7_step_134 : decode cX7_step 134 = .ok (.invokevirtual 101, 3) := by decide +kernel
theorem w_6_90 : (Jvm.Cond.methodLink "SpillForge$Machine" (101 : Nat) ({ cls := "SpillForge$Machine", name := "addShow", desc := "(I)Z" } : Jvm.MethodName)) ∈ gw := gw_6 90 rfl rfl
theorem w_6_93 : (Jvm.Cond.code ({ cls := "SpillForge$Machine", name := "addShow", desc := "(I)Z" } : Jvm.MethodName) prog_9_method_13_code (2 : Nat) (Option.some Jvm.ClassFile.FieldType.boolean)) ∈ gw := gw_6 93 rfl rfl
theorem w_6_92 : (Jvm.Cond.instanceMethod ({ cls := "SpillForge$Machine", name := "addShow", desc := "(I)Z" } : Jvm.MethodName)) ∈ gw := gw_6 92 rfl rfl
theorem w_p_61 : Cond.selects "SpillForge$Machine" ⟨"SpillForge$Machine", "addShow", "(I)Z"⟩ ⟨"SpillForge$Machine", "addShow", "(I)Z"⟩ ∈ gw := gw_p _ 61 rfl rfl rfl
theorem d_cX7_step_137 : decode cX7_step 137 = .ok (.ifCond .eq 9, 3) := by decide +kernel
theorem d_cX7_step_146 : decode cX7_step 146 = .ok (.aload_n 0, 1) := by decide +kernel
theorem d_cX7_step_147 : decode cX7_step 147 = .ok (.iconst 5, 1) := by decide +kernel
theorem d_cX7_step_148 : decode cX7_step 148 = .ok (.invokevirtual 77, 3) := by decide +kernel
theorem d_cX7_step_151 : decode cX7_step 151 = .ok (.ireturn, 1) := by decide +kernel
theorem d_cX7_step_140 : decode cX7_step 140 = .ok (.iload_n 2, 1) := by decide +kernel
theorem d_cX7_step_141 : decode cX7_step 141 = .ok (.iconst 1, 1) := by decide +kernel
theorem d_cX7_step_142 : decode cX7_step 142 = .ok (.iadd, 1) := by decide +kernel
theorem d_cX7_step_143 : decode cX7_step 143 = .ok (.goto 8, 3) := by decide +kernel
theorem d_cX7_step_171 : decode cX7_step 171 = .ok (.aload_n 0, 1) := by decide +kernel
theorem d_cX7_step_172 : decode cX7_step 172 = .ok (.getfield 15, 3) := by decide +kernel
theorem d_cX7_step_175 : decode cX7_step 175 = .ok (.aload_n 1, 1) := by decide +kernel
theorem d_cX7_step_176 : decode cX7_step 176 = .ok (.getfield 112, 3) := by decide +kernel
theorem d_cX7_step_179 : decode cX7_step 179 = .ok (.iload_n 2, 1) := by decide +kernel
theorem d_cX7_step_180 : decode cX7_step 180 = .ok (.iaload, 1) := by decide +kernel
theorem d_cX7_step_181 : decode cX7_step 181 = .ok (.aload_n 0, 1) := by decide +kernel
theorem d_cX7_step_182 : decode cX7_step 182 = .ok (.aload_n 1, 1) := by decide +kernel
theorem d_cX7_step_183 : decode cX7_step 183 = .ok (.getfield 105, 3) := by decide +kernel
theorem d_cX7_step_186 : decode cX7_step 186 = .ok (.iload_n 2, 1) := by decide +kernel
theorem d_cX7_step_187 : decode cX7_step 187 = .ok (.iaload, 1) := by decide +kernel
theorem d_cX7_step_188 : decode cX7_step 188 = .ok (.invokevirtual 115, 3) := by decide +kernel
theorem w_6_97 : (Jvm.Cond.methodLink "SpillForge$Machine" (115 : Nat) ({ cls := "SpillForge$Machine", name := "slotAt", desc := "(I)I" } : Jvm.MethodName)) ∈ gw := gw_6 97 rfl rfl
theorem w_6_100 : (Jvm.Cond.code ({ cls := "SpillForge$Machine", name := "slotAt", desc := "(I)I" } : Jvm.MethodName) prog_9_method_16_code (2 : Nat) (Option.some Jvm.ClassFile.FieldType.int)) ∈ gw := gw_6 100 rfl rfl
theorem w_6_99 : (Jvm.Cond.instanceMethod ({ cls := "SpillForge$Machine", name := "slotAt", desc := "(I)I" } : Jvm.MethodName)) ∈ gw := gw_6 99 rfl rfl
theorem w_p_62 : Cond.selects "SpillForge$Machine" ⟨"SpillForge$Machine", "slotAt", "(I)I"⟩ ⟨"SpillForge$Machine", "slotAt", "(I)I"⟩ ∈ gw := gw_p _ 62 rfl rfl rfl
theorem d_cX7_step_191 : decode cX7_step 191 = .ok (.invokestatic 108, 3) := by decide +kernel
theorem d_cX7_step_194 : decode cX7_step 194 = .ok (.iload_n 2, 1) := by decide +kernel
theorem d_cX7_step_195 : decode cX7_step 195 = .ok (.iconst 1, 1) := by decide +kernel
theorem d_cX7_step_196 : decode cX7_step 196 = .ok (.iadd, 1) := by decide +kernel
theorem d_cX7_step_197 : decode cX7_step 197 = .ok (.ireturn, 1) := by decide +kernel
theorem d_cX7_step_152 : decode cX7_step 152 = .ok (.aload_n 0, 1) := by decide +kernel
theorem d_cX7_step_153 : decode cX7_step 153 = .ok (.getfield 18, 3) := by decide +kernel
theorem d_cX7_step_156 : decode cX7_step 156 = .ok (.aload_n 1, 1) := by decide +kernel
theorem d_cX7_step_157 : decode cX7_step 157 = .ok (.getfield 105, 3) := by decide +kernel
theorem d_cX7_step_160 : decode cX7_step 160 = .ok (.iload_n 2, 1) := by decide +kernel
theorem d_cX7_step_161 : decode cX7_step 161 = .ok (.iaload, 1) := by decide +kernel
theorem d_cX7_step_162 : decode cX7_step 162 = .ok (.iload 4, 2) := by decide +kernel
theorem d_cX7_step_164 : decode cX7_step 164 = .ok (.invokestatic 108, 3) := by decide +kernel
theorem d_cX7_step_167 : decode cX7_step 167 = .ok (.iload_n 2, 1) := by decide +kernel
theorem d_cX7_step_168 : decode cX7_step 168 = .ok (.iconst 1, 1) := by decide +kernel
theorem d_cX7_step_169 : decode cX7_step 169 = .ok (.iadd, 1) := by decide +kernel
theorem d_cX7_step_170 : decode cX7_step 170 = .ok (.ireturn, 1) := by decide +kernel
theorem d_cX7_step_72 : decode cX7_step 72 = .ok (.aload_n 0, 1) := by decide +kernel
theorem d_cX7_step_73 : decode cX7_step 73 = .ok (.aload_n 1, 1) := by decide +kernel
theorem d_cX7_step_74 : decode cX7_step 74 = .ok (.aload_n 1, 1) := by decide +kernel
theorem d_cX7_step_75 : decode cX7_step 75 = .ok (.getfield 92, 3) := by decide +kernel
theorem d_cX7_step_78 : decode cX7_step 78 = .ok (.aload_n 0, 1) := by decide +kernel
theorem d_cX7_step_79 : decode cX7_step 79 = .ok (.getfield 65, 3) := by decide +kernel
theorem d_cX7_step_82 : decode cX7_step 82 = .ok (.iaload, 1) := by decide +kernel
theorem d_cX7_step_83 : decode cX7_step 83 = .ok (.invokevirtual 95, 3) := by decide +kernel
theorem w_6_82 : (Jvm.Cond.methodLink "SpillForge$Machine" (95 : Nat) ({ cls := "SpillForge$Machine", name := "enter", desc := "(LSpillForge$Code;I)I" } : Jvm.MethodName)) ∈ gw := gw_6 82 rfl rfl
theorem w_6_85 : (Jvm.Cond.code ({ cls := "SpillForge$Machine", name := "enter", desc := "(LSpillForge$Code;I)I" } : Jvm.MethodName) prog_9_method_11_code (3 : Nat) (Option.some Jvm.ClassFile.FieldType.int)) ∈ gw := gw_6 85 rfl rfl
theorem w_6_84 : (Jvm.Cond.instanceMethod ({ cls := "SpillForge$Machine", name := "enter", desc := "(LSpillForge$Code;I)I" } : Jvm.MethodName)) ∈ gw := gw_6 84 rfl rfl
theorem w_p_59 : Cond.selects "SpillForge$Machine" ⟨"SpillForge$Machine", "enter", "(LSpillForge$Code;I)I"⟩ ⟨"SpillForge$Machine", "enter", "(LSpillForge$Code;I)I"⟩ ∈ gw := gw_p _ 59 rfl rfl rfl
theorem d_cX7_step_86 : decode cX7_step 86 = .ok (.ireturn, 1) := by decide +kernel
theorem d_cX7_step_87 : decode cX7_step 87 = .ok (.aload_n 0, 1) := by decide +kernel
theorem d_cX7_step_88 : decode cX7_step 88 = .ok (.aload_n 1, 1) := by decide +kernel
theorem d_cX7_step_89 : decode cX7_step 89 = .ok (.iload 4, 2) := by decide +kernel
theorem d_cX7_step_91 : decode cX7_step 91 = .ok (.ifCond .eq 15, 3) := by decide +kernel
theorem d_cX7_step_106 : decode cX7_step 106 = .ok (.aload_n 1, 1) := by decide +kernel
theorem d_cX7_step_107 : decode cX7_step 107 = .ok (.getfield 98, 3) := by decide +kernel
theorem d_cX7_step_110 : decode cX7_step 110 = .ok (.aload_n 0, 1) := by decide +kernel
theorem d_cX7_step_111 : decode cX7_step 111 = .ok (.getfield 65, 3) := by decide +kernel
theorem d_cX7_step_114 : decode cX7_step 114 = .ok (.iaload, 1) := by decide +kernel
theorem d_cX7_step_115 : decode cX7_step 115 = .ok (.invokevirtual 95, 3) := by decide +kernel
theorem d_cX7_step_118 : decode cX7_step 118 = .ok (.ireturn, 1) := by decide +kernel
theorem d_cX7_step_94 : decode cX7_step 94 = .ok (.aload_n 1, 1) := by decide +kernel
theorem d_cX7_step_95 : decode cX7_step 95 = .ok (.getfield 92, 3) := by decide +kernel
theorem d_cX7_step_98 : decode cX7_step 98 = .ok (.aload_n 0, 1) := by decide +kernel
theorem d_cX7_step_99 : decode cX7_step 99 = .ok (.getfield 65, 3) := by decide +kernel
theorem d_cX7_step_102 : decode cX7_step 102 = .ok (.iaload, 1) := by decide +kernel
theorem d_cX7_step_103 : decode cX7_step 103 = .ok (.goto 12, 3) := by decide +kernel
theorem d_cX7_step_119 : decode cX7_step 119 = .ok (.aload_n 0, 1) := by decide +kernel
theorem d_cX7_step_120 : decode cX7_step 120 = .ok (.iload 4, 2) := by decide +kernel
theorem d_cX7_step_122 : decode cX7_step 122 = .ok (.putfield 47, 3) := by decide +kernel
theorem w_2_166 : (Jvm.Cond.fieldLink "SpillForge$Machine" (47 : Nat) "SpillForge$Machine" "answer" "I") ∈ gw := gw_2 166 rfl rfl
theorem d_cX7_step_125 : decode cX7_step 125 = .ok (.aload_n 0, 1) := by decide +kernel
theorem d_cX7_step_126 : decode cX7_step 126 = .ok (.iconst 0, 1) := by decide +kernel
theorem d_cX7_step_127 : decode cX7_step 127 = .ok (.invokevirtual 77, 3) := by decide +kernel
theorem d_cX7_step_130 : decode cX7_step 130 = .ok (.ireturn, 1) := by decide +kernel
theorem d_cX7_step_238 : decode cX7_step 238 = .ok (.aload_n 0, 1) := by decide +kernel
theorem d_cX7_step_239 : decode cX7_step 239 = .ok (.aload_n 1, 1) := by decide +kernel
theorem d_cX7_step_240 : decode cX7_step 240 = .ok (.getfield 121, 3) := by decide +kernel
theorem d_cX7_step_243 : decode cX7_step 243 = .ok (.iload_n 2, 1) := by decide +kernel
theorem d_cX7_step_244 : decode cX7_step 244 = .ok (.iaload, 1) := by decide +kernel
theorem d_cX7_step_245 : decode cX7_step 245 = .ok (.aload_n 1, 1) := by decide +kernel
theorem d_cX7_step_246 : decode cX7_step 246 = .ok (.getfield 105, 3) := by decide +kernel
theorem d_cX7_step_249 : decode cX7_step 249 = .ok (.iload_n 2, 1) := by decide +kernel
theorem d_cX7_step_250 : decode cX7_step 250 = .ok (.iaload, 1) := by decide +kernel
theorem d_cX7_step_251 : decode cX7_step 251 = .ok (.invokevirtual 89, 3) := by decide +kernel
theorem d_cX7_step_254 : decode cX7_step 254 = .ok (.istore 5, 2) := by decide +kernel
theorem d_cX7_step_256 : decode cX7_step 256 = .ok (.iload 5, 2) := by decide +kernel
theorem d_cX7_step_258 : decode cX7_step 258 = .ok (.ifCond .ne 19, 3) := by decide +kernel
theorem d_cX7_step_277 : decode cX7_step 277 = .ok (.aload_n 0, 1) := by decide +kernel
theorem d_cX7_step_278 : decode cX7_step 278 = .ok (.getfield 15, 3) := by decide +kernel
theorem d_cX7_step_281 : decode cX7_step 281 = .ok (.aload_n 1, 1) := by decide +kernel
theorem d_cX7_step_282 : decode cX7_step 282 = .ok (.getfield 112, 3) := by decide +kernel
theorem d_cX7_step_285 : decode cX7_step 285 = .ok (.iload_n 2, 1) := by decide +kernel
theorem d_cX7_step_286 : decode cX7_step 286 = .ok (.iaload, 1) := by decide +kernel
theorem d_cX7_step_287 : decode cX7_step 287 = .ok (.iload_n 3, 1) := by decide +kernel
theorem d_cX7_step_288 : decode cX7_step 288 = .ok (.iload 4, 2) := by decide +kernel
theorem d_cX7_step_290 : decode cX7_step 290 = .ok (.iload 5, 2) := by decide +kernel
theorem d_cX7_step_292 : decode cX7_step 292 = .ok (.invokestatic 124, 3) := by decide +kernel
theorem w_6_105 : (Jvm.Cond.methodLink "SpillForge$Machine" (124 : Nat) ({ cls := "SpillForge$Machine", name := "calculate", desc := "(III)I" } : Jvm.MethodName)) ∈ gw := gw_6 105 rfl rfl
theorem w_6_107 : (Jvm.Cond.code ({ cls := "SpillForge$Machine", name := "calculate", desc := "(III)I" } : Jvm.MethodName) prog_9_method_18_code (3 : Nat) (Option.some Jvm.ClassFile.FieldType.int)) ∈ gw := gw_6 107 rfl rfl
theorem w_6_106 : (Jvm.Cond.static ({ cls := "SpillForge$Machine", name := "calculate", desc := "(III)I" } : Jvm.MethodName)) ∈ gw := gw_6 106 rfl rfl
theorem d_cX7_step_295 : decode cX7_step 295 = .ok (.invokestatic 108, 3) := by decide +kernel
theorem d_cX7_step_298 : decode cX7_step 298 = .ok (.iload_n 2, 1) := by decide +kernel
theorem d_cX7_step_299 : decode cX7_step 299 = .ok (.iconst 1, 1) := by decide +kernel
theorem d_cX7_step_300 : decode cX7_step 300 = .ok (.iadd, 1) := by decide +kernel
theorem d_cX7_step_301 : decode cX7_step 301 = .ok (.ireturn, 1) := by decide +kernel
theorem d_cX7_step_261 : decode cX7_step 261 = .ok (.iload_n 3, 1) := by decide +kernel
theorem d_cX7_step_262 : decode cX7_step 262 = .ok (.iconst 3, 1) := by decide +kernel
theorem d_cX7_step_263 : decode cX7_step 263 = .ok (.if_icmp .eq 8, 3) := by decide +kernel
theorem d_cX7_step_271 : decode cX7_step 271 = .ok (.aload_n 0, 1) := by decide +kernel
theorem d_cX7_step_272 : decode cX7_step 272 = .ok (.iconst 1, 1) := by decide +kernel
theorem d_cX7_step_273 : decode cX7_step 273 = .ok (.invokevirtual 77, 3) := by decide +kernel
theorem d_cX7_step_276 : decode cX7_step 276 = .ok (.ireturn, 1) := by decide +kernel
theorem d_cX7_step_266 : decode cX7_step 266 = .ok (.iload_n 3, 1) := by decide +kernel
theorem d_cX7_step_267 : decode cX7_step 267 = .ok (.iconst 4, 1) := by decide +kernel
theorem d_cX7_step_268 : decode cX7_step 268 = .ok (.if_icmp .ne 9, 3) := by decide +kernel
abbrev ky_2927_Machine_put : gKey := (cX7_put, 3, yX7_put.cls, none, [], yX7_put.name, fun _ _ => True)
abbrev po_2927_Machine_put (I : FieldType → ClassId) (q2923 : Nat) (p2924 : Int32) (p2925 : Int32) (f2926 : Nat → Int32) : Option Value → va_W → Prop := fun r w => ∃ (f2935 : Nat → Int32), r = none ∧ w = [(q2923, .inl (I .int, 100, .inl f2935))] ∧ gF f2935 (-2147483648) 2147483647 ∧ tr_Machine_put p2924 p2925 f2926 f2935
set_option maxRecDepth 100000 in
set_option maxHeartbeats 4000000 in
theorem ct_2927_Machine_put (l : Launch) (hl0 : l.stackTraces = false) (D : va_G) (I : FieldType → ClassId) (q2923 : Nat) (p2924 : Int32) (p2925 : Int32) (f2926 : Nat → Int32)  : Ct (gV D I) l yX7_put cX7_put 3 none 0 0 0 0 [.ref q2923, .int p2924, .int p2925] [(q2923, .inl (I .int, 100, .inl f2926))] (po_2927_Machine_put I q2923 p2924 p2925 f2926) gN := by
  refine Ct_of hl0 (by decide) (Nat.le_of_ble_eq_true rfl) ?_
  have bp2924 := gB_any p2924
  have bp2925 := gB_any p2925
  refine G_iload_n 1 d_cX7_put_0 rfl ?_
  refine G_if_lt 14 d_cX7_put_1 (by decide +kernel) (fun hc2928 => ?_) (fun hc2928 => ?_)
  · have r2929 : p2924.toInt < 0 := gj_lt hc2928 (show Int32.toInt 0 = 0 by decide)
    have bp2924' : gB p2924 (-2147483648) (-1) := ⟨by omega, by omega⟩
    exact G_vret d_cX7_put_14 rfl (Nat.le_of_ble_eq_true rfl) (Nat.le_of_ble_eq_true rfl) ⟨f2926, rfl, rfl, (gF_any f2926), (fun R c1 c2 c3 => c1 r2929)⟩
  · have r2930 : 0 ≤ p2924.toInt := gj_nlt hc2928 (show Int32.toInt 0 = 0 by decide)
    have bp2924' : gB p2924 0 2147483647 := ⟨by omega, by omega⟩
    refine G_iload_n 1 d_cX7_put_4 rfl ?_
    refine G_aload_n 0 d_cX7_put_5 rfl ?_
    refine G_alen 100 0 0 d_cX7_put_6 rfl rfl rfl ?_
    refine G_icmp_ge 14 d_cX7_put_7 (by decide +kernel) (fun hc2931 => ?_) (fun hc2931 => ?_)
    · have r2932 : 100 ≤ p2924.toInt := gj_leL hc2931 (show Int32.toInt 100 = 100 by decide)
      have bp2924'' : gB p2924 100 2147483647 := ⟨by omega, by omega⟩
      exact G_vret d_cX7_put_14 rfl (Nat.le_of_ble_eq_true rfl) (Nat.le_of_ble_eq_true rfl) ⟨f2926, rfl, rfl, (gF_any f2926), (fun R c1 c2 c3 => c2 r2930 r2932)⟩
    · have r2933 : p2924.toInt < 100 := gj_nleL hc2931 (show Int32.toInt 100 = 100 by decide)
      have bp2924'' : gB p2924 0 99 := ⟨by omega, by omega⟩
      refine G_aload_n 0 d_cX7_put_10 rfl ?_
      refine G_iload_n 1 d_cX7_put_11 rfl ?_
      refine G_iload_n 2 d_cX7_put_12 rfl ?_
      refine G_iastN 0 0 d_cX7_put_13 rfl rfl (gB_in bp2924'' (by decide) (by decide)) (fun f2934 hf2934 => ?_)
      refine G_ws (ws' := [(q2923, .inl (I .int, 100, .inl f2934))]) (cs' := 0) (sl' := 0) rfl rfl rfl ?_
      exact G_vret d_cX7_put_14 rfl (Nat.le_of_ble_eq_true rfl) (Nat.le_of_ble_eq_true rfl) ⟨f2934, rfl, rfl, (gF_any f2934), (fun R c1 c2 c3 => c3 f2934 r2930 r2933 hf2934)⟩
/- tr_Machine_takeNext: result, Machine_taken -/
def tr_Machine_takeNext (Machine_givens : Int32) (Machine_taken : Int32) (Machine_given : Nat → Int32) (o1 : Int32) (o2 : Int32) : Prop := ∀ R : (Int32) → (Int32) → Prop,
  (∀ (x1 : Int32) (x2 : Int32) (x3 : Int32), Machine_taken.toInt < Machine_givens.toInt → x1.toInt = Machine_taken.toInt + 1 → x2.toInt = x1.toInt - 1 → x3 = Machine_given x2.toNatClampNeg → R x3 x1) →
  (Machine_givens.toInt ≤ Machine_taken.toInt → R (0 : Int32) Machine_taken) →
  R o1 o2
abbrev ky_2957_Machine_takeNext : gKey := (cX7_takeNext, 1, yX7_takeNext.cls, (some FieldType.int), [], yX7_takeNext.name, fun _ _ => True)
abbrev po_2957_Machine_takeNext (I : FieldType → ClassId) (q2941 : Nat) (q2942 : Nat) (q2943 : Nat) (q2944 : Nat) (q2945 : Nat) (p2946 : Int32) (p2947 : Int32) (p2948 : Int32) (p2949 : Int32) (p2950 : Int32) (p2951 : Int32) (p2952 : Int32) (f2953 : Nat → Int32) (f2954 : Nat → Int32) (f2955 : Nat → Int32) (f2956 : Nat → Int32) : Option Value → va_W → Prop := fun r w => ∃ (o2965 : Int32) (o2964 : Int32), r = some (.int o2965) ∧ w = [(q2941, .inr (12, [.ref q2942, .ref q2943, .ref q2944, .ref q2945, .int p2946, .int p2947, .int p2948, .int p2949, .int p2950, .int o2964, .int p2952])), (q2942, .inl (I .int, 2048, .inl f2953)), (q2943, .inl (I .int, 100, .inl f2954)), (q2944, .inl (I .int, 100, .inl f2955)), (q2945, .inl (I .int, 512, .inl f2956))] ∧ gB o2965 (-2147483648) 2147483647 ∧ gB o2964 0 2048 ∧ tr_Machine_takeNext p2946 p2951 f2953 o2965 o2964
set_option maxRecDepth 100000 in
set_option maxHeartbeats 4000000 in
theorem ct_2957_Machine_takeNext (l : Launch) (hl0 : l.stackTraces = false) (D : va_G) (I : FieldType → ClassId) (q2941 : Nat) (q2942 : Nat) (q2943 : Nat) (q2944 : Nat) (q2945 : Nat) (p2946 : Int32) (p2947 : Int32) (p2948 : Int32) (p2949 : Int32) (p2950 : Int32) (p2951 : Int32) (p2952 : Int32) (f2953 : Nat → Int32) (f2954 : Nat → Int32) (f2955 : Nat → Int32) (f2956 : Nat → Int32) (bp2946 : gB p2946 0 2048) (bp2947 : gB p2947 0 39) (bp2949 : gB p2949 0 512) (bp2951 : gB p2951 0 2048) : Ct (gV D I) l yX7_takeNext cX7_takeNext 1 (some FieldType.int) 0 0 0 0 [.ref q2941] [(q2941, .inr (12, [.ref q2942, .ref q2943, .ref q2944, .ref q2945, .int p2946, .int p2947, .int p2948, .int p2949, .int p2950, .int p2951, .int p2952])), (q2942, .inl (I .int, 2048, .inl f2953)), (q2943, .inl (I .int, 100, .inl f2954)), (q2944, .inl (I .int, 100, .inl f2955)), (q2945, .inl (I .int, 512, .inl f2956))] (po_2957_Machine_takeNext I q2941 q2942 q2943 q2944 q2945 p2946 p2947 p2948 p2949 p2950 p2951 p2952 f2953 f2954 f2955 f2956) gN := by
  refine Ct_of hl0 (by decide) (Nat.le_of_ble_eq_true rfl) ?_
  have bp2948 := gB_any p2948
  have bp2950 := gB_any p2950
  have bp2952 := gB_any p2952
  refine G_aload_n 0 d_cX7_takeNext_0 rfl ?_
  refine G_getf 0 9 d_cX7_takeNext_1 rfl (gk_X7 D I) (Nat.le_of_ble_eq_true rfl) w_2_169 rfl ?_
  refine G_aload_n 0 d_cX7_takeNext_4 rfl ?_
  refine G_getf 0 4 d_cX7_takeNext_5 rfl (gk_X7 D I) (Nat.le_of_ble_eq_true rfl) w_2_164 rfl ?_
  refine G_icmp_lt 13 d_cX7_takeNext_8 (by decide +kernel) (fun hc2958 => ?_) (fun hc2958 => ?_)
  · have r2959 : p2951.toInt < p2946.toInt := gC_lt hc2958
    have bp2951' : gB p2951 0 2047 := ⟨by omega, by omega⟩
    have bp2946' : gB p2946 1 2048 := ⟨by omega, by omega⟩
    refine G_aload_n 0 d_cX7_takeNext_13 rfl ?_
    refine G_dup d_cX7_takeNext_14 rfl ?_
    refine G_getf 0 9 d_cX7_takeNext_15 rfl (gk_X7 D I) (Nat.le_of_ble_eq_true rfl) w_2_169 rfl ?_
    refine G_iconst 1 d_cX7_takeNext_18 (by decide +kernel) ?_
    refine G_iadd d_cX7_takeNext_19 (G_nam fun z2960 hz2960 => ?_)
    have ez2960 : z2960.toInt = p2951.toInt + 1 := by rw [gI_add hz2960 bp2951' (gBl (show Int32.toInt 1 = 1 by decide)) (by decide) (by decide), show Int32.toInt 1 = 1 from by decide]
    have bz2960 : gB z2960 1 2048 := gB_add (gI_add hz2960 bp2951' (gBl (show Int32.toInt 1 = 1 by decide)) (by decide) (by decide)) bp2951' (gBl (show Int32.toInt 1 = 1 by decide)) (by decide) (by decide)
    refine G_putf (ws' := [(q2941, .inr (12, [.ref q2942, .ref q2943, .ref q2944, .ref q2945, .int p2946, .int p2947, .int p2948, .int p2949, .int p2950, .int z2960, .int p2952])), (q2942, .inl (I .int, 2048, .inl f2953)), (q2943, .inl (I .int, 100, .inl f2954)), (q2944, .inl (I .int, 100, .inl f2955)), (q2945, .inl (I .int, 512, .inl f2956))]) 0 9 d_cX7_takeNext_20 rfl (gk_X7 D I) (Nat.le_of_ble_eq_true rfl) w_2_169 rfl rfl rfl (Nat.le_of_ble_eq_true rfl) rfl ?_
    refine G_aload_n 0 d_cX7_takeNext_23 rfl ?_
    refine G_getf 0 0 d_cX7_takeNext_24 rfl (gk_X7 D I) (Nat.le_of_ble_eq_true rfl) w_2_160 rfl ?_
    refine G_aload_n 0 d_cX7_takeNext_27 rfl ?_
    refine G_getf 0 9 d_cX7_takeNext_28 rfl (gk_X7 D I) (Nat.le_of_ble_eq_true rfl) w_2_169 rfl ?_
    refine G_iconst 1 d_cX7_takeNext_31 (by decide +kernel) ?_
    refine G_isub d_cX7_takeNext_32 (G_nam fun z2961 hz2961 => ?_)
    have ez2961 : z2961.toInt = z2960.toInt - 1 := by rw [gI_sub hz2961 bz2960 (gBl (show Int32.toInt 1 = 1 by decide)) (by decide) (by decide), show Int32.toInt 1 = 1 from by decide]
    have bz2961 : gB z2961 0 2047 := gB_sub (gI_sub hz2961 bz2960 (gBl (show Int32.toInt 1 = 1 by decide)) (by decide) (by decide)) bz2960 (gBl (show Int32.toInt 1 = 1 by decide)) (by decide) (by decide)
    refine G_iald 1 0 d_cX7_takeNext_33 rfl rfl (gB_in bz2961 (by decide) (by decide)) (G_nam fun z2962 hz2962 => ?_)
    have bz2962 : gB z2962 (-2147483648) 2147483647 := gB_any z2962
    exact G_iret d_cX7_takeNext_34 rfl (Nat.le_of_ble_eq_true rfl) (Nat.le_of_ble_eq_true rfl) ⟨z2962, z2960, rfl, rfl, bz2962, (gB_w bz2960 (by decide) (by decide)), (fun R c1 c2 => c1 z2960 z2961 z2962 r2959 ez2960 ez2961 hz2962)⟩
  · have r2963 : p2946.toInt ≤ p2951.toInt := gC_nlt hc2958
    refine G_iconst 0 d_cX7_takeNext_11 (by decide +kernel) ?_
    exact G_iret d_cX7_takeNext_12 rfl (Nat.le_of_ble_eq_true rfl) (Nat.le_of_ble_eq_true rfl) ⟨0, p2951, rfl, rfl, (gB_w (gBl (show Int32.toInt 0 = 0 by decide)) (by decide) (by decide)), bp2951, (fun R c1 c2 => c2 r2963)⟩
/- tr_Machine_addShow: result, Machine_showCount, Machine_shows -/
def tr_Machine_addShow (a1 : Int32) (Machine_showCount : Int32) (Machine_shows : Nat → Int32) (o1 : Int32) (o2 : Int32) (o3 : Nat → Int32) : Prop := ∀ R : (Int32) → (Int32) → (Nat → Int32) → Prop,
  (∀ (x1 : Nat → Int32) (x2 : Int32), Machine_showCount.toInt < 512 → x1 = upd Machine_shows Machine_showCount.toNatClampNeg a1 → x2.toInt = Machine_showCount.toInt + 1 → R (1 : Int32) x2 x1) →
  (512 ≤ Machine_showCount.toInt → R (0 : Int32) Machine_showCount Machine_shows) →
  R o1 o2 o3
abbrev ky_2990_Machine_addShow : gKey := (cX7_addShow, 2, yX7_addShow.cls, (some FieldType.boolean), [], yX7_addShow.name, fun _ _ => True)
abbrev po_2990_Machine_addShow (I : FieldType → ClassId) (q2973 : Nat) (q2974 : Nat) (q2975 : Nat) (q2976 : Nat) (q2977 : Nat) (p2978 : Int32) (p2979 : Int32) (p2980 : Int32) (p2981 : Int32) (p2982 : Int32) (p2983 : Int32) (p2984 : Int32) (p2985 : Int32) (f2986 : Nat → Int32) (f2987 : Nat → Int32) (f2988 : Nat → Int32) (f2989 : Nat → Int32) : Option Value → va_W → Prop := fun r w => ∃ (o2998 : Int32) (o2996 : Int32) (f2997 : Nat → Int32), r = some (.int o2998) ∧ w = [(q2973, .inr (12, [.ref q2974, .ref q2975, .ref q2976, .ref q2977, .int p2979, .int p2980, .int p2981, .int o2996, .int p2983, .int p2984, .int p2985])), (q2974, .inl (I .int, 2048, .inl f2986)), (q2975, .inl (I .int, 100, .inl f2987)), (q2976, .inl (I .int, 100, .inl f2988)), (q2977, .inl (I .int, 512, .inl f2997))] ∧ gB o2998 0 1 ∧ gB o2996 1 512 ∧ gF f2997 (-2147483648) 2147483647 ∧ tr_Machine_addShow p2978 p2982 f2989 o2998 o2996 f2997
set_option maxRecDepth 100000 in
set_option maxHeartbeats 4000000 in
theorem ct_2990_Machine_addShow (l : Launch) (hl0 : l.stackTraces = false) (D : va_G) (I : FieldType → ClassId) (q2973 : Nat) (q2974 : Nat) (q2975 : Nat) (q2976 : Nat) (q2977 : Nat) (p2978 : Int32) (p2979 : Int32) (p2980 : Int32) (p2981 : Int32) (p2982 : Int32) (p2983 : Int32) (p2984 : Int32) (p2985 : Int32) (f2986 : Nat → Int32) (f2987 : Nat → Int32) (f2988 : Nat → Int32) (f2989 : Nat → Int32) (bp2979 : gB p2979 0 2048) (bp2980 : gB p2980 0 39) (bp2982 : gB p2982 0 512) (bp2984 : gB p2984 0 2048) : Ct (gV D I) l yX7_addShow cX7_addShow 2 (some FieldType.boolean) 0 0 0 0 [.ref q2973, .int p2978] [(q2973, .inr (12, [.ref q2974, .ref q2975, .ref q2976, .ref q2977, .int p2979, .int p2980, .int p2981, .int p2982, .int p2983, .int p2984, .int p2985])), (q2974, .inl (I .int, 2048, .inl f2986)), (q2975, .inl (I .int, 100, .inl f2987)), (q2976, .inl (I .int, 100, .inl f2988)), (q2977, .inl (I .int, 512, .inl f2989))] (po_2990_Machine_addShow I q2973 q2974 q2975 q2976 q2977 p2978 p2979 p2980 p2981 p2982 p2983 p2984 p2985 f2986 f2987 f2988 f2989) gN := by
  refine Ct_of hl0 (by decide) (Nat.le_of_ble_eq_true rfl) ?_
  have bp2978 := gB_any p2978
  have bp2981 := gB_any p2981
  have bp2983 := gB_any p2983
  have bp2985 := gB_any p2985
  refine G_aload_n 0 d_cX7_addShow_0 rfl ?_
  refine G_getf 0 7 d_cX7_addShow_1 rfl (gk_X7 D I) (Nat.le_of_ble_eq_true rfl) w_2_167 rfl ?_
  refine G_sipush 512 d_cX7_addShow_4 (by decide +kernel) ?_
  refine G_icmp_lt 12 d_cX7_addShow_7 (by decide +kernel) (fun hc2991 => ?_) (fun hc2991 => ?_)
  · have r2992 : p2982.toInt < 512 := gj_lt hc2991 (show Int32.toInt 512 = 512 by decide)
    have bp2982' : gB p2982 0 511 := ⟨by omega, by omega⟩
    refine G_aload_n 0 d_cX7_addShow_12 rfl ?_
    refine G_getf 0 3 d_cX7_addShow_13 rfl (gk_X7 D I) (Nat.le_of_ble_eq_true rfl) w_2_163 rfl ?_
    refine G_aload_n 0 d_cX7_addShow_16 rfl ?_
    refine G_getf 0 7 d_cX7_addShow_17 rfl (gk_X7 D I) (Nat.le_of_ble_eq_true rfl) w_2_167 rfl ?_
    refine G_iload_n 1 d_cX7_addShow_20 rfl ?_
    refine G_iastN 4 0 d_cX7_addShow_21 rfl rfl (gB_in bp2982' (by decide) (by decide)) (fun f2993 hf2993 => ?_)
    refine G_ws (ws' := [(q2973, .inr (12, [.ref q2974, .ref q2975, .ref q2976, .ref q2977, .int p2979, .int p2980, .int p2981, .int p2982, .int p2983, .int p2984, .int p2985])), (q2974, .inl (I .int, 2048, .inl f2986)), (q2975, .inl (I .int, 100, .inl f2987)), (q2976, .inl (I .int, 100, .inl f2988)), (q2977, .inl (I .int, 512, .inl f2993))]) (cs' := 0) (sl' := 0) rfl rfl rfl ?_
    refine G_aload_n 0 d_cX7_addShow_22 rfl ?_
    refine G_dup d_cX7_addShow_23 rfl ?_
    refine G_getf 0 7 d_cX7_addShow_24 rfl (gk_X7 D I) (Nat.le_of_ble_eq_true rfl) w_2_167 rfl ?_
    refine G_iconst 1 d_cX7_addShow_27 (by decide +kernel) ?_
    refine G_iadd d_cX7_addShow_28 (G_nam fun z2994 hz2994 => ?_)
    have ez2994 : z2994.toInt = p2982.toInt + 1 := by rw [gI_add hz2994 bp2982' (gBl (show Int32.toInt 1 = 1 by decide)) (by decide) (by decide), show Int32.toInt 1 = 1 from by decide]
    have bz2994 : gB z2994 1 512 := gB_add (gI_add hz2994 bp2982' (gBl (show Int32.toInt 1 = 1 by decide)) (by decide) (by decide)) bp2982' (gBl (show Int32.toInt 1 = 1 by decide)) (by decide) (by decide)
    refine G_putf (ws' := [(q2973, .inr (12, [.ref q2974, .ref q2975, .ref q2976, .ref q2977, .int p2979, .int p2980, .int p2981, .int z2994, .int p2983, .int p2984, .int p2985])), (q2974, .inl (I .int, 2048, .inl f2986)), (q2975, .inl (I .int, 100, .inl f2987)), (q2976, .inl (I .int, 100, .inl f2988)), (q2977, .inl (I .int, 512, .inl f2993))]) 0 7 d_cX7_addShow_29 rfl (gk_X7 D I) (Nat.le_of_ble_eq_true rfl) w_2_167 rfl rfl rfl (Nat.le_of_ble_eq_true rfl) rfl ?_
    refine G_iconst 1 d_cX7_addShow_32 (by decide +kernel) ?_
    exact G_zret FieldType.boolean d_cX7_addShow_33 rfl rfl (Nat.le_of_ble_eq_true rfl) (Nat.le_of_ble_eq_true rfl) ⟨1, z2994, f2993, rfl, rfl, (gB_w (gBl (show Int32.toInt 1 = 1 by decide)) (by decide) (by decide)), bz2994, (gF_any f2993), (fun R c1 c2 => c1 f2993 z2994 r2992 hf2993 ez2994)⟩
  · have r2995 : 512 ≤ p2982.toInt := gj_nlt hc2991 (show Int32.toInt 512 = 512 by decide)
    have bp2982' : gB p2982 512 512 := ⟨by omega, by omega⟩
    refine G_iconst 0 d_cX7_addShow_10 (by decide +kernel) ?_
    exact G_zret FieldType.boolean d_cX7_addShow_11 rfl rfl (Nat.le_of_ble_eq_true rfl) (Nat.le_of_ble_eq_true rfl) ⟨0, p2982, f2989, rfl, rfl, (gB_w (gBl (show Int32.toInt 0 = 0 by decide)) (by decide) (by decide)), (gB_w bp2982' (by decide) (by decide)), (gF_any f2989), (fun R c1 c2 => c2 r2995)⟩
/- tr_Machine_slotAt: result -/
def tr_Machine_slotAt (a1 : Int32) (Machine_slots : Nat → Int32) (o1 : Int32) : Prop := ∀ R : (Int32) → Prop,
  (a1.toInt < 0 → R (0 : Int32)) →
  (0 ≤ a1.toInt → 100 ≤ a1.toInt → R (0 : Int32)) →
  (∀ (x1 : Int32), 0 ≤ a1.toInt → a1.toInt < 100 → x1 = Machine_slots a1.toNatClampNeg → R x1) →
  R o1
abbrev ky_3029_Machine_slotAt : gKey := (cX7_slotAt, 2, yX7_slotAt.cls, (some FieldType.int), [], yX7_slotAt.name, fun _ _ => True)
abbrev po_3029_Machine_slotAt (I : FieldType → ClassId) (q3012 : Nat) (q3013 : Nat) (q3014 : Nat) (q3015 : Nat) (q3016 : Nat) (p3017 : Int32) (p3018 : Int32) (p3019 : Int32) (p3020 : Int32) (p3021 : Int32) (p3022 : Int32) (p3023 : Int32) (p3024 : Int32) (f3025 : Nat → Int32) (f3026 : Nat → Int32) (f3027 : Nat → Int32) (f3028 : Nat → Int32) : Option Value → va_W → Prop := fun r w => (r = some (.int 0) ∧ w = [(q3012, .inr (12, [.ref q3013, .ref q3014, .ref q3015, .ref q3016, .int p3018, .int p3019, .int p3020, .int p3021, .int p3022, .int p3023, .int p3024])), (q3013, .inl (I .int, 2048, .inl f3025)), (q3014, .inl (I .int, 100, .inl f3026)), (q3015, .inl (I .int, 100, .inl f3027)), (q3016, .inl (I .int, 512, .inl f3028))] ∧ p3017.toInt < 0 ∧ tr_Machine_slotAt p3017 f3027 (0 : Int32)) ∨ (r = some (.int 0) ∧ w = [(q3012, .inr (12, [.ref q3013, .ref q3014, .ref q3015, .ref q3016, .int p3018, .int p3019, .int p3020, .int p3021, .int p3022, .int p3023, .int p3024])), (q3013, .inl (I .int, 2048, .inl f3025)), (q3014, .inl (I .int, 100, .inl f3026)), (q3015, .inl (I .int, 100, .inl f3027)), (q3016, .inl (I .int, 512, .inl f3028))] ∧ 0 ≤ p3017.toInt ∧ 100 ≤ p3017.toInt ∧ tr_Machine_slotAt p3017 f3027 (0 : Int32)) ∨ (∃ (z3036 : Int32), r = some (.int z3036) ∧ w = [(q3012, .inr (12, [.ref q3013, .ref q3014, .ref q3015, .ref q3016, .int p3018, .int p3019, .int p3020, .int p3021, .int p3022, .int p3023, .int p3024])), (q3013, .inl (I .int, 2048, .inl f3025)), (q3014, .inl (I .int, 100, .inl f3026)), (q3015, .inl (I .int, 100, .inl f3027)), (q3016, .inl (I .int, 512, .inl f3028))] ∧ 0 ≤ p3017.toInt ∧ p3017.toInt < 100 ∧ z3036 = f3027 p3017.toNatClampNeg ∧ gB z3036 (-2147483648) 2147483647 ∧ tr_Machine_slotAt p3017 f3027 z3036)
set_option maxRecDepth 100000 in
set_option maxHeartbeats 4000000 in
theorem ct_3029_Machine_slotAt (l : Launch) (hl0 : l.stackTraces = false) (D : va_G) (I : FieldType → ClassId) (q3012 : Nat) (q3013 : Nat) (q3014 : Nat) (q3015 : Nat) (q3016 : Nat) (p3017 : Int32) (p3018 : Int32) (p3019 : Int32) (p3020 : Int32) (p3021 : Int32) (p3022 : Int32) (p3023 : Int32) (p3024 : Int32) (f3025 : Nat → Int32) (f3026 : Nat → Int32) (f3027 : Nat → Int32) (f3028 : Nat → Int32) (bp3018 : gB p3018 0 2048) (bp3019 : gB p3019 0 39) (bp3021 : gB p3021 0 512) (bp3023 : gB p3023 0 2048) : Ct (gV D I) l yX7_slotAt cX7_slotAt 2 (some FieldType.int) 0 0 0 0 [.ref q3012, .int p3017] [(q3012, .inr (12, [.ref q3013, .ref q3014, .ref q3015, .ref q3016, .int p3018, .int p3019, .int p3020, .int p3021, .int p3022, .int p3023, .int p3024])), (q3013, .inl (I .int, 2048, .inl f3025)), (q3014, .inl (I .int, 100, .inl f3026)), (q3015, .inl (I .int, 100, .inl f3027)), (q3016, .inl (I .int, 512, .inl f3028))] (po_3029_Machine_slotAt I q3012 q3013 q3014 q3015 q3016 p3017 p3018 p3019 p3020 p3021 p3022 p3023 p3024 f3025 f3026 f3027 f3028) gN := by
  refine Ct_of hl0 (by decide) (Nat.le_of_ble_eq_true rfl) ?_
  have bp3017 := gB_any p3017
  have bp3020 := gB_any p3020
  have bp3022 := gB_any p3022
  have bp3024 := gB_any p3024
  refine G_iload_n 1 d_cX7_slotAt_0 rfl ?_
  refine G_if_lt 19 d_cX7_slotAt_1 (by decide +kernel) (fun hc3030 => ?_) (fun hc3030 => ?_)
  · have r3031 : p3017.toInt < 0 := gj_lt hc3030 (show Int32.toInt 0 = 0 by decide)
    have bp3017' : gB p3017 (-2147483648) (-1) := ⟨by omega, by omega⟩
    refine G_iconst 0 d_cX7_slotAt_19 (by decide +kernel) ?_
    exact G_iret d_cX7_slotAt_20 rfl (Nat.le_of_ble_eq_true rfl) (Nat.le_of_ble_eq_true rfl) (Or.inl ⟨rfl, rfl, r3031, (fun R c1 c2 c3 => c1 r3031)⟩)
  · have r3032 : 0 ≤ p3017.toInt := gj_nlt hc3030 (show Int32.toInt 0 = 0 by decide)
    have bp3017' : gB p3017 0 2147483647 := ⟨by omega, by omega⟩
    refine G_iload_n 1 d_cX7_slotAt_4 rfl ?_
    refine G_bipush 100 d_cX7_slotAt_5 (by decide +kernel) ?_
    refine G_icmp_ge 19 d_cX7_slotAt_7 (by decide +kernel) (fun hc3033 => ?_) (fun hc3033 => ?_)
    · have r3034 : 100 ≤ p3017.toInt := gj_leL hc3033 (show Int32.toInt 100 = 100 by decide)
      have bp3017'' : gB p3017 100 2147483647 := ⟨by omega, by omega⟩
      refine G_iconst 0 d_cX7_slotAt_19 (by decide +kernel) ?_
      exact G_iret d_cX7_slotAt_20 rfl (Nat.le_of_ble_eq_true rfl) (Nat.le_of_ble_eq_true rfl) (Or.inr (Or.inl ⟨rfl, rfl, r3032, r3034, (fun R c1 c2 c3 => c2 r3032 r3034)⟩))
    · have r3035 : p3017.toInt < 100 := gj_nleL hc3033 (show Int32.toInt 100 = 100 by decide)
      have bp3017'' : gB p3017 0 99 := ⟨by omega, by omega⟩
      refine G_aload_n 0 d_cX7_slotAt_10 rfl ?_
      refine G_getf 0 2 d_cX7_slotAt_11 rfl (gk_X7 D I) (Nat.le_of_ble_eq_true rfl) w_2_162 rfl ?_
      refine G_iload_n 1 d_cX7_slotAt_14 rfl ?_
      refine G_iald 3 0 d_cX7_slotAt_15 rfl rfl (gB_in bp3017'' (by decide) (by decide)) (G_nam fun z3036 hz3036 => ?_)
      have bz3036 : gB z3036 (-2147483648) 2147483647 := gB_any z3036
      refine G_goto 20 d_cX7_slotAt_16 (by decide +kernel) ?_
      exact G_iret d_cX7_slotAt_20 rfl (Nat.le_of_ble_eq_true rfl) (Nat.le_of_ble_eq_true rfl) (Or.inr (Or.inr (⟨z3036, rfl, rfl, r3032, r3035, hz3036, bz3036, (fun R c1 c2 c3 => c3 z3036 r3032 r3035 hz3036)⟩)))
/- tr_Machine_enter: result, Machine_ending, Machine_block -/
def tr_Machine_enter (a2 : Int32) (Machine_block : Int32) (Machine_ending : Int32) (Code_blocks : Int32) (Code_first : Nat → Int32) (o1 : Int32) (o2 : Int32) (o3 : Int32) : Prop := ∀ R : (Int32) → (Int32) → (Int32) → Prop,
  (∀ (x1 : Int32), a2.toInt < 0 → tr_Machine_halt (4 : Int32) x1 → R (-1 : Int32) x1 Machine_block) →
  (∀ (x1 : Int32), 0 ≤ a2.toInt → a2.toInt < Code_blocks.toInt → x1 = Code_first a2.toNatClampNeg → gB x1 0 200 → R x1 Machine_ending a2) →
  (∀ (x1 : Int32), 0 ≤ a2.toInt → Code_blocks.toInt ≤ a2.toInt → tr_Machine_halt (4 : Int32) x1 → R (-1 : Int32) x1 Machine_block) →
  R o1 o2 o3
abbrev ky_3102_Machine_enter : gKey := (cX7_enter, 3, yX7_enter.cls, (some FieldType.int), [], yX7_enter.name, fun _ _ => True)
abbrev po_3102_Machine_enter (I : FieldType → ClassId) (q3063 : Nat) (q3064 : Nat) (q3065 : Nat) (q3066 : Nat) (q3067 : Nat) (q3068 : Nat) (q3069 : Nat) (q3070 : Nat) (q3071 : Nat) (q3072 : Nat) (q3073 : Nat) (q3074 : Nat) (q3075 : Nat) (q3076 : Nat) (q3077 : Nat) (p3078 : Int32) (p3079 : Int32) (p3080 : Int32) (p3081 : Int32) (p3082 : Int32) (p3083 : Int32) (p3084 : Int32) (p3085 : Int32) (p3086 : Int32) (p3087 : Int32) (p3088 : Int32) (f3089 : Nat → Int32) (f3090 : Nat → Int32) (f3091 : Nat → Int32) (f3092 : Nat → Int32) (f3093 : Nat → Int32) (f3094 : Nat → Int32) (f3095 : Nat → Int32) (f3096 : Nat → Int32) (f3097 : Nat → Int32) (f3098 : Nat → Int32) (f3099 : Nat → Int32) (f3100 : Nat → Int32) (f3101 : Nat → Int32) : Option Value → va_W → Prop := fun r w => ∃ (o3116 : Int32) (o3114 : Int32) (o3115 : Int32), r = some (.int o3116) ∧ w = [(q3063, .inr (12, [.ref q3065, .ref q3066, .ref q3067, .ref q3068, .int p3079, .int o3115, .int p3081, .int p3082, .int p3083, .int p3084, .int o3114])), (q3064, .inr (5, [.ref q3069, .ref q3070, .ref q3071, .ref q3072, .ref q3073, .ref q3074, .ref q3075, .ref q3076, .ref q3077, .int p3086, .int p3087, .int p3088])), (q3065, .inl (I .int, 2048, .inl f3089)), (q3066, .inl (I .int, 100, .inl f3090)), (q3067, .inl (I .int, 100, .inl f3091)), (q3068, .inl (I .int, 512, .inl f3092)), (q3069, .inl (I .int, 40, .inl f3093)), (q3070, .inl (I .int, 40, .inl f3094)), (q3071, .inl (I .int, 40, .inl f3095)), (q3072, .inl (I .int, 200, .inl f3096)), (q3073, .inl (I .int, 200, .inl f3097)), (q3074, .inl (I .int, 200, .inl f3098)), (q3075, .inl (I .int, 200, .inl f3099)), (q3076, .inl (I .int, 200, .inl f3100)), (q3077, .inl (I .int, 200, .inl f3101))] ∧ gB o3116 (-1) 200 ∧ gB o3114 (-2147483648) 2147483647 ∧ gB o3115 0 39 ∧ tr_Machine_enter p3078 p3080 p3085 p3086 f3093 o3116 o3114 o3115
set_option maxRecDepth 100000 in
set_option maxHeartbeats 4000000 in
theorem ct_3102_Machine_enter (l : Launch) (hl0 : l.stackTraces = false) (D : va_G) (I : FieldType → ClassId) (q3063 : Nat) (q3064 : Nat) (q3065 : Nat) (q3066 : Nat) (q3067 : Nat) (q3068 : Nat) (q3069 : Nat) (q3070 : Nat) (q3071 : Nat) (q3072 : Nat) (q3073 : Nat) (q3074 : Nat) (q3075 : Nat) (q3076 : Nat) (q3077 : Nat) (p3078 : Int32) (p3079 : Int32) (p3080 : Int32) (p3081 : Int32) (p3082 : Int32) (p3083 : Int32) (p3084 : Int32) (p3085 : Int32) (p3086 : Int32) (p3087 : Int32) (p3088 : Int32) (f3089 : Nat → Int32) (f3090 : Nat → Int32) (f3091 : Nat → Int32) (f3092 : Nat → Int32) (f3093 : Nat → Int32) (f3094 : Nat → Int32) (f3095 : Nat → Int32) (f3096 : Nat → Int32) (f3097 : Nat → Int32) (f3098 : Nat → Int32) (f3099 : Nat → Int32) (f3100 : Nat → Int32) (f3101 : Nat → Int32) (bp3079 : gB p3079 0 2048) (bp3080 : gB p3080 0 39) (bp3082 : gB p3082 0 512) (bp3084 : gB p3084 0 2048) (bp3086 : gB p3086 0 40) (bp3087 : gB p3087 0 200) (bp3088 : gB p3088 0 1) (bf3093 : gF f3093 0 200) (bf3096 : gF f3096 0 21) : Ct (gV D I) l yX7_enter cX7_enter 3 (some FieldType.int) 1 21 0 0 [.ref q3063, .ref q3064, .int p3078] [(q3063, .inr (12, [.ref q3065, .ref q3066, .ref q3067, .ref q3068, .int p3079, .int p3080, .int p3081, .int p3082, .int p3083, .int p3084, .int p3085])), (q3064, .inr (5, [.ref q3069, .ref q3070, .ref q3071, .ref q3072, .ref q3073, .ref q3074, .ref q3075, .ref q3076, .ref q3077, .int p3086, .int p3087, .int p3088])), (q3065, .inl (I .int, 2048, .inl f3089)), (q3066, .inl (I .int, 100, .inl f3090)), (q3067, .inl (I .int, 100, .inl f3091)), (q3068, .inl (I .int, 512, .inl f3092)), (q3069, .inl (I .int, 40, .inl f3093)), (q3070, .inl (I .int, 40, .inl f3094)), (q3071, .inl (I .int, 40, .inl f3095)), (q3072, .inl (I .int, 200, .inl f3096)), (q3073, .inl (I .int, 200, .inl f3097)), (q3074, .inl (I .int, 200, .inl f3098)), (q3075, .inl (I .int, 200, .inl f3099)), (q3076, .inl (I .int, 200, .inl f3100)), (q3077, .inl (I .int, 200, .inl f3101))] (po_3102_Machine_enter I q3063 q3064 q3065 q3066 q3067 q3068 q3069 q3070 q3071 q3072 q3073 q3074 q3075 q3076 q3077 p3078 p3079 p3080 p3081 p3082 p3083 p3084 p3085 p3086 p3087 p3088 f3089 f3090 f3091 f3092 f3093 f3094 f3095 f3096 f3097 f3098 f3099 f3100 f3101) gN := by
  refine Ct_of hl0 (by decide) (Nat.le_of_ble_eq_true rfl) ?_
  have bp3078 := gB_any p3078
  have bp3081 := gB_any p3081
  have bp3083 := gB_any p3083
  have bp3085 := gB_any p3085
  refine G_iload_n 2 d_cX7_enter_0 rfl ?_
  refine G_if_lt 12 d_cX7_enter_1 (by decide +kernel) (fun hc3103 => ?_) (fun hc3103 => ?_)
  · have r3104 : p3078.toInt < 0 := gj_lt hc3103 (show Int32.toInt 0 = 0 by decide)
    have bp3078' : gB p3078 (-2147483648) (-1) := ⟨by omega, by omega⟩
    refine G_aload_n 0 d_cX7_enter_12 rfl ?_
    refine G_iconst 4 d_cX7_enter_13 (by decide +kernel) ?_
    refine G_callV (As := [.int 4]) (wr := [(q3064, .inr (5, [.ref q3069, .ref q3070, .ref q3071, .ref q3072, .ref q3073, .ref q3074, .ref q3075, .ref q3076, .ref q3077, .int p3086, .int p3087, .int p3088])), (q3069, .inl (I .int, 40, .inl f3093)), (q3070, .inl (I .int, 40, .inl f3094)), (q3071, .inl (I .int, 40, .inl f3095)), (q3072, .inl (I .int, 200, .inl f3096)), (q3073, .inl (I .int, 200, .inl f3097)), (q3074, .inl (I .int, 200, .inl f3098)), (q3075, .inl (I .int, 200, .inl f3099)), (q3076, .inl (I .int, 200, .inl f3100)), (q3077, .inl (I .int, 200, .inl f3101))]) (gV_ok D I) (ct_2837_Machine_halt l hl0 D I q3063 q3065 q3066 q3067 q3068 4 p3079 p3080 p3081 p3082 p3083 p3084 p3085 f3089 f3090 f3091 f3092 bp3079 bp3080 bp3082 bp3084) d_cX7_enter_14 ⟨w_6_86, w_1_12, w_6_89, by decide, rfl, (Nat.le_of_ble_eq_true rfl), (Nat.le_of_ble_eq_true rfl)⟩ w_6_88 w_p_60 0 rfl rfl [0, 2, 3, 4, 5] [1, 6, 7, 8, 9, 10, 11, 12, 13, 14] rfl rfl rfl rfl (by decide) (Nat.le_of_ble_eq_true rfl) (Nat.le_of_ble_eq_true rfl) (Nat.le_of_ble_eq_true rfl) (fun r w hp => ?_) (fun _ _ _ z => z.elim)
    obtain ⟨o3105, rfl, rfl, bo3105, ht3106⟩ := hp
    change G _ _ _ _ _ _ _ (.int (-1) :: _) _ _ _
    refine G_ws (ws' := [(q3064, .inr (5, [.ref q3069, .ref q3070, .ref q3071, .ref q3072, .ref q3073, .ref q3074, .ref q3075, .ref q3076, .ref q3077, .int p3086, .int p3087, .int p3088])), (q3069, .inl (I .int, 40, .inl f3093)), (q3070, .inl (I .int, 40, .inl f3094)), (q3071, .inl (I .int, 40, .inl f3095)), (q3072, .inl (I .int, 200, .inl f3096)), (q3073, .inl (I .int, 200, .inl f3097)), (q3074, .inl (I .int, 200, .inl f3098)), (q3075, .inl (I .int, 200, .inl f3099)), (q3076, .inl (I .int, 200, .inl f3100)), (q3077, .inl (I .int, 200, .inl f3101)), (q3063, .inr (12, [.ref q3065, .ref q3066, .ref q3067, .ref q3068, .int p3079, .int p3080, .int p3081, .int p3082, .int p3083, .int p3084, .int o3105])), (q3065, .inl (I .int, 2048, .inl f3089)), (q3066, .inl (I .int, 100, .inl f3090)), (q3067, .inl (I .int, 100, .inl f3091)), (q3068, .inl (I .int, 512, .inl f3092))]) (cs' := 0) (sl' := 0) rfl rfl rfl ?_
    refine G_sub (ws' := [(q3063, .inr (12, [.ref q3065, .ref q3066, .ref q3067, .ref q3068, .int p3079, .int p3080, .int p3081, .int p3082, .int p3083, .int p3084, .int o3105])), (q3064, .inr (5, [.ref q3069, .ref q3070, .ref q3071, .ref q3072, .ref q3073, .ref q3074, .ref q3075, .ref q3076, .ref q3077, .int p3086, .int p3087, .int p3088])), (q3065, .inl (I .int, 2048, .inl f3089)), (q3066, .inl (I .int, 100, .inl f3090)), (q3067, .inl (I .int, 100, .inl f3091)), (q3068, .inl (I .int, 512, .inl f3092)), (q3069, .inl (I .int, 40, .inl f3093)), (q3070, .inl (I .int, 40, .inl f3094)), (q3071, .inl (I .int, 40, .inl f3095)), (q3072, .inl (I .int, 200, .inl f3096)), (q3073, .inl (I .int, 200, .inl f3097)), (q3074, .inl (I .int, 200, .inl f3098)), (q3075, .inl (I .int, 200, .inl f3099)), (q3076, .inl (I .int, 200, .inl f3100)), (q3077, .inl (I .int, 200, .inl f3101))]) [10, 0, 11, 12, 13, 14, 1, 2, 3, 4, 5, 6, 7, 8, 9] rfl rfl ?_
    exact G_iret d_cX7_enter_17 rfl (Nat.le_of_ble_eq_true rfl) (Nat.le_of_ble_eq_true rfl) ⟨(-1), o3105, p3080, rfl, rfl, (gB_w (gBl (show Int32.toInt (-1) = (-1) by decide)) (by decide) (by decide)), bo3105, bp3080, (fun R c1 c2 c3 => c1 o3105 r3104 ht3106)⟩
  · have r3107 : 0 ≤ p3078.toInt := gj_nlt hc3103 (show Int32.toInt 0 = 0 by decide)
    have bp3078' : gB p3078 0 2147483647 := ⟨by omega, by omega⟩
    refine G_iload_n 2 d_cX7_enter_4 rfl ?_
    refine G_aload_n 1 d_cX7_enter_5 rfl ?_
    refine G_getfN 1 9 d_cX7_enter_6 rfl (gk_X0 D I) (Nat.le_of_ble_eq_true rfl) (fun _ _ _ h => gn_w 44 rfl h) rfl ?_
    refine G_icmp_lt 18 d_cX7_enter_9 (by decide +kernel) (fun hc3108 => ?_) (fun hc3108 => ?_)
    · have r3109 : p3078.toInt < p3086.toInt := gC_lt hc3108
      have bp3078'' : gB p3078 0 39 := ⟨by omega, by omega⟩
      have bp3086' : gB p3086 1 40 := ⟨by omega, by omega⟩
      refine G_aload_n 0 d_cX7_enter_18 rfl ?_
      refine G_iload_n 2 d_cX7_enter_19 rfl ?_
      refine G_putf (ws' := [(q3063, .inr (12, [.ref q3065, .ref q3066, .ref q3067, .ref q3068, .int p3079, .int p3078, .int p3081, .int p3082, .int p3083, .int p3084, .int p3085])), (q3064, .inr (5, [.ref q3069, .ref q3070, .ref q3071, .ref q3072, .ref q3073, .ref q3074, .ref q3075, .ref q3076, .ref q3077, .int p3086, .int p3087, .int p3088])), (q3065, .inl (I .int, 2048, .inl f3089)), (q3066, .inl (I .int, 100, .inl f3090)), (q3067, .inl (I .int, 100, .inl f3091)), (q3068, .inl (I .int, 512, .inl f3092)), (q3069, .inl (I .int, 40, .inl f3093)), (q3070, .inl (I .int, 40, .inl f3094)), (q3071, .inl (I .int, 40, .inl f3095)), (q3072, .inl (I .int, 200, .inl f3096)), (q3073, .inl (I .int, 200, .inl f3097)), (q3074, .inl (I .int, 200, .inl f3098)), (q3075, .inl (I .int, 200, .inl f3099)), (q3076, .inl (I .int, 200, .inl f3100)), (q3077, .inl (I .int, 200, .inl f3101))]) 0 5 d_cX7_enter_20 rfl (gk_X7 D I) (Nat.le_of_ble_eq_true rfl) w_2_165 rfl rfl rfl (Nat.le_of_ble_eq_true rfl) rfl ?_
      refine G_aload_n 1 d_cX7_enter_23 rfl ?_
      refine G_getfN 1 0 d_cX7_enter_24 rfl (gk_X0 D I) (Nat.le_of_ble_eq_true rfl) (fun _ _ _ h => gn_w 5 rfl h) rfl ?_
      refine G_iload_n 2 d_cX7_enter_27 rfl ?_
      refine G_iald 6 0 d_cX7_enter_28 rfl rfl (gB_in bp3078'' (by decide) (by decide)) (G_nam fun z3110 hz3110 => ?_)
      have bz3110 : gB z3110 0 200 := by rw [hz3110]; exact bf3093 _
      exact G_iret d_cX7_enter_29 rfl (Nat.le_of_ble_eq_true rfl) (Nat.le_of_ble_eq_true rfl) ⟨z3110, p3085, p3078, rfl, rfl, (gB_w bz3110 (by decide) (by decide)), bp3085, bp3078'', (fun R c1 c2 c3 => c2 z3110 r3107 r3109 hz3110 bz3110)⟩
    · have r3111 : p3086.toInt ≤ p3078.toInt := gC_nlt hc3108
      refine G_aload_n 0 d_cX7_enter_12 rfl ?_
      refine G_iconst 4 d_cX7_enter_13 (by decide +kernel) ?_
      refine G_callV (As := [.int 4]) (wr := [(q3064, .inr (5, [.ref q3069, .ref q3070, .ref q3071, .ref q3072, .ref q3073, .ref q3074, .ref q3075, .ref q3076, .ref q3077, .int p3086, .int p3087, .int p3088])), (q3069, .inl (I .int, 40, .inl f3093)), (q3070, .inl (I .int, 40, .inl f3094)), (q3071, .inl (I .int, 40, .inl f3095)), (q3072, .inl (I .int, 200, .inl f3096)), (q3073, .inl (I .int, 200, .inl f3097)), (q3074, .inl (I .int, 200, .inl f3098)), (q3075, .inl (I .int, 200, .inl f3099)), (q3076, .inl (I .int, 200, .inl f3100)), (q3077, .inl (I .int, 200, .inl f3101))]) (gV_ok D I) (ct_2837_Machine_halt l hl0 D I q3063 q3065 q3066 q3067 q3068 4 p3079 p3080 p3081 p3082 p3083 p3084 p3085 f3089 f3090 f3091 f3092 bp3079 bp3080 bp3082 bp3084) d_cX7_enter_14 ⟨w_6_86, w_1_12, w_6_89, by decide, rfl, (Nat.le_of_ble_eq_true rfl), (Nat.le_of_ble_eq_true rfl)⟩ w_6_88 w_p_60 0 rfl rfl [0, 2, 3, 4, 5] [1, 6, 7, 8, 9, 10, 11, 12, 13, 14] rfl rfl rfl rfl (by decide) (Nat.le_of_ble_eq_true rfl) (Nat.le_of_ble_eq_true rfl) (Nat.le_of_ble_eq_true rfl) (fun r w hp => ?_) (fun _ _ _ z => z.elim)
      obtain ⟨o3112, rfl, rfl, bo3112, ht3113⟩ := hp
      change G _ _ _ _ _ _ _ (.int (-1) :: _) _ _ _
      refine G_ws (ws' := [(q3064, .inr (5, [.ref q3069, .ref q3070, .ref q3071, .ref q3072, .ref q3073, .ref q3074, .ref q3075, .ref q3076, .ref q3077, .int p3086, .int p3087, .int p3088])), (q3069, .inl (I .int, 40, .inl f3093)), (q3070, .inl (I .int, 40, .inl f3094)), (q3071, .inl (I .int, 40, .inl f3095)), (q3072, .inl (I .int, 200, .inl f3096)), (q3073, .inl (I .int, 200, .inl f3097)), (q3074, .inl (I .int, 200, .inl f3098)), (q3075, .inl (I .int, 200, .inl f3099)), (q3076, .inl (I .int, 200, .inl f3100)), (q3077, .inl (I .int, 200, .inl f3101)), (q3063, .inr (12, [.ref q3065, .ref q3066, .ref q3067, .ref q3068, .int p3079, .int p3080, .int p3081, .int p3082, .int p3083, .int p3084, .int o3112])), (q3065, .inl (I .int, 2048, .inl f3089)), (q3066, .inl (I .int, 100, .inl f3090)), (q3067, .inl (I .int, 100, .inl f3091)), (q3068, .inl (I .int, 512, .inl f3092))]) (cs' := 0) (sl' := 0) rfl rfl rfl ?_
      refine G_sub (ws' := [(q3063, .inr (12, [.ref q3065, .ref q3066, .ref q3067, .ref q3068, .int p3079, .int p3080, .int p3081, .int p3082, .int p3083, .int p3084, .int o3112])), (q3064, .inr (5, [.ref q3069, .ref q3070, .ref q3071, .ref q3072, .ref q3073, .ref q3074, .ref q3075, .ref q3076, .ref q3077, .int p3086, .int p3087, .int p3088])), (q3065, .inl (I .int, 2048, .inl f3089)), (q3066, .inl (I .int, 100, .inl f3090)), (q3067, .inl (I .int, 100, .inl f3091)), (q3068, .inl (I .int, 512, .inl f3092)), (q3069, .inl (I .int, 40, .inl f3093)), (q3070, .inl (I .int, 40, .inl f3094)), (q3071, .inl (I .int, 40, .inl f3095)), (q3072, .inl (I .int, 200, .inl f3096)), (q3073, .inl (I .int, 200, .inl f3097)), (q3074, .inl (I .int, 200, .inl f3098)), (q3075, .inl (I .int, 200, .inl f3099)), (q3076, .inl (I .int, 200, .inl f3100)), (q3077, .inl (I .int, 200, .inl f3101))]) [10, 0, 11, 12, 13, 14, 1, 2, 3, 4, 5, 6, 7, 8, 9] rfl rfl ?_
      exact G_iret d_cX7_enter_17 rfl (Nat.le_of_ble_eq_true rfl) (Nat.le_of_ble_eq_true rfl) ⟨(-1), o3112, p3080, rfl, rfl, (gB_w (gBl (show Int32.toInt (-1) = (-1) by decide)) (by decide) (by decide)), bo3112, bp3080, (fun R c1 c2 c3 => c3 o3112 r3107 r3111 ht3113)⟩
/- tr_Machine_calculate: result -/
def tr_Machine_calculate (a0 : Int32) (a1 : Int32) (a2 : Int32) (o1 : Int32) : Prop := ∀ R : (Int32) → Prop,
  (∀ (x1 : Int32), a0.toInt = 0 → x1 = a1 + a2 → R x1) →
  (∀ (x1 : Int32), a0.toInt = 1 → x1 = a1 - a2 → R x1) →
  (∀ (x1 : Int32), a0.toInt = 2 → x1 = a1 * a2 → R x1) →
  (∀ (x1 : Int32), a0.toInt = 3 → a2.toInt ≠ 0 → x1 = a1 / a2 → R x1) →
  (a0.toInt = 3 → a2.toInt = 0 → R (0 : Int32)) →
  (∀ (x1 : Int32), a0.toInt = 4 → a2.toInt ≠ 0 → x1 = a1 - a1 / a2 * a2 → R x1) →
  (a0.toInt = 4 → a2.toInt = 0 → R (0 : Int32)) →
  (∀ (x1 : Int32), a0.toInt = 5 → x1 = a1 &&& a2 → R x1) →
  (∀ (x1 : Int32), a0.toInt = 6 → x1 = a1 ||| a2 → R x1) →
  (∀ (x1 : Int32), a0.toInt = 7 → x1 = a1 ^^^ a2 → R x1) →
  (∀ (x1 : Int32), a0.toInt = 8 → x1 = a1 <<< (a2 &&& 31) → R x1) →
  (∀ (x1 : Int32), a0.toInt = 9 → x1 = a1 >>> (a2 &&& 31) → R x1) →
  (a0.toInt = 10 → a2.toInt ≤ a1.toInt → R (0 : Int32)) →
  (a0.toInt = 10 → a1.toInt < a2.toInt → R (1 : Int32)) →
  (a0.toInt = 11 → a2.toInt < a1.toInt → R (0 : Int32)) →
  (a0.toInt = 11 → a1.toInt ≤ a2.toInt → R (1 : Int32)) →
  (a0.toInt = 12 → a1.toInt ≠ a2.toInt → R (0 : Int32)) →
  (a0.toInt = 12 → a1.toInt = a2.toInt → R (1 : Int32)) →
  (a0.toInt = 13 → a1.toInt = a2.toInt → R (0 : Int32)) →
  (a0.toInt = 13 → a1.toInt ≠ a2.toInt → R (1 : Int32)) →
  (a0.toInt ≠ 0 → a0.toInt ≠ 1 → a0.toInt ≠ 2 → a0.toInt ≠ 3 → a0.toInt ≠ 4 → a0.toInt ≠ 5 → a0.toInt ≠ 6 → a0.toInt ≠ 7 → a0.toInt ≠ 8 → a0.toInt ≠ 9 → a0.toInt ≠ 10 → a0.toInt ≠ 11 → a0.toInt ≠ 12 → a0.toInt ≠ 13 → R (0 : Int32)) →
  R o1
abbrev ky_3156_Machine_calculate : gKey := (cX7_calculate, 3, yX7_calculate.cls, (some FieldType.int), [], yX7_calculate.name, fun _ _ => True)
abbrev po_3156_Machine_calculate (I : FieldType → ClassId) (p3153 : Int32) (p3154 : Int32) (p3155 : Int32) : Option Value → va_W → Prop := fun r w => ∃ (o3199 : Int32), r = some (.int o3199) ∧ w = [] ∧ gB o3199 (-2147483648) 2147483647 ∧ tr_Machine_calculate p3153 p3154 p3155 o3199
set_option maxRecDepth 100000 in
set_option maxHeartbeats 4000000 in
theorem ct_3156_Machine_calculate (l : Launch) (hl0 : l.stackTraces = false) (D : va_G) (I : FieldType → ClassId) (p3153 : Int32) (p3154 : Int32) (p3155 : Int32)  : Ct (gV D I) l yX7_calculate cX7_calculate 3 (some FieldType.int) 0 0 0 0 [.int p3153, .int p3154, .int p3155] [] (po_3156_Machine_calculate I p3153 p3154 p3155) gN := by
  refine Ct_of hl0 (by decide) (Nat.le_of_ble_eq_true rfl) ?_
  have bp3153 := gB_any p3153
  have bp3154 := gB_any p3154
  have bp3155 := gB_any p3155
  refine G_iload_n 0 d_cX7_calculate_0 rfl ?_
  by_cases hs3157 : p3153 = 0
  · have ehs3157 : p3153.toInt = 0 := gj_eq hs3157 (show Int32.toInt 0 = 0 by decide)
    have bp3153' : gB p3153 0 0 := ⟨by omega, by omega⟩
    refine G_eqi (y := 0) hs3157 ?_
    refine G_tableIn 72 d_cX7_calculate_1 (by decide) (by decide) (by first | rfl | decide) (by decide) ?_
    refine G_iload_n 1 d_cX7_calculate_72 rfl ?_
    refine G_iload_n 2 d_cX7_calculate_73 rfl ?_
    refine G_iadd d_cX7_calculate_74 (G_nam fun z3158 hz3158 => ?_)
    have bz3158 : gB z3158 (-2147483648) 2147483647 := gB_any z3158
    exact G_iret d_cX7_calculate_75 rfl (Nat.le_of_ble_eq_true rfl) (Nat.le_of_ble_eq_true rfl) ⟨z3158, rfl, rfl, bz3158, (fun R c1 c2 c3 c4 c5 c6 c7 c8 c9 c10 c11 c12 c13 c14 c15 c16 c17 c18 c19 c20 c21 => c1 z3158 ehs3157 hz3158)⟩
  by_cases hs3159 : p3153 = 1
  · have ehs3159 : p3153.toInt = 1 := gj_eq hs3159 (show Int32.toInt 1 = 1 by decide)
    have bp3153' : gB p3153 1 1 := ⟨by omega, by omega⟩
    refine G_eqi (y := 1) hs3159 ?_
    refine G_tableIn 76 d_cX7_calculate_1 (by decide) (by decide) (by first | rfl | decide) (by decide) ?_
    refine G_iload_n 1 d_cX7_calculate_76 rfl ?_
    refine G_iload_n 2 d_cX7_calculate_77 rfl ?_
    refine G_isub d_cX7_calculate_78 (G_nam fun z3160 hz3160 => ?_)
    have bz3160 : gB z3160 (-2147483648) 2147483647 := gB_any z3160
    exact G_iret d_cX7_calculate_79 rfl (Nat.le_of_ble_eq_true rfl) (Nat.le_of_ble_eq_true rfl) ⟨z3160, rfl, rfl, bz3160, (fun R c1 c2 c3 c4 c5 c6 c7 c8 c9 c10 c11 c12 c13 c14 c15 c16 c17 c18 c19 c20 c21 => c2 z3160 ehs3159 hz3160)⟩
  by_cases hs3161 : p3153 = 2
  · have ehs3161 : p3153.toInt = 2 := gj_eq hs3161 (show Int32.toInt 2 = 2 by decide)
    have bp3153' : gB p3153 2 2 := ⟨by omega, by omega⟩
    refine G_eqi (y := 2) hs3161 ?_
    refine G_tableIn 80 d_cX7_calculate_1 (by decide) (by decide) (by first | rfl | decide) (by decide) ?_
    refine G_iload_n 1 d_cX7_calculate_80 rfl ?_
    refine G_iload_n 2 d_cX7_calculate_81 rfl ?_
    refine G_imul d_cX7_calculate_82 (G_nam fun z3162 hz3162 => ?_)
    have bz3162 : gB z3162 (-2147483648) 2147483647 := gB_any z3162
    exact G_iret d_cX7_calculate_83 rfl (Nat.le_of_ble_eq_true rfl) (Nat.le_of_ble_eq_true rfl) ⟨z3162, rfl, rfl, bz3162, (fun R c1 c2 c3 c4 c5 c6 c7 c8 c9 c10 c11 c12 c13 c14 c15 c16 c17 c18 c19 c20 c21 => c3 z3162 ehs3161 hz3162)⟩
  by_cases hs3163 : p3153 = 3
  · have ehs3163 : p3153.toInt = 3 := gj_eq hs3163 (show Int32.toInt 3 = 3 by decide)
    have bp3153' : gB p3153 3 3 := ⟨by omega, by omega⟩
    refine G_eqi (y := 3) hs3163 ?_
    refine G_tableIn 84 d_cX7_calculate_1 (by decide) (by decide) (by first | rfl | decide) (by decide) ?_
    refine G_iload_n 2 d_cX7_calculate_84 rfl ?_
    refine G_if_ne 92 d_cX7_calculate_85 (by decide +kernel) (fun hc3164 => ?_) (fun hc3164 => ?_)
    · have r3165 : p3155.toInt ≠ 0 := gj_neq hc3164 (show Int32.toInt 0 = 0 by decide)
      refine G_iload_n 1 d_cX7_calculate_92 rfl ?_
      refine G_iload_n 2 d_cX7_calculate_93 rfl ?_
      refine G_idiv d_cX7_calculate_94 hc3164 (G_nam fun z3166 hz3166 => ?_)
      have bz3166 : gB z3166 (-2147483648) 2147483647 := gB_any z3166
      exact G_iret d_cX7_calculate_95 rfl (Nat.le_of_ble_eq_true rfl) (Nat.le_of_ble_eq_true rfl) ⟨z3166, rfl, rfl, bz3166, (fun R c1 c2 c3 c4 c5 c6 c7 c8 c9 c10 c11 c12 c13 c14 c15 c16 c17 c18 c19 c20 c21 => c4 z3166 ehs3163 r3165 hz3166)⟩
    · have r3167 : p3155.toInt = 0 := gj_eq hc3164 (show Int32.toInt 0 = 0 by decide)
      have bp3155' : gB p3155 0 0 := ⟨by omega, by omega⟩
      refine G_iconst 0 d_cX7_calculate_88 (by decide +kernel) ?_
      refine G_goto 95 d_cX7_calculate_89 (by decide +kernel) ?_
      exact G_iret d_cX7_calculate_95 rfl (Nat.le_of_ble_eq_true rfl) (Nat.le_of_ble_eq_true rfl) ⟨0, rfl, rfl, (gB_w (gBl (show Int32.toInt 0 = 0 by decide)) (by decide) (by decide)), (fun R c1 c2 c3 c4 c5 c6 c7 c8 c9 c10 c11 c12 c13 c14 c15 c16 c17 c18 c19 c20 c21 => c5 ehs3163 r3167)⟩
  by_cases hs3168 : p3153 = 4
  · have ehs3168 : p3153.toInt = 4 := gj_eq hs3168 (show Int32.toInt 4 = 4 by decide)
    have bp3153' : gB p3153 4 4 := ⟨by omega, by omega⟩
    refine G_eqi (y := 4) hs3168 ?_
    refine G_tableIn 96 d_cX7_calculate_1 (by decide) (by decide) (by first | rfl | decide) (by decide) ?_
    refine G_iload_n 2 d_cX7_calculate_96 rfl ?_
    refine G_if_ne 104 d_cX7_calculate_97 (by decide +kernel) (fun hc3169 => ?_) (fun hc3169 => ?_)
    · have r3170 : p3155.toInt ≠ 0 := gj_neq hc3169 (show Int32.toInt 0 = 0 by decide)
      refine G_iload_n 1 d_cX7_calculate_104 rfl ?_
      refine G_iload_n 2 d_cX7_calculate_105 rfl ?_
      refine G_irem d_cX7_calculate_106 hc3169 (G_nam fun z3171 hz3171 => ?_)
      have bz3171 : gB z3171 (-2147483648) 2147483647 := gB_any z3171
      exact G_iret d_cX7_calculate_107 rfl (Nat.le_of_ble_eq_true rfl) (Nat.le_of_ble_eq_true rfl) ⟨z3171, rfl, rfl, bz3171, (fun R c1 c2 c3 c4 c5 c6 c7 c8 c9 c10 c11 c12 c13 c14 c15 c16 c17 c18 c19 c20 c21 => c6 z3171 ehs3168 r3170 hz3171)⟩
    · have r3172 : p3155.toInt = 0 := gj_eq hc3169 (show Int32.toInt 0 = 0 by decide)
      have bp3155' : gB p3155 0 0 := ⟨by omega, by omega⟩
      refine G_iconst 0 d_cX7_calculate_100 (by decide +kernel) ?_
      refine G_goto 107 d_cX7_calculate_101 (by decide +kernel) ?_
      exact G_iret d_cX7_calculate_107 rfl (Nat.le_of_ble_eq_true rfl) (Nat.le_of_ble_eq_true rfl) ⟨0, rfl, rfl, (gB_w (gBl (show Int32.toInt 0 = 0 by decide)) (by decide) (by decide)), (fun R c1 c2 c3 c4 c5 c6 c7 c8 c9 c10 c11 c12 c13 c14 c15 c16 c17 c18 c19 c20 c21 => c7 ehs3168 r3172)⟩
  by_cases hs3173 : p3153 = 5
  · have ehs3173 : p3153.toInt = 5 := gj_eq hs3173 (show Int32.toInt 5 = 5 by decide)
    have bp3153' : gB p3153 5 5 := ⟨by omega, by omega⟩
    refine G_eqi (y := 5) hs3173 ?_
    refine G_tableIn 108 d_cX7_calculate_1 (by decide) (by decide) (by first | rfl | decide) (by decide) ?_
    refine G_iload_n 1 d_cX7_calculate_108 rfl ?_
    refine G_iload_n 2 d_cX7_calculate_109 rfl ?_
    refine G_iand d_cX7_calculate_110 (G_nam fun z3174 hz3174 => ?_)
    have bz3174 : gB z3174 (-2147483648) 2147483647 := gB_any z3174
    exact G_iret d_cX7_calculate_111 rfl (Nat.le_of_ble_eq_true rfl) (Nat.le_of_ble_eq_true rfl) ⟨z3174, rfl, rfl, bz3174, (fun R c1 c2 c3 c4 c5 c6 c7 c8 c9 c10 c11 c12 c13 c14 c15 c16 c17 c18 c19 c20 c21 => c8 z3174 ehs3173 hz3174)⟩
  by_cases hs3175 : p3153 = 6
  · have ehs3175 : p3153.toInt = 6 := gj_eq hs3175 (show Int32.toInt 6 = 6 by decide)
    have bp3153' : gB p3153 6 6 := ⟨by omega, by omega⟩
    refine G_eqi (y := 6) hs3175 ?_
    refine G_tableIn 112 d_cX7_calculate_1 (by decide) (by decide) (by first | rfl | decide) (by decide) ?_
    refine G_iload_n 1 d_cX7_calculate_112 rfl ?_
    refine G_iload_n 2 d_cX7_calculate_113 rfl ?_
    refine G_ior d_cX7_calculate_114 (G_nam fun z3176 hz3176 => ?_)
    have bz3176 : gB z3176 (-2147483648) 2147483647 := gB_any z3176
    exact G_iret d_cX7_calculate_115 rfl (Nat.le_of_ble_eq_true rfl) (Nat.le_of_ble_eq_true rfl) ⟨z3176, rfl, rfl, bz3176, (fun R c1 c2 c3 c4 c5 c6 c7 c8 c9 c10 c11 c12 c13 c14 c15 c16 c17 c18 c19 c20 c21 => c9 z3176 ehs3175 hz3176)⟩
  by_cases hs3177 : p3153 = 7
  · have ehs3177 : p3153.toInt = 7 := gj_eq hs3177 (show Int32.toInt 7 = 7 by decide)
    have bp3153' : gB p3153 7 7 := ⟨by omega, by omega⟩
    refine G_eqi (y := 7) hs3177 ?_
    refine G_tableIn 116 d_cX7_calculate_1 (by decide) (by decide) (by first | rfl | decide) (by decide) ?_
    refine G_iload_n 1 d_cX7_calculate_116 rfl ?_
    refine G_iload_n 2 d_cX7_calculate_117 rfl ?_
    refine G_ixor d_cX7_calculate_118 (G_nam fun z3178 hz3178 => ?_)
    have bz3178 : gB z3178 (-2147483648) 2147483647 := gB_any z3178
    exact G_iret d_cX7_calculate_119 rfl (Nat.le_of_ble_eq_true rfl) (Nat.le_of_ble_eq_true rfl) ⟨z3178, rfl, rfl, bz3178, (fun R c1 c2 c3 c4 c5 c6 c7 c8 c9 c10 c11 c12 c13 c14 c15 c16 c17 c18 c19 c20 c21 => c10 z3178 ehs3177 hz3178)⟩
  by_cases hs3179 : p3153 = 8
  · have ehs3179 : p3153.toInt = 8 := gj_eq hs3179 (show Int32.toInt 8 = 8 by decide)
    have bp3153' : gB p3153 8 8 := ⟨by omega, by omega⟩
    refine G_eqi (y := 8) hs3179 ?_
    refine G_tableIn 120 d_cX7_calculate_1 (by decide) (by decide) (by first | rfl | decide) (by decide) ?_
    refine G_iload_n 1 d_cX7_calculate_120 rfl ?_
    refine G_iload_n 2 d_cX7_calculate_121 rfl ?_
    refine G_ishl d_cX7_calculate_122 (G_nam fun z3180 hz3180 => ?_)
    have bz3180 : gB z3180 (-2147483648) 2147483647 := gB_any z3180
    exact G_iret d_cX7_calculate_123 rfl (Nat.le_of_ble_eq_true rfl) (Nat.le_of_ble_eq_true rfl) ⟨z3180, rfl, rfl, bz3180, (fun R c1 c2 c3 c4 c5 c6 c7 c8 c9 c10 c11 c12 c13 c14 c15 c16 c17 c18 c19 c20 c21 => c11 z3180 ehs3179 hz3180)⟩
  by_cases hs3181 : p3153 = 9
  · have ehs3181 : p3153.toInt = 9 := gj_eq hs3181 (show Int32.toInt 9 = 9 by decide)
    have bp3153' : gB p3153 9 9 := ⟨by omega, by omega⟩
    refine G_eqi (y := 9) hs3181 ?_
    refine G_tableIn 124 d_cX7_calculate_1 (by decide) (by decide) (by first | rfl | decide) (by decide) ?_
    refine G_iload_n 1 d_cX7_calculate_124 rfl ?_
    refine G_iload_n 2 d_cX7_calculate_125 rfl ?_
    refine G_ishr d_cX7_calculate_126 (G_nam fun z3182 hz3182 => ?_)
    have bz3182 : gB z3182 (-2147483648) 2147483647 := gB_any z3182
    exact G_iret d_cX7_calculate_127 rfl (Nat.le_of_ble_eq_true rfl) (Nat.le_of_ble_eq_true rfl) ⟨z3182, rfl, rfl, bz3182, (fun R c1 c2 c3 c4 c5 c6 c7 c8 c9 c10 c11 c12 c13 c14 c15 c16 c17 c18 c19 c20 c21 => c12 z3182 ehs3181 hz3182)⟩
  by_cases hs3183 : p3153 = 10
  · have ehs3183 : p3153.toInt = 10 := gj_eq hs3183 (show Int32.toInt 10 = 10 by decide)
    have bp3153' : gB p3153 10 10 := ⟨by omega, by omega⟩
    refine G_eqi (y := 10) hs3183 ?_
    refine G_tableIn 128 d_cX7_calculate_1 (by decide) (by decide) (by first | rfl | decide) (by decide) ?_
    refine G_iload_n 1 d_cX7_calculate_128 rfl ?_
    refine G_iload_n 2 d_cX7_calculate_129 rfl ?_
    refine G_icmp_ge 137 d_cX7_calculate_130 (by decide +kernel) (fun hc3184 => ?_) (fun hc3184 => ?_)
    · have r3185 : p3155.toInt ≤ p3154.toInt := gC_le hc3184
      refine G_iconst 0 d_cX7_calculate_137 (by decide +kernel) ?_
      exact G_iret d_cX7_calculate_138 rfl (Nat.le_of_ble_eq_true rfl) (Nat.le_of_ble_eq_true rfl) ⟨0, rfl, rfl, (gB_w (gBl (show Int32.toInt 0 = 0 by decide)) (by decide) (by decide)), (fun R c1 c2 c3 c4 c5 c6 c7 c8 c9 c10 c11 c12 c13 c14 c15 c16 c17 c18 c19 c20 c21 => c13 ehs3183 r3185)⟩
    · have r3186 : p3154.toInt < p3155.toInt := gC_nle hc3184
      have bp3154' : gB p3154 (-2147483648) 2147483646 := ⟨by omega, by omega⟩
      have bp3155' : gB p3155 (-2147483647) 2147483647 := ⟨by omega, by omega⟩
      refine G_iconst 1 d_cX7_calculate_133 (by decide +kernel) ?_
      refine G_goto 138 d_cX7_calculate_134 (by decide +kernel) ?_
      exact G_iret d_cX7_calculate_138 rfl (Nat.le_of_ble_eq_true rfl) (Nat.le_of_ble_eq_true rfl) ⟨1, rfl, rfl, (gB_w (gBl (show Int32.toInt 1 = 1 by decide)) (by decide) (by decide)), (fun R c1 c2 c3 c4 c5 c6 c7 c8 c9 c10 c11 c12 c13 c14 c15 c16 c17 c18 c19 c20 c21 => c14 ehs3183 r3186)⟩
  by_cases hs3187 : p3153 = 11
  · have ehs3187 : p3153.toInt = 11 := gj_eq hs3187 (show Int32.toInt 11 = 11 by decide)
    have bp3153' : gB p3153 11 11 := ⟨by omega, by omega⟩
    refine G_eqi (y := 11) hs3187 ?_
    refine G_tableIn 139 d_cX7_calculate_1 (by decide) (by decide) (by first | rfl | decide) (by decide) ?_
    refine G_iload_n 1 d_cX7_calculate_139 rfl ?_
    refine G_iload_n 2 d_cX7_calculate_140 rfl ?_
    refine G_icmp_gt 148 d_cX7_calculate_141 (by decide +kernel) (fun hc3188 => ?_) (fun hc3188 => ?_)
    · have r3189 : p3155.toInt < p3154.toInt := gC_lt hc3188
      have bp3155' : gB p3155 (-2147483648) 2147483646 := ⟨by omega, by omega⟩
      have bp3154' : gB p3154 (-2147483647) 2147483647 := ⟨by omega, by omega⟩
      refine G_iconst 0 d_cX7_calculate_148 (by decide +kernel) ?_
      exact G_iret d_cX7_calculate_149 rfl (Nat.le_of_ble_eq_true rfl) (Nat.le_of_ble_eq_true rfl) ⟨0, rfl, rfl, (gB_w (gBl (show Int32.toInt 0 = 0 by decide)) (by decide) (by decide)), (fun R c1 c2 c3 c4 c5 c6 c7 c8 c9 c10 c11 c12 c13 c14 c15 c16 c17 c18 c19 c20 c21 => c15 ehs3187 r3189)⟩
    · have r3190 : p3154.toInt ≤ p3155.toInt := gC_nlt hc3188
      refine G_iconst 1 d_cX7_calculate_144 (by decide +kernel) ?_
      refine G_goto 149 d_cX7_calculate_145 (by decide +kernel) ?_
      exact G_iret d_cX7_calculate_149 rfl (Nat.le_of_ble_eq_true rfl) (Nat.le_of_ble_eq_true rfl) ⟨1, rfl, rfl, (gB_w (gBl (show Int32.toInt 1 = 1 by decide)) (by decide) (by decide)), (fun R c1 c2 c3 c4 c5 c6 c7 c8 c9 c10 c11 c12 c13 c14 c15 c16 c17 c18 c19 c20 c21 => c16 ehs3187 r3190)⟩
  by_cases hs3191 : p3153 = 12
  · have ehs3191 : p3153.toInt = 12 := gj_eq hs3191 (show Int32.toInt 12 = 12 by decide)
    have bp3153' : gB p3153 12 12 := ⟨by omega, by omega⟩
    refine G_eqi (y := 12) hs3191 ?_
    refine G_tableIn 150 d_cX7_calculate_1 (by decide) (by decide) (by first | rfl | decide) (by decide) ?_
    refine G_iload_n 1 d_cX7_calculate_150 rfl ?_
    refine G_iload_n 2 d_cX7_calculate_151 rfl ?_
    refine G_icmp_ne 159 d_cX7_calculate_152 (by decide +kernel) (fun hc3192 => ?_) (fun hc3192 => ?_)
    · have r3193 : p3154.toInt ≠ p3155.toInt := gC_ne hc3192
      refine G_iconst 0 d_cX7_calculate_159 (by decide +kernel) ?_
      exact G_iret d_cX7_calculate_160 rfl (Nat.le_of_ble_eq_true rfl) (Nat.le_of_ble_eq_true rfl) ⟨0, rfl, rfl, (gB_w (gBl (show Int32.toInt 0 = 0 by decide)) (by decide) (by decide)), (fun R c1 c2 c3 c4 c5 c6 c7 c8 c9 c10 c11 c12 c13 c14 c15 c16 c17 c18 c19 c20 c21 => c17 ehs3191 r3193)⟩
    · have r3194 : p3154.toInt = p3155.toInt := gC_eq hc3192
      refine G_iconst 1 d_cX7_calculate_155 (by decide +kernel) ?_
      refine G_goto 160 d_cX7_calculate_156 (by decide +kernel) ?_
      exact G_iret d_cX7_calculate_160 rfl (Nat.le_of_ble_eq_true rfl) (Nat.le_of_ble_eq_true rfl) ⟨1, rfl, rfl, (gB_w (gBl (show Int32.toInt 1 = 1 by decide)) (by decide) (by decide)), (fun R c1 c2 c3 c4 c5 c6 c7 c8 c9 c10 c11 c12 c13 c14 c15 c16 c17 c18 c19 c20 c21 => c18 ehs3191 r3194)⟩
  by_cases hs3195 : p3153 = 13
  · have ehs3195 : p3153.toInt = 13 := gj_eq hs3195 (show Int32.toInt 13 = 13 by decide)
    have bp3153' : gB p3153 13 13 := ⟨by omega, by omega⟩
    refine G_eqi (y := 13) hs3195 ?_
    refine G_tableIn 161 d_cX7_calculate_1 (by decide) (by decide) (by first | rfl | decide) (by decide) ?_
    refine G_iload_n 1 d_cX7_calculate_161 rfl ?_
    refine G_iload_n 2 d_cX7_calculate_162 rfl ?_
    refine G_icmp_eq 170 d_cX7_calculate_163 (by decide +kernel) (fun hc3196 => ?_) (fun hc3196 => ?_)
    · have r3197 : p3154.toInt = p3155.toInt := gC_eq hc3196
      refine G_iconst 0 d_cX7_calculate_170 (by decide +kernel) ?_
      exact G_iret d_cX7_calculate_171 rfl (Nat.le_of_ble_eq_true rfl) (Nat.le_of_ble_eq_true rfl) ⟨0, rfl, rfl, (gB_w (gBl (show Int32.toInt 0 = 0 by decide)) (by decide) (by decide)), (fun R c1 c2 c3 c4 c5 c6 c7 c8 c9 c10 c11 c12 c13 c14 c15 c16 c17 c18 c19 c20 c21 => c19 ehs3195 r3197)⟩
    · have r3198 : p3154.toInt ≠ p3155.toInt := gC_ne hc3196
      refine G_iconst 1 d_cX7_calculate_166 (by decide +kernel) ?_
      refine G_goto 171 d_cX7_calculate_167 (by decide +kernel) ?_
      exact G_iret d_cX7_calculate_171 rfl (Nat.le_of_ble_eq_true rfl) (Nat.le_of_ble_eq_true rfl) ⟨1, rfl, rfl, (gB_w (gBl (show Int32.toInt 1 = 1 by decide)) (by decide) (by decide)), (fun R c1 c2 c3 c4 c5 c6 c7 c8 c9 c10 c11 c12 c13 c14 c15 c16 c17 c18 c19 c20 c21 => c20 ehs3195 r3198)⟩
  have ehs3157 := lv_neT hs3157 (show Int32.toInt 0 = 0 by decide)
  have ehs3159 := lv_neT hs3159 (show Int32.toInt 1 = 1 by decide)
  have ehs3161 := lv_neT hs3161 (show Int32.toInt 2 = 2 by decide)
  have ehs3163 := lv_neT hs3163 (show Int32.toInt 3 = 3 by decide)
  have ehs3168 := lv_neT hs3168 (show Int32.toInt 4 = 4 by decide)
  have ehs3173 := lv_neT hs3173 (show Int32.toInt 5 = 5 by decide)
  have ehs3175 := lv_neT hs3175 (show Int32.toInt 6 = 6 by decide)
  have ehs3177 := lv_neT hs3177 (show Int32.toInt 7 = 7 by decide)
  have ehs3179 := lv_neT hs3179 (show Int32.toInt 8 = 8 by decide)
  have ehs3181 := lv_neT hs3181 (show Int32.toInt 9 = 9 by decide)
  have ehs3183 := lv_neT hs3183 (show Int32.toInt 10 = 10 by decide)
  have ehs3187 := lv_neT hs3187 (show Int32.toInt 11 = 11 by decide)
  have ehs3191 := lv_neT hs3191 (show Int32.toInt 12 = 12 by decide)
  have ehs3195 := lv_neT hs3195 (show Int32.toInt 13 = 13 by decide)
  refine G_tableOut 172 d_cX7_calculate_1 (by omega) (by decide) ?_
  refine G_iconst 0 d_cX7_calculate_172 (by decide +kernel) ?_
  exact G_iret d_cX7_calculate_173 rfl (Nat.le_of_ble_eq_true rfl) (Nat.le_of_ble_eq_true rfl) ⟨0, rfl, rfl, (gB_w (gBl (show Int32.toInt 0 = 0 by decide)) (by decide) (by decide)), (fun R c1 c2 c3 c4 c5 c6 c7 c8 c9 c10 c11 c12 c13 c14 c15 c16 c17 c18 c19 c20 c21 => c21 ehs3157 ehs3159 ehs3161 ehs3163 ehs3168 ehs3173 ehs3175 ehs3177 ehs3179 ehs3181 ehs3183 ehs3187 ehs3191 ehs3195)⟩
/- tr_Machine_step: result, Machine_registers, Machine_taken, Machine_showCount, Machine_ending, Machine_shows, Machine_slots, Machine_block, Machine_answer -/
def tr_Machine_step (a2 : Int32) (Machine_givens : Int32) (Machine_block : Int32) (Machine_answer : Int32) (Machine_showCount : Int32) (Machine_taken : Int32) (Machine_ending : Int32) (Code_blocks : Int32) (Machine_given : Nat → Int32) (Machine_registers : Nat → Int32) (Machine_slots : Nat → Int32) (Machine_shows : Nat → Int32) (Code_first : Nat → Int32) (Code_firstGoal : Nat → Int32) (Code_secondGoal : Nat → Int32) (Code_op : Nat → Int32) (Code_set : Nat → Int32) (Code_left : Nat → Int32) (Code_leftNumber : Nat → Int32) (Code_right : Nat → Int32) (Code_rightNumber : Nat → Int32) (o1 : Int32) (o2 : Nat → Int32) (o3 : Int32) (o4 : Int32) (o5 : Int32) (o6 : Nat → Int32) (o7 : Nat → Int32) (o8 : Int32) (o9 : Int32) : Prop := ∀ R : (Int32) → (Nat → Int32) → (Int32) → (Int32) → (Int32) → (Nat → Int32) → (Nat → Int32) → (Int32) → (Int32) → Prop,
  (∀ (x1 : Int32) (x2 : Int32) (x3 : Int32) (x4 : Int32) (x5 : Nat → Int32) (x6 : Int32), x1 = Code_op a2.toNatClampNeg → gB x1 0 21 → x2 = Code_left a2.toNatClampNeg → x3 = Code_leftNumber a2.toNatClampNeg → tr_Machine_valueOf x2 x3 Machine_registers x3 → x1.toInt = 14 → x4 = Code_set a2.toNatClampNeg → tr_Machine_put x4 x3 Machine_registers x5 → x6.toInt = a2.toInt + 1 → R x6 x5 Machine_taken Machine_showCount Machine_ending Machine_shows Machine_slots Machine_block Machine_answer) →
  (∀ (x1 : Int32) (x2 : Int32) (x3 : Int32) (x4 : Int32) (x5 : Int32) (x6 : Int32) (x7 : Nat → Int32) (x8 : Int32), x1 = Code_op a2.toNatClampNeg → gB x1 0 21 → x2 = Code_left a2.toNatClampNeg → x3 = Code_leftNumber a2.toNatClampNeg → tr_Machine_valueOf x2 x3 Machine_registers x3 → x1.toInt = 15 → x4 = Code_set a2.toNatClampNeg → gB x6 0 2048 → tr_Machine_takeNext Machine_givens Machine_taken Machine_given x5 x6 → tr_Machine_put x4 x5 Machine_registers x7 → x8.toInt = a2.toInt + 1 → R x8 x7 x6 Machine_showCount Machine_ending Machine_shows Machine_slots Machine_block Machine_answer) →
  (∀ (x1 : Int32) (x2 : Int32) (x3 : Int32) (x4 : Int32) (x5 : Int32) (x6 : Nat → Int32) (x7 : Int32), x1 = Code_op a2.toNatClampNeg → gB x1 0 21 → x2 = Code_left a2.toNatClampNeg → x3 = Code_leftNumber a2.toNatClampNeg → tr_Machine_valueOf x2 x3 Machine_registers x3 → x1.toInt = 16 → gB x4 0 1 → gB x5 1 512 → tr_Machine_addShow x3 Machine_showCount Machine_shows x4 x5 x6 → x4.toInt = 0 → tr_Machine_halt (5 : Int32) x7 → R (-1 : Int32) Machine_registers Machine_taken x5 x7 x6 Machine_slots Machine_block Machine_answer) →
  (∀ (x1 : Int32) (x2 : Int32) (x3 : Int32) (x4 : Int32) (x5 : Int32) (x6 : Nat → Int32) (x7 : Int32), x1 = Code_op a2.toNatClampNeg → gB x1 0 21 → x2 = Code_left a2.toNatClampNeg → x3 = Code_leftNumber a2.toNatClampNeg → tr_Machine_valueOf x2 x3 Machine_registers x3 → x1.toInt = 16 → gB x4 0 1 → gB x5 1 512 → tr_Machine_addShow x3 Machine_showCount Machine_shows x4 x5 x6 → x4.toInt ≠ 0 → x7.toInt = a2.toInt + 1 → R x7 Machine_registers Machine_taken x5 Machine_ending x6 Machine_slots Machine_block Machine_answer) →
  (∀ (x1 : Int32) (x2 : Int32) (x3 : Int32) (x4 : Int32) (x5 : Int32) (x6 : Nat → Int32) (x7 : Int32), x1 = Code_op a2.toNatClampNeg → gB x1 0 21 → x2 = Code_left a2.toNatClampNeg → x3 = Code_leftNumber a2.toNatClampNeg → tr_Machine_valueOf x2 x3 Machine_registers x3 → x1.toInt = 17 → x4 = Code_set a2.toNatClampNeg → x5 = Code_rightNumber a2.toNatClampNeg → tr_Machine_slotAt x5 Machine_slots (0 : Int32) → tr_Machine_put x4 (0 : Int32) Machine_registers x6 → x7.toInt = a2.toInt + 1 → R x7 x6 Machine_taken Machine_showCount Machine_ending Machine_shows Machine_slots Machine_block Machine_answer) →
  (∀ (x1 : Int32) (x2 : Int32) (x3 : Int32) (x4 : Int32) (x5 : Int32) (x6 : Int32) (x7 : Nat → Int32) (x8 : Int32), x1 = Code_op a2.toNatClampNeg → gB x1 0 21 → x2 = Code_left a2.toNatClampNeg → x3 = Code_leftNumber a2.toNatClampNeg → tr_Machine_valueOf x2 x3 Machine_registers x3 → x1.toInt = 17 → x4 = Code_set a2.toNatClampNeg → x5 = Code_rightNumber a2.toNatClampNeg → tr_Machine_slotAt x5 Machine_slots x6 → tr_Machine_put x4 x6 Machine_registers x7 → x8.toInt = a2.toInt + 1 → R x8 x7 Machine_taken Machine_showCount Machine_ending Machine_shows Machine_slots Machine_block Machine_answer) →
  (∀ (x1 : Int32) (x2 : Int32) (x3 : Int32) (x4 : Int32) (x5 : Nat → Int32) (x6 : Int32), x1 = Code_op a2.toNatClampNeg → gB x1 0 21 → x2 = Code_left a2.toNatClampNeg → x3 = Code_leftNumber a2.toNatClampNeg → tr_Machine_valueOf x2 x3 Machine_registers x3 → x1.toInt = 18 → x4 = Code_rightNumber a2.toNatClampNeg → tr_Machine_put x4 x3 Machine_slots x5 → x6.toInt = a2.toInt + 1 → R x6 Machine_registers Machine_taken Machine_showCount Machine_ending Machine_shows x5 Machine_block Machine_answer) →
  (∀ (x1 : Int32) (x2 : Int32) (x3 : Int32) (x4 : Int32) (x5 : Int32) (x6 : Int32) (x7 : Int32), x1 = Code_op a2.toNatClampNeg → gB x1 0 21 → x2 = Code_left a2.toNatClampNeg → x3 = Code_leftNumber a2.toNatClampNeg → tr_Machine_valueOf x2 x3 Machine_registers x3 → x1.toInt = 19 → x4 = Code_firstGoal Machine_block.toNatClampNeg → gB x5 (-1) 200 → gB x7 0 39 → tr_Machine_enter x4 Machine_block Machine_ending Code_blocks Code_first x5 x6 x7 → R x5 Machine_registers Machine_taken Machine_showCount x6 Machine_shows Machine_slots x7 Machine_answer) →
  (∀ (x1 : Int32) (x2 : Int32) (x3 : Int32) (x4 : Int32) (x5 : Int32) (x6 : Int32) (x7 : Int32), x1 = Code_op a2.toNatClampNeg → gB x1 0 21 → x2 = Code_left a2.toNatClampNeg → x3 = Code_leftNumber a2.toNatClampNeg → tr_Machine_valueOf x2 x3 Machine_registers x3 → x1.toInt = 20 → x3.toInt = 0 → x4 = Code_secondGoal Machine_block.toNatClampNeg → gB x5 (-1) 200 → gB x7 0 39 → tr_Machine_enter x4 Machine_block Machine_ending Code_blocks Code_first x5 x6 x7 → R x5 Machine_registers Machine_taken Machine_showCount x6 Machine_shows Machine_slots x7 Machine_answer) →
  (∀ (x1 : Int32) (x2 : Int32) (x3 : Int32) (x4 : Int32) (x5 : Int32) (x6 : Int32) (x7 : Int32), x1 = Code_op a2.toNatClampNeg → gB x1 0 21 → x2 = Code_left a2.toNatClampNeg → x3 = Code_leftNumber a2.toNatClampNeg → tr_Machine_valueOf x2 x3 Machine_registers x3 → x1.toInt = 20 → x3.toInt ≠ 0 → x4 = Code_firstGoal Machine_block.toNatClampNeg → gB x5 (-1) 200 → gB x7 0 39 → tr_Machine_enter x4 Machine_block Machine_ending Code_blocks Code_first x5 x6 x7 → R x5 Machine_registers Machine_taken Machine_showCount x6 Machine_shows Machine_slots x7 Machine_answer) →
  (∀ (x1 : Int32) (x2 : Int32) (x3 : Int32) (x4 : Int32), x1 = Code_op a2.toNatClampNeg → gB x1 0 21 → x2 = Code_left a2.toNatClampNeg → x3 = Code_leftNumber a2.toNatClampNeg → tr_Machine_valueOf x2 x3 Machine_registers x3 → x1.toInt = 21 → tr_Machine_halt (0 : Int32) x4 → R (-1 : Int32) Machine_registers Machine_taken Machine_showCount x4 Machine_shows Machine_slots Machine_block x3) →
  (∀ (x1 : Int32) (x2 : Int32) (x3 : Int32) (x4 : Int32) (x5 : Int32) (x6 : Int32) (x7 : Int32) (x8 : Nat → Int32) (x9 : Int32), x1 = Code_op a2.toNatClampNeg → gB x1 0 21 → x2 = Code_left a2.toNatClampNeg → x3 = Code_leftNumber a2.toNatClampNeg → tr_Machine_valueOf x2 x3 Machine_registers x3 → x1.toInt ≠ 14 → x1.toInt ≠ 15 → x1.toInt ≠ 16 → x1.toInt ≠ 17 → x1.toInt ≠ 18 → x1.toInt ≠ 19 → x1.toInt ≠ 20 → x1.toInt ≠ 21 → x4 = Code_right a2.toNatClampNeg → x5 = Code_rightNumber a2.toNatClampNeg → tr_Machine_valueOf x4 x5 Machine_registers x5 → x5.toInt ≠ 0 → x6 = Code_set a2.toNatClampNeg → tr_Machine_calculate x1 x3 x5 x7 → tr_Machine_put x6 x7 Machine_registers x8 → x9.toInt = a2.toInt + 1 → R x9 x8 Machine_taken Machine_showCount Machine_ending Machine_shows Machine_slots Machine_block Machine_answer) →
  (∀ (x1 : Int32) (x2 : Int32) (x3 : Int32) (x4 : Int32) (x5 : Int32) (x6 : Int32), x1 = Code_op a2.toNatClampNeg → gB x1 0 21 → x2 = Code_left a2.toNatClampNeg → x3 = Code_leftNumber a2.toNatClampNeg → tr_Machine_valueOf x2 x3 Machine_registers x3 → x1.toInt ≠ 14 → x1.toInt ≠ 15 → x1.toInt ≠ 16 → x1.toInt ≠ 17 → x1.toInt ≠ 18 → x1.toInt ≠ 19 → x1.toInt ≠ 20 → x1.toInt ≠ 21 → x4 = Code_right a2.toNatClampNeg → x5 = Code_rightNumber a2.toNatClampNeg → tr_Machine_valueOf x4 x5 Machine_registers x5 → x5.toInt = 0 → x1.toInt = 3 → tr_Machine_halt (1 : Int32) x6 → R (-1 : Int32) Machine_registers Machine_taken Machine_showCount x6 Machine_shows Machine_slots Machine_block Machine_answer) →
  (∀ (x1 : Int32) (x2 : Int32) (x3 : Int32) (x4 : Int32) (x5 : Int32) (x6 : Int32) (x7 : Int32) (x8 : Nat → Int32) (x9 : Int32), x1 = Code_op a2.toNatClampNeg → gB x1 0 21 → x2 = Code_left a2.toNatClampNeg → x3 = Code_leftNumber a2.toNatClampNeg → tr_Machine_valueOf x2 x3 Machine_registers x3 → x1.toInt ≠ 14 → x1.toInt ≠ 15 → x1.toInt ≠ 16 → x1.toInt ≠ 17 → x1.toInt ≠ 18 → x1.toInt ≠ 19 → x1.toInt ≠ 20 → x1.toInt ≠ 21 → x4 = Code_right a2.toNatClampNeg → x5 = Code_rightNumber a2.toNatClampNeg → tr_Machine_valueOf x4 x5 Machine_registers x5 → x5.toInt = 0 → x1.toInt ≠ 3 → x1.toInt ≠ 4 → x6 = Code_set a2.toNatClampNeg → tr_Machine_calculate x1 x3 x5 x7 → tr_Machine_put x6 x7 Machine_registers x8 → x9.toInt = a2.toInt + 1 → R x9 x8 Machine_taken Machine_showCount Machine_ending Machine_shows Machine_slots Machine_block Machine_answer) →
  (∀ (x1 : Int32) (x2 : Int32) (x3 : Int32) (x4 : Int32) (x5 : Int32) (x6 : Int32), x1 = Code_op a2.toNatClampNeg → gB x1 0 21 → x2 = Code_left a2.toNatClampNeg → x3 = Code_leftNumber a2.toNatClampNeg → tr_Machine_valueOf x2 x3 Machine_registers x3 → x1.toInt ≠ 14 → x1.toInt ≠ 15 → x1.toInt ≠ 16 → x1.toInt ≠ 17 → x1.toInt ≠ 18 → x1.toInt ≠ 19 → x1.toInt ≠ 20 → x1.toInt ≠ 21 → x4 = Code_right a2.toNatClampNeg → x5 = Code_rightNumber a2.toNatClampNeg → tr_Machine_valueOf x4 x5 Machine_registers x5 → x5.toInt = 0 → x1.toInt ≠ 3 → x1.toInt = 4 → tr_Machine_halt (1 : Int32) x6 → R (-1 : Int32) Machine_registers Machine_taken Machine_showCount x6 Machine_shows Machine_slots Machine_block Machine_answer) →
  (∀ (x1 : Int32) (x2 : Int32) (x3 : Int32) (x4 : Int32) (x5 : Int32) (x6 : Int32) (x7 : Int32) (x8 : Int32) (x9 : Nat → Int32) (x10 : Int32), x1 = Code_op a2.toNatClampNeg → gB x1 0 21 → x2 = Code_left a2.toNatClampNeg → x3 = Code_leftNumber a2.toNatClampNeg → tr_Machine_valueOf x2 x3 Machine_registers x3 → x1.toInt ≠ 14 → x1.toInt ≠ 15 → x1.toInt ≠ 16 → x1.toInt ≠ 17 → x1.toInt ≠ 18 → x1.toInt ≠ 19 → x1.toInt ≠ 20 → x1.toInt ≠ 21 → x4 = Code_right a2.toNatClampNeg → x5 = Code_rightNumber a2.toNatClampNeg → tr_Machine_valueOf x4 x5 Machine_registers x6 → x6.toInt ≠ 0 → x7 = Code_set a2.toNatClampNeg → tr_Machine_calculate x1 x3 x6 x8 → tr_Machine_put x7 x8 Machine_registers x9 → x10.toInt = a2.toInt + 1 → R x10 x9 Machine_taken Machine_showCount Machine_ending Machine_shows Machine_slots Machine_block Machine_answer) →
  (∀ (x1 : Int32) (x2 : Int32) (x3 : Int32) (x4 : Int32) (x5 : Int32) (x6 : Int32) (x7 : Int32), x1 = Code_op a2.toNatClampNeg → gB x1 0 21 → x2 = Code_left a2.toNatClampNeg → x3 = Code_leftNumber a2.toNatClampNeg → tr_Machine_valueOf x2 x3 Machine_registers x3 → x1.toInt ≠ 14 → x1.toInt ≠ 15 → x1.toInt ≠ 16 → x1.toInt ≠ 17 → x1.toInt ≠ 18 → x1.toInt ≠ 19 → x1.toInt ≠ 20 → x1.toInt ≠ 21 → x4 = Code_right a2.toNatClampNeg → x5 = Code_rightNumber a2.toNatClampNeg → tr_Machine_valueOf x4 x5 Machine_registers x6 → x6.toInt = 0 → x1.toInt = 3 → tr_Machine_halt (1 : Int32) x7 → R (-1 : Int32) Machine_registers Machine_taken Machine_showCount x7 Machine_shows Machine_slots Machine_block Machine_answer) →
  (∀ (x1 : Int32) (x2 : Int32) (x3 : Int32) (x4 : Int32) (x5 : Int32) (x6 : Int32) (x7 : Int32) (x8 : Int32) (x9 : Nat → Int32) (x10 : Int32), x1 = Code_op a2.toNatClampNeg → gB x1 0 21 → x2 = Code_left a2.toNatClampNeg → x3 = Code_leftNumber a2.toNatClampNeg → tr_Machine_valueOf x2 x3 Machine_registers x3 → x1.toInt ≠ 14 → x1.toInt ≠ 15 → x1.toInt ≠ 16 → x1.toInt ≠ 17 → x1.toInt ≠ 18 → x1.toInt ≠ 19 → x1.toInt ≠ 20 → x1.toInt ≠ 21 → x4 = Code_right a2.toNatClampNeg → x5 = Code_rightNumber a2.toNatClampNeg → tr_Machine_valueOf x4 x5 Machine_registers x6 → x6.toInt = 0 → x1.toInt ≠ 3 → x1.toInt ≠ 4 → x7 = Code_set a2.toNatClampNeg → tr_Machine_calculate x1 x3 x6 x8 → tr_Machine_put x7 x8 Machine_registers x9 → x10.toInt = a2.toInt + 1 → R x10 x9 Machine_taken Machine_showCount Machine_ending Machine_shows Machine_slots Machine_block Machine_answer) →
  (∀ (x1 : Int32) (x2 : Int32) (x3 : Int32) (x4 : Int32) (x5 : Int32) (x6 : Int32) (x7 : Int32), x1 = Code_op a2.toNatClampNeg → gB x1 0 21 → x2 = Code_left a2.toNatClampNeg → x3 = Code_leftNumber a2.toNatClampNeg → tr_Machine_valueOf x2 x3 Machine_registers x3 → x1.toInt ≠ 14 → x1.toInt ≠ 15 → x1.toInt ≠ 16 → x1.toInt ≠ 17 → x1.toInt ≠ 18 → x1.toInt ≠ 19 → x1.toInt ≠ 20 → x1.toInt ≠ 21 → x4 = Code_right a2.toNatClampNeg → x5 = Code_rightNumber a2.toNatClampNeg → tr_Machine_valueOf x4 x5 Machine_registers x6 → x6.toInt = 0 → x1.toInt ≠ 3 → x1.toInt = 4 → tr_Machine_halt (1 : Int32) x7 → R (-1 : Int32) Machine_registers Machine_taken Machine_showCount x7 Machine_shows Machine_slots Machine_block Machine_answer) →
  (∀ (x1 : Int32) (x2 : Int32) (x3 : Int32) (x4 : Int32) (x5 : Int32) (x6 : Nat → Int32) (x7 : Int32), x1 = Code_op a2.toNatClampNeg → gB x1 0 21 → x2 = Code_left a2.toNatClampNeg → x3 = Code_leftNumber a2.toNatClampNeg → tr_Machine_valueOf x2 x3 Machine_registers x4 → x1.toInt = 14 → x5 = Code_set a2.toNatClampNeg → tr_Machine_put x5 x4 Machine_registers x6 → x7.toInt = a2.toInt + 1 → R x7 x6 Machine_taken Machine_showCount Machine_ending Machine_shows Machine_slots Machine_block Machine_answer) →
  (∀ (x1 : Int32) (x2 : Int32) (x3 : Int32) (x4 : Int32) (x5 : Int32) (x6 : Int32) (x7 : Int32) (x8 : Nat → Int32) (x9 : Int32), x1 = Code_op a2.toNatClampNeg → gB x1 0 21 → x2 = Code_left a2.toNatClampNeg → x3 = Code_leftNumber a2.toNatClampNeg → tr_Machine_valueOf x2 x3 Machine_registers x4 → x1.toInt = 15 → x5 = Code_set a2.toNatClampNeg → gB x7 0 2048 → tr_Machine_takeNext Machine_givens Machine_taken Machine_given x6 x7 → tr_Machine_put x5 x6 Machine_registers x8 → x9.toInt = a2.toInt + 1 → R x9 x8 x7 Machine_showCount Machine_ending Machine_shows Machine_slots Machine_block Machine_answer) →
  (∀ (x1 : Int32) (x2 : Int32) (x3 : Int32) (x4 : Int32) (x5 : Int32) (x6 : Int32) (x7 : Nat → Int32) (x8 : Int32), x1 = Code_op a2.toNatClampNeg → gB x1 0 21 → x2 = Code_left a2.toNatClampNeg → x3 = Code_leftNumber a2.toNatClampNeg → tr_Machine_valueOf x2 x3 Machine_registers x4 → x1.toInt = 16 → gB x5 0 1 → gB x6 1 512 → tr_Machine_addShow x4 Machine_showCount Machine_shows x5 x6 x7 → x5.toInt = 0 → tr_Machine_halt (5 : Int32) x8 → R (-1 : Int32) Machine_registers Machine_taken x6 x8 x7 Machine_slots Machine_block Machine_answer) →
  (∀ (x1 : Int32) (x2 : Int32) (x3 : Int32) (x4 : Int32) (x5 : Int32) (x6 : Int32) (x7 : Nat → Int32) (x8 : Int32), x1 = Code_op a2.toNatClampNeg → gB x1 0 21 → x2 = Code_left a2.toNatClampNeg → x3 = Code_leftNumber a2.toNatClampNeg → tr_Machine_valueOf x2 x3 Machine_registers x4 → x1.toInt = 16 → gB x5 0 1 → gB x6 1 512 → tr_Machine_addShow x4 Machine_showCount Machine_shows x5 x6 x7 → x5.toInt ≠ 0 → x8.toInt = a2.toInt + 1 → R x8 Machine_registers Machine_taken x6 Machine_ending x7 Machine_slots Machine_block Machine_answer) →
  (∀ (x1 : Int32) (x2 : Int32) (x3 : Int32) (x4 : Int32) (x5 : Int32) (x6 : Int32) (x7 : Nat → Int32) (x8 : Int32), x1 = Code_op a2.toNatClampNeg → gB x1 0 21 → x2 = Code_left a2.toNatClampNeg → x3 = Code_leftNumber a2.toNatClampNeg → tr_Machine_valueOf x2 x3 Machine_registers x4 → x1.toInt = 17 → x5 = Code_set a2.toNatClampNeg → x6 = Code_rightNumber a2.toNatClampNeg → tr_Machine_slotAt x6 Machine_slots (0 : Int32) → tr_Machine_put x5 (0 : Int32) Machine_registers x7 → x8.toInt = a2.toInt + 1 → R x8 x7 Machine_taken Machine_showCount Machine_ending Machine_shows Machine_slots Machine_block Machine_answer) →
  (∀ (x1 : Int32) (x2 : Int32) (x3 : Int32) (x4 : Int32) (x5 : Int32) (x6 : Int32) (x7 : Int32) (x8 : Nat → Int32) (x9 : Int32), x1 = Code_op a2.toNatClampNeg → gB x1 0 21 → x2 = Code_left a2.toNatClampNeg → x3 = Code_leftNumber a2.toNatClampNeg → tr_Machine_valueOf x2 x3 Machine_registers x4 → x1.toInt = 17 → x5 = Code_set a2.toNatClampNeg → x6 = Code_rightNumber a2.toNatClampNeg → tr_Machine_slotAt x6 Machine_slots x7 → tr_Machine_put x5 x7 Machine_registers x8 → x9.toInt = a2.toInt + 1 → R x9 x8 Machine_taken Machine_showCount Machine_ending Machine_shows Machine_slots Machine_block Machine_answer) →
  (∀ (x1 : Int32) (x2 : Int32) (x3 : Int32) (x4 : Int32) (x5 : Int32) (x6 : Nat → Int32) (x7 : Int32), x1 = Code_op a2.toNatClampNeg → gB x1 0 21 → x2 = Code_left a2.toNatClampNeg → x3 = Code_leftNumber a2.toNatClampNeg → tr_Machine_valueOf x2 x3 Machine_registers x4 → x1.toInt = 18 → x5 = Code_rightNumber a2.toNatClampNeg → tr_Machine_put x5 x4 Machine_slots x6 → x7.toInt = a2.toInt + 1 → R x7 Machine_registers Machine_taken Machine_showCount Machine_ending Machine_shows x6 Machine_block Machine_answer) →
  (∀ (x1 : Int32) (x2 : Int32) (x3 : Int32) (x4 : Int32) (x5 : Int32) (x6 : Int32) (x7 : Int32) (x8 : Int32), x1 = Code_op a2.toNatClampNeg → gB x1 0 21 → x2 = Code_left a2.toNatClampNeg → x3 = Code_leftNumber a2.toNatClampNeg → tr_Machine_valueOf x2 x3 Machine_registers x4 → x1.toInt = 19 → x5 = Code_firstGoal Machine_block.toNatClampNeg → gB x6 (-1) 200 → gB x8 0 39 → tr_Machine_enter x5 Machine_block Machine_ending Code_blocks Code_first x6 x7 x8 → R x6 Machine_registers Machine_taken Machine_showCount x7 Machine_shows Machine_slots x8 Machine_answer) →
  (∀ (x1 : Int32) (x2 : Int32) (x3 : Int32) (x4 : Int32) (x5 : Int32) (x6 : Int32) (x7 : Int32) (x8 : Int32), x1 = Code_op a2.toNatClampNeg → gB x1 0 21 → x2 = Code_left a2.toNatClampNeg → x3 = Code_leftNumber a2.toNatClampNeg → tr_Machine_valueOf x2 x3 Machine_registers x4 → x1.toInt = 20 → x4.toInt = 0 → x5 = Code_secondGoal Machine_block.toNatClampNeg → gB x6 (-1) 200 → gB x8 0 39 → tr_Machine_enter x5 Machine_block Machine_ending Code_blocks Code_first x6 x7 x8 → R x6 Machine_registers Machine_taken Machine_showCount x7 Machine_shows Machine_slots x8 Machine_answer) →
  (∀ (x1 : Int32) (x2 : Int32) (x3 : Int32) (x4 : Int32) (x5 : Int32) (x6 : Int32) (x7 : Int32) (x8 : Int32), x1 = Code_op a2.toNatClampNeg → gB x1 0 21 → x2 = Code_left a2.toNatClampNeg → x3 = Code_leftNumber a2.toNatClampNeg → tr_Machine_valueOf x2 x3 Machine_registers x4 → x1.toInt = 20 → x4.toInt ≠ 0 → x5 = Code_firstGoal Machine_block.toNatClampNeg → gB x6 (-1) 200 → gB x8 0 39 → tr_Machine_enter x5 Machine_block Machine_ending Code_blocks Code_first x6 x7 x8 → R x6 Machine_registers Machine_taken Machine_showCount x7 Machine_shows Machine_slots x8 Machine_answer) →
  (∀ (x1 : Int32) (x2 : Int32) (x3 : Int32) (x4 : Int32) (x5 : Int32), x1 = Code_op a2.toNatClampNeg → gB x1 0 21 → x2 = Code_left a2.toNatClampNeg → x3 = Code_leftNumber a2.toNatClampNeg → tr_Machine_valueOf x2 x3 Machine_registers x4 → x1.toInt = 21 → tr_Machine_halt (0 : Int32) x5 → R (-1 : Int32) Machine_registers Machine_taken Machine_showCount x5 Machine_shows Machine_slots Machine_block x4) →
  (∀ (x1 : Int32) (x2 : Int32) (x3 : Int32) (x4 : Int32) (x5 : Int32) (x6 : Int32) (x7 : Int32) (x8 : Int32) (x9 : Nat → Int32) (x10 : Int32), x1 = Code_op a2.toNatClampNeg → gB x1 0 21 → x2 = Code_left a2.toNatClampNeg → x3 = Code_leftNumber a2.toNatClampNeg → tr_Machine_valueOf x2 x3 Machine_registers x4 → x1.toInt ≠ 14 → x1.toInt ≠ 15 → x1.toInt ≠ 16 → x1.toInt ≠ 17 → x1.toInt ≠ 18 → x1.toInt ≠ 19 → x1.toInt ≠ 20 → x1.toInt ≠ 21 → x5 = Code_right a2.toNatClampNeg → x6 = Code_rightNumber a2.toNatClampNeg → tr_Machine_valueOf x5 x6 Machine_registers x6 → x6.toInt ≠ 0 → x7 = Code_set a2.toNatClampNeg → tr_Machine_calculate x1 x4 x6 x8 → tr_Machine_put x7 x8 Machine_registers x9 → x10.toInt = a2.toInt + 1 → R x10 x9 Machine_taken Machine_showCount Machine_ending Machine_shows Machine_slots Machine_block Machine_answer) →
  (∀ (x1 : Int32) (x2 : Int32) (x3 : Int32) (x4 : Int32) (x5 : Int32) (x6 : Int32) (x7 : Int32), x1 = Code_op a2.toNatClampNeg → gB x1 0 21 → x2 = Code_left a2.toNatClampNeg → x3 = Code_leftNumber a2.toNatClampNeg → tr_Machine_valueOf x2 x3 Machine_registers x4 → x1.toInt ≠ 14 → x1.toInt ≠ 15 → x1.toInt ≠ 16 → x1.toInt ≠ 17 → x1.toInt ≠ 18 → x1.toInt ≠ 19 → x1.toInt ≠ 20 → x1.toInt ≠ 21 → x5 = Code_right a2.toNatClampNeg → x6 = Code_rightNumber a2.toNatClampNeg → tr_Machine_valueOf x5 x6 Machine_registers x6 → x6.toInt = 0 → x1.toInt = 3 → tr_Machine_halt (1 : Int32) x7 → R (-1 : Int32) Machine_registers Machine_taken Machine_showCount x7 Machine_shows Machine_slots Machine_block Machine_answer) →
  (∀ (x1 : Int32) (x2 : Int32) (x3 : Int32) (x4 : Int32) (x5 : Int32) (x6 : Int32) (x7 : Int32) (x8 : Int32) (x9 : Nat → Int32) (x10 : Int32), x1 = Code_op a2.toNatClampNeg → gB x1 0 21 → x2 = Code_left a2.toNatClampNeg → x3 = Code_leftNumber a2.toNatClampNeg → tr_Machine_valueOf x2 x3 Machine_registers x4 → x1.toInt ≠ 14 → x1.toInt ≠ 15 → x1.toInt ≠ 16 → x1.toInt ≠ 17 → x1.toInt ≠ 18 → x1.toInt ≠ 19 → x1.toInt ≠ 20 → x1.toInt ≠ 21 → x5 = Code_right a2.toNatClampNeg → x6 = Code_rightNumber a2.toNatClampNeg → tr_Machine_valueOf x5 x6 Machine_registers x6 → x6.toInt = 0 → x1.toInt ≠ 3 → x1.toInt ≠ 4 → x7 = Code_set a2.toNatClampNeg → tr_Machine_calculate x1 x4 x6 x8 → tr_Machine_put x7 x8 Machine_registers x9 → x10.toInt = a2.toInt + 1 → R x10 x9 Machine_taken Machine_showCount Machine_ending Machine_shows Machine_slots Machine_block Machine_answer) →
  (∀ (x1 : Int32) (x2 : Int32) (x3 : Int32) (x4 : Int32) (x5 : Int32) (x6 : Int32) (x7 : Int32), x1 = Code_op a2.toNatClampNeg → gB x1 0 21 → x2 = Code_left a2.toNatClampNeg → x3 = Code_leftNumber a2.toNatClampNeg → tr_Machine_valueOf x2 x3 Machine_registers x4 → x1.toInt ≠ 14 → x1.toInt ≠ 15 → x1.toInt ≠ 16 → x1.toInt ≠ 17 → x1.toInt ≠ 18 → x1.toInt ≠ 19 → x1.toInt ≠ 20 → x1.toInt ≠ 21 → x5 = Code_right a2.toNatClampNeg → x6 = Code_rightNumber a2.toNatClampNeg → tr_Machine_valueOf x5 x6 Machine_registers x6 → x6.toInt = 0 → x1.toInt ≠ 3 → x1.toInt = 4 → tr_Machine_halt (1 : Int32) x7 → R (-1 : Int32) Machine_registers Machine_taken Machine_showCount x7 Machine_shows Machine_slots Machine_block Machine_answer) →
  (∀ (x1 : Int32) (x2 : Int32) (x3 : Int32) (x4 : Int32) (x5 : Int32) (x6 : Int32) (x7 : Int32) (x8 : Int32) (x9 : Int32) (x10 : Nat → Int32) (x11 : Int32), x1 = Code_op a2.toNatClampNeg → gB x1 0 21 → x2 = Code_left a2.toNatClampNeg → x3 = Code_leftNumber a2.toNatClampNeg → tr_Machine_valueOf x2 x3 Machine_registers x4 → x1.toInt ≠ 14 → x1.toInt ≠ 15 → x1.toInt ≠ 16 → x1.toInt ≠ 17 → x1.toInt ≠ 18 → x1.toInt ≠ 19 → x1.toInt ≠ 20 → x1.toInt ≠ 21 → x5 = Code_right a2.toNatClampNeg → x6 = Code_rightNumber a2.toNatClampNeg → tr_Machine_valueOf x5 x6 Machine_registers x7 → x7.toInt ≠ 0 → x8 = Code_set a2.toNatClampNeg → tr_Machine_calculate x1 x4 x7 x9 → tr_Machine_put x8 x9 Machine_registers x10 → x11.toInt = a2.toInt + 1 → R x11 x10 Machine_taken Machine_showCount Machine_ending Machine_shows Machine_slots Machine_block Machine_answer) →
  (∀ (x1 : Int32) (x2 : Int32) (x3 : Int32) (x4 : Int32) (x5 : Int32) (x6 : Int32) (x7 : Int32) (x8 : Int32), x1 = Code_op a2.toNatClampNeg → gB x1 0 21 → x2 = Code_left a2.toNatClampNeg → x3 = Code_leftNumber a2.toNatClampNeg → tr_Machine_valueOf x2 x3 Machine_registers x4 → x1.toInt ≠ 14 → x1.toInt ≠ 15 → x1.toInt ≠ 16 → x1.toInt ≠ 17 → x1.toInt ≠ 18 → x1.toInt ≠ 19 → x1.toInt ≠ 20 → x1.toInt ≠ 21 → x5 = Code_right a2.toNatClampNeg → x6 = Code_rightNumber a2.toNatClampNeg → tr_Machine_valueOf x5 x6 Machine_registers x7 → x7.toInt = 0 → x1.toInt = 3 → tr_Machine_halt (1 : Int32) x8 → R (-1 : Int32) Machine_registers Machine_taken Machine_showCount x8 Machine_shows Machine_slots Machine_block Machine_answer) →
  (∀ (x1 : Int32) (x2 : Int32) (x3 : Int32) (x4 : Int32) (x5 : Int32) (x6 : Int32) (x7 : Int32) (x8 : Int32) (x9 : Int32) (x10 : Nat → Int32) (x11 : Int32), x1 = Code_op a2.toNatClampNeg → gB x1 0 21 → x2 = Code_left a2.toNatClampNeg → x3 = Code_leftNumber a2.toNatClampNeg → tr_Machine_valueOf x2 x3 Machine_registers x4 → x1.toInt ≠ 14 → x1.toInt ≠ 15 → x1.toInt ≠ 16 → x1.toInt ≠ 17 → x1.toInt ≠ 18 → x1.toInt ≠ 19 → x1.toInt ≠ 20 → x1.toInt ≠ 21 → x5 = Code_right a2.toNatClampNeg → x6 = Code_rightNumber a2.toNatClampNeg → tr_Machine_valueOf x5 x6 Machine_registers x7 → x7.toInt = 0 → x1.toInt ≠ 3 → x1.toInt ≠ 4 → x8 = Code_set a2.toNatClampNeg → tr_Machine_calculate x1 x4 x7 x9 → tr_Machine_put x8 x9 Machine_registers x10 → x11.toInt = a2.toInt + 1 → R x11 x10 Machine_taken Machine_showCount Machine_ending Machine_shows Machine_slots Machine_block Machine_answer) →
  (∀ (x1 : Int32) (x2 : Int32) (x3 : Int32) (x4 : Int32) (x5 : Int32) (x6 : Int32) (x7 : Int32) (x8 : Int32), x1 = Code_op a2.toNatClampNeg → gB x1 0 21 → x2 = Code_left a2.toNatClampNeg → x3 = Code_leftNumber a2.toNatClampNeg → tr_Machine_valueOf x2 x3 Machine_registers x4 → x1.toInt ≠ 14 → x1.toInt ≠ 15 → x1.toInt ≠ 16 → x1.toInt ≠ 17 → x1.toInt ≠ 18 → x1.toInt ≠ 19 → x1.toInt ≠ 20 → x1.toInt ≠ 21 → x5 = Code_right a2.toNatClampNeg → x6 = Code_rightNumber a2.toNatClampNeg → tr_Machine_valueOf x5 x6 Machine_registers x7 → x7.toInt = 0 → x1.toInt ≠ 3 → x1.toInt = 4 → tr_Machine_halt (1 : Int32) x8 → R (-1 : Int32) Machine_registers Machine_taken Machine_showCount x8 Machine_shows Machine_slots Machine_block Machine_answer) →
  R o1 o2 o3 o4 o5 o6 o7 o8 o9
abbrev ky_2881_Machine_step : gKey := (cX7_step, 6, yX7_step.cls, (some FieldType.int), [], yX7_step.name, fun _ _ => True)
abbrev po_2881_Machine_step (I : FieldType → ClassId) (q2842 : Nat) (q2843 : Nat) (q2844 : Nat) (q2845 : Nat) (q2846 : Nat) (q2847 : Nat) (q2848 : Nat) (q2849 : Nat) (q2850 : Nat) (q2851 : Nat) (q2852 : Nat) (q2853 : Nat) (q2854 : Nat) (q2855 : Nat) (q2856 : Nat) (p2857 : Int32) (p2858 : Int32) (p2859 : Int32) (p2860 : Int32) (p2861 : Int32) (p2862 : Int32) (p2863 : Int32) (p2864 : Int32) (p2865 : Int32) (p2866 : Int32) (p2867 : Int32) (f2868 : Nat → Int32) (f2869 : Nat → Int32) (f2870 : Nat → Int32) (f2871 : Nat → Int32) (f2872 : Nat → Int32) (f2873 : Nat → Int32) (f2874 : Nat → Int32) (f2875 : Nat → Int32) (f2876 : Nat → Int32) (f2877 : Nat → Int32) (f2878 : Nat → Int32) (f2879 : Nat → Int32) (f2880 : Nat → Int32) : Option Value → va_W → Prop := fun r w => ∃ (o3602 : Int32) (f3594 : Nat → Int32) (o3595 : Int32) (o3596 : Int32) (o3597 : Int32) (f3598 : Nat → Int32) (f3599 : Nat → Int32) (o3600 : Int32) (o3601 : Int32), r = some (.int o3602) ∧ w = [(q2842, .inr (12, [.ref q2844, .ref q2845, .ref q2846, .ref q2847, .int p2858, .int o3600, .int o3601, .int o3596, .int p2862, .int o3595, .int o3597])), (q2843, .inr (5, [.ref q2848, .ref q2849, .ref q2850, .ref q2851, .ref q2852, .ref q2853, .ref q2854, .ref q2855, .ref q2856, .int p2865, .int p2866, .int p2867])), (q2844, .inl (I .int, 2048, .inl f2868)), (q2845, .inl (I .int, 100, .inl f3594)), (q2846, .inl (I .int, 100, .inl f3599)), (q2847, .inl (I .int, 512, .inl f3598)), (q2848, .inl (I .int, 40, .inl f2872)), (q2849, .inl (I .int, 40, .inl f2873)), (q2850, .inl (I .int, 40, .inl f2874)), (q2851, .inl (I .int, 200, .inl f2875)), (q2852, .inl (I .int, 200, .inl f2876)), (q2853, .inl (I .int, 200, .inl f2877)), (q2854, .inl (I .int, 200, .inl f2878)), (q2855, .inl (I .int, 200, .inl f2879)), (q2856, .inl (I .int, 200, .inl f2880))] ∧ gB o3602 (-1) 200 ∧ gF f3594 (-2147483648) 2147483647 ∧ gB o3595 0 2048 ∧ gB o3596 0 512 ∧ gB o3597 (-2147483648) 2147483647 ∧ gF f3598 (-2147483648) 2147483647 ∧ gF f3599 (-2147483648) 2147483647 ∧ gB o3600 0 39 ∧ gB o3601 (-2147483648) 2147483647 ∧ tr_Machine_step p2857 p2858 p2859 p2860 p2861 p2863 p2864 p2865 f2868 f2869 f2870 f2871 f2872 f2873 f2874 f2875 f2876 f2877 f2878 f2879 f2880 o3602 f3594 o3595 o3596 o3597 f3598 f3599 o3600 o3601
set_option maxRecDepth 100000 in
set_option maxHeartbeats 4000000 in
theorem ct_2881_Machine_step (l : Launch) (hl0 : l.stackTraces = false) (D : va_G) (I : FieldType → ClassId) (q2842 : Nat) (q2843 : Nat) (q2844 : Nat) (q2845 : Nat) (q2846 : Nat) (q2847 : Nat) (q2848 : Nat) (q2849 : Nat) (q2850 : Nat) (q2851 : Nat) (q2852 : Nat) (q2853 : Nat) (q2854 : Nat) (q2855 : Nat) (q2856 : Nat) (p2857 : Int32) (p2858 : Int32) (p2859 : Int32) (p2860 : Int32) (p2861 : Int32) (p2862 : Int32) (p2863 : Int32) (p2864 : Int32) (p2865 : Int32) (p2866 : Int32) (p2867 : Int32) (f2868 : Nat → Int32) (f2869 : Nat → Int32) (f2870 : Nat → Int32) (f2871 : Nat → Int32) (f2872 : Nat → Int32) (f2873 : Nat → Int32) (f2874 : Nat → Int32) (f2875 : Nat → Int32) (f2876 : Nat → Int32) (f2877 : Nat → Int32) (f2878 : Nat → Int32) (f2879 : Nat → Int32) (f2880 : Nat → Int32) (bp2857 : gB p2857 0 199) (bp2858 : gB p2858 0 2048) (bp2859 : gB p2859 0 39) (bp2861 : gB p2861 0 512) (bp2863 : gB p2863 0 2048) (bp2865 : gB p2865 0 40) (bp2866 : gB p2866 0 200) (bp2867 : gB p2867 0 1) (bf2872 : gF f2872 0 200) (bf2875 : gF f2875 0 21) : Ct (gV D I) l yX7_step cX7_step 6 (some FieldType.int) 2 43 0 0 [.ref q2842, .ref q2843, .int p2857] [(q2842, .inr (12, [.ref q2844, .ref q2845, .ref q2846, .ref q2847, .int p2858, .int p2859, .int p2860, .int p2861, .int p2862, .int p2863, .int p2864])), (q2843, .inr (5, [.ref q2848, .ref q2849, .ref q2850, .ref q2851, .ref q2852, .ref q2853, .ref q2854, .ref q2855, .ref q2856, .int p2865, .int p2866, .int p2867])), (q2844, .inl (I .int, 2048, .inl f2868)), (q2845, .inl (I .int, 100, .inl f2869)), (q2846, .inl (I .int, 100, .inl f2870)), (q2847, .inl (I .int, 512, .inl f2871)), (q2848, .inl (I .int, 40, .inl f2872)), (q2849, .inl (I .int, 40, .inl f2873)), (q2850, .inl (I .int, 40, .inl f2874)), (q2851, .inl (I .int, 200, .inl f2875)), (q2852, .inl (I .int, 200, .inl f2876)), (q2853, .inl (I .int, 200, .inl f2877)), (q2854, .inl (I .int, 200, .inl f2878)), (q2855, .inl (I .int, 200, .inl f2879)), (q2856, .inl (I .int, 200, .inl f2880))] (po_2881_Machine_step I q2842 q2843 q2844 q2845 q2846 q2847 q2848 q2849 q2850 q2851 q2852 q2853 q2854 q2855 q2856 p2857 p2858 p2859 p2860 p2861 p2862 p2863 p2864 p2865 p2866 p2867 f2868 f2869 f2870 f2871 f2872 f2873 f2874 f2875 f2876 f2877 f2878 f2879 f2880) gN := by
  refine Ct_of hl0 (by decide) (Nat.le_of_ble_eq_true rfl) ?_
  have bp2860 := gB_any p2860
  have bp2862 := gB_any p2862
  have bp2864 := gB_any p2864
  refine G_aload_n 1 d_cX7_step_0 rfl ?_
  refine G_getfN 1 3 d_cX7_step_1 rfl (gk_X0 D I) (Nat.le_of_ble_eq_true rfl) (fun _ _ _ h => gn_w 16 rfl h) rfl ?_
  refine G_iload_n 2 d_cX7_step_4 rfl ?_
  refine G_iald 9 0 d_cX7_step_5 rfl rfl (gB_in bp2857 (by decide) (by decide)) (G_nam fun z2882 hz2882 => ?_)
  have bz2882 : gB z2882 0 21 := by rw [hz2882]; exact bf2875 _
  refine G_istore_n (L' := [(3, .int z2882), (0, .ref q2842), (1, .ref q2843), (2, .int p2857)]) d_cX7_step_6 (Nat.le_of_ble_eq_true rfl) rfl ?_
  refine G_aload_n 1 d_cX7_step_7 rfl ?_
  refine G_aload_n 2 d_cX7_step_8 rfl ?_
  refine G_getfN 1 5 d_cX7_step_9 rfl (gk_X0 D I) (Nat.le_of_ble_eq_true rfl) (fun _ _ _ h => gn_w 25 rfl h) rfl ?_
  refine G_iload_n 3 d_cX7_step_12 rfl ?_
  refine G_iald 11 0 d_cX7_step_13 rfl rfl (gB_in bp2857 (by decide) (by decide)) (G_nam fun z2883 hz2883 => ?_)
  have bz2883 : gB z2883 (-2147483648) 2147483647 := gB_any z2883
  refine G_aload_n 2 d_cX7_step_14 rfl ?_
  refine G_getfN 1 6 d_cX7_step_15 rfl (gk_X0 D I) (Nat.le_of_ble_eq_true rfl) (fun _ _ _ h => gn_w 28 rfl h) rfl ?_
  refine G_iload_n 3 d_cX7_step_18 rfl ?_
  refine G_iald 12 0 d_cX7_step_19 rfl rfl (gB_in bp2857 (by decide) (by decide)) (G_nam fun z2884 hz2884 => ?_)
  have bz2884 : gB z2884 (-2147483648) 2147483647 := gB_any z2884
  refine G_callV (As := [.int z2883, .int z2884]) (wr := [(q2843, .inr (5, [.ref q2848, .ref q2849, .ref q2850, .ref q2851, .ref q2852, .ref q2853, .ref q2854, .ref q2855, .ref q2856, .int p2865, .int p2866, .int p2867])), (q2848, .inl (I .int, 40, .inl f2872)), (q2849, .inl (I .int, 40, .inl f2873)), (q2850, .inl (I .int, 40, .inl f2874)), (q2851, .inl (I .int, 200, .inl f2875)), (q2852, .inl (I .int, 200, .inl f2876)), (q2853, .inl (I .int, 200, .inl f2877)), (q2854, .inl (I .int, 200, .inl f2878)), (q2855, .inl (I .int, 200, .inl f2879)), (q2856, .inl (I .int, 200, .inl f2880))]) (gV_ok D I) (ct_2903_Machine_valueOf l hl0 D I q2842 q2844 q2845 q2846 q2847 z2883 z2884 p2858 p2859 p2860 p2861 p2862 p2863 p2864 f2868 f2869 f2870 f2871 bp2858 bp2859 bp2861 bp2863) d_cX7_step_20 ⟨w_6_78, w_1_12, w_6_81, by decide, rfl, (Nat.le_of_ble_eq_true rfl), (Nat.le_of_ble_eq_true rfl)⟩ w_6_80 w_p_58 0 rfl rfl [0, 2, 3, 4, 5] [1, 6, 7, 8, 9, 10, 11, 12, 13, 14] rfl rfl rfl rfl (by decide) (Nat.le_of_ble_eq_true rfl) (Nat.le_of_ble_eq_true rfl) (Nat.le_of_ble_eq_true rfl) (fun r w hp => ?_) (fun _ _ _ z => z.elim)
  rcases hp with ⟨rfl, rfl, r2911, r2912⟩ | ⟨rfl, rfl, r2913, r2914, r2915⟩ | ⟨z2916, rfl, rfl, r2917, r2918, hz2916, r2919, r2920⟩
  · have bz2883' : gB z2883 (-2147483648) (-1) := ⟨by omega, by omega⟩
    change G _ _ _ _ _ _ _ (.int z2884 :: _) _ _ _
    refine G_ws (ws' := [(q2843, .inr (5, [.ref q2848, .ref q2849, .ref q2850, .ref q2851, .ref q2852, .ref q2853, .ref q2854, .ref q2855, .ref q2856, .int p2865, .int p2866, .int p2867])), (q2848, .inl (I .int, 40, .inl f2872)), (q2849, .inl (I .int, 40, .inl f2873)), (q2850, .inl (I .int, 40, .inl f2874)), (q2851, .inl (I .int, 200, .inl f2875)), (q2852, .inl (I .int, 200, .inl f2876)), (q2853, .inl (I .int, 200, .inl f2877)), (q2854, .inl (I .int, 200, .inl f2878)), (q2855, .inl (I .int, 200, .inl f2879)), (q2856, .inl (I .int, 200, .inl f2880)), (q2842, .inr (12, [.ref q2844, .ref q2845, .ref q2846, .ref q2847, .int p2858, .int p2859, .int p2860, .int p2861, .int p2862, .int p2863, .int p2864])), (q2844, .inl (I .int, 2048, .inl f2868)), (q2845, .inl (I .int, 100, .inl f2869)), (q2846, .inl (I .int, 100, .inl f2870)), (q2847, .inl (I .int, 512, .inl f2871))]) (cs' := 0) (sl' := 0) rfl rfl rfl ?_
    refine G_istore (L' := [(4, .int z2884), (3, .int z2882), (0, .ref q2842), (1, .ref q2843), (2, .int p2857)]) d_cX7_step_23 (Nat.le_of_ble_eq_true rfl) rfl ?_
    refine G_iload_n 1 d_cX7_step_25 rfl ?_
    by_cases hs2921 : z2882 = 14
    · have ehs2921 : z2882.toInt = 14 := gj_eq hs2921 (show Int32.toInt 14 = 14 by decide)
      have bz2882' : gB z2882 14 14 := ⟨by omega, by omega⟩
      refine G_eqi (y := 14) hs2921 ?_
      refine G_tableIn 198 d_cX7_step_26 (by decide) (by decide) (by first | rfl | decide) (by decide) ?_
      refine G_aload_n 2 d_cX7_step_198 rfl ?_
      refine G_getf 10 1 d_cX7_step_199 rfl (gk_X7 D I) (Nat.le_of_ble_eq_true rfl) w_2_161 rfl ?_
      refine G_aload_n 3 d_cX7_step_202 rfl ?_
      refine G_getfN 0 4 d_cX7_step_203 rfl (gk_X0 D I) (Nat.le_of_ble_eq_true rfl) (fun _ _ _ h => gn_w 20 rfl h) rfl ?_
      refine G_iload_n 4 d_cX7_step_206 rfl ?_
      refine G_iald 5 0 d_cX7_step_207 rfl rfl (gB_in bp2857 (by decide) (by decide)) (G_nam fun z2922 hz2922 => ?_)
      have bz2922 : gB z2922 (-2147483648) 2147483647 := gB_any z2922
      refine G_iload 0 d_cX7_step_208 rfl ?_
      refine G_callS (As := [.ref q2845, .int z2922, .int z2884]) (wr := [(q2843, .inr (5, [.ref q2848, .ref q2849, .ref q2850, .ref q2851, .ref q2852, .ref q2853, .ref q2854, .ref q2855, .ref q2856, .int p2865, .int p2866, .int p2867])), (q2848, .inl (I .int, 40, .inl f2872)), (q2849, .inl (I .int, 40, .inl f2873)), (q2850, .inl (I .int, 40, .inl f2874)), (q2851, .inl (I .int, 200, .inl f2875)), (q2852, .inl (I .int, 200, .inl f2876)), (q2853, .inl (I .int, 200, .inl f2877)), (q2854, .inl (I .int, 200, .inl f2878)), (q2855, .inl (I .int, 200, .inl f2879)), (q2856, .inl (I .int, 200, .inl f2880)), (q2842, .inr (12, [.ref q2844, .ref q2845, .ref q2846, .ref q2847, .int p2858, .int p2859, .int p2860, .int p2861, .int p2862, .int p2863, .int p2864])), (q2844, .inl (I .int, 2048, .inl f2868)), (q2846, .inl (I .int, 100, .inl f2870)), (q2847, .inl (I .int, 512, .inl f2871))]) (gV_ok D I) (ct_2927_Machine_put l hl0 D I q2845 z2922 z2884 f2869 ) d_cX7_step_210 ⟨w_6_94, w_1_12, w_6_96, by decide, rfl, (Nat.le_of_ble_eq_true rfl), (Nat.le_of_ble_eq_true rfl)⟩ w_6_95 [12] [0, 1, 2, 3, 4, 5, 6, 7, 8, 9, 10, 11, 13, 14] rfl rfl rfl rfl (by decide) (Nat.le_of_ble_eq_true rfl) (Nat.le_of_ble_eq_true rfl) (Nat.le_of_ble_eq_true rfl) (fun r w hp => ?_) (fun _ _ _ z => z.elim)
      obtain ⟨f2936, rfl, rfl, bf2936, ht2937⟩ := hp
      change G _ _ _ _ _ _ _ _ _ _ _
      refine G_ws (ws' := [(q2843, .inr (5, [.ref q2848, .ref q2849, .ref q2850, .ref q2851, .ref q2852, .ref q2853, .ref q2854, .ref q2855, .ref q2856, .int p2865, .int p2866, .int p2867])), (q2848, .inl (I .int, 40, .inl f2872)), (q2849, .inl (I .int, 40, .inl f2873)), (q2850, .inl (I .int, 40, .inl f2874)), (q2851, .inl (I .int, 200, .inl f2875)), (q2852, .inl (I .int, 200, .inl f2876)), (q2853, .inl (I .int, 200, .inl f2877)), (q2854, .inl (I .int, 200, .inl f2878)), (q2855, .inl (I .int, 200, .inl f2879)), (q2856, .inl (I .int, 200, .inl f2880)), (q2842, .inr (12, [.ref q2844, .ref q2845, .ref q2846, .ref q2847, .int p2858, .int p2859, .int p2860, .int p2861, .int p2862, .int p2863, .int p2864])), (q2844, .inl (I .int, 2048, .inl f2868)), (q2846, .inl (I .int, 100, .inl f2870)), (q2847, .inl (I .int, 512, .inl f2871)), (q2845, .inl (I .int, 100, .inl f2936))]) (cs' := 0) (sl' := 0) rfl rfl rfl ?_
      refine G_iload_n 4 d_cX7_step_213 rfl ?_
      refine G_iconst 1 d_cX7_step_214 (by decide +kernel) ?_
      refine G_iadd d_cX7_step_215 (G_nam fun z2938 hz2938 => ?_)
      have ez2938 : z2938.toInt = p2857.toInt + 1 := by rw [gI_add hz2938 bp2857 (gBl (show Int32.toInt 1 = 1 by decide)) (by decide) (by decide), show Int32.toInt 1 = 1 from by decide]
      have bz2938 : gB z2938 1 200 := gB_add (gI_add hz2938 bp2857 (gBl (show Int32.toInt 1 = 1 by decide)) (by decide) (by decide)) bp2857 (gBl (show Int32.toInt 1 = 1 by decide)) (by decide) (by decide)
      refine G_sub (ws' := [(q2842, .inr (12, [.ref q2844, .ref q2845, .ref q2846, .ref q2847, .int p2858, .int p2859, .int p2860, .int p2861, .int p2862, .int p2863, .int p2864])), (q2843, .inr (5, [.ref q2848, .ref q2849, .ref q2850, .ref q2851, .ref q2852, .ref q2853, .ref q2854, .ref q2855, .ref q2856, .int p2865, .int p2866, .int p2867])), (q2844, .inl (I .int, 2048, .inl f2868)), (q2845, .inl (I .int, 100, .inl f2936)), (q2846, .inl (I .int, 100, .inl f2870)), (q2847, .inl (I .int, 512, .inl f2871)), (q2848, .inl (I .int, 40, .inl f2872)), (q2849, .inl (I .int, 40, .inl f2873)), (q2850, .inl (I .int, 40, .inl f2874)), (q2851, .inl (I .int, 200, .inl f2875)), (q2852, .inl (I .int, 200, .inl f2876)), (q2853, .inl (I .int, 200, .inl f2877)), (q2854, .inl (I .int, 200, .inl f2878)), (q2855, .inl (I .int, 200, .inl f2879)), (q2856, .inl (I .int, 200, .inl f2880))]) [10, 0, 11, 14, 12, 13, 1, 2, 3, 4, 5, 6, 7, 8, 9] rfl rfl ?_
      exact G_iret d_cX7_step_216 rfl (Nat.le_of_ble_eq_true rfl) (Nat.le_of_ble_eq_true rfl) ⟨z2938, f2936, p2863, p2861, p2864, f2871, f2870, p2859, p2860, rfl, rfl, (gB_w bz2938 (by decide) (by decide)), bf2936, bp2863, bp2861, bp2864, (gF_any f2871), (gF_any f2870), bp2859, bp2860, (fun R c1 c2 c3 c4 c5 c6 c7 c8 c9 c10 c11 c12 c13 c14 c15 c16 c17 c18 c19 c20 c21 c22 c23 c24 c25 c26 c27 c28 c29 c30 c31 c32 c33 c34 c35 c36 c37 c38 => c1 z2882 z2883 z2884 z2922 f2936 z2938 hz2882 bz2882 hz2883 hz2884 r2912 ehs2921 hz2922 ht2937 ez2938)⟩
    by_cases hs2939 : z2882 = 15
    · have ehs2939 : z2882.toInt = 15 := gj_eq hs2939 (show Int32.toInt 15 = 15 by decide)
      have bz2882' : gB z2882 15 15 := ⟨by omega, by omega⟩
      refine G_eqi (y := 15) hs2939 ?_
      refine G_tableIn 217 d_cX7_step_26 (by decide) (by decide) (by first | rfl | decide) (by decide) ?_
      refine G_aload_n 2 d_cX7_step_217 rfl ?_
      refine G_getf 10 1 d_cX7_step_218 rfl (gk_X7 D I) (Nat.le_of_ble_eq_true rfl) w_2_161 rfl ?_
      refine G_aload_n 3 d_cX7_step_221 rfl ?_
      refine G_getfN 0 4 d_cX7_step_222 rfl (gk_X0 D I) (Nat.le_of_ble_eq_true rfl) (fun _ _ _ h => gn_w 20 rfl h) rfl ?_
      refine G_iload_n 4 d_cX7_step_225 rfl ?_
      refine G_iald 5 0 d_cX7_step_226 rfl rfl (gB_in bp2857 (by decide) (by decide)) (G_nam fun z2940 hz2940 => ?_)
      have bz2940 : gB z2940 (-2147483648) 2147483647 := gB_any z2940
      refine G_aload_n 2 d_cX7_step_227 rfl ?_
      refine G_callV (As := []) (wr := [(q2843, .inr (5, [.ref q2848, .ref q2849, .ref q2850, .ref q2851, .ref q2852, .ref q2853, .ref q2854, .ref q2855, .ref q2856, .int p2865, .int p2866, .int p2867])), (q2848, .inl (I .int, 40, .inl f2872)), (q2849, .inl (I .int, 40, .inl f2873)), (q2850, .inl (I .int, 40, .inl f2874)), (q2851, .inl (I .int, 200, .inl f2875)), (q2852, .inl (I .int, 200, .inl f2876)), (q2853, .inl (I .int, 200, .inl f2877)), (q2854, .inl (I .int, 200, .inl f2878)), (q2855, .inl (I .int, 200, .inl f2879)), (q2856, .inl (I .int, 200, .inl f2880))]) (gV_ok D I) (ct_2957_Machine_takeNext l hl0 D I q2842 q2844 q2845 q2846 q2847 p2858 p2859 p2860 p2861 p2862 p2863 p2864 f2868 f2869 f2870 f2871 bp2858 bp2859 bp2861 bp2863) d_cX7_step_228 ⟨w_6_101, w_1_12, w_6_104, by decide, rfl, (Nat.le_of_ble_eq_true rfl), (Nat.le_of_ble_eq_true rfl)⟩ w_6_103 w_p_63 10 rfl rfl [10, 11, 12, 13, 14] [0, 1, 2, 3, 4, 5, 6, 7, 8, 9] rfl rfl rfl rfl (by decide) (Nat.le_of_ble_eq_true rfl) (Nat.le_of_ble_eq_true rfl) (Nat.le_of_ble_eq_true rfl) (fun r w hp => ?_) (fun _ _ _ z => z.elim)
      obtain ⟨o2966, o2967, rfl, rfl, bo2966, bo2967, ht2968⟩ := hp
      change G _ _ _ _ _ _ _ (.int o2966 :: _) _ _ _
      refine G_ws (ws' := [(q2843, .inr (5, [.ref q2848, .ref q2849, .ref q2850, .ref q2851, .ref q2852, .ref q2853, .ref q2854, .ref q2855, .ref q2856, .int p2865, .int p2866, .int p2867])), (q2848, .inl (I .int, 40, .inl f2872)), (q2849, .inl (I .int, 40, .inl f2873)), (q2850, .inl (I .int, 40, .inl f2874)), (q2851, .inl (I .int, 200, .inl f2875)), (q2852, .inl (I .int, 200, .inl f2876)), (q2853, .inl (I .int, 200, .inl f2877)), (q2854, .inl (I .int, 200, .inl f2878)), (q2855, .inl (I .int, 200, .inl f2879)), (q2856, .inl (I .int, 200, .inl f2880)), (q2842, .inr (12, [.ref q2844, .ref q2845, .ref q2846, .ref q2847, .int p2858, .int p2859, .int p2860, .int p2861, .int p2862, .int o2967, .int p2864])), (q2844, .inl (I .int, 2048, .inl f2868)), (q2845, .inl (I .int, 100, .inl f2869)), (q2846, .inl (I .int, 100, .inl f2870)), (q2847, .inl (I .int, 512, .inl f2871))]) (cs' := 0) (sl' := 0) rfl rfl rfl ?_
      refine G_callS (As := [.ref q2845, .int z2940, .int o2966]) (wr := [(q2843, .inr (5, [.ref q2848, .ref q2849, .ref q2850, .ref q2851, .ref q2852, .ref q2853, .ref q2854, .ref q2855, .ref q2856, .int p2865, .int p2866, .int p2867])), (q2848, .inl (I .int, 40, .inl f2872)), (q2849, .inl (I .int, 40, .inl f2873)), (q2850, .inl (I .int, 40, .inl f2874)), (q2851, .inl (I .int, 200, .inl f2875)), (q2852, .inl (I .int, 200, .inl f2876)), (q2853, .inl (I .int, 200, .inl f2877)), (q2854, .inl (I .int, 200, .inl f2878)), (q2855, .inl (I .int, 200, .inl f2879)), (q2856, .inl (I .int, 200, .inl f2880)), (q2842, .inr (12, [.ref q2844, .ref q2845, .ref q2846, .ref q2847, .int p2858, .int p2859, .int p2860, .int p2861, .int p2862, .int o2967, .int p2864])), (q2844, .inl (I .int, 2048, .inl f2868)), (q2846, .inl (I .int, 100, .inl f2870)), (q2847, .inl (I .int, 512, .inl f2871))]) (gV_ok D I) (ct_2927_Machine_put l hl0 D I q2845 z2940 o2966 f2869 ) d_cX7_step_231 ⟨w_6_94, w_1_12, w_6_96, by decide, rfl, (Nat.le_of_ble_eq_true rfl), (Nat.le_of_ble_eq_true rfl)⟩ w_6_95 [12] [0, 1, 2, 3, 4, 5, 6, 7, 8, 9, 10, 11, 13, 14] rfl rfl rfl rfl (by decide) (Nat.le_of_ble_eq_true rfl) (Nat.le_of_ble_eq_true rfl) (Nat.le_of_ble_eq_true rfl) (fun r w hp => ?_) (fun _ _ _ z => z.elim)
      obtain ⟨f2969, rfl, rfl, bf2969, ht2970⟩ := hp
      change G _ _ _ _ _ _ _ _ _ _ _
      refine G_ws (ws' := [(q2843, .inr (5, [.ref q2848, .ref q2849, .ref q2850, .ref q2851, .ref q2852, .ref q2853, .ref q2854, .ref q2855, .ref q2856, .int p2865, .int p2866, .int p2867])), (q2848, .inl (I .int, 40, .inl f2872)), (q2849, .inl (I .int, 40, .inl f2873)), (q2850, .inl (I .int, 40, .inl f2874)), (q2851, .inl (I .int, 200, .inl f2875)), (q2852, .inl (I .int, 200, .inl f2876)), (q2853, .inl (I .int, 200, .inl f2877)), (q2854, .inl (I .int, 200, .inl f2878)), (q2855, .inl (I .int, 200, .inl f2879)), (q2856, .inl (I .int, 200, .inl f2880)), (q2842, .inr (12, [.ref q2844, .ref q2845, .ref q2846, .ref q2847, .int p2858, .int p2859, .int p2860, .int p2861, .int p2862, .int o2967, .int p2864])), (q2844, .inl (I .int, 2048, .inl f2868)), (q2846, .inl (I .int, 100, .inl f2870)), (q2847, .inl (I .int, 512, .inl f2871)), (q2845, .inl (I .int, 100, .inl f2969))]) (cs' := 0) (sl' := 0) rfl rfl rfl ?_
      refine G_iload_n 4 d_cX7_step_234 rfl ?_
      refine G_iconst 1 d_cX7_step_235 (by decide +kernel) ?_
      refine G_iadd d_cX7_step_236 (G_nam fun z2971 hz2971 => ?_)
      have ez2971 : z2971.toInt = p2857.toInt + 1 := by rw [gI_add hz2971 bp2857 (gBl (show Int32.toInt 1 = 1 by decide)) (by decide) (by decide), show Int32.toInt 1 = 1 from by decide]
      have bz2971 : gB z2971 1 200 := gB_add (gI_add hz2971 bp2857 (gBl (show Int32.toInt 1 = 1 by decide)) (by decide) (by decide)) bp2857 (gBl (show Int32.toInt 1 = 1 by decide)) (by decide) (by decide)
      refine G_sub (ws' := [(q2842, .inr (12, [.ref q2844, .ref q2845, .ref q2846, .ref q2847, .int p2858, .int p2859, .int p2860, .int p2861, .int p2862, .int o2967, .int p2864])), (q2843, .inr (5, [.ref q2848, .ref q2849, .ref q2850, .ref q2851, .ref q2852, .ref q2853, .ref q2854, .ref q2855, .ref q2856, .int p2865, .int p2866, .int p2867])), (q2844, .inl (I .int, 2048, .inl f2868)), (q2845, .inl (I .int, 100, .inl f2969)), (q2846, .inl (I .int, 100, .inl f2870)), (q2847, .inl (I .int, 512, .inl f2871)), (q2848, .inl (I .int, 40, .inl f2872)), (q2849, .inl (I .int, 40, .inl f2873)), (q2850, .inl (I .int, 40, .inl f2874)), (q2851, .inl (I .int, 200, .inl f2875)), (q2852, .inl (I .int, 200, .inl f2876)), (q2853, .inl (I .int, 200, .inl f2877)), (q2854, .inl (I .int, 200, .inl f2878)), (q2855, .inl (I .int, 200, .inl f2879)), (q2856, .inl (I .int, 200, .inl f2880))]) [10, 0, 11, 14, 12, 13, 1, 2, 3, 4, 5, 6, 7, 8, 9] rfl rfl ?_
      exact G_iret d_cX7_step_237 rfl (Nat.le_of_ble_eq_true rfl) (Nat.le_of_ble_eq_true rfl) ⟨z2971, f2969, o2967, p2861, p2864, f2871, f2870, p2859, p2860, rfl, rfl, (gB_w bz2971 (by decide) (by decide)), bf2969, bo2967, bp2861, bp2864, (gF_any f2871), (gF_any f2870), bp2859, bp2860, (fun R c1 c2 c3 c4 c5 c6 c7 c8 c9 c10 c11 c12 c13 c14 c15 c16 c17 c18 c19 c20 c21 c22 c23 c24 c25 c26 c27 c28 c29 c30 c31 c32 c33 c34 c35 c36 c37 c38 => c2 z2882 z2883 z2884 z2940 o2966 o2967 f2969 z2971 hz2882 bz2882 hz2883 hz2884 r2912 ehs2939 hz2940 bo2967 ht2968 ht2970 ez2971)⟩
    by_cases hs2972 : z2882 = 16
    · have ehs2972 : z2882.toInt = 16 := gj_eq hs2972 (show Int32.toInt 16 = 16 by decide)
      have bz2882' : gB z2882 16 16 := ⟨by omega, by omega⟩
      refine G_eqi (y := 16) hs2972 ?_
      refine G_tableIn 131 d_cX7_step_26 (by decide) (by decide) (by first | rfl | decide) (by decide) ?_
      refine G_aload_n 2 d_cX7_step_131 rfl ?_
      refine G_iload 0 d_cX7_step_132 rfl ?_
      refine G_callV (As := [.int z2884]) (wr := [(q2843, .inr (5, [.ref q2848, .ref q2849, .ref q2850, .ref q2851, .ref q2852, .ref q2853, .ref q2854, .ref q2855, .ref q2856, .int p2865, .int p2866, .int p2867])), (q2848, .inl (I .int, 40, .inl f2872)), (q2849, .inl (I .int, 40, .inl f2873)), (q2850, .inl (I .int, 40, .inl f2874)), (q2851, .inl (I .int, 200, .inl f2875)), (q2852, .inl (I .int, 200, .inl f2876)), (q2853, .inl (I .int, 200, .inl f2877)), (q2854, .inl (I .int, 200, .inl f2878)), (q2855, .inl (I .int, 200, .inl f2879)), (q2856, .inl (I .int, 200, .inl f2880))]) (gV_ok D I) (ct_2990_Machine_addShow l hl0 D I q2842 q2844 q2845 q2846 q2847 z2884 p2858 p2859 p2860 p2861 p2862 p2863 p2864 f2868 f2869 f2870 f2871 bp2858 bp2859 bp2861 bp2863) d_cX7_step_134 ⟨w_6_90, w_1_12, w_6_93, by decide, rfl, (Nat.le_of_ble_eq_true rfl), (Nat.le_of_ble_eq_true rfl)⟩ w_6_92 w_p_61 10 rfl rfl [10, 11, 12, 13, 14] [0, 1, 2, 3, 4, 5, 6, 7, 8, 9] rfl rfl rfl rfl (by decide) (Nat.le_of_ble_eq_true rfl) (Nat.le_of_ble_eq_true rfl) (Nat.le_of_ble_eq_true rfl) (fun r w hp => ?_) (fun _ _ _ z => z.elim)
      obtain ⟨o2999, o3000, f3001, rfl, rfl, bo2999, bo3000, bf3001, ht3002⟩ := hp
      change G _ _ _ _ _ _ _ (.int o2999 :: _) _ _ _
      refine G_ws (ws' := [(q2843, .inr (5, [.ref q2848, .ref q2849, .ref q2850, .ref q2851, .ref q2852, .ref q2853, .ref q2854, .ref q2855, .ref q2856, .int p2865, .int p2866, .int p2867])), (q2848, .inl (I .int, 40, .inl f2872)), (q2849, .inl (I .int, 40, .inl f2873)), (q2850, .inl (I .int, 40, .inl f2874)), (q2851, .inl (I .int, 200, .inl f2875)), (q2852, .inl (I .int, 200, .inl f2876)), (q2853, .inl (I .int, 200, .inl f2877)), (q2854, .inl (I .int, 200, .inl f2878)), (q2855, .inl (I .int, 200, .inl f2879)), (q2856, .inl (I .int, 200, .inl f2880)), (q2842, .inr (12, [.ref q2844, .ref q2845, .ref q2846, .ref q2847, .int p2858, .int p2859, .int p2860, .int o3000, .int p2862, .int p2863, .int p2864])), (q2844, .inl (I .int, 2048, .inl f2868)), (q2845, .inl (I .int, 100, .inl f2869)), (q2846, .inl (I .int, 100, .inl f2870)), (q2847, .inl (I .int, 512, .inl f3001))]) (cs' := 0) (sl' := 0) rfl rfl rfl ?_
      refine G_if_eq 146 d_cX7_step_137 (by decide +kernel) (fun hc3003 => ?_) (fun hc3003 => ?_)
      · have r3004 : o2999.toInt = 0 := gj_eq hc3003 (show Int32.toInt 0 = 0 by decide)
        have bo2999' : gB o2999 0 0 := ⟨by omega, by omega⟩
        refine G_aload_n 2 d_cX7_step_146 rfl ?_
        refine G_iconst 5 d_cX7_step_147 (by decide +kernel) ?_
        refine G_callV (As := [.int 5]) (wr := [(q2843, .inr (5, [.ref q2848, .ref q2849, .ref q2850, .ref q2851, .ref q2852, .ref q2853, .ref q2854, .ref q2855, .ref q2856, .int p2865, .int p2866, .int p2867])), (q2848, .inl (I .int, 40, .inl f2872)), (q2849, .inl (I .int, 40, .inl f2873)), (q2850, .inl (I .int, 40, .inl f2874)), (q2851, .inl (I .int, 200, .inl f2875)), (q2852, .inl (I .int, 200, .inl f2876)), (q2853, .inl (I .int, 200, .inl f2877)), (q2854, .inl (I .int, 200, .inl f2878)), (q2855, .inl (I .int, 200, .inl f2879)), (q2856, .inl (I .int, 200, .inl f2880))]) (gV_ok D I) (ct_2837_Machine_halt l hl0 D I q2842 q2844 q2845 q2846 q2847 5 p2858 p2859 p2860 o3000 p2862 p2863 p2864 f2868 f2869 f2870 f3001 bp2858 bp2859 (gB_w bo3000 (by decide) (by decide)) bp2863) d_cX7_step_148 ⟨w_6_86, w_1_12, w_6_89, by decide, rfl, (Nat.le_of_ble_eq_true rfl), (Nat.le_of_ble_eq_true rfl)⟩ w_6_88 w_p_60 10 rfl rfl [10, 11, 12, 13, 14] [0, 1, 2, 3, 4, 5, 6, 7, 8, 9] rfl rfl rfl rfl (by decide) (Nat.le_of_ble_eq_true rfl) (Nat.le_of_ble_eq_true rfl) (Nat.le_of_ble_eq_true rfl) (fun r w hp => ?_) (fun _ _ _ z => z.elim)
        obtain ⟨o3005, rfl, rfl, bo3005, ht3006⟩ := hp
        change G _ _ _ _ _ _ _ (.int (-1) :: _) _ _ _
        refine G_ws (ws' := [(q2843, .inr (5, [.ref q2848, .ref q2849, .ref q2850, .ref q2851, .ref q2852, .ref q2853, .ref q2854, .ref q2855, .ref q2856, .int p2865, .int p2866, .int p2867])), (q2848, .inl (I .int, 40, .inl f2872)), (q2849, .inl (I .int, 40, .inl f2873)), (q2850, .inl (I .int, 40, .inl f2874)), (q2851, .inl (I .int, 200, .inl f2875)), (q2852, .inl (I .int, 200, .inl f2876)), (q2853, .inl (I .int, 200, .inl f2877)), (q2854, .inl (I .int, 200, .inl f2878)), (q2855, .inl (I .int, 200, .inl f2879)), (q2856, .inl (I .int, 200, .inl f2880)), (q2842, .inr (12, [.ref q2844, .ref q2845, .ref q2846, .ref q2847, .int p2858, .int p2859, .int p2860, .int o3000, .int p2862, .int p2863, .int o3005])), (q2844, .inl (I .int, 2048, .inl f2868)), (q2845, .inl (I .int, 100, .inl f2869)), (q2846, .inl (I .int, 100, .inl f2870)), (q2847, .inl (I .int, 512, .inl f3001))]) (cs' := 0) (sl' := 0) rfl rfl rfl ?_
        refine G_sub (ws' := [(q2842, .inr (12, [.ref q2844, .ref q2845, .ref q2846, .ref q2847, .int p2858, .int p2859, .int p2860, .int o3000, .int p2862, .int p2863, .int o3005])), (q2843, .inr (5, [.ref q2848, .ref q2849, .ref q2850, .ref q2851, .ref q2852, .ref q2853, .ref q2854, .ref q2855, .ref q2856, .int p2865, .int p2866, .int p2867])), (q2844, .inl (I .int, 2048, .inl f2868)), (q2845, .inl (I .int, 100, .inl f2869)), (q2846, .inl (I .int, 100, .inl f2870)), (q2847, .inl (I .int, 512, .inl f3001)), (q2848, .inl (I .int, 40, .inl f2872)), (q2849, .inl (I .int, 40, .inl f2873)), (q2850, .inl (I .int, 40, .inl f2874)), (q2851, .inl (I .int, 200, .inl f2875)), (q2852, .inl (I .int, 200, .inl f2876)), (q2853, .inl (I .int, 200, .inl f2877)), (q2854, .inl (I .int, 200, .inl f2878)), (q2855, .inl (I .int, 200, .inl f2879)), (q2856, .inl (I .int, 200, .inl f2880))]) [10, 0, 11, 12, 13, 14, 1, 2, 3, 4, 5, 6, 7, 8, 9] rfl rfl ?_
        exact G_iret d_cX7_step_151 rfl (Nat.le_of_ble_eq_true rfl) (Nat.le_of_ble_eq_true rfl) ⟨(-1), f2869, p2863, o3000, o3005, f3001, f2870, p2859, p2860, rfl, rfl, (gB_w (gBl (show Int32.toInt (-1) = (-1) by decide)) (by decide) (by decide)), (gF_any f2869), bp2863, (gB_w bo3000 (by decide) (by decide)), bo3005, bf3001, (gF_any f2870), bp2859, bp2860, (fun R c1 c2 c3 c4 c5 c6 c7 c8 c9 c10 c11 c12 c13 c14 c15 c16 c17 c18 c19 c20 c21 c22 c23 c24 c25 c26 c27 c28 c29 c30 c31 c32 c33 c34 c35 c36 c37 c38 => c3 z2882 z2883 z2884 o2999 o3000 f3001 o3005 hz2882 bz2882 hz2883 hz2884 r2912 ehs2972 bo2999 bo3000 ht3002 r3004 ht3006)⟩
      · have r3007 : o2999.toInt ≠ 0 := gj_neq hc3003 (show Int32.toInt 0 = 0 by decide)
        have bo2999' : gB o2999 1 1 := ⟨by omega, by omega⟩
        refine G_iload_n 4 d_cX7_step_140 rfl ?_
        refine G_iconst 1 d_cX7_step_141 (by decide +kernel) ?_
        refine G_iadd d_cX7_step_142 (G_nam fun z3008 hz3008 => ?_)
        have ez3008 : z3008.toInt = p2857.toInt + 1 := by rw [gI_add hz3008 bp2857 (gBl (show Int32.toInt 1 = 1 by decide)) (by decide) (by decide), show Int32.toInt 1 = 1 from by decide]
        have bz3008 : gB z3008 1 200 := gB_add (gI_add hz3008 bp2857 (gBl (show Int32.toInt 1 = 1 by decide)) (by decide) (by decide)) bp2857 (gBl (show Int32.toInt 1 = 1 by decide)) (by decide) (by decide)
        refine G_goto 151 d_cX7_step_143 (by decide +kernel) ?_
        refine G_sub (ws' := [(q2842, .inr (12, [.ref q2844, .ref q2845, .ref q2846, .ref q2847, .int p2858, .int p2859, .int p2860, .int o3000, .int p2862, .int p2863, .int p2864])), (q2843, .inr (5, [.ref q2848, .ref q2849, .ref q2850, .ref q2851, .ref q2852, .ref q2853, .ref q2854, .ref q2855, .ref q2856, .int p2865, .int p2866, .int p2867])), (q2844, .inl (I .int, 2048, .inl f2868)), (q2845, .inl (I .int, 100, .inl f2869)), (q2846, .inl (I .int, 100, .inl f2870)), (q2847, .inl (I .int, 512, .inl f3001)), (q2848, .inl (I .int, 40, .inl f2872)), (q2849, .inl (I .int, 40, .inl f2873)), (q2850, .inl (I .int, 40, .inl f2874)), (q2851, .inl (I .int, 200, .inl f2875)), (q2852, .inl (I .int, 200, .inl f2876)), (q2853, .inl (I .int, 200, .inl f2877)), (q2854, .inl (I .int, 200, .inl f2878)), (q2855, .inl (I .int, 200, .inl f2879)), (q2856, .inl (I .int, 200, .inl f2880))]) [10, 0, 11, 12, 13, 14, 1, 2, 3, 4, 5, 6, 7, 8, 9] rfl rfl ?_
        exact G_iret d_cX7_step_151 rfl (Nat.le_of_ble_eq_true rfl) (Nat.le_of_ble_eq_true rfl) ⟨z3008, f2869, p2863, o3000, p2864, f3001, f2870, p2859, p2860, rfl, rfl, (gB_w bz3008 (by decide) (by decide)), (gF_any f2869), bp2863, (gB_w bo3000 (by decide) (by decide)), bp2864, bf3001, (gF_any f2870), bp2859, bp2860, (fun R c1 c2 c3 c4 c5 c6 c7 c8 c9 c10 c11 c12 c13 c14 c15 c16 c17 c18 c19 c20 c21 c22 c23 c24 c25 c26 c27 c28 c29 c30 c31 c32 c33 c34 c35 c36 c37 c38 => c4 z2882 z2883 z2884 o2999 o3000 f3001 z3008 hz2882 bz2882 hz2883 hz2884 r2912 ehs2972 bo2999 bo3000 ht3002 r3007 ez3008)⟩
    by_cases hs3009 : z2882 = 17
    · have ehs3009 : z2882.toInt = 17 := gj_eq hs3009 (show Int32.toInt 17 = 17 by decide)
      have bz2882' : gB z2882 17 17 := ⟨by omega, by omega⟩
      refine G_eqi (y := 17) hs3009 ?_
      refine G_tableIn 171 d_cX7_step_26 (by decide) (by decide) (by first | rfl | decide) (by decide) ?_
      refine G_aload_n 2 d_cX7_step_171 rfl ?_
      refine G_getf 10 1 d_cX7_step_172 rfl (gk_X7 D I) (Nat.le_of_ble_eq_true rfl) w_2_161 rfl ?_
      refine G_aload_n 3 d_cX7_step_175 rfl ?_
      refine G_getfN 0 4 d_cX7_step_176 rfl (gk_X0 D I) (Nat.le_of_ble_eq_true rfl) (fun _ _ _ h => gn_w 20 rfl h) rfl ?_
      refine G_iload_n 4 d_cX7_step_179 rfl ?_
      refine G_iald 5 0 d_cX7_step_180 rfl rfl (gB_in bp2857 (by decide) (by decide)) (G_nam fun z3010 hz3010 => ?_)
      have bz3010 : gB z3010 (-2147483648) 2147483647 := gB_any z3010
      refine G_aload_n 2 d_cX7_step_181 rfl ?_
      refine G_aload_n 3 d_cX7_step_182 rfl ?_
      refine G_getfN 0 8 d_cX7_step_183 rfl (gk_X0 D I) (Nat.le_of_ble_eq_true rfl) (fun _ _ _ h => gn_w 35 rfl h) rfl ?_
      refine G_iload_n 4 d_cX7_step_186 rfl ?_
      refine G_iald 9 0 d_cX7_step_187 rfl rfl (gB_in bp2857 (by decide) (by decide)) (G_nam fun z3011 hz3011 => ?_)
      have bz3011 : gB z3011 (-2147483648) 2147483647 := gB_any z3011
      refine G_callV (As := [.int z3011]) (wr := [(q2843, .inr (5, [.ref q2848, .ref q2849, .ref q2850, .ref q2851, .ref q2852, .ref q2853, .ref q2854, .ref q2855, .ref q2856, .int p2865, .int p2866, .int p2867])), (q2848, .inl (I .int, 40, .inl f2872)), (q2849, .inl (I .int, 40, .inl f2873)), (q2850, .inl (I .int, 40, .inl f2874)), (q2851, .inl (I .int, 200, .inl f2875)), (q2852, .inl (I .int, 200, .inl f2876)), (q2853, .inl (I .int, 200, .inl f2877)), (q2854, .inl (I .int, 200, .inl f2878)), (q2855, .inl (I .int, 200, .inl f2879)), (q2856, .inl (I .int, 200, .inl f2880))]) (gV_ok D I) (ct_3029_Machine_slotAt l hl0 D I q2842 q2844 q2845 q2846 q2847 z3011 p2858 p2859 p2860 p2861 p2862 p2863 p2864 f2868 f2869 f2870 f2871 bp2858 bp2859 bp2861 bp2863) d_cX7_step_188 ⟨w_6_97, w_1_12, w_6_100, by decide, rfl, (Nat.le_of_ble_eq_true rfl), (Nat.le_of_ble_eq_true rfl)⟩ w_6_99 w_p_62 10 rfl rfl [10, 11, 12, 13, 14] [0, 1, 2, 3, 4, 5, 6, 7, 8, 9] rfl rfl rfl rfl (by decide) (Nat.le_of_ble_eq_true rfl) (Nat.le_of_ble_eq_true rfl) (Nat.le_of_ble_eq_true rfl) (fun r w hp => ?_) (fun _ _ _ z => z.elim)
      rcases hp with ⟨rfl, rfl, r3037, r3038⟩ | ⟨rfl, rfl, r3039, r3040, r3041⟩ | ⟨z3042, rfl, rfl, r3043, r3044, hz3042, r3045, r3046⟩
      · have bz3011' : gB z3011 (-2147483648) (-1) := ⟨by omega, by omega⟩
        change G _ _ _ _ _ _ _ (.int 0 :: _) _ _ _
        refine G_ws (ws' := [(q2843, .inr (5, [.ref q2848, .ref q2849, .ref q2850, .ref q2851, .ref q2852, .ref q2853, .ref q2854, .ref q2855, .ref q2856, .int p2865, .int p2866, .int p2867])), (q2848, .inl (I .int, 40, .inl f2872)), (q2849, .inl (I .int, 40, .inl f2873)), (q2850, .inl (I .int, 40, .inl f2874)), (q2851, .inl (I .int, 200, .inl f2875)), (q2852, .inl (I .int, 200, .inl f2876)), (q2853, .inl (I .int, 200, .inl f2877)), (q2854, .inl (I .int, 200, .inl f2878)), (q2855, .inl (I .int, 200, .inl f2879)), (q2856, .inl (I .int, 200, .inl f2880)), (q2842, .inr (12, [.ref q2844, .ref q2845, .ref q2846, .ref q2847, .int p2858, .int p2859, .int p2860, .int p2861, .int p2862, .int p2863, .int p2864])), (q2844, .inl (I .int, 2048, .inl f2868)), (q2845, .inl (I .int, 100, .inl f2869)), (q2846, .inl (I .int, 100, .inl f2870)), (q2847, .inl (I .int, 512, .inl f2871))]) (cs' := 0) (sl' := 0) rfl rfl rfl ?_
        refine G_callS (As := [.ref q2845, .int z3010, .int 0]) (wr := [(q2843, .inr (5, [.ref q2848, .ref q2849, .ref q2850, .ref q2851, .ref q2852, .ref q2853, .ref q2854, .ref q2855, .ref q2856, .int p2865, .int p2866, .int p2867])), (q2848, .inl (I .int, 40, .inl f2872)), (q2849, .inl (I .int, 40, .inl f2873)), (q2850, .inl (I .int, 40, .inl f2874)), (q2851, .inl (I .int, 200, .inl f2875)), (q2852, .inl (I .int, 200, .inl f2876)), (q2853, .inl (I .int, 200, .inl f2877)), (q2854, .inl (I .int, 200, .inl f2878)), (q2855, .inl (I .int, 200, .inl f2879)), (q2856, .inl (I .int, 200, .inl f2880)), (q2842, .inr (12, [.ref q2844, .ref q2845, .ref q2846, .ref q2847, .int p2858, .int p2859, .int p2860, .int p2861, .int p2862, .int p2863, .int p2864])), (q2844, .inl (I .int, 2048, .inl f2868)), (q2846, .inl (I .int, 100, .inl f2870)), (q2847, .inl (I .int, 512, .inl f2871))]) (gV_ok D I) (ct_2927_Machine_put l hl0 D I q2845 z3010 0 f2869 ) d_cX7_step_191 ⟨w_6_94, w_1_12, w_6_96, by decide, rfl, (Nat.le_of_ble_eq_true rfl), (Nat.le_of_ble_eq_true rfl)⟩ w_6_95 [12] [0, 1, 2, 3, 4, 5, 6, 7, 8, 9, 10, 11, 13, 14] rfl rfl rfl rfl (by decide) (Nat.le_of_ble_eq_true rfl) (Nat.le_of_ble_eq_true rfl) (Nat.le_of_ble_eq_true rfl) (fun r w hp => ?_) (fun _ _ _ z => z.elim)
        obtain ⟨f3047, rfl, rfl, bf3047, ht3048⟩ := hp
        change G _ _ _ _ _ _ _ _ _ _ _
        refine G_ws (ws' := [(q2843, .inr (5, [.ref q2848, .ref q2849, .ref q2850, .ref q2851, .ref q2852, .ref q2853, .ref q2854, .ref q2855, .ref q2856, .int p2865, .int p2866, .int p2867])), (q2848, .inl (I .int, 40, .inl f2872)), (q2849, .inl (I .int, 40, .inl f2873)), (q2850, .inl (I .int, 40, .inl f2874)), (q2851, .inl (I .int, 200, .inl f2875)), (q2852, .inl (I .int, 200, .inl f2876)), (q2853, .inl (I .int, 200, .inl f2877)), (q2854, .inl (I .int, 200, .inl f2878)), (q2855, .inl (I .int, 200, .inl f2879)), (q2856, .inl (I .int, 200, .inl f2880)), (q2842, .inr (12, [.ref q2844, .ref q2845, .ref q2846, .ref q2847, .int p2858, .int p2859, .int p2860, .int p2861, .int p2862, .int p2863, .int p2864])), (q2844, .inl (I .int, 2048, .inl f2868)), (q2846, .inl (I .int, 100, .inl f2870)), (q2847, .inl (I .int, 512, .inl f2871)), (q2845, .inl (I .int, 100, .inl f3047))]) (cs' := 0) (sl' := 0) rfl rfl rfl ?_
        refine G_iload_n 4 d_cX7_step_194 rfl ?_
        refine G_iconst 1 d_cX7_step_195 (by decide +kernel) ?_
        refine G_iadd d_cX7_step_196 (G_nam fun z3049 hz3049 => ?_)
        have ez3049 : z3049.toInt = p2857.toInt + 1 := by rw [gI_add hz3049 bp2857 (gBl (show Int32.toInt 1 = 1 by decide)) (by decide) (by decide), show Int32.toInt 1 = 1 from by decide]
        have bz3049 : gB z3049 1 200 := gB_add (gI_add hz3049 bp2857 (gBl (show Int32.toInt 1 = 1 by decide)) (by decide) (by decide)) bp2857 (gBl (show Int32.toInt 1 = 1 by decide)) (by decide) (by decide)
        refine G_sub (ws' := [(q2842, .inr (12, [.ref q2844, .ref q2845, .ref q2846, .ref q2847, .int p2858, .int p2859, .int p2860, .int p2861, .int p2862, .int p2863, .int p2864])), (q2843, .inr (5, [.ref q2848, .ref q2849, .ref q2850, .ref q2851, .ref q2852, .ref q2853, .ref q2854, .ref q2855, .ref q2856, .int p2865, .int p2866, .int p2867])), (q2844, .inl (I .int, 2048, .inl f2868)), (q2845, .inl (I .int, 100, .inl f3047)), (q2846, .inl (I .int, 100, .inl f2870)), (q2847, .inl (I .int, 512, .inl f2871)), (q2848, .inl (I .int, 40, .inl f2872)), (q2849, .inl (I .int, 40, .inl f2873)), (q2850, .inl (I .int, 40, .inl f2874)), (q2851, .inl (I .int, 200, .inl f2875)), (q2852, .inl (I .int, 200, .inl f2876)), (q2853, .inl (I .int, 200, .inl f2877)), (q2854, .inl (I .int, 200, .inl f2878)), (q2855, .inl (I .int, 200, .inl f2879)), (q2856, .inl (I .int, 200, .inl f2880))]) [10, 0, 11, 14, 12, 13, 1, 2, 3, 4, 5, 6, 7, 8, 9] rfl rfl ?_
        exact G_iret d_cX7_step_197 rfl (Nat.le_of_ble_eq_true rfl) (Nat.le_of_ble_eq_true rfl) ⟨z3049, f3047, p2863, p2861, p2864, f2871, f2870, p2859, p2860, rfl, rfl, (gB_w bz3049 (by decide) (by decide)), bf3047, bp2863, bp2861, bp2864, (gF_any f2871), (gF_any f2870), bp2859, bp2860, (fun R c1 c2 c3 c4 c5 c6 c7 c8 c9 c10 c11 c12 c13 c14 c15 c16 c17 c18 c19 c20 c21 c22 c23 c24 c25 c26 c27 c28 c29 c30 c31 c32 c33 c34 c35 c36 c37 c38 => c5 z2882 z2883 z2884 z3010 z3011 f3047 z3049 hz2882 bz2882 hz2883 hz2884 r2912 ehs3009 hz3010 hz3011 r3038 ht3048 ez3049)⟩
      · have bz3011' : gB z3011 0 2147483647 := ⟨by omega, by omega⟩
        have bz3011'' : gB z3011 100 2147483647 := ⟨by omega, by omega⟩
        change G _ _ _ _ _ _ _ (.int 0 :: _) _ _ _
        refine G_ws (ws' := [(q2843, .inr (5, [.ref q2848, .ref q2849, .ref q2850, .ref q2851, .ref q2852, .ref q2853, .ref q2854, .ref q2855, .ref q2856, .int p2865, .int p2866, .int p2867])), (q2848, .inl (I .int, 40, .inl f2872)), (q2849, .inl (I .int, 40, .inl f2873)), (q2850, .inl (I .int, 40, .inl f2874)), (q2851, .inl (I .int, 200, .inl f2875)), (q2852, .inl (I .int, 200, .inl f2876)), (q2853, .inl (I .int, 200, .inl f2877)), (q2854, .inl (I .int, 200, .inl f2878)), (q2855, .inl (I .int, 200, .inl f2879)), (q2856, .inl (I .int, 200, .inl f2880)), (q2842, .inr (12, [.ref q2844, .ref q2845, .ref q2846, .ref q2847, .int p2858, .int p2859, .int p2860, .int p2861, .int p2862, .int p2863, .int p2864])), (q2844, .inl (I .int, 2048, .inl f2868)), (q2845, .inl (I .int, 100, .inl f2869)), (q2846, .inl (I .int, 100, .inl f2870)), (q2847, .inl (I .int, 512, .inl f2871))]) (cs' := 0) (sl' := 0) rfl rfl rfl ?_
        refine G_callS (As := [.ref q2845, .int z3010, .int 0]) (wr := [(q2843, .inr (5, [.ref q2848, .ref q2849, .ref q2850, .ref q2851, .ref q2852, .ref q2853, .ref q2854, .ref q2855, .ref q2856, .int p2865, .int p2866, .int p2867])), (q2848, .inl (I .int, 40, .inl f2872)), (q2849, .inl (I .int, 40, .inl f2873)), (q2850, .inl (I .int, 40, .inl f2874)), (q2851, .inl (I .int, 200, .inl f2875)), (q2852, .inl (I .int, 200, .inl f2876)), (q2853, .inl (I .int, 200, .inl f2877)), (q2854, .inl (I .int, 200, .inl f2878)), (q2855, .inl (I .int, 200, .inl f2879)), (q2856, .inl (I .int, 200, .inl f2880)), (q2842, .inr (12, [.ref q2844, .ref q2845, .ref q2846, .ref q2847, .int p2858, .int p2859, .int p2860, .int p2861, .int p2862, .int p2863, .int p2864])), (q2844, .inl (I .int, 2048, .inl f2868)), (q2846, .inl (I .int, 100, .inl f2870)), (q2847, .inl (I .int, 512, .inl f2871))]) (gV_ok D I) (ct_2927_Machine_put l hl0 D I q2845 z3010 0 f2869 ) d_cX7_step_191 ⟨w_6_94, w_1_12, w_6_96, by decide, rfl, (Nat.le_of_ble_eq_true rfl), (Nat.le_of_ble_eq_true rfl)⟩ w_6_95 [12] [0, 1, 2, 3, 4, 5, 6, 7, 8, 9, 10, 11, 13, 14] rfl rfl rfl rfl (by decide) (Nat.le_of_ble_eq_true rfl) (Nat.le_of_ble_eq_true rfl) (Nat.le_of_ble_eq_true rfl) (fun r w hp => ?_) (fun _ _ _ z => z.elim)
        obtain ⟨f3050, rfl, rfl, bf3050, ht3051⟩ := hp
        change G _ _ _ _ _ _ _ _ _ _ _
        refine G_ws (ws' := [(q2843, .inr (5, [.ref q2848, .ref q2849, .ref q2850, .ref q2851, .ref q2852, .ref q2853, .ref q2854, .ref q2855, .ref q2856, .int p2865, .int p2866, .int p2867])), (q2848, .inl (I .int, 40, .inl f2872)), (q2849, .inl (I .int, 40, .inl f2873)), (q2850, .inl (I .int, 40, .inl f2874)), (q2851, .inl (I .int, 200, .inl f2875)), (q2852, .inl (I .int, 200, .inl f2876)), (q2853, .inl (I .int, 200, .inl f2877)), (q2854, .inl (I .int, 200, .inl f2878)), (q2855, .inl (I .int, 200, .inl f2879)), (q2856, .inl (I .int, 200, .inl f2880)), (q2842, .inr (12, [.ref q2844, .ref q2845, .ref q2846, .ref q2847, .int p2858, .int p2859, .int p2860, .int p2861, .int p2862, .int p2863, .int p2864])), (q2844, .inl (I .int, 2048, .inl f2868)), (q2846, .inl (I .int, 100, .inl f2870)), (q2847, .inl (I .int, 512, .inl f2871)), (q2845, .inl (I .int, 100, .inl f3050))]) (cs' := 0) (sl' := 0) rfl rfl rfl ?_
        refine G_iload_n 4 d_cX7_step_194 rfl ?_
        refine G_iconst 1 d_cX7_step_195 (by decide +kernel) ?_
        refine G_iadd d_cX7_step_196 (G_nam fun z3052 hz3052 => ?_)
        have ez3052 : z3052.toInt = p2857.toInt + 1 := by rw [gI_add hz3052 bp2857 (gBl (show Int32.toInt 1 = 1 by decide)) (by decide) (by decide), show Int32.toInt 1 = 1 from by decide]
        have bz3052 : gB z3052 1 200 := gB_add (gI_add hz3052 bp2857 (gBl (show Int32.toInt 1 = 1 by decide)) (by decide) (by decide)) bp2857 (gBl (show Int32.toInt 1 = 1 by decide)) (by decide) (by decide)
        refine G_sub (ws' := [(q2842, .inr (12, [.ref q2844, .ref q2845, .ref q2846, .ref q2847, .int p2858, .int p2859, .int p2860, .int p2861, .int p2862, .int p2863, .int p2864])), (q2843, .inr (5, [.ref q2848, .ref q2849, .ref q2850, .ref q2851, .ref q2852, .ref q2853, .ref q2854, .ref q2855, .ref q2856, .int p2865, .int p2866, .int p2867])), (q2844, .inl (I .int, 2048, .inl f2868)), (q2845, .inl (I .int, 100, .inl f3050)), (q2846, .inl (I .int, 100, .inl f2870)), (q2847, .inl (I .int, 512, .inl f2871)), (q2848, .inl (I .int, 40, .inl f2872)), (q2849, .inl (I .int, 40, .inl f2873)), (q2850, .inl (I .int, 40, .inl f2874)), (q2851, .inl (I .int, 200, .inl f2875)), (q2852, .inl (I .int, 200, .inl f2876)), (q2853, .inl (I .int, 200, .inl f2877)), (q2854, .inl (I .int, 200, .inl f2878)), (q2855, .inl (I .int, 200, .inl f2879)), (q2856, .inl (I .int, 200, .inl f2880))]) [10, 0, 11, 14, 12, 13, 1, 2, 3, 4, 5, 6, 7, 8, 9] rfl rfl ?_
        exact G_iret d_cX7_step_197 rfl (Nat.le_of_ble_eq_true rfl) (Nat.le_of_ble_eq_true rfl) ⟨z3052, f3050, p2863, p2861, p2864, f2871, f2870, p2859, p2860, rfl, rfl, (gB_w bz3052 (by decide) (by decide)), bf3050, bp2863, bp2861, bp2864, (gF_any f2871), (gF_any f2870), bp2859, bp2860, (fun R c1 c2 c3 c4 c5 c6 c7 c8 c9 c10 c11 c12 c13 c14 c15 c16 c17 c18 c19 c20 c21 c22 c23 c24 c25 c26 c27 c28 c29 c30 c31 c32 c33 c34 c35 c36 c37 c38 => c5 z2882 z2883 z2884 z3010 z3011 f3050 z3052 hz2882 bz2882 hz2883 hz2884 r2912 ehs3009 hz3010 hz3011 r3041 ht3051 ez3052)⟩
      · have bz3011' : gB z3011 0 2147483647 := ⟨by omega, by omega⟩
        have bz3011'' : gB z3011 0 99 := ⟨by omega, by omega⟩
        change G _ _ _ _ _ _ _ (.int z3042 :: _) _ _ _
        refine G_ws (ws' := [(q2843, .inr (5, [.ref q2848, .ref q2849, .ref q2850, .ref q2851, .ref q2852, .ref q2853, .ref q2854, .ref q2855, .ref q2856, .int p2865, .int p2866, .int p2867])), (q2848, .inl (I .int, 40, .inl f2872)), (q2849, .inl (I .int, 40, .inl f2873)), (q2850, .inl (I .int, 40, .inl f2874)), (q2851, .inl (I .int, 200, .inl f2875)), (q2852, .inl (I .int, 200, .inl f2876)), (q2853, .inl (I .int, 200, .inl f2877)), (q2854, .inl (I .int, 200, .inl f2878)), (q2855, .inl (I .int, 200, .inl f2879)), (q2856, .inl (I .int, 200, .inl f2880)), (q2842, .inr (12, [.ref q2844, .ref q2845, .ref q2846, .ref q2847, .int p2858, .int p2859, .int p2860, .int p2861, .int p2862, .int p2863, .int p2864])), (q2844, .inl (I .int, 2048, .inl f2868)), (q2845, .inl (I .int, 100, .inl f2869)), (q2846, .inl (I .int, 100, .inl f2870)), (q2847, .inl (I .int, 512, .inl f2871))]) (cs' := 0) (sl' := 0) rfl rfl rfl ?_
        refine G_callS (As := [.ref q2845, .int z3010, .int z3042]) (wr := [(q2843, .inr (5, [.ref q2848, .ref q2849, .ref q2850, .ref q2851, .ref q2852, .ref q2853, .ref q2854, .ref q2855, .ref q2856, .int p2865, .int p2866, .int p2867])), (q2848, .inl (I .int, 40, .inl f2872)), (q2849, .inl (I .int, 40, .inl f2873)), (q2850, .inl (I .int, 40, .inl f2874)), (q2851, .inl (I .int, 200, .inl f2875)), (q2852, .inl (I .int, 200, .inl f2876)), (q2853, .inl (I .int, 200, .inl f2877)), (q2854, .inl (I .int, 200, .inl f2878)), (q2855, .inl (I .int, 200, .inl f2879)), (q2856, .inl (I .int, 200, .inl f2880)), (q2842, .inr (12, [.ref q2844, .ref q2845, .ref q2846, .ref q2847, .int p2858, .int p2859, .int p2860, .int p2861, .int p2862, .int p2863, .int p2864])), (q2844, .inl (I .int, 2048, .inl f2868)), (q2846, .inl (I .int, 100, .inl f2870)), (q2847, .inl (I .int, 512, .inl f2871))]) (gV_ok D I) (ct_2927_Machine_put l hl0 D I q2845 z3010 z3042 f2869 ) d_cX7_step_191 ⟨w_6_94, w_1_12, w_6_96, by decide, rfl, (Nat.le_of_ble_eq_true rfl), (Nat.le_of_ble_eq_true rfl)⟩ w_6_95 [12] [0, 1, 2, 3, 4, 5, 6, 7, 8, 9, 10, 11, 13, 14] rfl rfl rfl rfl (by decide) (Nat.le_of_ble_eq_true rfl) (Nat.le_of_ble_eq_true rfl) (Nat.le_of_ble_eq_true rfl) (fun r w hp => ?_) (fun _ _ _ z => z.elim)
        obtain ⟨f3053, rfl, rfl, bf3053, ht3054⟩ := hp
        change G _ _ _ _ _ _ _ _ _ _ _
        refine G_ws (ws' := [(q2843, .inr (5, [.ref q2848, .ref q2849, .ref q2850, .ref q2851, .ref q2852, .ref q2853, .ref q2854, .ref q2855, .ref q2856, .int p2865, .int p2866, .int p2867])), (q2848, .inl (I .int, 40, .inl f2872)), (q2849, .inl (I .int, 40, .inl f2873)), (q2850, .inl (I .int, 40, .inl f2874)), (q2851, .inl (I .int, 200, .inl f2875)), (q2852, .inl (I .int, 200, .inl f2876)), (q2853, .inl (I .int, 200, .inl f2877)), (q2854, .inl (I .int, 200, .inl f2878)), (q2855, .inl (I .int, 200, .inl f2879)), (q2856, .inl (I .int, 200, .inl f2880)), (q2842, .inr (12, [.ref q2844, .ref q2845, .ref q2846, .ref q2847, .int p2858, .int p2859, .int p2860, .int p2861, .int p2862, .int p2863, .int p2864])), (q2844, .inl (I .int, 2048, .inl f2868)), (q2846, .inl (I .int, 100, .inl f2870)), (q2847, .inl (I .int, 512, .inl f2871)), (q2845, .inl (I .int, 100, .inl f3053))]) (cs' := 0) (sl' := 0) rfl rfl rfl ?_
        refine G_iload_n 4 d_cX7_step_194 rfl ?_
        refine G_iconst 1 d_cX7_step_195 (by decide +kernel) ?_
        refine G_iadd d_cX7_step_196 (G_nam fun z3055 hz3055 => ?_)
        have ez3055 : z3055.toInt = p2857.toInt + 1 := by rw [gI_add hz3055 bp2857 (gBl (show Int32.toInt 1 = 1 by decide)) (by decide) (by decide), show Int32.toInt 1 = 1 from by decide]
        have bz3055 : gB z3055 1 200 := gB_add (gI_add hz3055 bp2857 (gBl (show Int32.toInt 1 = 1 by decide)) (by decide) (by decide)) bp2857 (gBl (show Int32.toInt 1 = 1 by decide)) (by decide) (by decide)
        refine G_sub (ws' := [(q2842, .inr (12, [.ref q2844, .ref q2845, .ref q2846, .ref q2847, .int p2858, .int p2859, .int p2860, .int p2861, .int p2862, .int p2863, .int p2864])), (q2843, .inr (5, [.ref q2848, .ref q2849, .ref q2850, .ref q2851, .ref q2852, .ref q2853, .ref q2854, .ref q2855, .ref q2856, .int p2865, .int p2866, .int p2867])), (q2844, .inl (I .int, 2048, .inl f2868)), (q2845, .inl (I .int, 100, .inl f3053)), (q2846, .inl (I .int, 100, .inl f2870)), (q2847, .inl (I .int, 512, .inl f2871)), (q2848, .inl (I .int, 40, .inl f2872)), (q2849, .inl (I .int, 40, .inl f2873)), (q2850, .inl (I .int, 40, .inl f2874)), (q2851, .inl (I .int, 200, .inl f2875)), (q2852, .inl (I .int, 200, .inl f2876)), (q2853, .inl (I .int, 200, .inl f2877)), (q2854, .inl (I .int, 200, .inl f2878)), (q2855, .inl (I .int, 200, .inl f2879)), (q2856, .inl (I .int, 200, .inl f2880))]) [10, 0, 11, 14, 12, 13, 1, 2, 3, 4, 5, 6, 7, 8, 9] rfl rfl ?_
        exact G_iret d_cX7_step_197 rfl (Nat.le_of_ble_eq_true rfl) (Nat.le_of_ble_eq_true rfl) ⟨z3055, f3053, p2863, p2861, p2864, f2871, f2870, p2859, p2860, rfl, rfl, (gB_w bz3055 (by decide) (by decide)), bf3053, bp2863, bp2861, bp2864, (gF_any f2871), (gF_any f2870), bp2859, bp2860, (fun R c1 c2 c3 c4 c5 c6 c7 c8 c9 c10 c11 c12 c13 c14 c15 c16 c17 c18 c19 c20 c21 c22 c23 c24 c25 c26 c27 c28 c29 c30 c31 c32 c33 c34 c35 c36 c37 c38 => c6 z2882 z2883 z2884 z3010 z3011 z3042 f3053 z3055 hz2882 bz2882 hz2883 hz2884 r2912 ehs3009 hz3010 hz3011 r3046 ht3054 ez3055)⟩
    by_cases hs3056 : z2882 = 18
    · have ehs3056 : z2882.toInt = 18 := gj_eq hs3056 (show Int32.toInt 18 = 18 by decide)
      have bz2882' : gB z2882 18 18 := ⟨by omega, by omega⟩
      refine G_eqi (y := 18) hs3056 ?_
      refine G_tableIn 152 d_cX7_step_26 (by decide) (by decide) (by first | rfl | decide) (by decide) ?_
      refine G_aload_n 2 d_cX7_step_152 rfl ?_
      refine G_getf 10 2 d_cX7_step_153 rfl (gk_X7 D I) (Nat.le_of_ble_eq_true rfl) w_2_162 rfl ?_
      refine G_aload_n 3 d_cX7_step_156 rfl ?_
      refine G_getfN 0 8 d_cX7_step_157 rfl (gk_X0 D I) (Nat.le_of_ble_eq_true rfl) (fun _ _ _ h => gn_w 35 rfl h) rfl ?_
      refine G_iload_n 4 d_cX7_step_160 rfl ?_
      refine G_iald 9 0 d_cX7_step_161 rfl rfl (gB_in bp2857 (by decide) (by decide)) (G_nam fun z3057 hz3057 => ?_)
      have bz3057 : gB z3057 (-2147483648) 2147483647 := gB_any z3057
      refine G_iload 0 d_cX7_step_162 rfl ?_
      refine G_callS (As := [.ref q2846, .int z3057, .int z2884]) (wr := [(q2843, .inr (5, [.ref q2848, .ref q2849, .ref q2850, .ref q2851, .ref q2852, .ref q2853, .ref q2854, .ref q2855, .ref q2856, .int p2865, .int p2866, .int p2867])), (q2848, .inl (I .int, 40, .inl f2872)), (q2849, .inl (I .int, 40, .inl f2873)), (q2850, .inl (I .int, 40, .inl f2874)), (q2851, .inl (I .int, 200, .inl f2875)), (q2852, .inl (I .int, 200, .inl f2876)), (q2853, .inl (I .int, 200, .inl f2877)), (q2854, .inl (I .int, 200, .inl f2878)), (q2855, .inl (I .int, 200, .inl f2879)), (q2856, .inl (I .int, 200, .inl f2880)), (q2842, .inr (12, [.ref q2844, .ref q2845, .ref q2846, .ref q2847, .int p2858, .int p2859, .int p2860, .int p2861, .int p2862, .int p2863, .int p2864])), (q2844, .inl (I .int, 2048, .inl f2868)), (q2845, .inl (I .int, 100, .inl f2869)), (q2847, .inl (I .int, 512, .inl f2871))]) (gV_ok D I) (ct_2927_Machine_put l hl0 D I q2846 z3057 z2884 f2870 ) d_cX7_step_164 ⟨w_6_94, w_1_12, w_6_96, by decide, rfl, (Nat.le_of_ble_eq_true rfl), (Nat.le_of_ble_eq_true rfl)⟩ w_6_95 [13] [0, 1, 2, 3, 4, 5, 6, 7, 8, 9, 10, 11, 12, 14] rfl rfl rfl rfl (by decide) (Nat.le_of_ble_eq_true rfl) (Nat.le_of_ble_eq_true rfl) (Nat.le_of_ble_eq_true rfl) (fun r w hp => ?_) (fun _ _ _ z => z.elim)
      obtain ⟨f3058, rfl, rfl, bf3058, ht3059⟩ := hp
      change G _ _ _ _ _ _ _ _ _ _ _
      refine G_ws (ws' := [(q2843, .inr (5, [.ref q2848, .ref q2849, .ref q2850, .ref q2851, .ref q2852, .ref q2853, .ref q2854, .ref q2855, .ref q2856, .int p2865, .int p2866, .int p2867])), (q2848, .inl (I .int, 40, .inl f2872)), (q2849, .inl (I .int, 40, .inl f2873)), (q2850, .inl (I .int, 40, .inl f2874)), (q2851, .inl (I .int, 200, .inl f2875)), (q2852, .inl (I .int, 200, .inl f2876)), (q2853, .inl (I .int, 200, .inl f2877)), (q2854, .inl (I .int, 200, .inl f2878)), (q2855, .inl (I .int, 200, .inl f2879)), (q2856, .inl (I .int, 200, .inl f2880)), (q2842, .inr (12, [.ref q2844, .ref q2845, .ref q2846, .ref q2847, .int p2858, .int p2859, .int p2860, .int p2861, .int p2862, .int p2863, .int p2864])), (q2844, .inl (I .int, 2048, .inl f2868)), (q2845, .inl (I .int, 100, .inl f2869)), (q2847, .inl (I .int, 512, .inl f2871)), (q2846, .inl (I .int, 100, .inl f3058))]) (cs' := 0) (sl' := 0) rfl rfl rfl ?_
      refine G_iload_n 4 d_cX7_step_167 rfl ?_
      refine G_iconst 1 d_cX7_step_168 (by decide +kernel) ?_
      refine G_iadd d_cX7_step_169 (G_nam fun z3060 hz3060 => ?_)
      have ez3060 : z3060.toInt = p2857.toInt + 1 := by rw [gI_add hz3060 bp2857 (gBl (show Int32.toInt 1 = 1 by decide)) (by decide) (by decide), show Int32.toInt 1 = 1 from by decide]
      have bz3060 : gB z3060 1 200 := gB_add (gI_add hz3060 bp2857 (gBl (show Int32.toInt 1 = 1 by decide)) (by decide) (by decide)) bp2857 (gBl (show Int32.toInt 1 = 1 by decide)) (by decide) (by decide)
      refine G_sub (ws' := [(q2842, .inr (12, [.ref q2844, .ref q2845, .ref q2846, .ref q2847, .int p2858, .int p2859, .int p2860, .int p2861, .int p2862, .int p2863, .int p2864])), (q2843, .inr (5, [.ref q2848, .ref q2849, .ref q2850, .ref q2851, .ref q2852, .ref q2853, .ref q2854, .ref q2855, .ref q2856, .int p2865, .int p2866, .int p2867])), (q2844, .inl (I .int, 2048, .inl f2868)), (q2845, .inl (I .int, 100, .inl f2869)), (q2846, .inl (I .int, 100, .inl f3058)), (q2847, .inl (I .int, 512, .inl f2871)), (q2848, .inl (I .int, 40, .inl f2872)), (q2849, .inl (I .int, 40, .inl f2873)), (q2850, .inl (I .int, 40, .inl f2874)), (q2851, .inl (I .int, 200, .inl f2875)), (q2852, .inl (I .int, 200, .inl f2876)), (q2853, .inl (I .int, 200, .inl f2877)), (q2854, .inl (I .int, 200, .inl f2878)), (q2855, .inl (I .int, 200, .inl f2879)), (q2856, .inl (I .int, 200, .inl f2880))]) [10, 0, 11, 12, 14, 13, 1, 2, 3, 4, 5, 6, 7, 8, 9] rfl rfl ?_
      exact G_iret d_cX7_step_170 rfl (Nat.le_of_ble_eq_true rfl) (Nat.le_of_ble_eq_true rfl) ⟨z3060, f2869, p2863, p2861, p2864, f2871, f3058, p2859, p2860, rfl, rfl, (gB_w bz3060 (by decide) (by decide)), (gF_any f2869), bp2863, bp2861, bp2864, (gF_any f2871), bf3058, bp2859, bp2860, (fun R c1 c2 c3 c4 c5 c6 c7 c8 c9 c10 c11 c12 c13 c14 c15 c16 c17 c18 c19 c20 c21 c22 c23 c24 c25 c26 c27 c28 c29 c30 c31 c32 c33 c34 c35 c36 c37 c38 => c7 z2882 z2883 z2884 z3057 f3058 z3060 hz2882 bz2882 hz2883 hz2884 r2912 ehs3056 hz3057 ht3059 ez3060)⟩
    by_cases hs3061 : z2882 = 19
    · have ehs3061 : z2882.toInt = 19 := gj_eq hs3061 (show Int32.toInt 19 = 19 by decide)
      have bz2882' : gB z2882 19 19 := ⟨by omega, by omega⟩
      refine G_eqi (y := 19) hs3061 ?_
      refine G_tableIn 72 d_cX7_step_26 (by decide) (by decide) (by first | rfl | decide) (by decide) ?_
      refine G_aload_n 2 d_cX7_step_72 rfl ?_
      refine G_aload_n 3 d_cX7_step_73 rfl ?_
      refine G_aload_n 3 d_cX7_step_74 rfl ?_
      refine G_getfN 0 1 d_cX7_step_75 rfl (gk_X0 D I) (Nat.le_of_ble_eq_true rfl) (fun _ _ _ h => gn_w 10 rfl h) rfl ?_
      refine G_aload_n 2 d_cX7_step_78 rfl ?_
      refine G_getf 10 5 d_cX7_step_79 rfl (gk_X7 D I) (Nat.le_of_ble_eq_true rfl) w_2_165 rfl ?_
      refine G_iald 2 0 d_cX7_step_82 rfl rfl (gB_in bp2859 (by decide) (by decide)) (G_nam fun z3062 hz3062 => ?_)
      have bz3062 : gB z3062 (-2147483648) 2147483647 := gB_any z3062
      refine G_callV (As := [.ref q2843, .int z3062]) (wr := []) (gV_ok D I) (ct_3102_Machine_enter l hl0 D I q2842 q2843 q2844 q2845 q2846 q2847 q2848 q2849 q2850 q2851 q2852 q2853 q2854 q2855 q2856 z3062 p2858 p2859 p2860 p2861 p2862 p2863 p2864 p2865 p2866 p2867 f2868 f2869 f2870 f2871 f2872 f2873 f2874 f2875 f2876 f2877 f2878 f2879 f2880 bp2858 bp2859 bp2861 bp2863 bp2865 bp2866 bp2867 bf2872 bf2875) d_cX7_step_83 ⟨w_6_82, w_1_12, w_6_85, by decide, rfl, (Nat.le_of_ble_eq_true rfl), (Nat.le_of_ble_eq_true rfl)⟩ w_6_84 w_p_59 10 rfl rfl [10, 0, 11, 12, 13, 14, 1, 2, 3, 4, 5, 6, 7, 8, 9] [] rfl rfl rfl rfl (by decide) (Nat.le_of_ble_eq_true rfl) (Nat.le_of_ble_eq_true rfl) (Nat.le_of_ble_eq_true rfl) (fun r w hp => ?_) (fun _ _ _ z => z.elim)
      obtain ⟨o3117, o3118, o3119, rfl, rfl, bo3117, bo3118, bo3119, ht3120⟩ := hp
      change G _ _ _ _ _ _ _ (.int o3117 :: _) _ _ _
      refine G_ws (ws' := [(q2842, .inr (12, [.ref q2844, .ref q2845, .ref q2846, .ref q2847, .int p2858, .int o3119, .int p2860, .int p2861, .int p2862, .int p2863, .int o3118])), (q2843, .inr (5, [.ref q2848, .ref q2849, .ref q2850, .ref q2851, .ref q2852, .ref q2853, .ref q2854, .ref q2855, .ref q2856, .int p2865, .int p2866, .int p2867])), (q2844, .inl (I .int, 2048, .inl f2868)), (q2845, .inl (I .int, 100, .inl f2869)), (q2846, .inl (I .int, 100, .inl f2870)), (q2847, .inl (I .int, 512, .inl f2871)), (q2848, .inl (I .int, 40, .inl f2872)), (q2849, .inl (I .int, 40, .inl f2873)), (q2850, .inl (I .int, 40, .inl f2874)), (q2851, .inl (I .int, 200, .inl f2875)), (q2852, .inl (I .int, 200, .inl f2876)), (q2853, .inl (I .int, 200, .inl f2877)), (q2854, .inl (I .int, 200, .inl f2878)), (q2855, .inl (I .int, 200, .inl f2879)), (q2856, .inl (I .int, 200, .inl f2880))]) (cs' := 0) (sl' := 0) rfl rfl rfl ?_
      exact G_iret d_cX7_step_86 rfl (Nat.le_of_ble_eq_true rfl) (Nat.le_of_ble_eq_true rfl) ⟨o3117, f2869, p2863, p2861, o3118, f2871, f2870, o3119, p2860, rfl, rfl, bo3117, (gF_any f2869), bp2863, bp2861, bo3118, (gF_any f2871), (gF_any f2870), bo3119, bp2860, (fun R c1 c2 c3 c4 c5 c6 c7 c8 c9 c10 c11 c12 c13 c14 c15 c16 c17 c18 c19 c20 c21 c22 c23 c24 c25 c26 c27 c28 c29 c30 c31 c32 c33 c34 c35 c36 c37 c38 => c8 z2882 z2883 z2884 z3062 o3117 o3118 o3119 hz2882 bz2882 hz2883 hz2884 r2912 ehs3061 hz3062 bo3117 bo3119 ht3120)⟩
    by_cases hs3121 : z2882 = 20
    · have ehs3121 : z2882.toInt = 20 := gj_eq hs3121 (show Int32.toInt 20 = 20 by decide)
      have bz2882' : gB z2882 20 20 := ⟨by omega, by omega⟩
      refine G_eqi (y := 20) hs3121 ?_
      refine G_tableIn 87 d_cX7_step_26 (by decide) (by decide) (by first | rfl | decide) (by decide) ?_
      refine G_aload_n 2 d_cX7_step_87 rfl ?_
      refine G_aload_n 3 d_cX7_step_88 rfl ?_
      refine G_iload 0 d_cX7_step_89 rfl ?_
      refine G_if_eq 106 d_cX7_step_91 (by decide +kernel) (fun hc3122 => ?_) (fun hc3122 => ?_)
      · have r3123 : z2884.toInt = 0 := gj_eq hc3122 (show Int32.toInt 0 = 0 by decide)
        have bz2884' : gB z2884 0 0 := ⟨by omega, by omega⟩
        refine G_aload_n 3 d_cX7_step_106 rfl ?_
        refine G_getfN 0 2 d_cX7_step_107 rfl (gk_X0 D I) (Nat.le_of_ble_eq_true rfl) (fun _ _ _ h => gn_w 14 rfl h) rfl ?_
        refine G_aload_n 2 d_cX7_step_110 rfl ?_
        refine G_getf 10 5 d_cX7_step_111 rfl (gk_X7 D I) (Nat.le_of_ble_eq_true rfl) w_2_165 rfl ?_
        refine G_iald 3 0 d_cX7_step_114 rfl rfl (gB_in bp2859 (by decide) (by decide)) (G_nam fun z3124 hz3124 => ?_)
        have bz3124 : gB z3124 (-2147483648) 2147483647 := gB_any z3124
        refine G_callV (As := [.ref q2843, .int z3124]) (wr := []) (gV_ok D I) (ct_3102_Machine_enter l hl0 D I q2842 q2843 q2844 q2845 q2846 q2847 q2848 q2849 q2850 q2851 q2852 q2853 q2854 q2855 q2856 z3124 p2858 p2859 p2860 p2861 p2862 p2863 p2864 p2865 p2866 p2867 f2868 f2869 f2870 f2871 f2872 f2873 f2874 f2875 f2876 f2877 f2878 f2879 f2880 bp2858 bp2859 bp2861 bp2863 bp2865 bp2866 bp2867 bf2872 bf2875) d_cX7_step_115 ⟨w_6_82, w_1_12, w_6_85, by decide, rfl, (Nat.le_of_ble_eq_true rfl), (Nat.le_of_ble_eq_true rfl)⟩ w_6_84 w_p_59 10 rfl rfl [10, 0, 11, 12, 13, 14, 1, 2, 3, 4, 5, 6, 7, 8, 9] [] rfl rfl rfl rfl (by decide) (Nat.le_of_ble_eq_true rfl) (Nat.le_of_ble_eq_true rfl) (Nat.le_of_ble_eq_true rfl) (fun r w hp => ?_) (fun _ _ _ z => z.elim)
        obtain ⟨o3125, o3126, o3127, rfl, rfl, bo3125, bo3126, bo3127, ht3128⟩ := hp
        change G _ _ _ _ _ _ _ (.int o3125 :: _) _ _ _
        refine G_ws (ws' := [(q2842, .inr (12, [.ref q2844, .ref q2845, .ref q2846, .ref q2847, .int p2858, .int o3127, .int p2860, .int p2861, .int p2862, .int p2863, .int o3126])), (q2843, .inr (5, [.ref q2848, .ref q2849, .ref q2850, .ref q2851, .ref q2852, .ref q2853, .ref q2854, .ref q2855, .ref q2856, .int p2865, .int p2866, .int p2867])), (q2844, .inl (I .int, 2048, .inl f2868)), (q2845, .inl (I .int, 100, .inl f2869)), (q2846, .inl (I .int, 100, .inl f2870)), (q2847, .inl (I .int, 512, .inl f2871)), (q2848, .inl (I .int, 40, .inl f2872)), (q2849, .inl (I .int, 40, .inl f2873)), (q2850, .inl (I .int, 40, .inl f2874)), (q2851, .inl (I .int, 200, .inl f2875)), (q2852, .inl (I .int, 200, .inl f2876)), (q2853, .inl (I .int, 200, .inl f2877)), (q2854, .inl (I .int, 200, .inl f2878)), (q2855, .inl (I .int, 200, .inl f2879)), (q2856, .inl (I .int, 200, .inl f2880))]) (cs' := 0) (sl' := 0) rfl rfl rfl ?_
        exact G_iret d_cX7_step_118 rfl (Nat.le_of_ble_eq_true rfl) (Nat.le_of_ble_eq_true rfl) ⟨o3125, f2869, p2863, p2861, o3126, f2871, f2870, o3127, p2860, rfl, rfl, bo3125, (gF_any f2869), bp2863, bp2861, bo3126, (gF_any f2871), (gF_any f2870), bo3127, bp2860, (fun R c1 c2 c3 c4 c5 c6 c7 c8 c9 c10 c11 c12 c13 c14 c15 c16 c17 c18 c19 c20 c21 c22 c23 c24 c25 c26 c27 c28 c29 c30 c31 c32 c33 c34 c35 c36 c37 c38 => c9 z2882 z2883 z2884 z3124 o3125 o3126 o3127 hz2882 bz2882 hz2883 hz2884 r2912 ehs3121 r3123 hz3124 bo3125 bo3127 ht3128)⟩
      · have r3129 : z2884.toInt ≠ 0 := gj_neq hc3122 (show Int32.toInt 0 = 0 by decide)
        refine G_aload_n 3 d_cX7_step_94 rfl ?_
        refine G_getfN 0 1 d_cX7_step_95 rfl (gk_X0 D I) (Nat.le_of_ble_eq_true rfl) (fun _ _ _ h => gn_w 10 rfl h) rfl ?_
        refine G_aload_n 2 d_cX7_step_98 rfl ?_
        refine G_getf 10 5 d_cX7_step_99 rfl (gk_X7 D I) (Nat.le_of_ble_eq_true rfl) w_2_165 rfl ?_
        refine G_iald 2 0 d_cX7_step_102 rfl rfl (gB_in bp2859 (by decide) (by decide)) (G_nam fun z3130 hz3130 => ?_)
        have bz3130 : gB z3130 (-2147483648) 2147483647 := gB_any z3130
        refine G_goto 115 d_cX7_step_103 (by decide +kernel) ?_
        refine G_callV (As := [.ref q2843, .int z3130]) (wr := []) (gV_ok D I) (ct_3102_Machine_enter l hl0 D I q2842 q2843 q2844 q2845 q2846 q2847 q2848 q2849 q2850 q2851 q2852 q2853 q2854 q2855 q2856 z3130 p2858 p2859 p2860 p2861 p2862 p2863 p2864 p2865 p2866 p2867 f2868 f2869 f2870 f2871 f2872 f2873 f2874 f2875 f2876 f2877 f2878 f2879 f2880 bp2858 bp2859 bp2861 bp2863 bp2865 bp2866 bp2867 bf2872 bf2875) d_cX7_step_115 ⟨w_6_82, w_1_12, w_6_85, by decide, rfl, (Nat.le_of_ble_eq_true rfl), (Nat.le_of_ble_eq_true rfl)⟩ w_6_84 w_p_59 10 rfl rfl [10, 0, 11, 12, 13, 14, 1, 2, 3, 4, 5, 6, 7, 8, 9] [] rfl rfl rfl rfl (by decide) (Nat.le_of_ble_eq_true rfl) (Nat.le_of_ble_eq_true rfl) (Nat.le_of_ble_eq_true rfl) (fun r w hp => ?_) (fun _ _ _ z => z.elim)
        obtain ⟨o3131, o3132, o3133, rfl, rfl, bo3131, bo3132, bo3133, ht3134⟩ := hp
        change G _ _ _ _ _ _ _ (.int o3131 :: _) _ _ _
        refine G_ws (ws' := [(q2842, .inr (12, [.ref q2844, .ref q2845, .ref q2846, .ref q2847, .int p2858, .int o3133, .int p2860, .int p2861, .int p2862, .int p2863, .int o3132])), (q2843, .inr (5, [.ref q2848, .ref q2849, .ref q2850, .ref q2851, .ref q2852, .ref q2853, .ref q2854, .ref q2855, .ref q2856, .int p2865, .int p2866, .int p2867])), (q2844, .inl (I .int, 2048, .inl f2868)), (q2845, .inl (I .int, 100, .inl f2869)), (q2846, .inl (I .int, 100, .inl f2870)), (q2847, .inl (I .int, 512, .inl f2871)), (q2848, .inl (I .int, 40, .inl f2872)), (q2849, .inl (I .int, 40, .inl f2873)), (q2850, .inl (I .int, 40, .inl f2874)), (q2851, .inl (I .int, 200, .inl f2875)), (q2852, .inl (I .int, 200, .inl f2876)), (q2853, .inl (I .int, 200, .inl f2877)), (q2854, .inl (I .int, 200, .inl f2878)), (q2855, .inl (I .int, 200, .inl f2879)), (q2856, .inl (I .int, 200, .inl f2880))]) (cs' := 0) (sl' := 0) rfl rfl rfl ?_
        exact G_iret d_cX7_step_118 rfl (Nat.le_of_ble_eq_true rfl) (Nat.le_of_ble_eq_true rfl) ⟨o3131, f2869, p2863, p2861, o3132, f2871, f2870, o3133, p2860, rfl, rfl, bo3131, (gF_any f2869), bp2863, bp2861, bo3132, (gF_any f2871), (gF_any f2870), bo3133, bp2860, (fun R c1 c2 c3 c4 c5 c6 c7 c8 c9 c10 c11 c12 c13 c14 c15 c16 c17 c18 c19 c20 c21 c22 c23 c24 c25 c26 c27 c28 c29 c30 c31 c32 c33 c34 c35 c36 c37 c38 => c10 z2882 z2883 z2884 z3130 o3131 o3132 o3133 hz2882 bz2882 hz2883 hz2884 r2912 ehs3121 r3129 hz3130 bo3131 bo3133 ht3134)⟩
    by_cases hs3135 : z2882 = 21
    · have ehs3135 : z2882.toInt = 21 := gj_eq hs3135 (show Int32.toInt 21 = 21 by decide)
      have bz2882' : gB z2882 21 21 := ⟨by omega, by omega⟩
      refine G_eqi (y := 21) hs3135 ?_
      refine G_tableIn 119 d_cX7_step_26 (by decide) (by decide) (by first | rfl | decide) (by decide) ?_
      refine G_aload_n 2 d_cX7_step_119 rfl ?_
      refine G_iload 0 d_cX7_step_120 rfl ?_
      refine G_putf (ws' := [(q2843, .inr (5, [.ref q2848, .ref q2849, .ref q2850, .ref q2851, .ref q2852, .ref q2853, .ref q2854, .ref q2855, .ref q2856, .int p2865, .int p2866, .int p2867])), (q2848, .inl (I .int, 40, .inl f2872)), (q2849, .inl (I .int, 40, .inl f2873)), (q2850, .inl (I .int, 40, .inl f2874)), (q2851, .inl (I .int, 200, .inl f2875)), (q2852, .inl (I .int, 200, .inl f2876)), (q2853, .inl (I .int, 200, .inl f2877)), (q2854, .inl (I .int, 200, .inl f2878)), (q2855, .inl (I .int, 200, .inl f2879)), (q2856, .inl (I .int, 200, .inl f2880)), (q2842, .inr (12, [.ref q2844, .ref q2845, .ref q2846, .ref q2847, .int p2858, .int p2859, .int z2884, .int p2861, .int p2862, .int p2863, .int p2864])), (q2844, .inl (I .int, 2048, .inl f2868)), (q2845, .inl (I .int, 100, .inl f2869)), (q2846, .inl (I .int, 100, .inl f2870)), (q2847, .inl (I .int, 512, .inl f2871))]) 10 6 d_cX7_step_122 rfl (gk_X7 D I) (Nat.le_of_ble_eq_true rfl) w_2_166 rfl rfl rfl (Nat.le_of_ble_eq_true rfl) rfl ?_
      refine G_aload_n 2 d_cX7_step_125 rfl ?_
      refine G_iconst 0 d_cX7_step_126 (by decide +kernel) ?_
      refine G_callV (As := [.int 0]) (wr := [(q2843, .inr (5, [.ref q2848, .ref q2849, .ref q2850, .ref q2851, .ref q2852, .ref q2853, .ref q2854, .ref q2855, .ref q2856, .int p2865, .int p2866, .int p2867])), (q2848, .inl (I .int, 40, .inl f2872)), (q2849, .inl (I .int, 40, .inl f2873)), (q2850, .inl (I .int, 40, .inl f2874)), (q2851, .inl (I .int, 200, .inl f2875)), (q2852, .inl (I .int, 200, .inl f2876)), (q2853, .inl (I .int, 200, .inl f2877)), (q2854, .inl (I .int, 200, .inl f2878)), (q2855, .inl (I .int, 200, .inl f2879)), (q2856, .inl (I .int, 200, .inl f2880))]) (gV_ok D I) (ct_2837_Machine_halt l hl0 D I q2842 q2844 q2845 q2846 q2847 0 p2858 p2859 z2884 p2861 p2862 p2863 p2864 f2868 f2869 f2870 f2871 bp2858 bp2859 bp2861 bp2863) d_cX7_step_127 ⟨w_6_86, w_1_12, w_6_89, by decide, rfl, (Nat.le_of_ble_eq_true rfl), (Nat.le_of_ble_eq_true rfl)⟩ w_6_88 w_p_60 10 rfl rfl [10, 11, 12, 13, 14] [0, 1, 2, 3, 4, 5, 6, 7, 8, 9] rfl rfl rfl rfl (by decide) (Nat.le_of_ble_eq_true rfl) (Nat.le_of_ble_eq_true rfl) (Nat.le_of_ble_eq_true rfl) (fun r w hp => ?_) (fun _ _ _ z => z.elim)
      obtain ⟨o3136, rfl, rfl, bo3136, ht3137⟩ := hp
      change G _ _ _ _ _ _ _ (.int (-1) :: _) _ _ _
      refine G_ws (ws' := [(q2843, .inr (5, [.ref q2848, .ref q2849, .ref q2850, .ref q2851, .ref q2852, .ref q2853, .ref q2854, .ref q2855, .ref q2856, .int p2865, .int p2866, .int p2867])), (q2848, .inl (I .int, 40, .inl f2872)), (q2849, .inl (I .int, 40, .inl f2873)), (q2850, .inl (I .int, 40, .inl f2874)), (q2851, .inl (I .int, 200, .inl f2875)), (q2852, .inl (I .int, 200, .inl f2876)), (q2853, .inl (I .int, 200, .inl f2877)), (q2854, .inl (I .int, 200, .inl f2878)), (q2855, .inl (I .int, 200, .inl f2879)), (q2856, .inl (I .int, 200, .inl f2880)), (q2842, .inr (12, [.ref q2844, .ref q2845, .ref q2846, .ref q2847, .int p2858, .int p2859, .int z2884, .int p2861, .int p2862, .int p2863, .int o3136])), (q2844, .inl (I .int, 2048, .inl f2868)), (q2845, .inl (I .int, 100, .inl f2869)), (q2846, .inl (I .int, 100, .inl f2870)), (q2847, .inl (I .int, 512, .inl f2871))]) (cs' := 0) (sl' := 0) rfl rfl rfl ?_
      refine G_sub (ws' := [(q2842, .inr (12, [.ref q2844, .ref q2845, .ref q2846, .ref q2847, .int p2858, .int p2859, .int z2884, .int p2861, .int p2862, .int p2863, .int o3136])), (q2843, .inr (5, [.ref q2848, .ref q2849, .ref q2850, .ref q2851, .ref q2852, .ref q2853, .ref q2854, .ref q2855, .ref q2856, .int p2865, .int p2866, .int p2867])), (q2844, .inl (I .int, 2048, .inl f2868)), (q2845, .inl (I .int, 100, .inl f2869)), (q2846, .inl (I .int, 100, .inl f2870)), (q2847, .inl (I .int, 512, .inl f2871)), (q2848, .inl (I .int, 40, .inl f2872)), (q2849, .inl (I .int, 40, .inl f2873)), (q2850, .inl (I .int, 40, .inl f2874)), (q2851, .inl (I .int, 200, .inl f2875)), (q2852, .inl (I .int, 200, .inl f2876)), (q2853, .inl (I .int, 200, .inl f2877)), (q2854, .inl (I .int, 200, .inl f2878)), (q2855, .inl (I .int, 200, .inl f2879)), (q2856, .inl (I .int, 200, .inl f2880))]) [10, 0, 11, 12, 13, 14, 1, 2, 3, 4, 5, 6, 7, 8, 9] rfl rfl ?_
      exact G_iret d_cX7_step_130 rfl (Nat.le_of_ble_eq_true rfl) (Nat.le_of_ble_eq_true rfl) ⟨(-1), f2869, p2863, p2861, o3136, f2871, f2870, p2859, z2884, rfl, rfl, (gB_w (gBl (show Int32.toInt (-1) = (-1) by decide)) (by decide) (by decide)), (gF_any f2869), bp2863, bp2861, bo3136, (gF_any f2871), (gF_any f2870), bp2859, bz2884, (fun R c1 c2 c3 c4 c5 c6 c7 c8 c9 c10 c11 c12 c13 c14 c15 c16 c17 c18 c19 c20 c21 c22 c23 c24 c25 c26 c27 c28 c29 c30 c31 c32 c33 c34 c35 c36 c37 c38 => c11 z2882 z2883 z2884 o3136 hz2882 bz2882 hz2883 hz2884 r2912 ehs3135 ht3137)⟩
    have ehs2921 := lv_neT hs2921 (show Int32.toInt 14 = 14 by decide)
    have ehs2939 := lv_neT hs2939 (show Int32.toInt 15 = 15 by decide)
    have ehs2972 := lv_neT hs2972 (show Int32.toInt 16 = 16 by decide)
    have ehs3009 := lv_neT hs3009 (show Int32.toInt 17 = 17 by decide)
    have ehs3056 := lv_neT hs3056 (show Int32.toInt 18 = 18 by decide)
    have ehs3061 := lv_neT hs3061 (show Int32.toInt 19 = 19 by decide)
    have ehs3121 := lv_neT hs3121 (show Int32.toInt 20 = 20 by decide)
    have ehs3135 := lv_neT hs3135 (show Int32.toInt 21 = 21 by decide)
    refine G_tableOut 238 d_cX7_step_26 (by omega) (by decide) ?_
    refine G_aload_n 2 d_cX7_step_238 rfl ?_
    refine G_aload_n 3 d_cX7_step_239 rfl ?_
    refine G_getfN 0 7 d_cX7_step_240 rfl (gk_X0 D I) (Nat.le_of_ble_eq_true rfl) (fun _ _ _ h => gn_w 32 rfl h) rfl ?_
    refine G_iload_n 4 d_cX7_step_243 rfl ?_
    refine G_iald 8 0 d_cX7_step_244 rfl rfl (gB_in bp2857 (by decide) (by decide)) (G_nam fun z3138 hz3138 => ?_)
    have bz3138 : gB z3138 (-2147483648) 2147483647 := gB_any z3138
    refine G_aload_n 3 d_cX7_step_245 rfl ?_
    refine G_getfN 0 8 d_cX7_step_246 rfl (gk_X0 D I) (Nat.le_of_ble_eq_true rfl) (fun _ _ _ h => gn_w 35 rfl h) rfl ?_
    refine G_iload_n 4 d_cX7_step_249 rfl ?_
    refine G_iald 9 0 d_cX7_step_250 rfl rfl (gB_in bp2857 (by decide) (by decide)) (G_nam fun z3139 hz3139 => ?_)
    have bz3139 : gB z3139 (-2147483648) 2147483647 := gB_any z3139
    refine G_callV (As := [.int z3138, .int z3139]) (wr := [(q2843, .inr (5, [.ref q2848, .ref q2849, .ref q2850, .ref q2851, .ref q2852, .ref q2853, .ref q2854, .ref q2855, .ref q2856, .int p2865, .int p2866, .int p2867])), (q2848, .inl (I .int, 40, .inl f2872)), (q2849, .inl (I .int, 40, .inl f2873)), (q2850, .inl (I .int, 40, .inl f2874)), (q2851, .inl (I .int, 200, .inl f2875)), (q2852, .inl (I .int, 200, .inl f2876)), (q2853, .inl (I .int, 200, .inl f2877)), (q2854, .inl (I .int, 200, .inl f2878)), (q2855, .inl (I .int, 200, .inl f2879)), (q2856, .inl (I .int, 200, .inl f2880))]) (gV_ok D I) (ct_2903_Machine_valueOf l hl0 D I q2842 q2844 q2845 q2846 q2847 z3138 z3139 p2858 p2859 p2860 p2861 p2862 p2863 p2864 f2868 f2869 f2870 f2871 bp2858 bp2859 bp2861 bp2863) d_cX7_step_251 ⟨w_6_78, w_1_12, w_6_81, by decide, rfl, (Nat.le_of_ble_eq_true rfl), (Nat.le_of_ble_eq_true rfl)⟩ w_6_80 w_p_58 10 rfl rfl [10, 11, 12, 13, 14] [0, 1, 2, 3, 4, 5, 6, 7, 8, 9] rfl rfl rfl rfl (by decide) (Nat.le_of_ble_eq_true rfl) (Nat.le_of_ble_eq_true rfl) (Nat.le_of_ble_eq_true rfl) (fun r w hp => ?_) (fun _ _ _ z => z.elim)
    rcases hp with ⟨rfl, rfl, r3140, r3141⟩ | ⟨rfl, rfl, r3142, r3143, r3144⟩ | ⟨z3145, rfl, rfl, r3146, r3147, hz3145, r3148, r3149⟩
    · have bz3138' : gB z3138 (-2147483648) (-1) := ⟨by omega, by omega⟩
      change G _ _ _ _ _ _ _ (.int z3139 :: _) _ _ _
      refine G_ws (ws' := [(q2843, .inr (5, [.ref q2848, .ref q2849, .ref q2850, .ref q2851, .ref q2852, .ref q2853, .ref q2854, .ref q2855, .ref q2856, .int p2865, .int p2866, .int p2867])), (q2848, .inl (I .int, 40, .inl f2872)), (q2849, .inl (I .int, 40, .inl f2873)), (q2850, .inl (I .int, 40, .inl f2874)), (q2851, .inl (I .int, 200, .inl f2875)), (q2852, .inl (I .int, 200, .inl f2876)), (q2853, .inl (I .int, 200, .inl f2877)), (q2854, .inl (I .int, 200, .inl f2878)), (q2855, .inl (I .int, 200, .inl f2879)), (q2856, .inl (I .int, 200, .inl f2880)), (q2842, .inr (12, [.ref q2844, .ref q2845, .ref q2846, .ref q2847, .int p2858, .int p2859, .int p2860, .int p2861, .int p2862, .int p2863, .int p2864])), (q2844, .inl (I .int, 2048, .inl f2868)), (q2845, .inl (I .int, 100, .inl f2869)), (q2846, .inl (I .int, 100, .inl f2870)), (q2847, .inl (I .int, 512, .inl f2871))]) (cs' := 0) (sl' := 0) rfl rfl rfl ?_
      refine G_istore (L' := [(5, .int z3139), (4, .int z2884), (3, .int z2882), (0, .ref q2842), (1, .ref q2843), (2, .int p2857)]) d_cX7_step_254 (Nat.le_of_ble_eq_true rfl) rfl ?_
      refine G_iload 0 d_cX7_step_256 rfl ?_
      refine G_if_ne 277 d_cX7_step_258 (by decide +kernel) (fun hc3150 => ?_) (fun hc3150 => ?_)
      · have r3151 : z3139.toInt ≠ 0 := gj_neq hc3150 (show Int32.toInt 0 = 0 by decide)
        refine G_aload_n 3 d_cX7_step_277 rfl ?_
        refine G_getf 10 1 d_cX7_step_278 rfl (gk_X7 D I) (Nat.le_of_ble_eq_true rfl) w_2_161 rfl ?_
        refine G_aload_n 4 d_cX7_step_281 rfl ?_
        refine G_getfN 0 4 d_cX7_step_282 rfl (gk_X0 D I) (Nat.le_of_ble_eq_true rfl) (fun _ _ _ h => gn_w 20 rfl h) rfl ?_
        refine G_iload_n 5 d_cX7_step_285 rfl ?_
        refine G_iald 5 0 d_cX7_step_286 rfl rfl (gB_in bp2857 (by decide) (by decide)) (G_nam fun z3152 hz3152 => ?_)
        have bz3152 : gB z3152 (-2147483648) 2147483647 := gB_any z3152
        refine G_iload_n 2 d_cX7_step_287 rfl ?_
        refine G_iload 1 d_cX7_step_288 rfl ?_
        refine G_iload 0 d_cX7_step_290 rfl ?_
        refine G_callS (As := [.int z2882, .int z2884, .int z3139]) (wr := [(q2843, .inr (5, [.ref q2848, .ref q2849, .ref q2850, .ref q2851, .ref q2852, .ref q2853, .ref q2854, .ref q2855, .ref q2856, .int p2865, .int p2866, .int p2867])), (q2848, .inl (I .int, 40, .inl f2872)), (q2849, .inl (I .int, 40, .inl f2873)), (q2850, .inl (I .int, 40, .inl f2874)), (q2851, .inl (I .int, 200, .inl f2875)), (q2852, .inl (I .int, 200, .inl f2876)), (q2853, .inl (I .int, 200, .inl f2877)), (q2854, .inl (I .int, 200, .inl f2878)), (q2855, .inl (I .int, 200, .inl f2879)), (q2856, .inl (I .int, 200, .inl f2880)), (q2842, .inr (12, [.ref q2844, .ref q2845, .ref q2846, .ref q2847, .int p2858, .int p2859, .int p2860, .int p2861, .int p2862, .int p2863, .int p2864])), (q2844, .inl (I .int, 2048, .inl f2868)), (q2845, .inl (I .int, 100, .inl f2869)), (q2846, .inl (I .int, 100, .inl f2870)), (q2847, .inl (I .int, 512, .inl f2871))]) (gV_ok D I) (ct_3156_Machine_calculate l hl0 D I z2882 z2884 z3139 ) d_cX7_step_292 ⟨w_6_105, w_1_12, w_6_107, by decide, rfl, (Nat.le_of_ble_eq_true rfl), (Nat.le_of_ble_eq_true rfl)⟩ w_6_106 [] [0, 1, 2, 3, 4, 5, 6, 7, 8, 9, 10, 11, 12, 13, 14] rfl rfl rfl rfl (by decide) (Nat.le_of_ble_eq_true rfl) (Nat.le_of_ble_eq_true rfl) (Nat.le_of_ble_eq_true rfl) (fun r w hp => ?_) (fun _ _ _ z => z.elim)
        obtain ⟨o3200, rfl, rfl, bo3200, ht3201⟩ := hp
        change G _ _ _ _ _ _ _ (.int o3200 :: _) _ _ _
        refine G_ws (ws' := [(q2843, .inr (5, [.ref q2848, .ref q2849, .ref q2850, .ref q2851, .ref q2852, .ref q2853, .ref q2854, .ref q2855, .ref q2856, .int p2865, .int p2866, .int p2867])), (q2848, .inl (I .int, 40, .inl f2872)), (q2849, .inl (I .int, 40, .inl f2873)), (q2850, .inl (I .int, 40, .inl f2874)), (q2851, .inl (I .int, 200, .inl f2875)), (q2852, .inl (I .int, 200, .inl f2876)), (q2853, .inl (I .int, 200, .inl f2877)), (q2854, .inl (I .int, 200, .inl f2878)), (q2855, .inl (I .int, 200, .inl f2879)), (q2856, .inl (I .int, 200, .inl f2880)), (q2842, .inr (12, [.ref q2844, .ref q2845, .ref q2846, .ref q2847, .int p2858, .int p2859, .int p2860, .int p2861, .int p2862, .int p2863, .int p2864])), (q2844, .inl (I .int, 2048, .inl f2868)), (q2845, .inl (I .int, 100, .inl f2869)), (q2846, .inl (I .int, 100, .inl f2870)), (q2847, .inl (I .int, 512, .inl f2871))]) (cs' := 0) (sl' := 0) rfl rfl rfl ?_
        refine G_callS (As := [.ref q2845, .int z3152, .int o3200]) (wr := [(q2843, .inr (5, [.ref q2848, .ref q2849, .ref q2850, .ref q2851, .ref q2852, .ref q2853, .ref q2854, .ref q2855, .ref q2856, .int p2865, .int p2866, .int p2867])), (q2848, .inl (I .int, 40, .inl f2872)), (q2849, .inl (I .int, 40, .inl f2873)), (q2850, .inl (I .int, 40, .inl f2874)), (q2851, .inl (I .int, 200, .inl f2875)), (q2852, .inl (I .int, 200, .inl f2876)), (q2853, .inl (I .int, 200, .inl f2877)), (q2854, .inl (I .int, 200, .inl f2878)), (q2855, .inl (I .int, 200, .inl f2879)), (q2856, .inl (I .int, 200, .inl f2880)), (q2842, .inr (12, [.ref q2844, .ref q2845, .ref q2846, .ref q2847, .int p2858, .int p2859, .int p2860, .int p2861, .int p2862, .int p2863, .int p2864])), (q2844, .inl (I .int, 2048, .inl f2868)), (q2846, .inl (I .int, 100, .inl f2870)), (q2847, .inl (I .int, 512, .inl f2871))]) (gV_ok D I) (ct_2927_Machine_put l hl0 D I q2845 z3152 o3200 f2869 ) d_cX7_step_295 ⟨w_6_94, w_1_12, w_6_96, by decide, rfl, (Nat.le_of_ble_eq_true rfl), (Nat.le_of_ble_eq_true rfl)⟩ w_6_95 [12] [0, 1, 2, 3, 4, 5, 6, 7, 8, 9, 10, 11, 13, 14] rfl rfl rfl rfl (by decide) (Nat.le_of_ble_eq_true rfl) (Nat.le_of_ble_eq_true rfl) (Nat.le_of_ble_eq_true rfl) (fun r w hp => ?_) (fun _ _ _ z => z.elim)
        obtain ⟨f3202, rfl, rfl, bf3202, ht3203⟩ := hp
        change G _ _ _ _ _ _ _ _ _ _ _
        refine G_ws (ws' := [(q2843, .inr (5, [.ref q2848, .ref q2849, .ref q2850, .ref q2851, .ref q2852, .ref q2853, .ref q2854, .ref q2855, .ref q2856, .int p2865, .int p2866, .int p2867])), (q2848, .inl (I .int, 40, .inl f2872)), (q2849, .inl (I .int, 40, .inl f2873)), (q2850, .inl (I .int, 40, .inl f2874)), (q2851, .inl (I .int, 200, .inl f2875)), (q2852, .inl (I .int, 200, .inl f2876)), (q2853, .inl (I .int, 200, .inl f2877)), (q2854, .inl (I .int, 200, .inl f2878)), (q2855, .inl (I .int, 200, .inl f2879)), (q2856, .inl (I .int, 200, .inl f2880)), (q2842, .inr (12, [.ref q2844, .ref q2845, .ref q2846, .ref q2847, .int p2858, .int p2859, .int p2860, .int p2861, .int p2862, .int p2863, .int p2864])), (q2844, .inl (I .int, 2048, .inl f2868)), (q2846, .inl (I .int, 100, .inl f2870)), (q2847, .inl (I .int, 512, .inl f2871)), (q2845, .inl (I .int, 100, .inl f3202))]) (cs' := 0) (sl' := 0) rfl rfl rfl ?_
        refine G_iload_n 5 d_cX7_step_298 rfl ?_
        refine G_iconst 1 d_cX7_step_299 (by decide +kernel) ?_
        refine G_iadd d_cX7_step_300 (G_nam fun z3204 hz3204 => ?_)
        have ez3204 : z3204.toInt = p2857.toInt + 1 := by rw [gI_add hz3204 bp2857 (gBl (show Int32.toInt 1 = 1 by decide)) (by decide) (by decide), show Int32.toInt 1 = 1 from by decide]
        have bz3204 : gB z3204 1 200 := gB_add (gI_add hz3204 bp2857 (gBl (show Int32.toInt 1 = 1 by decide)) (by decide) (by decide)) bp2857 (gBl (show Int32.toInt 1 = 1 by decide)) (by decide) (by decide)
        refine G_sub (ws' := [(q2842, .inr (12, [.ref q2844, .ref q2845, .ref q2846, .ref q2847, .int p2858, .int p2859, .int p2860, .int p2861, .int p2862, .int p2863, .int p2864])), (q2843, .inr (5, [.ref q2848, .ref q2849, .ref q2850, .ref q2851, .ref q2852, .ref q2853, .ref q2854, .ref q2855, .ref q2856, .int p2865, .int p2866, .int p2867])), (q2844, .inl (I .int, 2048, .inl f2868)), (q2845, .inl (I .int, 100, .inl f3202)), (q2846, .inl (I .int, 100, .inl f2870)), (q2847, .inl (I .int, 512, .inl f2871)), (q2848, .inl (I .int, 40, .inl f2872)), (q2849, .inl (I .int, 40, .inl f2873)), (q2850, .inl (I .int, 40, .inl f2874)), (q2851, .inl (I .int, 200, .inl f2875)), (q2852, .inl (I .int, 200, .inl f2876)), (q2853, .inl (I .int, 200, .inl f2877)), (q2854, .inl (I .int, 200, .inl f2878)), (q2855, .inl (I .int, 200, .inl f2879)), (q2856, .inl (I .int, 200, .inl f2880))]) [10, 0, 11, 14, 12, 13, 1, 2, 3, 4, 5, 6, 7, 8, 9] rfl rfl ?_
        exact G_iret d_cX7_step_301 rfl (Nat.le_of_ble_eq_true rfl) (Nat.le_of_ble_eq_true rfl) ⟨z3204, f3202, p2863, p2861, p2864, f2871, f2870, p2859, p2860, rfl, rfl, (gB_w bz3204 (by decide) (by decide)), bf3202, bp2863, bp2861, bp2864, (gF_any f2871), (gF_any f2870), bp2859, bp2860, (fun R c1 c2 c3 c4 c5 c6 c7 c8 c9 c10 c11 c12 c13 c14 c15 c16 c17 c18 c19 c20 c21 c22 c23 c24 c25 c26 c27 c28 c29 c30 c31 c32 c33 c34 c35 c36 c37 c38 => c12 z2882 z2883 z2884 z3138 z3139 z3152 o3200 f3202 z3204 hz2882 bz2882 hz2883 hz2884 r2912 ehs2921 ehs2939 ehs2972 ehs3009 ehs3056 ehs3061 ehs3121 ehs3135 hz3138 hz3139 r3141 r3151 hz3152 ht3201 ht3203 ez3204)⟩
      · have r3205 : z3139.toInt = 0 := gj_eq hc3150 (show Int32.toInt 0 = 0 by decide)
        have bz3139' : gB z3139 0 0 := ⟨by omega, by omega⟩
        refine G_iload_n 2 d_cX7_step_261 rfl ?_
        refine G_iconst 3 d_cX7_step_262 (by decide +kernel) ?_
        refine G_icmp_eq 271 d_cX7_step_263 (by decide +kernel) (fun hc3206 => ?_) (fun hc3206 => ?_)
        · have r3207 : z2882.toInt = 3 := gj_eq hc3206 (show Int32.toInt 3 = 3 by decide)
          have bz2882' : gB z2882 3 3 := ⟨by omega, by omega⟩
          refine G_aload_n 3 d_cX7_step_271 rfl ?_
          refine G_iconst 1 d_cX7_step_272 (by decide +kernel) ?_
          refine G_callV (As := [.int 1]) (wr := [(q2843, .inr (5, [.ref q2848, .ref q2849, .ref q2850, .ref q2851, .ref q2852, .ref q2853, .ref q2854, .ref q2855, .ref q2856, .int p2865, .int p2866, .int p2867])), (q2848, .inl (I .int, 40, .inl f2872)), (q2849, .inl (I .int, 40, .inl f2873)), (q2850, .inl (I .int, 40, .inl f2874)), (q2851, .inl (I .int, 200, .inl f2875)), (q2852, .inl (I .int, 200, .inl f2876)), (q2853, .inl (I .int, 200, .inl f2877)), (q2854, .inl (I .int, 200, .inl f2878)), (q2855, .inl (I .int, 200, .inl f2879)), (q2856, .inl (I .int, 200, .inl f2880))]) (gV_ok D I) (ct_2837_Machine_halt l hl0 D I q2842 q2844 q2845 q2846 q2847 1 p2858 p2859 p2860 p2861 p2862 p2863 p2864 f2868 f2869 f2870 f2871 bp2858 bp2859 bp2861 bp2863) d_cX7_step_273 ⟨w_6_86, w_1_12, w_6_89, by decide, rfl, (Nat.le_of_ble_eq_true rfl), (Nat.le_of_ble_eq_true rfl)⟩ w_6_88 w_p_60 10 rfl rfl [10, 11, 12, 13, 14] [0, 1, 2, 3, 4, 5, 6, 7, 8, 9] rfl rfl rfl rfl (by decide) (Nat.le_of_ble_eq_true rfl) (Nat.le_of_ble_eq_true rfl) (Nat.le_of_ble_eq_true rfl) (fun r w hp => ?_) (fun _ _ _ z => z.elim)
          obtain ⟨o3208, rfl, rfl, bo3208, ht3209⟩ := hp
          change G _ _ _ _ _ _ _ (.int (-1) :: _) _ _ _
          refine G_ws (ws' := [(q2843, .inr (5, [.ref q2848, .ref q2849, .ref q2850, .ref q2851, .ref q2852, .ref q2853, .ref q2854, .ref q2855, .ref q2856, .int p2865, .int p2866, .int p2867])), (q2848, .inl (I .int, 40, .inl f2872)), (q2849, .inl (I .int, 40, .inl f2873)), (q2850, .inl (I .int, 40, .inl f2874)), (q2851, .inl (I .int, 200, .inl f2875)), (q2852, .inl (I .int, 200, .inl f2876)), (q2853, .inl (I .int, 200, .inl f2877)), (q2854, .inl (I .int, 200, .inl f2878)), (q2855, .inl (I .int, 200, .inl f2879)), (q2856, .inl (I .int, 200, .inl f2880)), (q2842, .inr (12, [.ref q2844, .ref q2845, .ref q2846, .ref q2847, .int p2858, .int p2859, .int p2860, .int p2861, .int p2862, .int p2863, .int o3208])), (q2844, .inl (I .int, 2048, .inl f2868)), (q2845, .inl (I .int, 100, .inl f2869)), (q2846, .inl (I .int, 100, .inl f2870)), (q2847, .inl (I .int, 512, .inl f2871))]) (cs' := 0) (sl' := 0) rfl rfl rfl ?_
          refine G_sub (ws' := [(q2842, .inr (12, [.ref q2844, .ref q2845, .ref q2846, .ref q2847, .int p2858, .int p2859, .int p2860, .int p2861, .int p2862, .int p2863, .int o3208])), (q2843, .inr (5, [.ref q2848, .ref q2849, .ref q2850, .ref q2851, .ref q2852, .ref q2853, .ref q2854, .ref q2855, .ref q2856, .int p2865, .int p2866, .int p2867])), (q2844, .inl (I .int, 2048, .inl f2868)), (q2845, .inl (I .int, 100, .inl f2869)), (q2846, .inl (I .int, 100, .inl f2870)), (q2847, .inl (I .int, 512, .inl f2871)), (q2848, .inl (I .int, 40, .inl f2872)), (q2849, .inl (I .int, 40, .inl f2873)), (q2850, .inl (I .int, 40, .inl f2874)), (q2851, .inl (I .int, 200, .inl f2875)), (q2852, .inl (I .int, 200, .inl f2876)), (q2853, .inl (I .int, 200, .inl f2877)), (q2854, .inl (I .int, 200, .inl f2878)), (q2855, .inl (I .int, 200, .inl f2879)), (q2856, .inl (I .int, 200, .inl f2880))]) [10, 0, 11, 12, 13, 14, 1, 2, 3, 4, 5, 6, 7, 8, 9] rfl rfl ?_
          exact G_iret d_cX7_step_276 rfl (Nat.le_of_ble_eq_true rfl) (Nat.le_of_ble_eq_true rfl) ⟨(-1), f2869, p2863, p2861, o3208, f2871, f2870, p2859, p2860, rfl, rfl, (gB_w (gBl (show Int32.toInt (-1) = (-1) by decide)) (by decide) (by decide)), (gF_any f2869), bp2863, bp2861, bo3208, (gF_any f2871), (gF_any f2870), bp2859, bp2860, (fun R c1 c2 c3 c4 c5 c6 c7 c8 c9 c10 c11 c12 c13 c14 c15 c16 c17 c18 c19 c20 c21 c22 c23 c24 c25 c26 c27 c28 c29 c30 c31 c32 c33 c34 c35 c36 c37 c38 => c13 z2882 z2883 z2884 z3138 z3139 o3208 hz2882 bz2882 hz2883 hz2884 r2912 ehs2921 ehs2939 ehs2972 ehs3009 ehs3056 ehs3061 ehs3121 ehs3135 hz3138 hz3139 r3141 r3205 r3207 ht3209)⟩
        · have r3210 : z2882.toInt ≠ 3 := gj_neq hc3206 (show Int32.toInt 3 = 3 by decide)
          refine G_iload_n 2 d_cX7_step_266 rfl ?_
          refine G_iconst 4 d_cX7_step_267 (by decide +kernel) ?_
          refine G_icmp_ne 277 d_cX7_step_268 (by decide +kernel) (fun hc3211 => ?_) (fun hc3211 => ?_)
          · have r3212 : z2882.toInt ≠ 4 := gj_neq hc3211 (show Int32.toInt 4 = 4 by decide)
            refine G_aload_n 3 d_cX7_step_277 rfl ?_
            refine G_getf 10 1 d_cX7_step_278 rfl (gk_X7 D I) (Nat.le_of_ble_eq_true rfl) w_2_161 rfl ?_
            refine G_aload_n 4 d_cX7_step_281 rfl ?_
            refine G_getfN 0 4 d_cX7_step_282 rfl (gk_X0 D I) (Nat.le_of_ble_eq_true rfl) (fun _ _ _ h => gn_w 20 rfl h) rfl ?_
            refine G_iload_n 5 d_cX7_step_285 rfl ?_
            refine G_iald 5 0 d_cX7_step_286 rfl rfl (gB_in bp2857 (by decide) (by decide)) (G_nam fun z3213 hz3213 => ?_)
            have bz3213 : gB z3213 (-2147483648) 2147483647 := gB_any z3213
            refine G_iload_n 2 d_cX7_step_287 rfl ?_
            refine G_iload 1 d_cX7_step_288 rfl ?_
            refine G_iload 0 d_cX7_step_290 rfl ?_
            refine G_callS (As := [.int z2882, .int z2884, .int z3139]) (wr := [(q2843, .inr (5, [.ref q2848, .ref q2849, .ref q2850, .ref q2851, .ref q2852, .ref q2853, .ref q2854, .ref q2855, .ref q2856, .int p2865, .int p2866, .int p2867])), (q2848, .inl (I .int, 40, .inl f2872)), (q2849, .inl (I .int, 40, .inl f2873)), (q2850, .inl (I .int, 40, .inl f2874)), (q2851, .inl (I .int, 200, .inl f2875)), (q2852, .inl (I .int, 200, .inl f2876)), (q2853, .inl (I .int, 200, .inl f2877)), (q2854, .inl (I .int, 200, .inl f2878)), (q2855, .inl (I .int, 200, .inl f2879)), (q2856, .inl (I .int, 200, .inl f2880)), (q2842, .inr (12, [.ref q2844, .ref q2845, .ref q2846, .ref q2847, .int p2858, .int p2859, .int p2860, .int p2861, .int p2862, .int p2863, .int p2864])), (q2844, .inl (I .int, 2048, .inl f2868)), (q2845, .inl (I .int, 100, .inl f2869)), (q2846, .inl (I .int, 100, .inl f2870)), (q2847, .inl (I .int, 512, .inl f2871))]) (gV_ok D I) (ct_3156_Machine_calculate l hl0 D I z2882 z2884 z3139 ) d_cX7_step_292 ⟨w_6_105, w_1_12, w_6_107, by decide, rfl, (Nat.le_of_ble_eq_true rfl), (Nat.le_of_ble_eq_true rfl)⟩ w_6_106 [] [0, 1, 2, 3, 4, 5, 6, 7, 8, 9, 10, 11, 12, 13, 14] rfl rfl rfl rfl (by decide) (Nat.le_of_ble_eq_true rfl) (Nat.le_of_ble_eq_true rfl) (Nat.le_of_ble_eq_true rfl) (fun r w hp => ?_) (fun _ _ _ z => z.elim)
            obtain ⟨o3214, rfl, rfl, bo3214, ht3215⟩ := hp
            change G _ _ _ _ _ _ _ (.int o3214 :: _) _ _ _
            refine G_ws (ws' := [(q2843, .inr (5, [.ref q2848, .ref q2849, .ref q2850, .ref q2851, .ref q2852, .ref q2853, .ref q2854, .ref q2855, .ref q2856, .int p2865, .int p2866, .int p2867])), (q2848, .inl (I .int, 40, .inl f2872)), (q2849, .inl (I .int, 40, .inl f2873)), (q2850, .inl (I .int, 40, .inl f2874)), (q2851, .inl (I .int, 200, .inl f2875)), (q2852, .inl (I .int, 200, .inl f2876)), (q2853, .inl (I .int, 200, .inl f2877)), (q2854, .inl (I .int, 200, .inl f2878)), (q2855, .inl (I .int, 200, .inl f2879)), (q2856, .inl (I .int, 200, .inl f2880)), (q2842, .inr (12, [.ref q2844, .ref q2845, .ref q2846, .ref q2847, .int p2858, .int p2859, .int p2860, .int p2861, .int p2862, .int p2863, .int p2864])), (q2844, .inl (I .int, 2048, .inl f2868)), (q2845, .inl (I .int, 100, .inl f2869)), (q2846, .inl (I .int, 100, .inl f2870)), (q2847, .inl (I .int, 512, .inl f2871))]) (cs' := 0) (sl' := 0) rfl rfl rfl ?_
            refine G_callS (As := [.ref q2845, .int z3213, .int o3214]) (wr := [(q2843, .inr (5, [.ref q2848, .ref q2849, .ref q2850, .ref q2851, .ref q2852, .ref q2853, .ref q2854, .ref q2855, .ref q2856, .int p2865, .int p2866, .int p2867])), (q2848, .inl (I .int, 40, .inl f2872)), (q2849, .inl (I .int, 40, .inl f2873)), (q2850, .inl (I .int, 40, .inl f2874)), (q2851, .inl (I .int, 200, .inl f2875)), (q2852, .inl (I .int, 200, .inl f2876)), (q2853, .inl (I .int, 200, .inl f2877)), (q2854, .inl (I .int, 200, .inl f2878)), (q2855, .inl (I .int, 200, .inl f2879)), (q2856, .inl (I .int, 200, .inl f2880)), (q2842, .inr (12, [.ref q2844, .ref q2845, .ref q2846, .ref q2847, .int p2858, .int p2859, .int p2860, .int p2861, .int p2862, .int p2863, .int p2864])), (q2844, .inl (I .int, 2048, .inl f2868)), (q2846, .inl (I .int, 100, .inl f2870)), (q2847, .inl (I .int, 512, .inl f2871))]) (gV_ok D I) (ct_2927_Machine_put l hl0 D I q2845 z3213 o3214 f2869 ) d_cX7_step_295 ⟨w_6_94, w_1_12, w_6_96, by decide, rfl, (Nat.le_of_ble_eq_true rfl), (Nat.le_of_ble_eq_true rfl)⟩ w_6_95 [12] [0, 1, 2, 3, 4, 5, 6, 7, 8, 9, 10, 11, 13, 14] rfl rfl rfl rfl (by decide) (Nat.le_of_ble_eq_true rfl) (Nat.le_of_ble_eq_true rfl) (Nat.le_of_ble_eq_true rfl) (fun r w hp => ?_) (fun _ _ _ z => z.elim)
            obtain ⟨f3216, rfl, rfl, bf3216, ht3217⟩ := hp
            change G _ _ _ _ _ _ _ _ _ _ _
            refine G_ws (ws' := [(q2843, .inr (5, [.ref q2848, .ref q2849, .ref q2850, .ref q2851, .ref q2852, .ref q2853, .ref q2854, .ref q2855, .ref q2856, .int p2865, .int p2866, .int p2867])), (q2848, .inl (I .int, 40, .inl f2872)), (q2849, .inl (I .int, 40, .inl f2873)), (q2850, .inl (I .int, 40, .inl f2874)), (q2851, .inl (I .int, 200, .inl f2875)), (q2852, .inl (I .int, 200, .inl f2876)), (q2853, .inl (I .int, 200, .inl f2877)), (q2854, .inl (I .int, 200, .inl f2878)), (q2855, .inl (I .int, 200, .inl f2879)), (q2856, .inl (I .int, 200, .inl f2880)), (q2842, .inr (12, [.ref q2844, .ref q2845, .ref q2846, .ref q2847, .int p2858, .int p2859, .int p2860, .int p2861, .int p2862, .int p2863, .int p2864])), (q2844, .inl (I .int, 2048, .inl f2868)), (q2846, .inl (I .int, 100, .inl f2870)), (q2847, .inl (I .int, 512, .inl f2871)), (q2845, .inl (I .int, 100, .inl f3216))]) (cs' := 0) (sl' := 0) rfl rfl rfl ?_
            refine G_iload_n 5 d_cX7_step_298 rfl ?_
            refine G_iconst 1 d_cX7_step_299 (by decide +kernel) ?_
            refine G_iadd d_cX7_step_300 (G_nam fun z3218 hz3218 => ?_)
            have ez3218 : z3218.toInt = p2857.toInt + 1 := by rw [gI_add hz3218 bp2857 (gBl (show Int32.toInt 1 = 1 by decide)) (by decide) (by decide), show Int32.toInt 1 = 1 from by decide]
            have bz3218 : gB z3218 1 200 := gB_add (gI_add hz3218 bp2857 (gBl (show Int32.toInt 1 = 1 by decide)) (by decide) (by decide)) bp2857 (gBl (show Int32.toInt 1 = 1 by decide)) (by decide) (by decide)
            refine G_sub (ws' := [(q2842, .inr (12, [.ref q2844, .ref q2845, .ref q2846, .ref q2847, .int p2858, .int p2859, .int p2860, .int p2861, .int p2862, .int p2863, .int p2864])), (q2843, .inr (5, [.ref q2848, .ref q2849, .ref q2850, .ref q2851, .ref q2852, .ref q2853, .ref q2854, .ref q2855, .ref q2856, .int p2865, .int p2866, .int p2867])), (q2844, .inl (I .int, 2048, .inl f2868)), (q2845, .inl (I .int, 100, .inl f3216)), (q2846, .inl (I .int, 100, .inl f2870)), (q2847, .inl (I .int, 512, .inl f2871)), (q2848, .inl (I .int, 40, .inl f2872)), (q2849, .inl (I .int, 40, .inl f2873)), (q2850, .inl (I .int, 40, .inl f2874)), (q2851, .inl (I .int, 200, .inl f2875)), (q2852, .inl (I .int, 200, .inl f2876)), (q2853, .inl (I .int, 200, .inl f2877)), (q2854, .inl (I .int, 200, .inl f2878)), (q2855, .inl (I .int, 200, .inl f2879)), (q2856, .inl (I .int, 200, .inl f2880))]) [10, 0, 11, 14, 12, 13, 1, 2, 3, 4, 5, 6, 7, 8, 9] rfl rfl ?_
            exact G_iret d_cX7_step_301 rfl (Nat.le_of_ble_eq_true rfl) (Nat.le_of_ble_eq_true rfl) ⟨z3218, f3216, p2863, p2861, p2864, f2871, f2870, p2859, p2860, rfl, rfl, (gB_w bz3218 (by decide) (by decide)), bf3216, bp2863, bp2861, bp2864, (gF_any f2871), (gF_any f2870), bp2859, bp2860, (fun R c1 c2 c3 c4 c5 c6 c7 c8 c9 c10 c11 c12 c13 c14 c15 c16 c17 c18 c19 c20 c21 c22 c23 c24 c25 c26 c27 c28 c29 c30 c31 c32 c33 c34 c35 c36 c37 c38 => c14 z2882 z2883 z2884 z3138 z3139 z3213 o3214 f3216 z3218 hz2882 bz2882 hz2883 hz2884 r2912 ehs2921 ehs2939 ehs2972 ehs3009 ehs3056 ehs3061 ehs3121 ehs3135 hz3138 hz3139 r3141 r3205 r3210 r3212 hz3213 ht3215 ht3217 ez3218)⟩
          · have r3219 : z2882.toInt = 4 := gj_eq hc3211 (show Int32.toInt 4 = 4 by decide)
            have bz2882' : gB z2882 4 4 := ⟨by omega, by omega⟩
            refine G_aload_n 3 d_cX7_step_271 rfl ?_
            refine G_iconst 1 d_cX7_step_272 (by decide +kernel) ?_
            refine G_callV (As := [.int 1]) (wr := [(q2843, .inr (5, [.ref q2848, .ref q2849, .ref q2850, .ref q2851, .ref q2852, .ref q2853, .ref q2854, .ref q2855, .ref q2856, .int p2865, .int p2866, .int p2867])), (q2848, .inl (I .int, 40, .inl f2872)), (q2849, .inl (I .int, 40, .inl f2873)), (q2850, .inl (I .int, 40, .inl f2874)), (q2851, .inl (I .int, 200, .inl f2875)), (q2852, .inl (I .int, 200, .inl f2876)), (q2853, .inl (I .int, 200, .inl f2877)), (q2854, .inl (I .int, 200, .inl f2878)), (q2855, .inl (I .int, 200, .inl f2879)), (q2856, .inl (I .int, 200, .inl f2880))]) (gV_ok D I) (ct_2837_Machine_halt l hl0 D I q2842 q2844 q2845 q2846 q2847 1 p2858 p2859 p2860 p2861 p2862 p2863 p2864 f2868 f2869 f2870 f2871 bp2858 bp2859 bp2861 bp2863) d_cX7_step_273 ⟨w_6_86, w_1_12, w_6_89, by decide, rfl, (Nat.le_of_ble_eq_true rfl), (Nat.le_of_ble_eq_true rfl)⟩ w_6_88 w_p_60 10 rfl rfl [10, 11, 12, 13, 14] [0, 1, 2, 3, 4, 5, 6, 7, 8, 9] rfl rfl rfl rfl (by decide) (Nat.le_of_ble_eq_true rfl) (Nat.le_of_ble_eq_true rfl) (Nat.le_of_ble_eq_true rfl) (fun r w hp => ?_) (fun _ _ _ z => z.elim)
            obtain ⟨o3220, rfl, rfl, bo3220, ht3221⟩ := hp
            change G _ _ _ _ _ _ _ (.int (-1) :: _) _ _ _
            refine G_ws (ws' := [(q2843, .inr (5, [.ref q2848, .ref q2849, .ref q2850, .ref q2851, .ref q2852, .ref q2853, .ref q2854, .ref q2855, .ref q2856, .int p2865, .int p2866, .int p2867])), (q2848, .inl (I .int, 40, .inl f2872)), (q2849, .inl (I .int, 40, .inl f2873)), (q2850, .inl (I .int, 40, .inl f2874)), (q2851, .inl (I .int, 200, .inl f2875)), (q2852, .inl (I .int, 200, .inl f2876)), (q2853, .inl (I .int, 200, .inl f2877)), (q2854, .inl (I .int, 200, .inl f2878)), (q2855, .inl (I .int, 200, .inl f2879)), (q2856, .inl (I .int, 200, .inl f2880)), (q2842, .inr (12, [.ref q2844, .ref q2845, .ref q2846, .ref q2847, .int p2858, .int p2859, .int p2860, .int p2861, .int p2862, .int p2863, .int o3220])), (q2844, .inl (I .int, 2048, .inl f2868)), (q2845, .inl (I .int, 100, .inl f2869)), (q2846, .inl (I .int, 100, .inl f2870)), (q2847, .inl (I .int, 512, .inl f2871))]) (cs' := 0) (sl' := 0) rfl rfl rfl ?_
            refine G_sub (ws' := [(q2842, .inr (12, [.ref q2844, .ref q2845, .ref q2846, .ref q2847, .int p2858, .int p2859, .int p2860, .int p2861, .int p2862, .int p2863, .int o3220])), (q2843, .inr (5, [.ref q2848, .ref q2849, .ref q2850, .ref q2851, .ref q2852, .ref q2853, .ref q2854, .ref q2855, .ref q2856, .int p2865, .int p2866, .int p2867])), (q2844, .inl (I .int, 2048, .inl f2868)), (q2845, .inl (I .int, 100, .inl f2869)), (q2846, .inl (I .int, 100, .inl f2870)), (q2847, .inl (I .int, 512, .inl f2871)), (q2848, .inl (I .int, 40, .inl f2872)), (q2849, .inl (I .int, 40, .inl f2873)), (q2850, .inl (I .int, 40, .inl f2874)), (q2851, .inl (I .int, 200, .inl f2875)), (q2852, .inl (I .int, 200, .inl f2876)), (q2853, .inl (I .int, 200, .inl f2877)), (q2854, .inl (I .int, 200, .inl f2878)), (q2855, .inl (I .int, 200, .inl f2879)), (q2856, .inl (I .int, 200, .inl f2880))]) [10, 0, 11, 12, 13, 14, 1, 2, 3, 4, 5, 6, 7, 8, 9] rfl rfl ?_
            exact G_iret d_cX7_step_276 rfl (Nat.le_of_ble_eq_true rfl) (Nat.le_of_ble_eq_true rfl) ⟨(-1), f2869, p2863, p2861, o3220, f2871, f2870, p2859, p2860, rfl, rfl, (gB_w (gBl (show Int32.toInt (-1) = (-1) by decide)) (by decide) (by decide)), (gF_any f2869), bp2863, bp2861, bo3220, (gF_any f2871), (gF_any f2870), bp2859, bp2860, (fun R c1 c2 c3 c4 c5 c6 c7 c8 c9 c10 c11 c12 c13 c14 c15 c16 c17 c18 c19 c20 c21 c22 c23 c24 c25 c26 c27 c28 c29 c30 c31 c32 c33 c34 c35 c36 c37 c38 => c15 z2882 z2883 z2884 z3138 z3139 o3220 hz2882 bz2882 hz2883 hz2884 r2912 ehs2921 ehs2939 ehs2972 ehs3009 ehs3056 ehs3061 ehs3121 ehs3135 hz3138 hz3139 r3141 r3205 r3210 r3219 ht3221)⟩
    · have bz3138' : gB z3138 0 2147483647 := ⟨by omega, by omega⟩
      have bz3138'' : gB z3138 100 2147483647 := ⟨by omega, by omega⟩
      change G _ _ _ _ _ _ _ (.int z3139 :: _) _ _ _
      refine G_ws (ws' := [(q2843, .inr (5, [.ref q2848, .ref q2849, .ref q2850, .ref q2851, .ref q2852, .ref q2853, .ref q2854, .ref q2855, .ref q2856, .int p2865, .int p2866, .int p2867])), (q2848, .inl (I .int, 40, .inl f2872)), (q2849, .inl (I .int, 40, .inl f2873)), (q2850, .inl (I .int, 40, .inl f2874)), (q2851, .inl (I .int, 200, .inl f2875)), (q2852, .inl (I .int, 200, .inl f2876)), (q2853, .inl (I .int, 200, .inl f2877)), (q2854, .inl (I .int, 200, .inl f2878)), (q2855, .inl (I .int, 200, .inl f2879)), (q2856, .inl (I .int, 200, .inl f2880)), (q2842, .inr (12, [.ref q2844, .ref q2845, .ref q2846, .ref q2847, .int p2858, .int p2859, .int p2860, .int p2861, .int p2862, .int p2863, .int p2864])), (q2844, .inl (I .int, 2048, .inl f2868)), (q2845, .inl (I .int, 100, .inl f2869)), (q2846, .inl (I .int, 100, .inl f2870)), (q2847, .inl (I .int, 512, .inl f2871))]) (cs' := 0) (sl' := 0) rfl rfl rfl ?_
      refine G_istore (L' := [(5, .int z3139), (4, .int z2884), (3, .int z2882), (0, .ref q2842), (1, .ref q2843), (2, .int p2857)]) d_cX7_step_254 (Nat.le_of_ble_eq_true rfl) rfl ?_
      refine G_iload 0 d_cX7_step_256 rfl ?_
      refine G_if_ne 277 d_cX7_step_258 (by decide +kernel) (fun hc3222 => ?_) (fun hc3222 => ?_)
      · have r3223 : z3139.toInt ≠ 0 := gj_neq hc3222 (show Int32.toInt 0 = 0 by decide)
        refine G_aload_n 3 d_cX7_step_277 rfl ?_
        refine G_getf 10 1 d_cX7_step_278 rfl (gk_X7 D I) (Nat.le_of_ble_eq_true rfl) w_2_161 rfl ?_
        refine G_aload_n 4 d_cX7_step_281 rfl ?_
        refine G_getfN 0 4 d_cX7_step_282 rfl (gk_X0 D I) (Nat.le_of_ble_eq_true rfl) (fun _ _ _ h => gn_w 20 rfl h) rfl ?_
        refine G_iload_n 5 d_cX7_step_285 rfl ?_
        refine G_iald 5 0 d_cX7_step_286 rfl rfl (gB_in bp2857 (by decide) (by decide)) (G_nam fun z3224 hz3224 => ?_)
        have bz3224 : gB z3224 (-2147483648) 2147483647 := gB_any z3224
        refine G_iload_n 2 d_cX7_step_287 rfl ?_
        refine G_iload 1 d_cX7_step_288 rfl ?_
        refine G_iload 0 d_cX7_step_290 rfl ?_
        refine G_callS (As := [.int z2882, .int z2884, .int z3139]) (wr := [(q2843, .inr (5, [.ref q2848, .ref q2849, .ref q2850, .ref q2851, .ref q2852, .ref q2853, .ref q2854, .ref q2855, .ref q2856, .int p2865, .int p2866, .int p2867])), (q2848, .inl (I .int, 40, .inl f2872)), (q2849, .inl (I .int, 40, .inl f2873)), (q2850, .inl (I .int, 40, .inl f2874)), (q2851, .inl (I .int, 200, .inl f2875)), (q2852, .inl (I .int, 200, .inl f2876)), (q2853, .inl (I .int, 200, .inl f2877)), (q2854, .inl (I .int, 200, .inl f2878)), (q2855, .inl (I .int, 200, .inl f2879)), (q2856, .inl (I .int, 200, .inl f2880)), (q2842, .inr (12, [.ref q2844, .ref q2845, .ref q2846, .ref q2847, .int p2858, .int p2859, .int p2860, .int p2861, .int p2862, .int p2863, .int p2864])), (q2844, .inl (I .int, 2048, .inl f2868)), (q2845, .inl (I .int, 100, .inl f2869)), (q2846, .inl (I .int, 100, .inl f2870)), (q2847, .inl (I .int, 512, .inl f2871))]) (gV_ok D I) (ct_3156_Machine_calculate l hl0 D I z2882 z2884 z3139 ) d_cX7_step_292 ⟨w_6_105, w_1_12, w_6_107, by decide, rfl, (Nat.le_of_ble_eq_true rfl), (Nat.le_of_ble_eq_true rfl)⟩ w_6_106 [] [0, 1, 2, 3, 4, 5, 6, 7, 8, 9, 10, 11, 12, 13, 14] rfl rfl rfl rfl (by decide) (Nat.le_of_ble_eq_true rfl) (Nat.le_of_ble_eq_true rfl) (Nat.le_of_ble_eq_true rfl) (fun r w hp => ?_) (fun _ _ _ z => z.elim)
        obtain ⟨o3225, rfl, rfl, bo3225, ht3226⟩ := hp
        change G _ _ _ _ _ _ _ (.int o3225 :: _) _ _ _
        refine G_ws (ws' := [(q2843, .inr (5, [.ref q2848, .ref q2849, .ref q2850, .ref q2851, .ref q2852, .ref q2853, .ref q2854, .ref q2855, .ref q2856, .int p2865, .int p2866, .int p2867])), (q2848, .inl (I .int, 40, .inl f2872)), (q2849, .inl (I .int, 40, .inl f2873)), (q2850, .inl (I .int, 40, .inl f2874)), (q2851, .inl (I .int, 200, .inl f2875)), (q2852, .inl (I .int, 200, .inl f2876)), (q2853, .inl (I .int, 200, .inl f2877)), (q2854, .inl (I .int, 200, .inl f2878)), (q2855, .inl (I .int, 200, .inl f2879)), (q2856, .inl (I .int, 200, .inl f2880)), (q2842, .inr (12, [.ref q2844, .ref q2845, .ref q2846, .ref q2847, .int p2858, .int p2859, .int p2860, .int p2861, .int p2862, .int p2863, .int p2864])), (q2844, .inl (I .int, 2048, .inl f2868)), (q2845, .inl (I .int, 100, .inl f2869)), (q2846, .inl (I .int, 100, .inl f2870)), (q2847, .inl (I .int, 512, .inl f2871))]) (cs' := 0) (sl' := 0) rfl rfl rfl ?_
        refine G_callS (As := [.ref q2845, .int z3224, .int o3225]) (wr := [(q2843, .inr (5, [.ref q2848, .ref q2849, .ref q2850, .ref q2851, .ref q2852, .ref q2853, .ref q2854, .ref q2855, .ref q2856, .int p2865, .int p2866, .int p2867])), (q2848, .inl (I .int, 40, .inl f2872)), (q2849, .inl (I .int, 40, .inl f2873)), (q2850, .inl (I .int, 40, .inl f2874)), (q2851, .inl (I .int, 200, .inl f2875)), (q2852, .inl (I .int, 200, .inl f2876)), (q2853, .inl (I .int, 200, .inl f2877)), (q2854, .inl (I .int, 200, .inl f2878)), (q2855, .inl (I .int, 200, .inl f2879)), (q2856, .inl (I .int, 200, .inl f2880)), (q2842, .inr (12, [.ref q2844, .ref q2845, .ref q2846, .ref q2847, .int p2858, .int p2859, .int p2860, .int p2861, .int p2862, .int p2863, .int p2864])), (q2844, .inl (I .int, 2048, .inl f2868)), (q2846, .inl (I .int, 100, .inl f2870)), (q2847, .inl (I .int, 512, .inl f2871))]) (gV_ok D I) (ct_2927_Machine_put l hl0 D I q2845 z3224 o3225 f2869 ) d_cX7_step_295 ⟨w_6_94, w_1_12, w_6_96, by decide, rfl, (Nat.le_of_ble_eq_true rfl), (Nat.le_of_ble_eq_true rfl)⟩ w_6_95 [12] [0, 1, 2, 3, 4, 5, 6, 7, 8, 9, 10, 11, 13, 14] rfl rfl rfl rfl (by decide) (Nat.le_of_ble_eq_true rfl) (Nat.le_of_ble_eq_true rfl) (Nat.le_of_ble_eq_true rfl) (fun r w hp => ?_) (fun _ _ _ z => z.elim)
        obtain ⟨f3227, rfl, rfl, bf3227, ht3228⟩ := hp
        change G _ _ _ _ _ _ _ _ _ _ _
        refine G_ws (ws' := [(q2843, .inr (5, [.ref q2848, .ref q2849, .ref q2850, .ref q2851, .ref q2852, .ref q2853, .ref q2854, .ref q2855, .ref q2856, .int p2865, .int p2866, .int p2867])), (q2848, .inl (I .int, 40, .inl f2872)), (q2849, .inl (I .int, 40, .inl f2873)), (q2850, .inl (I .int, 40, .inl f2874)), (q2851, .inl (I .int, 200, .inl f2875)), (q2852, .inl (I .int, 200, .inl f2876)), (q2853, .inl (I .int, 200, .inl f2877)), (q2854, .inl (I .int, 200, .inl f2878)), (q2855, .inl (I .int, 200, .inl f2879)), (q2856, .inl (I .int, 200, .inl f2880)), (q2842, .inr (12, [.ref q2844, .ref q2845, .ref q2846, .ref q2847, .int p2858, .int p2859, .int p2860, .int p2861, .int p2862, .int p2863, .int p2864])), (q2844, .inl (I .int, 2048, .inl f2868)), (q2846, .inl (I .int, 100, .inl f2870)), (q2847, .inl (I .int, 512, .inl f2871)), (q2845, .inl (I .int, 100, .inl f3227))]) (cs' := 0) (sl' := 0) rfl rfl rfl ?_
        refine G_iload_n 5 d_cX7_step_298 rfl ?_
        refine G_iconst 1 d_cX7_step_299 (by decide +kernel) ?_
        refine G_iadd d_cX7_step_300 (G_nam fun z3229 hz3229 => ?_)
        have ez3229 : z3229.toInt = p2857.toInt + 1 := by rw [gI_add hz3229 bp2857 (gBl (show Int32.toInt 1 = 1 by decide)) (by decide) (by decide), show Int32.toInt 1 = 1 from by decide]
        have bz3229 : gB z3229 1 200 := gB_add (gI_add hz3229 bp2857 (gBl (show Int32.toInt 1 = 1 by decide)) (by decide) (by decide)) bp2857 (gBl (show Int32.toInt 1 = 1 by decide)) (by decide) (by decide)
        refine G_sub (ws' := [(q2842, .inr (12, [.ref q2844, .ref q2845, .ref q2846, .ref q2847, .int p2858, .int p2859, .int p2860, .int p2861, .int p2862, .int p2863, .int p2864])), (q2843, .inr (5, [.ref q2848, .ref q2849, .ref q2850, .ref q2851, .ref q2852, .ref q2853, .ref q2854, .ref q2855, .ref q2856, .int p2865, .int p2866, .int p2867])), (q2844, .inl (I .int, 2048, .inl f2868)), (q2845, .inl (I .int, 100, .inl f3227)), (q2846, .inl (I .int, 100, .inl f2870)), (q2847, .inl (I .int, 512, .inl f2871)), (q2848, .inl (I .int, 40, .inl f2872)), (q2849, .inl (I .int, 40, .inl f2873)), (q2850, .inl (I .int, 40, .inl f2874)), (q2851, .inl (I .int, 200, .inl f2875)), (q2852, .inl (I .int, 200, .inl f2876)), (q2853, .inl (I .int, 200, .inl f2877)), (q2854, .inl (I .int, 200, .inl f2878)), (q2855, .inl (I .int, 200, .inl f2879)), (q2856, .inl (I .int, 200, .inl f2880))]) [10, 0, 11, 14, 12, 13, 1, 2, 3, 4, 5, 6, 7, 8, 9] rfl rfl ?_
        exact G_iret d_cX7_step_301 rfl (Nat.le_of_ble_eq_true rfl) (Nat.le_of_ble_eq_true rfl) ⟨z3229, f3227, p2863, p2861, p2864, f2871, f2870, p2859, p2860, rfl, rfl, (gB_w bz3229 (by decide) (by decide)), bf3227, bp2863, bp2861, bp2864, (gF_any f2871), (gF_any f2870), bp2859, bp2860, (fun R c1 c2 c3 c4 c5 c6 c7 c8 c9 c10 c11 c12 c13 c14 c15 c16 c17 c18 c19 c20 c21 c22 c23 c24 c25 c26 c27 c28 c29 c30 c31 c32 c33 c34 c35 c36 c37 c38 => c12 z2882 z2883 z2884 z3138 z3139 z3224 o3225 f3227 z3229 hz2882 bz2882 hz2883 hz2884 r2912 ehs2921 ehs2939 ehs2972 ehs3009 ehs3056 ehs3061 ehs3121 ehs3135 hz3138 hz3139 r3144 r3223 hz3224 ht3226 ht3228 ez3229)⟩
      · have r3230 : z3139.toInt = 0 := gj_eq hc3222 (show Int32.toInt 0 = 0 by decide)
        have bz3139' : gB z3139 0 0 := ⟨by omega, by omega⟩
        refine G_iload_n 2 d_cX7_step_261 rfl ?_
        refine G_iconst 3 d_cX7_step_262 (by decide +kernel) ?_
        refine G_icmp_eq 271 d_cX7_step_263 (by decide +kernel) (fun hc3231 => ?_) (fun hc3231 => ?_)
        · have r3232 : z2882.toInt = 3 := gj_eq hc3231 (show Int32.toInt 3 = 3 by decide)
          have bz2882' : gB z2882 3 3 := ⟨by omega, by omega⟩
          refine G_aload_n 3 d_cX7_step_271 rfl ?_
          refine G_iconst 1 d_cX7_step_272 (by decide +kernel) ?_
          refine G_callV (As := [.int 1]) (wr := [(q2843, .inr (5, [.ref q2848, .ref q2849, .ref q2850, .ref q2851, .ref q2852, .ref q2853, .ref q2854, .ref q2855, .ref q2856, .int p2865, .int p2866, .int p2867])), (q2848, .inl (I .int, 40, .inl f2872)), (q2849, .inl (I .int, 40, .inl f2873)), (q2850, .inl (I .int, 40, .inl f2874)), (q2851, .inl (I .int, 200, .inl f2875)), (q2852, .inl (I .int, 200, .inl f2876)), (q2853, .inl (I .int, 200, .inl f2877)), (q2854, .inl (I .int, 200, .inl f2878)), (q2855, .inl (I .int, 200, .inl f2879)), (q2856, .inl (I .int, 200, .inl f2880))]) (gV_ok D I) (ct_2837_Machine_halt l hl0 D I q2842 q2844 q2845 q2846 q2847 1 p2858 p2859 p2860 p2861 p2862 p2863 p2864 f2868 f2869 f2870 f2871 bp2858 bp2859 bp2861 bp2863) d_cX7_step_273 ⟨w_6_86, w_1_12, w_6_89, by decide, rfl, (Nat.le_of_ble_eq_true rfl), (Nat.le_of_ble_eq_true rfl)⟩ w_6_88 w_p_60 10 rfl rfl [10, 11, 12, 13, 14] [0, 1, 2, 3, 4, 5, 6, 7, 8, 9] rfl rfl rfl rfl (by decide) (Nat.le_of_ble_eq_true rfl) (Nat.le_of_ble_eq_true rfl) (Nat.le_of_ble_eq_true rfl) (fun r w hp => ?_) (fun _ _ _ z => z.elim)
          obtain ⟨o3233, rfl, rfl, bo3233, ht3234⟩ := hp
          change G _ _ _ _ _ _ _ (.int (-1) :: _) _ _ _
          refine G_ws (ws' := [(q2843, .inr (5, [.ref q2848, .ref q2849, .ref q2850, .ref q2851, .ref q2852, .ref q2853, .ref q2854, .ref q2855, .ref q2856, .int p2865, .int p2866, .int p2867])), (q2848, .inl (I .int, 40, .inl f2872)), (q2849, .inl (I .int, 40, .inl f2873)), (q2850, .inl (I .int, 40, .inl f2874)), (q2851, .inl (I .int, 200, .inl f2875)), (q2852, .inl (I .int, 200, .inl f2876)), (q2853, .inl (I .int, 200, .inl f2877)), (q2854, .inl (I .int, 200, .inl f2878)), (q2855, .inl (I .int, 200, .inl f2879)), (q2856, .inl (I .int, 200, .inl f2880)), (q2842, .inr (12, [.ref q2844, .ref q2845, .ref q2846, .ref q2847, .int p2858, .int p2859, .int p2860, .int p2861, .int p2862, .int p2863, .int o3233])), (q2844, .inl (I .int, 2048, .inl f2868)), (q2845, .inl (I .int, 100, .inl f2869)), (q2846, .inl (I .int, 100, .inl f2870)), (q2847, .inl (I .int, 512, .inl f2871))]) (cs' := 0) (sl' := 0) rfl rfl rfl ?_
          refine G_sub (ws' := [(q2842, .inr (12, [.ref q2844, .ref q2845, .ref q2846, .ref q2847, .int p2858, .int p2859, .int p2860, .int p2861, .int p2862, .int p2863, .int o3233])), (q2843, .inr (5, [.ref q2848, .ref q2849, .ref q2850, .ref q2851, .ref q2852, .ref q2853, .ref q2854, .ref q2855, .ref q2856, .int p2865, .int p2866, .int p2867])), (q2844, .inl (I .int, 2048, .inl f2868)), (q2845, .inl (I .int, 100, .inl f2869)), (q2846, .inl (I .int, 100, .inl f2870)), (q2847, .inl (I .int, 512, .inl f2871)), (q2848, .inl (I .int, 40, .inl f2872)), (q2849, .inl (I .int, 40, .inl f2873)), (q2850, .inl (I .int, 40, .inl f2874)), (q2851, .inl (I .int, 200, .inl f2875)), (q2852, .inl (I .int, 200, .inl f2876)), (q2853, .inl (I .int, 200, .inl f2877)), (q2854, .inl (I .int, 200, .inl f2878)), (q2855, .inl (I .int, 200, .inl f2879)), (q2856, .inl (I .int, 200, .inl f2880))]) [10, 0, 11, 12, 13, 14, 1, 2, 3, 4, 5, 6, 7, 8, 9] rfl rfl ?_
          exact G_iret d_cX7_step_276 rfl (Nat.le_of_ble_eq_true rfl) (Nat.le_of_ble_eq_true rfl) ⟨(-1), f2869, p2863, p2861, o3233, f2871, f2870, p2859, p2860, rfl, rfl, (gB_w (gBl (show Int32.toInt (-1) = (-1) by decide)) (by decide) (by decide)), (gF_any f2869), bp2863, bp2861, bo3233, (gF_any f2871), (gF_any f2870), bp2859, bp2860, (fun R c1 c2 c3 c4 c5 c6 c7 c8 c9 c10 c11 c12 c13 c14 c15 c16 c17 c18 c19 c20 c21 c22 c23 c24 c25 c26 c27 c28 c29 c30 c31 c32 c33 c34 c35 c36 c37 c38 => c13 z2882 z2883 z2884 z3138 z3139 o3233 hz2882 bz2882 hz2883 hz2884 r2912 ehs2921 ehs2939 ehs2972 ehs3009 ehs3056 ehs3061 ehs3121 ehs3135 hz3138 hz3139 r3144 r3230 r3232 ht3234)⟩
        · have r3235 : z2882.toInt ≠ 3 := gj_neq hc3231 (show Int32.toInt 3 = 3 by decide)
          refine G_iload_n 2 d_cX7_step_266 rfl ?_
          refine G_iconst 4 d_cX7_step_267 (by decide +kernel) ?_
          refine G_icmp_ne 277 d_cX7_step_268 (by decide +kernel) (fun hc3236 => ?_) (fun hc3236 => ?_)
          · have r3237 : z2882.toInt ≠ 4 := gj_neq hc3236 (show Int32.toInt 4 = 4 by decide)
            refine G_aload_n 3 d_cX7_step_277 rfl ?_
            refine G_getf 10 1 d_cX7_step_278 rfl (gk_X7 D I) (Nat.le_of_ble_eq_true rfl) w_2_161 rfl ?_
            refine G_aload_n 4 d_cX7_step_281 rfl ?_
            refine G_getfN 0 4 d_cX7_step_282 rfl (gk_X0 D I) (Nat.le_of_ble_eq_true rfl) (fun _ _ _ h => gn_w 20 rfl h) rfl ?_
            refine G_iload_n 5 d_cX7_step_285 rfl ?_
            refine G_iald 5 0 d_cX7_step_286 rfl rfl (gB_in bp2857 (by decide) (by decide)) (G_nam fun z3238 hz3238 => ?_)
            have bz3238 : gB z3238 (-2147483648) 2147483647 := gB_any z3238
            refine G_iload_n 2 d_cX7_step_287 rfl ?_
            refine G_iload 1 d_cX7_step_288 rfl ?_
            refine G_iload 0 d_cX7_step_290 rfl ?_
            refine G_callS (As := [.int z2882, .int z2884, .int z3139]) (wr := [(q2843, .inr (5, [.ref q2848, .ref q2849, .ref q2850, .ref q2851, .ref q2852, .ref q2853, .ref q2854, .ref q2855, .ref q2856, .int p2865, .int p2866, .int p2867])), (q2848, .inl (I .int, 40, .inl f2872)), (q2849, .inl (I .int, 40, .inl f2873)), (q2850, .inl (I .int, 40, .inl f2874)), (q2851, .inl (I .int, 200, .inl f2875)), (q2852, .inl (I .int, 200, .inl f2876)), (q2853, .inl (I .int, 200, .inl f2877)), (q2854, .inl (I .int, 200, .inl f2878)), (q2855, .inl (I .int, 200, .inl f2879)), (q2856, .inl (I .int, 200, .inl f2880)), (q2842, .inr (12, [.ref q2844, .ref q2845, .ref q2846, .ref q2847, .int p2858, .int p2859, .int p2860, .int p2861, .int p2862, .int p2863, .int p2864])), (q2844, .inl (I .int, 2048, .inl f2868)), (q2845, .inl (I .int, 100, .inl f2869)), (q2846, .inl (I .int, 100, .inl f2870)), (q2847, .inl (I .int, 512, .inl f2871))]) (gV_ok D I) (ct_3156_Machine_calculate l hl0 D I z2882 z2884 z3139 ) d_cX7_step_292 ⟨w_6_105, w_1_12, w_6_107, by decide, rfl, (Nat.le_of_ble_eq_true rfl), (Nat.le_of_ble_eq_true rfl)⟩ w_6_106 [] [0, 1, 2, 3, 4, 5, 6, 7, 8, 9, 10, 11, 12, 13, 14] rfl rfl rfl rfl (by decide) (Nat.le_of_ble_eq_true rfl) (Nat.le_of_ble_eq_true rfl) (Nat.le_of_ble_eq_true rfl) (fun r w hp => ?_) (fun _ _ _ z => z.elim)
            obtain ⟨o3239, rfl, rfl, bo3239, ht3240⟩ := hp
            change G _ _ _ _ _ _ _ (.int o3239 :: _) _ _ _
            refine G_ws (ws' := [(q2843, .inr (5, [.ref q2848, .ref q2849, .ref q2850, .ref q2851, .ref q2852, .ref q2853, .ref q2854, .ref q2855, .ref q2856, .int p2865, .int p2866, .int p2867])), (q2848, .inl (I .int, 40, .inl f2872)), (q2849, .inl (I .int, 40, .inl f2873)), (q2850, .inl (I .int, 40, .inl f2874)), (q2851, .inl (I .int, 200, .inl f2875)), (q2852, .inl (I .int, 200, .inl f2876)), (q2853, .inl (I .int, 200, .inl f2877)), (q2854, .inl (I .int, 200, .inl f2878)), (q2855, .inl (I .int, 200, .inl f2879)), (q2856, .inl (I .int, 200, .inl f2880)), (q2842, .inr (12, [.ref q2844, .ref q2845, .ref q2846, .ref q2847, .int p2858, .int p2859, .int p2860, .int p2861, .int p2862, .int p2863, .int p2864])), (q2844, .inl (I .int, 2048, .inl f2868)), (q2845, .inl (I .int, 100, .inl f2869)), (q2846, .inl (I .int, 100, .inl f2870)), (q2847, .inl (I .int, 512, .inl f2871))]) (cs' := 0) (sl' := 0) rfl rfl rfl ?_
            refine G_callS (As := [.ref q2845, .int z3238, .int o3239]) (wr := [(q2843, .inr (5, [.ref q2848, .ref q2849, .ref q2850, .ref q2851, .ref q2852, .ref q2853, .ref q2854, .ref q2855, .ref q2856, .int p2865, .int p2866, .int p2867])), (q2848, .inl (I .int, 40, .inl f2872)), (q2849, .inl (I .int, 40, .inl f2873)), (q2850, .inl (I .int, 40, .inl f2874)), (q2851, .inl (I .int, 200, .inl f2875)), (q2852, .inl (I .int, 200, .inl f2876)), (q2853, .inl (I .int, 200, .inl f2877)), (q2854, .inl (I .int, 200, .inl f2878)), (q2855, .inl (I .int, 200, .inl f2879)), (q2856, .inl (I .int, 200, .inl f2880)), (q2842, .inr (12, [.ref q2844, .ref q2845, .ref q2846, .ref q2847, .int p2858, .int p2859, .int p2860, .int p2861, .int p2862, .int p2863, .int p2864])), (q2844, .inl (I .int, 2048, .inl f2868)), (q2846, .inl (I .int, 100, .inl f2870)), (q2847, .inl (I .int, 512, .inl f2871))]) (gV_ok D I) (ct_2927_Machine_put l hl0 D I q2845 z3238 o3239 f2869 ) d_cX7_step_295 ⟨w_6_94, w_1_12, w_6_96, by decide, rfl, (Nat.le_of_ble_eq_true rfl), (Nat.le_of_ble_eq_true rfl)⟩ w_6_95 [12] [0, 1, 2, 3, 4, 5, 6, 7, 8, 9, 10, 11, 13, 14] rfl rfl rfl rfl (by decide) (Nat.le_of_ble_eq_true rfl) (Nat.le_of_ble_eq_true rfl) (Nat.le_of_ble_eq_true rfl) (fun r w hp => ?_) (fun _ _ _ z => z.elim)
            obtain ⟨f3241, rfl, rfl, bf3241, ht3242⟩ := hp
            change G _ _ _ _ _ _ _ _ _ _ _
            refine G_ws (ws' := [(q2843, .inr (5, [.ref q2848, .ref q2849, .ref q2850, .ref q2851, .ref q2852, .ref q2853, .ref q2854, .ref q2855, .ref q2856, .int p2865, .int p2866, .int p2867])), (q2848, .inl (I .int, 40, .inl f2872)), (q2849, .inl (I .int, 40, .inl f2873)), (q2850, .inl (I .int, 40, .inl f2874)), (q2851, .inl (I .int, 200, .inl f2875)), (q2852, .inl (I .int, 200, .inl f2876)), (q2853, .inl (I .int, 200, .inl f2877)), (q2854, .inl (I .int, 200, .inl f2878)), (q2855, .inl (I .int, 200, .inl f2879)), (q2856, .inl (I .int, 200, .inl f2880)), (q2842, .inr (12, [.ref q2844, .ref q2845, .ref q2846, .ref q2847, .int p2858, .int p2859, .int p2860, .int p2861, .int p2862, .int p2863, .int p2864])), (q2844, .inl (I .int, 2048, .inl f2868)), (q2846, .inl (I .int, 100, .inl f2870)), (q2847, .inl (I .int, 512, .inl f2871)), (q2845, .inl (I .int, 100, .inl f3241))]) (cs' := 0) (sl' := 0) rfl rfl rfl ?_
            refine G_iload_n 5 d_cX7_step_298 rfl ?_
            refine G_iconst 1 d_cX7_step_299 (by decide +kernel) ?_
            refine G_iadd d_cX7_step_300 (G_nam fun z3243 hz3243 => ?_)
            have ez3243 : z3243.toInt = p2857.toInt + 1 := by rw [gI_add hz3243 bp2857 (gBl (show Int32.toInt 1 = 1 by decide)) (by decide) (by decide), show Int32.toInt 1 = 1 from by decide]
            have bz3243 : gB z3243 1 200 := gB_add (gI_add hz3243 bp2857 (gBl (show Int32.toInt 1 = 1 by decide)) (by decide) (by decide)) bp2857 (gBl (show Int32.toInt 1 = 1 by decide)) (by decide) (by decide)
            refine G_sub (ws' := [(q2842, .inr (12, [.ref q2844, .ref q2845, .ref q2846, .ref q2847, .int p2858, .int p2859, .int p2860, .int p2861, .int p2862, .int p2863, .int p2864])), (q2843, .inr (5, [.ref q2848, .ref q2849, .ref q2850, .ref q2851, .ref q2852, .ref q2853, .ref q2854, .ref q2855, .ref q2856, .int p2865, .int p2866, .int p2867])), (q2844, .inl (I .int, 2048, .inl f2868)), (q2845, .inl (I .int, 100, .inl f3241)), (q2846, .inl (I .int, 100, .inl f2870)), (q2847, .inl (I .int, 512, .inl f2871)), (q2848, .inl (I .int, 40, .inl f2872)), (q2849, .inl (I .int, 40, .inl f2873)), (q2850, .inl (I .int, 40, .inl f2874)), (q2851, .inl (I .int, 200, .inl f2875)), (q2852, .inl (I .int, 200, .inl f2876)), (q2853, .inl (I .int, 200, .inl f2877)), (q2854, .inl (I .int, 200, .inl f2878)), (q2855, .inl (I .int, 200, .inl f2879)), (q2856, .inl (I .int, 200, .inl f2880))]) [10, 0, 11, 14, 12, 13, 1, 2, 3, 4, 5, 6, 7, 8, 9] rfl rfl ?_
            exact G_iret d_cX7_step_301 rfl (Nat.le_of_ble_eq_true rfl) (Nat.le_of_ble_eq_true rfl) ⟨z3243, f3241, p2863, p2861, p2864, f2871, f2870, p2859, p2860, rfl, rfl, (gB_w bz3243 (by decide) (by decide)), bf3241, bp2863, bp2861, bp2864, (gF_any f2871), (gF_any f2870), bp2859, bp2860, (fun R c1 c2 c3 c4 c5 c6 c7 c8 c9 c10 c11 c12 c13 c14 c15 c16 c17 c18 c19 c20 c21 c22 c23 c24 c25 c26 c27 c28 c29 c30 c31 c32 c33 c34 c35 c36 c37 c38 => c14 z2882 z2883 z2884 z3138 z3139 z3238 o3239 f3241 z3243 hz2882 bz2882 hz2883 hz2884 r2912 ehs2921 ehs2939 ehs2972 ehs3009 ehs3056 ehs3061 ehs3121 ehs3135 hz3138 hz3139 r3144 r3230 r3235 r3237 hz3238 ht3240 ht3242 ez3243)⟩
          · have r3244 : z2882.toInt = 4 := gj_eq hc3236 (show Int32.toInt 4 = 4 by decide)
            have bz2882' : gB z2882 4 4 := ⟨by omega, by omega⟩
            refine G_aload_n 3 d_cX7_step_271 rfl ?_
            refine G_iconst 1 d_cX7_step_272 (by decide +kernel) ?_
            refine G_callV (As := [.int 1]) (wr := [(q2843, .inr (5, [.ref q2848, .ref q2849, .ref q2850, .ref q2851, .ref q2852, .ref q2853, .ref q2854, .ref q2855, .ref q2856, .int p2865, .int p2866, .int p2867])), (q2848, .inl (I .int, 40, .inl f2872)), (q2849, .inl (I .int, 40, .inl f2873)), (q2850, .inl (I .int, 40, .inl f2874)), (q2851, .inl (I .int, 200, .inl f2875)), (q2852, .inl (I .int, 200, .inl f2876)), (q2853, .inl (I .int, 200, .inl f2877)), (q2854, .inl (I .int, 200, .inl f2878)), (q2855, .inl (I .int, 200, .inl f2879)), (q2856, .inl (I .int, 200, .inl f2880))]) (gV_ok D I) (ct_2837_Machine_halt l hl0 D I q2842 q2844 q2845 q2846 q2847 1 p2858 p2859 p2860 p2861 p2862 p2863 p2864 f2868 f2869 f2870 f2871 bp2858 bp2859 bp2861 bp2863) d_cX7_step_273 ⟨w_6_86, w_1_12, w_6_89, by decide, rfl, (Nat.le_of_ble_eq_true rfl), (Nat.le_of_ble_eq_true rfl)⟩ w_6_88 w_p_60 10 rfl rfl [10, 11, 12, 13, 14] [0, 1, 2, 3, 4, 5, 6, 7, 8, 9] rfl rfl rfl rfl (by decide) (Nat.le_of_ble_eq_true rfl) (Nat.le_of_ble_eq_true rfl) (Nat.le_of_ble_eq_true rfl) (fun r w hp => ?_) (fun _ _ _ z => z.elim)
            obtain ⟨o3245, rfl, rfl, bo3245, ht3246⟩ := hp
            change G _ _ _ _ _ _ _ (.int (-1) :: _) _ _ _
            refine G_ws (ws' := [(q2843, .inr (5, [.ref q2848, .ref q2849, .ref q2850, .ref q2851, .ref q2852, .ref q2853, .ref q2854, .ref q2855, .ref q2856, .int p2865, .int p2866, .int p2867])), (q2848, .inl (I .int, 40, .inl f2872)), (q2849, .inl (I .int, 40, .inl f2873)), (q2850, .inl (I .int, 40, .inl f2874)), (q2851, .inl (I .int, 200, .inl f2875)), (q2852, .inl (I .int, 200, .inl f2876)), (q2853, .inl (I .int, 200, .inl f2877)), (q2854, .inl (I .int, 200, .inl f2878)), (q2855, .inl (I .int, 200, .inl f2879)), (q2856, .inl (I .int, 200, .inl f2880)), (q2842, .inr (12, [.ref q2844, .ref q2845, .ref q2846, .ref q2847, .int p2858, .int p2859, .int p2860, .int p2861, .int p2862, .int p2863, .int o3245])), (q2844, .inl (I .int, 2048, .inl f2868)), (q2845, .inl (I .int, 100, .inl f2869)), (q2846, .inl (I .int, 100, .inl f2870)), (q2847, .inl (I .int, 512, .inl f2871))]) (cs' := 0) (sl' := 0) rfl rfl rfl ?_
            refine G_sub (ws' := [(q2842, .inr (12, [.ref q2844, .ref q2845, .ref q2846, .ref q2847, .int p2858, .int p2859, .int p2860, .int p2861, .int p2862, .int p2863, .int o3245])), (q2843, .inr (5, [.ref q2848, .ref q2849, .ref q2850, .ref q2851, .ref q2852, .ref q2853, .ref q2854, .ref q2855, .ref q2856, .int p2865, .int p2866, .int p2867])), (q2844, .inl (I .int, 2048, .inl f2868)), (q2845, .inl (I .int, 100, .inl f2869)), (q2846, .inl (I .int, 100, .inl f2870)), (q2847, .inl (I .int, 512, .inl f2871)), (q2848, .inl (I .int, 40, .inl f2872)), (q2849, .inl (I .int, 40, .inl f2873)), (q2850, .inl (I .int, 40, .inl f2874)), (q2851, .inl (I .int, 200, .inl f2875)), (q2852, .inl (I .int, 200, .inl f2876)), (q2853, .inl (I .int, 200, .inl f2877)), (q2854, .inl (I .int, 200, .inl f2878)), (q2855, .inl (I .int, 200, .inl f2879)), (q2856, .inl (I .int, 200, .inl f2880))]) [10, 0, 11, 12, 13, 14, 1, 2, 3, 4, 5, 6, 7, 8, 9] rfl rfl ?_
            exact G_iret d_cX7_step_276 rfl (Nat.le_of_ble_eq_true rfl) (Nat.le_of_ble_eq_true rfl) ⟨(-1), f2869, p2863, p2861, o3245, f2871, f2870, p2859, p2860, rfl, rfl, (gB_w (gBl (show Int32.toInt (-1) = (-1) by decide)) (by decide) (by decide)), (gF_any f2869), bp2863, bp2861, bo3245, (gF_any f2871), (gF_any f2870), bp2859, bp2860, (fun R c1 c2 c3 c4 c5 c6 c7 c8 c9 c10 c11 c12 c13 c14 c15 c16 c17 c18 c19 c20 c21 c22 c23 c24 c25 c26 c27 c28 c29 c30 c31 c32 c33 c34 c35 c36 c37 c38 => c15 z2882 z2883 z2884 z3138 z3139 o3245 hz2882 bz2882 hz2883 hz2884 r2912 ehs2921 ehs2939 ehs2972 ehs3009 ehs3056 ehs3061 ehs3121 ehs3135 hz3138 hz3139 r3144 r3230 r3235 r3244 ht3246)⟩
    · have bz3138' : gB z3138 0 2147483647 := ⟨by omega, by omega⟩
      have bz3138'' : gB z3138 0 99 := ⟨by omega, by omega⟩
      change G _ _ _ _ _ _ _ (.int z3145 :: _) _ _ _
      refine G_ws (ws' := [(q2843, .inr (5, [.ref q2848, .ref q2849, .ref q2850, .ref q2851, .ref q2852, .ref q2853, .ref q2854, .ref q2855, .ref q2856, .int p2865, .int p2866, .int p2867])), (q2848, .inl (I .int, 40, .inl f2872)), (q2849, .inl (I .int, 40, .inl f2873)), (q2850, .inl (I .int, 40, .inl f2874)), (q2851, .inl (I .int, 200, .inl f2875)), (q2852, .inl (I .int, 200, .inl f2876)), (q2853, .inl (I .int, 200, .inl f2877)), (q2854, .inl (I .int, 200, .inl f2878)), (q2855, .inl (I .int, 200, .inl f2879)), (q2856, .inl (I .int, 200, .inl f2880)), (q2842, .inr (12, [.ref q2844, .ref q2845, .ref q2846, .ref q2847, .int p2858, .int p2859, .int p2860, .int p2861, .int p2862, .int p2863, .int p2864])), (q2844, .inl (I .int, 2048, .inl f2868)), (q2845, .inl (I .int, 100, .inl f2869)), (q2846, .inl (I .int, 100, .inl f2870)), (q2847, .inl (I .int, 512, .inl f2871))]) (cs' := 0) (sl' := 0) rfl rfl rfl ?_
      refine G_istore (L' := [(5, .int z3145), (4, .int z2884), (3, .int z2882), (0, .ref q2842), (1, .ref q2843), (2, .int p2857)]) d_cX7_step_254 (Nat.le_of_ble_eq_true rfl) rfl ?_
      refine G_iload 0 d_cX7_step_256 rfl ?_
      refine G_if_ne 277 d_cX7_step_258 (by decide +kernel) (fun hc3247 => ?_) (fun hc3247 => ?_)
      · have r3248 : z3145.toInt ≠ 0 := gj_neq hc3247 (show Int32.toInt 0 = 0 by decide)
        refine G_aload_n 3 d_cX7_step_277 rfl ?_
        refine G_getf 10 1 d_cX7_step_278 rfl (gk_X7 D I) (Nat.le_of_ble_eq_true rfl) w_2_161 rfl ?_
        refine G_aload_n 4 d_cX7_step_281 rfl ?_
        refine G_getfN 0 4 d_cX7_step_282 rfl (gk_X0 D I) (Nat.le_of_ble_eq_true rfl) (fun _ _ _ h => gn_w 20 rfl h) rfl ?_
        refine G_iload_n 5 d_cX7_step_285 rfl ?_
        refine G_iald 5 0 d_cX7_step_286 rfl rfl (gB_in bp2857 (by decide) (by decide)) (G_nam fun z3249 hz3249 => ?_)
        have bz3249 : gB z3249 (-2147483648) 2147483647 := gB_any z3249
        refine G_iload_n 2 d_cX7_step_287 rfl ?_
        refine G_iload 1 d_cX7_step_288 rfl ?_
        refine G_iload 0 d_cX7_step_290 rfl ?_
        refine G_callS (As := [.int z2882, .int z2884, .int z3145]) (wr := [(q2843, .inr (5, [.ref q2848, .ref q2849, .ref q2850, .ref q2851, .ref q2852, .ref q2853, .ref q2854, .ref q2855, .ref q2856, .int p2865, .int p2866, .int p2867])), (q2848, .inl (I .int, 40, .inl f2872)), (q2849, .inl (I .int, 40, .inl f2873)), (q2850, .inl (I .int, 40, .inl f2874)), (q2851, .inl (I .int, 200, .inl f2875)), (q2852, .inl (I .int, 200, .inl f2876)), (q2853, .inl (I .int, 200, .inl f2877)), (q2854, .inl (I .int, 200, .inl f2878)), (q2855, .inl (I .int, 200, .inl f2879)), (q2856, .inl (I .int, 200, .inl f2880)), (q2842, .inr (12, [.ref q2844, .ref q2845, .ref q2846, .ref q2847, .int p2858, .int p2859, .int p2860, .int p2861, .int p2862, .int p2863, .int p2864])), (q2844, .inl (I .int, 2048, .inl f2868)), (q2845, .inl (I .int, 100, .inl f2869)), (q2846, .inl (I .int, 100, .inl f2870)), (q2847, .inl (I .int, 512, .inl f2871))]) (gV_ok D I) (ct_3156_Machine_calculate l hl0 D I z2882 z2884 z3145 ) d_cX7_step_292 ⟨w_6_105, w_1_12, w_6_107, by decide, rfl, (Nat.le_of_ble_eq_true rfl), (Nat.le_of_ble_eq_true rfl)⟩ w_6_106 [] [0, 1, 2, 3, 4, 5, 6, 7, 8, 9, 10, 11, 12, 13, 14] rfl rfl rfl rfl (by decide) (Nat.le_of_ble_eq_true rfl) (Nat.le_of_ble_eq_true rfl) (Nat.le_of_ble_eq_true rfl) (fun r w hp => ?_) (fun _ _ _ z => z.elim)
        obtain ⟨o3250, rfl, rfl, bo3250, ht3251⟩ := hp
        change G _ _ _ _ _ _ _ (.int o3250 :: _) _ _ _
        refine G_ws (ws' := [(q2843, .inr (5, [.ref q2848, .ref q2849, .ref q2850, .ref q2851, .ref q2852, .ref q2853, .ref q2854, .ref q2855, .ref q2856, .int p2865, .int p2866, .int p2867])), (q2848, .inl (I .int, 40, .inl f2872)), (q2849, .inl (I .int, 40, .inl f2873)), (q2850, .inl (I .int, 40, .inl f2874)), (q2851, .inl (I .int, 200, .inl f2875)), (q2852, .inl (I .int, 200, .inl f2876)), (q2853, .inl (I .int, 200, .inl f2877)), (q2854, .inl (I .int, 200, .inl f2878)), (q2855, .inl (I .int, 200, .inl f2879)), (q2856, .inl (I .int, 200, .inl f2880)), (q2842, .inr (12, [.ref q2844, .ref q2845, .ref q2846, .ref q2847, .int p2858, .int p2859, .int p2860, .int p2861, .int p2862, .int p2863, .int p2864])), (q2844, .inl (I .int, 2048, .inl f2868)), (q2845, .inl (I .int, 100, .inl f2869)), (q2846, .inl (I .int, 100, .inl f2870)), (q2847, .inl (I .int, 512, .inl f2871))]) (cs' := 0) (sl' := 0) rfl rfl rfl ?_
        refine G_callS (As := [.ref q2845, .int z3249, .int o3250]) (wr := [(q2843, .inr (5, [.ref q2848, .ref q2849, .ref q2850, .ref q2851, .ref q2852, .ref q2853, .ref q2854, .ref q2855, .ref q2856, .int p2865, .int p2866, .int p2867])), (q2848, .inl (I .int, 40, .inl f2872)), (q2849, .inl (I .int, 40, .inl f2873)), (q2850, .inl (I .int, 40, .inl f2874)), (q2851, .inl (I .int, 200, .inl f2875)), (q2852, .inl (I .int, 200, .inl f2876)), (q2853, .inl (I .int, 200, .inl f2877)), (q2854, .inl (I .int, 200, .inl f2878)), (q2855, .inl (I .int, 200, .inl f2879)), (q2856, .inl (I .int, 200, .inl f2880)), (q2842, .inr (12, [.ref q2844, .ref q2845, .ref q2846, .ref q2847, .int p2858, .int p2859, .int p2860, .int p2861, .int p2862, .int p2863, .int p2864])), (q2844, .inl (I .int, 2048, .inl f2868)), (q2846, .inl (I .int, 100, .inl f2870)), (q2847, .inl (I .int, 512, .inl f2871))]) (gV_ok D I) (ct_2927_Machine_put l hl0 D I q2845 z3249 o3250 f2869 ) d_cX7_step_295 ⟨w_6_94, w_1_12, w_6_96, by decide, rfl, (Nat.le_of_ble_eq_true rfl), (Nat.le_of_ble_eq_true rfl)⟩ w_6_95 [12] [0, 1, 2, 3, 4, 5, 6, 7, 8, 9, 10, 11, 13, 14] rfl rfl rfl rfl (by decide) (Nat.le_of_ble_eq_true rfl) (Nat.le_of_ble_eq_true rfl) (Nat.le_of_ble_eq_true rfl) (fun r w hp => ?_) (fun _ _ _ z => z.elim)
        obtain ⟨f3252, rfl, rfl, bf3252, ht3253⟩ := hp
        change G _ _ _ _ _ _ _ _ _ _ _
        refine G_ws (ws' := [(q2843, .inr (5, [.ref q2848, .ref q2849, .ref q2850, .ref q2851, .ref q2852, .ref q2853, .ref q2854, .ref q2855, .ref q2856, .int p2865, .int p2866, .int p2867])), (q2848, .inl (I .int, 40, .inl f2872)), (q2849, .inl (I .int, 40, .inl f2873)), (q2850, .inl (I .int, 40, .inl f2874)), (q2851, .inl (I .int, 200, .inl f2875)), (q2852, .inl (I .int, 200, .inl f2876)), (q2853, .inl (I .int, 200, .inl f2877)), (q2854, .inl (I .int, 200, .inl f2878)), (q2855, .inl (I .int, 200, .inl f2879)), (q2856, .inl (I .int, 200, .inl f2880)), (q2842, .inr (12, [.ref q2844, .ref q2845, .ref q2846, .ref q2847, .int p2858, .int p2859, .int p2860, .int p2861, .int p2862, .int p2863, .int p2864])), (q2844, .inl (I .int, 2048, .inl f2868)), (q2846, .inl (I .int, 100, .inl f2870)), (q2847, .inl (I .int, 512, .inl f2871)), (q2845, .inl (I .int, 100, .inl f3252))]) (cs' := 0) (sl' := 0) rfl rfl rfl ?_
        refine G_iload_n 5 d_cX7_step_298 rfl ?_
        refine G_iconst 1 d_cX7_step_299 (by decide +kernel) ?_
        refine G_iadd d_cX7_step_300 (G_nam fun z3254 hz3254 => ?_)
        have ez3254 : z3254.toInt = p2857.toInt + 1 := by rw [gI_add hz3254 bp2857 (gBl (show Int32.toInt 1 = 1 by decide)) (by decide) (by decide), show Int32.toInt 1 = 1 from by decide]
        have bz3254 : gB z3254 1 200 := gB_add (gI_add hz3254 bp2857 (gBl (show Int32.toInt 1 = 1 by decide)) (by decide) (by decide)) bp2857 (gBl (show Int32.toInt 1 = 1 by decide)) (by decide) (by decide)
        refine G_sub (ws' := [(q2842, .inr (12, [.ref q2844, .ref q2845, .ref q2846, .ref q2847, .int p2858, .int p2859, .int p2860, .int p2861, .int p2862, .int p2863, .int p2864])), (q2843, .inr (5, [.ref q2848, .ref q2849, .ref q2850, .ref q2851, .ref q2852, .ref q2853, .ref q2854, .ref q2855, .ref q2856, .int p2865, .int p2866, .int p2867])), (q2844, .inl (I .int, 2048, .inl f2868)), (q2845, .inl (I .int, 100, .inl f3252)), (q2846, .inl (I .int, 100, .inl f2870)), (q2847, .inl (I .int, 512, .inl f2871)), (q2848, .inl (I .int, 40, .inl f2872)), (q2849, .inl (I .int, 40, .inl f2873)), (q2850, .inl (I .int, 40, .inl f2874)), (q2851, .inl (I .int, 200, .inl f2875)), (q2852, .inl (I .int, 200, .inl f2876)), (q2853, .inl (I .int, 200, .inl f2877)), (q2854, .inl (I .int, 200, .inl f2878)), (q2855, .inl (I .int, 200, .inl f2879)), (q2856, .inl (I .int, 200, .inl f2880))]) [10, 0, 11, 14, 12, 13, 1, 2, 3, 4, 5, 6, 7, 8, 9] rfl rfl ?_
        exact G_iret d_cX7_step_301 rfl (Nat.le_of_ble_eq_true rfl) (Nat.le_of_ble_eq_true rfl) ⟨z3254, f3252, p2863, p2861, p2864, f2871, f2870, p2859, p2860, rfl, rfl, (gB_w bz3254 (by decide) (by decide)), bf3252, bp2863, bp2861, bp2864, (gF_any f2871), (gF_any f2870), bp2859, bp2860, (fun R c1 c2 c3 c4 c5 c6 c7 c8 c9 c10 c11 c12 c13 c14 c15 c16 c17 c18 c19 c20 c21 c22 c23 c24 c25 c26 c27 c28 c29 c30 c31 c32 c33 c34 c35 c36 c37 c38 => c16 z2882 z2883 z2884 z3138 z3139 z3145 z3249 o3250 f3252 z3254 hz2882 bz2882 hz2883 hz2884 r2912 ehs2921 ehs2939 ehs2972 ehs3009 ehs3056 ehs3061 ehs3121 ehs3135 hz3138 hz3139 r3149 r3248 hz3249 ht3251 ht3253 ez3254)⟩
      · have r3255 : z3145.toInt = 0 := gj_eq hc3247 (show Int32.toInt 0 = 0 by decide)
        have r3148' : gB z3145 0 0 := ⟨by omega, by omega⟩
        refine G_iload_n 2 d_cX7_step_261 rfl ?_
        refine G_iconst 3 d_cX7_step_262 (by decide +kernel) ?_
        refine G_icmp_eq 271 d_cX7_step_263 (by decide +kernel) (fun hc3256 => ?_) (fun hc3256 => ?_)
        · have r3257 : z2882.toInt = 3 := gj_eq hc3256 (show Int32.toInt 3 = 3 by decide)
          have bz2882' : gB z2882 3 3 := ⟨by omega, by omega⟩
          refine G_aload_n 3 d_cX7_step_271 rfl ?_
          refine G_iconst 1 d_cX7_step_272 (by decide +kernel) ?_
          refine G_callV (As := [.int 1]) (wr := [(q2843, .inr (5, [.ref q2848, .ref q2849, .ref q2850, .ref q2851, .ref q2852, .ref q2853, .ref q2854, .ref q2855, .ref q2856, .int p2865, .int p2866, .int p2867])), (q2848, .inl (I .int, 40, .inl f2872)), (q2849, .inl (I .int, 40, .inl f2873)), (q2850, .inl (I .int, 40, .inl f2874)), (q2851, .inl (I .int, 200, .inl f2875)), (q2852, .inl (I .int, 200, .inl f2876)), (q2853, .inl (I .int, 200, .inl f2877)), (q2854, .inl (I .int, 200, .inl f2878)), (q2855, .inl (I .int, 200, .inl f2879)), (q2856, .inl (I .int, 200, .inl f2880))]) (gV_ok D I) (ct_2837_Machine_halt l hl0 D I q2842 q2844 q2845 q2846 q2847 1 p2858 p2859 p2860 p2861 p2862 p2863 p2864 f2868 f2869 f2870 f2871 bp2858 bp2859 bp2861 bp2863) d_cX7_step_273 ⟨w_6_86, w_1_12, w_6_89, by decide, rfl, (Nat.le_of_ble_eq_true rfl), (Nat.le_of_ble_eq_true rfl)⟩ w_6_88 w_p_60 10 rfl rfl [10, 11, 12, 13, 14] [0, 1, 2, 3, 4, 5, 6, 7, 8, 9] rfl rfl rfl rfl (by decide) (Nat.le_of_ble_eq_true rfl) (Nat.le_of_ble_eq_true rfl) (Nat.le_of_ble_eq_true rfl) (fun r w hp => ?_) (fun _ _ _ z => z.elim)
          obtain ⟨o3258, rfl, rfl, bo3258, ht3259⟩ := hp
          change G _ _ _ _ _ _ _ (.int (-1) :: _) _ _ _
          refine G_ws (ws' := [(q2843, .inr (5, [.ref q2848, .ref q2849, .ref q2850, .ref q2851, .ref q2852, .ref q2853, .ref q2854, .ref q2855, .ref q2856, .int p2865, .int p2866, .int p2867])), (q2848, .inl (I .int, 40, .inl f2872)), (q2849, .inl (I .int, 40, .inl f2873)), (q2850, .inl (I .int, 40, .inl f2874)), (q2851, .inl (I .int, 200, .inl f2875)), (q2852, .inl (I .int, 200, .inl f2876)), (q2853, .inl (I .int, 200, .inl f2877)), (q2854, .inl (I .int, 200, .inl f2878)), (q2855, .inl (I .int, 200, .inl f2879)), (q2856, .inl (I .int, 200, .inl f2880)), (q2842, .inr (12, [.ref q2844, .ref q2845, .ref q2846, .ref q2847, .int p2858, .int p2859, .int p2860, .int p2861, .int p2862, .int p2863, .int o3258])), (q2844, .inl (I .int, 2048, .inl f2868)), (q2845, .inl (I .int, 100, .inl f2869)), (q2846, .inl (I .int, 100, .inl f2870)), (q2847, .inl (I .int, 512, .inl f2871))]) (cs' := 0) (sl' := 0) rfl rfl rfl ?_
          refine G_sub (ws' := [(q2842, .inr (12, [.ref q2844, .ref q2845, .ref q2846, .ref q2847, .int p2858, .int p2859, .int p2860, .int p2861, .int p2862, .int p2863, .int o3258])), (q2843, .inr (5, [.ref q2848, .ref q2849, .ref q2850, .ref q2851, .ref q2852, .ref q2853, .ref q2854, .ref q2855, .ref q2856, .int p2865, .int p2866, .int p2867])), (q2844, .inl (I .int, 2048, .inl f2868)), (q2845, .inl (I .int, 100, .inl f2869)), (q2846, .inl (I .int, 100, .inl f2870)), (q2847, .inl (I .int, 512, .inl f2871)), (q2848, .inl (I .int, 40, .inl f2872)), (q2849, .inl (I .int, 40, .inl f2873)), (q2850, .inl (I .int, 40, .inl f2874)), (q2851, .inl (I .int, 200, .inl f2875)), (q2852, .inl (I .int, 200, .inl f2876)), (q2853, .inl (I .int, 200, .inl f2877)), (q2854, .inl (I .int, 200, .inl f2878)), (q2855, .inl (I .int, 200, .inl f2879)), (q2856, .inl (I .int, 200, .inl f2880))]) [10, 0, 11, 12, 13, 14, 1, 2, 3, 4, 5, 6, 7, 8, 9] rfl rfl ?_
          exact G_iret d_cX7_step_276 rfl (Nat.le_of_ble_eq_true rfl) (Nat.le_of_ble_eq_true rfl) ⟨(-1), f2869, p2863, p2861, o3258, f2871, f2870, p2859, p2860, rfl, rfl, (gB_w (gBl (show Int32.toInt (-1) = (-1) by decide)) (by decide) (by decide)), (gF_any f2869), bp2863, bp2861, bo3258, (gF_any f2871), (gF_any f2870), bp2859, bp2860, (fun R c1 c2 c3 c4 c5 c6 c7 c8 c9 c10 c11 c12 c13 c14 c15 c16 c17 c18 c19 c20 c21 c22 c23 c24 c25 c26 c27 c28 c29 c30 c31 c32 c33 c34 c35 c36 c37 c38 => c17 z2882 z2883 z2884 z3138 z3139 z3145 o3258 hz2882 bz2882 hz2883 hz2884 r2912 ehs2921 ehs2939 ehs2972 ehs3009 ehs3056 ehs3061 ehs3121 ehs3135 hz3138 hz3139 r3149 r3255 r3257 ht3259)⟩
        · have r3260 : z2882.toInt ≠ 3 := gj_neq hc3256 (show Int32.toInt 3 = 3 by decide)
          refine G_iload_n 2 d_cX7_step_266 rfl ?_
          refine G_iconst 4 d_cX7_step_267 (by decide +kernel) ?_
          refine G_icmp_ne 277 d_cX7_step_268 (by decide +kernel) (fun hc3261 => ?_) (fun hc3261 => ?_)
          · have r3262 : z2882.toInt ≠ 4 := gj_neq hc3261 (show Int32.toInt 4 = 4 by decide)
            refine G_aload_n 3 d_cX7_step_277 rfl ?_
            refine G_getf 10 1 d_cX7_step_278 rfl (gk_X7 D I) (Nat.le_of_ble_eq_true rfl) w_2_161 rfl ?_
            refine G_aload_n 4 d_cX7_step_281 rfl ?_
            refine G_getfN 0 4 d_cX7_step_282 rfl (gk_X0 D I) (Nat.le_of_ble_eq_true rfl) (fun _ _ _ h => gn_w 20 rfl h) rfl ?_
            refine G_iload_n 5 d_cX7_step_285 rfl ?_
            refine G_iald 5 0 d_cX7_step_286 rfl rfl (gB_in bp2857 (by decide) (by decide)) (G_nam fun z3263 hz3263 => ?_)
            have bz3263 : gB z3263 (-2147483648) 2147483647 := gB_any z3263
            refine G_iload_n 2 d_cX7_step_287 rfl ?_
            refine G_iload 1 d_cX7_step_288 rfl ?_
            refine G_iload 0 d_cX7_step_290 rfl ?_
            refine G_callS (As := [.int z2882, .int z2884, .int z3145]) (wr := [(q2843, .inr (5, [.ref q2848, .ref q2849, .ref q2850, .ref q2851, .ref q2852, .ref q2853, .ref q2854, .ref q2855, .ref q2856, .int p2865, .int p2866, .int p2867])), (q2848, .inl (I .int, 40, .inl f2872)), (q2849, .inl (I .int, 40, .inl f2873)), (q2850, .inl (I .int, 40, .inl f2874)), (q2851, .inl (I .int, 200, .inl f2875)), (q2852, .inl (I .int, 200, .inl f2876)), (q2853, .inl (I .int, 200, .inl f2877)), (q2854, .inl (I .int, 200, .inl f2878)), (q2855, .inl (I .int, 200, .inl f2879)), (q2856, .inl (I .int, 200, .inl f2880)), (q2842, .inr (12, [.ref q2844, .ref q2845, .ref q2846, .ref q2847, .int p2858, .int p2859, .int p2860, .int p2861, .int p2862, .int p2863, .int p2864])), (q2844, .inl (I .int, 2048, .inl f2868)), (q2845, .inl (I .int, 100, .inl f2869)), (q2846, .inl (I .int, 100, .inl f2870)), (q2847, .inl (I .int, 512, .inl f2871))]) (gV_ok D I) (ct_3156_Machine_calculate l hl0 D I z2882 z2884 z3145 ) d_cX7_step_292 ⟨w_6_105, w_1_12, w_6_107, by decide, rfl, (Nat.le_of_ble_eq_true rfl), (Nat.le_of_ble_eq_true rfl)⟩ w_6_106 [] [0, 1, 2, 3, 4, 5, 6, 7, 8, 9, 10, 11, 12, 13, 14] rfl rfl rfl rfl (by decide) (Nat.le_of_ble_eq_true rfl) (Nat.le_of_ble_eq_true rfl) (Nat.le_of_ble_eq_true rfl) (fun r w hp => ?_) (fun _ _ _ z => z.elim)
            obtain ⟨o3264, rfl, rfl, bo3264, ht3265⟩ := hp
            change G _ _ _ _ _ _ _ (.int o3264 :: _) _ _ _
            refine G_ws (ws' := [(q2843, .inr (5, [.ref q2848, .ref q2849, .ref q2850, .ref q2851, .ref q2852, .ref q2853, .ref q2854, .ref q2855, .ref q2856, .int p2865, .int p2866, .int p2867])), (q2848, .inl (I .int, 40, .inl f2872)), (q2849, .inl (I .int, 40, .inl f2873)), (q2850, .inl (I .int, 40, .inl f2874)), (q2851, .inl (I .int, 200, .inl f2875)), (q2852, .inl (I .int, 200, .inl f2876)), (q2853, .inl (I .int, 200, .inl f2877)), (q2854, .inl (I .int, 200, .inl f2878)), (q2855, .inl (I .int, 200, .inl f2879)), (q2856, .inl (I .int, 200, .inl f2880)), (q2842, .inr (12, [.ref q2844, .ref q2845, .ref q2846, .ref q2847, .int p2858, .int p2859, .int p2860, .int p2861, .int p2862, .int p2863, .int p2864])), (q2844, .inl (I .int, 2048, .inl f2868)), (q2845, .inl (I .int, 100, .inl f2869)), (q2846, .inl (I .int, 100, .inl f2870)), (q2847, .inl (I .int, 512, .inl f2871))]) (cs' := 0) (sl' := 0) rfl rfl rfl ?_
            refine G_callS (As := [.ref q2845, .int z3263, .int o3264]) (wr := [(q2843, .inr (5, [.ref q2848, .ref q2849, .ref q2850, .ref q2851, .ref q2852, .ref q2853, .ref q2854, .ref q2855, .ref q2856, .int p2865, .int p2866, .int p2867])), (q2848, .inl (I .int, 40, .inl f2872)), (q2849, .inl (I .int, 40, .inl f2873)), (q2850, .inl (I .int, 40, .inl f2874)), (q2851, .inl (I .int, 200, .inl f2875)), (q2852, .inl (I .int, 200, .inl f2876)), (q2853, .inl (I .int, 200, .inl f2877)), (q2854, .inl (I .int, 200, .inl f2878)), (q2855, .inl (I .int, 200, .inl f2879)), (q2856, .inl (I .int, 200, .inl f2880)), (q2842, .inr (12, [.ref q2844, .ref q2845, .ref q2846, .ref q2847, .int p2858, .int p2859, .int p2860, .int p2861, .int p2862, .int p2863, .int p2864])), (q2844, .inl (I .int, 2048, .inl f2868)), (q2846, .inl (I .int, 100, .inl f2870)), (q2847, .inl (I .int, 512, .inl f2871))]) (gV_ok D I) (ct_2927_Machine_put l hl0 D I q2845 z3263 o3264 f2869 ) d_cX7_step_295 ⟨w_6_94, w_1_12, w_6_96, by decide, rfl, (Nat.le_of_ble_eq_true rfl), (Nat.le_of_ble_eq_true rfl)⟩ w_6_95 [12] [0, 1, 2, 3, 4, 5, 6, 7, 8, 9, 10, 11, 13, 14] rfl rfl rfl rfl (by decide) (Nat.le_of_ble_eq_true rfl) (Nat.le_of_ble_eq_true rfl) (Nat.le_of_ble_eq_true rfl) (fun r w hp => ?_) (fun _ _ _ z => z.elim)
            obtain ⟨f3266, rfl, rfl, bf3266, ht3267⟩ := hp
            change G _ _ _ _ _ _ _ _ _ _ _
            refine G_ws (ws' := [(q2843, .inr (5, [.ref q2848, .ref q2849, .ref q2850, .ref q2851, .ref q2852, .ref q2853, .ref q2854, .ref q2855, .ref q2856, .int p2865, .int p2866, .int p2867])), (q2848, .inl (I .int, 40, .inl f2872)), (q2849, .inl (I .int, 40, .inl f2873)), (q2850, .inl (I .int, 40, .inl f2874)), (q2851, .inl (I .int, 200, .inl f2875)), (q2852, .inl (I .int, 200, .inl f2876)), (q2853, .inl (I .int, 200, .inl f2877)), (q2854, .inl (I .int, 200, .inl f2878)), (q2855, .inl (I .int, 200, .inl f2879)), (q2856, .inl (I .int, 200, .inl f2880)), (q2842, .inr (12, [.ref q2844, .ref q2845, .ref q2846, .ref q2847, .int p2858, .int p2859, .int p2860, .int p2861, .int p2862, .int p2863, .int p2864])), (q2844, .inl (I .int, 2048, .inl f2868)), (q2846, .inl (I .int, 100, .inl f2870)), (q2847, .inl (I .int, 512, .inl f2871)), (q2845, .inl (I .int, 100, .inl f3266))]) (cs' := 0) (sl' := 0) rfl rfl rfl ?_
            refine G_iload_n 5 d_cX7_step_298 rfl ?_
            refine G_iconst 1 d_cX7_step_299 (by decide +kernel) ?_
            refine G_iadd d_cX7_step_300 (G_nam fun z3268 hz3268 => ?_)
            have ez3268 : z3268.toInt = p2857.toInt + 1 := by rw [gI_add hz3268 bp2857 (gBl (show Int32.toInt 1 = 1 by decide)) (by decide) (by decide), show Int32.toInt 1 = 1 from by decide]
            have bz3268 : gB z3268 1 200 := gB_add (gI_add hz3268 bp2857 (gBl (show Int32.toInt 1 = 1 by decide)) (by decide) (by decide)) bp2857 (gBl (show Int32.toInt 1 = 1 by decide)) (by decide) (by decide)
            refine G_sub (ws' := [(q2842, .inr (12, [.ref q2844, .ref q2845, .ref q2846, .ref q2847, .int p2858, .int p2859, .int p2860, .int p2861, .int p2862, .int p2863, .int p2864])), (q2843, .inr (5, [.ref q2848, .ref q2849, .ref q2850, .ref q2851, .ref q2852, .ref q2853, .ref q2854, .ref q2855, .ref q2856, .int p2865, .int p2866, .int p2867])), (q2844, .inl (I .int, 2048, .inl f2868)), (q2845, .inl (I .int, 100, .inl f3266)), (q2846, .inl (I .int, 100, .inl f2870)), (q2847, .inl (I .int, 512, .inl f2871)), (q2848, .inl (I .int, 40, .inl f2872)), (q2849, .inl (I .int, 40, .inl f2873)), (q2850, .inl (I .int, 40, .inl f2874)), (q2851, .inl (I .int, 200, .inl f2875)), (q2852, .inl (I .int, 200, .inl f2876)), (q2853, .inl (I .int, 200, .inl f2877)), (q2854, .inl (I .int, 200, .inl f2878)), (q2855, .inl (I .int, 200, .inl f2879)), (q2856, .inl (I .int, 200, .inl f2880))]) [10, 0, 11, 14, 12, 13, 1, 2, 3, 4, 5, 6, 7, 8, 9] rfl rfl ?_
            exact G_iret d_cX7_step_301 rfl (Nat.le_of_ble_eq_true rfl) (Nat.le_of_ble_eq_true rfl) ⟨z3268, f3266, p2863, p2861, p2864, f2871, f2870, p2859, p2860, rfl, rfl, (gB_w bz3268 (by decide) (by decide)), bf3266, bp2863, bp2861, bp2864, (gF_any f2871), (gF_any f2870), bp2859, bp2860, (fun R c1 c2 c3 c4 c5 c6 c7 c8 c9 c10 c11 c12 c13 c14 c15 c16 c17 c18 c19 c20 c21 c22 c23 c24 c25 c26 c27 c28 c29 c30 c31 c32 c33 c34 c35 c36 c37 c38 => c18 z2882 z2883 z2884 z3138 z3139 z3145 z3263 o3264 f3266 z3268 hz2882 bz2882 hz2883 hz2884 r2912 ehs2921 ehs2939 ehs2972 ehs3009 ehs3056 ehs3061 ehs3121 ehs3135 hz3138 hz3139 r3149 r3255 r3260 r3262 hz3263 ht3265 ht3267 ez3268)⟩
          · have r3269 : z2882.toInt = 4 := gj_eq hc3261 (show Int32.toInt 4 = 4 by decide)
            have bz2882' : gB z2882 4 4 := ⟨by omega, by omega⟩
            refine G_aload_n 3 d_cX7_step_271 rfl ?_
            refine G_iconst 1 d_cX7_step_272 (by decide +kernel) ?_
            refine G_callV (As := [.int 1]) (wr := [(q2843, .inr (5, [.ref q2848, .ref q2849, .ref q2850, .ref q2851, .ref q2852, .ref q2853, .ref q2854, .ref q2855, .ref q2856, .int p2865, .int p2866, .int p2867])), (q2848, .inl (I .int, 40, .inl f2872)), (q2849, .inl (I .int, 40, .inl f2873)), (q2850, .inl (I .int, 40, .inl f2874)), (q2851, .inl (I .int, 200, .inl f2875)), (q2852, .inl (I .int, 200, .inl f2876)), (q2853, .inl (I .int, 200, .inl f2877)), (q2854, .inl (I .int, 200, .inl f2878)), (q2855, .inl (I .int, 200, .inl f2879)), (q2856, .inl (I .int, 200, .inl f2880))]) (gV_ok D I) (ct_2837_Machine_halt l hl0 D I q2842 q2844 q2845 q2846 q2847 1 p2858 p2859 p2860 p2861 p2862 p2863 p2864 f2868 f2869 f2870 f2871 bp2858 bp2859 bp2861 bp2863) d_cX7_step_273 ⟨w_6_86, w_1_12, w_6_89, by decide, rfl, (Nat.le_of_ble_eq_true rfl), (Nat.le_of_ble_eq_true rfl)⟩ w_6_88 w_p_60 10 rfl rfl [10, 11, 12, 13, 14] [0, 1, 2, 3, 4, 5, 6, 7, 8, 9] rfl rfl rfl rfl (by decide) (Nat.le_of_ble_eq_true rfl) (Nat.le_of_ble_eq_true rfl) (Nat.le_of_ble_eq_true rfl) (fun r w hp => ?_) (fun _ _ _ z => z.elim)
            obtain ⟨o3270, rfl, rfl, bo3270, ht3271⟩ := hp
            change G _ _ _ _ _ _ _ (.int (-1) :: _) _ _ _
            refine G_ws (ws' := [(q2843, .inr (5, [.ref q2848, .ref q2849, .ref q2850, .ref q2851, .ref q2852, .ref q2853, .ref q2854, .ref q2855, .ref q2856, .int p2865, .int p2866, .int p2867])), (q2848, .inl (I .int, 40, .inl f2872)), (q2849, .inl (I .int, 40, .inl f2873)), (q2850, .inl (I .int, 40, .inl f2874)), (q2851, .inl (I .int, 200, .inl f2875)), (q2852, .inl (I .int, 200, .inl f2876)), (q2853, .inl (I .int, 200, .inl f2877)), (q2854, .inl (I .int, 200, .inl f2878)), (q2855, .inl (I .int, 200, .inl f2879)), (q2856, .inl (I .int, 200, .inl f2880)), (q2842, .inr (12, [.ref q2844, .ref q2845, .ref q2846, .ref q2847, .int p2858, .int p2859, .int p2860, .int p2861, .int p2862, .int p2863, .int o3270])), (q2844, .inl (I .int, 2048, .inl f2868)), (q2845, .inl (I .int, 100, .inl f2869)), (q2846, .inl (I .int, 100, .inl f2870)), (q2847, .inl (I .int, 512, .inl f2871))]) (cs' := 0) (sl' := 0) rfl rfl rfl ?_
            refine G_sub (ws' := [(q2842, .inr (12, [.ref q2844, .ref q2845, .ref q2846, .ref q2847, .int p2858, .int p2859, .int p2860, .int p2861, .int p2862, .int p2863, .int o3270])), (q2843, .inr (5, [.ref q2848, .ref q2849, .ref q2850, .ref q2851, .ref q2852, .ref q2853, .ref q2854, .ref q2855, .ref q2856, .int p2865, .int p2866, .int p2867])), (q2844, .inl (I .int, 2048, .inl f2868)), (q2845, .inl (I .int, 100, .inl f2869)), (q2846, .inl (I .int, 100, .inl f2870)), (q2847, .inl (I .int, 512, .inl f2871)), (q2848, .inl (I .int, 40, .inl f2872)), (q2849, .inl (I .int, 40, .inl f2873)), (q2850, .inl (I .int, 40, .inl f2874)), (q2851, .inl (I .int, 200, .inl f2875)), (q2852, .inl (I .int, 200, .inl f2876)), (q2853, .inl (I .int, 200, .inl f2877)), (q2854, .inl (I .int, 200, .inl f2878)), (q2855, .inl (I .int, 200, .inl f2879)), (q2856, .inl (I .int, 200, .inl f2880))]) [10, 0, 11, 12, 13, 14, 1, 2, 3, 4, 5, 6, 7, 8, 9] rfl rfl ?_
            exact G_iret d_cX7_step_276 rfl (Nat.le_of_ble_eq_true rfl) (Nat.le_of_ble_eq_true rfl) ⟨(-1), f2869, p2863, p2861, o3270, f2871, f2870, p2859, p2860, rfl, rfl, (gB_w (gBl (show Int32.toInt (-1) = (-1) by decide)) (by decide) (by decide)), (gF_any f2869), bp2863, bp2861, bo3270, (gF_any f2871), (gF_any f2870), bp2859, bp2860, (fun R c1 c2 c3 c4 c5 c6 c7 c8 c9 c10 c11 c12 c13 c14 c15 c16 c17 c18 c19 c20 c21 c22 c23 c24 c25 c26 c27 c28 c29 c30 c31 c32 c33 c34 c35 c36 c37 c38 => c19 z2882 z2883 z2884 z3138 z3139 z3145 o3270 hz2882 bz2882 hz2883 hz2884 r2912 ehs2921 ehs2939 ehs2972 ehs3009 ehs3056 ehs3061 ehs3121 ehs3135 hz3138 hz3139 r3149 r3255 r3260 r3269 ht3271)⟩
  · have bz2883' : gB z2883 0 2147483647 := ⟨by omega, by omega⟩
    have bz2883'' : gB z2883 100 2147483647 := ⟨by omega, by omega⟩
    change G _ _ _ _ _ _ _ (.int z2884 :: _) _ _ _
    refine G_ws (ws' := [(q2843, .inr (5, [.ref q2848, .ref q2849, .ref q2850, .ref q2851, .ref q2852, .ref q2853, .ref q2854, .ref q2855, .ref q2856, .int p2865, .int p2866, .int p2867])), (q2848, .inl (I .int, 40, .inl f2872)), (q2849, .inl (I .int, 40, .inl f2873)), (q2850, .inl (I .int, 40, .inl f2874)), (q2851, .inl (I .int, 200, .inl f2875)), (q2852, .inl (I .int, 200, .inl f2876)), (q2853, .inl (I .int, 200, .inl f2877)), (q2854, .inl (I .int, 200, .inl f2878)), (q2855, .inl (I .int, 200, .inl f2879)), (q2856, .inl (I .int, 200, .inl f2880)), (q2842, .inr (12, [.ref q2844, .ref q2845, .ref q2846, .ref q2847, .int p2858, .int p2859, .int p2860, .int p2861, .int p2862, .int p2863, .int p2864])), (q2844, .inl (I .int, 2048, .inl f2868)), (q2845, .inl (I .int, 100, .inl f2869)), (q2846, .inl (I .int, 100, .inl f2870)), (q2847, .inl (I .int, 512, .inl f2871))]) (cs' := 0) (sl' := 0) rfl rfl rfl ?_
    refine G_istore (L' := [(4, .int z2884), (3, .int z2882), (0, .ref q2842), (1, .ref q2843), (2, .int p2857)]) d_cX7_step_23 (Nat.le_of_ble_eq_true rfl) rfl ?_
    refine G_iload_n 1 d_cX7_step_25 rfl ?_
    by_cases hs3272 : z2882 = 14
    · have ehs3272 : z2882.toInt = 14 := gj_eq hs3272 (show Int32.toInt 14 = 14 by decide)
      have bz2882' : gB z2882 14 14 := ⟨by omega, by omega⟩
      refine G_eqi (y := 14) hs3272 ?_
      refine G_tableIn 198 d_cX7_step_26 (by decide) (by decide) (by first | rfl | decide) (by decide) ?_
      refine G_aload_n 2 d_cX7_step_198 rfl ?_
      refine G_getf 10 1 d_cX7_step_199 rfl (gk_X7 D I) (Nat.le_of_ble_eq_true rfl) w_2_161 rfl ?_
      refine G_aload_n 3 d_cX7_step_202 rfl ?_
      refine G_getfN 0 4 d_cX7_step_203 rfl (gk_X0 D I) (Nat.le_of_ble_eq_true rfl) (fun _ _ _ h => gn_w 20 rfl h) rfl ?_
      refine G_iload_n 4 d_cX7_step_206 rfl ?_
      refine G_iald 5 0 d_cX7_step_207 rfl rfl (gB_in bp2857 (by decide) (by decide)) (G_nam fun z3273 hz3273 => ?_)
      have bz3273 : gB z3273 (-2147483648) 2147483647 := gB_any z3273
      refine G_iload 0 d_cX7_step_208 rfl ?_
      refine G_callS (As := [.ref q2845, .int z3273, .int z2884]) (wr := [(q2843, .inr (5, [.ref q2848, .ref q2849, .ref q2850, .ref q2851, .ref q2852, .ref q2853, .ref q2854, .ref q2855, .ref q2856, .int p2865, .int p2866, .int p2867])), (q2848, .inl (I .int, 40, .inl f2872)), (q2849, .inl (I .int, 40, .inl f2873)), (q2850, .inl (I .int, 40, .inl f2874)), (q2851, .inl (I .int, 200, .inl f2875)), (q2852, .inl (I .int, 200, .inl f2876)), (q2853, .inl (I .int, 200, .inl f2877)), (q2854, .inl (I .int, 200, .inl f2878)), (q2855, .inl (I .int, 200, .inl f2879)), (q2856, .inl (I .int, 200, .inl f2880)), (q2842, .inr (12, [.ref q2844, .ref q2845, .ref q2846, .ref q2847, .int p2858, .int p2859, .int p2860, .int p2861, .int p2862, .int p2863, .int p2864])), (q2844, .inl (I .int, 2048, .inl f2868)), (q2846, .inl (I .int, 100, .inl f2870)), (q2847, .inl (I .int, 512, .inl f2871))]) (gV_ok D I) (ct_2927_Machine_put l hl0 D I q2845 z3273 z2884 f2869 ) d_cX7_step_210 ⟨w_6_94, w_1_12, w_6_96, by decide, rfl, (Nat.le_of_ble_eq_true rfl), (Nat.le_of_ble_eq_true rfl)⟩ w_6_95 [12] [0, 1, 2, 3, 4, 5, 6, 7, 8, 9, 10, 11, 13, 14] rfl rfl rfl rfl (by decide) (Nat.le_of_ble_eq_true rfl) (Nat.le_of_ble_eq_true rfl) (Nat.le_of_ble_eq_true rfl) (fun r w hp => ?_) (fun _ _ _ z => z.elim)
      obtain ⟨f3274, rfl, rfl, bf3274, ht3275⟩ := hp
      change G _ _ _ _ _ _ _ _ _ _ _
      refine G_ws (ws' := [(q2843, .inr (5, [.ref q2848, .ref q2849, .ref q2850, .ref q2851, .ref q2852, .ref q2853, .ref q2854, .ref q2855, .ref q2856, .int p2865, .int p2866, .int p2867])), (q2848, .inl (I .int, 40, .inl f2872)), (q2849, .inl (I .int, 40, .inl f2873)), (q2850, .inl (I .int, 40, .inl f2874)), (q2851, .inl (I .int, 200, .inl f2875)), (q2852, .inl (I .int, 200, .inl f2876)), (q2853, .inl (I .int, 200, .inl f2877)), (q2854, .inl (I .int, 200, .inl f2878)), (q2855, .inl (I .int, 200, .inl f2879)), (q2856, .inl (I .int, 200, .inl f2880)), (q2842, .inr (12, [.ref q2844, .ref q2845, .ref q2846, .ref q2847, .int p2858, .int p2859, .int p2860, .int p2861, .int p2862, .int p2863, .int p2864])), (q2844, .inl (I .int, 2048, .inl f2868)), (q2846, .inl (I .int, 100, .inl f2870)), (q2847, .inl (I .int, 512, .inl f2871)), (q2845, .inl (I .int, 100, .inl f3274))]) (cs' := 0) (sl' := 0) rfl rfl rfl ?_
      refine G_iload_n 4 d_cX7_step_213 rfl ?_
      refine G_iconst 1 d_cX7_step_214 (by decide +kernel) ?_
      refine G_iadd d_cX7_step_215 (G_nam fun z3276 hz3276 => ?_)
      have ez3276 : z3276.toInt = p2857.toInt + 1 := by rw [gI_add hz3276 bp2857 (gBl (show Int32.toInt 1 = 1 by decide)) (by decide) (by decide), show Int32.toInt 1 = 1 from by decide]
      have bz3276 : gB z3276 1 200 := gB_add (gI_add hz3276 bp2857 (gBl (show Int32.toInt 1 = 1 by decide)) (by decide) (by decide)) bp2857 (gBl (show Int32.toInt 1 = 1 by decide)) (by decide) (by decide)
      refine G_sub (ws' := [(q2842, .inr (12, [.ref q2844, .ref q2845, .ref q2846, .ref q2847, .int p2858, .int p2859, .int p2860, .int p2861, .int p2862, .int p2863, .int p2864])), (q2843, .inr (5, [.ref q2848, .ref q2849, .ref q2850, .ref q2851, .ref q2852, .ref q2853, .ref q2854, .ref q2855, .ref q2856, .int p2865, .int p2866, .int p2867])), (q2844, .inl (I .int, 2048, .inl f2868)), (q2845, .inl (I .int, 100, .inl f3274)), (q2846, .inl (I .int, 100, .inl f2870)), (q2847, .inl (I .int, 512, .inl f2871)), (q2848, .inl (I .int, 40, .inl f2872)), (q2849, .inl (I .int, 40, .inl f2873)), (q2850, .inl (I .int, 40, .inl f2874)), (q2851, .inl (I .int, 200, .inl f2875)), (q2852, .inl (I .int, 200, .inl f2876)), (q2853, .inl (I .int, 200, .inl f2877)), (q2854, .inl (I .int, 200, .inl f2878)), (q2855, .inl (I .int, 200, .inl f2879)), (q2856, .inl (I .int, 200, .inl f2880))]) [10, 0, 11, 14, 12, 13, 1, 2, 3, 4, 5, 6, 7, 8, 9] rfl rfl ?_
      exact G_iret d_cX7_step_216 rfl (Nat.le_of_ble_eq_true rfl) (Nat.le_of_ble_eq_true rfl) ⟨z3276, f3274, p2863, p2861, p2864, f2871, f2870, p2859, p2860, rfl, rfl, (gB_w bz3276 (by decide) (by decide)), bf3274, bp2863, bp2861, bp2864, (gF_any f2871), (gF_any f2870), bp2859, bp2860, (fun R c1 c2 c3 c4 c5 c6 c7 c8 c9 c10 c11 c12 c13 c14 c15 c16 c17 c18 c19 c20 c21 c22 c23 c24 c25 c26 c27 c28 c29 c30 c31 c32 c33 c34 c35 c36 c37 c38 => c1 z2882 z2883 z2884 z3273 f3274 z3276 hz2882 bz2882 hz2883 hz2884 r2915 ehs3272 hz3273 ht3275 ez3276)⟩
    by_cases hs3277 : z2882 = 15
    · have ehs3277 : z2882.toInt = 15 := gj_eq hs3277 (show Int32.toInt 15 = 15 by decide)
      have bz2882' : gB z2882 15 15 := ⟨by omega, by omega⟩
      refine G_eqi (y := 15) hs3277 ?_
      refine G_tableIn 217 d_cX7_step_26 (by decide) (by decide) (by first | rfl | decide) (by decide) ?_
      refine G_aload_n 2 d_cX7_step_217 rfl ?_
      refine G_getf 10 1 d_cX7_step_218 rfl (gk_X7 D I) (Nat.le_of_ble_eq_true rfl) w_2_161 rfl ?_
      refine G_aload_n 3 d_cX7_step_221 rfl ?_
      refine G_getfN 0 4 d_cX7_step_222 rfl (gk_X0 D I) (Nat.le_of_ble_eq_true rfl) (fun _ _ _ h => gn_w 20 rfl h) rfl ?_
      refine G_iload_n 4 d_cX7_step_225 rfl ?_
      refine G_iald 5 0 d_cX7_step_226 rfl rfl (gB_in bp2857 (by decide) (by decide)) (G_nam fun z3278 hz3278 => ?_)
      have bz3278 : gB z3278 (-2147483648) 2147483647 := gB_any z3278
      refine G_aload_n 2 d_cX7_step_227 rfl ?_
      refine G_callV (As := []) (wr := [(q2843, .inr (5, [.ref q2848, .ref q2849, .ref q2850, .ref q2851, .ref q2852, .ref q2853, .ref q2854, .ref q2855, .ref q2856, .int p2865, .int p2866, .int p2867])), (q2848, .inl (I .int, 40, .inl f2872)), (q2849, .inl (I .int, 40, .inl f2873)), (q2850, .inl (I .int, 40, .inl f2874)), (q2851, .inl (I .int, 200, .inl f2875)), (q2852, .inl (I .int, 200, .inl f2876)), (q2853, .inl (I .int, 200, .inl f2877)), (q2854, .inl (I .int, 200, .inl f2878)), (q2855, .inl (I .int, 200, .inl f2879)), (q2856, .inl (I .int, 200, .inl f2880))]) (gV_ok D I) (ct_2957_Machine_takeNext l hl0 D I q2842 q2844 q2845 q2846 q2847 p2858 p2859 p2860 p2861 p2862 p2863 p2864 f2868 f2869 f2870 f2871 bp2858 bp2859 bp2861 bp2863) d_cX7_step_228 ⟨w_6_101, w_1_12, w_6_104, by decide, rfl, (Nat.le_of_ble_eq_true rfl), (Nat.le_of_ble_eq_true rfl)⟩ w_6_103 w_p_63 10 rfl rfl [10, 11, 12, 13, 14] [0, 1, 2, 3, 4, 5, 6, 7, 8, 9] rfl rfl rfl rfl (by decide) (Nat.le_of_ble_eq_true rfl) (Nat.le_of_ble_eq_true rfl) (Nat.le_of_ble_eq_true rfl) (fun r w hp => ?_) (fun _ _ _ z => z.elim)
      obtain ⟨o3279, o3280, rfl, rfl, bo3279, bo3280, ht3281⟩ := hp
      change G _ _ _ _ _ _ _ (.int o3279 :: _) _ _ _
      refine G_ws (ws' := [(q2843, .inr (5, [.ref q2848, .ref q2849, .ref q2850, .ref q2851, .ref q2852, .ref q2853, .ref q2854, .ref q2855, .ref q2856, .int p2865, .int p2866, .int p2867])), (q2848, .inl (I .int, 40, .inl f2872)), (q2849, .inl (I .int, 40, .inl f2873)), (q2850, .inl (I .int, 40, .inl f2874)), (q2851, .inl (I .int, 200, .inl f2875)), (q2852, .inl (I .int, 200, .inl f2876)), (q2853, .inl (I .int, 200, .inl f2877)), (q2854, .inl (I .int, 200, .inl f2878)), (q2855, .inl (I .int, 200, .inl f2879)), (q2856, .inl (I .int, 200, .inl f2880)), (q2842, .inr (12, [.ref q2844, .ref q2845, .ref q2846, .ref q2847, .int p2858, .int p2859, .int p2860, .int p2861, .int p2862, .int o3280, .int p2864])), (q2844, .inl (I .int, 2048, .inl f2868)), (q2845, .inl (I .int, 100, .inl f2869)), (q2846, .inl (I .int, 100, .inl f2870)), (q2847, .inl (I .int, 512, .inl f2871))]) (cs' := 0) (sl' := 0) rfl rfl rfl ?_
      refine G_callS (As := [.ref q2845, .int z3278, .int o3279]) (wr := [(q2843, .inr (5, [.ref q2848, .ref q2849, .ref q2850, .ref q2851, .ref q2852, .ref q2853, .ref q2854, .ref q2855, .ref q2856, .int p2865, .int p2866, .int p2867])), (q2848, .inl (I .int, 40, .inl f2872)), (q2849, .inl (I .int, 40, .inl f2873)), (q2850, .inl (I .int, 40, .inl f2874)), (q2851, .inl (I .int, 200, .inl f2875)), (q2852, .inl (I .int, 200, .inl f2876)), (q2853, .inl (I .int, 200, .inl f2877)), (q2854, .inl (I .int, 200, .inl f2878)), (q2855, .inl (I .int, 200, .inl f2879)), (q2856, .inl (I .int, 200, .inl f2880)), (q2842, .inr (12, [.ref q2844, .ref q2845, .ref q2846, .ref q2847, .int p2858, .int p2859, .int p2860, .int p2861, .int p2862, .int o3280, .int p2864])), (q2844, .inl (I .int, 2048, .inl f2868)), (q2846, .inl (I .int, 100, .inl f2870)), (q2847, .inl (I .int, 512, .inl f2871))]) (gV_ok D I) (ct_2927_Machine_put l hl0 D I q2845 z3278 o3279 f2869 ) d_cX7_step_231 ⟨w_6_94, w_1_12, w_6_96, by decide, rfl, (Nat.le_of_ble_eq_true rfl), (Nat.le_of_ble_eq_true rfl)⟩ w_6_95 [12] [0, 1, 2, 3, 4, 5, 6, 7, 8, 9, 10, 11, 13, 14] rfl rfl rfl rfl (by decide) (Nat.le_of_ble_eq_true rfl) (Nat.le_of_ble_eq_true rfl) (Nat.le_of_ble_eq_true rfl) (fun r w hp => ?_) (fun _ _ _ z => z.elim)
      obtain ⟨f3282, rfl, rfl, bf3282, ht3283⟩ := hp
      change G _ _ _ _ _ _ _ _ _ _ _
      refine G_ws (ws' := [(q2843, .inr (5, [.ref q2848, .ref q2849, .ref q2850, .ref q2851, .ref q2852, .ref q2853, .ref q2854, .ref q2855, .ref q2856, .int p2865, .int p2866, .int p2867])), (q2848, .inl (I .int, 40, .inl f2872)), (q2849, .inl (I .int, 40, .inl f2873)), (q2850, .inl (I .int, 40, .inl f2874)), (q2851, .inl (I .int, 200, .inl f2875)), (q2852, .inl (I .int, 200, .inl f2876)), (q2853, .inl (I .int, 200, .inl f2877)), (q2854, .inl (I .int, 200, .inl f2878)), (q2855, .inl (I .int, 200, .inl f2879)), (q2856, .inl (I .int, 200, .inl f2880)), (q2842, .inr (12, [.ref q2844, .ref q2845, .ref q2846, .ref q2847, .int p2858, .int p2859, .int p2860, .int p2861, .int p2862, .int o3280, .int p2864])), (q2844, .inl (I .int, 2048, .inl f2868)), (q2846, .inl (I .int, 100, .inl f2870)), (q2847, .inl (I .int, 512, .inl f2871)), (q2845, .inl (I .int, 100, .inl f3282))]) (cs' := 0) (sl' := 0) rfl rfl rfl ?_
      refine G_iload_n 4 d_cX7_step_234 rfl ?_
      refine G_iconst 1 d_cX7_step_235 (by decide +kernel) ?_
      refine G_iadd d_cX7_step_236 (G_nam fun z3284 hz3284 => ?_)
      have ez3284 : z3284.toInt = p2857.toInt + 1 := by rw [gI_add hz3284 bp2857 (gBl (show Int32.toInt 1 = 1 by decide)) (by decide) (by decide), show Int32.toInt 1 = 1 from by decide]
      have bz3284 : gB z3284 1 200 := gB_add (gI_add hz3284 bp2857 (gBl (show Int32.toInt 1 = 1 by decide)) (by decide) (by decide)) bp2857 (gBl (show Int32.toInt 1 = 1 by decide)) (by decide) (by decide)
      refine G_sub (ws' := [(q2842, .inr (12, [.ref q2844, .ref q2845, .ref q2846, .ref q2847, .int p2858, .int p2859, .int p2860, .int p2861, .int p2862, .int o3280, .int p2864])), (q2843, .inr (5, [.ref q2848, .ref q2849, .ref q2850, .ref q2851, .ref q2852, .ref q2853, .ref q2854, .ref q2855, .ref q2856, .int p2865, .int p2866, .int p2867])), (q2844, .inl (I .int, 2048, .inl f2868)), (q2845, .inl (I .int, 100, .inl f3282)), (q2846, .inl (I .int, 100, .inl f2870)), (q2847, .inl (I .int, 512, .inl f2871)), (q2848, .inl (I .int, 40, .inl f2872)), (q2849, .inl (I .int, 40, .inl f2873)), (q2850, .inl (I .int, 40, .inl f2874)), (q2851, .inl (I .int, 200, .inl f2875)), (q2852, .inl (I .int, 200, .inl f2876)), (q2853, .inl (I .int, 200, .inl f2877)), (q2854, .inl (I .int, 200, .inl f2878)), (q2855, .inl (I .int, 200, .inl f2879)), (q2856, .inl (I .int, 200, .inl f2880))]) [10, 0, 11, 14, 12, 13, 1, 2, 3, 4, 5, 6, 7, 8, 9] rfl rfl ?_
      exact G_iret d_cX7_step_237 rfl (Nat.le_of_ble_eq_true rfl) (Nat.le_of_ble_eq_true rfl) ⟨z3284, f3282, o3280, p2861, p2864, f2871, f2870, p2859, p2860, rfl, rfl, (gB_w bz3284 (by decide) (by decide)), bf3282, bo3280, bp2861, bp2864, (gF_any f2871), (gF_any f2870), bp2859, bp2860, (fun R c1 c2 c3 c4 c5 c6 c7 c8 c9 c10 c11 c12 c13 c14 c15 c16 c17 c18 c19 c20 c21 c22 c23 c24 c25 c26 c27 c28 c29 c30 c31 c32 c33 c34 c35 c36 c37 c38 => c2 z2882 z2883 z2884 z3278 o3279 o3280 f3282 z3284 hz2882 bz2882 hz2883 hz2884 r2915 ehs3277 hz3278 bo3280 ht3281 ht3283 ez3284)⟩
    by_cases hs3285 : z2882 = 16
    · have ehs3285 : z2882.toInt = 16 := gj_eq hs3285 (show Int32.toInt 16 = 16 by decide)
      have bz2882' : gB z2882 16 16 := ⟨by omega, by omega⟩
      refine G_eqi (y := 16) hs3285 ?_
      refine G_tableIn 131 d_cX7_step_26 (by decide) (by decide) (by first | rfl | decide) (by decide) ?_
      refine G_aload_n 2 d_cX7_step_131 rfl ?_
      refine G_iload 0 d_cX7_step_132 rfl ?_
      refine G_callV (As := [.int z2884]) (wr := [(q2843, .inr (5, [.ref q2848, .ref q2849, .ref q2850, .ref q2851, .ref q2852, .ref q2853, .ref q2854, .ref q2855, .ref q2856, .int p2865, .int p2866, .int p2867])), (q2848, .inl (I .int, 40, .inl f2872)), (q2849, .inl (I .int, 40, .inl f2873)), (q2850, .inl (I .int, 40, .inl f2874)), (q2851, .inl (I .int, 200, .inl f2875)), (q2852, .inl (I .int, 200, .inl f2876)), (q2853, .inl (I .int, 200, .inl f2877)), (q2854, .inl (I .int, 200, .inl f2878)), (q2855, .inl (I .int, 200, .inl f2879)), (q2856, .inl (I .int, 200, .inl f2880))]) (gV_ok D I) (ct_2990_Machine_addShow l hl0 D I q2842 q2844 q2845 q2846 q2847 z2884 p2858 p2859 p2860 p2861 p2862 p2863 p2864 f2868 f2869 f2870 f2871 bp2858 bp2859 bp2861 bp2863) d_cX7_step_134 ⟨w_6_90, w_1_12, w_6_93, by decide, rfl, (Nat.le_of_ble_eq_true rfl), (Nat.le_of_ble_eq_true rfl)⟩ w_6_92 w_p_61 10 rfl rfl [10, 11, 12, 13, 14] [0, 1, 2, 3, 4, 5, 6, 7, 8, 9] rfl rfl rfl rfl (by decide) (Nat.le_of_ble_eq_true rfl) (Nat.le_of_ble_eq_true rfl) (Nat.le_of_ble_eq_true rfl) (fun r w hp => ?_) (fun _ _ _ z => z.elim)
      obtain ⟨o3286, o3287, f3288, rfl, rfl, bo3286, bo3287, bf3288, ht3289⟩ := hp
      change G _ _ _ _ _ _ _ (.int o3286 :: _) _ _ _
      refine G_ws (ws' := [(q2843, .inr (5, [.ref q2848, .ref q2849, .ref q2850, .ref q2851, .ref q2852, .ref q2853, .ref q2854, .ref q2855, .ref q2856, .int p2865, .int p2866, .int p2867])), (q2848, .inl (I .int, 40, .inl f2872)), (q2849, .inl (I .int, 40, .inl f2873)), (q2850, .inl (I .int, 40, .inl f2874)), (q2851, .inl (I .int, 200, .inl f2875)), (q2852, .inl (I .int, 200, .inl f2876)), (q2853, .inl (I .int, 200, .inl f2877)), (q2854, .inl (I .int, 200, .inl f2878)), (q2855, .inl (I .int, 200, .inl f2879)), (q2856, .inl (I .int, 200, .inl f2880)), (q2842, .inr (12, [.ref q2844, .ref q2845, .ref q2846, .ref q2847, .int p2858, .int p2859, .int p2860, .int o3287, .int p2862, .int p2863, .int p2864])), (q2844, .inl (I .int, 2048, .inl f2868)), (q2845, .inl (I .int, 100, .inl f2869)), (q2846, .inl (I .int, 100, .inl f2870)), (q2847, .inl (I .int, 512, .inl f3288))]) (cs' := 0) (sl' := 0) rfl rfl rfl ?_
      refine G_if_eq 146 d_cX7_step_137 (by decide +kernel) (fun hc3290 => ?_) (fun hc3290 => ?_)
      · have r3291 : o3286.toInt = 0 := gj_eq hc3290 (show Int32.toInt 0 = 0 by decide)
        have bo3286' : gB o3286 0 0 := ⟨by omega, by omega⟩
        refine G_aload_n 2 d_cX7_step_146 rfl ?_
        refine G_iconst 5 d_cX7_step_147 (by decide +kernel) ?_
        refine G_callV (As := [.int 5]) (wr := [(q2843, .inr (5, [.ref q2848, .ref q2849, .ref q2850, .ref q2851, .ref q2852, .ref q2853, .ref q2854, .ref q2855, .ref q2856, .int p2865, .int p2866, .int p2867])), (q2848, .inl (I .int, 40, .inl f2872)), (q2849, .inl (I .int, 40, .inl f2873)), (q2850, .inl (I .int, 40, .inl f2874)), (q2851, .inl (I .int, 200, .inl f2875)), (q2852, .inl (I .int, 200, .inl f2876)), (q2853, .inl (I .int, 200, .inl f2877)), (q2854, .inl (I .int, 200, .inl f2878)), (q2855, .inl (I .int, 200, .inl f2879)), (q2856, .inl (I .int, 200, .inl f2880))]) (gV_ok D I) (ct_2837_Machine_halt l hl0 D I q2842 q2844 q2845 q2846 q2847 5 p2858 p2859 p2860 o3287 p2862 p2863 p2864 f2868 f2869 f2870 f3288 bp2858 bp2859 (gB_w bo3287 (by decide) (by decide)) bp2863) d_cX7_step_148 ⟨w_6_86, w_1_12, w_6_89, by decide, rfl, (Nat.le_of_ble_eq_true rfl), (Nat.le_of_ble_eq_true rfl)⟩ w_6_88 w_p_60 10 rfl rfl [10, 11, 12, 13, 14] [0, 1, 2, 3, 4, 5, 6, 7, 8, 9] rfl rfl rfl rfl (by decide) (Nat.le_of_ble_eq_true rfl) (Nat.le_of_ble_eq_true rfl) (Nat.le_of_ble_eq_true rfl) (fun r w hp => ?_) (fun _ _ _ z => z.elim)
        obtain ⟨o3292, rfl, rfl, bo3292, ht3293⟩ := hp
        change G _ _ _ _ _ _ _ (.int (-1) :: _) _ _ _
        refine G_ws (ws' := [(q2843, .inr (5, [.ref q2848, .ref q2849, .ref q2850, .ref q2851, .ref q2852, .ref q2853, .ref q2854, .ref q2855, .ref q2856, .int p2865, .int p2866, .int p2867])), (q2848, .inl (I .int, 40, .inl f2872)), (q2849, .inl (I .int, 40, .inl f2873)), (q2850, .inl (I .int, 40, .inl f2874)), (q2851, .inl (I .int, 200, .inl f2875)), (q2852, .inl (I .int, 200, .inl f2876)), (q2853, .inl (I .int, 200, .inl f2877)), (q2854, .inl (I .int, 200, .inl f2878)), (q2855, .inl (I .int, 200, .inl f2879)), (q2856, .inl (I .int, 200, .inl f2880)), (q2842, .inr (12, [.ref q2844, .ref q2845, .ref q2846, .ref q2847, .int p2858, .int p2859, .int p2860, .int o3287, .int p2862, .int p2863, .int o3292])), (q2844, .inl (I .int, 2048, .inl f2868)), (q2845, .inl (I .int, 100, .inl f2869)), (q2846, .inl (I .int, 100, .inl f2870)), (q2847, .inl (I .int, 512, .inl f3288))]) (cs' := 0) (sl' := 0) rfl rfl rfl ?_
        refine G_sub (ws' := [(q2842, .inr (12, [.ref q2844, .ref q2845, .ref q2846, .ref q2847, .int p2858, .int p2859, .int p2860, .int o3287, .int p2862, .int p2863, .int o3292])), (q2843, .inr (5, [.ref q2848, .ref q2849, .ref q2850, .ref q2851, .ref q2852, .ref q2853, .ref q2854, .ref q2855, .ref q2856, .int p2865, .int p2866, .int p2867])), (q2844, .inl (I .int, 2048, .inl f2868)), (q2845, .inl (I .int, 100, .inl f2869)), (q2846, .inl (I .int, 100, .inl f2870)), (q2847, .inl (I .int, 512, .inl f3288)), (q2848, .inl (I .int, 40, .inl f2872)), (q2849, .inl (I .int, 40, .inl f2873)), (q2850, .inl (I .int, 40, .inl f2874)), (q2851, .inl (I .int, 200, .inl f2875)), (q2852, .inl (I .int, 200, .inl f2876)), (q2853, .inl (I .int, 200, .inl f2877)), (q2854, .inl (I .int, 200, .inl f2878)), (q2855, .inl (I .int, 200, .inl f2879)), (q2856, .inl (I .int, 200, .inl f2880))]) [10, 0, 11, 12, 13, 14, 1, 2, 3, 4, 5, 6, 7, 8, 9] rfl rfl ?_
        exact G_iret d_cX7_step_151 rfl (Nat.le_of_ble_eq_true rfl) (Nat.le_of_ble_eq_true rfl) ⟨(-1), f2869, p2863, o3287, o3292, f3288, f2870, p2859, p2860, rfl, rfl, (gB_w (gBl (show Int32.toInt (-1) = (-1) by decide)) (by decide) (by decide)), (gF_any f2869), bp2863, (gB_w bo3287 (by decide) (by decide)), bo3292, bf3288, (gF_any f2870), bp2859, bp2860, (fun R c1 c2 c3 c4 c5 c6 c7 c8 c9 c10 c11 c12 c13 c14 c15 c16 c17 c18 c19 c20 c21 c22 c23 c24 c25 c26 c27 c28 c29 c30 c31 c32 c33 c34 c35 c36 c37 c38 => c3 z2882 z2883 z2884 o3286 o3287 f3288 o3292 hz2882 bz2882 hz2883 hz2884 r2915 ehs3285 bo3286 bo3287 ht3289 r3291 ht3293)⟩
      · have r3294 : o3286.toInt ≠ 0 := gj_neq hc3290 (show Int32.toInt 0 = 0 by decide)
        have bo3286' : gB o3286 1 1 := ⟨by omega, by omega⟩
        refine G_iload_n 4 d_cX7_step_140 rfl ?_
        refine G_iconst 1 d_cX7_step_141 (by decide +kernel) ?_
        refine G_iadd d_cX7_step_142 (G_nam fun z3295 hz3295 => ?_)
        have ez3295 : z3295.toInt = p2857.toInt + 1 := by rw [gI_add hz3295 bp2857 (gBl (show Int32.toInt 1 = 1 by decide)) (by decide) (by decide), show Int32.toInt 1 = 1 from by decide]
        have bz3295 : gB z3295 1 200 := gB_add (gI_add hz3295 bp2857 (gBl (show Int32.toInt 1 = 1 by decide)) (by decide) (by decide)) bp2857 (gBl (show Int32.toInt 1 = 1 by decide)) (by decide) (by decide)
        refine G_goto 151 d_cX7_step_143 (by decide +kernel) ?_
        refine G_sub (ws' := [(q2842, .inr (12, [.ref q2844, .ref q2845, .ref q2846, .ref q2847, .int p2858, .int p2859, .int p2860, .int o3287, .int p2862, .int p2863, .int p2864])), (q2843, .inr (5, [.ref q2848, .ref q2849, .ref q2850, .ref q2851, .ref q2852, .ref q2853, .ref q2854, .ref q2855, .ref q2856, .int p2865, .int p2866, .int p2867])), (q2844, .inl (I .int, 2048, .inl f2868)), (q2845, .inl (I .int, 100, .inl f2869)), (q2846, .inl (I .int, 100, .inl f2870)), (q2847, .inl (I .int, 512, .inl f3288)), (q2848, .inl (I .int, 40, .inl f2872)), (q2849, .inl (I .int, 40, .inl f2873)), (q2850, .inl (I .int, 40, .inl f2874)), (q2851, .inl (I .int, 200, .inl f2875)), (q2852, .inl (I .int, 200, .inl f2876)), (q2853, .inl (I .int, 200, .inl f2877)), (q2854, .inl (I .int, 200, .inl f2878)), (q2855, .inl (I .int, 200, .inl f2879)), (q2856, .inl (I .int, 200, .inl f2880))]) [10, 0, 11, 12, 13, 14, 1, 2, 3, 4, 5, 6, 7, 8, 9] rfl rfl ?_
        exact G_iret d_cX7_step_151 rfl (Nat.le_of_ble_eq_true rfl) (Nat.le_of_ble_eq_true rfl) ⟨z3295, f2869, p2863, o3287, p2864, f3288, f2870, p2859, p2860, rfl, rfl, (gB_w bz3295 (by decide) (by decide)), (gF_any f2869), bp2863, (gB_w bo3287 (by decide) (by decide)), bp2864, bf3288, (gF_any f2870), bp2859, bp2860, (fun R c1 c2 c3 c4 c5 c6 c7 c8 c9 c10 c11 c12 c13 c14 c15 c16 c17 c18 c19 c20 c21 c22 c23 c24 c25 c26 c27 c28 c29 c30 c31 c32 c33 c34 c35 c36 c37 c38 => c4 z2882 z2883 z2884 o3286 o3287 f3288 z3295 hz2882 bz2882 hz2883 hz2884 r2915 ehs3285 bo3286 bo3287 ht3289 r3294 ez3295)⟩
    by_cases hs3296 : z2882 = 17
    · have ehs3296 : z2882.toInt = 17 := gj_eq hs3296 (show Int32.toInt 17 = 17 by decide)
      have bz2882' : gB z2882 17 17 := ⟨by omega, by omega⟩
      refine G_eqi (y := 17) hs3296 ?_
      refine G_tableIn 171 d_cX7_step_26 (by decide) (by decide) (by first | rfl | decide) (by decide) ?_
      refine G_aload_n 2 d_cX7_step_171 rfl ?_
      refine G_getf 10 1 d_cX7_step_172 rfl (gk_X7 D I) (Nat.le_of_ble_eq_true rfl) w_2_161 rfl ?_
      refine G_aload_n 3 d_cX7_step_175 rfl ?_
      refine G_getfN 0 4 d_cX7_step_176 rfl (gk_X0 D I) (Nat.le_of_ble_eq_true rfl) (fun _ _ _ h => gn_w 20 rfl h) rfl ?_
      refine G_iload_n 4 d_cX7_step_179 rfl ?_
      refine G_iald 5 0 d_cX7_step_180 rfl rfl (gB_in bp2857 (by decide) (by decide)) (G_nam fun z3297 hz3297 => ?_)
      have bz3297 : gB z3297 (-2147483648) 2147483647 := gB_any z3297
      refine G_aload_n 2 d_cX7_step_181 rfl ?_
      refine G_aload_n 3 d_cX7_step_182 rfl ?_
      refine G_getfN 0 8 d_cX7_step_183 rfl (gk_X0 D I) (Nat.le_of_ble_eq_true rfl) (fun _ _ _ h => gn_w 35 rfl h) rfl ?_
      refine G_iload_n 4 d_cX7_step_186 rfl ?_
      refine G_iald 9 0 d_cX7_step_187 rfl rfl (gB_in bp2857 (by decide) (by decide)) (G_nam fun z3298 hz3298 => ?_)
      have bz3298 : gB z3298 (-2147483648) 2147483647 := gB_any z3298
      refine G_callV (As := [.int z3298]) (wr := [(q2843, .inr (5, [.ref q2848, .ref q2849, .ref q2850, .ref q2851, .ref q2852, .ref q2853, .ref q2854, .ref q2855, .ref q2856, .int p2865, .int p2866, .int p2867])), (q2848, .inl (I .int, 40, .inl f2872)), (q2849, .inl (I .int, 40, .inl f2873)), (q2850, .inl (I .int, 40, .inl f2874)), (q2851, .inl (I .int, 200, .inl f2875)), (q2852, .inl (I .int, 200, .inl f2876)), (q2853, .inl (I .int, 200, .inl f2877)), (q2854, .inl (I .int, 200, .inl f2878)), (q2855, .inl (I .int, 200, .inl f2879)), (q2856, .inl (I .int, 200, .inl f2880))]) (gV_ok D I) (ct_3029_Machine_slotAt l hl0 D I q2842 q2844 q2845 q2846 q2847 z3298 p2858 p2859 p2860 p2861 p2862 p2863 p2864 f2868 f2869 f2870 f2871 bp2858 bp2859 bp2861 bp2863) d_cX7_step_188 ⟨w_6_97, w_1_12, w_6_100, by decide, rfl, (Nat.le_of_ble_eq_true rfl), (Nat.le_of_ble_eq_true rfl)⟩ w_6_99 w_p_62 10 rfl rfl [10, 11, 12, 13, 14] [0, 1, 2, 3, 4, 5, 6, 7, 8, 9] rfl rfl rfl rfl (by decide) (Nat.le_of_ble_eq_true rfl) (Nat.le_of_ble_eq_true rfl) (Nat.le_of_ble_eq_true rfl) (fun r w hp => ?_) (fun _ _ _ z => z.elim)
      rcases hp with ⟨rfl, rfl, r3299, r3300⟩ | ⟨rfl, rfl, r3301, r3302, r3303⟩ | ⟨z3304, rfl, rfl, r3305, r3306, hz3304, r3307, r3308⟩
      · have bz3298' : gB z3298 (-2147483648) (-1) := ⟨by omega, by omega⟩
        change G _ _ _ _ _ _ _ (.int 0 :: _) _ _ _
        refine G_ws (ws' := [(q2843, .inr (5, [.ref q2848, .ref q2849, .ref q2850, .ref q2851, .ref q2852, .ref q2853, .ref q2854, .ref q2855, .ref q2856, .int p2865, .int p2866, .int p2867])), (q2848, .inl (I .int, 40, .inl f2872)), (q2849, .inl (I .int, 40, .inl f2873)), (q2850, .inl (I .int, 40, .inl f2874)), (q2851, .inl (I .int, 200, .inl f2875)), (q2852, .inl (I .int, 200, .inl f2876)), (q2853, .inl (I .int, 200, .inl f2877)), (q2854, .inl (I .int, 200, .inl f2878)), (q2855, .inl (I .int, 200, .inl f2879)), (q2856, .inl (I .int, 200, .inl f2880)), (q2842, .inr (12, [.ref q2844, .ref q2845, .ref q2846, .ref q2847, .int p2858, .int p2859, .int p2860, .int p2861, .int p2862, .int p2863, .int p2864])), (q2844, .inl (I .int, 2048, .inl f2868)), (q2845, .inl (I .int, 100, .inl f2869)), (q2846, .inl (I .int, 100, .inl f2870)), (q2847, .inl (I .int, 512, .inl f2871))]) (cs' := 0) (sl' := 0) rfl rfl rfl ?_
        refine G_callS (As := [.ref q2845, .int z3297, .int 0]) (wr := [(q2843, .inr (5, [.ref q2848, .ref q2849, .ref q2850, .ref q2851, .ref q2852, .ref q2853, .ref q2854, .ref q2855, .ref q2856, .int p2865, .int p2866, .int p2867])), (q2848, .inl (I .int, 40, .inl f2872)), (q2849, .inl (I .int, 40, .inl f2873)), (q2850, .inl (I .int, 40, .inl f2874)), (q2851, .inl (I .int, 200, .inl f2875)), (q2852, .inl (I .int, 200, .inl f2876)), (q2853, .inl (I .int, 200, .inl f2877)), (q2854, .inl (I .int, 200, .inl f2878)), (q2855, .inl (I .int, 200, .inl f2879)), (q2856, .inl (I .int, 200, .inl f2880)), (q2842, .inr (12, [.ref q2844, .ref q2845, .ref q2846, .ref q2847, .int p2858, .int p2859, .int p2860, .int p2861, .int p2862, .int p2863, .int p2864])), (q2844, .inl (I .int, 2048, .inl f2868)), (q2846, .inl (I .int, 100, .inl f2870)), (q2847, .inl (I .int, 512, .inl f2871))]) (gV_ok D I) (ct_2927_Machine_put l hl0 D I q2845 z3297 0 f2869 ) d_cX7_step_191 ⟨w_6_94, w_1_12, w_6_96, by decide, rfl, (Nat.le_of_ble_eq_true rfl), (Nat.le_of_ble_eq_true rfl)⟩ w_6_95 [12] [0, 1, 2, 3, 4, 5, 6, 7, 8, 9, 10, 11, 13, 14] rfl rfl rfl rfl (by decide) (Nat.le_of_ble_eq_true rfl) (Nat.le_of_ble_eq_true rfl) (Nat.le_of_ble_eq_true rfl) (fun r w hp => ?_) (fun _ _ _ z => z.elim)
        obtain ⟨f3309, rfl, rfl, bf3309, ht3310⟩ := hp
        change G _ _ _ _ _ _ _ _ _ _ _
        refine G_ws (ws' := [(q2843, .inr (5, [.ref q2848, .ref q2849, .ref q2850, .ref q2851, .ref q2852, .ref q2853, .ref q2854, .ref q2855, .ref q2856, .int p2865, .int p2866, .int p2867])), (q2848, .inl (I .int, 40, .inl f2872)), (q2849, .inl (I .int, 40, .inl f2873)), (q2850, .inl (I .int, 40, .inl f2874)), (q2851, .inl (I .int, 200, .inl f2875)), (q2852, .inl (I .int, 200, .inl f2876)), (q2853, .inl (I .int, 200, .inl f2877)), (q2854, .inl (I .int, 200, .inl f2878)), (q2855, .inl (I .int, 200, .inl f2879)), (q2856, .inl (I .int, 200, .inl f2880)), (q2842, .inr (12, [.ref q2844, .ref q2845, .ref q2846, .ref q2847, .int p2858, .int p2859, .int p2860, .int p2861, .int p2862, .int p2863, .int p2864])), (q2844, .inl (I .int, 2048, .inl f2868)), (q2846, .inl (I .int, 100, .inl f2870)), (q2847, .inl (I .int, 512, .inl f2871)), (q2845, .inl (I .int, 100, .inl f3309))]) (cs' := 0) (sl' := 0) rfl rfl rfl ?_
        refine G_iload_n 4 d_cX7_step_194 rfl ?_
        refine G_iconst 1 d_cX7_step_195 (by decide +kernel) ?_
        refine G_iadd d_cX7_step_196 (G_nam fun z3311 hz3311 => ?_)
        have ez3311 : z3311.toInt = p2857.toInt + 1 := by rw [gI_add hz3311 bp2857 (gBl (show Int32.toInt 1 = 1 by decide)) (by decide) (by decide), show Int32.toInt 1 = 1 from by decide]
        have bz3311 : gB z3311 1 200 := gB_add (gI_add hz3311 bp2857 (gBl (show Int32.toInt 1 = 1 by decide)) (by decide) (by decide)) bp2857 (gBl (show Int32.toInt 1 = 1 by decide)) (by decide) (by decide)
        refine G_sub (ws' := [(q2842, .inr (12, [.ref q2844, .ref q2845, .ref q2846, .ref q2847, .int p2858, .int p2859, .int p2860, .int p2861, .int p2862, .int p2863, .int p2864])), (q2843, .inr (5, [.ref q2848, .ref q2849, .ref q2850, .ref q2851, .ref q2852, .ref q2853, .ref q2854, .ref q2855, .ref q2856, .int p2865, .int p2866, .int p2867])), (q2844, .inl (I .int, 2048, .inl f2868)), (q2845, .inl (I .int, 100, .inl f3309)), (q2846, .inl (I .int, 100, .inl f2870)), (q2847, .inl (I .int, 512, .inl f2871)), (q2848, .inl (I .int, 40, .inl f2872)), (q2849, .inl (I .int, 40, .inl f2873)), (q2850, .inl (I .int, 40, .inl f2874)), (q2851, .inl (I .int, 200, .inl f2875)), (q2852, .inl (I .int, 200, .inl f2876)), (q2853, .inl (I .int, 200, .inl f2877)), (q2854, .inl (I .int, 200, .inl f2878)), (q2855, .inl (I .int, 200, .inl f2879)), (q2856, .inl (I .int, 200, .inl f2880))]) [10, 0, 11, 14, 12, 13, 1, 2, 3, 4, 5, 6, 7, 8, 9] rfl rfl ?_
        exact G_iret d_cX7_step_197 rfl (Nat.le_of_ble_eq_true rfl) (Nat.le_of_ble_eq_true rfl) ⟨z3311, f3309, p2863, p2861, p2864, f2871, f2870, p2859, p2860, rfl, rfl, (gB_w bz3311 (by decide) (by decide)), bf3309, bp2863, bp2861, bp2864, (gF_any f2871), (gF_any f2870), bp2859, bp2860, (fun R c1 c2 c3 c4 c5 c6 c7 c8 c9 c10 c11 c12 c13 c14 c15 c16 c17 c18 c19 c20 c21 c22 c23 c24 c25 c26 c27 c28 c29 c30 c31 c32 c33 c34 c35 c36 c37 c38 => c5 z2882 z2883 z2884 z3297 z3298 f3309 z3311 hz2882 bz2882 hz2883 hz2884 r2915 ehs3296 hz3297 hz3298 r3300 ht3310 ez3311)⟩
      · have bz3298' : gB z3298 0 2147483647 := ⟨by omega, by omega⟩
        have bz3298'' : gB z3298 100 2147483647 := ⟨by omega, by omega⟩
        change G _ _ _ _ _ _ _ (.int 0 :: _) _ _ _
        refine G_ws (ws' := [(q2843, .inr (5, [.ref q2848, .ref q2849, .ref q2850, .ref q2851, .ref q2852, .ref q2853, .ref q2854, .ref q2855, .ref q2856, .int p2865, .int p2866, .int p2867])), (q2848, .inl (I .int, 40, .inl f2872)), (q2849, .inl (I .int, 40, .inl f2873)), (q2850, .inl (I .int, 40, .inl f2874)), (q2851, .inl (I .int, 200, .inl f2875)), (q2852, .inl (I .int, 200, .inl f2876)), (q2853, .inl (I .int, 200, .inl f2877)), (q2854, .inl (I .int, 200, .inl f2878)), (q2855, .inl (I .int, 200, .inl f2879)), (q2856, .inl (I .int, 200, .inl f2880)), (q2842, .inr (12, [.ref q2844, .ref q2845, .ref q2846, .ref q2847, .int p2858, .int p2859, .int p2860, .int p2861, .int p2862, .int p2863, .int p2864])), (q2844, .inl (I .int, 2048, .inl f2868)), (q2845, .inl (I .int, 100, .inl f2869)), (q2846, .inl (I .int, 100, .inl f2870)), (q2847, .inl (I .int, 512, .inl f2871))]) (cs' := 0) (sl' := 0) rfl rfl rfl ?_
        refine G_callS (As := [.ref q2845, .int z3297, .int 0]) (wr := [(q2843, .inr (5, [.ref q2848, .ref q2849, .ref q2850, .ref q2851, .ref q2852, .ref q2853, .ref q2854, .ref q2855, .ref q2856, .int p2865, .int p2866, .int p2867])), (q2848, .inl (I .int, 40, .inl f2872)), (q2849, .inl (I .int, 40, .inl f2873)), (q2850, .inl (I .int, 40, .inl f2874)), (q2851, .inl (I .int, 200, .inl f2875)), (q2852, .inl (I .int, 200, .inl f2876)), (q2853, .inl (I .int, 200, .inl f2877)), (q2854, .inl (I .int, 200, .inl f2878)), (q2855, .inl (I .int, 200, .inl f2879)), (q2856, .inl (I .int, 200, .inl f2880)), (q2842, .inr (12, [.ref q2844, .ref q2845, .ref q2846, .ref q2847, .int p2858, .int p2859, .int p2860, .int p2861, .int p2862, .int p2863, .int p2864])), (q2844, .inl (I .int, 2048, .inl f2868)), (q2846, .inl (I .int, 100, .inl f2870)), (q2847, .inl (I .int, 512, .inl f2871))]) (gV_ok D I) (ct_2927_Machine_put l hl0 D I q2845 z3297 0 f2869 ) d_cX7_step_191 ⟨w_6_94, w_1_12, w_6_96, by decide, rfl, (Nat.le_of_ble_eq_true rfl), (Nat.le_of_ble_eq_true rfl)⟩ w_6_95 [12] [0, 1, 2, 3, 4, 5, 6, 7, 8, 9, 10, 11, 13, 14] rfl rfl rfl rfl (by decide) (Nat.le_of_ble_eq_true rfl) (Nat.le_of_ble_eq_true rfl) (Nat.le_of_ble_eq_true rfl) (fun r w hp => ?_) (fun _ _ _ z => z.elim)
        obtain ⟨f3312, rfl, rfl, bf3312, ht3313⟩ := hp
        change G _ _ _ _ _ _ _ _ _ _ _
        refine G_ws (ws' := [(q2843, .inr (5, [.ref q2848, .ref q2849, .ref q2850, .ref q2851, .ref q2852, .ref q2853, .ref q2854, .ref q2855, .ref q2856, .int p2865, .int p2866, .int p2867])), (q2848, .inl (I .int, 40, .inl f2872)), (q2849, .inl (I .int, 40, .inl f2873)), (q2850, .inl (I .int, 40, .inl f2874)), (q2851, .inl (I .int, 200, .inl f2875)), (q2852, .inl (I .int, 200, .inl f2876)), (q2853, .inl (I .int, 200, .inl f2877)), (q2854, .inl (I .int, 200, .inl f2878)), (q2855, .inl (I .int, 200, .inl f2879)), (q2856, .inl (I .int, 200, .inl f2880)), (q2842, .inr (12, [.ref q2844, .ref q2845, .ref q2846, .ref q2847, .int p2858, .int p2859, .int p2860, .int p2861, .int p2862, .int p2863, .int p2864])), (q2844, .inl (I .int, 2048, .inl f2868)), (q2846, .inl (I .int, 100, .inl f2870)), (q2847, .inl (I .int, 512, .inl f2871)), (q2845, .inl (I .int, 100, .inl f3312))]) (cs' := 0) (sl' := 0) rfl rfl rfl ?_
        refine G_iload_n 4 d_cX7_step_194 rfl ?_
        refine G_iconst 1 d_cX7_step_195 (by decide +kernel) ?_
        refine G_iadd d_cX7_step_196 (G_nam fun z3314 hz3314 => ?_)
        have ez3314 : z3314.toInt = p2857.toInt + 1 := by rw [gI_add hz3314 bp2857 (gBl (show Int32.toInt 1 = 1 by decide)) (by decide) (by decide), show Int32.toInt 1 = 1 from by decide]
        have bz3314 : gB z3314 1 200 := gB_add (gI_add hz3314 bp2857 (gBl (show Int32.toInt 1 = 1 by decide)) (by decide) (by decide)) bp2857 (gBl (show Int32.toInt 1 = 1 by decide)) (by decide) (by decide)
        refine G_sub (ws' := [(q2842, .inr (12, [.ref q2844, .ref q2845, .ref q2846, .ref q2847, .int p2858, .int p2859, .int p2860, .int p2861, .int p2862, .int p2863, .int p2864])), (q2843, .inr (5, [.ref q2848, .ref q2849, .ref q2850, .ref q2851, .ref q2852, .ref q2853, .ref q2854, .ref q2855, .ref q2856, .int p2865, .int p2866, .int p2867])), (q2844, .inl (I .int, 2048, .inl f2868)), (q2845, .inl (I .int, 100, .inl f3312)), (q2846, .inl (I .int, 100, .inl f2870)), (q2847, .inl (I .int, 512, .inl f2871)), (q2848, .inl (I .int, 40, .inl f2872)), (q2849, .inl (I .int, 40, .inl f2873)), (q2850, .inl (I .int, 40, .inl f2874)), (q2851, .inl (I .int, 200, .inl f2875)), (q2852, .inl (I .int, 200, .inl f2876)), (q2853, .inl (I .int, 200, .inl f2877)), (q2854, .inl (I .int, 200, .inl f2878)), (q2855, .inl (I .int, 200, .inl f2879)), (q2856, .inl (I .int, 200, .inl f2880))]) [10, 0, 11, 14, 12, 13, 1, 2, 3, 4, 5, 6, 7, 8, 9] rfl rfl ?_
        exact G_iret d_cX7_step_197 rfl (Nat.le_of_ble_eq_true rfl) (Nat.le_of_ble_eq_true rfl) ⟨z3314, f3312, p2863, p2861, p2864, f2871, f2870, p2859, p2860, rfl, rfl, (gB_w bz3314 (by decide) (by decide)), bf3312, bp2863, bp2861, bp2864, (gF_any f2871), (gF_any f2870), bp2859, bp2860, (fun R c1 c2 c3 c4 c5 c6 c7 c8 c9 c10 c11 c12 c13 c14 c15 c16 c17 c18 c19 c20 c21 c22 c23 c24 c25 c26 c27 c28 c29 c30 c31 c32 c33 c34 c35 c36 c37 c38 => c5 z2882 z2883 z2884 z3297 z3298 f3312 z3314 hz2882 bz2882 hz2883 hz2884 r2915 ehs3296 hz3297 hz3298 r3303 ht3313 ez3314)⟩
      · have bz3298' : gB z3298 0 2147483647 := ⟨by omega, by omega⟩
        have bz3298'' : gB z3298 0 99 := ⟨by omega, by omega⟩
        change G _ _ _ _ _ _ _ (.int z3304 :: _) _ _ _
        refine G_ws (ws' := [(q2843, .inr (5, [.ref q2848, .ref q2849, .ref q2850, .ref q2851, .ref q2852, .ref q2853, .ref q2854, .ref q2855, .ref q2856, .int p2865, .int p2866, .int p2867])), (q2848, .inl (I .int, 40, .inl f2872)), (q2849, .inl (I .int, 40, .inl f2873)), (q2850, .inl (I .int, 40, .inl f2874)), (q2851, .inl (I .int, 200, .inl f2875)), (q2852, .inl (I .int, 200, .inl f2876)), (q2853, .inl (I .int, 200, .inl f2877)), (q2854, .inl (I .int, 200, .inl f2878)), (q2855, .inl (I .int, 200, .inl f2879)), (q2856, .inl (I .int, 200, .inl f2880)), (q2842, .inr (12, [.ref q2844, .ref q2845, .ref q2846, .ref q2847, .int p2858, .int p2859, .int p2860, .int p2861, .int p2862, .int p2863, .int p2864])), (q2844, .inl (I .int, 2048, .inl f2868)), (q2845, .inl (I .int, 100, .inl f2869)), (q2846, .inl (I .int, 100, .inl f2870)), (q2847, .inl (I .int, 512, .inl f2871))]) (cs' := 0) (sl' := 0) rfl rfl rfl ?_
        refine G_callS (As := [.ref q2845, .int z3297, .int z3304]) (wr := [(q2843, .inr (5, [.ref q2848, .ref q2849, .ref q2850, .ref q2851, .ref q2852, .ref q2853, .ref q2854, .ref q2855, .ref q2856, .int p2865, .int p2866, .int p2867])), (q2848, .inl (I .int, 40, .inl f2872)), (q2849, .inl (I .int, 40, .inl f2873)), (q2850, .inl (I .int, 40, .inl f2874)), (q2851, .inl (I .int, 200, .inl f2875)), (q2852, .inl (I .int, 200, .inl f2876)), (q2853, .inl (I .int, 200, .inl f2877)), (q2854, .inl (I .int, 200, .inl f2878)), (q2855, .inl (I .int, 200, .inl f2879)), (q2856, .inl (I .int, 200, .inl f2880)), (q2842, .inr (12, [.ref q2844, .ref q2845, .ref q2846, .ref q2847, .int p2858, .int p2859, .int p2860, .int p2861, .int p2862, .int p2863, .int p2864])), (q2844, .inl (I .int, 2048, .inl f2868)), (q2846, .inl (I .int, 100, .inl f2870)), (q2847, .inl (I .int, 512, .inl f2871))]) (gV_ok D I) (ct_2927_Machine_put l hl0 D I q2845 z3297 z3304 f2869 ) d_cX7_step_191 ⟨w_6_94, w_1_12, w_6_96, by decide, rfl, (Nat.le_of_ble_eq_true rfl), (Nat.le_of_ble_eq_true rfl)⟩ w_6_95 [12] [0, 1, 2, 3, 4, 5, 6, 7, 8, 9, 10, 11, 13, 14] rfl rfl rfl rfl (by decide) (Nat.le_of_ble_eq_true rfl) (Nat.le_of_ble_eq_true rfl) (Nat.le_of_ble_eq_true rfl) (fun r w hp => ?_) (fun _ _ _ z => z.elim)
        obtain ⟨f3315, rfl, rfl, bf3315, ht3316⟩ := hp
        change G _ _ _ _ _ _ _ _ _ _ _
        refine G_ws (ws' := [(q2843, .inr (5, [.ref q2848, .ref q2849, .ref q2850, .ref q2851, .ref q2852, .ref q2853, .ref q2854, .ref q2855, .ref q2856, .int p2865, .int p2866, .int p2867])), (q2848, .inl (I .int, 40, .inl f2872)), (q2849, .inl (I .int, 40, .inl f2873)), (q2850, .inl (I .int, 40, .inl f2874)), (q2851, .inl (I .int, 200, .inl f2875)), (q2852, .inl (I .int, 200, .inl f2876)), (q2853, .inl (I .int, 200, .inl f2877)), (q2854, .inl (I .int, 200, .inl f2878)), (q2855, .inl (I .int, 200, .inl f2879)), (q2856, .inl (I .int, 200, .inl f2880)), (q2842, .inr (12, [.ref q2844, .ref q2845, .ref q2846, .ref q2847, .int p2858, .int p2859, .int p2860, .int p2861, .int p2862, .int p2863, .int p2864])), (q2844, .inl (I .int, 2048, .inl f2868)), (q2846, .inl (I .int, 100, .inl f2870)), (q2847, .inl (I .int, 512, .inl f2871)), (q2845, .inl (I .int, 100, .inl f3315))]) (cs' := 0) (sl' := 0) rfl rfl rfl ?_
        refine G_iload_n 4 d_cX7_step_194 rfl ?_
        refine G_iconst 1 d_cX7_step_195 (by decide +kernel) ?_
        refine G_iadd d_cX7_step_196 (G_nam fun z3317 hz3317 => ?_)
        have ez3317 : z3317.toInt = p2857.toInt + 1 := by rw [gI_add hz3317 bp2857 (gBl (show Int32.toInt 1 = 1 by decide)) (by decide) (by decide), show Int32.toInt 1 = 1 from by decide]
        have bz3317 : gB z3317 1 200 := gB_add (gI_add hz3317 bp2857 (gBl (show Int32.toInt 1 = 1 by decide)) (by decide) (by decide)) bp2857 (gBl (show Int32.toInt 1 = 1 by decide)) (by decide) (by decide)
        refine G_sub (ws' := [(q2842, .inr (12, [.ref q2844, .ref q2845, .ref q2846, .ref q2847, .int p2858, .int p2859, .int p2860, .int p2861, .int p2862, .int p2863, .int p2864])), (q2843, .inr (5, [.ref q2848, .ref q2849, .ref q2850, .ref q2851, .ref q2852, .ref q2853, .ref q2854, .ref q2855, .ref q2856, .int p2865, .int p2866, .int p2867])), (q2844, .inl (I .int, 2048, .inl f2868)), (q2845, .inl (I .int, 100, .inl f3315)), (q2846, .inl (I .int, 100, .inl f2870)), (q2847, .inl (I .int, 512, .inl f2871)), (q2848, .inl (I .int, 40, .inl f2872)), (q2849, .inl (I .int, 40, .inl f2873)), (q2850, .inl (I .int, 40, .inl f2874)), (q2851, .inl (I .int, 200, .inl f2875)), (q2852, .inl (I .int, 200, .inl f2876)), (q2853, .inl (I .int, 200, .inl f2877)), (q2854, .inl (I .int, 200, .inl f2878)), (q2855, .inl (I .int, 200, .inl f2879)), (q2856, .inl (I .int, 200, .inl f2880))]) [10, 0, 11, 14, 12, 13, 1, 2, 3, 4, 5, 6, 7, 8, 9] rfl rfl ?_
        exact G_iret d_cX7_step_197 rfl (Nat.le_of_ble_eq_true rfl) (Nat.le_of_ble_eq_true rfl) ⟨z3317, f3315, p2863, p2861, p2864, f2871, f2870, p2859, p2860, rfl, rfl, (gB_w bz3317 (by decide) (by decide)), bf3315, bp2863, bp2861, bp2864, (gF_any f2871), (gF_any f2870), bp2859, bp2860, (fun R c1 c2 c3 c4 c5 c6 c7 c8 c9 c10 c11 c12 c13 c14 c15 c16 c17 c18 c19 c20 c21 c22 c23 c24 c25 c26 c27 c28 c29 c30 c31 c32 c33 c34 c35 c36 c37 c38 => c6 z2882 z2883 z2884 z3297 z3298 z3304 f3315 z3317 hz2882 bz2882 hz2883 hz2884 r2915 ehs3296 hz3297 hz3298 r3308 ht3316 ez3317)⟩
    by_cases hs3318 : z2882 = 18
    · have ehs3318 : z2882.toInt = 18 := gj_eq hs3318 (show Int32.toInt 18 = 18 by decide)
      have bz2882' : gB z2882 18 18 := ⟨by omega, by omega⟩
      refine G_eqi (y := 18) hs3318 ?_
      refine G_tableIn 152 d_cX7_step_26 (by decide) (by decide) (by first | rfl | decide) (by decide) ?_
      refine G_aload_n 2 d_cX7_step_152 rfl ?_
      refine G_getf 10 2 d_cX7_step_153 rfl (gk_X7 D I) (Nat.le_of_ble_eq_true rfl) w_2_162 rfl ?_
      refine G_aload_n 3 d_cX7_step_156 rfl ?_
      refine G_getfN 0 8 d_cX7_step_157 rfl (gk_X0 D I) (Nat.le_of_ble_eq_true rfl) (fun _ _ _ h => gn_w 35 rfl h) rfl ?_
      refine G_iload_n 4 d_cX7_step_160 rfl ?_
      refine G_iald 9 0 d_cX7_step_161 rfl rfl (gB_in bp2857 (by decide) (by decide)) (G_nam fun z3319 hz3319 => ?_)
      have bz3319 : gB z3319 (-2147483648) 2147483647 := gB_any z3319
      refine G_iload 0 d_cX7_step_162 rfl ?_
      refine G_callS (As := [.ref q2846, .int z3319, .int z2884]) (wr := [(q2843, .inr (5, [.ref q2848, .ref q2849, .ref q2850, .ref q2851, .ref q2852, .ref q2853, .ref q2854, .ref q2855, .ref q2856, .int p2865, .int p2866, .int p2867])), (q2848, .inl (I .int, 40, .inl f2872)), (q2849, .inl (I .int, 40, .inl f2873)), (q2850, .inl (I .int, 40, .inl f2874)), (q2851, .inl (I .int, 200, .inl f2875)), (q2852, .inl (I .int, 200, .inl f2876)), (q2853, .inl (I .int, 200, .inl f2877)), (q2854, .inl (I .int, 200, .inl f2878)), (q2855, .inl (I .int, 200, .inl f2879)), (q2856, .inl (I .int, 200, .inl f2880)), (q2842, .inr (12, [.ref q2844, .ref q2845, .ref q2846, .ref q2847, .int p2858, .int p2859, .int p2860, .int p2861, .int p2862, .int p2863, .int p2864])), (q2844, .inl (I .int, 2048, .inl f2868)), (q2845, .inl (I .int, 100, .inl f2869)), (q2847, .inl (I .int, 512, .inl f2871))]) (gV_ok D I) (ct_2927_Machine_put l hl0 D I q2846 z3319 z2884 f2870 ) d_cX7_step_164 ⟨w_6_94, w_1_12, w_6_96, by decide, rfl, (Nat.le_of_ble_eq_true rfl), (Nat.le_of_ble_eq_true rfl)⟩ w_6_95 [13] [0, 1, 2, 3, 4, 5, 6, 7, 8, 9, 10, 11, 12, 14] rfl rfl rfl rfl (by decide) (Nat.le_of_ble_eq_true rfl) (Nat.le_of_ble_eq_true rfl) (Nat.le_of_ble_eq_true rfl) (fun r w hp => ?_) (fun _ _ _ z => z.elim)
      obtain ⟨f3320, rfl, rfl, bf3320, ht3321⟩ := hp
      change G _ _ _ _ _ _ _ _ _ _ _
      refine G_ws (ws' := [(q2843, .inr (5, [.ref q2848, .ref q2849, .ref q2850, .ref q2851, .ref q2852, .ref q2853, .ref q2854, .ref q2855, .ref q2856, .int p2865, .int p2866, .int p2867])), (q2848, .inl (I .int, 40, .inl f2872)), (q2849, .inl (I .int, 40, .inl f2873)), (q2850, .inl (I .int, 40, .inl f2874)), (q2851, .inl (I .int, 200, .inl f2875)), (q2852, .inl (I .int, 200, .inl f2876)), (q2853, .inl (I .int, 200, .inl f2877)), (q2854, .inl (I .int, 200, .inl f2878)), (q2855, .inl (I .int, 200, .inl f2879)), (q2856, .inl (I .int, 200, .inl f2880)), (q2842, .inr (12, [.ref q2844, .ref q2845, .ref q2846, .ref q2847, .int p2858, .int p2859, .int p2860, .int p2861, .int p2862, .int p2863, .int p2864])), (q2844, .inl (I .int, 2048, .inl f2868)), (q2845, .inl (I .int, 100, .inl f2869)), (q2847, .inl (I .int, 512, .inl f2871)), (q2846, .inl (I .int, 100, .inl f3320))]) (cs' := 0) (sl' := 0) rfl rfl rfl ?_
      refine G_iload_n 4 d_cX7_step_167 rfl ?_
      refine G_iconst 1 d_cX7_step_168 (by decide +kernel) ?_
      refine G_iadd d_cX7_step_169 (G_nam fun z3322 hz3322 => ?_)
      have ez3322 : z3322.toInt = p2857.toInt + 1 := by rw [gI_add hz3322 bp2857 (gBl (show Int32.toInt 1 = 1 by decide)) (by decide) (by decide), show Int32.toInt 1 = 1 from by decide]
      have bz3322 : gB z3322 1 200 := gB_add (gI_add hz3322 bp2857 (gBl (show Int32.toInt 1 = 1 by decide)) (by decide) (by decide)) bp2857 (gBl (show Int32.toInt 1 = 1 by decide)) (by decide) (by decide)
      refine G_sub (ws' := [(q2842, .inr (12, [.ref q2844, .ref q2845, .ref q2846, .ref q2847, .int p2858, .int p2859, .int p2860, .int p2861, .int p2862, .int p2863, .int p2864])), (q2843, .inr (5, [.ref q2848, .ref q2849, .ref q2850, .ref q2851, .ref q2852, .ref q2853, .ref q2854, .ref q2855, .ref q2856, .int p2865, .int p2866, .int p2867])), (q2844, .inl (I .int, 2048, .inl f2868)), (q2845, .inl (I .int, 100, .inl f2869)), (q2846, .inl (I .int, 100, .inl f3320)), (q2847, .inl (I .int, 512, .inl f2871)), (q2848, .inl (I .int, 40, .inl f2872)), (q2849, .inl (I .int, 40, .inl f2873)), (q2850, .inl (I .int, 40, .inl f2874)), (q2851, .inl (I .int, 200, .inl f2875)), (q2852, .inl (I .int, 200, .inl f2876)), (q2853, .inl (I .int, 200, .inl f2877)), (q2854, .inl (I .int, 200, .inl f2878)), (q2855, .inl (I .int, 200, .inl f2879)), (q2856, .inl (I .int, 200, .inl f2880))]) [10, 0, 11, 12, 14, 13, 1, 2, 3, 4, 5, 6, 7, 8, 9] rfl rfl ?_
      exact G_iret d_cX7_step_170 rfl (Nat.le_of_ble_eq_true rfl) (Nat.le_of_ble_eq_true rfl) ⟨z3322, f2869, p2863, p2861, p2864, f2871, f3320, p2859, p2860, rfl, rfl, (gB_w bz3322 (by decide) (by decide)), (gF_any f2869), bp2863, bp2861, bp2864, (gF_any f2871), bf3320, bp2859, bp2860, (fun R c1 c2 c3 c4 c5 c6 c7 c8 c9 c10 c11 c12 c13 c14 c15 c16 c17 c18 c19 c20 c21 c22 c23 c24 c25 c26 c27 c28 c29 c30 c31 c32 c33 c34 c35 c36 c37 c38 => c7 z2882 z2883 z2884 z3319 f3320 z3322 hz2882 bz2882 hz2883 hz2884 r2915 ehs3318 hz3319 ht3321 ez3322)⟩
    by_cases hs3323 : z2882 = 19
    · have ehs3323 : z2882.toInt = 19 := gj_eq hs3323 (show Int32.toInt 19 = 19 by decide)
      have bz2882' : gB z2882 19 19 := ⟨by omega, by omega⟩
      refine G_eqi (y := 19) hs3323 ?_
      refine G_tableIn 72 d_cX7_step_26 (by decide) (by decide) (by first | rfl | decide) (by decide) ?_
      refine G_aload_n 2 d_cX7_step_72 rfl ?_
      refine G_aload_n 3 d_cX7_step_73 rfl ?_
      refine G_aload_n 3 d_cX7_step_74 rfl ?_
      refine G_getfN 0 1 d_cX7_step_75 rfl (gk_X0 D I) (Nat.le_of_ble_eq_true rfl) (fun _ _ _ h => gn_w 10 rfl h) rfl ?_
      refine G_aload_n 2 d_cX7_step_78 rfl ?_
      refine G_getf 10 5 d_cX7_step_79 rfl (gk_X7 D I) (Nat.le_of_ble_eq_true rfl) w_2_165 rfl ?_
      refine G_iald 2 0 d_cX7_step_82 rfl rfl (gB_in bp2859 (by decide) (by decide)) (G_nam fun z3324 hz3324 => ?_)
      have bz3324 : gB z3324 (-2147483648) 2147483647 := gB_any z3324
      refine G_callV (As := [.ref q2843, .int z3324]) (wr := []) (gV_ok D I) (ct_3102_Machine_enter l hl0 D I q2842 q2843 q2844 q2845 q2846 q2847 q2848 q2849 q2850 q2851 q2852 q2853 q2854 q2855 q2856 z3324 p2858 p2859 p2860 p2861 p2862 p2863 p2864 p2865 p2866 p2867 f2868 f2869 f2870 f2871 f2872 f2873 f2874 f2875 f2876 f2877 f2878 f2879 f2880 bp2858 bp2859 bp2861 bp2863 bp2865 bp2866 bp2867 bf2872 bf2875) d_cX7_step_83 ⟨w_6_82, w_1_12, w_6_85, by decide, rfl, (Nat.le_of_ble_eq_true rfl), (Nat.le_of_ble_eq_true rfl)⟩ w_6_84 w_p_59 10 rfl rfl [10, 0, 11, 12, 13, 14, 1, 2, 3, 4, 5, 6, 7, 8, 9] [] rfl rfl rfl rfl (by decide) (Nat.le_of_ble_eq_true rfl) (Nat.le_of_ble_eq_true rfl) (Nat.le_of_ble_eq_true rfl) (fun r w hp => ?_) (fun _ _ _ z => z.elim)
      obtain ⟨o3325, o3326, o3327, rfl, rfl, bo3325, bo3326, bo3327, ht3328⟩ := hp
      change G _ _ _ _ _ _ _ (.int o3325 :: _) _ _ _
      refine G_ws (ws' := [(q2842, .inr (12, [.ref q2844, .ref q2845, .ref q2846, .ref q2847, .int p2858, .int o3327, .int p2860, .int p2861, .int p2862, .int p2863, .int o3326])), (q2843, .inr (5, [.ref q2848, .ref q2849, .ref q2850, .ref q2851, .ref q2852, .ref q2853, .ref q2854, .ref q2855, .ref q2856, .int p2865, .int p2866, .int p2867])), (q2844, .inl (I .int, 2048, .inl f2868)), (q2845, .inl (I .int, 100, .inl f2869)), (q2846, .inl (I .int, 100, .inl f2870)), (q2847, .inl (I .int, 512, .inl f2871)), (q2848, .inl (I .int, 40, .inl f2872)), (q2849, .inl (I .int, 40, .inl f2873)), (q2850, .inl (I .int, 40, .inl f2874)), (q2851, .inl (I .int, 200, .inl f2875)), (q2852, .inl (I .int, 200, .inl f2876)), (q2853, .inl (I .int, 200, .inl f2877)), (q2854, .inl (I .int, 200, .inl f2878)), (q2855, .inl (I .int, 200, .inl f2879)), (q2856, .inl (I .int, 200, .inl f2880))]) (cs' := 0) (sl' := 0) rfl rfl rfl ?_
      exact G_iret d_cX7_step_86 rfl (Nat.le_of_ble_eq_true rfl) (Nat.le_of_ble_eq_true rfl) ⟨o3325, f2869, p2863, p2861, o3326, f2871, f2870, o3327, p2860, rfl, rfl, bo3325, (gF_any f2869), bp2863, bp2861, bo3326, (gF_any f2871), (gF_any f2870), bo3327, bp2860, (fun R c1 c2 c3 c4 c5 c6 c7 c8 c9 c10 c11 c12 c13 c14 c15 c16 c17 c18 c19 c20 c21 c22 c23 c24 c25 c26 c27 c28 c29 c30 c31 c32 c33 c34 c35 c36 c37 c38 => c8 z2882 z2883 z2884 z3324 o3325 o3326 o3327 hz2882 bz2882 hz2883 hz2884 r2915 ehs3323 hz3324 bo3325 bo3327 ht3328)⟩
    by_cases hs3329 : z2882 = 20
    · have ehs3329 : z2882.toInt = 20 := gj_eq hs3329 (show Int32.toInt 20 = 20 by decide)
      have bz2882' : gB z2882 20 20 := ⟨by omega, by omega⟩
      refine G_eqi (y := 20) hs3329 ?_
      refine G_tableIn 87 d_cX7_step_26 (by decide) (by decide) (by first | rfl | decide) (by decide) ?_
      refine G_aload_n 2 d_cX7_step_87 rfl ?_
      refine G_aload_n 3 d_cX7_step_88 rfl ?_
      refine G_iload 0 d_cX7_step_89 rfl ?_
      refine G_if_eq 106 d_cX7_step_91 (by decide +kernel) (fun hc3330 => ?_) (fun hc3330 => ?_)
      · have r3331 : z2884.toInt = 0 := gj_eq hc3330 (show Int32.toInt 0 = 0 by decide)
        have bz2884' : gB z2884 0 0 := ⟨by omega, by omega⟩
        refine G_aload_n 3 d_cX7_step_106 rfl ?_
        refine G_getfN 0 2 d_cX7_step_107 rfl (gk_X0 D I) (Nat.le_of_ble_eq_true rfl) (fun _ _ _ h => gn_w 14 rfl h) rfl ?_
        refine G_aload_n 2 d_cX7_step_110 rfl ?_
        refine G_getf 10 5 d_cX7_step_111 rfl (gk_X7 D I) (Nat.le_of_ble_eq_true rfl) w_2_165 rfl ?_
        refine G_iald 3 0 d_cX7_step_114 rfl rfl (gB_in bp2859 (by decide) (by decide)) (G_nam fun z3332 hz3332 => ?_)
        have bz3332 : gB z3332 (-2147483648) 2147483647 := gB_any z3332
        refine G_callV (As := [.ref q2843, .int z3332]) (wr := []) (gV_ok D I) (ct_3102_Machine_enter l hl0 D I q2842 q2843 q2844 q2845 q2846 q2847 q2848 q2849 q2850 q2851 q2852 q2853 q2854 q2855 q2856 z3332 p2858 p2859 p2860 p2861 p2862 p2863 p2864 p2865 p2866 p2867 f2868 f2869 f2870 f2871 f2872 f2873 f2874 f2875 f2876 f2877 f2878 f2879 f2880 bp2858 bp2859 bp2861 bp2863 bp2865 bp2866 bp2867 bf2872 bf2875) d_cX7_step_115 ⟨w_6_82, w_1_12, w_6_85, by decide, rfl, (Nat.le_of_ble_eq_true rfl), (Nat.le_of_ble_eq_true rfl)⟩ w_6_84 w_p_59 10 rfl rfl [10, 0, 11, 12, 13, 14, 1, 2, 3, 4, 5, 6, 7, 8, 9] [] rfl rfl rfl rfl (by decide) (Nat.le_of_ble_eq_true rfl) (Nat.le_of_ble_eq_true rfl) (Nat.le_of_ble_eq_true rfl) (fun r w hp => ?_) (fun _ _ _ z => z.elim)
        obtain ⟨o3333, o3334, o3335, rfl, rfl, bo3333, bo3334, bo3335, ht3336⟩ := hp
        change G _ _ _ _ _ _ _ (.int o3333 :: _) _ _ _
        refine G_ws (ws' := [(q2842, .inr (12, [.ref q2844, .ref q2845, .ref q2846, .ref q2847, .int p2858, .int o3335, .int p2860, .int p2861, .int p2862, .int p2863, .int o3334])), (q2843, .inr (5, [.ref q2848, .ref q2849, .ref q2850, .ref q2851, .ref q2852, .ref q2853, .ref q2854, .ref q2855, .ref q2856, .int p2865, .int p2866, .int p2867])), (q2844, .inl (I .int, 2048, .inl f2868)), (q2845, .inl (I .int, 100, .inl f2869)), (q2846, .inl (I .int, 100, .inl f2870)), (q2847, .inl (I .int, 512, .inl f2871)), (q2848, .inl (I .int, 40, .inl f2872)), (q2849, .inl (I .int, 40, .inl f2873)), (q2850, .inl (I .int, 40, .inl f2874)), (q2851, .inl (I .int, 200, .inl f2875)), (q2852, .inl (I .int, 200, .inl f2876)), (q2853, .inl (I .int, 200, .inl f2877)), (q2854, .inl (I .int, 200, .inl f2878)), (q2855, .inl (I .int, 200, .inl f2879)), (q2856, .inl (I .int, 200, .inl f2880))]) (cs' := 0) (sl' := 0) rfl rfl rfl ?_
        exact G_iret d_cX7_step_118 rfl (Nat.le_of_ble_eq_true rfl) (Nat.le_of_ble_eq_true rfl) ⟨o3333, f2869, p2863, p2861, o3334, f2871, f2870, o3335, p2860, rfl, rfl, bo3333, (gF_any f2869), bp2863, bp2861, bo3334, (gF_any f2871), (gF_any f2870), bo3335, bp2860, (fun R c1 c2 c3 c4 c5 c6 c7 c8 c9 c10 c11 c12 c13 c14 c15 c16 c17 c18 c19 c20 c21 c22 c23 c24 c25 c26 c27 c28 c29 c30 c31 c32 c33 c34 c35 c36 c37 c38 => c9 z2882 z2883 z2884 z3332 o3333 o3334 o3335 hz2882 bz2882 hz2883 hz2884 r2915 ehs3329 r3331 hz3332 bo3333 bo3335 ht3336)⟩
      · have r3337 : z2884.toInt ≠ 0 := gj_neq hc3330 (show Int32.toInt 0 = 0 by decide)
        refine G_aload_n 3 d_cX7_step_94 rfl ?_
        refine G_getfN 0 1 d_cX7_step_95 rfl (gk_X0 D I) (Nat.le_of_ble_eq_true rfl) (fun _ _ _ h => gn_w 10 rfl h) rfl ?_
        refine G_aload_n 2 d_cX7_step_98 rfl ?_
        refine G_getf 10 5 d_cX7_step_99 rfl (gk_X7 D I) (Nat.le_of_ble_eq_true rfl) w_2_165 rfl ?_
        refine G_iald 2 0 d_cX7_step_102 rfl rfl (gB_in bp2859 (by decide) (by decide)) (G_nam fun z3338 hz3338 => ?_)
        have bz3338 : gB z3338 (-2147483648) 2147483647 := gB_any z3338
        refine G_goto 115 d_cX7_step_103 (by decide +kernel) ?_
        refine G_callV (As := [.ref q2843, .int z3338]) (wr := []) (gV_ok D I) (ct_3102_Machine_enter l hl0 D I q2842 q2843 q2844 q2845 q2846 q2847 q2848 q2849 q2850 q2851 q2852 q2853 q2854 q2855 q2856 z3338 p2858 p2859 p2860 p2861 p2862 p2863 p2864 p2865 p2866 p2867 f2868 f2869 f2870 f2871 f2872 f2873 f2874 f2875 f2876 f2877 f2878 f2879 f2880 bp2858 bp2859 bp2861 bp2863 bp2865 bp2866 bp2867 bf2872 bf2875) d_cX7_step_115 ⟨w_6_82, w_1_12, w_6_85, by decide, rfl, (Nat.le_of_ble_eq_true rfl), (Nat.le_of_ble_eq_true rfl)⟩ w_6_84 w_p_59 10 rfl rfl [10, 0, 11, 12, 13, 14, 1, 2, 3, 4, 5, 6, 7, 8, 9] [] rfl rfl rfl rfl (by decide) (Nat.le_of_ble_eq_true rfl) (Nat.le_of_ble_eq_true rfl) (Nat.le_of_ble_eq_true rfl) (fun r w hp => ?_) (fun _ _ _ z => z.elim)
        obtain ⟨o3339, o3340, o3341, rfl, rfl, bo3339, bo3340, bo3341, ht3342⟩ := hp
        change G _ _ _ _ _ _ _ (.int o3339 :: _) _ _ _
        refine G_ws (ws' := [(q2842, .inr (12, [.ref q2844, .ref q2845, .ref q2846, .ref q2847, .int p2858, .int o3341, .int p2860, .int p2861, .int p2862, .int p2863, .int o3340])), (q2843, .inr (5, [.ref q2848, .ref q2849, .ref q2850, .ref q2851, .ref q2852, .ref q2853, .ref q2854, .ref q2855, .ref q2856, .int p2865, .int p2866, .int p2867])), (q2844, .inl (I .int, 2048, .inl f2868)), (q2845, .inl (I .int, 100, .inl f2869)), (q2846, .inl (I .int, 100, .inl f2870)), (q2847, .inl (I .int, 512, .inl f2871)), (q2848, .inl (I .int, 40, .inl f2872)), (q2849, .inl (I .int, 40, .inl f2873)), (q2850, .inl (I .int, 40, .inl f2874)), (q2851, .inl (I .int, 200, .inl f2875)), (q2852, .inl (I .int, 200, .inl f2876)), (q2853, .inl (I .int, 200, .inl f2877)), (q2854, .inl (I .int, 200, .inl f2878)), (q2855, .inl (I .int, 200, .inl f2879)), (q2856, .inl (I .int, 200, .inl f2880))]) (cs' := 0) (sl' := 0) rfl rfl rfl ?_
        exact G_iret d_cX7_step_118 rfl (Nat.le_of_ble_eq_true rfl) (Nat.le_of_ble_eq_true rfl) ⟨o3339, f2869, p2863, p2861, o3340, f2871, f2870, o3341, p2860, rfl, rfl, bo3339, (gF_any f2869), bp2863, bp2861, bo3340, (gF_any f2871), (gF_any f2870), bo3341, bp2860, (fun R c1 c2 c3 c4 c5 c6 c7 c8 c9 c10 c11 c12 c13 c14 c15 c16 c17 c18 c19 c20 c21 c22 c23 c24 c25 c26 c27 c28 c29 c30 c31 c32 c33 c34 c35 c36 c37 c38 => c10 z2882 z2883 z2884 z3338 o3339 o3340 o3341 hz2882 bz2882 hz2883 hz2884 r2915 ehs3329 r3337 hz3338 bo3339 bo3341 ht3342)⟩
    by_cases hs3343 : z2882 = 21
    · have ehs3343 : z2882.toInt = 21 := gj_eq hs3343 (show Int32.toInt 21 = 21 by decide)
      have bz2882' : gB z2882 21 21 := ⟨by omega, by omega⟩
      refine G_eqi (y := 21) hs3343 ?_
      refine G_tableIn 119 d_cX7_step_26 (by decide) (by decide) (by first | rfl | decide) (by decide) ?_
      refine G_aload_n 2 d_cX7_step_119 rfl ?_
      refine G_iload 0 d_cX7_step_120 rfl ?_
      refine G_putf (ws' := [(q2843, .inr (5, [.ref q2848, .ref q2849, .ref q2850, .ref q2851, .ref q2852, .ref q2853, .ref q2854, .ref q2855, .ref q2856, .int p2865, .int p2866, .int p2867])), (q2848, .inl (I .int, 40, .inl f2872)), (q2849, .inl (I .int, 40, .inl f2873)), (q2850, .inl (I .int, 40, .inl f2874)), (q2851, .inl (I .int, 200, .inl f2875)), (q2852, .inl (I .int, 200, .inl f2876)), (q2853, .inl (I .int, 200, .inl f2877)), (q2854, .inl (I .int, 200, .inl f2878)), (q2855, .inl (I .int, 200, .inl f2879)), (q2856, .inl (I .int, 200, .inl f2880)), (q2842, .inr (12, [.ref q2844, .ref q2845, .ref q2846, .ref q2847, .int p2858, .int p2859, .int z2884, .int p2861, .int p2862, .int p2863, .int p2864])), (q2844, .inl (I .int, 2048, .inl f2868)), (q2845, .inl (I .int, 100, .inl f2869)), (q2846, .inl (I .int, 100, .inl f2870)), (q2847, .inl (I .int, 512, .inl f2871))]) 10 6 d_cX7_step_122 rfl (gk_X7 D I) (Nat.le_of_ble_eq_true rfl) w_2_166 rfl rfl rfl (Nat.le_of_ble_eq_true rfl) rfl ?_
      refine G_aload_n 2 d_cX7_step_125 rfl ?_
      refine G_iconst 0 d_cX7_step_126 (by decide +kernel) ?_
      refine G_callV (As := [.int 0]) (wr := [(q2843, .inr (5, [.ref q2848, .ref q2849, .ref q2850, .ref q2851, .ref q2852, .ref q2853, .ref q2854, .ref q2855, .ref q2856, .int p2865, .int p2866, .int p2867])), (q2848, .inl (I .int, 40, .inl f2872)), (q2849, .inl (I .int, 40, .inl f2873)), (q2850, .inl (I .int, 40, .inl f2874)), (q2851, .inl (I .int, 200, .inl f2875)), (q2852, .inl (I .int, 200, .inl f2876)), (q2853, .inl (I .int, 200, .inl f2877)), (q2854, .inl (I .int, 200, .inl f2878)), (q2855, .inl (I .int, 200, .inl f2879)), (q2856, .inl (I .int, 200, .inl f2880))]) (gV_ok D I) (ct_2837_Machine_halt l hl0 D I q2842 q2844 q2845 q2846 q2847 0 p2858 p2859 z2884 p2861 p2862 p2863 p2864 f2868 f2869 f2870 f2871 bp2858 bp2859 bp2861 bp2863) d_cX7_step_127 ⟨w_6_86, w_1_12, w_6_89, by decide, rfl, (Nat.le_of_ble_eq_true rfl), (Nat.le_of_ble_eq_true rfl)⟩ w_6_88 w_p_60 10 rfl rfl [10, 11, 12, 13, 14] [0, 1, 2, 3, 4, 5, 6, 7, 8, 9] rfl rfl rfl rfl (by decide) (Nat.le_of_ble_eq_true rfl) (Nat.le_of_ble_eq_true rfl) (Nat.le_of_ble_eq_true rfl) (fun r w hp => ?_) (fun _ _ _ z => z.elim)
      obtain ⟨o3344, rfl, rfl, bo3344, ht3345⟩ := hp
      change G _ _ _ _ _ _ _ (.int (-1) :: _) _ _ _
      refine G_ws (ws' := [(q2843, .inr (5, [.ref q2848, .ref q2849, .ref q2850, .ref q2851, .ref q2852, .ref q2853, .ref q2854, .ref q2855, .ref q2856, .int p2865, .int p2866, .int p2867])), (q2848, .inl (I .int, 40, .inl f2872)), (q2849, .inl (I .int, 40, .inl f2873)), (q2850, .inl (I .int, 40, .inl f2874)), (q2851, .inl (I .int, 200, .inl f2875)), (q2852, .inl (I .int, 200, .inl f2876)), (q2853, .inl (I .int, 200, .inl f2877)), (q2854, .inl (I .int, 200, .inl f2878)), (q2855, .inl (I .int, 200, .inl f2879)), (q2856, .inl (I .int, 200, .inl f2880)), (q2842, .inr (12, [.ref q2844, .ref q2845, .ref q2846, .ref q2847, .int p2858, .int p2859, .int z2884, .int p2861, .int p2862, .int p2863, .int o3344])), (q2844, .inl (I .int, 2048, .inl f2868)), (q2845, .inl (I .int, 100, .inl f2869)), (q2846, .inl (I .int, 100, .inl f2870)), (q2847, .inl (I .int, 512, .inl f2871))]) (cs' := 0) (sl' := 0) rfl rfl rfl ?_
      refine G_sub (ws' := [(q2842, .inr (12, [.ref q2844, .ref q2845, .ref q2846, .ref q2847, .int p2858, .int p2859, .int z2884, .int p2861, .int p2862, .int p2863, .int o3344])), (q2843, .inr (5, [.ref q2848, .ref q2849, .ref q2850, .ref q2851, .ref q2852, .ref q2853, .ref q2854, .ref q2855, .ref q2856, .int p2865, .int p2866, .int p2867])), (q2844, .inl (I .int, 2048, .inl f2868)), (q2845, .inl (I .int, 100, .inl f2869)), (q2846, .inl (I .int, 100, .inl f2870)), (q2847, .inl (I .int, 512, .inl f2871)), (q2848, .inl (I .int, 40, .inl f2872)), (q2849, .inl (I .int, 40, .inl f2873)), (q2850, .inl (I .int, 40, .inl f2874)), (q2851, .inl (I .int, 200, .inl f2875)), (q2852, .inl (I .int, 200, .inl f2876)), (q2853, .inl (I .int, 200, .inl f2877)), (q2854, .inl (I .int, 200, .inl f2878)), (q2855, .inl (I .int, 200, .inl f2879)), (q2856, .inl (I .int, 200, .inl f2880))]) [10, 0, 11, 12, 13, 14, 1, 2, 3, 4, 5, 6, 7, 8, 9] rfl rfl ?_
      exact G_iret d_cX7_step_130 rfl (Nat.le_of_ble_eq_true rfl) (Nat.le_of_ble_eq_true rfl) ⟨(-1), f2869, p2863, p2861, o3344, f2871, f2870, p2859, z2884, rfl, rfl, (gB_w (gBl (show Int32.toInt (-1) = (-1) by decide)) (by decide) (by decide)), (gF_any f2869), bp2863, bp2861, bo3344, (gF_any f2871), (gF_any f2870), bp2859, bz2884, (fun R c1 c2 c3 c4 c5 c6 c7 c8 c9 c10 c11 c12 c13 c14 c15 c16 c17 c18 c19 c20 c21 c22 c23 c24 c25 c26 c27 c28 c29 c30 c31 c32 c33 c34 c35 c36 c37 c38 => c11 z2882 z2883 z2884 o3344 hz2882 bz2882 hz2883 hz2884 r2915 ehs3343 ht3345)⟩
    have ehs3272 := lv_neT hs3272 (show Int32.toInt 14 = 14 by decide)
    have ehs3277 := lv_neT hs3277 (show Int32.toInt 15 = 15 by decide)
    have ehs3285 := lv_neT hs3285 (show Int32.toInt 16 = 16 by decide)
    have ehs3296 := lv_neT hs3296 (show Int32.toInt 17 = 17 by decide)
    have ehs3318 := lv_neT hs3318 (show Int32.toInt 18 = 18 by decide)
    have ehs3323 := lv_neT hs3323 (show Int32.toInt 19 = 19 by decide)
    have ehs3329 := lv_neT hs3329 (show Int32.toInt 20 = 20 by decide)
    have ehs3343 := lv_neT hs3343 (show Int32.toInt 21 = 21 by decide)
    refine G_tableOut 238 d_cX7_step_26 (by omega) (by decide) ?_
    refine G_aload_n 2 d_cX7_step_238 rfl ?_
    refine G_aload_n 3 d_cX7_step_239 rfl ?_
    refine G_getfN 0 7 d_cX7_step_240 rfl (gk_X0 D I) (Nat.le_of_ble_eq_true rfl) (fun _ _ _ h => gn_w 32 rfl h) rfl ?_
    refine G_iload_n 4 d_cX7_step_243 rfl ?_
    refine G_iald 8 0 d_cX7_step_244 rfl rfl (gB_in bp2857 (by decide) (by decide)) (G_nam fun z3346 hz3346 => ?_)
    have bz3346 : gB z3346 (-2147483648) 2147483647 := gB_any z3346
    refine G_aload_n 3 d_cX7_step_245 rfl ?_
    refine G_getfN 0 8 d_cX7_step_246 rfl (gk_X0 D I) (Nat.le_of_ble_eq_true rfl) (fun _ _ _ h => gn_w 35 rfl h) rfl ?_
    refine G_iload_n 4 d_cX7_step_249 rfl ?_
    refine G_iald 9 0 d_cX7_step_250 rfl rfl (gB_in bp2857 (by decide) (by decide)) (G_nam fun z3347 hz3347 => ?_)
    have bz3347 : gB z3347 (-2147483648) 2147483647 := gB_any z3347
    refine G_callV (As := [.int z3346, .int z3347]) (wr := [(q2843, .inr (5, [.ref q2848, .ref q2849, .ref q2850, .ref q2851, .ref q2852, .ref q2853, .ref q2854, .ref q2855, .ref q2856, .int p2865, .int p2866, .int p2867])), (q2848, .inl (I .int, 40, .inl f2872)), (q2849, .inl (I .int, 40, .inl f2873)), (q2850, .inl (I .int, 40, .inl f2874)), (q2851, .inl (I .int, 200, .inl f2875)), (q2852, .inl (I .int, 200, .inl f2876)), (q2853, .inl (I .int, 200, .inl f2877)), (q2854, .inl (I .int, 200, .inl f2878)), (q2855, .inl (I .int, 200, .inl f2879)), (q2856, .inl (I .int, 200, .inl f2880))]) (gV_ok D I) (ct_2903_Machine_valueOf l hl0 D I q2842 q2844 q2845 q2846 q2847 z3346 z3347 p2858 p2859 p2860 p2861 p2862 p2863 p2864 f2868 f2869 f2870 f2871 bp2858 bp2859 bp2861 bp2863) d_cX7_step_251 ⟨w_6_78, w_1_12, w_6_81, by decide, rfl, (Nat.le_of_ble_eq_true rfl), (Nat.le_of_ble_eq_true rfl)⟩ w_6_80 w_p_58 10 rfl rfl [10, 11, 12, 13, 14] [0, 1, 2, 3, 4, 5, 6, 7, 8, 9] rfl rfl rfl rfl (by decide) (Nat.le_of_ble_eq_true rfl) (Nat.le_of_ble_eq_true rfl) (Nat.le_of_ble_eq_true rfl) (fun r w hp => ?_) (fun _ _ _ z => z.elim)
    rcases hp with ⟨rfl, rfl, r3348, r3349⟩ | ⟨rfl, rfl, r3350, r3351, r3352⟩ | ⟨z3353, rfl, rfl, r3354, r3355, hz3353, r3356, r3357⟩
    · have bz3346' : gB z3346 (-2147483648) (-1) := ⟨by omega, by omega⟩
      change G _ _ _ _ _ _ _ (.int z3347 :: _) _ _ _
      refine G_ws (ws' := [(q2843, .inr (5, [.ref q2848, .ref q2849, .ref q2850, .ref q2851, .ref q2852, .ref q2853, .ref q2854, .ref q2855, .ref q2856, .int p2865, .int p2866, .int p2867])), (q2848, .inl (I .int, 40, .inl f2872)), (q2849, .inl (I .int, 40, .inl f2873)), (q2850, .inl (I .int, 40, .inl f2874)), (q2851, .inl (I .int, 200, .inl f2875)), (q2852, .inl (I .int, 200, .inl f2876)), (q2853, .inl (I .int, 200, .inl f2877)), (q2854, .inl (I .int, 200, .inl f2878)), (q2855, .inl (I .int, 200, .inl f2879)), (q2856, .inl (I .int, 200, .inl f2880)), (q2842, .inr (12, [.ref q2844, .ref q2845, .ref q2846, .ref q2847, .int p2858, .int p2859, .int p2860, .int p2861, .int p2862, .int p2863, .int p2864])), (q2844, .inl (I .int, 2048, .inl f2868)), (q2845, .inl (I .int, 100, .inl f2869)), (q2846, .inl (I .int, 100, .inl f2870)), (q2847, .inl (I .int, 512, .inl f2871))]) (cs' := 0) (sl' := 0) rfl rfl rfl ?_
      refine G_istore (L' := [(5, .int z3347), (4, .int z2884), (3, .int z2882), (0, .ref q2842), (1, .ref q2843), (2, .int p2857)]) d_cX7_step_254 (Nat.le_of_ble_eq_true rfl) rfl ?_
      refine G_iload 0 d_cX7_step_256 rfl ?_
      refine G_if_ne 277 d_cX7_step_258 (by decide +kernel) (fun hc3358 => ?_) (fun hc3358 => ?_)
      · have r3359 : z3347.toInt ≠ 0 := gj_neq hc3358 (show Int32.toInt 0 = 0 by decide)
        refine G_aload_n 3 d_cX7_step_277 rfl ?_
        refine G_getf 10 1 d_cX7_step_278 rfl (gk_X7 D I) (Nat.le_of_ble_eq_true rfl) w_2_161 rfl ?_
        refine G_aload_n 4 d_cX7_step_281 rfl ?_
        refine G_getfN 0 4 d_cX7_step_282 rfl (gk_X0 D I) (Nat.le_of_ble_eq_true rfl) (fun _ _ _ h => gn_w 20 rfl h) rfl ?_
        refine G_iload_n 5 d_cX7_step_285 rfl ?_
        refine G_iald 5 0 d_cX7_step_286 rfl rfl (gB_in bp2857 (by decide) (by decide)) (G_nam fun z3360 hz3360 => ?_)
        have bz3360 : gB z3360 (-2147483648) 2147483647 := gB_any z3360
        refine G_iload_n 2 d_cX7_step_287 rfl ?_
        refine G_iload 1 d_cX7_step_288 rfl ?_
        refine G_iload 0 d_cX7_step_290 rfl ?_
        refine G_callS (As := [.int z2882, .int z2884, .int z3347]) (wr := [(q2843, .inr (5, [.ref q2848, .ref q2849, .ref q2850, .ref q2851, .ref q2852, .ref q2853, .ref q2854, .ref q2855, .ref q2856, .int p2865, .int p2866, .int p2867])), (q2848, .inl (I .int, 40, .inl f2872)), (q2849, .inl (I .int, 40, .inl f2873)), (q2850, .inl (I .int, 40, .inl f2874)), (q2851, .inl (I .int, 200, .inl f2875)), (q2852, .inl (I .int, 200, .inl f2876)), (q2853, .inl (I .int, 200, .inl f2877)), (q2854, .inl (I .int, 200, .inl f2878)), (q2855, .inl (I .int, 200, .inl f2879)), (q2856, .inl (I .int, 200, .inl f2880)), (q2842, .inr (12, [.ref q2844, .ref q2845, .ref q2846, .ref q2847, .int p2858, .int p2859, .int p2860, .int p2861, .int p2862, .int p2863, .int p2864])), (q2844, .inl (I .int, 2048, .inl f2868)), (q2845, .inl (I .int, 100, .inl f2869)), (q2846, .inl (I .int, 100, .inl f2870)), (q2847, .inl (I .int, 512, .inl f2871))]) (gV_ok D I) (ct_3156_Machine_calculate l hl0 D I z2882 z2884 z3347 ) d_cX7_step_292 ⟨w_6_105, w_1_12, w_6_107, by decide, rfl, (Nat.le_of_ble_eq_true rfl), (Nat.le_of_ble_eq_true rfl)⟩ w_6_106 [] [0, 1, 2, 3, 4, 5, 6, 7, 8, 9, 10, 11, 12, 13, 14] rfl rfl rfl rfl (by decide) (Nat.le_of_ble_eq_true rfl) (Nat.le_of_ble_eq_true rfl) (Nat.le_of_ble_eq_true rfl) (fun r w hp => ?_) (fun _ _ _ z => z.elim)
        obtain ⟨o3361, rfl, rfl, bo3361, ht3362⟩ := hp
        change G _ _ _ _ _ _ _ (.int o3361 :: _) _ _ _
        refine G_ws (ws' := [(q2843, .inr (5, [.ref q2848, .ref q2849, .ref q2850, .ref q2851, .ref q2852, .ref q2853, .ref q2854, .ref q2855, .ref q2856, .int p2865, .int p2866, .int p2867])), (q2848, .inl (I .int, 40, .inl f2872)), (q2849, .inl (I .int, 40, .inl f2873)), (q2850, .inl (I .int, 40, .inl f2874)), (q2851, .inl (I .int, 200, .inl f2875)), (q2852, .inl (I .int, 200, .inl f2876)), (q2853, .inl (I .int, 200, .inl f2877)), (q2854, .inl (I .int, 200, .inl f2878)), (q2855, .inl (I .int, 200, .inl f2879)), (q2856, .inl (I .int, 200, .inl f2880)), (q2842, .inr (12, [.ref q2844, .ref q2845, .ref q2846, .ref q2847, .int p2858, .int p2859, .int p2860, .int p2861, .int p2862, .int p2863, .int p2864])), (q2844, .inl (I .int, 2048, .inl f2868)), (q2845, .inl (I .int, 100, .inl f2869)), (q2846, .inl (I .int, 100, .inl f2870)), (q2847, .inl (I .int, 512, .inl f2871))]) (cs' := 0) (sl' := 0) rfl rfl rfl ?_
        refine G_callS (As := [.ref q2845, .int z3360, .int o3361]) (wr := [(q2843, .inr (5, [.ref q2848, .ref q2849, .ref q2850, .ref q2851, .ref q2852, .ref q2853, .ref q2854, .ref q2855, .ref q2856, .int p2865, .int p2866, .int p2867])), (q2848, .inl (I .int, 40, .inl f2872)), (q2849, .inl (I .int, 40, .inl f2873)), (q2850, .inl (I .int, 40, .inl f2874)), (q2851, .inl (I .int, 200, .inl f2875)), (q2852, .inl (I .int, 200, .inl f2876)), (q2853, .inl (I .int, 200, .inl f2877)), (q2854, .inl (I .int, 200, .inl f2878)), (q2855, .inl (I .int, 200, .inl f2879)), (q2856, .inl (I .int, 200, .inl f2880)), (q2842, .inr (12, [.ref q2844, .ref q2845, .ref q2846, .ref q2847, .int p2858, .int p2859, .int p2860, .int p2861, .int p2862, .int p2863, .int p2864])), (q2844, .inl (I .int, 2048, .inl f2868)), (q2846, .inl (I .int, 100, .inl f2870)), (q2847, .inl (I .int, 512, .inl f2871))]) (gV_ok D I) (ct_2927_Machine_put l hl0 D I q2845 z3360 o3361 f2869 ) d_cX7_step_295 ⟨w_6_94, w_1_12, w_6_96, by decide, rfl, (Nat.le_of_ble_eq_true rfl), (Nat.le_of_ble_eq_true rfl)⟩ w_6_95 [12] [0, 1, 2, 3, 4, 5, 6, 7, 8, 9, 10, 11, 13, 14] rfl rfl rfl rfl (by decide) (Nat.le_of_ble_eq_true rfl) (Nat.le_of_ble_eq_true rfl) (Nat.le_of_ble_eq_true rfl) (fun r w hp => ?_) (fun _ _ _ z => z.elim)
        obtain ⟨f3363, rfl, rfl, bf3363, ht3364⟩ := hp
        change G _ _ _ _ _ _ _ _ _ _ _
        refine G_ws (ws' := [(q2843, .inr (5, [.ref q2848, .ref q2849, .ref q2850, .ref q2851, .ref q2852, .ref q2853, .ref q2854, .ref q2855, .ref q2856, .int p2865, .int p2866, .int p2867])), (q2848, .inl (I .int, 40, .inl f2872)), (q2849, .inl (I .int, 40, .inl f2873)), (q2850, .inl (I .int, 40, .inl f2874)), (q2851, .inl (I .int, 200, .inl f2875)), (q2852, .inl (I .int, 200, .inl f2876)), (q2853, .inl (I .int, 200, .inl f2877)), (q2854, .inl (I .int, 200, .inl f2878)), (q2855, .inl (I .int, 200, .inl f2879)), (q2856, .inl (I .int, 200, .inl f2880)), (q2842, .inr (12, [.ref q2844, .ref q2845, .ref q2846, .ref q2847, .int p2858, .int p2859, .int p2860, .int p2861, .int p2862, .int p2863, .int p2864])), (q2844, .inl (I .int, 2048, .inl f2868)), (q2846, .inl (I .int, 100, .inl f2870)), (q2847, .inl (I .int, 512, .inl f2871)), (q2845, .inl (I .int, 100, .inl f3363))]) (cs' := 0) (sl' := 0) rfl rfl rfl ?_
        refine G_iload_n 5 d_cX7_step_298 rfl ?_
        refine G_iconst 1 d_cX7_step_299 (by decide +kernel) ?_
        refine G_iadd d_cX7_step_300 (G_nam fun z3365 hz3365 => ?_)
        have ez3365 : z3365.toInt = p2857.toInt + 1 := by rw [gI_add hz3365 bp2857 (gBl (show Int32.toInt 1 = 1 by decide)) (by decide) (by decide), show Int32.toInt 1 = 1 from by decide]
        have bz3365 : gB z3365 1 200 := gB_add (gI_add hz3365 bp2857 (gBl (show Int32.toInt 1 = 1 by decide)) (by decide) (by decide)) bp2857 (gBl (show Int32.toInt 1 = 1 by decide)) (by decide) (by decide)
        refine G_sub (ws' := [(q2842, .inr (12, [.ref q2844, .ref q2845, .ref q2846, .ref q2847, .int p2858, .int p2859, .int p2860, .int p2861, .int p2862, .int p2863, .int p2864])), (q2843, .inr (5, [.ref q2848, .ref q2849, .ref q2850, .ref q2851, .ref q2852, .ref q2853, .ref q2854, .ref q2855, .ref q2856, .int p2865, .int p2866, .int p2867])), (q2844, .inl (I .int, 2048, .inl f2868)), (q2845, .inl (I .int, 100, .inl f3363)), (q2846, .inl (I .int, 100, .inl f2870)), (q2847, .inl (I .int, 512, .inl f2871)), (q2848, .inl (I .int, 40, .inl f2872)), (q2849, .inl (I .int, 40, .inl f2873)), (q2850, .inl (I .int, 40, .inl f2874)), (q2851, .inl (I .int, 200, .inl f2875)), (q2852, .inl (I .int, 200, .inl f2876)), (q2853, .inl (I .int, 200, .inl f2877)), (q2854, .inl (I .int, 200, .inl f2878)), (q2855, .inl (I .int, 200, .inl f2879)), (q2856, .inl (I .int, 200, .inl f2880))]) [10, 0, 11, 14, 12, 13, 1, 2, 3, 4, 5, 6, 7, 8, 9] rfl rfl ?_
        exact G_iret d_cX7_step_301 rfl (Nat.le_of_ble_eq_true rfl) (Nat.le_of_ble_eq_true rfl) ⟨z3365, f3363, p2863, p2861, p2864, f2871, f2870, p2859, p2860, rfl, rfl, (gB_w bz3365 (by decide) (by decide)), bf3363, bp2863, bp2861, bp2864, (gF_any f2871), (gF_any f2870), bp2859, bp2860, (fun R c1 c2 c3 c4 c5 c6 c7 c8 c9 c10 c11 c12 c13 c14 c15 c16 c17 c18 c19 c20 c21 c22 c23 c24 c25 c26 c27 c28 c29 c30 c31 c32 c33 c34 c35 c36 c37 c38 => c12 z2882 z2883 z2884 z3346 z3347 z3360 o3361 f3363 z3365 hz2882 bz2882 hz2883 hz2884 r2915 ehs3272 ehs3277 ehs3285 ehs3296 ehs3318 ehs3323 ehs3329 ehs3343 hz3346 hz3347 r3349 r3359 hz3360 ht3362 ht3364 ez3365)⟩
      · have r3366 : z3347.toInt = 0 := gj_eq hc3358 (show Int32.toInt 0 = 0 by decide)
        have bz3347' : gB z3347 0 0 := ⟨by omega, by omega⟩
        refine G_iload_n 2 d_cX7_step_261 rfl ?_
        refine G_iconst 3 d_cX7_step_262 (by decide +kernel) ?_
        refine G_icmp_eq 271 d_cX7_step_263 (by decide +kernel) (fun hc3367 => ?_) (fun hc3367 => ?_)
        · have r3368 : z2882.toInt = 3 := gj_eq hc3367 (show Int32.toInt 3 = 3 by decide)
          have bz2882' : gB z2882 3 3 := ⟨by omega, by omega⟩
          refine G_aload_n 3 d_cX7_step_271 rfl ?_
          refine G_iconst 1 d_cX7_step_272 (by decide +kernel) ?_
          refine G_callV (As := [.int 1]) (wr := [(q2843, .inr (5, [.ref q2848, .ref q2849, .ref q2850, .ref q2851, .ref q2852, .ref q2853, .ref q2854, .ref q2855, .ref q2856, .int p2865, .int p2866, .int p2867])), (q2848, .inl (I .int, 40, .inl f2872)), (q2849, .inl (I .int, 40, .inl f2873)), (q2850, .inl (I .int, 40, .inl f2874)), (q2851, .inl (I .int, 200, .inl f2875)), (q2852, .inl (I .int, 200, .inl f2876)), (q2853, .inl (I .int, 200, .inl f2877)), (q2854, .inl (I .int, 200, .inl f2878)), (q2855, .inl (I .int, 200, .inl f2879)), (q2856, .inl (I .int, 200, .inl f2880))]) (gV_ok D I) (ct_2837_Machine_halt l hl0 D I q2842 q2844 q2845 q2846 q2847 1 p2858 p2859 p2860 p2861 p2862 p2863 p2864 f2868 f2869 f2870 f2871 bp2858 bp2859 bp2861 bp2863) d_cX7_step_273 ⟨w_6_86, w_1_12, w_6_89, by decide, rfl, (Nat.le_of_ble_eq_true rfl), (Nat.le_of_ble_eq_true rfl)⟩ w_6_88 w_p_60 10 rfl rfl [10, 11, 12, 13, 14] [0, 1, 2, 3, 4, 5, 6, 7, 8, 9] rfl rfl rfl rfl (by decide) (Nat.le_of_ble_eq_true rfl) (Nat.le_of_ble_eq_true rfl) (Nat.le_of_ble_eq_true rfl) (fun r w hp => ?_) (fun _ _ _ z => z.elim)
          obtain ⟨o3369, rfl, rfl, bo3369, ht3370⟩ := hp
          change G _ _ _ _ _ _ _ (.int (-1) :: _) _ _ _
          refine G_ws (ws' := [(q2843, .inr (5, [.ref q2848, .ref q2849, .ref q2850, .ref q2851, .ref q2852, .ref q2853, .ref q2854, .ref q2855, .ref q2856, .int p2865, .int p2866, .int p2867])), (q2848, .inl (I .int, 40, .inl f2872)), (q2849, .inl (I .int, 40, .inl f2873)), (q2850, .inl (I .int, 40, .inl f2874)), (q2851, .inl (I .int, 200, .inl f2875)), (q2852, .inl (I .int, 200, .inl f2876)), (q2853, .inl (I .int, 200, .inl f2877)), (q2854, .inl (I .int, 200, .inl f2878)), (q2855, .inl (I .int, 200, .inl f2879)), (q2856, .inl (I .int, 200, .inl f2880)), (q2842, .inr (12, [.ref q2844, .ref q2845, .ref q2846, .ref q2847, .int p2858, .int p2859, .int p2860, .int p2861, .int p2862, .int p2863, .int o3369])), (q2844, .inl (I .int, 2048, .inl f2868)), (q2845, .inl (I .int, 100, .inl f2869)), (q2846, .inl (I .int, 100, .inl f2870)), (q2847, .inl (I .int, 512, .inl f2871))]) (cs' := 0) (sl' := 0) rfl rfl rfl ?_
          refine G_sub (ws' := [(q2842, .inr (12, [.ref q2844, .ref q2845, .ref q2846, .ref q2847, .int p2858, .int p2859, .int p2860, .int p2861, .int p2862, .int p2863, .int o3369])), (q2843, .inr (5, [.ref q2848, .ref q2849, .ref q2850, .ref q2851, .ref q2852, .ref q2853, .ref q2854, .ref q2855, .ref q2856, .int p2865, .int p2866, .int p2867])), (q2844, .inl (I .int, 2048, .inl f2868)), (q2845, .inl (I .int, 100, .inl f2869)), (q2846, .inl (I .int, 100, .inl f2870)), (q2847, .inl (I .int, 512, .inl f2871)), (q2848, .inl (I .int, 40, .inl f2872)), (q2849, .inl (I .int, 40, .inl f2873)), (q2850, .inl (I .int, 40, .inl f2874)), (q2851, .inl (I .int, 200, .inl f2875)), (q2852, .inl (I .int, 200, .inl f2876)), (q2853, .inl (I .int, 200, .inl f2877)), (q2854, .inl (I .int, 200, .inl f2878)), (q2855, .inl (I .int, 200, .inl f2879)), (q2856, .inl (I .int, 200, .inl f2880))]) [10, 0, 11, 12, 13, 14, 1, 2, 3, 4, 5, 6, 7, 8, 9] rfl rfl ?_
          exact G_iret d_cX7_step_276 rfl (Nat.le_of_ble_eq_true rfl) (Nat.le_of_ble_eq_true rfl) ⟨(-1), f2869, p2863, p2861, o3369, f2871, f2870, p2859, p2860, rfl, rfl, (gB_w (gBl (show Int32.toInt (-1) = (-1) by decide)) (by decide) (by decide)), (gF_any f2869), bp2863, bp2861, bo3369, (gF_any f2871), (gF_any f2870), bp2859, bp2860, (fun R c1 c2 c3 c4 c5 c6 c7 c8 c9 c10 c11 c12 c13 c14 c15 c16 c17 c18 c19 c20 c21 c22 c23 c24 c25 c26 c27 c28 c29 c30 c31 c32 c33 c34 c35 c36 c37 c38 => c13 z2882 z2883 z2884 z3346 z3347 o3369 hz2882 bz2882 hz2883 hz2884 r2915 ehs3272 ehs3277 ehs3285 ehs3296 ehs3318 ehs3323 ehs3329 ehs3343 hz3346 hz3347 r3349 r3366 r3368 ht3370)⟩
        · have r3371 : z2882.toInt ≠ 3 := gj_neq hc3367 (show Int32.toInt 3 = 3 by decide)
          refine G_iload_n 2 d_cX7_step_266 rfl ?_
          refine G_iconst 4 d_cX7_step_267 (by decide +kernel) ?_
          refine G_icmp_ne 277 d_cX7_step_268 (by decide +kernel) (fun hc3372 => ?_) (fun hc3372 => ?_)
          · have r3373 : z2882.toInt ≠ 4 := gj_neq hc3372 (show Int32.toInt 4 = 4 by decide)
            refine G_aload_n 3 d_cX7_step_277 rfl ?_
            refine G_getf 10 1 d_cX7_step_278 rfl (gk_X7 D I) (Nat.le_of_ble_eq_true rfl) w_2_161 rfl ?_
            refine G_aload_n 4 d_cX7_step_281 rfl ?_
            refine G_getfN 0 4 d_cX7_step_282 rfl (gk_X0 D I) (Nat.le_of_ble_eq_true rfl) (fun _ _ _ h => gn_w 20 rfl h) rfl ?_
            refine G_iload_n 5 d_cX7_step_285 rfl ?_
            refine G_iald 5 0 d_cX7_step_286 rfl rfl (gB_in bp2857 (by decide) (by decide)) (G_nam fun z3374 hz3374 => ?_)
            have bz3374 : gB z3374 (-2147483648) 2147483647 := gB_any z3374
            refine G_iload_n 2 d_cX7_step_287 rfl ?_
            refine G_iload 1 d_cX7_step_288 rfl ?_
            refine G_iload 0 d_cX7_step_290 rfl ?_
            refine G_callS (As := [.int z2882, .int z2884, .int z3347]) (wr := [(q2843, .inr (5, [.ref q2848, .ref q2849, .ref q2850, .ref q2851, .ref q2852, .ref q2853, .ref q2854, .ref q2855, .ref q2856, .int p2865, .int p2866, .int p2867])), (q2848, .inl (I .int, 40, .inl f2872)), (q2849, .inl (I .int, 40, .inl f2873)), (q2850, .inl (I .int, 40, .inl f2874)), (q2851, .inl (I .int, 200, .inl f2875)), (q2852, .inl (I .int, 200, .inl f2876)), (q2853, .inl (I .int, 200, .inl f2877)), (q2854, .inl (I .int, 200, .inl f2878)), (q2855, .inl (I .int, 200, .inl f2879)), (q2856, .inl (I .int, 200, .inl f2880)), (q2842, .inr (12, [.ref q2844, .ref q2845, .ref q2846, .ref q2847, .int p2858, .int p2859, .int p2860, .int p2861, .int p2862, .int p2863, .int p2864])), (q2844, .inl (I .int, 2048, .inl f2868)), (q2845, .inl (I .int, 100, .inl f2869)), (q2846, .inl (I .int, 100, .inl f2870)), (q2847, .inl (I .int, 512, .inl f2871))]) (gV_ok D I) (ct_3156_Machine_calculate l hl0 D I z2882 z2884 z3347 ) d_cX7_step_292 ⟨w_6_105, w_1_12, w_6_107, by decide, rfl, (Nat.le_of_ble_eq_true rfl), (Nat.le_of_ble_eq_true rfl)⟩ w_6_106 [] [0, 1, 2, 3, 4, 5, 6, 7, 8, 9, 10, 11, 12, 13, 14] rfl rfl rfl rfl (by decide) (Nat.le_of_ble_eq_true rfl) (Nat.le_of_ble_eq_true rfl) (Nat.le_of_ble_eq_true rfl) (fun r w hp => ?_) (fun _ _ _ z => z.elim)
            obtain ⟨o3375, rfl, rfl, bo3375, ht3376⟩ := hp
            change G _ _ _ _ _ _ _ (.int o3375 :: _) _ _ _
            refine G_ws (ws' := [(q2843, .inr (5, [.ref q2848, .ref q2849, .ref q2850, .ref q2851, .ref q2852, .ref q2853, .ref q2854, .ref q2855, .ref q2856, .int p2865, .int p2866, .int p2867])), (q2848, .inl (I .int, 40, .inl f2872)), (q2849, .inl (I .int, 40, .inl f2873)), (q2850, .inl (I .int, 40, .inl f2874)), (q2851, .inl (I .int, 200, .inl f2875)), (q2852, .inl (I .int, 200, .inl f2876)), (q2853, .inl (I .int, 200, .inl f2877)), (q2854, .inl (I .int, 200, .inl f2878)), (q2855, .inl (I .int, 200, .inl f2879)), (q2856, .inl (I .int, 200, .inl f2880)), (q2842, .inr (12, [.ref q2844, .ref q2845, .ref q2846, .ref q2847, .int p2858, .int p2859, .int p2860, .int p2861, .int p2862, .int p2863, .int p2864])), (q2844, .inl (I .int, 2048, .inl f2868)), (q2845, .inl (I .int, 100, .inl f2869)), (q2846, .inl (I .int, 100, .inl f2870)), (q2847, .inl (I .int, 512, .inl f2871))]) (cs' := 0) (sl' := 0) rfl rfl rfl ?_
            refine G_callS (As := [.ref q2845, .int z3374, .int o3375]) (wr := [(q2843, .inr (5, [.ref q2848, .ref q2849, .ref q2850, .ref q2851, .ref q2852, .ref q2853, .ref q2854, .ref q2855, .ref q2856, .int p2865, .int p2866, .int p2867])), (q2848, .inl (I .int, 40, .inl f2872)), (q2849, .inl (I .int, 40, .inl f2873)), (q2850, .inl (I .int, 40, .inl f2874)), (q2851, .inl (I .int, 200, .inl f2875)), (q2852, .inl (I .int, 200, .inl f2876)), (q2853, .inl (I .int, 200, .inl f2877)), (q2854, .inl (I .int, 200, .inl f2878)), (q2855, .inl (I .int, 200, .inl f2879)), (q2856, .inl (I .int, 200, .inl f2880)), (q2842, .inr (12, [.ref q2844, .ref q2845, .ref q2846, .ref q2847, .int p2858, .int p2859, .int p2860, .int p2861, .int p2862, .int p2863, .int p2864])), (q2844, .inl (I .int, 2048, .inl f2868)), (q2846, .inl (I .int, 100, .inl f2870)), (q2847, .inl (I .int, 512, .inl f2871))]) (gV_ok D I) (ct_2927_Machine_put l hl0 D I q2845 z3374 o3375 f2869 ) d_cX7_step_295 ⟨w_6_94, w_1_12, w_6_96, by decide, rfl, (Nat.le_of_ble_eq_true rfl), (Nat.le_of_ble_eq_true rfl)⟩ w_6_95 [12] [0, 1, 2, 3, 4, 5, 6, 7, 8, 9, 10, 11, 13, 14] rfl rfl rfl rfl (by decide) (Nat.le_of_ble_eq_true rfl) (Nat.le_of_ble_eq_true rfl) (Nat.le_of_ble_eq_true rfl) (fun r w hp => ?_) (fun _ _ _ z => z.elim)
            obtain ⟨f3377, rfl, rfl, bf3377, ht3378⟩ := hp
            change G _ _ _ _ _ _ _ _ _ _ _
            refine G_ws (ws' := [(q2843, .inr (5, [.ref q2848, .ref q2849, .ref q2850, .ref q2851, .ref q2852, .ref q2853, .ref q2854, .ref q2855, .ref q2856, .int p2865, .int p2866, .int p2867])), (q2848, .inl (I .int, 40, .inl f2872)), (q2849, .inl (I .int, 40, .inl f2873)), (q2850, .inl (I .int, 40, .inl f2874)), (q2851, .inl (I .int, 200, .inl f2875)), (q2852, .inl (I .int, 200, .inl f2876)), (q2853, .inl (I .int, 200, .inl f2877)), (q2854, .inl (I .int, 200, .inl f2878)), (q2855, .inl (I .int, 200, .inl f2879)), (q2856, .inl (I .int, 200, .inl f2880)), (q2842, .inr (12, [.ref q2844, .ref q2845, .ref q2846, .ref q2847, .int p2858, .int p2859, .int p2860, .int p2861, .int p2862, .int p2863, .int p2864])), (q2844, .inl (I .int, 2048, .inl f2868)), (q2846, .inl (I .int, 100, .inl f2870)), (q2847, .inl (I .int, 512, .inl f2871)), (q2845, .inl (I .int, 100, .inl f3377))]) (cs' := 0) (sl' := 0) rfl rfl rfl ?_
            refine G_iload_n 5 d_cX7_step_298 rfl ?_
            refine G_iconst 1 d_cX7_step_299 (by decide +kernel) ?_
            refine G_iadd d_cX7_step_300 (G_nam fun z3379 hz3379 => ?_)
            have ez3379 : z3379.toInt = p2857.toInt + 1 := by rw [gI_add hz3379 bp2857 (gBl (show Int32.toInt 1 = 1 by decide)) (by decide) (by decide), show Int32.toInt 1 = 1 from by decide]
            have bz3379 : gB z3379 1 200 := gB_add (gI_add hz3379 bp2857 (gBl (show Int32.toInt 1 = 1 by decide)) (by decide) (by decide)) bp2857 (gBl (show Int32.toInt 1 = 1 by decide)) (by decide) (by decide)
            refine G_sub (ws' := [(q2842, .inr (12, [.ref q2844, .ref q2845, .ref q2846, .ref q2847, .int p2858, .int p2859, .int p2860, .int p2861, .int p2862, .int p2863, .int p2864])), (q2843, .inr (5, [.ref q2848, .ref q2849, .ref q2850, .ref q2851, .ref q2852, .ref q2853, .ref q2854, .ref q2855, .ref q2856, .int p2865, .int p2866, .int p2867])), (q2844, .inl (I .int, 2048, .inl f2868)), (q2845, .inl (I .int, 100, .inl f3377)), (q2846, .inl (I .int, 100, .inl f2870)), (q2847, .inl (I .int, 512, .inl f2871)), (q2848, .inl (I .int, 40, .inl f2872)), (q2849, .inl (I .int, 40, .inl f2873)), (q2850, .inl (I .int, 40, .inl f2874)), (q2851, .inl (I .int, 200, .inl f2875)), (q2852, .inl (I .int, 200, .inl f2876)), (q2853, .inl (I .int, 200, .inl f2877)), (q2854, .inl (I .int, 200, .inl f2878)), (q2855, .inl (I .int, 200, .inl f2879)), (q2856, .inl (I .int, 200, .inl f2880))]) [10, 0, 11, 14, 12, 13, 1, 2, 3, 4, 5, 6, 7, 8, 9] rfl rfl ?_
            exact G_iret d_cX7_step_301 rfl (Nat.le_of_ble_eq_true rfl) (Nat.le_of_ble_eq_true rfl) ⟨z3379, f3377, p2863, p2861, p2864, f2871, f2870, p2859, p2860, rfl, rfl, (gB_w bz3379 (by decide) (by decide)), bf3377, bp2863, bp2861, bp2864, (gF_any f2871), (gF_any f2870), bp2859, bp2860, (fun R c1 c2 c3 c4 c5 c6 c7 c8 c9 c10 c11 c12 c13 c14 c15 c16 c17 c18 c19 c20 c21 c22 c23 c24 c25 c26 c27 c28 c29 c30 c31 c32 c33 c34 c35 c36 c37 c38 => c14 z2882 z2883 z2884 z3346 z3347 z3374 o3375 f3377 z3379 hz2882 bz2882 hz2883 hz2884 r2915 ehs3272 ehs3277 ehs3285 ehs3296 ehs3318 ehs3323 ehs3329 ehs3343 hz3346 hz3347 r3349 r3366 r3371 r3373 hz3374 ht3376 ht3378 ez3379)⟩
          · have r3380 : z2882.toInt = 4 := gj_eq hc3372 (show Int32.toInt 4 = 4 by decide)
            have bz2882' : gB z2882 4 4 := ⟨by omega, by omega⟩
            refine G_aload_n 3 d_cX7_step_271 rfl ?_
            refine G_iconst 1 d_cX7_step_272 (by decide +kernel) ?_
            refine G_callV (As := [.int 1]) (wr := [(q2843, .inr (5, [.ref q2848, .ref q2849, .ref q2850, .ref q2851, .ref q2852, .ref q2853, .ref q2854, .ref q2855, .ref q2856, .int p2865, .int p2866, .int p2867])), (q2848, .inl (I .int, 40, .inl f2872)), (q2849, .inl (I .int, 40, .inl f2873)), (q2850, .inl (I .int, 40, .inl f2874)), (q2851, .inl (I .int, 200, .inl f2875)), (q2852, .inl (I .int, 200, .inl f2876)), (q2853, .inl (I .int, 200, .inl f2877)), (q2854, .inl (I .int, 200, .inl f2878)), (q2855, .inl (I .int, 200, .inl f2879)), (q2856, .inl (I .int, 200, .inl f2880))]) (gV_ok D I) (ct_2837_Machine_halt l hl0 D I q2842 q2844 q2845 q2846 q2847 1 p2858 p2859 p2860 p2861 p2862 p2863 p2864 f2868 f2869 f2870 f2871 bp2858 bp2859 bp2861 bp2863) d_cX7_step_273 ⟨w_6_86, w_1_12, w_6_89, by decide, rfl, (Nat.le_of_ble_eq_true rfl), (Nat.le_of_ble_eq_true rfl)⟩ w_6_88 w_p_60 10 rfl rfl [10, 11, 12, 13, 14] [0, 1, 2, 3, 4, 5, 6, 7, 8, 9] rfl rfl rfl rfl (by decide) (Nat.le_of_ble_eq_true rfl) (Nat.le_of_ble_eq_true rfl) (Nat.le_of_ble_eq_true rfl) (fun r w hp => ?_) (fun _ _ _ z => z.elim)
            obtain ⟨o3381, rfl, rfl, bo3381, ht3382⟩ := hp
            change G _ _ _ _ _ _ _ (.int (-1) :: _) _ _ _
            refine G_ws (ws' := [(q2843, .inr (5, [.ref q2848, .ref q2849, .ref q2850, .ref q2851, .ref q2852, .ref q2853, .ref q2854, .ref q2855, .ref q2856, .int p2865, .int p2866, .int p2867])), (q2848, .inl (I .int, 40, .inl f2872)), (q2849, .inl (I .int, 40, .inl f2873)), (q2850, .inl (I .int, 40, .inl f2874)), (q2851, .inl (I .int, 200, .inl f2875)), (q2852, .inl (I .int, 200, .inl f2876)), (q2853, .inl (I .int, 200, .inl f2877)), (q2854, .inl (I .int, 200, .inl f2878)), (q2855, .inl (I .int, 200, .inl f2879)), (q2856, .inl (I .int, 200, .inl f2880)), (q2842, .inr (12, [.ref q2844, .ref q2845, .ref q2846, .ref q2847, .int p2858, .int p2859, .int p2860, .int p2861, .int p2862, .int p2863, .int o3381])), (q2844, .inl (I .int, 2048, .inl f2868)), (q2845, .inl (I .int, 100, .inl f2869)), (q2846, .inl (I .int, 100, .inl f2870)), (q2847, .inl (I .int, 512, .inl f2871))]) (cs' := 0) (sl' := 0) rfl rfl rfl ?_
            refine G_sub (ws' := [(q2842, .inr (12, [.ref q2844, .ref q2845, .ref q2846, .ref q2847, .int p2858, .int p2859, .int p2860, .int p2861, .int p2862, .int p2863, .int o3381])), (q2843, .inr (5, [.ref q2848, .ref q2849, .ref q2850, .ref q2851, .ref q2852, .ref q2853, .ref q2854, .ref q2855, .ref q2856, .int p2865, .int p2866, .int p2867])), (q2844, .inl (I .int, 2048, .inl f2868)), (q2845, .inl (I .int, 100, .inl f2869)), (q2846, .inl (I .int, 100, .inl f2870)), (q2847, .inl (I .int, 512, .inl f2871)), (q2848, .inl (I .int, 40, .inl f2872)), (q2849, .inl (I .int, 40, .inl f2873)), (q2850, .inl (I .int, 40, .inl f2874)), (q2851, .inl (I .int, 200, .inl f2875)), (q2852, .inl (I .int, 200, .inl f2876)), (q2853, .inl (I .int, 200, .inl f2877)), (q2854, .inl (I .int, 200, .inl f2878)), (q2855, .inl (I .int, 200, .inl f2879)), (q2856, .inl (I .int, 200, .inl f2880))]) [10, 0, 11, 12, 13, 14, 1, 2, 3, 4, 5, 6, 7, 8, 9] rfl rfl ?_
            exact G_iret d_cX7_step_276 rfl (Nat.le_of_ble_eq_true rfl) (Nat.le_of_ble_eq_true rfl) ⟨(-1), f2869, p2863, p2861, o3381, f2871, f2870, p2859, p2860, rfl, rfl, (gB_w (gBl (show Int32.toInt (-1) = (-1) by decide)) (by decide) (by decide)), (gF_any f2869), bp2863, bp2861, bo3381, (gF_any f2871), (gF_any f2870), bp2859, bp2860, (fun R c1 c2 c3 c4 c5 c6 c7 c8 c9 c10 c11 c12 c13 c14 c15 c16 c17 c18 c19 c20 c21 c22 c23 c24 c25 c26 c27 c28 c29 c30 c31 c32 c33 c34 c35 c36 c37 c38 => c15 z2882 z2883 z2884 z3346 z3347 o3381 hz2882 bz2882 hz2883 hz2884 r2915 ehs3272 ehs3277 ehs3285 ehs3296 ehs3318 ehs3323 ehs3329 ehs3343 hz3346 hz3347 r3349 r3366 r3371 r3380 ht3382)⟩
    · have bz3346' : gB z3346 0 2147483647 := ⟨by omega, by omega⟩
      have bz3346'' : gB z3346 100 2147483647 := ⟨by omega, by omega⟩
      change G _ _ _ _ _ _ _ (.int z3347 :: _) _ _ _
      refine G_ws (ws' := [(q2843, .inr (5, [.ref q2848, .ref q2849, .ref q2850, .ref q2851, .ref q2852, .ref q2853, .ref q2854, .ref q2855, .ref q2856, .int p2865, .int p2866, .int p2867])), (q2848, .inl (I .int, 40, .inl f2872)), (q2849, .inl (I .int, 40, .inl f2873)), (q2850, .inl (I .int, 40, .inl f2874)), (q2851, .inl (I .int, 200, .inl f2875)), (q2852, .inl (I .int, 200, .inl f2876)), (q2853, .inl (I .int, 200, .inl f2877)), (q2854, .inl (I .int, 200, .inl f2878)), (q2855, .inl (I .int, 200, .inl f2879)), (q2856, .inl (I .int, 200, .inl f2880)), (q2842, .inr (12, [.ref q2844, .ref q2845, .ref q2846, .ref q2847, .int p2858, .int p2859, .int p2860, .int p2861, .int p2862, .int p2863, .int p2864])), (q2844, .inl (I .int, 2048, .inl f2868)), (q2845, .inl (I .int, 100, .inl f2869)), (q2846, .inl (I .int, 100, .inl f2870)), (q2847, .inl (I .int, 512, .inl f2871))]) (cs' := 0) (sl' := 0) rfl rfl rfl ?_
      refine G_istore (L' := [(5, .int z3347), (4, .int z2884), (3, .int z2882), (0, .ref q2842), (1, .ref q2843), (2, .int p2857)]) d_cX7_step_254 (Nat.le_of_ble_eq_true rfl) rfl ?_
      refine G_iload 0 d_cX7_step_256 rfl ?_
      refine G_if_ne 277 d_cX7_step_258 (by decide +kernel) (fun hc3383 => ?_) (fun hc3383 => ?_)
      · have r3384 : z3347.toInt ≠ 0 := gj_neq hc3383 (show Int32.toInt 0 = 0 by decide)
        refine G_aload_n 3 d_cX7_step_277 rfl ?_
        refine G_getf 10 1 d_cX7_step_278 rfl (gk_X7 D I) (Nat.le_of_ble_eq_true rfl) w_2_161 rfl ?_
        refine G_aload_n 4 d_cX7_step_281 rfl ?_
        refine G_getfN 0 4 d_cX7_step_282 rfl (gk_X0 D I) (Nat.le_of_ble_eq_true rfl) (fun _ _ _ h => gn_w 20 rfl h) rfl ?_
        refine G_iload_n 5 d_cX7_step_285 rfl ?_
        refine G_iald 5 0 d_cX7_step_286 rfl rfl (gB_in bp2857 (by decide) (by decide)) (G_nam fun z3385 hz3385 => ?_)
        have bz3385 : gB z3385 (-2147483648) 2147483647 := gB_any z3385
        refine G_iload_n 2 d_cX7_step_287 rfl ?_
        refine G_iload 1 d_cX7_step_288 rfl ?_
        refine G_iload 0 d_cX7_step_290 rfl ?_
        refine G_callS (As := [.int z2882, .int z2884, .int z3347]) (wr := [(q2843, .inr (5, [.ref q2848, .ref q2849, .ref q2850, .ref q2851, .ref q2852, .ref q2853, .ref q2854, .ref q2855, .ref q2856, .int p2865, .int p2866, .int p2867])), (q2848, .inl (I .int, 40, .inl f2872)), (q2849, .inl (I .int, 40, .inl f2873)), (q2850, .inl (I .int, 40, .inl f2874)), (q2851, .inl (I .int, 200, .inl f2875)), (q2852, .inl (I .int, 200, .inl f2876)), (q2853, .inl (I .int, 200, .inl f2877)), (q2854, .inl (I .int, 200, .inl f2878)), (q2855, .inl (I .int, 200, .inl f2879)), (q2856, .inl (I .int, 200, .inl f2880)), (q2842, .inr (12, [.ref q2844, .ref q2845, .ref q2846, .ref q2847, .int p2858, .int p2859, .int p2860, .int p2861, .int p2862, .int p2863, .int p2864])), (q2844, .inl (I .int, 2048, .inl f2868)), (q2845, .inl (I .int, 100, .inl f2869)), (q2846, .inl (I .int, 100, .inl f2870)), (q2847, .inl (I .int, 512, .inl f2871))]) (gV_ok D I) (ct_3156_Machine_calculate l hl0 D I z2882 z2884 z3347 ) d_cX7_step_292 ⟨w_6_105, w_1_12, w_6_107, by decide, rfl, (Nat.le_of_ble_eq_true rfl), (Nat.le_of_ble_eq_true rfl)⟩ w_6_106 [] [0, 1, 2, 3, 4, 5, 6, 7, 8, 9, 10, 11, 12, 13, 14] rfl rfl rfl rfl (by decide) (Nat.le_of_ble_eq_true rfl) (Nat.le_of_ble_eq_true rfl) (Nat.le_of_ble_eq_true rfl) (fun r w hp => ?_) (fun _ _ _ z => z.elim)
        obtain ⟨o3386, rfl, rfl, bo3386, ht3387⟩ := hp
        change G _ _ _ _ _ _ _ (.int o3386 :: _) _ _ _
        refine G_ws (ws' := [(q2843, .inr (5, [.ref q2848, .ref q2849, .ref q2850, .ref q2851, .ref q2852, .ref q2853, .ref q2854, .ref q2855, .ref q2856, .int p2865, .int p2866, .int p2867])), (q2848, .inl (I .int, 40, .inl f2872)), (q2849, .inl (I .int, 40, .inl f2873)), (q2850, .inl (I .int, 40, .inl f2874)), (q2851, .inl (I .int, 200, .inl f2875)), (q2852, .inl (I .int, 200, .inl f2876)), (q2853, .inl (I .int, 200, .inl f2877)), (q2854, .inl (I .int, 200, .inl f2878)), (q2855, .inl (I .int, 200, .inl f2879)), (q2856, .inl (I .int, 200, .inl f2880)), (q2842, .inr (12, [.ref q2844, .ref q2845, .ref q2846, .ref q2847, .int p2858, .int p2859, .int p2860, .int p2861, .int p2862, .int p2863, .int p2864])), (q2844, .inl (I .int, 2048, .inl f2868)), (q2845, .inl (I .int, 100, .inl f2869)), (q2846, .inl (I .int, 100, .inl f2870)), (q2847, .inl (I .int, 512, .inl f2871))]) (cs' := 0) (sl' := 0) rfl rfl rfl ?_
        refine G_callS (As := [.ref q2845, .int z3385, .int o3386]) (wr := [(q2843, .inr (5, [.ref q2848, .ref q2849, .ref q2850, .ref q2851, .ref q2852, .ref q2853, .ref q2854, .ref q2855, .ref q2856, .int p2865, .int p2866, .int p2867])), (q2848, .inl (I .int, 40, .inl f2872)), (q2849, .inl (I .int, 40, .inl f2873)), (q2850, .inl (I .int, 40, .inl f2874)), (q2851, .inl (I .int, 200, .inl f2875)), (q2852, .inl (I .int, 200, .inl f2876)), (q2853, .inl (I .int, 200, .inl f2877)), (q2854, .inl (I .int, 200, .inl f2878)), (q2855, .inl (I .int, 200, .inl f2879)), (q2856, .inl (I .int, 200, .inl f2880)), (q2842, .inr (12, [.ref q2844, .ref q2845, .ref q2846, .ref q2847, .int p2858, .int p2859, .int p2860, .int p2861, .int p2862, .int p2863, .int p2864])), (q2844, .inl (I .int, 2048, .inl f2868)), (q2846, .inl (I .int, 100, .inl f2870)), (q2847, .inl (I .int, 512, .inl f2871))]) (gV_ok D I) (ct_2927_Machine_put l hl0 D I q2845 z3385 o3386 f2869 ) d_cX7_step_295 ⟨w_6_94, w_1_12, w_6_96, by decide, rfl, (Nat.le_of_ble_eq_true rfl), (Nat.le_of_ble_eq_true rfl)⟩ w_6_95 [12] [0, 1, 2, 3, 4, 5, 6, 7, 8, 9, 10, 11, 13, 14] rfl rfl rfl rfl (by decide) (Nat.le_of_ble_eq_true rfl) (Nat.le_of_ble_eq_true rfl) (Nat.le_of_ble_eq_true rfl) (fun r w hp => ?_) (fun _ _ _ z => z.elim)
        obtain ⟨f3388, rfl, rfl, bf3388, ht3389⟩ := hp
        change G _ _ _ _ _ _ _ _ _ _ _
        refine G_ws (ws' := [(q2843, .inr (5, [.ref q2848, .ref q2849, .ref q2850, .ref q2851, .ref q2852, .ref q2853, .ref q2854, .ref q2855, .ref q2856, .int p2865, .int p2866, .int p2867])), (q2848, .inl (I .int, 40, .inl f2872)), (q2849, .inl (I .int, 40, .inl f2873)), (q2850, .inl (I .int, 40, .inl f2874)), (q2851, .inl (I .int, 200, .inl f2875)), (q2852, .inl (I .int, 200, .inl f2876)), (q2853, .inl (I .int, 200, .inl f2877)), (q2854, .inl (I .int, 200, .inl f2878)), (q2855, .inl (I .int, 200, .inl f2879)), (q2856, .inl (I .int, 200, .inl f2880)), (q2842, .inr (12, [.ref q2844, .ref q2845, .ref q2846, .ref q2847, .int p2858, .int p2859, .int p2860, .int p2861, .int p2862, .int p2863, .int p2864])), (q2844, .inl (I .int, 2048, .inl f2868)), (q2846, .inl (I .int, 100, .inl f2870)), (q2847, .inl (I .int, 512, .inl f2871)), (q2845, .inl (I .int, 100, .inl f3388))]) (cs' := 0) (sl' := 0) rfl rfl rfl ?_
        refine G_iload_n 5 d_cX7_step_298 rfl ?_
        refine G_iconst 1 d_cX7_step_299 (by decide +kernel) ?_
        refine G_iadd d_cX7_step_300 (G_nam fun z3390 hz3390 => ?_)
        have ez3390 : z3390.toInt = p2857.toInt + 1 := by rw [gI_add hz3390 bp2857 (gBl (show Int32.toInt 1 = 1 by decide)) (by decide) (by decide), show Int32.toInt 1 = 1 from by decide]
        have bz3390 : gB z3390 1 200 := gB_add (gI_add hz3390 bp2857 (gBl (show Int32.toInt 1 = 1 by decide)) (by decide) (by decide)) bp2857 (gBl (show Int32.toInt 1 = 1 by decide)) (by decide) (by decide)
        refine G_sub (ws' := [(q2842, .inr (12, [.ref q2844, .ref q2845, .ref q2846, .ref q2847, .int p2858, .int p2859, .int p2860, .int p2861, .int p2862, .int p2863, .int p2864])), (q2843, .inr (5, [.ref q2848, .ref q2849, .ref q2850, .ref q2851, .ref q2852, .ref q2853, .ref q2854, .ref q2855, .ref q2856, .int p2865, .int p2866, .int p2867])), (q2844, .inl (I .int, 2048, .inl f2868)), (q2845, .inl (I .int, 100, .inl f3388)), (q2846, .inl (I .int, 100, .inl f2870)), (q2847, .inl (I .int, 512, .inl f2871)), (q2848, .inl (I .int, 40, .inl f2872)), (q2849, .inl (I .int, 40, .inl f2873)), (q2850, .inl (I .int, 40, .inl f2874)), (q2851, .inl (I .int, 200, .inl f2875)), (q2852, .inl (I .int, 200, .inl f2876)), (q2853, .inl (I .int, 200, .inl f2877)), (q2854, .inl (I .int, 200, .inl f2878)), (q2855, .inl (I .int, 200, .inl f2879)), (q2856, .inl (I .int, 200, .inl f2880))]) [10, 0, 11, 14, 12, 13, 1, 2, 3, 4, 5, 6, 7, 8, 9] rfl rfl ?_
        exact G_iret d_cX7_step_301 rfl (Nat.le_of_ble_eq_true rfl) (Nat.le_of_ble_eq_true rfl) ⟨z3390, f3388, p2863, p2861, p2864, f2871, f2870, p2859, p2860, rfl, rfl, (gB_w bz3390 (by decide) (by decide)), bf3388, bp2863, bp2861, bp2864, (gF_any f2871), (gF_any f2870), bp2859, bp2860, (fun R c1 c2 c3 c4 c5 c6 c7 c8 c9 c10 c11 c12 c13 c14 c15 c16 c17 c18 c19 c20 c21 c22 c23 c24 c25 c26 c27 c28 c29 c30 c31 c32 c33 c34 c35 c36 c37 c38 => c12 z2882 z2883 z2884 z3346 z3347 z3385 o3386 f3388 z3390 hz2882 bz2882 hz2883 hz2884 r2915 ehs3272 ehs3277 ehs3285 ehs3296 ehs3318 ehs3323 ehs3329 ehs3343 hz3346 hz3347 r3352 r3384 hz3385 ht3387 ht3389 ez3390)⟩
      · have r3391 : z3347.toInt = 0 := gj_eq hc3383 (show Int32.toInt 0 = 0 by decide)
        have bz3347' : gB z3347 0 0 := ⟨by omega, by omega⟩
        refine G_iload_n 2 d_cX7_step_261 rfl ?_
        refine G_iconst 3 d_cX7_step_262 (by decide +kernel) ?_
        refine G_icmp_eq 271 d_cX7_step_263 (by decide +kernel) (fun hc3392 => ?_) (fun hc3392 => ?_)
        · have r3393 : z2882.toInt = 3 := gj_eq hc3392 (show Int32.toInt 3 = 3 by decide)
          have bz2882' : gB z2882 3 3 := ⟨by omega, by omega⟩
          refine G_aload_n 3 d_cX7_step_271 rfl ?_
          refine G_iconst 1 d_cX7_step_272 (by decide +kernel) ?_
          refine G_callV (As := [.int 1]) (wr := [(q2843, .inr (5, [.ref q2848, .ref q2849, .ref q2850, .ref q2851, .ref q2852, .ref q2853, .ref q2854, .ref q2855, .ref q2856, .int p2865, .int p2866, .int p2867])), (q2848, .inl (I .int, 40, .inl f2872)), (q2849, .inl (I .int, 40, .inl f2873)), (q2850, .inl (I .int, 40, .inl f2874)), (q2851, .inl (I .int, 200, .inl f2875)), (q2852, .inl (I .int, 200, .inl f2876)), (q2853, .inl (I .int, 200, .inl f2877)), (q2854, .inl (I .int, 200, .inl f2878)), (q2855, .inl (I .int, 200, .inl f2879)), (q2856, .inl (I .int, 200, .inl f2880))]) (gV_ok D I) (ct_2837_Machine_halt l hl0 D I q2842 q2844 q2845 q2846 q2847 1 p2858 p2859 p2860 p2861 p2862 p2863 p2864 f2868 f2869 f2870 f2871 bp2858 bp2859 bp2861 bp2863) d_cX7_step_273 ⟨w_6_86, w_1_12, w_6_89, by decide, rfl, (Nat.le_of_ble_eq_true rfl), (Nat.le_of_ble_eq_true rfl)⟩ w_6_88 w_p_60 10 rfl rfl [10, 11, 12, 13, 14] [0, 1, 2, 3, 4, 5, 6, 7, 8, 9] rfl rfl rfl rfl (by decide) (Nat.le_of_ble_eq_true rfl) (Nat.le_of_ble_eq_true rfl) (Nat.le_of_ble_eq_true rfl) (fun r w hp => ?_) (fun _ _ _ z => z.elim)
          obtain ⟨o3394, rfl, rfl, bo3394, ht3395⟩ := hp
          change G _ _ _ _ _ _ _ (.int (-1) :: _) _ _ _
          refine G_ws (ws' := [(q2843, .inr (5, [.ref q2848, .ref q2849, .ref q2850, .ref q2851, .ref q2852, .ref q2853, .ref q2854, .ref q2855, .ref q2856, .int p2865, .int p2866, .int p2867])), (q2848, .inl (I .int, 40, .inl f2872)), (q2849, .inl (I .int, 40, .inl f2873)), (q2850, .inl (I .int, 40, .inl f2874)), (q2851, .inl (I .int, 200, .inl f2875)), (q2852, .inl (I .int, 200, .inl f2876)), (q2853, .inl (I .int, 200, .inl f2877)), (q2854, .inl (I .int, 200, .inl f2878)), (q2855, .inl (I .int, 200, .inl f2879)), (q2856, .inl (I .int, 200, .inl f2880)), (q2842, .inr (12, [.ref q2844, .ref q2845, .ref q2846, .ref q2847, .int p2858, .int p2859, .int p2860, .int p2861, .int p2862, .int p2863, .int o3394])), (q2844, .inl (I .int, 2048, .inl f2868)), (q2845, .inl (I .int, 100, .inl f2869)), (q2846, .inl (I .int, 100, .inl f2870)), (q2847, .inl (I .int, 512, .inl f2871))]) (cs' := 0) (sl' := 0) rfl rfl rfl ?_
          refine G_sub (ws' := [(q2842, .inr (12, [.ref q2844, .ref q2845, .ref q2846, .ref q2847, .int p2858, .int p2859, .int p2860, .int p2861, .int p2862, .int p2863, .int o3394])), (q2843, .inr (5, [.ref q2848, .ref q2849, .ref q2850, .ref q2851, .ref q2852, .ref q2853, .ref q2854, .ref q2855, .ref q2856, .int p2865, .int p2866, .int p2867])), (q2844, .inl (I .int, 2048, .inl f2868)), (q2845, .inl (I .int, 100, .inl f2869)), (q2846, .inl (I .int, 100, .inl f2870)), (q2847, .inl (I .int, 512, .inl f2871)), (q2848, .inl (I .int, 40, .inl f2872)), (q2849, .inl (I .int, 40, .inl f2873)), (q2850, .inl (I .int, 40, .inl f2874)), (q2851, .inl (I .int, 200, .inl f2875)), (q2852, .inl (I .int, 200, .inl f2876)), (q2853, .inl (I .int, 200, .inl f2877)), (q2854, .inl (I .int, 200, .inl f2878)), (q2855, .inl (I .int, 200, .inl f2879)), (q2856, .inl (I .int, 200, .inl f2880))]) [10, 0, 11, 12, 13, 14, 1, 2, 3, 4, 5, 6, 7, 8, 9] rfl rfl ?_
          exact G_iret d_cX7_step_276 rfl (Nat.le_of_ble_eq_true rfl) (Nat.le_of_ble_eq_true rfl) ⟨(-1), f2869, p2863, p2861, o3394, f2871, f2870, p2859, p2860, rfl, rfl, (gB_w (gBl (show Int32.toInt (-1) = (-1) by decide)) (by decide) (by decide)), (gF_any f2869), bp2863, bp2861, bo3394, (gF_any f2871), (gF_any f2870), bp2859, bp2860, (fun R c1 c2 c3 c4 c5 c6 c7 c8 c9 c10 c11 c12 c13 c14 c15 c16 c17 c18 c19 c20 c21 c22 c23 c24 c25 c26 c27 c28 c29 c30 c31 c32 c33 c34 c35 c36 c37 c38 => c13 z2882 z2883 z2884 z3346 z3347 o3394 hz2882 bz2882 hz2883 hz2884 r2915 ehs3272 ehs3277 ehs3285 ehs3296 ehs3318 ehs3323 ehs3329 ehs3343 hz3346 hz3347 r3352 r3391 r3393 ht3395)⟩
        · have r3396 : z2882.toInt ≠ 3 := gj_neq hc3392 (show Int32.toInt 3 = 3 by decide)
          refine G_iload_n 2 d_cX7_step_266 rfl ?_
          refine G_iconst 4 d_cX7_step_267 (by decide +kernel) ?_
          refine G_icmp_ne 277 d_cX7_step_268 (by decide +kernel) (fun hc3397 => ?_) (fun hc3397 => ?_)
          · have r3398 : z2882.toInt ≠ 4 := gj_neq hc3397 (show Int32.toInt 4 = 4 by decide)
            refine G_aload_n 3 d_cX7_step_277 rfl ?_
            refine G_getf 10 1 d_cX7_step_278 rfl (gk_X7 D I) (Nat.le_of_ble_eq_true rfl) w_2_161 rfl ?_
            refine G_aload_n 4 d_cX7_step_281 rfl ?_
            refine G_getfN 0 4 d_cX7_step_282 rfl (gk_X0 D I) (Nat.le_of_ble_eq_true rfl) (fun _ _ _ h => gn_w 20 rfl h) rfl ?_
            refine G_iload_n 5 d_cX7_step_285 rfl ?_
            refine G_iald 5 0 d_cX7_step_286 rfl rfl (gB_in bp2857 (by decide) (by decide)) (G_nam fun z3399 hz3399 => ?_)
            have bz3399 : gB z3399 (-2147483648) 2147483647 := gB_any z3399
            refine G_iload_n 2 d_cX7_step_287 rfl ?_
            refine G_iload 1 d_cX7_step_288 rfl ?_
            refine G_iload 0 d_cX7_step_290 rfl ?_
            refine G_callS (As := [.int z2882, .int z2884, .int z3347]) (wr := [(q2843, .inr (5, [.ref q2848, .ref q2849, .ref q2850, .ref q2851, .ref q2852, .ref q2853, .ref q2854, .ref q2855, .ref q2856, .int p2865, .int p2866, .int p2867])), (q2848, .inl (I .int, 40, .inl f2872)), (q2849, .inl (I .int, 40, .inl f2873)), (q2850, .inl (I .int, 40, .inl f2874)), (q2851, .inl (I .int, 200, .inl f2875)), (q2852, .inl (I .int, 200, .inl f2876)), (q2853, .inl (I .int, 200, .inl f2877)), (q2854, .inl (I .int, 200, .inl f2878)), (q2855, .inl (I .int, 200, .inl f2879)), (q2856, .inl (I .int, 200, .inl f2880)), (q2842, .inr (12, [.ref q2844, .ref q2845, .ref q2846, .ref q2847, .int p2858, .int p2859, .int p2860, .int p2861, .int p2862, .int p2863, .int p2864])), (q2844, .inl (I .int, 2048, .inl f2868)), (q2845, .inl (I .int, 100, .inl f2869)), (q2846, .inl (I .int, 100, .inl f2870)), (q2847, .inl (I .int, 512, .inl f2871))]) (gV_ok D I) (ct_3156_Machine_calculate l hl0 D I z2882 z2884 z3347 ) d_cX7_step_292 ⟨w_6_105, w_1_12, w_6_107, by decide, rfl, (Nat.le_of_ble_eq_true rfl), (Nat.le_of_ble_eq_true rfl)⟩ w_6_106 [] [0, 1, 2, 3, 4, 5, 6, 7, 8, 9, 10, 11, 12, 13, 14] rfl rfl rfl rfl (by decide) (Nat.le_of_ble_eq_true rfl) (Nat.le_of_ble_eq_true rfl) (Nat.le_of_ble_eq_true rfl) (fun r w hp => ?_) (fun _ _ _ z => z.elim)
            obtain ⟨o3400, rfl, rfl, bo3400, ht3401⟩ := hp
            change G _ _ _ _ _ _ _ (.int o3400 :: _) _ _ _
            refine G_ws (ws' := [(q2843, .inr (5, [.ref q2848, .ref q2849, .ref q2850, .ref q2851, .ref q2852, .ref q2853, .ref q2854, .ref q2855, .ref q2856, .int p2865, .int p2866, .int p2867])), (q2848, .inl (I .int, 40, .inl f2872)), (q2849, .inl (I .int, 40, .inl f2873)), (q2850, .inl (I .int, 40, .inl f2874)), (q2851, .inl (I .int, 200, .inl f2875)), (q2852, .inl (I .int, 200, .inl f2876)), (q2853, .inl (I .int, 200, .inl f2877)), (q2854, .inl (I .int, 200, .inl f2878)), (q2855, .inl (I .int, 200, .inl f2879)), (q2856, .inl (I .int, 200, .inl f2880)), (q2842, .inr (12, [.ref q2844, .ref q2845, .ref q2846, .ref q2847, .int p2858, .int p2859, .int p2860, .int p2861, .int p2862, .int p2863, .int p2864])), (q2844, .inl (I .int, 2048, .inl f2868)), (q2845, .inl (I .int, 100, .inl f2869)), (q2846, .inl (I .int, 100, .inl f2870)), (q2847, .inl (I .int, 512, .inl f2871))]) (cs' := 0) (sl' := 0) rfl rfl rfl ?_
            refine G_callS (As := [.ref q2845, .int z3399, .int o3400]) (wr := [(q2843, .inr (5, [.ref q2848, .ref q2849, .ref q2850, .ref q2851, .ref q2852, .ref q2853, .ref q2854, .ref q2855, .ref q2856, .int p2865, .int p2866, .int p2867])), (q2848, .inl (I .int, 40, .inl f2872)), (q2849, .inl (I .int, 40, .inl f2873)), (q2850, .inl (I .int, 40, .inl f2874)), (q2851, .inl (I .int, 200, .inl f2875)), (q2852, .inl (I .int, 200, .inl f2876)), (q2853, .inl (I .int, 200, .inl f2877)), (q2854, .inl (I .int, 200, .inl f2878)), (q2855, .inl (I .int, 200, .inl f2879)), (q2856, .inl (I .int, 200, .inl f2880)), (q2842, .inr (12, [.ref q2844, .ref q2845, .ref q2846, .ref q2847, .int p2858, .int p2859, .int p2860, .int p2861, .int p2862, .int p2863, .int p2864])), (q2844, .inl (I .int, 2048, .inl f2868)), (q2846, .inl (I .int, 100, .inl f2870)), (q2847, .inl (I .int, 512, .inl f2871))]) (gV_ok D I) (ct_2927_Machine_put l hl0 D I q2845 z3399 o3400 f2869 ) d_cX7_step_295 ⟨w_6_94, w_1_12, w_6_96, by decide, rfl, (Nat.le_of_ble_eq_true rfl), (Nat.le_of_ble_eq_true rfl)⟩ w_6_95 [12] [0, 1, 2, 3, 4, 5, 6, 7, 8, 9, 10, 11, 13, 14] rfl rfl rfl rfl (by decide) (Nat.le_of_ble_eq_true rfl) (Nat.le_of_ble_eq_true rfl) (Nat.le_of_ble_eq_true rfl) (fun r w hp => ?_) (fun _ _ _ z => z.elim)
            obtain ⟨f3402, rfl, rfl, bf3402, ht3403⟩ := hp
            change G _ _ _ _ _ _ _ _ _ _ _
            refine G_ws (ws' := [(q2843, .inr (5, [.ref q2848, .ref q2849, .ref q2850, .ref q2851, .ref q2852, .ref q2853, .ref q2854, .ref q2855, .ref q2856, .int p2865, .int p2866, .int p2867])), (q2848, .inl (I .int, 40, .inl f2872)), (q2849, .inl (I .int, 40, .inl f2873)), (q2850, .inl (I .int, 40, .inl f2874)), (q2851, .inl (I .int, 200, .inl f2875)), (q2852, .inl (I .int, 200, .inl f2876)), (q2853, .inl (I .int, 200, .inl f2877)), (q2854, .inl (I .int, 200, .inl f2878)), (q2855, .inl (I .int, 200, .inl f2879)), (q2856, .inl (I .int, 200, .inl f2880)), (q2842, .inr (12, [.ref q2844, .ref q2845, .ref q2846, .ref q2847, .int p2858, .int p2859, .int p2860, .int p2861, .int p2862, .int p2863, .int p2864])), (q2844, .inl (I .int, 2048, .inl f2868)), (q2846, .inl (I .int, 100, .inl f2870)), (q2847, .inl (I .int, 512, .inl f2871)), (q2845, .inl (I .int, 100, .inl f3402))]) (cs' := 0) (sl' := 0) rfl rfl rfl ?_
            refine G_iload_n 5 d_cX7_step_298 rfl ?_
            refine G_iconst 1 d_cX7_step_299 (by decide +kernel) ?_
            refine G_iadd d_cX7_step_300 (G_nam fun z3404 hz3404 => ?_)
            have ez3404 : z3404.toInt = p2857.toInt + 1 := by rw [gI_add hz3404 bp2857 (gBl (show Int32.toInt 1 = 1 by decide)) (by decide) (by decide), show Int32.toInt 1 = 1 from by decide]
            have bz3404 : gB z3404 1 200 := gB_add (gI_add hz3404 bp2857 (gBl (show Int32.toInt 1 = 1 by decide)) (by decide) (by decide)) bp2857 (gBl (show Int32.toInt 1 = 1 by decide)) (by decide) (by decide)
            refine G_sub (ws' := [(q2842, .inr (12, [.ref q2844, .ref q2845, .ref q2846, .ref q2847, .int p2858, .int p2859, .int p2860, .int p2861, .int p2862, .int p2863, .int p2864])), (q2843, .inr (5, [.ref q2848, .ref q2849, .ref q2850, .ref q2851, .ref q2852, .ref q2853, .ref q2854, .ref q2855, .ref q2856, .int p2865, .int p2866, .int p2867])), (q2844, .inl (I .int, 2048, .inl f2868)), (q2845, .inl (I .int, 100, .inl f3402)), (q2846, .inl (I .int, 100, .inl f2870)), (q2847, .inl (I .int, 512, .inl f2871)), (q2848, .inl (I .int, 40, .inl f2872)), (q2849, .inl (I .int, 40, .inl f2873)), (q2850, .inl (I .int, 40, .inl f2874)), (q2851, .inl (I .int, 200, .inl f2875)), (q2852, .inl (I .int, 200, .inl f2876)), (q2853, .inl (I .int, 200, .inl f2877)), (q2854, .inl (I .int, 200, .inl f2878)), (q2855, .inl (I .int, 200, .inl f2879)), (q2856, .inl (I .int, 200, .inl f2880))]) [10, 0, 11, 14, 12, 13, 1, 2, 3, 4, 5, 6, 7, 8, 9] rfl rfl ?_
            exact G_iret d_cX7_step_301 rfl (Nat.le_of_ble_eq_true rfl) (Nat.le_of_ble_eq_true rfl) ⟨z3404, f3402, p2863, p2861, p2864, f2871, f2870, p2859, p2860, rfl, rfl, (gB_w bz3404 (by decide) (by decide)), bf3402, bp2863, bp2861, bp2864, (gF_any f2871), (gF_any f2870), bp2859, bp2860, (fun R c1 c2 c3 c4 c5 c6 c7 c8 c9 c10 c11 c12 c13 c14 c15 c16 c17 c18 c19 c20 c21 c22 c23 c24 c25 c26 c27 c28 c29 c30 c31 c32 c33 c34 c35 c36 c37 c38 => c14 z2882 z2883 z2884 z3346 z3347 z3399 o3400 f3402 z3404 hz2882 bz2882 hz2883 hz2884 r2915 ehs3272 ehs3277 ehs3285 ehs3296 ehs3318 ehs3323 ehs3329 ehs3343 hz3346 hz3347 r3352 r3391 r3396 r3398 hz3399 ht3401 ht3403 ez3404)⟩
          · have r3405 : z2882.toInt = 4 := gj_eq hc3397 (show Int32.toInt 4 = 4 by decide)
            have bz2882' : gB z2882 4 4 := ⟨by omega, by omega⟩
            refine G_aload_n 3 d_cX7_step_271 rfl ?_
            refine G_iconst 1 d_cX7_step_272 (by decide +kernel) ?_
            refine G_callV (As := [.int 1]) (wr := [(q2843, .inr (5, [.ref q2848, .ref q2849, .ref q2850, .ref q2851, .ref q2852, .ref q2853, .ref q2854, .ref q2855, .ref q2856, .int p2865, .int p2866, .int p2867])), (q2848, .inl (I .int, 40, .inl f2872)), (q2849, .inl (I .int, 40, .inl f2873)), (q2850, .inl (I .int, 40, .inl f2874)), (q2851, .inl (I .int, 200, .inl f2875)), (q2852, .inl (I .int, 200, .inl f2876)), (q2853, .inl (I .int, 200, .inl f2877)), (q2854, .inl (I .int, 200, .inl f2878)), (q2855, .inl (I .int, 200, .inl f2879)), (q2856, .inl (I .int, 200, .inl f2880))]) (gV_ok D I) (ct_2837_Machine_halt l hl0 D I q2842 q2844 q2845 q2846 q2847 1 p2858 p2859 p2860 p2861 p2862 p2863 p2864 f2868 f2869 f2870 f2871 bp2858 bp2859 bp2861 bp2863) d_cX7_step_273 ⟨w_6_86, w_1_12, w_6_89, by decide, rfl, (Nat.le_of_ble_eq_true rfl), (Nat.le_of_ble_eq_true rfl)⟩ w_6_88 w_p_60 10 rfl rfl [10, 11, 12, 13, 14] [0, 1, 2, 3, 4, 5, 6, 7, 8, 9] rfl rfl rfl rfl (by decide) (Nat.le_of_ble_eq_true rfl) (Nat.le_of_ble_eq_true rfl) (Nat.le_of_ble_eq_true rfl) (fun r w hp => ?_) (fun _ _ _ z => z.elim)
            obtain ⟨o3406, rfl, rfl, bo3406, ht3407⟩ := hp
            change G _ _ _ _ _ _ _ (.int (-1) :: _) _ _ _
            refine G_ws (ws' := [(q2843, .inr (5, [.ref q2848, .ref q2849, .ref q2850, .ref q2851, .ref q2852, .ref q2853, .ref q2854, .ref q2855, .ref q2856, .int p2865, .int p2866, .int p2867])), (q2848, .inl (I .int, 40, .inl f2872)), (q2849, .inl (I .int, 40, .inl f2873)), (q2850, .inl (I .int, 40, .inl f2874)), (q2851, .inl (I .int, 200, .inl f2875)), (q2852, .inl (I .int, 200, .inl f2876)), (q2853, .inl (I .int, 200, .inl f2877)), (q2854, .inl (I .int, 200, .inl f2878)), (q2855, .inl (I .int, 200, .inl f2879)), (q2856, .inl (I .int, 200, .inl f2880)), (q2842, .inr (12, [.ref q2844, .ref q2845, .ref q2846, .ref q2847, .int p2858, .int p2859, .int p2860, .int p2861, .int p2862, .int p2863, .int o3406])), (q2844, .inl (I .int, 2048, .inl f2868)), (q2845, .inl (I .int, 100, .inl f2869)), (q2846, .inl (I .int, 100, .inl f2870)), (q2847, .inl (I .int, 512, .inl f2871))]) (cs' := 0) (sl' := 0) rfl rfl rfl ?_
            refine G_sub (ws' := [(q2842, .inr (12, [.ref q2844, .ref q2845, .ref q2846, .ref q2847, .int p2858, .int p2859, .int p2860, .int p2861, .int p2862, .int p2863, .int o3406])), (q2843, .inr (5, [.ref q2848, .ref q2849, .ref q2850, .ref q2851, .ref q2852, .ref q2853, .ref q2854, .ref q2855, .ref q2856, .int p2865, .int p2866, .int p2867])), (q2844, .inl (I .int, 2048, .inl f2868)), (q2845, .inl (I .int, 100, .inl f2869)), (q2846, .inl (I .int, 100, .inl f2870)), (q2847, .inl (I .int, 512, .inl f2871)), (q2848, .inl (I .int, 40, .inl f2872)), (q2849, .inl (I .int, 40, .inl f2873)), (q2850, .inl (I .int, 40, .inl f2874)), (q2851, .inl (I .int, 200, .inl f2875)), (q2852, .inl (I .int, 200, .inl f2876)), (q2853, .inl (I .int, 200, .inl f2877)), (q2854, .inl (I .int, 200, .inl f2878)), (q2855, .inl (I .int, 200, .inl f2879)), (q2856, .inl (I .int, 200, .inl f2880))]) [10, 0, 11, 12, 13, 14, 1, 2, 3, 4, 5, 6, 7, 8, 9] rfl rfl ?_
            exact G_iret d_cX7_step_276 rfl (Nat.le_of_ble_eq_true rfl) (Nat.le_of_ble_eq_true rfl) ⟨(-1), f2869, p2863, p2861, o3406, f2871, f2870, p2859, p2860, rfl, rfl, (gB_w (gBl (show Int32.toInt (-1) = (-1) by decide)) (by decide) (by decide)), (gF_any f2869), bp2863, bp2861, bo3406, (gF_any f2871), (gF_any f2870), bp2859, bp2860, (fun R c1 c2 c3 c4 c5 c6 c7 c8 c9 c10 c11 c12 c13 c14 c15 c16 c17 c18 c19 c20 c21 c22 c23 c24 c25 c26 c27 c28 c29 c30 c31 c32 c33 c34 c35 c36 c37 c38 => c15 z2882 z2883 z2884 z3346 z3347 o3406 hz2882 bz2882 hz2883 hz2884 r2915 ehs3272 ehs3277 ehs3285 ehs3296 ehs3318 ehs3323 ehs3329 ehs3343 hz3346 hz3347 r3352 r3391 r3396 r3405 ht3407)⟩
    · have bz3346' : gB z3346 0 2147483647 := ⟨by omega, by omega⟩
      have bz3346'' : gB z3346 0 99 := ⟨by omega, by omega⟩
      change G _ _ _ _ _ _ _ (.int z3353 :: _) _ _ _
      refine G_ws (ws' := [(q2843, .inr (5, [.ref q2848, .ref q2849, .ref q2850, .ref q2851, .ref q2852, .ref q2853, .ref q2854, .ref q2855, .ref q2856, .int p2865, .int p2866, .int p2867])), (q2848, .inl (I .int, 40, .inl f2872)), (q2849, .inl (I .int, 40, .inl f2873)), (q2850, .inl (I .int, 40, .inl f2874)), (q2851, .inl (I .int, 200, .inl f2875)), (q2852, .inl (I .int, 200, .inl f2876)), (q2853, .inl (I .int, 200, .inl f2877)), (q2854, .inl (I .int, 200, .inl f2878)), (q2855, .inl (I .int, 200, .inl f2879)), (q2856, .inl (I .int, 200, .inl f2880)), (q2842, .inr (12, [.ref q2844, .ref q2845, .ref q2846, .ref q2847, .int p2858, .int p2859, .int p2860, .int p2861, .int p2862, .int p2863, .int p2864])), (q2844, .inl (I .int, 2048, .inl f2868)), (q2845, .inl (I .int, 100, .inl f2869)), (q2846, .inl (I .int, 100, .inl f2870)), (q2847, .inl (I .int, 512, .inl f2871))]) (cs' := 0) (sl' := 0) rfl rfl rfl ?_
      refine G_istore (L' := [(5, .int z3353), (4, .int z2884), (3, .int z2882), (0, .ref q2842), (1, .ref q2843), (2, .int p2857)]) d_cX7_step_254 (Nat.le_of_ble_eq_true rfl) rfl ?_
      refine G_iload 0 d_cX7_step_256 rfl ?_
      refine G_if_ne 277 d_cX7_step_258 (by decide +kernel) (fun hc3408 => ?_) (fun hc3408 => ?_)
      · have r3409 : z3353.toInt ≠ 0 := gj_neq hc3408 (show Int32.toInt 0 = 0 by decide)
        refine G_aload_n 3 d_cX7_step_277 rfl ?_
        refine G_getf 10 1 d_cX7_step_278 rfl (gk_X7 D I) (Nat.le_of_ble_eq_true rfl) w_2_161 rfl ?_
        refine G_aload_n 4 d_cX7_step_281 rfl ?_
        refine G_getfN 0 4 d_cX7_step_282 rfl (gk_X0 D I) (Nat.le_of_ble_eq_true rfl) (fun _ _ _ h => gn_w 20 rfl h) rfl ?_
        refine G_iload_n 5 d_cX7_step_285 rfl ?_
        refine G_iald 5 0 d_cX7_step_286 rfl rfl (gB_in bp2857 (by decide) (by decide)) (G_nam fun z3410 hz3410 => ?_)
        have bz3410 : gB z3410 (-2147483648) 2147483647 := gB_any z3410
        refine G_iload_n 2 d_cX7_step_287 rfl ?_
        refine G_iload 1 d_cX7_step_288 rfl ?_
        refine G_iload 0 d_cX7_step_290 rfl ?_
        refine G_callS (As := [.int z2882, .int z2884, .int z3353]) (wr := [(q2843, .inr (5, [.ref q2848, .ref q2849, .ref q2850, .ref q2851, .ref q2852, .ref q2853, .ref q2854, .ref q2855, .ref q2856, .int p2865, .int p2866, .int p2867])), (q2848, .inl (I .int, 40, .inl f2872)), (q2849, .inl (I .int, 40, .inl f2873)), (q2850, .inl (I .int, 40, .inl f2874)), (q2851, .inl (I .int, 200, .inl f2875)), (q2852, .inl (I .int, 200, .inl f2876)), (q2853, .inl (I .int, 200, .inl f2877)), (q2854, .inl (I .int, 200, .inl f2878)), (q2855, .inl (I .int, 200, .inl f2879)), (q2856, .inl (I .int, 200, .inl f2880)), (q2842, .inr (12, [.ref q2844, .ref q2845, .ref q2846, .ref q2847, .int p2858, .int p2859, .int p2860, .int p2861, .int p2862, .int p2863, .int p2864])), (q2844, .inl (I .int, 2048, .inl f2868)), (q2845, .inl (I .int, 100, .inl f2869)), (q2846, .inl (I .int, 100, .inl f2870)), (q2847, .inl (I .int, 512, .inl f2871))]) (gV_ok D I) (ct_3156_Machine_calculate l hl0 D I z2882 z2884 z3353 ) d_cX7_step_292 ⟨w_6_105, w_1_12, w_6_107, by decide, rfl, (Nat.le_of_ble_eq_true rfl), (Nat.le_of_ble_eq_true rfl)⟩ w_6_106 [] [0, 1, 2, 3, 4, 5, 6, 7, 8, 9, 10, 11, 12, 13, 14] rfl rfl rfl rfl (by decide) (Nat.le_of_ble_eq_true rfl) (Nat.le_of_ble_eq_true rfl) (Nat.le_of_ble_eq_true rfl) (fun r w hp => ?_) (fun _ _ _ z => z.elim)
        obtain ⟨o3411, rfl, rfl, bo3411, ht3412⟩ := hp
        change G _ _ _ _ _ _ _ (.int o3411 :: _) _ _ _
        refine G_ws (ws' := [(q2843, .inr (5, [.ref q2848, .ref q2849, .ref q2850, .ref q2851, .ref q2852, .ref q2853, .ref q2854, .ref q2855, .ref q2856, .int p2865, .int p2866, .int p2867])), (q2848, .inl (I .int, 40, .inl f2872)), (q2849, .inl (I .int, 40, .inl f2873)), (q2850, .inl (I .int, 40, .inl f2874)), (q2851, .inl (I .int, 200, .inl f2875)), (q2852, .inl (I .int, 200, .inl f2876)), (q2853, .inl (I .int, 200, .inl f2877)), (q2854, .inl (I .int, 200, .inl f2878)), (q2855, .inl (I .int, 200, .inl f2879)), (q2856, .inl (I .int, 200, .inl f2880)), (q2842, .inr (12, [.ref q2844, .ref q2845, .ref q2846, .ref q2847, .int p2858, .int p2859, .int p2860, .int p2861, .int p2862, .int p2863, .int p2864])), (q2844, .inl (I .int, 2048, .inl f2868)), (q2845, .inl (I .int, 100, .inl f2869)), (q2846, .inl (I .int, 100, .inl f2870)), (q2847, .inl (I .int, 512, .inl f2871))]) (cs' := 0) (sl' := 0) rfl rfl rfl ?_
        refine G_callS (As := [.ref q2845, .int z3410, .int o3411]) (wr := [(q2843, .inr (5, [.ref q2848, .ref q2849, .ref q2850, .ref q2851, .ref q2852, .ref q2853, .ref q2854, .ref q2855, .ref q2856, .int p2865, .int p2866, .int p2867])), (q2848, .inl (I .int, 40, .inl f2872)), (q2849, .inl (I .int, 40, .inl f2873)), (q2850, .inl (I .int, 40, .inl f2874)), (q2851, .inl (I .int, 200, .inl f2875)), (q2852, .inl (I .int, 200, .inl f2876)), (q2853, .inl (I .int, 200, .inl f2877)), (q2854, .inl (I .int, 200, .inl f2878)), (q2855, .inl (I .int, 200, .inl f2879)), (q2856, .inl (I .int, 200, .inl f2880)), (q2842, .inr (12, [.ref q2844, .ref q2845, .ref q2846, .ref q2847, .int p2858, .int p2859, .int p2860, .int p2861, .int p2862, .int p2863, .int p2864])), (q2844, .inl (I .int, 2048, .inl f2868)), (q2846, .inl (I .int, 100, .inl f2870)), (q2847, .inl (I .int, 512, .inl f2871))]) (gV_ok D I) (ct_2927_Machine_put l hl0 D I q2845 z3410 o3411 f2869 ) d_cX7_step_295 ⟨w_6_94, w_1_12, w_6_96, by decide, rfl, (Nat.le_of_ble_eq_true rfl), (Nat.le_of_ble_eq_true rfl)⟩ w_6_95 [12] [0, 1, 2, 3, 4, 5, 6, 7, 8, 9, 10, 11, 13, 14] rfl rfl rfl rfl (by decide) (Nat.le_of_ble_eq_true rfl) (Nat.le_of_ble_eq_true rfl) (Nat.le_of_ble_eq_true rfl) (fun r w hp => ?_) (fun _ _ _ z => z.elim)
        obtain ⟨f3413, rfl, rfl, bf3413, ht3414⟩ := hp
        change G _ _ _ _ _ _ _ _ _ _ _
        refine G_ws (ws' := [(q2843, .inr (5, [.ref q2848, .ref q2849, .ref q2850, .ref q2851, .ref q2852, .ref q2853, .ref q2854, .ref q2855, .ref q2856, .int p2865, .int p2866, .int p2867])), (q2848, .inl (I .int, 40, .inl f2872)), (q2849, .inl (I .int, 40, .inl f2873)), (q2850, .inl (I .int, 40, .inl f2874)), (q2851, .inl (I .int, 200, .inl f2875)), (q2852, .inl (I .int, 200, .inl f2876)), (q2853, .inl (I .int, 200, .inl f2877)), (q2854, .inl (I .int, 200, .inl f2878)), (q2855, .inl (I .int, 200, .inl f2879)), (q2856, .inl (I .int, 200, .inl f2880)), (q2842, .inr (12, [.ref q2844, .ref q2845, .ref q2846, .ref q2847, .int p2858, .int p2859, .int p2860, .int p2861, .int p2862, .int p2863, .int p2864])), (q2844, .inl (I .int, 2048, .inl f2868)), (q2846, .inl (I .int, 100, .inl f2870)), (q2847, .inl (I .int, 512, .inl f2871)), (q2845, .inl (I .int, 100, .inl f3413))]) (cs' := 0) (sl' := 0) rfl rfl rfl ?_
        refine G_iload_n 5 d_cX7_step_298 rfl ?_
        refine G_iconst 1 d_cX7_step_299 (by decide +kernel) ?_
        refine G_iadd d_cX7_step_300 (G_nam fun z3415 hz3415 => ?_)
        have ez3415 : z3415.toInt = p2857.toInt + 1 := by rw [gI_add hz3415 bp2857 (gBl (show Int32.toInt 1 = 1 by decide)) (by decide) (by decide), show Int32.toInt 1 = 1 from by decide]
        have bz3415 : gB z3415 1 200 := gB_add (gI_add hz3415 bp2857 (gBl (show Int32.toInt 1 = 1 by decide)) (by decide) (by decide)) bp2857 (gBl (show Int32.toInt 1 = 1 by decide)) (by decide) (by decide)
        refine G_sub (ws' := [(q2842, .inr (12, [.ref q2844, .ref q2845, .ref q2846, .ref q2847, .int p2858, .int p2859, .int p2860, .int p2861, .int p2862, .int p2863, .int p2864])), (q2843, .inr (5, [.ref q2848, .ref q2849, .ref q2850, .ref q2851, .ref q2852, .ref q2853, .ref q2854, .ref q2855, .ref q2856, .int p2865, .int p2866, .int p2867])), (q2844, .inl (I .int, 2048, .inl f2868)), (q2845, .inl (I .int, 100, .inl f3413)), (q2846, .inl (I .int, 100, .inl f2870)), (q2847, .inl (I .int, 512, .inl f2871)), (q2848, .inl (I .int, 40, .inl f2872)), (q2849, .inl (I .int, 40, .inl f2873)), (q2850, .inl (I .int, 40, .inl f2874)), (q2851, .inl (I .int, 200, .inl f2875)), (q2852, .inl (I .int, 200, .inl f2876)), (q2853, .inl (I .int, 200, .inl f2877)), (q2854, .inl (I .int, 200, .inl f2878)), (q2855, .inl (I .int, 200, .inl f2879)), (q2856, .inl (I .int, 200, .inl f2880))]) [10, 0, 11, 14, 12, 13, 1, 2, 3, 4, 5, 6, 7, 8, 9] rfl rfl ?_
        exact G_iret d_cX7_step_301 rfl (Nat.le_of_ble_eq_true rfl) (Nat.le_of_ble_eq_true rfl) ⟨z3415, f3413, p2863, p2861, p2864, f2871, f2870, p2859, p2860, rfl, rfl, (gB_w bz3415 (by decide) (by decide)), bf3413, bp2863, bp2861, bp2864, (gF_any f2871), (gF_any f2870), bp2859, bp2860, (fun R c1 c2 c3 c4 c5 c6 c7 c8 c9 c10 c11 c12 c13 c14 c15 c16 c17 c18 c19 c20 c21 c22 c23 c24 c25 c26 c27 c28 c29 c30 c31 c32 c33 c34 c35 c36 c37 c38 => c16 z2882 z2883 z2884 z3346 z3347 z3353 z3410 o3411 f3413 z3415 hz2882 bz2882 hz2883 hz2884 r2915 ehs3272 ehs3277 ehs3285 ehs3296 ehs3318 ehs3323 ehs3329 ehs3343 hz3346 hz3347 r3357 r3409 hz3410 ht3412 ht3414 ez3415)⟩
      · have r3416 : z3353.toInt = 0 := gj_eq hc3408 (show Int32.toInt 0 = 0 by decide)
        have r3356' : gB z3353 0 0 := ⟨by omega, by omega⟩
        refine G_iload_n 2 d_cX7_step_261 rfl ?_
        refine G_iconst 3 d_cX7_step_262 (by decide +kernel) ?_
        refine G_icmp_eq 271 d_cX7_step_263 (by decide +kernel) (fun hc3417 => ?_) (fun hc3417 => ?_)
        · have r3418 : z2882.toInt = 3 := gj_eq hc3417 (show Int32.toInt 3 = 3 by decide)
          have bz2882' : gB z2882 3 3 := ⟨by omega, by omega⟩
          refine G_aload_n 3 d_cX7_step_271 rfl ?_
          refine G_iconst 1 d_cX7_step_272 (by decide +kernel) ?_
          refine G_callV (As := [.int 1]) (wr := [(q2843, .inr (5, [.ref q2848, .ref q2849, .ref q2850, .ref q2851, .ref q2852, .ref q2853, .ref q2854, .ref q2855, .ref q2856, .int p2865, .int p2866, .int p2867])), (q2848, .inl (I .int, 40, .inl f2872)), (q2849, .inl (I .int, 40, .inl f2873)), (q2850, .inl (I .int, 40, .inl f2874)), (q2851, .inl (I .int, 200, .inl f2875)), (q2852, .inl (I .int, 200, .inl f2876)), (q2853, .inl (I .int, 200, .inl f2877)), (q2854, .inl (I .int, 200, .inl f2878)), (q2855, .inl (I .int, 200, .inl f2879)), (q2856, .inl (I .int, 200, .inl f2880))]) (gV_ok D I) (ct_2837_Machine_halt l hl0 D I q2842 q2844 q2845 q2846 q2847 1 p2858 p2859 p2860 p2861 p2862 p2863 p2864 f2868 f2869 f2870 f2871 bp2858 bp2859 bp2861 bp2863) d_cX7_step_273 ⟨w_6_86, w_1_12, w_6_89, by decide, rfl, (Nat.le_of_ble_eq_true rfl), (Nat.le_of_ble_eq_true rfl)⟩ w_6_88 w_p_60 10 rfl rfl [10, 11, 12, 13, 14] [0, 1, 2, 3, 4, 5, 6, 7, 8, 9] rfl rfl rfl rfl (by decide) (Nat.le_of_ble_eq_true rfl) (Nat.le_of_ble_eq_true rfl) (Nat.le_of_ble_eq_true rfl) (fun r w hp => ?_) (fun _ _ _ z => z.elim)
          obtain ⟨o3419, rfl, rfl, bo3419, ht3420⟩ := hp
          change G _ _ _ _ _ _ _ (.int (-1) :: _) _ _ _
          refine G_ws (ws' := [(q2843, .inr (5, [.ref q2848, .ref q2849, .ref q2850, .ref q2851, .ref q2852, .ref q2853, .ref q2854, .ref q2855, .ref q2856, .int p2865, .int p2866, .int p2867])), (q2848, .inl (I .int, 40, .inl f2872)), (q2849, .inl (I .int, 40, .inl f2873)), (q2850, .inl (I .int, 40, .inl f2874)), (q2851, .inl (I .int, 200, .inl f2875)), (q2852, .inl (I .int, 200, .inl f2876)), (q2853, .inl (I .int, 200, .inl f2877)), (q2854, .inl (I .int, 200, .inl f2878)), (q2855, .inl (I .int, 200, .inl f2879)), (q2856, .inl (I .int, 200, .inl f2880)), (q2842, .inr (12, [.ref q2844, .ref q2845, .ref q2846, .ref q2847, .int p2858, .int p2859, .int p2860, .int p2861, .int p2862, .int p2863, .int o3419])), (q2844, .inl (I .int, 2048, .inl f2868)), (q2845, .inl (I .int, 100, .inl f2869)), (q2846, .inl (I .int, 100, .inl f2870)), (q2847, .inl (I .int, 512, .inl f2871))]) (cs' := 0) (sl' := 0) rfl rfl rfl ?_
          refine G_sub (ws' := [(q2842, .inr (12, [.ref q2844, .ref q2845, .ref q2846, .ref q2847, .int p2858, .int p2859, .int p2860, .int p2861, .int p2862, .int p2863, .int o3419])), (q2843, .inr (5, [.ref q2848, .ref q2849, .ref q2850, .ref q2851, .ref q2852, .ref q2853, .ref q2854, .ref q2855, .ref q2856, .int p2865, .int p2866, .int p2867])), (q2844, .inl (I .int, 2048, .inl f2868)), (q2845, .inl (I .int, 100, .inl f2869)), (q2846, .inl (I .int, 100, .inl f2870)), (q2847, .inl (I .int, 512, .inl f2871)), (q2848, .inl (I .int, 40, .inl f2872)), (q2849, .inl (I .int, 40, .inl f2873)), (q2850, .inl (I .int, 40, .inl f2874)), (q2851, .inl (I .int, 200, .inl f2875)), (q2852, .inl (I .int, 200, .inl f2876)), (q2853, .inl (I .int, 200, .inl f2877)), (q2854, .inl (I .int, 200, .inl f2878)), (q2855, .inl (I .int, 200, .inl f2879)), (q2856, .inl (I .int, 200, .inl f2880))]) [10, 0, 11, 12, 13, 14, 1, 2, 3, 4, 5, 6, 7, 8, 9] rfl rfl ?_
          exact G_iret d_cX7_step_276 rfl (Nat.le_of_ble_eq_true rfl) (Nat.le_of_ble_eq_true rfl) ⟨(-1), f2869, p2863, p2861, o3419, f2871, f2870, p2859, p2860, rfl, rfl, (gB_w (gBl (show Int32.toInt (-1) = (-1) by decide)) (by decide) (by decide)), (gF_any f2869), bp2863, bp2861, bo3419, (gF_any f2871), (gF_any f2870), bp2859, bp2860, (fun R c1 c2 c3 c4 c5 c6 c7 c8 c9 c10 c11 c12 c13 c14 c15 c16 c17 c18 c19 c20 c21 c22 c23 c24 c25 c26 c27 c28 c29 c30 c31 c32 c33 c34 c35 c36 c37 c38 => c17 z2882 z2883 z2884 z3346 z3347 z3353 o3419 hz2882 bz2882 hz2883 hz2884 r2915 ehs3272 ehs3277 ehs3285 ehs3296 ehs3318 ehs3323 ehs3329 ehs3343 hz3346 hz3347 r3357 r3416 r3418 ht3420)⟩
        · have r3421 : z2882.toInt ≠ 3 := gj_neq hc3417 (show Int32.toInt 3 = 3 by decide)
          refine G_iload_n 2 d_cX7_step_266 rfl ?_
          refine G_iconst 4 d_cX7_step_267 (by decide +kernel) ?_
          refine G_icmp_ne 277 d_cX7_step_268 (by decide +kernel) (fun hc3422 => ?_) (fun hc3422 => ?_)
          · have r3423 : z2882.toInt ≠ 4 := gj_neq hc3422 (show Int32.toInt 4 = 4 by decide)
            refine G_aload_n 3 d_cX7_step_277 rfl ?_
            refine G_getf 10 1 d_cX7_step_278 rfl (gk_X7 D I) (Nat.le_of_ble_eq_true rfl) w_2_161 rfl ?_
            refine G_aload_n 4 d_cX7_step_281 rfl ?_
            refine G_getfN 0 4 d_cX7_step_282 rfl (gk_X0 D I) (Nat.le_of_ble_eq_true rfl) (fun _ _ _ h => gn_w 20 rfl h) rfl ?_
            refine G_iload_n 5 d_cX7_step_285 rfl ?_
            refine G_iald 5 0 d_cX7_step_286 rfl rfl (gB_in bp2857 (by decide) (by decide)) (G_nam fun z3424 hz3424 => ?_)
            have bz3424 : gB z3424 (-2147483648) 2147483647 := gB_any z3424
            refine G_iload_n 2 d_cX7_step_287 rfl ?_
            refine G_iload 1 d_cX7_step_288 rfl ?_
            refine G_iload 0 d_cX7_step_290 rfl ?_
            refine G_callS (As := [.int z2882, .int z2884, .int z3353]) (wr := [(q2843, .inr (5, [.ref q2848, .ref q2849, .ref q2850, .ref q2851, .ref q2852, .ref q2853, .ref q2854, .ref q2855, .ref q2856, .int p2865, .int p2866, .int p2867])), (q2848, .inl (I .int, 40, .inl f2872)), (q2849, .inl (I .int, 40, .inl f2873)), (q2850, .inl (I .int, 40, .inl f2874)), (q2851, .inl (I .int, 200, .inl f2875)), (q2852, .inl (I .int, 200, .inl f2876)), (q2853, .inl (I .int, 200, .inl f2877)), (q2854, .inl (I .int, 200, .inl f2878)), (q2855, .inl (I .int, 200, .inl f2879)), (q2856, .inl (I .int, 200, .inl f2880)), (q2842, .inr (12, [.ref q2844, .ref q2845, .ref q2846, .ref q2847, .int p2858, .int p2859, .int p2860, .int p2861, .int p2862, .int p2863, .int p2864])), (q2844, .inl (I .int, 2048, .inl f2868)), (q2845, .inl (I .int, 100, .inl f2869)), (q2846, .inl (I .int, 100, .inl f2870)), (q2847, .inl (I .int, 512, .inl f2871))]) (gV_ok D I) (ct_3156_Machine_calculate l hl0 D I z2882 z2884 z3353 ) d_cX7_step_292 ⟨w_6_105, w_1_12, w_6_107, by decide, rfl, (Nat.le_of_ble_eq_true rfl), (Nat.le_of_ble_eq_true rfl)⟩ w_6_106 [] [0, 1, 2, 3, 4, 5, 6, 7, 8, 9, 10, 11, 12, 13, 14] rfl rfl rfl rfl (by decide) (Nat.le_of_ble_eq_true rfl) (Nat.le_of_ble_eq_true rfl) (Nat.le_of_ble_eq_true rfl) (fun r w hp => ?_) (fun _ _ _ z => z.elim)
            obtain ⟨o3425, rfl, rfl, bo3425, ht3426⟩ := hp
            change G _ _ _ _ _ _ _ (.int o3425 :: _) _ _ _
            refine G_ws (ws' := [(q2843, .inr (5, [.ref q2848, .ref q2849, .ref q2850, .ref q2851, .ref q2852, .ref q2853, .ref q2854, .ref q2855, .ref q2856, .int p2865, .int p2866, .int p2867])), (q2848, .inl (I .int, 40, .inl f2872)), (q2849, .inl (I .int, 40, .inl f2873)), (q2850, .inl (I .int, 40, .inl f2874)), (q2851, .inl (I .int, 200, .inl f2875)), (q2852, .inl (I .int, 200, .inl f2876)), (q2853, .inl (I .int, 200, .inl f2877)), (q2854, .inl (I .int, 200, .inl f2878)), (q2855, .inl (I .int, 200, .inl f2879)), (q2856, .inl (I .int, 200, .inl f2880)), (q2842, .inr (12, [.ref q2844, .ref q2845, .ref q2846, .ref q2847, .int p2858, .int p2859, .int p2860, .int p2861, .int p2862, .int p2863, .int p2864])), (q2844, .inl (I .int, 2048, .inl f2868)), (q2845, .inl (I .int, 100, .inl f2869)), (q2846, .inl (I .int, 100, .inl f2870)), (q2847, .inl (I .int, 512, .inl f2871))]) (cs' := 0) (sl' := 0) rfl rfl rfl ?_
            refine G_callS (As := [.ref q2845, .int z3424, .int o3425]) (wr := [(q2843, .inr (5, [.ref q2848, .ref q2849, .ref q2850, .ref q2851, .ref q2852, .ref q2853, .ref q2854, .ref q2855, .ref q2856, .int p2865, .int p2866, .int p2867])), (q2848, .inl (I .int, 40, .inl f2872)), (q2849, .inl (I .int, 40, .inl f2873)), (q2850, .inl (I .int, 40, .inl f2874)), (q2851, .inl (I .int, 200, .inl f2875)), (q2852, .inl (I .int, 200, .inl f2876)), (q2853, .inl (I .int, 200, .inl f2877)), (q2854, .inl (I .int, 200, .inl f2878)), (q2855, .inl (I .int, 200, .inl f2879)), (q2856, .inl (I .int, 200, .inl f2880)), (q2842, .inr (12, [.ref q2844, .ref q2845, .ref q2846, .ref q2847, .int p2858, .int p2859, .int p2860, .int p2861, .int p2862, .int p2863, .int p2864])), (q2844, .inl (I .int, 2048, .inl f2868)), (q2846, .inl (I .int, 100, .inl f2870)), (q2847, .inl (I .int, 512, .inl f2871))]) (gV_ok D I) (ct_2927_Machine_put l hl0 D I q2845 z3424 o3425 f2869 ) d_cX7_step_295 ⟨w_6_94, w_1_12, w_6_96, by decide, rfl, (Nat.le_of_ble_eq_true rfl), (Nat.le_of_ble_eq_true rfl)⟩ w_6_95 [12] [0, 1, 2, 3, 4, 5, 6, 7, 8, 9, 10, 11, 13, 14] rfl rfl rfl rfl (by decide) (Nat.le_of_ble_eq_true rfl) (Nat.le_of_ble_eq_true rfl) (Nat.le_of_ble_eq_true rfl) (fun r w hp => ?_) (fun _ _ _ z => z.elim)
            obtain ⟨f3427, rfl, rfl, bf3427, ht3428⟩ := hp
            change G _ _ _ _ _ _ _ _ _ _ _
            refine G_ws (ws' := [(q2843, .inr (5, [.ref q2848, .ref q2849, .ref q2850, .ref q2851, .ref q2852, .ref q2853, .ref q2854, .ref q2855, .ref q2856, .int p2865, .int p2866, .int p2867])), (q2848, .inl (I .int, 40, .inl f2872)), (q2849, .inl (I .int, 40, .inl f2873)), (q2850, .inl (I .int, 40, .inl f2874)), (q2851, .inl (I .int, 200, .inl f2875)), (q2852, .inl (I .int, 200, .inl f2876)), (q2853, .inl (I .int, 200, .inl f2877)), (q2854, .inl (I .int, 200, .inl f2878)), (q2855, .inl (I .int, 200, .inl f2879)), (q2856, .inl (I .int, 200, .inl f2880)), (q2842, .inr (12, [.ref q2844, .ref q2845, .ref q2846, .ref q2847, .int p2858, .int p2859, .int p2860, .int p2861, .int p2862, .int p2863, .int p2864])), (q2844, .inl (I .int, 2048, .inl f2868)), (q2846, .inl (I .int, 100, .inl f2870)), (q2847, .inl (I .int, 512, .inl f2871)), (q2845, .inl (I .int, 100, .inl f3427))]) (cs' := 0) (sl' := 0) rfl rfl rfl ?_
            refine G_iload_n 5 d_cX7_step_298 rfl ?_
            refine G_iconst 1 d_cX7_step_299 (by decide +kernel) ?_
            refine G_iadd d_cX7_step_300 (G_nam fun z3429 hz3429 => ?_)
            have ez3429 : z3429.toInt = p2857.toInt + 1 := by rw [gI_add hz3429 bp2857 (gBl (show Int32.toInt 1 = 1 by decide)) (by decide) (by decide), show Int32.toInt 1 = 1 from by decide]
            have bz3429 : gB z3429 1 200 := gB_add (gI_add hz3429 bp2857 (gBl (show Int32.toInt 1 = 1 by decide)) (by decide) (by decide)) bp2857 (gBl (show Int32.toInt 1 = 1 by decide)) (by decide) (by decide)
            refine G_sub (ws' := [(q2842, .inr (12, [.ref q2844, .ref q2845, .ref q2846, .ref q2847, .int p2858, .int p2859, .int p2860, .int p2861, .int p2862, .int p2863, .int p2864])), (q2843, .inr (5, [.ref q2848, .ref q2849, .ref q2850, .ref q2851, .ref q2852, .ref q2853, .ref q2854, .ref q2855, .ref q2856, .int p2865, .int p2866, .int p2867])), (q2844, .inl (I .int, 2048, .inl f2868)), (q2845, .inl (I .int, 100, .inl f3427)), (q2846, .inl (I .int, 100, .inl f2870)), (q2847, .inl (I .int, 512, .inl f2871)), (q2848, .inl (I .int, 40, .inl f2872)), (q2849, .inl (I .int, 40, .inl f2873)), (q2850, .inl (I .int, 40, .inl f2874)), (q2851, .inl (I .int, 200, .inl f2875)), (q2852, .inl (I .int, 200, .inl f2876)), (q2853, .inl (I .int, 200, .inl f2877)), (q2854, .inl (I .int, 200, .inl f2878)), (q2855, .inl (I .int, 200, .inl f2879)), (q2856, .inl (I .int, 200, .inl f2880))]) [10, 0, 11, 14, 12, 13, 1, 2, 3, 4, 5, 6, 7, 8, 9] rfl rfl ?_
            exact G_iret d_cX7_step_301 rfl (Nat.le_of_ble_eq_true rfl) (Nat.le_of_ble_eq_true rfl) ⟨z3429, f3427, p2863, p2861, p2864, f2871, f2870, p2859, p2860, rfl, rfl, (gB_w bz3429 (by decide) (by decide)), bf3427, bp2863, bp2861, bp2864, (gF_any f2871), (gF_any f2870), bp2859, bp2860, (fun R c1 c2 c3 c4 c5 c6 c7 c8 c9 c10 c11 c12 c13 c14 c15 c16 c17 c18 c19 c20 c21 c22 c23 c24 c25 c26 c27 c28 c29 c30 c31 c32 c33 c34 c35 c36 c37 c38 => c18 z2882 z2883 z2884 z3346 z3347 z3353 z3424 o3425 f3427 z3429 hz2882 bz2882 hz2883 hz2884 r2915 ehs3272 ehs3277 ehs3285 ehs3296 ehs3318 ehs3323 ehs3329 ehs3343 hz3346 hz3347 r3357 r3416 r3421 r3423 hz3424 ht3426 ht3428 ez3429)⟩
          · have r3430 : z2882.toInt = 4 := gj_eq hc3422 (show Int32.toInt 4 = 4 by decide)
            have bz2882' : gB z2882 4 4 := ⟨by omega, by omega⟩
            refine G_aload_n 3 d_cX7_step_271 rfl ?_
            refine G_iconst 1 d_cX7_step_272 (by decide +kernel) ?_
            refine G_callV (As := [.int 1]) (wr := [(q2843, .inr (5, [.ref q2848, .ref q2849, .ref q2850, .ref q2851, .ref q2852, .ref q2853, .ref q2854, .ref q2855, .ref q2856, .int p2865, .int p2866, .int p2867])), (q2848, .inl (I .int, 40, .inl f2872)), (q2849, .inl (I .int, 40, .inl f2873)), (q2850, .inl (I .int, 40, .inl f2874)), (q2851, .inl (I .int, 200, .inl f2875)), (q2852, .inl (I .int, 200, .inl f2876)), (q2853, .inl (I .int, 200, .inl f2877)), (q2854, .inl (I .int, 200, .inl f2878)), (q2855, .inl (I .int, 200, .inl f2879)), (q2856, .inl (I .int, 200, .inl f2880))]) (gV_ok D I) (ct_2837_Machine_halt l hl0 D I q2842 q2844 q2845 q2846 q2847 1 p2858 p2859 p2860 p2861 p2862 p2863 p2864 f2868 f2869 f2870 f2871 bp2858 bp2859 bp2861 bp2863) d_cX7_step_273 ⟨w_6_86, w_1_12, w_6_89, by decide, rfl, (Nat.le_of_ble_eq_true rfl), (Nat.le_of_ble_eq_true rfl)⟩ w_6_88 w_p_60 10 rfl rfl [10, 11, 12, 13, 14] [0, 1, 2, 3, 4, 5, 6, 7, 8, 9] rfl rfl rfl rfl (by decide) (Nat.le_of_ble_eq_true rfl) (Nat.le_of_ble_eq_true rfl) (Nat.le_of_ble_eq_true rfl) (fun r w hp => ?_) (fun _ _ _ z => z.elim)
            obtain ⟨o3431, rfl, rfl, bo3431, ht3432⟩ := hp
            change G _ _ _ _ _ _ _ (.int (-1) :: _) _ _ _
            refine G_ws (ws' := [(q2843, .inr (5, [.ref q2848, .ref q2849, .ref q2850, .ref q2851, .ref q2852, .ref q2853, .ref q2854, .ref q2855, .ref q2856, .int p2865, .int p2866, .int p2867])), (q2848, .inl (I .int, 40, .inl f2872)), (q2849, .inl (I .int, 40, .inl f2873)), (q2850, .inl (I .int, 40, .inl f2874)), (q2851, .inl (I .int, 200, .inl f2875)), (q2852, .inl (I .int, 200, .inl f2876)), (q2853, .inl (I .int, 200, .inl f2877)), (q2854, .inl (I .int, 200, .inl f2878)), (q2855, .inl (I .int, 200, .inl f2879)), (q2856, .inl (I .int, 200, .inl f2880)), (q2842, .inr (12, [.ref q2844, .ref q2845, .ref q2846, .ref q2847, .int p2858, .int p2859, .int p2860, .int p2861, .int p2862, .int p2863, .int o3431])), (q2844, .inl (I .int, 2048, .inl f2868)), (q2845, .inl (I .int, 100, .inl f2869)), (q2846, .inl (I .int, 100, .inl f2870)), (q2847, .inl (I .int, 512, .inl f2871))]) (cs' := 0) (sl' := 0) rfl rfl rfl ?_
            refine G_sub (ws' := [(q2842, .inr (12, [.ref q2844, .ref q2845, .ref q2846, .ref q2847, .int p2858, .int p2859, .int p2860, .int p2861, .int p2862, .int p2863, .int o3431])), (q2843, .inr (5, [.ref q2848, .ref q2849, .ref q2850, .ref q2851, .ref q2852, .ref q2853, .ref q2854, .ref q2855, .ref q2856, .int p2865, .int p2866, .int p2867])), (q2844, .inl (I .int, 2048, .inl f2868)), (q2845, .inl (I .int, 100, .inl f2869)), (q2846, .inl (I .int, 100, .inl f2870)), (q2847, .inl (I .int, 512, .inl f2871)), (q2848, .inl (I .int, 40, .inl f2872)), (q2849, .inl (I .int, 40, .inl f2873)), (q2850, .inl (I .int, 40, .inl f2874)), (q2851, .inl (I .int, 200, .inl f2875)), (q2852, .inl (I .int, 200, .inl f2876)), (q2853, .inl (I .int, 200, .inl f2877)), (q2854, .inl (I .int, 200, .inl f2878)), (q2855, .inl (I .int, 200, .inl f2879)), (q2856, .inl (I .int, 200, .inl f2880))]) [10, 0, 11, 12, 13, 14, 1, 2, 3, 4, 5, 6, 7, 8, 9] rfl rfl ?_
            exact G_iret d_cX7_step_276 rfl (Nat.le_of_ble_eq_true rfl) (Nat.le_of_ble_eq_true rfl) ⟨(-1), f2869, p2863, p2861, o3431, f2871, f2870, p2859, p2860, rfl, rfl, (gB_w (gBl (show Int32.toInt (-1) = (-1) by decide)) (by decide) (by decide)), (gF_any f2869), bp2863, bp2861, bo3431, (gF_any f2871), (gF_any f2870), bp2859, bp2860, (fun R c1 c2 c3 c4 c5 c6 c7 c8 c9 c10 c11 c12 c13 c14 c15 c16 c17 c18 c19 c20 c21 c22 c23 c24 c25 c26 c27 c28 c29 c30 c31 c32 c33 c34 c35 c36 c37 c38 => c19 z2882 z2883 z2884 z3346 z3347 z3353 o3431 hz2882 bz2882 hz2883 hz2884 r2915 ehs3272 ehs3277 ehs3285 ehs3296 ehs3318 ehs3323 ehs3329 ehs3343 hz3346 hz3347 r3357 r3416 r3421 r3430 ht3432)⟩
  · have bz2883' : gB z2883 0 2147483647 := ⟨by omega, by omega⟩
    have bz2883'' : gB z2883 0 99 := ⟨by omega, by omega⟩
    change G _ _ _ _ _ _ _ (.int z2916 :: _) _ _ _
    refine G_ws (ws' := [(q2843, .inr (5, [.ref q2848, .ref q2849, .ref q2850, .ref q2851, .ref q2852, .ref q2853, .ref q2854, .ref q2855, .ref q2856, .int p2865, .int p2866, .int p2867])), (q2848, .inl (I .int, 40, .inl f2872)), (q2849, .inl (I .int, 40, .inl f2873)), (q2850, .inl (I .int, 40, .inl f2874)), (q2851, .inl (I .int, 200, .inl f2875)), (q2852, .inl (I .int, 200, .inl f2876)), (q2853, .inl (I .int, 200, .inl f2877)), (q2854, .inl (I .int, 200, .inl f2878)), (q2855, .inl (I .int, 200, .inl f2879)), (q2856, .inl (I .int, 200, .inl f2880)), (q2842, .inr (12, [.ref q2844, .ref q2845, .ref q2846, .ref q2847, .int p2858, .int p2859, .int p2860, .int p2861, .int p2862, .int p2863, .int p2864])), (q2844, .inl (I .int, 2048, .inl f2868)), (q2845, .inl (I .int, 100, .inl f2869)), (q2846, .inl (I .int, 100, .inl f2870)), (q2847, .inl (I .int, 512, .inl f2871))]) (cs' := 0) (sl' := 0) rfl rfl rfl ?_
    refine G_istore (L' := [(4, .int z2916), (3, .int z2882), (0, .ref q2842), (1, .ref q2843), (2, .int p2857)]) d_cX7_step_23 (Nat.le_of_ble_eq_true rfl) rfl ?_
    refine G_iload_n 1 d_cX7_step_25 rfl ?_
    by_cases hs3433 : z2882 = 14
    · have ehs3433 : z2882.toInt = 14 := gj_eq hs3433 (show Int32.toInt 14 = 14 by decide)
      have bz2882' : gB z2882 14 14 := ⟨by omega, by omega⟩
      refine G_eqi (y := 14) hs3433 ?_
      refine G_tableIn 198 d_cX7_step_26 (by decide) (by decide) (by first | rfl | decide) (by decide) ?_
      refine G_aload_n 2 d_cX7_step_198 rfl ?_
      refine G_getf 10 1 d_cX7_step_199 rfl (gk_X7 D I) (Nat.le_of_ble_eq_true rfl) w_2_161 rfl ?_
      refine G_aload_n 3 d_cX7_step_202 rfl ?_
      refine G_getfN 0 4 d_cX7_step_203 rfl (gk_X0 D I) (Nat.le_of_ble_eq_true rfl) (fun _ _ _ h => gn_w 20 rfl h) rfl ?_
      refine G_iload_n 4 d_cX7_step_206 rfl ?_
      refine G_iald 5 0 d_cX7_step_207 rfl rfl (gB_in bp2857 (by decide) (by decide)) (G_nam fun z3434 hz3434 => ?_)
      have bz3434 : gB z3434 (-2147483648) 2147483647 := gB_any z3434
      refine G_iload 0 d_cX7_step_208 rfl ?_
      refine G_callS (As := [.ref q2845, .int z3434, .int z2916]) (wr := [(q2843, .inr (5, [.ref q2848, .ref q2849, .ref q2850, .ref q2851, .ref q2852, .ref q2853, .ref q2854, .ref q2855, .ref q2856, .int p2865, .int p2866, .int p2867])), (q2848, .inl (I .int, 40, .inl f2872)), (q2849, .inl (I .int, 40, .inl f2873)), (q2850, .inl (I .int, 40, .inl f2874)), (q2851, .inl (I .int, 200, .inl f2875)), (q2852, .inl (I .int, 200, .inl f2876)), (q2853, .inl (I .int, 200, .inl f2877)), (q2854, .inl (I .int, 200, .inl f2878)), (q2855, .inl (I .int, 200, .inl f2879)), (q2856, .inl (I .int, 200, .inl f2880)), (q2842, .inr (12, [.ref q2844, .ref q2845, .ref q2846, .ref q2847, .int p2858, .int p2859, .int p2860, .int p2861, .int p2862, .int p2863, .int p2864])), (q2844, .inl (I .int, 2048, .inl f2868)), (q2846, .inl (I .int, 100, .inl f2870)), (q2847, .inl (I .int, 512, .inl f2871))]) (gV_ok D I) (ct_2927_Machine_put l hl0 D I q2845 z3434 z2916 f2869 ) d_cX7_step_210 ⟨w_6_94, w_1_12, w_6_96, by decide, rfl, (Nat.le_of_ble_eq_true rfl), (Nat.le_of_ble_eq_true rfl)⟩ w_6_95 [12] [0, 1, 2, 3, 4, 5, 6, 7, 8, 9, 10, 11, 13, 14] rfl rfl rfl rfl (by decide) (Nat.le_of_ble_eq_true rfl) (Nat.le_of_ble_eq_true rfl) (Nat.le_of_ble_eq_true rfl) (fun r w hp => ?_) (fun _ _ _ z => z.elim)
      obtain ⟨f3435, rfl, rfl, bf3435, ht3436⟩ := hp
      change G _ _ _ _ _ _ _ _ _ _ _
      refine G_ws (ws' := [(q2843, .inr (5, [.ref q2848, .ref q2849, .ref q2850, .ref q2851, .ref q2852, .ref q2853, .ref q2854, .ref q2855, .ref q2856, .int p2865, .int p2866, .int p2867])), (q2848, .inl (I .int, 40, .inl f2872)), (q2849, .inl (I .int, 40, .inl f2873)), (q2850, .inl (I .int, 40, .inl f2874)), (q2851, .inl (I .int, 200, .inl f2875)), (q2852, .inl (I .int, 200, .inl f2876)), (q2853, .inl (I .int, 200, .inl f2877)), (q2854, .inl (I .int, 200, .inl f2878)), (q2855, .inl (I .int, 200, .inl f2879)), (q2856, .inl (I .int, 200, .inl f2880)), (q2842, .inr (12, [.ref q2844, .ref q2845, .ref q2846, .ref q2847, .int p2858, .int p2859, .int p2860, .int p2861, .int p2862, .int p2863, .int p2864])), (q2844, .inl (I .int, 2048, .inl f2868)), (q2846, .inl (I .int, 100, .inl f2870)), (q2847, .inl (I .int, 512, .inl f2871)), (q2845, .inl (I .int, 100, .inl f3435))]) (cs' := 0) (sl' := 0) rfl rfl rfl ?_
      refine G_iload_n 4 d_cX7_step_213 rfl ?_
      refine G_iconst 1 d_cX7_step_214 (by decide +kernel) ?_
      refine G_iadd d_cX7_step_215 (G_nam fun z3437 hz3437 => ?_)
      have ez3437 : z3437.toInt = p2857.toInt + 1 := by rw [gI_add hz3437 bp2857 (gBl (show Int32.toInt 1 = 1 by decide)) (by decide) (by decide), show Int32.toInt 1 = 1 from by decide]
      have bz3437 : gB z3437 1 200 := gB_add (gI_add hz3437 bp2857 (gBl (show Int32.toInt 1 = 1 by decide)) (by decide) (by decide)) bp2857 (gBl (show Int32.toInt 1 = 1 by decide)) (by decide) (by decide)
      refine G_sub (ws' := [(q2842, .inr (12, [.ref q2844, .ref q2845, .ref q2846, .ref q2847, .int p2858, .int p2859, .int p2860, .int p2861, .int p2862, .int p2863, .int p2864])), (q2843, .inr (5, [.ref q2848, .ref q2849, .ref q2850, .ref q2851, .ref q2852, .ref q2853, .ref q2854, .ref q2855, .ref q2856, .int p2865, .int p2866, .int p2867])), (q2844, .inl (I .int, 2048, .inl f2868)), (q2845, .inl (I .int, 100, .inl f3435)), (q2846, .inl (I .int, 100, .inl f2870)), (q2847, .inl (I .int, 512, .inl f2871)), (q2848, .inl (I .int, 40, .inl f2872)), (q2849, .inl (I .int, 40, .inl f2873)), (q2850, .inl (I .int, 40, .inl f2874)), (q2851, .inl (I .int, 200, .inl f2875)), (q2852, .inl (I .int, 200, .inl f2876)), (q2853, .inl (I .int, 200, .inl f2877)), (q2854, .inl (I .int, 200, .inl f2878)), (q2855, .inl (I .int, 200, .inl f2879)), (q2856, .inl (I .int, 200, .inl f2880))]) [10, 0, 11, 14, 12, 13, 1, 2, 3, 4, 5, 6, 7, 8, 9] rfl rfl ?_
      exact G_iret d_cX7_step_216 rfl (Nat.le_of_ble_eq_true rfl) (Nat.le_of_ble_eq_true rfl) ⟨z3437, f3435, p2863, p2861, p2864, f2871, f2870, p2859, p2860, rfl, rfl, (gB_w bz3437 (by decide) (by decide)), bf3435, bp2863, bp2861, bp2864, (gF_any f2871), (gF_any f2870), bp2859, bp2860, (fun R c1 c2 c3 c4 c5 c6 c7 c8 c9 c10 c11 c12 c13 c14 c15 c16 c17 c18 c19 c20 c21 c22 c23 c24 c25 c26 c27 c28 c29 c30 c31 c32 c33 c34 c35 c36 c37 c38 => c20 z2882 z2883 z2884 z2916 z3434 f3435 z3437 hz2882 bz2882 hz2883 hz2884 r2920 ehs3433 hz3434 ht3436 ez3437)⟩
    by_cases hs3438 : z2882 = 15
    · have ehs3438 : z2882.toInt = 15 := gj_eq hs3438 (show Int32.toInt 15 = 15 by decide)
      have bz2882' : gB z2882 15 15 := ⟨by omega, by omega⟩
      refine G_eqi (y := 15) hs3438 ?_
      refine G_tableIn 217 d_cX7_step_26 (by decide) (by decide) (by first | rfl | decide) (by decide) ?_
      refine G_aload_n 2 d_cX7_step_217 rfl ?_
      refine G_getf 10 1 d_cX7_step_218 rfl (gk_X7 D I) (Nat.le_of_ble_eq_true rfl) w_2_161 rfl ?_
      refine G_aload_n 3 d_cX7_step_221 rfl ?_
      refine G_getfN 0 4 d_cX7_step_222 rfl (gk_X0 D I) (Nat.le_of_ble_eq_true rfl) (fun _ _ _ h => gn_w 20 rfl h) rfl ?_
      refine G_iload_n 4 d_cX7_step_225 rfl ?_
      refine G_iald 5 0 d_cX7_step_226 rfl rfl (gB_in bp2857 (by decide) (by decide)) (G_nam fun z3439 hz3439 => ?_)
      have bz3439 : gB z3439 (-2147483648) 2147483647 := gB_any z3439
      refine G_aload_n 2 d_cX7_step_227 rfl ?_
      refine G_callV (As := []) (wr := [(q2843, .inr (5, [.ref q2848, .ref q2849, .ref q2850, .ref q2851, .ref q2852, .ref q2853, .ref q2854, .ref q2855, .ref q2856, .int p2865, .int p2866, .int p2867])), (q2848, .inl (I .int, 40, .inl f2872)), (q2849, .inl (I .int, 40, .inl f2873)), (q2850, .inl (I .int, 40, .inl f2874)), (q2851, .inl (I .int, 200, .inl f2875)), (q2852, .inl (I .int, 200, .inl f2876)), (q2853, .inl (I .int, 200, .inl f2877)), (q2854, .inl (I .int, 200, .inl f2878)), (q2855, .inl (I .int, 200, .inl f2879)), (q2856, .inl (I .int, 200, .inl f2880))]) (gV_ok D I) (ct_2957_Machine_takeNext l hl0 D I q2842 q2844 q2845 q2846 q2847 p2858 p2859 p2860 p2861 p2862 p2863 p2864 f2868 f2869 f2870 f2871 bp2858 bp2859 bp2861 bp2863) d_cX7_step_228 ⟨w_6_101, w_1_12, w_6_104, by decide, rfl, (Nat.le_of_ble_eq_true rfl), (Nat.le_of_ble_eq_true rfl)⟩ w_6_103 w_p_63 10 rfl rfl [10, 11, 12, 13, 14] [0, 1, 2, 3, 4, 5, 6, 7, 8, 9] rfl rfl rfl rfl (by decide) (Nat.le_of_ble_eq_true rfl) (Nat.le_of_ble_eq_true rfl) (Nat.le_of_ble_eq_true rfl) (fun r w hp => ?_) (fun _ _ _ z => z.elim)
      obtain ⟨o3440, o3441, rfl, rfl, bo3440, bo3441, ht3442⟩ := hp
      change G _ _ _ _ _ _ _ (.int o3440 :: _) _ _ _
      refine G_ws (ws' := [(q2843, .inr (5, [.ref q2848, .ref q2849, .ref q2850, .ref q2851, .ref q2852, .ref q2853, .ref q2854, .ref q2855, .ref q2856, .int p2865, .int p2866, .int p2867])), (q2848, .inl (I .int, 40, .inl f2872)), (q2849, .inl (I .int, 40, .inl f2873)), (q2850, .inl (I .int, 40, .inl f2874)), (q2851, .inl (I .int, 200, .inl f2875)), (q2852, .inl (I .int, 200, .inl f2876)), (q2853, .inl (I .int, 200, .inl f2877)), (q2854, .inl (I .int, 200, .inl f2878)), (q2855, .inl (I .int, 200, .inl f2879)), (q2856, .inl (I .int, 200, .inl f2880)), (q2842, .inr (12, [.ref q2844, .ref q2845, .ref q2846, .ref q2847, .int p2858, .int p2859, .int p2860, .int p2861, .int p2862, .int o3441, .int p2864])), (q2844, .inl (I .int, 2048, .inl f2868)), (q2845, .inl (I .int, 100, .inl f2869)), (q2846, .inl (I .int, 100, .inl f2870)), (q2847, .inl (I .int, 512, .inl f2871))]) (cs' := 0) (sl' := 0) rfl rfl rfl ?_
      refine G_callS (As := [.ref q2845, .int z3439, .int o3440]) (wr := [(q2843, .inr (5, [.ref q2848, .ref q2849, .ref q2850, .ref q2851, .ref q2852, .ref q2853, .ref q2854, .ref q2855, .ref q2856, .int p2865, .int p2866, .int p2867])), (q2848, .inl (I .int, 40, .inl f2872)), (q2849, .inl (I .int, 40, .inl f2873)), (q2850, .inl (I .int, 40, .inl f2874)), (q2851, .inl (I .int, 200, .inl f2875)), (q2852, .inl (I .int, 200, .inl f2876)), (q2853, .inl (I .int, 200, .inl f2877)), (q2854, .inl (I .int, 200, .inl f2878)), (q2855, .inl (I .int, 200, .inl f2879)), (q2856, .inl (I .int, 200, .inl f2880)), (q2842, .inr (12, [.ref q2844, .ref q2845, .ref q2846, .ref q2847, .int p2858, .int p2859, .int p2860, .int p2861, .int p2862, .int o3441, .int p2864])), (q2844, .inl (I .int, 2048, .inl f2868)), (q2846, .inl (I .int, 100, .inl f2870)), (q2847, .inl (I .int, 512, .inl f2871))]) (gV_ok D I) (ct_2927_Machine_put l hl0 D I q2845 z3439 o3440 f2869 ) d_cX7_step_231 ⟨w_6_94, w_1_12, w_6_96, by decide, rfl, (Nat.le_of_ble_eq_true rfl), (Nat.le_of_ble_eq_true rfl)⟩ w_6_95 [12] [0, 1, 2, 3, 4, 5, 6, 7, 8, 9, 10, 11, 13, 14] rfl rfl rfl rfl (by decide) (Nat.le_of_ble_eq_true rfl) (Nat.le_of_ble_eq_true rfl) (Nat.le_of_ble_eq_true rfl) (fun r w hp => ?_) (fun _ _ _ z => z.elim)
      obtain ⟨f3443, rfl, rfl, bf3443, ht3444⟩ := hp
      change G _ _ _ _ _ _ _ _ _ _ _
      refine G_ws (ws' := [(q2843, .inr (5, [.ref q2848, .ref q2849, .ref q2850, .ref q2851, .ref q2852, .ref q2853, .ref q2854, .ref q2855, .ref q2856, .int p2865, .int p2866, .int p2867])), (q2848, .inl (I .int, 40, .inl f2872)), (q2849, .inl (I .int, 40, .inl f2873)), (q2850, .inl (I .int, 40, .inl f2874)), (q2851, .inl (I .int, 200, .inl f2875)), (q2852, .inl (I .int, 200, .inl f2876)), (q2853, .inl (I .int, 200, .inl f2877)), (q2854, .inl (I .int, 200, .inl f2878)), (q2855, .inl (I .int, 200, .inl f2879)), (q2856, .inl (I .int, 200, .inl f2880)), (q2842, .inr (12, [.ref q2844, .ref q2845, .ref q2846, .ref q2847, .int p2858, .int p2859, .int p2860, .int p2861, .int p2862, .int o3441, .int p2864])), (q2844, .inl (I .int, 2048, .inl f2868)), (q2846, .inl (I .int, 100, .inl f2870)), (q2847, .inl (I .int, 512, .inl f2871)), (q2845, .inl (I .int, 100, .inl f3443))]) (cs' := 0) (sl' := 0) rfl rfl rfl ?_
      refine G_iload_n 4 d_cX7_step_234 rfl ?_
      refine G_iconst 1 d_cX7_step_235 (by decide +kernel) ?_
      refine G_iadd d_cX7_step_236 (G_nam fun z3445 hz3445 => ?_)
      have ez3445 : z3445.toInt = p2857.toInt + 1 := by rw [gI_add hz3445 bp2857 (gBl (show Int32.toInt 1 = 1 by decide)) (by decide) (by decide), show Int32.toInt 1 = 1 from by decide]
      have bz3445 : gB z3445 1 200 := gB_add (gI_add hz3445 bp2857 (gBl (show Int32.toInt 1 = 1 by decide)) (by decide) (by decide)) bp2857 (gBl (show Int32.toInt 1 = 1 by decide)) (by decide) (by decide)
      refine G_sub (ws' := [(q2842, .inr (12, [.ref q2844, .ref q2845, .ref q2846, .ref q2847, .int p2858, .int p2859, .int p2860, .int p2861, .int p2862, .int o3441, .int p2864])), (q2843, .inr (5, [.ref q2848, .ref q2849, .ref q2850, .ref q2851, .ref q2852, .ref q2853, .ref q2854, .ref q2855, .ref q2856, .int p2865, .int p2866, .int p2867])), (q2844, .inl (I .int, 2048, .inl f2868)), (q2845, .inl (I .int, 100, .inl f3443)), (q2846, .inl (I .int, 100, .inl f2870)), (q2847, .inl (I .int, 512, .inl f2871)), (q2848, .inl (I .int, 40, .inl f2872)), (q2849, .inl (I .int, 40, .inl f2873)), (q2850, .inl (I .int, 40, .inl f2874)), (q2851, .inl (I .int, 200, .inl f2875)), (q2852, .inl (I .int, 200, .inl f2876)), (q2853, .inl (I .int, 200, .inl f2877)), (q2854, .inl (I .int, 200, .inl f2878)), (q2855, .inl (I .int, 200, .inl f2879)), (q2856, .inl (I .int, 200, .inl f2880))]) [10, 0, 11, 14, 12, 13, 1, 2, 3, 4, 5, 6, 7, 8, 9] rfl rfl ?_
      exact G_iret d_cX7_step_237 rfl (Nat.le_of_ble_eq_true rfl) (Nat.le_of_ble_eq_true rfl) ⟨z3445, f3443, o3441, p2861, p2864, f2871, f2870, p2859, p2860, rfl, rfl, (gB_w bz3445 (by decide) (by decide)), bf3443, bo3441, bp2861, bp2864, (gF_any f2871), (gF_any f2870), bp2859, bp2860, (fun R c1 c2 c3 c4 c5 c6 c7 c8 c9 c10 c11 c12 c13 c14 c15 c16 c17 c18 c19 c20 c21 c22 c23 c24 c25 c26 c27 c28 c29 c30 c31 c32 c33 c34 c35 c36 c37 c38 => c21 z2882 z2883 z2884 z2916 z3439 o3440 o3441 f3443 z3445 hz2882 bz2882 hz2883 hz2884 r2920 ehs3438 hz3439 bo3441 ht3442 ht3444 ez3445)⟩
    by_cases hs3446 : z2882 = 16
    · have ehs3446 : z2882.toInt = 16 := gj_eq hs3446 (show Int32.toInt 16 = 16 by decide)
      have bz2882' : gB z2882 16 16 := ⟨by omega, by omega⟩
      refine G_eqi (y := 16) hs3446 ?_
      refine G_tableIn 131 d_cX7_step_26 (by decide) (by decide) (by first | rfl | decide) (by decide) ?_
      refine G_aload_n 2 d_cX7_step_131 rfl ?_
      refine G_iload 0 d_cX7_step_132 rfl ?_
      refine G_callV (As := [.int z2916]) (wr := [(q2843, .inr (5, [.ref q2848, .ref q2849, .ref q2850, .ref q2851, .ref q2852, .ref q2853, .ref q2854, .ref q2855, .ref q2856, .int p2865, .int p2866, .int p2867])), (q2848, .inl (I .int, 40, .inl f2872)), (q2849, .inl (I .int, 40, .inl f2873)), (q2850, .inl (I .int, 40, .inl f2874)), (q2851, .inl (I .int, 200, .inl f2875)), (q2852, .inl (I .int, 200, .inl f2876)), (q2853, .inl (I .int, 200, .inl f2877)), (q2854, .inl (I .int, 200, .inl f2878)), (q2855, .inl (I .int, 200, .inl f2879)), (q2856, .inl (I .int, 200, .inl f2880))]) (gV_ok D I) (ct_2990_Machine_addShow l hl0 D I q2842 q2844 q2845 q2846 q2847 z2916 p2858 p2859 p2860 p2861 p2862 p2863 p2864 f2868 f2869 f2870 f2871 bp2858 bp2859 bp2861 bp2863) d_cX7_step_134 ⟨w_6_90, w_1_12, w_6_93, by decide, rfl, (Nat.le_of_ble_eq_true rfl), (Nat.le_of_ble_eq_true rfl)⟩ w_6_92 w_p_61 10 rfl rfl [10, 11, 12, 13, 14] [0, 1, 2, 3, 4, 5, 6, 7, 8, 9] rfl rfl rfl rfl (by decide) (Nat.le_of_ble_eq_true rfl) (Nat.le_of_ble_eq_true rfl) (Nat.le_of_ble_eq_true rfl) (fun r w hp => ?_) (fun _ _ _ z => z.elim)
      obtain ⟨o3447, o3448, f3449, rfl, rfl, bo3447, bo3448, bf3449, ht3450⟩ := hp
      change G _ _ _ _ _ _ _ (.int o3447 :: _) _ _ _
      refine G_ws (ws' := [(q2843, .inr (5, [.ref q2848, .ref q2849, .ref q2850, .ref q2851, .ref q2852, .ref q2853, .ref q2854, .ref q2855, .ref q2856, .int p2865, .int p2866, .int p2867])), (q2848, .inl (I .int, 40, .inl f2872)), (q2849, .inl (I .int, 40, .inl f2873)), (q2850, .inl (I .int, 40, .inl f2874)), (q2851, .inl (I .int, 200, .inl f2875)), (q2852, .inl (I .int, 200, .inl f2876)), (q2853, .inl (I .int, 200, .inl f2877)), (q2854, .inl (I .int, 200, .inl f2878)), (q2855, .inl (I .int, 200, .inl f2879)), (q2856, .inl (I .int, 200, .inl f2880)), (q2842, .inr (12, [.ref q2844, .ref q2845, .ref q2846, .ref q2847, .int p2858, .int p2859, .int p2860, .int o3448, .int p2862, .int p2863, .int p2864])), (q2844, .inl (I .int, 2048, .inl f2868)), (q2845, .inl (I .int, 100, .inl f2869)), (q2846, .inl (I .int, 100, .inl f2870)), (q2847, .inl (I .int, 512, .inl f3449))]) (cs' := 0) (sl' := 0) rfl rfl rfl ?_
      refine G_if_eq 146 d_cX7_step_137 (by decide +kernel) (fun hc3451 => ?_) (fun hc3451 => ?_)
      · have r3452 : o3447.toInt = 0 := gj_eq hc3451 (show Int32.toInt 0 = 0 by decide)
        have bo3447' : gB o3447 0 0 := ⟨by omega, by omega⟩
        refine G_aload_n 2 d_cX7_step_146 rfl ?_
        refine G_iconst 5 d_cX7_step_147 (by decide +kernel) ?_
        refine G_callV (As := [.int 5]) (wr := [(q2843, .inr (5, [.ref q2848, .ref q2849, .ref q2850, .ref q2851, .ref q2852, .ref q2853, .ref q2854, .ref q2855, .ref q2856, .int p2865, .int p2866, .int p2867])), (q2848, .inl (I .int, 40, .inl f2872)), (q2849, .inl (I .int, 40, .inl f2873)), (q2850, .inl (I .int, 40, .inl f2874)), (q2851, .inl (I .int, 200, .inl f2875)), (q2852, .inl (I .int, 200, .inl f2876)), (q2853, .inl (I .int, 200, .inl f2877)), (q2854, .inl (I .int, 200, .inl f2878)), (q2855, .inl (I .int, 200, .inl f2879)), (q2856, .inl (I .int, 200, .inl f2880))]) (gV_ok D I) (ct_2837_Machine_halt l hl0 D I q2842 q2844 q2845 q2846 q2847 5 p2858 p2859 p2860 o3448 p2862 p2863 p2864 f2868 f2869 f2870 f3449 bp2858 bp2859 (gB_w bo3448 (by decide) (by decide)) bp2863) d_cX7_step_148 ⟨w_6_86, w_1_12, w_6_89, by decide, rfl, (Nat.le_of_ble_eq_true rfl), (Nat.le_of_ble_eq_true rfl)⟩ w_6_88 w_p_60 10 rfl rfl [10, 11, 12, 13, 14] [0, 1, 2, 3, 4, 5, 6, 7, 8, 9] rfl rfl rfl rfl (by decide) (Nat.le_of_ble_eq_true rfl) (Nat.le_of_ble_eq_true rfl) (Nat.le_of_ble_eq_true rfl) (fun r w hp => ?_) (fun _ _ _ z => z.elim)
        obtain ⟨o3453, rfl, rfl, bo3453, ht3454⟩ := hp
        change G _ _ _ _ _ _ _ (.int (-1) :: _) _ _ _
        refine G_ws (ws' := [(q2843, .inr (5, [.ref q2848, .ref q2849, .ref q2850, .ref q2851, .ref q2852, .ref q2853, .ref q2854, .ref q2855, .ref q2856, .int p2865, .int p2866, .int p2867])), (q2848, .inl (I .int, 40, .inl f2872)), (q2849, .inl (I .int, 40, .inl f2873)), (q2850, .inl (I .int, 40, .inl f2874)), (q2851, .inl (I .int, 200, .inl f2875)), (q2852, .inl (I .int, 200, .inl f2876)), (q2853, .inl (I .int, 200, .inl f2877)), (q2854, .inl (I .int, 200, .inl f2878)), (q2855, .inl (I .int, 200, .inl f2879)), (q2856, .inl (I .int, 200, .inl f2880)), (q2842, .inr (12, [.ref q2844, .ref q2845, .ref q2846, .ref q2847, .int p2858, .int p2859, .int p2860, .int o3448, .int p2862, .int p2863, .int o3453])), (q2844, .inl (I .int, 2048, .inl f2868)), (q2845, .inl (I .int, 100, .inl f2869)), (q2846, .inl (I .int, 100, .inl f2870)), (q2847, .inl (I .int, 512, .inl f3449))]) (cs' := 0) (sl' := 0) rfl rfl rfl ?_
        refine G_sub (ws' := [(q2842, .inr (12, [.ref q2844, .ref q2845, .ref q2846, .ref q2847, .int p2858, .int p2859, .int p2860, .int o3448, .int p2862, .int p2863, .int o3453])), (q2843, .inr (5, [.ref q2848, .ref q2849, .ref q2850, .ref q2851, .ref q2852, .ref q2853, .ref q2854, .ref q2855, .ref q2856, .int p2865, .int p2866, .int p2867])), (q2844, .inl (I .int, 2048, .inl f2868)), (q2845, .inl (I .int, 100, .inl f2869)), (q2846, .inl (I .int, 100, .inl f2870)), (q2847, .inl (I .int, 512, .inl f3449)), (q2848, .inl (I .int, 40, .inl f2872)), (q2849, .inl (I .int, 40, .inl f2873)), (q2850, .inl (I .int, 40, .inl f2874)), (q2851, .inl (I .int, 200, .inl f2875)), (q2852, .inl (I .int, 200, .inl f2876)), (q2853, .inl (I .int, 200, .inl f2877)), (q2854, .inl (I .int, 200, .inl f2878)), (q2855, .inl (I .int, 200, .inl f2879)), (q2856, .inl (I .int, 200, .inl f2880))]) [10, 0, 11, 12, 13, 14, 1, 2, 3, 4, 5, 6, 7, 8, 9] rfl rfl ?_
        exact G_iret d_cX7_step_151 rfl (Nat.le_of_ble_eq_true rfl) (Nat.le_of_ble_eq_true rfl) ⟨(-1), f2869, p2863, o3448, o3453, f3449, f2870, p2859, p2860, rfl, rfl, (gB_w (gBl (show Int32.toInt (-1) = (-1) by decide)) (by decide) (by decide)), (gF_any f2869), bp2863, (gB_w bo3448 (by decide) (by decide)), bo3453, bf3449, (gF_any f2870), bp2859, bp2860, (fun R c1 c2 c3 c4 c5 c6 c7 c8 c9 c10 c11 c12 c13 c14 c15 c16 c17 c18 c19 c20 c21 c22 c23 c24 c25 c26 c27 c28 c29 c30 c31 c32 c33 c34 c35 c36 c37 c38 => c22 z2882 z2883 z2884 z2916 o3447 o3448 f3449 o3453 hz2882 bz2882 hz2883 hz2884 r2920 ehs3446 bo3447 bo3448 ht3450 r3452 ht3454)⟩
      · have r3455 : o3447.toInt ≠ 0 := gj_neq hc3451 (show Int32.toInt 0 = 0 by decide)
        have bo3447' : gB o3447 1 1 := ⟨by omega, by omega⟩
        refine G_iload_n 4 d_cX7_step_140 rfl ?_
        refine G_iconst 1 d_cX7_step_141 (by decide +kernel) ?_
        refine G_iadd d_cX7_step_142 (G_nam fun z3456 hz3456 => ?_)
        have ez3456 : z3456.toInt = p2857.toInt + 1 := by rw [gI_add hz3456 bp2857 (gBl (show Int32.toInt 1 = 1 by decide)) (by decide) (by decide), show Int32.toInt 1 = 1 from by decide]
        have bz3456 : gB z3456 1 200 := gB_add (gI_add hz3456 bp2857 (gBl (show Int32.toInt 1 = 1 by decide)) (by decide) (by decide)) bp2857 (gBl (show Int32.toInt 1 = 1 by decide)) (by decide) (by decide)
        refine G_goto 151 d_cX7_step_143 (by decide +kernel) ?_
        refine G_sub (ws' := [(q2842, .inr (12, [.ref q2844, .ref q2845, .ref q2846, .ref q2847, .int p2858, .int p2859, .int p2860, .int o3448, .int p2862, .int p2863, .int p2864])), (q2843, .inr (5, [.ref q2848, .ref q2849, .ref q2850, .ref q2851, .ref q2852, .ref q2853, .ref q2854, .ref q2855, .ref q2856, .int p2865, .int p2866, .int p2867])), (q2844, .inl (I .int, 2048, .inl f2868)), (q2845, .inl (I .int, 100, .inl f2869)), (q2846, .inl (I .int, 100, .inl f2870)), (q2847, .inl (I .int, 512, .inl f3449)), (q2848, .inl (I .int, 40, .inl f2872)), (q2849, .inl (I .int, 40, .inl f2873)), (q2850, .inl (I .int, 40, .inl f2874)), (q2851, .inl (I .int, 200, .inl f2875)), (q2852, .inl (I .int, 200, .inl f2876)), (q2853, .inl (I .int, 200, .inl f2877)), (q2854, .inl (I .int, 200, .inl f2878)), (q2855, .inl (I .int, 200, .inl f2879)), (q2856, .inl (I .int, 200, .inl f2880))]) [10, 0, 11, 12, 13, 14, 1, 2, 3, 4, 5, 6, 7, 8, 9] rfl rfl ?_
        exact G_iret d_cX7_step_151 rfl (Nat.le_of_ble_eq_true rfl) (Nat.le_of_ble_eq_true rfl) ⟨z3456, f2869, p2863, o3448, p2864, f3449, f2870, p2859, p2860, rfl, rfl, (gB_w bz3456 (by decide) (by decide)), (gF_any f2869), bp2863, (gB_w bo3448 (by decide) (by decide)), bp2864, bf3449, (gF_any f2870), bp2859, bp2860, (fun R c1 c2 c3 c4 c5 c6 c7 c8 c9 c10 c11 c12 c13 c14 c15 c16 c17 c18 c19 c20 c21 c22 c23 c24 c25 c26 c27 c28 c29 c30 c31 c32 c33 c34 c35 c36 c37 c38 => c23 z2882 z2883 z2884 z2916 o3447 o3448 f3449 z3456 hz2882 bz2882 hz2883 hz2884 r2920 ehs3446 bo3447 bo3448 ht3450 r3455 ez3456)⟩
    by_cases hs3457 : z2882 = 17
    · have ehs3457 : z2882.toInt = 17 := gj_eq hs3457 (show Int32.toInt 17 = 17 by decide)
      have bz2882' : gB z2882 17 17 := ⟨by omega, by omega⟩
      refine G_eqi (y := 17) hs3457 ?_
      refine G_tableIn 171 d_cX7_step_26 (by decide) (by decide) (by first | rfl | decide) (by decide) ?_
      refine G_aload_n 2 d_cX7_step_171 rfl ?_
      refine G_getf 10 1 d_cX7_step_172 rfl (gk_X7 D I) (Nat.le_of_ble_eq_true rfl) w_2_161 rfl ?_
      refine G_aload_n 3 d_cX7_step_175 rfl ?_
      refine G_getfN 0 4 d_cX7_step_176 rfl (gk_X0 D I) (Nat.le_of_ble_eq_true rfl) (fun _ _ _ h => gn_w 20 rfl h) rfl ?_
      refine G_iload_n 4 d_cX7_step_179 rfl ?_
      refine G_iald 5 0 d_cX7_step_180 rfl rfl (gB_in bp2857 (by decide) (by decide)) (G_nam fun z3458 hz3458 => ?_)
      have bz3458 : gB z3458 (-2147483648) 2147483647 := gB_any z3458
      refine G_aload_n 2 d_cX7_step_181 rfl ?_
      refine G_aload_n 3 d_cX7_step_182 rfl ?_
      refine G_getfN 0 8 d_cX7_step_183 rfl (gk_X0 D I) (Nat.le_of_ble_eq_true rfl) (fun _ _ _ h => gn_w 35 rfl h) rfl ?_
      refine G_iload_n 4 d_cX7_step_186 rfl ?_
      refine G_iald 9 0 d_cX7_step_187 rfl rfl (gB_in bp2857 (by decide) (by decide)) (G_nam fun z3459 hz3459 => ?_)
      have bz3459 : gB z3459 (-2147483648) 2147483647 := gB_any z3459
      refine G_callV (As := [.int z3459]) (wr := [(q2843, .inr (5, [.ref q2848, .ref q2849, .ref q2850, .ref q2851, .ref q2852, .ref q2853, .ref q2854, .ref q2855, .ref q2856, .int p2865, .int p2866, .int p2867])), (q2848, .inl (I .int, 40, .inl f2872)), (q2849, .inl (I .int, 40, .inl f2873)), (q2850, .inl (I .int, 40, .inl f2874)), (q2851, .inl (I .int, 200, .inl f2875)), (q2852, .inl (I .int, 200, .inl f2876)), (q2853, .inl (I .int, 200, .inl f2877)), (q2854, .inl (I .int, 200, .inl f2878)), (q2855, .inl (I .int, 200, .inl f2879)), (q2856, .inl (I .int, 200, .inl f2880))]) (gV_ok D I) (ct_3029_Machine_slotAt l hl0 D I q2842 q2844 q2845 q2846 q2847 z3459 p2858 p2859 p2860 p2861 p2862 p2863 p2864 f2868 f2869 f2870 f2871 bp2858 bp2859 bp2861 bp2863) d_cX7_step_188 ⟨w_6_97, w_1_12, w_6_100, by decide, rfl, (Nat.le_of_ble_eq_true rfl), (Nat.le_of_ble_eq_true rfl)⟩ w_6_99 w_p_62 10 rfl rfl [10, 11, 12, 13, 14] [0, 1, 2, 3, 4, 5, 6, 7, 8, 9] rfl rfl rfl rfl (by decide) (Nat.le_of_ble_eq_true rfl) (Nat.le_of_ble_eq_true rfl) (Nat.le_of_ble_eq_true rfl) (fun r w hp => ?_) (fun _ _ _ z => z.elim)
      rcases hp with ⟨rfl, rfl, r3460, r3461⟩ | ⟨rfl, rfl, r3462, r3463, r3464⟩ | ⟨z3465, rfl, rfl, r3466, r3467, hz3465, r3468, r3469⟩
      · have bz3459' : gB z3459 (-2147483648) (-1) := ⟨by omega, by omega⟩
        change G _ _ _ _ _ _ _ (.int 0 :: _) _ _ _
        refine G_ws (ws' := [(q2843, .inr (5, [.ref q2848, .ref q2849, .ref q2850, .ref q2851, .ref q2852, .ref q2853, .ref q2854, .ref q2855, .ref q2856, .int p2865, .int p2866, .int p2867])), (q2848, .inl (I .int, 40, .inl f2872)), (q2849, .inl (I .int, 40, .inl f2873)), (q2850, .inl (I .int, 40, .inl f2874)), (q2851, .inl (I .int, 200, .inl f2875)), (q2852, .inl (I .int, 200, .inl f2876)), (q2853, .inl (I .int, 200, .inl f2877)), (q2854, .inl (I .int, 200, .inl f2878)), (q2855, .inl (I .int, 200, .inl f2879)), (q2856, .inl (I .int, 200, .inl f2880)), (q2842, .inr (12, [.ref q2844, .ref q2845, .ref q2846, .ref q2847, .int p2858, .int p2859, .int p2860, .int p2861, .int p2862, .int p2863, .int p2864])), (q2844, .inl (I .int, 2048, .inl f2868)), (q2845, .inl (I .int, 100, .inl f2869)), (q2846, .inl (I .int, 100, .inl f2870)), (q2847, .inl (I .int, 512, .inl f2871))]) (cs' := 0) (sl' := 0) rfl rfl rfl ?_
        refine G_callS (As := [.ref q2845, .int z3458, .int 0]) (wr := [(q2843, .inr (5, [.ref q2848, .ref q2849, .ref q2850, .ref q2851, .ref q2852, .ref q2853, .ref q2854, .ref q2855, .ref q2856, .int p2865, .int p2866, .int p2867])), (q2848, .inl (I .int, 40, .inl f2872)), (q2849, .inl (I .int, 40, .inl f2873)), (q2850, .inl (I .int, 40, .inl f2874)), (q2851, .inl (I .int, 200, .inl f2875)), (q2852, .inl (I .int, 200, .inl f2876)), (q2853, .inl (I .int, 200, .inl f2877)), (q2854, .inl (I .int, 200, .inl f2878)), (q2855, .inl (I .int, 200, .inl f2879)), (q2856, .inl (I .int, 200, .inl f2880)), (q2842, .inr (12, [.ref q2844, .ref q2845, .ref q2846, .ref q2847, .int p2858, .int p2859, .int p2860, .int p2861, .int p2862, .int p2863, .int p2864])), (q2844, .inl (I .int, 2048, .inl f2868)), (q2846, .inl (I .int, 100, .inl f2870)), (q2847, .inl (I .int, 512, .inl f2871))]) (gV_ok D I) (ct_2927_Machine_put l hl0 D I q2845 z3458 0 f2869 ) d_cX7_step_191 ⟨w_6_94, w_1_12, w_6_96, by decide, rfl, (Nat.le_of_ble_eq_true rfl), (Nat.le_of_ble_eq_true rfl)⟩ w_6_95 [12] [0, 1, 2, 3, 4, 5, 6, 7, 8, 9, 10, 11, 13, 14] rfl rfl rfl rfl (by decide) (Nat.le_of_ble_eq_true rfl) (Nat.le_of_ble_eq_true rfl) (Nat.le_of_ble_eq_true rfl) (fun r w hp => ?_) (fun _ _ _ z => z.elim)
        obtain ⟨f3470, rfl, rfl, bf3470, ht3471⟩ := hp
        change G _ _ _ _ _ _ _ _ _ _ _
        refine G_ws (ws' := [(q2843, .inr (5, [.ref q2848, .ref q2849, .ref q2850, .ref q2851, .ref q2852, .ref q2853, .ref q2854, .ref q2855, .ref q2856, .int p2865, .int p2866, .int p2867])), (q2848, .inl (I .int, 40, .inl f2872)), (q2849, .inl (I .int, 40, .inl f2873)), (q2850, .inl (I .int, 40, .inl f2874)), (q2851, .inl (I .int, 200, .inl f2875)), (q2852, .inl (I .int, 200, .inl f2876)), (q2853, .inl (I .int, 200, .inl f2877)), (q2854, .inl (I .int, 200, .inl f2878)), (q2855, .inl (I .int, 200, .inl f2879)), (q2856, .inl (I .int, 200, .inl f2880)), (q2842, .inr (12, [.ref q2844, .ref q2845, .ref q2846, .ref q2847, .int p2858, .int p2859, .int p2860, .int p2861, .int p2862, .int p2863, .int p2864])), (q2844, .inl (I .int, 2048, .inl f2868)), (q2846, .inl (I .int, 100, .inl f2870)), (q2847, .inl (I .int, 512, .inl f2871)), (q2845, .inl (I .int, 100, .inl f3470))]) (cs' := 0) (sl' := 0) rfl rfl rfl ?_
        refine G_iload_n 4 d_cX7_step_194 rfl ?_
        refine G_iconst 1 d_cX7_step_195 (by decide +kernel) ?_
        refine G_iadd d_cX7_step_196 (G_nam fun z3472 hz3472 => ?_)
        have ez3472 : z3472.toInt = p2857.toInt + 1 := by rw [gI_add hz3472 bp2857 (gBl (show Int32.toInt 1 = 1 by decide)) (by decide) (by decide), show Int32.toInt 1 = 1 from by decide]
        have bz3472 : gB z3472 1 200 := gB_add (gI_add hz3472 bp2857 (gBl (show Int32.toInt 1 = 1 by decide)) (by decide) (by decide)) bp2857 (gBl (show Int32.toInt 1 = 1 by decide)) (by decide) (by decide)
        refine G_sub (ws' := [(q2842, .inr (12, [.ref q2844, .ref q2845, .ref q2846, .ref q2847, .int p2858, .int p2859, .int p2860, .int p2861, .int p2862, .int p2863, .int p2864])), (q2843, .inr (5, [.ref q2848, .ref q2849, .ref q2850, .ref q2851, .ref q2852, .ref q2853, .ref q2854, .ref q2855, .ref q2856, .int p2865, .int p2866, .int p2867])), (q2844, .inl (I .int, 2048, .inl f2868)), (q2845, .inl (I .int, 100, .inl f3470)), (q2846, .inl (I .int, 100, .inl f2870)), (q2847, .inl (I .int, 512, .inl f2871)), (q2848, .inl (I .int, 40, .inl f2872)), (q2849, .inl (I .int, 40, .inl f2873)), (q2850, .inl (I .int, 40, .inl f2874)), (q2851, .inl (I .int, 200, .inl f2875)), (q2852, .inl (I .int, 200, .inl f2876)), (q2853, .inl (I .int, 200, .inl f2877)), (q2854, .inl (I .int, 200, .inl f2878)), (q2855, .inl (I .int, 200, .inl f2879)), (q2856, .inl (I .int, 200, .inl f2880))]) [10, 0, 11, 14, 12, 13, 1, 2, 3, 4, 5, 6, 7, 8, 9] rfl rfl ?_
        exact G_iret d_cX7_step_197 rfl (Nat.le_of_ble_eq_true rfl) (Nat.le_of_ble_eq_true rfl) ⟨z3472, f3470, p2863, p2861, p2864, f2871, f2870, p2859, p2860, rfl, rfl, (gB_w bz3472 (by decide) (by decide)), bf3470, bp2863, bp2861, bp2864, (gF_any f2871), (gF_any f2870), bp2859, bp2860, (fun R c1 c2 c3 c4 c5 c6 c7 c8 c9 c10 c11 c12 c13 c14 c15 c16 c17 c18 c19 c20 c21 c22 c23 c24 c25 c26 c27 c28 c29 c30 c31 c32 c33 c34 c35 c36 c37 c38 => c24 z2882 z2883 z2884 z2916 z3458 z3459 f3470 z3472 hz2882 bz2882 hz2883 hz2884 r2920 ehs3457 hz3458 hz3459 r3461 ht3471 ez3472)⟩
      · have bz3459' : gB z3459 0 2147483647 := ⟨by omega, by omega⟩
        have bz3459'' : gB z3459 100 2147483647 := ⟨by omega, by omega⟩
        change G _ _ _ _ _ _ _ (.int 0 :: _) _ _ _
        refine G_ws (ws' := [(q2843, .inr (5, [.ref q2848, .ref q2849, .ref q2850, .ref q2851, .ref q2852, .ref q2853, .ref q2854, .ref q2855, .ref q2856, .int p2865, .int p2866, .int p2867])), (q2848, .inl (I .int, 40, .inl f2872)), (q2849, .inl (I .int, 40, .inl f2873)), (q2850, .inl (I .int, 40, .inl f2874)), (q2851, .inl (I .int, 200, .inl f2875)), (q2852, .inl (I .int, 200, .inl f2876)), (q2853, .inl (I .int, 200, .inl f2877)), (q2854, .inl (I .int, 200, .inl f2878)), (q2855, .inl (I .int, 200, .inl f2879)), (q2856, .inl (I .int, 200, .inl f2880)), (q2842, .inr (12, [.ref q2844, .ref q2845, .ref q2846, .ref q2847, .int p2858, .int p2859, .int p2860, .int p2861, .int p2862, .int p2863, .int p2864])), (q2844, .inl (I .int, 2048, .inl f2868)), (q2845, .inl (I .int, 100, .inl f2869)), (q2846, .inl (I .int, 100, .inl f2870)), (q2847, .inl (I .int, 512, .inl f2871))]) (cs' := 0) (sl' := 0) rfl rfl rfl ?_
        refine G_callS (As := [.ref q2845, .int z3458, .int 0]) (wr := [(q2843, .inr (5, [.ref q2848, .ref q2849, .ref q2850, .ref q2851, .ref q2852, .ref q2853, .ref q2854, .ref q2855, .ref q2856, .int p2865, .int p2866, .int p2867])), (q2848, .inl (I .int, 40, .inl f2872)), (q2849, .inl (I .int, 40, .inl f2873)), (q2850, .inl (I .int, 40, .inl f2874)), (q2851, .inl (I .int, 200, .inl f2875)), (q2852, .inl (I .int, 200, .inl f2876)), (q2853, .inl (I .int, 200, .inl f2877)), (q2854, .inl (I .int, 200, .inl f2878)), (q2855, .inl (I .int, 200, .inl f2879)), (q2856, .inl (I .int, 200, .inl f2880)), (q2842, .inr (12, [.ref q2844, .ref q2845, .ref q2846, .ref q2847, .int p2858, .int p2859, .int p2860, .int p2861, .int p2862, .int p2863, .int p2864])), (q2844, .inl (I .int, 2048, .inl f2868)), (q2846, .inl (I .int, 100, .inl f2870)), (q2847, .inl (I .int, 512, .inl f2871))]) (gV_ok D I) (ct_2927_Machine_put l hl0 D I q2845 z3458 0 f2869 ) d_cX7_step_191 ⟨w_6_94, w_1_12, w_6_96, by decide, rfl, (Nat.le_of_ble_eq_true rfl), (Nat.le_of_ble_eq_true rfl)⟩ w_6_95 [12] [0, 1, 2, 3, 4, 5, 6, 7, 8, 9, 10, 11, 13, 14] rfl rfl rfl rfl (by decide) (Nat.le_of_ble_eq_true rfl) (Nat.le_of_ble_eq_true rfl) (Nat.le_of_ble_eq_true rfl) (fun r w hp => ?_) (fun _ _ _ z => z.elim)
        obtain ⟨f3473, rfl, rfl, bf3473, ht3474⟩ := hp
        change G _ _ _ _ _ _ _ _ _ _ _
        refine G_ws (ws' := [(q2843, .inr (5, [.ref q2848, .ref q2849, .ref q2850, .ref q2851, .ref q2852, .ref q2853, .ref q2854, .ref q2855, .ref q2856, .int p2865, .int p2866, .int p2867])), (q2848, .inl (I .int, 40, .inl f2872)), (q2849, .inl (I .int, 40, .inl f2873)), (q2850, .inl (I .int, 40, .inl f2874)), (q2851, .inl (I .int, 200, .inl f2875)), (q2852, .inl (I .int, 200, .inl f2876)), (q2853, .inl (I .int, 200, .inl f2877)), (q2854, .inl (I .int, 200, .inl f2878)), (q2855, .inl (I .int, 200, .inl f2879)), (q2856, .inl (I .int, 200, .inl f2880)), (q2842, .inr (12, [.ref q2844, .ref q2845, .ref q2846, .ref q2847, .int p2858, .int p2859, .int p2860, .int p2861, .int p2862, .int p2863, .int p2864])), (q2844, .inl (I .int, 2048, .inl f2868)), (q2846, .inl (I .int, 100, .inl f2870)), (q2847, .inl (I .int, 512, .inl f2871)), (q2845, .inl (I .int, 100, .inl f3473))]) (cs' := 0) (sl' := 0) rfl rfl rfl ?_
        refine G_iload_n 4 d_cX7_step_194 rfl ?_
        refine G_iconst 1 d_cX7_step_195 (by decide +kernel) ?_
        refine G_iadd d_cX7_step_196 (G_nam fun z3475 hz3475 => ?_)
        have ez3475 : z3475.toInt = p2857.toInt + 1 := by rw [gI_add hz3475 bp2857 (gBl (show Int32.toInt 1 = 1 by decide)) (by decide) (by decide), show Int32.toInt 1 = 1 from by decide]
        have bz3475 : gB z3475 1 200 := gB_add (gI_add hz3475 bp2857 (gBl (show Int32.toInt 1 = 1 by decide)) (by decide) (by decide)) bp2857 (gBl (show Int32.toInt 1 = 1 by decide)) (by decide) (by decide)
        refine G_sub (ws' := [(q2842, .inr (12, [.ref q2844, .ref q2845, .ref q2846, .ref q2847, .int p2858, .int p2859, .int p2860, .int p2861, .int p2862, .int p2863, .int p2864])), (q2843, .inr (5, [.ref q2848, .ref q2849, .ref q2850, .ref q2851, .ref q2852, .ref q2853, .ref q2854, .ref q2855, .ref q2856, .int p2865, .int p2866, .int p2867])), (q2844, .inl (I .int, 2048, .inl f2868)), (q2845, .inl (I .int, 100, .inl f3473)), (q2846, .inl (I .int, 100, .inl f2870)), (q2847, .inl (I .int, 512, .inl f2871)), (q2848, .inl (I .int, 40, .inl f2872)), (q2849, .inl (I .int, 40, .inl f2873)), (q2850, .inl (I .int, 40, .inl f2874)), (q2851, .inl (I .int, 200, .inl f2875)), (q2852, .inl (I .int, 200, .inl f2876)), (q2853, .inl (I .int, 200, .inl f2877)), (q2854, .inl (I .int, 200, .inl f2878)), (q2855, .inl (I .int, 200, .inl f2879)), (q2856, .inl (I .int, 200, .inl f2880))]) [10, 0, 11, 14, 12, 13, 1, 2, 3, 4, 5, 6, 7, 8, 9] rfl rfl ?_
        exact G_iret d_cX7_step_197 rfl (Nat.le_of_ble_eq_true rfl) (Nat.le_of_ble_eq_true rfl) ⟨z3475, f3473, p2863, p2861, p2864, f2871, f2870, p2859, p2860, rfl, rfl, (gB_w bz3475 (by decide) (by decide)), bf3473, bp2863, bp2861, bp2864, (gF_any f2871), (gF_any f2870), bp2859, bp2860, (fun R c1 c2 c3 c4 c5 c6 c7 c8 c9 c10 c11 c12 c13 c14 c15 c16 c17 c18 c19 c20 c21 c22 c23 c24 c25 c26 c27 c28 c29 c30 c31 c32 c33 c34 c35 c36 c37 c38 => c24 z2882 z2883 z2884 z2916 z3458 z3459 f3473 z3475 hz2882 bz2882 hz2883 hz2884 r2920 ehs3457 hz3458 hz3459 r3464 ht3474 ez3475)⟩
      · have bz3459' : gB z3459 0 2147483647 := ⟨by omega, by omega⟩
        have bz3459'' : gB z3459 0 99 := ⟨by omega, by omega⟩
        change G _ _ _ _ _ _ _ (.int z3465 :: _) _ _ _
        refine G_ws (ws' := [(q2843, .inr (5, [.ref q2848, .ref q2849, .ref q2850, .ref q2851, .ref q2852, .ref q2853, .ref q2854, .ref q2855, .ref q2856, .int p2865, .int p2866, .int p2867])), (q2848, .inl (I .int, 40, .inl f2872)), (q2849, .inl (I .int, 40, .inl f2873)), (q2850, .inl (I .int, 40, .inl f2874)), (q2851, .inl (I .int, 200, .inl f2875)), (q2852, .inl (I .int, 200, .inl f2876)), (q2853, .inl (I .int, 200, .inl f2877)), (q2854, .inl (I .int, 200, .inl f2878)), (q2855, .inl (I .int, 200, .inl f2879)), (q2856, .inl (I .int, 200, .inl f2880)), (q2842, .inr (12, [.ref q2844, .ref q2845, .ref q2846, .ref q2847, .int p2858, .int p2859, .int p2860, .int p2861, .int p2862, .int p2863, .int p2864])), (q2844, .inl (I .int, 2048, .inl f2868)), (q2845, .inl (I .int, 100, .inl f2869)), (q2846, .inl (I .int, 100, .inl f2870)), (q2847, .inl (I .int, 512, .inl f2871))]) (cs' := 0) (sl' := 0) rfl rfl rfl ?_
        refine G_callS (As := [.ref q2845, .int z3458, .int z3465]) (wr := [(q2843, .inr (5, [.ref q2848, .ref q2849, .ref q2850, .ref q2851, .ref q2852, .ref q2853, .ref q2854, .ref q2855, .ref q2856, .int p2865, .int p2866, .int p2867])), (q2848, .inl (I .int, 40, .inl f2872)), (q2849, .inl (I .int, 40, .inl f2873)), (q2850, .inl (I .int, 40, .inl f2874)), (q2851, .inl (I .int, 200, .inl f2875)), (q2852, .inl (I .int, 200, .inl f2876)), (q2853, .inl (I .int, 200, .inl f2877)), (q2854, .inl (I .int, 200, .inl f2878)), (q2855, .inl (I .int, 200, .inl f2879)), (q2856, .inl (I .int, 200, .inl f2880)), (q2842, .inr (12, [.ref q2844, .ref q2845, .ref q2846, .ref q2847, .int p2858, .int p2859, .int p2860, .int p2861, .int p2862, .int p2863, .int p2864])), (q2844, .inl (I .int, 2048, .inl f2868)), (q2846, .inl (I .int, 100, .inl f2870)), (q2847, .inl (I .int, 512, .inl f2871))]) (gV_ok D I) (ct_2927_Machine_put l hl0 D I q2845 z3458 z3465 f2869 ) d_cX7_step_191 ⟨w_6_94, w_1_12, w_6_96, by decide, rfl, (Nat.le_of_ble_eq_true rfl), (Nat.le_of_ble_eq_true rfl)⟩ w_6_95 [12] [0, 1, 2, 3, 4, 5, 6, 7, 8, 9, 10, 11, 13, 14] rfl rfl rfl rfl (by decide) (Nat.le_of_ble_eq_true rfl) (Nat.le_of_ble_eq_true rfl) (Nat.le_of_ble_eq_true rfl) (fun r w hp => ?_) (fun _ _ _ z => z.elim)
        obtain ⟨f3476, rfl, rfl, bf3476, ht3477⟩ := hp
        change G _ _ _ _ _ _ _ _ _ _ _
        refine G_ws (ws' := [(q2843, .inr (5, [.ref q2848, .ref q2849, .ref q2850, .ref q2851, .ref q2852, .ref q2853, .ref q2854, .ref q2855, .ref q2856, .int p2865, .int p2866, .int p2867])), (q2848, .inl (I .int, 40, .inl f2872)), (q2849, .inl (I .int, 40, .inl f2873)), (q2850, .inl (I .int, 40, .inl f2874)), (q2851, .inl (I .int, 200, .inl f2875)), (q2852, .inl (I .int, 200, .inl f2876)), (q2853, .inl (I .int, 200, .inl f2877)), (q2854, .inl (I .int, 200, .inl f2878)), (q2855, .inl (I .int, 200, .inl f2879)), (q2856, .inl (I .int, 200, .inl f2880)), (q2842, .inr (12, [.ref q2844, .ref q2845, .ref q2846, .ref q2847, .int p2858, .int p2859, .int p2860, .int p2861, .int p2862, .int p2863, .int p2864])), (q2844, .inl (I .int, 2048, .inl f2868)), (q2846, .inl (I .int, 100, .inl f2870)), (q2847, .inl (I .int, 512, .inl f2871)), (q2845, .inl (I .int, 100, .inl f3476))]) (cs' := 0) (sl' := 0) rfl rfl rfl ?_
        refine G_iload_n 4 d_cX7_step_194 rfl ?_
        refine G_iconst 1 d_cX7_step_195 (by decide +kernel) ?_
        refine G_iadd d_cX7_step_196 (G_nam fun z3478 hz3478 => ?_)
        have ez3478 : z3478.toInt = p2857.toInt + 1 := by rw [gI_add hz3478 bp2857 (gBl (show Int32.toInt 1 = 1 by decide)) (by decide) (by decide), show Int32.toInt 1 = 1 from by decide]
        have bz3478 : gB z3478 1 200 := gB_add (gI_add hz3478 bp2857 (gBl (show Int32.toInt 1 = 1 by decide)) (by decide) (by decide)) bp2857 (gBl (show Int32.toInt 1 = 1 by decide)) (by decide) (by decide)
        refine G_sub (ws' := [(q2842, .inr (12, [.ref q2844, .ref q2845, .ref q2846, .ref q2847, .int p2858, .int p2859, .int p2860, .int p2861, .int p2862, .int p2863, .int p2864])), (q2843, .inr (5, [.ref q2848, .ref q2849, .ref q2850, .ref q2851, .ref q2852, .ref q2853, .ref q2854, .ref q2855, .ref q2856, .int p2865, .int p2866, .int p2867])), (q2844, .inl (I .int, 2048, .inl f2868)), (q2845, .inl (I .int, 100, .inl f3476)), (q2846, .inl (I .int, 100, .inl f2870)), (q2847, .inl (I .int, 512, .inl f2871)), (q2848, .inl (I .int, 40, .inl f2872)), (q2849, .inl (I .int, 40, .inl f2873)), (q2850, .inl (I .int, 40, .inl f2874)), (q2851, .inl (I .int, 200, .inl f2875)), (q2852, .inl (I .int, 200, .inl f2876)), (q2853, .inl (I .int, 200, .inl f2877)), (q2854, .inl (I .int, 200, .inl f2878)), (q2855, .inl (I .int, 200, .inl f2879)), (q2856, .inl (I .int, 200, .inl f2880))]) [10, 0, 11, 14, 12, 13, 1, 2, 3, 4, 5, 6, 7, 8, 9] rfl rfl ?_
        exact G_iret d_cX7_step_197 rfl (Nat.le_of_ble_eq_true rfl) (Nat.le_of_ble_eq_true rfl) ⟨z3478, f3476, p2863, p2861, p2864, f2871, f2870, p2859, p2860, rfl, rfl, (gB_w bz3478 (by decide) (by decide)), bf3476, bp2863, bp2861, bp2864, (gF_any f2871), (gF_any f2870), bp2859, bp2860, (fun R c1 c2 c3 c4 c5 c6 c7 c8 c9 c10 c11 c12 c13 c14 c15 c16 c17 c18 c19 c20 c21 c22 c23 c24 c25 c26 c27 c28 c29 c30 c31 c32 c33 c34 c35 c36 c37 c38 => c25 z2882 z2883 z2884 z2916 z3458 z3459 z3465 f3476 z3478 hz2882 bz2882 hz2883 hz2884 r2920 ehs3457 hz3458 hz3459 r3469 ht3477 ez3478)⟩
    by_cases hs3479 : z2882 = 18
    · have ehs3479 : z2882.toInt = 18 := gj_eq hs3479 (show Int32.toInt 18 = 18 by decide)
      have bz2882' : gB z2882 18 18 := ⟨by omega, by omega⟩
      refine G_eqi (y := 18) hs3479 ?_
      refine G_tableIn 152 d_cX7_step_26 (by decide) (by decide) (by first | rfl | decide) (by decide) ?_
      refine G_aload_n 2 d_cX7_step_152 rfl ?_
      refine G_getf 10 2 d_cX7_step_153 rfl (gk_X7 D I) (Nat.le_of_ble_eq_true rfl) w_2_162 rfl ?_
      refine G_aload_n 3 d_cX7_step_156 rfl ?_
      refine G_getfN 0 8 d_cX7_step_157 rfl (gk_X0 D I) (Nat.le_of_ble_eq_true rfl) (fun _ _ _ h => gn_w 35 rfl h) rfl ?_
      refine G_iload_n 4 d_cX7_step_160 rfl ?_
      refine G_iald 9 0 d_cX7_step_161 rfl rfl (gB_in bp2857 (by decide) (by decide)) (G_nam fun z3480 hz3480 => ?_)
      have bz3480 : gB z3480 (-2147483648) 2147483647 := gB_any z3480
      refine G_iload 0 d_cX7_step_162 rfl ?_
      refine G_callS (As := [.ref q2846, .int z3480, .int z2916]) (wr := [(q2843, .inr (5, [.ref q2848, .ref q2849, .ref q2850, .ref q2851, .ref q2852, .ref q2853, .ref q2854, .ref q2855, .ref q2856, .int p2865, .int p2866, .int p2867])), (q2848, .inl (I .int, 40, .inl f2872)), (q2849, .inl (I .int, 40, .inl f2873)), (q2850, .inl (I .int, 40, .inl f2874)), (q2851, .inl (I .int, 200, .inl f2875)), (q2852, .inl (I .int, 200, .inl f2876)), (q2853, .inl (I .int, 200, .inl f2877)), (q2854, .inl (I .int, 200, .inl f2878)), (q2855, .inl (I .int, 200, .inl f2879)), (q2856, .inl (I .int, 200, .inl f2880)), (q2842, .inr (12, [.ref q2844, .ref q2845, .ref q2846, .ref q2847, .int p2858, .int p2859, .int p2860, .int p2861, .int p2862, .int p2863, .int p2864])), (q2844, .inl (I .int, 2048, .inl f2868)), (q2845, .inl (I .int, 100, .inl f2869)), (q2847, .inl (I .int, 512, .inl f2871))]) (gV_ok D I) (ct_2927_Machine_put l hl0 D I q2846 z3480 z2916 f2870 ) d_cX7_step_164 ⟨w_6_94, w_1_12, w_6_96, by decide, rfl, (Nat.le_of_ble_eq_true rfl), (Nat.le_of_ble_eq_true rfl)⟩ w_6_95 [13] [0, 1, 2, 3, 4, 5, 6, 7, 8, 9, 10, 11, 12, 14] rfl rfl rfl rfl (by decide) (Nat.le_of_ble_eq_true rfl) (Nat.le_of_ble_eq_true rfl) (Nat.le_of_ble_eq_true rfl) (fun r w hp => ?_) (fun _ _ _ z => z.elim)
      obtain ⟨f3481, rfl, rfl, bf3481, ht3482⟩ := hp
      change G _ _ _ _ _ _ _ _ _ _ _
      refine G_ws (ws' := [(q2843, .inr (5, [.ref q2848, .ref q2849, .ref q2850, .ref q2851, .ref q2852, .ref q2853, .ref q2854, .ref q2855, .ref q2856, .int p2865, .int p2866, .int p2867])), (q2848, .inl (I .int, 40, .inl f2872)), (q2849, .inl (I .int, 40, .inl f2873)), (q2850, .inl (I .int, 40, .inl f2874)), (q2851, .inl (I .int, 200, .inl f2875)), (q2852, .inl (I .int, 200, .inl f2876)), (q2853, .inl (I .int, 200, .inl f2877)), (q2854, .inl (I .int, 200, .inl f2878)), (q2855, .inl (I .int, 200, .inl f2879)), (q2856, .inl (I .int, 200, .inl f2880)), (q2842, .inr (12, [.ref q2844, .ref q2845, .ref q2846, .ref q2847, .int p2858, .int p2859, .int p2860, .int p2861, .int p2862, .int p2863, .int p2864])), (q2844, .inl (I .int, 2048, .inl f2868)), (q2845, .inl (I .int, 100, .inl f2869)), (q2847, .inl (I .int, 512, .inl f2871)), (q2846, .inl (I .int, 100, .inl f3481))]) (cs' := 0) (sl' := 0) rfl rfl rfl ?_
      refine G_iload_n 4 d_cX7_step_167 rfl ?_
      refine G_iconst 1 d_cX7_step_168 (by decide +kernel) ?_
      refine G_iadd d_cX7_step_169 (G_nam fun z3483 hz3483 => ?_)
      have ez3483 : z3483.toInt = p2857.toInt + 1 := by rw [gI_add hz3483 bp2857 (gBl (show Int32.toInt 1 = 1 by decide)) (by decide) (by decide), show Int32.toInt 1 = 1 from by decide]
      have bz3483 : gB z3483 1 200 := gB_add (gI_add hz3483 bp2857 (gBl (show Int32.toInt 1 = 1 by decide)) (by decide) (by decide)) bp2857 (gBl (show Int32.toInt 1 = 1 by decide)) (by decide) (by decide)
      refine G_sub (ws' := [(q2842, .inr (12, [.ref q2844, .ref q2845, .ref q2846, .ref q2847, .int p2858, .int p2859, .int p2860, .int p2861, .int p2862, .int p2863, .int p2864])), (q2843, .inr (5, [.ref q2848, .ref q2849, .ref q2850, .ref q2851, .ref q2852, .ref q2853, .ref q2854, .ref q2855, .ref q2856, .int p2865, .int p2866, .int p2867])), (q2844, .inl (I .int, 2048, .inl f2868)), (q2845, .inl (I .int, 100, .inl f2869)), (q2846, .inl (I .int, 100, .inl f3481)), (q2847, .inl (I .int, 512, .inl f2871)), (q2848, .inl (I .int, 40, .inl f2872)), (q2849, .inl (I .int, 40, .inl f2873)), (q2850, .inl (I .int, 40, .inl f2874)), (q2851, .inl (I .int, 200, .inl f2875)), (q2852, .inl (I .int, 200, .inl f2876)), (q2853, .inl (I .int, 200, .inl f2877)), (q2854, .inl (I .int, 200, .inl f2878)), (q2855, .inl (I .int, 200, .inl f2879)), (q2856, .inl (I .int, 200, .inl f2880))]) [10, 0, 11, 12, 14, 13, 1, 2, 3, 4, 5, 6, 7, 8, 9] rfl rfl ?_
      exact G_iret d_cX7_step_170 rfl (Nat.le_of_ble_eq_true rfl) (Nat.le_of_ble_eq_true rfl) ⟨z3483, f2869, p2863, p2861, p2864, f2871, f3481, p2859, p2860, rfl, rfl, (gB_w bz3483 (by decide) (by decide)), (gF_any f2869), bp2863, bp2861, bp2864, (gF_any f2871), bf3481, bp2859, bp2860, (fun R c1 c2 c3 c4 c5 c6 c7 c8 c9 c10 c11 c12 c13 c14 c15 c16 c17 c18 c19 c20 c21 c22 c23 c24 c25 c26 c27 c28 c29 c30 c31 c32 c33 c34 c35 c36 c37 c38 => c26 z2882 z2883 z2884 z2916 z3480 f3481 z3483 hz2882 bz2882 hz2883 hz2884 r2920 ehs3479 hz3480 ht3482 ez3483)⟩
    by_cases hs3484 : z2882 = 19
    · have ehs3484 : z2882.toInt = 19 := gj_eq hs3484 (show Int32.toInt 19 = 19 by decide)
      have bz2882' : gB z2882 19 19 := ⟨by omega, by omega⟩
      refine G_eqi (y := 19) hs3484 ?_
      refine G_tableIn 72 d_cX7_step_26 (by decide) (by decide) (by first | rfl | decide) (by decide) ?_
      refine G_aload_n 2 d_cX7_step_72 rfl ?_
      refine G_aload_n 3 d_cX7_step_73 rfl ?_
      refine G_aload_n 3 d_cX7_step_74 rfl ?_
      refine G_getfN 0 1 d_cX7_step_75 rfl (gk_X0 D I) (Nat.le_of_ble_eq_true rfl) (fun _ _ _ h => gn_w 10 rfl h) rfl ?_
      refine G_aload_n 2 d_cX7_step_78 rfl ?_
      refine G_getf 10 5 d_cX7_step_79 rfl (gk_X7 D I) (Nat.le_of_ble_eq_true rfl) w_2_165 rfl ?_
      refine G_iald 2 0 d_cX7_step_82 rfl rfl (gB_in bp2859 (by decide) (by decide)) (G_nam fun z3485 hz3485 => ?_)
      have bz3485 : gB z3485 (-2147483648) 2147483647 := gB_any z3485
      refine G_callV (As := [.ref q2843, .int z3485]) (wr := []) (gV_ok D I) (ct_3102_Machine_enter l hl0 D I q2842 q2843 q2844 q2845 q2846 q2847 q2848 q2849 q2850 q2851 q2852 q2853 q2854 q2855 q2856 z3485 p2858 p2859 p2860 p2861 p2862 p2863 p2864 p2865 p2866 p2867 f2868 f2869 f2870 f2871 f2872 f2873 f2874 f2875 f2876 f2877 f2878 f2879 f2880 bp2858 bp2859 bp2861 bp2863 bp2865 bp2866 bp2867 bf2872 bf2875) d_cX7_step_83 ⟨w_6_82, w_1_12, w_6_85, by decide, rfl, (Nat.le_of_ble_eq_true rfl), (Nat.le_of_ble_eq_true rfl)⟩ w_6_84 w_p_59 10 rfl rfl [10, 0, 11, 12, 13, 14, 1, 2, 3, 4, 5, 6, 7, 8, 9] [] rfl rfl rfl rfl (by decide) (Nat.le_of_ble_eq_true rfl) (Nat.le_of_ble_eq_true rfl) (Nat.le_of_ble_eq_true rfl) (fun r w hp => ?_) (fun _ _ _ z => z.elim)
      obtain ⟨o3486, o3487, o3488, rfl, rfl, bo3486, bo3487, bo3488, ht3489⟩ := hp
      change G _ _ _ _ _ _ _ (.int o3486 :: _) _ _ _
      refine G_ws (ws' := [(q2842, .inr (12, [.ref q2844, .ref q2845, .ref q2846, .ref q2847, .int p2858, .int o3488, .int p2860, .int p2861, .int p2862, .int p2863, .int o3487])), (q2843, .inr (5, [.ref q2848, .ref q2849, .ref q2850, .ref q2851, .ref q2852, .ref q2853, .ref q2854, .ref q2855, .ref q2856, .int p2865, .int p2866, .int p2867])), (q2844, .inl (I .int, 2048, .inl f2868)), (q2845, .inl (I .int, 100, .inl f2869)), (q2846, .inl (I .int, 100, .inl f2870)), (q2847, .inl (I .int, 512, .inl f2871)), (q2848, .inl (I .int, 40, .inl f2872)), (q2849, .inl (I .int, 40, .inl f2873)), (q2850, .inl (I .int, 40, .inl f2874)), (q2851, .inl (I .int, 200, .inl f2875)), (q2852, .inl (I .int, 200, .inl f2876)), (q2853, .inl (I .int, 200, .inl f2877)), (q2854, .inl (I .int, 200, .inl f2878)), (q2855, .inl (I .int, 200, .inl f2879)), (q2856, .inl (I .int, 200, .inl f2880))]) (cs' := 0) (sl' := 0) rfl rfl rfl ?_
      exact G_iret d_cX7_step_86 rfl (Nat.le_of_ble_eq_true rfl) (Nat.le_of_ble_eq_true rfl) ⟨o3486, f2869, p2863, p2861, o3487, f2871, f2870, o3488, p2860, rfl, rfl, bo3486, (gF_any f2869), bp2863, bp2861, bo3487, (gF_any f2871), (gF_any f2870), bo3488, bp2860, (fun R c1 c2 c3 c4 c5 c6 c7 c8 c9 c10 c11 c12 c13 c14 c15 c16 c17 c18 c19 c20 c21 c22 c23 c24 c25 c26 c27 c28 c29 c30 c31 c32 c33 c34 c35 c36 c37 c38 => c27 z2882 z2883 z2884 z2916 z3485 o3486 o3487 o3488 hz2882 bz2882 hz2883 hz2884 r2920 ehs3484 hz3485 bo3486 bo3488 ht3489)⟩
    by_cases hs3490 : z2882 = 20
    · have ehs3490 : z2882.toInt = 20 := gj_eq hs3490 (show Int32.toInt 20 = 20 by decide)
      have bz2882' : gB z2882 20 20 := ⟨by omega, by omega⟩
      refine G_eqi (y := 20) hs3490 ?_
      refine G_tableIn 87 d_cX7_step_26 (by decide) (by decide) (by first | rfl | decide) (by decide) ?_
      refine G_aload_n 2 d_cX7_step_87 rfl ?_
      refine G_aload_n 3 d_cX7_step_88 rfl ?_
      refine G_iload 0 d_cX7_step_89 rfl ?_
      refine G_if_eq 106 d_cX7_step_91 (by decide +kernel) (fun hc3491 => ?_) (fun hc3491 => ?_)
      · have r3492 : z2916.toInt = 0 := gj_eq hc3491 (show Int32.toInt 0 = 0 by decide)
        have r2919' : gB z2916 0 0 := ⟨by omega, by omega⟩
        refine G_aload_n 3 d_cX7_step_106 rfl ?_
        refine G_getfN 0 2 d_cX7_step_107 rfl (gk_X0 D I) (Nat.le_of_ble_eq_true rfl) (fun _ _ _ h => gn_w 14 rfl h) rfl ?_
        refine G_aload_n 2 d_cX7_step_110 rfl ?_
        refine G_getf 10 5 d_cX7_step_111 rfl (gk_X7 D I) (Nat.le_of_ble_eq_true rfl) w_2_165 rfl ?_
        refine G_iald 3 0 d_cX7_step_114 rfl rfl (gB_in bp2859 (by decide) (by decide)) (G_nam fun z3493 hz3493 => ?_)
        have bz3493 : gB z3493 (-2147483648) 2147483647 := gB_any z3493
        refine G_callV (As := [.ref q2843, .int z3493]) (wr := []) (gV_ok D I) (ct_3102_Machine_enter l hl0 D I q2842 q2843 q2844 q2845 q2846 q2847 q2848 q2849 q2850 q2851 q2852 q2853 q2854 q2855 q2856 z3493 p2858 p2859 p2860 p2861 p2862 p2863 p2864 p2865 p2866 p2867 f2868 f2869 f2870 f2871 f2872 f2873 f2874 f2875 f2876 f2877 f2878 f2879 f2880 bp2858 bp2859 bp2861 bp2863 bp2865 bp2866 bp2867 bf2872 bf2875) d_cX7_step_115 ⟨w_6_82, w_1_12, w_6_85, by decide, rfl, (Nat.le_of_ble_eq_true rfl), (Nat.le_of_ble_eq_true rfl)⟩ w_6_84 w_p_59 10 rfl rfl [10, 0, 11, 12, 13, 14, 1, 2, 3, 4, 5, 6, 7, 8, 9] [] rfl rfl rfl rfl (by decide) (Nat.le_of_ble_eq_true rfl) (Nat.le_of_ble_eq_true rfl) (Nat.le_of_ble_eq_true rfl) (fun r w hp => ?_) (fun _ _ _ z => z.elim)
        obtain ⟨o3494, o3495, o3496, rfl, rfl, bo3494, bo3495, bo3496, ht3497⟩ := hp
        change G _ _ _ _ _ _ _ (.int o3494 :: _) _ _ _
        refine G_ws (ws' := [(q2842, .inr (12, [.ref q2844, .ref q2845, .ref q2846, .ref q2847, .int p2858, .int o3496, .int p2860, .int p2861, .int p2862, .int p2863, .int o3495])), (q2843, .inr (5, [.ref q2848, .ref q2849, .ref q2850, .ref q2851, .ref q2852, .ref q2853, .ref q2854, .ref q2855, .ref q2856, .int p2865, .int p2866, .int p2867])), (q2844, .inl (I .int, 2048, .inl f2868)), (q2845, .inl (I .int, 100, .inl f2869)), (q2846, .inl (I .int, 100, .inl f2870)), (q2847, .inl (I .int, 512, .inl f2871)), (q2848, .inl (I .int, 40, .inl f2872)), (q2849, .inl (I .int, 40, .inl f2873)), (q2850, .inl (I .int, 40, .inl f2874)), (q2851, .inl (I .int, 200, .inl f2875)), (q2852, .inl (I .int, 200, .inl f2876)), (q2853, .inl (I .int, 200, .inl f2877)), (q2854, .inl (I .int, 200, .inl f2878)), (q2855, .inl (I .int, 200, .inl f2879)), (q2856, .inl (I .int, 200, .inl f2880))]) (cs' := 0) (sl' := 0) rfl rfl rfl ?_
        exact G_iret d_cX7_step_118 rfl (Nat.le_of_ble_eq_true rfl) (Nat.le_of_ble_eq_true rfl) ⟨o3494, f2869, p2863, p2861, o3495, f2871, f2870, o3496, p2860, rfl, rfl, bo3494, (gF_any f2869), bp2863, bp2861, bo3495, (gF_any f2871), (gF_any f2870), bo3496, bp2860, (fun R c1 c2 c3 c4 c5 c6 c7 c8 c9 c10 c11 c12 c13 c14 c15 c16 c17 c18 c19 c20 c21 c22 c23 c24 c25 c26 c27 c28 c29 c30 c31 c32 c33 c34 c35 c36 c37 c38 => c28 z2882 z2883 z2884 z2916 z3493 o3494 o3495 o3496 hz2882 bz2882 hz2883 hz2884 r2920 ehs3490 r3492 hz3493 bo3494 bo3496 ht3497)⟩
      · have r3498 : z2916.toInt ≠ 0 := gj_neq hc3491 (show Int32.toInt 0 = 0 by decide)
        refine G_aload_n 3 d_cX7_step_94 rfl ?_
        refine G_getfN 0 1 d_cX7_step_95 rfl (gk_X0 D I) (Nat.le_of_ble_eq_true rfl) (fun _ _ _ h => gn_w 10 rfl h) rfl ?_
        refine G_aload_n 2 d_cX7_step_98 rfl ?_
        refine G_getf 10 5 d_cX7_step_99 rfl (gk_X7 D I) (Nat.le_of_ble_eq_true rfl) w_2_165 rfl ?_
        refine G_iald 2 0 d_cX7_step_102 rfl rfl (gB_in bp2859 (by decide) (by decide)) (G_nam fun z3499 hz3499 => ?_)
        have bz3499 : gB z3499 (-2147483648) 2147483647 := gB_any z3499
        refine G_goto 115 d_cX7_step_103 (by decide +kernel) ?_
        refine G_callV (As := [.ref q2843, .int z3499]) (wr := []) (gV_ok D I) (ct_3102_Machine_enter l hl0 D I q2842 q2843 q2844 q2845 q2846 q2847 q2848 q2849 q2850 q2851 q2852 q2853 q2854 q2855 q2856 z3499 p2858 p2859 p2860 p2861 p2862 p2863 p2864 p2865 p2866 p2867 f2868 f2869 f2870 f2871 f2872 f2873 f2874 f2875 f2876 f2877 f2878 f2879 f2880 bp2858 bp2859 bp2861 bp2863 bp2865 bp2866 bp2867 bf2872 bf2875) d_cX7_step_115 ⟨w_6_82, w_1_12, w_6_85, by decide, rfl, (Nat.le_of_ble_eq_true rfl), (Nat.le_of_ble_eq_true rfl)⟩ w_6_84 w_p_59 10 rfl rfl [10, 0, 11, 12, 13, 14, 1, 2, 3, 4, 5, 6, 7, 8, 9] [] rfl rfl rfl rfl (by decide) (Nat.le_of_ble_eq_true rfl) (Nat.le_of_ble_eq_true rfl) (Nat.le_of_ble_eq_true rfl) (fun r w hp => ?_) (fun _ _ _ z => z.elim)
        obtain ⟨o3500, o3501, o3502, rfl, rfl, bo3500, bo3501, bo3502, ht3503⟩ := hp
        change G _ _ _ _ _ _ _ (.int o3500 :: _) _ _ _
        refine G_ws (ws' := [(q2842, .inr (12, [.ref q2844, .ref q2845, .ref q2846, .ref q2847, .int p2858, .int o3502, .int p2860, .int p2861, .int p2862, .int p2863, .int o3501])), (q2843, .inr (5, [.ref q2848, .ref q2849, .ref q2850, .ref q2851, .ref q2852, .ref q2853, .ref q2854, .ref q2855, .ref q2856, .int p2865, .int p2866, .int p2867])), (q2844, .inl (I .int, 2048, .inl f2868)), (q2845, .inl (I .int, 100, .inl f2869)), (q2846, .inl (I .int, 100, .inl f2870)), (q2847, .inl (I .int, 512, .inl f2871)), (q2848, .inl (I .int, 40, .inl f2872)), (q2849, .inl (I .int, 40, .inl f2873)), (q2850, .inl (I .int, 40, .inl f2874)), (q2851, .inl (I .int, 200, .inl f2875)), (q2852, .inl (I .int, 200, .inl f2876)), (q2853, .inl (I .int, 200, .inl f2877)), (q2854, .inl (I .int, 200, .inl f2878)), (q2855, .inl (I .int, 200, .inl f2879)), (q2856, .inl (I .int, 200, .inl f2880))]) (cs' := 0) (sl' := 0) rfl rfl rfl ?_
        exact G_iret d_cX7_step_118 rfl (Nat.le_of_ble_eq_true rfl) (Nat.le_of_ble_eq_true rfl) ⟨o3500, f2869, p2863, p2861, o3501, f2871, f2870, o3502, p2860, rfl, rfl, bo3500, (gF_any f2869), bp2863, bp2861, bo3501, (gF_any f2871), (gF_any f2870), bo3502, bp2860, (fun R c1 c2 c3 c4 c5 c6 c7 c8 c9 c10 c11 c12 c13 c14 c15 c16 c17 c18 c19 c20 c21 c22 c23 c24 c25 c26 c27 c28 c29 c30 c31 c32 c33 c34 c35 c36 c37 c38 => c29 z2882 z2883 z2884 z2916 z3499 o3500 o3501 o3502 hz2882 bz2882 hz2883 hz2884 r2920 ehs3490 r3498 hz3499 bo3500 bo3502 ht3503)⟩
    by_cases hs3504 : z2882 = 21
    · have ehs3504 : z2882.toInt = 21 := gj_eq hs3504 (show Int32.toInt 21 = 21 by decide)
      have bz2882' : gB z2882 21 21 := ⟨by omega, by omega⟩
      refine G_eqi (y := 21) hs3504 ?_
      refine G_tableIn 119 d_cX7_step_26 (by decide) (by decide) (by first | rfl | decide) (by decide) ?_
      refine G_aload_n 2 d_cX7_step_119 rfl ?_
      refine G_iload 0 d_cX7_step_120 rfl ?_
      refine G_putf (ws' := [(q2843, .inr (5, [.ref q2848, .ref q2849, .ref q2850, .ref q2851, .ref q2852, .ref q2853, .ref q2854, .ref q2855, .ref q2856, .int p2865, .int p2866, .int p2867])), (q2848, .inl (I .int, 40, .inl f2872)), (q2849, .inl (I .int, 40, .inl f2873)), (q2850, .inl (I .int, 40, .inl f2874)), (q2851, .inl (I .int, 200, .inl f2875)), (q2852, .inl (I .int, 200, .inl f2876)), (q2853, .inl (I .int, 200, .inl f2877)), (q2854, .inl (I .int, 200, .inl f2878)), (q2855, .inl (I .int, 200, .inl f2879)), (q2856, .inl (I .int, 200, .inl f2880)), (q2842, .inr (12, [.ref q2844, .ref q2845, .ref q2846, .ref q2847, .int p2858, .int p2859, .int z2916, .int p2861, .int p2862, .int p2863, .int p2864])), (q2844, .inl (I .int, 2048, .inl f2868)), (q2845, .inl (I .int, 100, .inl f2869)), (q2846, .inl (I .int, 100, .inl f2870)), (q2847, .inl (I .int, 512, .inl f2871))]) 10 6 d_cX7_step_122 rfl (gk_X7 D I) (Nat.le_of_ble_eq_true rfl) w_2_166 rfl rfl rfl (Nat.le_of_ble_eq_true rfl) rfl ?_
      refine G_aload_n 2 d_cX7_step_125 rfl ?_
      refine G_iconst 0 d_cX7_step_126 (by decide +kernel) ?_
      refine G_callV (As := [.int 0]) (wr := [(q2843, .inr (5, [.ref q2848, .ref q2849, .ref q2850, .ref q2851, .ref q2852, .ref q2853, .ref q2854, .ref q2855, .ref q2856, .int p2865, .int p2866, .int p2867])), (q2848, .inl (I .int, 40, .inl f2872)), (q2849, .inl (I .int, 40, .inl f2873)), (q2850, .inl (I .int, 40, .inl f2874)), (q2851, .inl (I .int, 200, .inl f2875)), (q2852, .inl (I .int, 200, .inl f2876)), (q2853, .inl (I .int, 200, .inl f2877)), (q2854, .inl (I .int, 200, .inl f2878)), (q2855, .inl (I .int, 200, .inl f2879)), (q2856, .inl (I .int, 200, .inl f2880))]) (gV_ok D I) (ct_2837_Machine_halt l hl0 D I q2842 q2844 q2845 q2846 q2847 0 p2858 p2859 z2916 p2861 p2862 p2863 p2864 f2868 f2869 f2870 f2871 bp2858 bp2859 bp2861 bp2863) d_cX7_step_127 ⟨w_6_86, w_1_12, w_6_89, by decide, rfl, (Nat.le_of_ble_eq_true rfl), (Nat.le_of_ble_eq_true rfl)⟩ w_6_88 w_p_60 10 rfl rfl [10, 11, 12, 13, 14] [0, 1, 2, 3, 4, 5, 6, 7, 8, 9] rfl rfl rfl rfl (by decide) (Nat.le_of_ble_eq_true rfl) (Nat.le_of_ble_eq_true rfl) (Nat.le_of_ble_eq_true rfl) (fun r w hp => ?_) (fun _ _ _ z => z.elim)
      obtain ⟨o3505, rfl, rfl, bo3505, ht3506⟩ := hp
      change G _ _ _ _ _ _ _ (.int (-1) :: _) _ _ _
      refine G_ws (ws' := [(q2843, .inr (5, [.ref q2848, .ref q2849, .ref q2850, .ref q2851, .ref q2852, .ref q2853, .ref q2854, .ref q2855, .ref q2856, .int p2865, .int p2866, .int p2867])), (q2848, .inl (I .int, 40, .inl f2872)), (q2849, .inl (I .int, 40, .inl f2873)), (q2850, .inl (I .int, 40, .inl f2874)), (q2851, .inl (I .int, 200, .inl f2875)), (q2852, .inl (I .int, 200, .inl f2876)), (q2853, .inl (I .int, 200, .inl f2877)), (q2854, .inl (I .int, 200, .inl f2878)), (q2855, .inl (I .int, 200, .inl f2879)), (q2856, .inl (I .int, 200, .inl f2880)), (q2842, .inr (12, [.ref q2844, .ref q2845, .ref q2846, .ref q2847, .int p2858, .int p2859, .int z2916, .int p2861, .int p2862, .int p2863, .int o3505])), (q2844, .inl (I .int, 2048, .inl f2868)), (q2845, .inl (I .int, 100, .inl f2869)), (q2846, .inl (I .int, 100, .inl f2870)), (q2847, .inl (I .int, 512, .inl f2871))]) (cs' := 0) (sl' := 0) rfl rfl rfl ?_
      refine G_sub (ws' := [(q2842, .inr (12, [.ref q2844, .ref q2845, .ref q2846, .ref q2847, .int p2858, .int p2859, .int z2916, .int p2861, .int p2862, .int p2863, .int o3505])), (q2843, .inr (5, [.ref q2848, .ref q2849, .ref q2850, .ref q2851, .ref q2852, .ref q2853, .ref q2854, .ref q2855, .ref q2856, .int p2865, .int p2866, .int p2867])), (q2844, .inl (I .int, 2048, .inl f2868)), (q2845, .inl (I .int, 100, .inl f2869)), (q2846, .inl (I .int, 100, .inl f2870)), (q2847, .inl (I .int, 512, .inl f2871)), (q2848, .inl (I .int, 40, .inl f2872)), (q2849, .inl (I .int, 40, .inl f2873)), (q2850, .inl (I .int, 40, .inl f2874)), (q2851, .inl (I .int, 200, .inl f2875)), (q2852, .inl (I .int, 200, .inl f2876)), (q2853, .inl (I .int, 200, .inl f2877)), (q2854, .inl (I .int, 200, .inl f2878)), (q2855, .inl (I .int, 200, .inl f2879)), (q2856, .inl (I .int, 200, .inl f2880))]) [10, 0, 11, 12, 13, 14, 1, 2, 3, 4, 5, 6, 7, 8, 9] rfl rfl ?_
      exact G_iret d_cX7_step_130 rfl (Nat.le_of_ble_eq_true rfl) (Nat.le_of_ble_eq_true rfl) ⟨(-1), f2869, p2863, p2861, o3505, f2871, f2870, p2859, z2916, rfl, rfl, (gB_w (gBl (show Int32.toInt (-1) = (-1) by decide)) (by decide) (by decide)), (gF_any f2869), bp2863, bp2861, bo3505, (gF_any f2871), (gF_any f2870), bp2859, r2919, (fun R c1 c2 c3 c4 c5 c6 c7 c8 c9 c10 c11 c12 c13 c14 c15 c16 c17 c18 c19 c20 c21 c22 c23 c24 c25 c26 c27 c28 c29 c30 c31 c32 c33 c34 c35 c36 c37 c38 => c30 z2882 z2883 z2884 z2916 o3505 hz2882 bz2882 hz2883 hz2884 r2920 ehs3504 ht3506)⟩
    have ehs3433 := lv_neT hs3433 (show Int32.toInt 14 = 14 by decide)
    have ehs3438 := lv_neT hs3438 (show Int32.toInt 15 = 15 by decide)
    have ehs3446 := lv_neT hs3446 (show Int32.toInt 16 = 16 by decide)
    have ehs3457 := lv_neT hs3457 (show Int32.toInt 17 = 17 by decide)
    have ehs3479 := lv_neT hs3479 (show Int32.toInt 18 = 18 by decide)
    have ehs3484 := lv_neT hs3484 (show Int32.toInt 19 = 19 by decide)
    have ehs3490 := lv_neT hs3490 (show Int32.toInt 20 = 20 by decide)
    have ehs3504 := lv_neT hs3504 (show Int32.toInt 21 = 21 by decide)
    refine G_tableOut 238 d_cX7_step_26 (by omega) (by decide) ?_
    refine G_aload_n 2 d_cX7_step_238 rfl ?_
    refine G_aload_n 3 d_cX7_step_239 rfl ?_
    refine G_getfN 0 7 d_cX7_step_240 rfl (gk_X0 D I) (Nat.le_of_ble_eq_true rfl) (fun _ _ _ h => gn_w 32 rfl h) rfl ?_
    refine G_iload_n 4 d_cX7_step_243 rfl ?_
    refine G_iald 8 0 d_cX7_step_244 rfl rfl (gB_in bp2857 (by decide) (by decide)) (G_nam fun z3507 hz3507 => ?_)
    have bz3507 : gB z3507 (-2147483648) 2147483647 := gB_any z3507
    refine G_aload_n 3 d_cX7_step_245 rfl ?_
    refine G_getfN 0 8 d_cX7_step_246 rfl (gk_X0 D I) (Nat.le_of_ble_eq_true rfl) (fun _ _ _ h => gn_w 35 rfl h) rfl ?_
    refine G_iload_n 4 d_cX7_step_249 rfl ?_
    refine G_iald 9 0 d_cX7_step_250 rfl rfl (gB_in bp2857 (by decide) (by decide)) (G_nam fun z3508 hz3508 => ?_)
    have bz3508 : gB z3508 (-2147483648) 2147483647 := gB_any z3508
    refine G_callV (As := [.int z3507, .int z3508]) (wr := [(q2843, .inr (5, [.ref q2848, .ref q2849, .ref q2850, .ref q2851, .ref q2852, .ref q2853, .ref q2854, .ref q2855, .ref q2856, .int p2865, .int p2866, .int p2867])), (q2848, .inl (I .int, 40, .inl f2872)), (q2849, .inl (I .int, 40, .inl f2873)), (q2850, .inl (I .int, 40, .inl f2874)), (q2851, .inl (I .int, 200, .inl f2875)), (q2852, .inl (I .int, 200, .inl f2876)), (q2853, .inl (I .int, 200, .inl f2877)), (q2854, .inl (I .int, 200, .inl f2878)), (q2855, .inl (I .int, 200, .inl f2879)), (q2856, .inl (I .int, 200, .inl f2880))]) (gV_ok D I) (ct_2903_Machine_valueOf l hl0 D I q2842 q2844 q2845 q2846 q2847 z3507 z3508 p2858 p2859 p2860 p2861 p2862 p2863 p2864 f2868 f2869 f2870 f2871 bp2858 bp2859 bp2861 bp2863) d_cX7_step_251 ⟨w_6_78, w_1_12, w_6_81, by decide, rfl, (Nat.le_of_ble_eq_true rfl), (Nat.le_of_ble_eq_true rfl)⟩ w_6_80 w_p_58 10 rfl rfl [10, 11, 12, 13, 14] [0, 1, 2, 3, 4, 5, 6, 7, 8, 9] rfl rfl rfl rfl (by decide) (Nat.le_of_ble_eq_true rfl) (Nat.le_of_ble_eq_true rfl) (Nat.le_of_ble_eq_true rfl) (fun r w hp => ?_) (fun _ _ _ z => z.elim)
    rcases hp with ⟨rfl, rfl, r3509, r3510⟩ | ⟨rfl, rfl, r3511, r3512, r3513⟩ | ⟨z3514, rfl, rfl, r3515, r3516, hz3514, r3517, r3518⟩
    · have bz3507' : gB z3507 (-2147483648) (-1) := ⟨by omega, by omega⟩
      change G _ _ _ _ _ _ _ (.int z3508 :: _) _ _ _
      refine G_ws (ws' := [(q2843, .inr (5, [.ref q2848, .ref q2849, .ref q2850, .ref q2851, .ref q2852, .ref q2853, .ref q2854, .ref q2855, .ref q2856, .int p2865, .int p2866, .int p2867])), (q2848, .inl (I .int, 40, .inl f2872)), (q2849, .inl (I .int, 40, .inl f2873)), (q2850, .inl (I .int, 40, .inl f2874)), (q2851, .inl (I .int, 200, .inl f2875)), (q2852, .inl (I .int, 200, .inl f2876)), (q2853, .inl (I .int, 200, .inl f2877)), (q2854, .inl (I .int, 200, .inl f2878)), (q2855, .inl (I .int, 200, .inl f2879)), (q2856, .inl (I .int, 200, .inl f2880)), (q2842, .inr (12, [.ref q2844, .ref q2845, .ref q2846, .ref q2847, .int p2858, .int p2859, .int p2860, .int p2861, .int p2862, .int p2863, .int p2864])), (q2844, .inl (I .int, 2048, .inl f2868)), (q2845, .inl (I .int, 100, .inl f2869)), (q2846, .inl (I .int, 100, .inl f2870)), (q2847, .inl (I .int, 512, .inl f2871))]) (cs' := 0) (sl' := 0) rfl rfl rfl ?_
      refine G_istore (L' := [(5, .int z3508), (4, .int z2916), (3, .int z2882), (0, .ref q2842), (1, .ref q2843), (2, .int p2857)]) d_cX7_step_254 (Nat.le_of_ble_eq_true rfl) rfl ?_
      refine G_iload 0 d_cX7_step_256 rfl ?_
      refine G_if_ne 277 d_cX7_step_258 (by decide +kernel) (fun hc3519 => ?_) (fun hc3519 => ?_)
      · have r3520 : z3508.toInt ≠ 0 := gj_neq hc3519 (show Int32.toInt 0 = 0 by decide)
        refine G_aload_n 3 d_cX7_step_277 rfl ?_
        refine G_getf 10 1 d_cX7_step_278 rfl (gk_X7 D I) (Nat.le_of_ble_eq_true rfl) w_2_161 rfl ?_
        refine G_aload_n 4 d_cX7_step_281 rfl ?_
        refine G_getfN 0 4 d_cX7_step_282 rfl (gk_X0 D I) (Nat.le_of_ble_eq_true rfl) (fun _ _ _ h => gn_w 20 rfl h) rfl ?_
        refine G_iload_n 5 d_cX7_step_285 rfl ?_
        refine G_iald 5 0 d_cX7_step_286 rfl rfl (gB_in bp2857 (by decide) (by decide)) (G_nam fun z3521 hz3521 => ?_)
        have bz3521 : gB z3521 (-2147483648) 2147483647 := gB_any z3521
        refine G_iload_n 2 d_cX7_step_287 rfl ?_
        refine G_iload 1 d_cX7_step_288 rfl ?_
        refine G_iload 0 d_cX7_step_290 rfl ?_
        refine G_callS (As := [.int z2882, .int z2916, .int z3508]) (wr := [(q2843, .inr (5, [.ref q2848, .ref q2849, .ref q2850, .ref q2851, .ref q2852, .ref q2853, .ref q2854, .ref q2855, .ref q2856, .int p2865, .int p2866, .int p2867])), (q2848, .inl (I .int, 40, .inl f2872)), (q2849, .inl (I .int, 40, .inl f2873)), (q2850, .inl (I .int, 40, .inl f2874)), (q2851, .inl (I .int, 200, .inl f2875)), (q2852, .inl (I .int, 200, .inl f2876)), (q2853, .inl (I .int, 200, .inl f2877)), (q2854, .inl (I .int, 200, .inl f2878)), (q2855, .inl (I .int, 200, .inl f2879)), (q2856, .inl (I .int, 200, .inl f2880)), (q2842, .inr (12, [.ref q2844, .ref q2845, .ref q2846, .ref q2847, .int p2858, .int p2859, .int p2860, .int p2861, .int p2862, .int p2863, .int p2864])), (q2844, .inl (I .int, 2048, .inl f2868)), (q2845, .inl (I .int, 100, .inl f2869)), (q2846, .inl (I .int, 100, .inl f2870)), (q2847, .inl (I .int, 512, .inl f2871))]) (gV_ok D I) (ct_3156_Machine_calculate l hl0 D I z2882 z2916 z3508 ) d_cX7_step_292 ⟨w_6_105, w_1_12, w_6_107, by decide, rfl, (Nat.le_of_ble_eq_true rfl), (Nat.le_of_ble_eq_true rfl)⟩ w_6_106 [] [0, 1, 2, 3, 4, 5, 6, 7, 8, 9, 10, 11, 12, 13, 14] rfl rfl rfl rfl (by decide) (Nat.le_of_ble_eq_true rfl) (Nat.le_of_ble_eq_true rfl) (Nat.le_of_ble_eq_true rfl) (fun r w hp => ?_) (fun _ _ _ z => z.elim)
        obtain ⟨o3522, rfl, rfl, bo3522, ht3523⟩ := hp
        change G _ _ _ _ _ _ _ (.int o3522 :: _) _ _ _
        refine G_ws (ws' := [(q2843, .inr (5, [.ref q2848, .ref q2849, .ref q2850, .ref q2851, .ref q2852, .ref q2853, .ref q2854, .ref q2855, .ref q2856, .int p2865, .int p2866, .int p2867])), (q2848, .inl (I .int, 40, .inl f2872)), (q2849, .inl (I .int, 40, .inl f2873)), (q2850, .inl (I .int, 40, .inl f2874)), (q2851, .inl (I .int, 200, .inl f2875)), (q2852, .inl (I .int, 200, .inl f2876)), (q2853, .inl (I .int, 200, .inl f2877)), (q2854, .inl (I .int, 200, .inl f2878)), (q2855, .inl (I .int, 200, .inl f2879)), (q2856, .inl (I .int, 200, .inl f2880)), (q2842, .inr (12, [.ref q2844, .ref q2845, .ref q2846, .ref q2847, .int p2858, .int p2859, .int p2860, .int p2861, .int p2862, .int p2863, .int p2864])), (q2844, .inl (I .int, 2048, .inl f2868)), (q2845, .inl (I .int, 100, .inl f2869)), (q2846, .inl (I .int, 100, .inl f2870)), (q2847, .inl (I .int, 512, .inl f2871))]) (cs' := 0) (sl' := 0) rfl rfl rfl ?_
        refine G_callS (As := [.ref q2845, .int z3521, .int o3522]) (wr := [(q2843, .inr (5, [.ref q2848, .ref q2849, .ref q2850, .ref q2851, .ref q2852, .ref q2853, .ref q2854, .ref q2855, .ref q2856, .int p2865, .int p2866, .int p2867])), (q2848, .inl (I .int, 40, .inl f2872)), (q2849, .inl (I .int, 40, .inl f2873)), (q2850, .inl (I .int, 40, .inl f2874)), (q2851, .inl (I .int, 200, .inl f2875)), (q2852, .inl (I .int, 200, .inl f2876)), (q2853, .inl (I .int, 200, .inl f2877)), (q2854, .inl (I .int, 200, .inl f2878)), (q2855, .inl (I .int, 200, .inl f2879)), (q2856, .inl (I .int, 200, .inl f2880)), (q2842, .inr (12, [.ref q2844, .ref q2845, .ref q2846, .ref q2847, .int p2858, .int p2859, .int p2860, .int p2861, .int p2862, .int p2863, .int p2864])), (q2844, .inl (I .int, 2048, .inl f2868)), (q2846, .inl (I .int, 100, .inl f2870)), (q2847, .inl (I .int, 512, .inl f2871))]) (gV_ok D I) (ct_2927_Machine_put l hl0 D I q2845 z3521 o3522 f2869 ) d_cX7_step_295 ⟨w_6_94, w_1_12, w_6_96, by decide, rfl, (Nat.le_of_ble_eq_true rfl), (Nat.le_of_ble_eq_true rfl)⟩ w_6_95 [12] [0, 1, 2, 3, 4, 5, 6, 7, 8, 9, 10, 11, 13, 14] rfl rfl rfl rfl (by decide) (Nat.le_of_ble_eq_true rfl) (Nat.le_of_ble_eq_true rfl) (Nat.le_of_ble_eq_true rfl) (fun r w hp => ?_) (fun _ _ _ z => z.elim)
        obtain ⟨f3524, rfl, rfl, bf3524, ht3525⟩ := hp
        change G _ _ _ _ _ _ _ _ _ _ _
        refine G_ws (ws' := [(q2843, .inr (5, [.ref q2848, .ref q2849, .ref q2850, .ref q2851, .ref q2852, .ref q2853, .ref q2854, .ref q2855, .ref q2856, .int p2865, .int p2866, .int p2867])), (q2848, .inl (I .int, 40, .inl f2872)), (q2849, .inl (I .int, 40, .inl f2873)), (q2850, .inl (I .int, 40, .inl f2874)), (q2851, .inl (I .int, 200, .inl f2875)), (q2852, .inl (I .int, 200, .inl f2876)), (q2853, .inl (I .int, 200, .inl f2877)), (q2854, .inl (I .int, 200, .inl f2878)), (q2855, .inl (I .int, 200, .inl f2879)), (q2856, .inl (I .int, 200, .inl f2880)), (q2842, .inr (12, [.ref q2844, .ref q2845, .ref q2846, .ref q2847, .int p2858, .int p2859, .int p2860, .int p2861, .int p2862, .int p2863, .int p2864])), (q2844, .inl (I .int, 2048, .inl f2868)), (q2846, .inl (I .int, 100, .inl f2870)), (q2847, .inl (I .int, 512, .inl f2871)), (q2845, .inl (I .int, 100, .inl f3524))]) (cs' := 0) (sl' := 0) rfl rfl rfl ?_
        refine G_iload_n 5 d_cX7_step_298 rfl ?_
        refine G_iconst 1 d_cX7_step_299 (by decide +kernel) ?_
        refine G_iadd d_cX7_step_300 (G_nam fun z3526 hz3526 => ?_)
        have ez3526 : z3526.toInt = p2857.toInt + 1 := by rw [gI_add hz3526 bp2857 (gBl (show Int32.toInt 1 = 1 by decide)) (by decide) (by decide), show Int32.toInt 1 = 1 from by decide]
        have bz3526 : gB z3526 1 200 := gB_add (gI_add hz3526 bp2857 (gBl (show Int32.toInt 1 = 1 by decide)) (by decide) (by decide)) bp2857 (gBl (show Int32.toInt 1 = 1 by decide)) (by decide) (by decide)
        refine G_sub (ws' := [(q2842, .inr (12, [.ref q2844, .ref q2845, .ref q2846, .ref q2847, .int p2858, .int p2859, .int p2860, .int p2861, .int p2862, .int p2863, .int p2864])), (q2843, .inr (5, [.ref q2848, .ref q2849, .ref q2850, .ref q2851, .ref q2852, .ref q2853, .ref q2854, .ref q2855, .ref q2856, .int p2865, .int p2866, .int p2867])), (q2844, .inl (I .int, 2048, .inl f2868)), (q2845, .inl (I .int, 100, .inl f3524)), (q2846, .inl (I .int, 100, .inl f2870)), (q2847, .inl (I .int, 512, .inl f2871)), (q2848, .inl (I .int, 40, .inl f2872)), (q2849, .inl (I .int, 40, .inl f2873)), (q2850, .inl (I .int, 40, .inl f2874)), (q2851, .inl (I .int, 200, .inl f2875)), (q2852, .inl (I .int, 200, .inl f2876)), (q2853, .inl (I .int, 200, .inl f2877)), (q2854, .inl (I .int, 200, .inl f2878)), (q2855, .inl (I .int, 200, .inl f2879)), (q2856, .inl (I .int, 200, .inl f2880))]) [10, 0, 11, 14, 12, 13, 1, 2, 3, 4, 5, 6, 7, 8, 9] rfl rfl ?_
        exact G_iret d_cX7_step_301 rfl (Nat.le_of_ble_eq_true rfl) (Nat.le_of_ble_eq_true rfl) ⟨z3526, f3524, p2863, p2861, p2864, f2871, f2870, p2859, p2860, rfl, rfl, (gB_w bz3526 (by decide) (by decide)), bf3524, bp2863, bp2861, bp2864, (gF_any f2871), (gF_any f2870), bp2859, bp2860, (fun R c1 c2 c3 c4 c5 c6 c7 c8 c9 c10 c11 c12 c13 c14 c15 c16 c17 c18 c19 c20 c21 c22 c23 c24 c25 c26 c27 c28 c29 c30 c31 c32 c33 c34 c35 c36 c37 c38 => c31 z2882 z2883 z2884 z2916 z3507 z3508 z3521 o3522 f3524 z3526 hz2882 bz2882 hz2883 hz2884 r2920 ehs3433 ehs3438 ehs3446 ehs3457 ehs3479 ehs3484 ehs3490 ehs3504 hz3507 hz3508 r3510 r3520 hz3521 ht3523 ht3525 ez3526)⟩
      · have r3527 : z3508.toInt = 0 := gj_eq hc3519 (show Int32.toInt 0 = 0 by decide)
        have bz3508' : gB z3508 0 0 := ⟨by omega, by omega⟩
        refine G_iload_n 2 d_cX7_step_261 rfl ?_
        refine G_iconst 3 d_cX7_step_262 (by decide +kernel) ?_
        refine G_icmp_eq 271 d_cX7_step_263 (by decide +kernel) (fun hc3528 => ?_) (fun hc3528 => ?_)
        · have r3529 : z2882.toInt = 3 := gj_eq hc3528 (show Int32.toInt 3 = 3 by decide)
          have bz2882' : gB z2882 3 3 := ⟨by omega, by omega⟩
          refine G_aload_n 3 d_cX7_step_271 rfl ?_
          refine G_iconst 1 d_cX7_step_272 (by decide +kernel) ?_
          refine G_callV (As := [.int 1]) (wr := [(q2843, .inr (5, [.ref q2848, .ref q2849, .ref q2850, .ref q2851, .ref q2852, .ref q2853, .ref q2854, .ref q2855, .ref q2856, .int p2865, .int p2866, .int p2867])), (q2848, .inl (I .int, 40, .inl f2872)), (q2849, .inl (I .int, 40, .inl f2873)), (q2850, .inl (I .int, 40, .inl f2874)), (q2851, .inl (I .int, 200, .inl f2875)), (q2852, .inl (I .int, 200, .inl f2876)), (q2853, .inl (I .int, 200, .inl f2877)), (q2854, .inl (I .int, 200, .inl f2878)), (q2855, .inl (I .int, 200, .inl f2879)), (q2856, .inl (I .int, 200, .inl f2880))]) (gV_ok D I) (ct_2837_Machine_halt l hl0 D I q2842 q2844 q2845 q2846 q2847 1 p2858 p2859 p2860 p2861 p2862 p2863 p2864 f2868 f2869 f2870 f2871 bp2858 bp2859 bp2861 bp2863) d_cX7_step_273 ⟨w_6_86, w_1_12, w_6_89, by decide, rfl, (Nat.le_of_ble_eq_true rfl), (Nat.le_of_ble_eq_true rfl)⟩ w_6_88 w_p_60 10 rfl rfl [10, 11, 12, 13, 14] [0, 1, 2, 3, 4, 5, 6, 7, 8, 9] rfl rfl rfl rfl (by decide) (Nat.le_of_ble_eq_true rfl) (Nat.le_of_ble_eq_true rfl) (Nat.le_of_ble_eq_true rfl) (fun r w hp => ?_) (fun _ _ _ z => z.elim)
          obtain ⟨o3530, rfl, rfl, bo3530, ht3531⟩ := hp
          change G _ _ _ _ _ _ _ (.int (-1) :: _) _ _ _
          refine G_ws (ws' := [(q2843, .inr (5, [.ref q2848, .ref q2849, .ref q2850, .ref q2851, .ref q2852, .ref q2853, .ref q2854, .ref q2855, .ref q2856, .int p2865, .int p2866, .int p2867])), (q2848, .inl (I .int, 40, .inl f2872)), (q2849, .inl (I .int, 40, .inl f2873)), (q2850, .inl (I .int, 40, .inl f2874)), (q2851, .inl (I .int, 200, .inl f2875)), (q2852, .inl (I .int, 200, .inl f2876)), (q2853, .inl (I .int, 200, .inl f2877)), (q2854, .inl (I .int, 200, .inl f2878)), (q2855, .inl (I .int, 200, .inl f2879)), (q2856, .inl (I .int, 200, .inl f2880)), (q2842, .inr (12, [.ref q2844, .ref q2845, .ref q2846, .ref q2847, .int p2858, .int p2859, .int p2860, .int p2861, .int p2862, .int p2863, .int o3530])), (q2844, .inl (I .int, 2048, .inl f2868)), (q2845, .inl (I .int, 100, .inl f2869)), (q2846, .inl (I .int, 100, .inl f2870)), (q2847, .inl (I .int, 512, .inl f2871))]) (cs' := 0) (sl' := 0) rfl rfl rfl ?_
          refine G_sub (ws' := [(q2842, .inr (12, [.ref q2844, .ref q2845, .ref q2846, .ref q2847, .int p2858, .int p2859, .int p2860, .int p2861, .int p2862, .int p2863, .int o3530])), (q2843, .inr (5, [.ref q2848, .ref q2849, .ref q2850, .ref q2851, .ref q2852, .ref q2853, .ref q2854, .ref q2855, .ref q2856, .int p2865, .int p2866, .int p2867])), (q2844, .inl (I .int, 2048, .inl f2868)), (q2845, .inl (I .int, 100, .inl f2869)), (q2846, .inl (I .int, 100, .inl f2870)), (q2847, .inl (I .int, 512, .inl f2871)), (q2848, .inl (I .int, 40, .inl f2872)), (q2849, .inl (I .int, 40, .inl f2873)), (q2850, .inl (I .int, 40, .inl f2874)), (q2851, .inl (I .int, 200, .inl f2875)), (q2852, .inl (I .int, 200, .inl f2876)), (q2853, .inl (I .int, 200, .inl f2877)), (q2854, .inl (I .int, 200, .inl f2878)), (q2855, .inl (I .int, 200, .inl f2879)), (q2856, .inl (I .int, 200, .inl f2880))]) [10, 0, 11, 12, 13, 14, 1, 2, 3, 4, 5, 6, 7, 8, 9] rfl rfl ?_
          exact G_iret d_cX7_step_276 rfl (Nat.le_of_ble_eq_true rfl) (Nat.le_of_ble_eq_true rfl) ⟨(-1), f2869, p2863, p2861, o3530, f2871, f2870, p2859, p2860, rfl, rfl, (gB_w (gBl (show Int32.toInt (-1) = (-1) by decide)) (by decide) (by decide)), (gF_any f2869), bp2863, bp2861, bo3530, (gF_any f2871), (gF_any f2870), bp2859, bp2860, (fun R c1 c2 c3 c4 c5 c6 c7 c8 c9 c10 c11 c12 c13 c14 c15 c16 c17 c18 c19 c20 c21 c22 c23 c24 c25 c26 c27 c28 c29 c30 c31 c32 c33 c34 c35 c36 c37 c38 => c32 z2882 z2883 z2884 z2916 z3507 z3508 o3530 hz2882 bz2882 hz2883 hz2884 r2920 ehs3433 ehs3438 ehs3446 ehs3457 ehs3479 ehs3484 ehs3490 ehs3504 hz3507 hz3508 r3510 r3527 r3529 ht3531)⟩
        · have r3532 : z2882.toInt ≠ 3 := gj_neq hc3528 (show Int32.toInt 3 = 3 by decide)
          refine G_iload_n 2 d_cX7_step_266 rfl ?_
          refine G_iconst 4 d_cX7_step_267 (by decide +kernel) ?_
          refine G_icmp_ne 277 d_cX7_step_268 (by decide +kernel) (fun hc3533 => ?_) (fun hc3533 => ?_)
          · have r3534 : z2882.toInt ≠ 4 := gj_neq hc3533 (show Int32.toInt 4 = 4 by decide)
            refine G_aload_n 3 d_cX7_step_277 rfl ?_
            refine G_getf 10 1 d_cX7_step_278 rfl (gk_X7 D I) (Nat.le_of_ble_eq_true rfl) w_2_161 rfl ?_
            refine G_aload_n 4 d_cX7_step_281 rfl ?_
            refine G_getfN 0 4 d_cX7_step_282 rfl (gk_X0 D I) (Nat.le_of_ble_eq_true rfl) (fun _ _ _ h => gn_w 20 rfl h) rfl ?_
            refine G_iload_n 5 d_cX7_step_285 rfl ?_
            refine G_iald 5 0 d_cX7_step_286 rfl rfl (gB_in bp2857 (by decide) (by decide)) (G_nam fun z3535 hz3535 => ?_)
            have bz3535 : gB z3535 (-2147483648) 2147483647 := gB_any z3535
            refine G_iload_n 2 d_cX7_step_287 rfl ?_
            refine G_iload 1 d_cX7_step_288 rfl ?_
            refine G_iload 0 d_cX7_step_290 rfl ?_
            refine G_callS (As := [.int z2882, .int z2916, .int z3508]) (wr := [(q2843, .inr (5, [.ref q2848, .ref q2849, .ref q2850, .ref q2851, .ref q2852, .ref q2853, .ref q2854, .ref q2855, .ref q2856, .int p2865, .int p2866, .int p2867])), (q2848, .inl (I .int, 40, .inl f2872)), (q2849, .inl (I .int, 40, .inl f2873)), (q2850, .inl (I .int, 40, .inl f2874)), (q2851, .inl (I .int, 200, .inl f2875)), (q2852, .inl (I .int, 200, .inl f2876)), (q2853, .inl (I .int, 200, .inl f2877)), (q2854, .inl (I .int, 200, .inl f2878)), (q2855, .inl (I .int, 200, .inl f2879)), (q2856, .inl (I .int, 200, .inl f2880)), (q2842, .inr (12, [.ref q2844, .ref q2845, .ref q2846, .ref q2847, .int p2858, .int p2859, .int p2860, .int p2861, .int p2862, .int p2863, .int p2864])), (q2844, .inl (I .int, 2048, .inl f2868)), (q2845, .inl (I .int, 100, .inl f2869)), (q2846, .inl (I .int, 100, .inl f2870)), (q2847, .inl (I .int, 512, .inl f2871))]) (gV_ok D I) (ct_3156_Machine_calculate l hl0 D I z2882 z2916 z3508 ) d_cX7_step_292 ⟨w_6_105, w_1_12, w_6_107, by decide, rfl, (Nat.le_of_ble_eq_true rfl), (Nat.le_of_ble_eq_true rfl)⟩ w_6_106 [] [0, 1, 2, 3, 4, 5, 6, 7, 8, 9, 10, 11, 12, 13, 14] rfl rfl rfl rfl (by decide) (Nat.le_of_ble_eq_true rfl) (Nat.le_of_ble_eq_true rfl) (Nat.le_of_ble_eq_true rfl) (fun r w hp => ?_) (fun _ _ _ z => z.elim)
            obtain ⟨o3536, rfl, rfl, bo3536, ht3537⟩ := hp
            change G _ _ _ _ _ _ _ (.int o3536 :: _) _ _ _
            refine G_ws (ws' := [(q2843, .inr (5, [.ref q2848, .ref q2849, .ref q2850, .ref q2851, .ref q2852, .ref q2853, .ref q2854, .ref q2855, .ref q2856, .int p2865, .int p2866, .int p2867])), (q2848, .inl (I .int, 40, .inl f2872)), (q2849, .inl (I .int, 40, .inl f2873)), (q2850, .inl (I .int, 40, .inl f2874)), (q2851, .inl (I .int, 200, .inl f2875)), (q2852, .inl (I .int, 200, .inl f2876)), (q2853, .inl (I .int, 200, .inl f2877)), (q2854, .inl (I .int, 200, .inl f2878)), (q2855, .inl (I .int, 200, .inl f2879)), (q2856, .inl (I .int, 200, .inl f2880)), (q2842, .inr (12, [.ref q2844, .ref q2845, .ref q2846, .ref q2847, .int p2858, .int p2859, .int p2860, .int p2861, .int p2862, .int p2863, .int p2864])), (q2844, .inl (I .int, 2048, .inl f2868)), (q2845, .inl (I .int, 100, .inl f2869)), (q2846, .inl (I .int, 100, .inl f2870)), (q2847, .inl (I .int, 512, .inl f2871))]) (cs' := 0) (sl' := 0) rfl rfl rfl ?_
            refine G_callS (As := [.ref q2845, .int z3535, .int o3536]) (wr := [(q2843, .inr (5, [.ref q2848, .ref q2849, .ref q2850, .ref q2851, .ref q2852, .ref q2853, .ref q2854, .ref q2855, .ref q2856, .int p2865, .int p2866, .int p2867])), (q2848, .inl (I .int, 40, .inl f2872)), (q2849, .inl (I .int, 40, .inl f2873)), (q2850, .inl (I .int, 40, .inl f2874)), (q2851, .inl (I .int, 200, .inl f2875)), (q2852, .inl (I .int, 200, .inl f2876)), (q2853, .inl (I .int, 200, .inl f2877)), (q2854, .inl (I .int, 200, .inl f2878)), (q2855, .inl (I .int, 200, .inl f2879)), (q2856, .inl (I .int, 200, .inl f2880)), (q2842, .inr (12, [.ref q2844, .ref q2845, .ref q2846, .ref q2847, .int p2858, .int p2859, .int p2860, .int p2861, .int p2862, .int p2863, .int p2864])), (q2844, .inl (I .int, 2048, .inl f2868)), (q2846, .inl (I .int, 100, .inl f2870)), (q2847, .inl (I .int, 512, .inl f2871))]) (gV_ok D I) (ct_2927_Machine_put l hl0 D I q2845 z3535 o3536 f2869 ) d_cX7_step_295 ⟨w_6_94, w_1_12, w_6_96, by decide, rfl, (Nat.le_of_ble_eq_true rfl), (Nat.le_of_ble_eq_true rfl)⟩ w_6_95 [12] [0, 1, 2, 3, 4, 5, 6, 7, 8, 9, 10, 11, 13, 14] rfl rfl rfl rfl (by decide) (Nat.le_of_ble_eq_true rfl) (Nat.le_of_ble_eq_true rfl) (Nat.le_of_ble_eq_true rfl) (fun r w hp => ?_) (fun _ _ _ z => z.elim)
            obtain ⟨f3538, rfl, rfl, bf3538, ht3539⟩ := hp
            change G _ _ _ _ _ _ _ _ _ _ _
            refine G_ws (ws' := [(q2843, .inr (5, [.ref q2848, .ref q2849, .ref q2850, .ref q2851, .ref q2852, .ref q2853, .ref q2854, .ref q2855, .ref q2856, .int p2865, .int p2866, .int p2867])), (q2848, .inl (I .int, 40, .inl f2872)), (q2849, .inl (I .int, 40, .inl f2873)), (q2850, .inl (I .int, 40, .inl f2874)), (q2851, .inl (I .int, 200, .inl f2875)), (q2852, .inl (I .int, 200, .inl f2876)), (q2853, .inl (I .int, 200, .inl f2877)), (q2854, .inl (I .int, 200, .inl f2878)), (q2855, .inl (I .int, 200, .inl f2879)), (q2856, .inl (I .int, 200, .inl f2880)), (q2842, .inr (12, [.ref q2844, .ref q2845, .ref q2846, .ref q2847, .int p2858, .int p2859, .int p2860, .int p2861, .int p2862, .int p2863, .int p2864])), (q2844, .inl (I .int, 2048, .inl f2868)), (q2846, .inl (I .int, 100, .inl f2870)), (q2847, .inl (I .int, 512, .inl f2871)), (q2845, .inl (I .int, 100, .inl f3538))]) (cs' := 0) (sl' := 0) rfl rfl rfl ?_
            refine G_iload_n 5 d_cX7_step_298 rfl ?_
            refine G_iconst 1 d_cX7_step_299 (by decide +kernel) ?_
            refine G_iadd d_cX7_step_300 (G_nam fun z3540 hz3540 => ?_)
            have ez3540 : z3540.toInt = p2857.toInt + 1 := by rw [gI_add hz3540 bp2857 (gBl (show Int32.toInt 1 = 1 by decide)) (by decide) (by decide), show Int32.toInt 1 = 1 from by decide]
            have bz3540 : gB z3540 1 200 := gB_add (gI_add hz3540 bp2857 (gBl (show Int32.toInt 1 = 1 by decide)) (by decide) (by decide)) bp2857 (gBl (show Int32.toInt 1 = 1 by decide)) (by decide) (by decide)
            refine G_sub (ws' := [(q2842, .inr (12, [.ref q2844, .ref q2845, .ref q2846, .ref q2847, .int p2858, .int p2859, .int p2860, .int p2861, .int p2862, .int p2863, .int p2864])), (q2843, .inr (5, [.ref q2848, .ref q2849, .ref q2850, .ref q2851, .ref q2852, .ref q2853, .ref q2854, .ref q2855, .ref q2856, .int p2865, .int p2866, .int p2867])), (q2844, .inl (I .int, 2048, .inl f2868)), (q2845, .inl (I .int, 100, .inl f3538)), (q2846, .inl (I .int, 100, .inl f2870)), (q2847, .inl (I .int, 512, .inl f2871)), (q2848, .inl (I .int, 40, .inl f2872)), (q2849, .inl (I .int, 40, .inl f2873)), (q2850, .inl (I .int, 40, .inl f2874)), (q2851, .inl (I .int, 200, .inl f2875)), (q2852, .inl (I .int, 200, .inl f2876)), (q2853, .inl (I .int, 200, .inl f2877)), (q2854, .inl (I .int, 200, .inl f2878)), (q2855, .inl (I .int, 200, .inl f2879)), (q2856, .inl (I .int, 200, .inl f2880))]) [10, 0, 11, 14, 12, 13, 1, 2, 3, 4, 5, 6, 7, 8, 9] rfl rfl ?_
            exact G_iret d_cX7_step_301 rfl (Nat.le_of_ble_eq_true rfl) (Nat.le_of_ble_eq_true rfl) ⟨z3540, f3538, p2863, p2861, p2864, f2871, f2870, p2859, p2860, rfl, rfl, (gB_w bz3540 (by decide) (by decide)), bf3538, bp2863, bp2861, bp2864, (gF_any f2871), (gF_any f2870), bp2859, bp2860, (fun R c1 c2 c3 c4 c5 c6 c7 c8 c9 c10 c11 c12 c13 c14 c15 c16 c17 c18 c19 c20 c21 c22 c23 c24 c25 c26 c27 c28 c29 c30 c31 c32 c33 c34 c35 c36 c37 c38 => c33 z2882 z2883 z2884 z2916 z3507 z3508 z3535 o3536 f3538 z3540 hz2882 bz2882 hz2883 hz2884 r2920 ehs3433 ehs3438 ehs3446 ehs3457 ehs3479 ehs3484 ehs3490 ehs3504 hz3507 hz3508 r3510 r3527 r3532 r3534 hz3535 ht3537 ht3539 ez3540)⟩
          · have r3541 : z2882.toInt = 4 := gj_eq hc3533 (show Int32.toInt 4 = 4 by decide)
            have bz2882' : gB z2882 4 4 := ⟨by omega, by omega⟩
            refine G_aload_n 3 d_cX7_step_271 rfl ?_
            refine G_iconst 1 d_cX7_step_272 (by decide +kernel) ?_
            refine G_callV (As := [.int 1]) (wr := [(q2843, .inr (5, [.ref q2848, .ref q2849, .ref q2850, .ref q2851, .ref q2852, .ref q2853, .ref q2854, .ref q2855, .ref q2856, .int p2865, .int p2866, .int p2867])), (q2848, .inl (I .int, 40, .inl f2872)), (q2849, .inl (I .int, 40, .inl f2873)), (q2850, .inl (I .int, 40, .inl f2874)), (q2851, .inl (I .int, 200, .inl f2875)), (q2852, .inl (I .int, 200, .inl f2876)), (q2853, .inl (I .int, 200, .inl f2877)), (q2854, .inl (I .int, 200, .inl f2878)), (q2855, .inl (I .int, 200, .inl f2879)), (q2856, .inl (I .int, 200, .inl f2880))]) (gV_ok D I) (ct_2837_Machine_halt l hl0 D I q2842 q2844 q2845 q2846 q2847 1 p2858 p2859 p2860 p2861 p2862 p2863 p2864 f2868 f2869 f2870 f2871 bp2858 bp2859 bp2861 bp2863) d_cX7_step_273 ⟨w_6_86, w_1_12, w_6_89, by decide, rfl, (Nat.le_of_ble_eq_true rfl), (Nat.le_of_ble_eq_true rfl)⟩ w_6_88 w_p_60 10 rfl rfl [10, 11, 12, 13, 14] [0, 1, 2, 3, 4, 5, 6, 7, 8, 9] rfl rfl rfl rfl (by decide) (Nat.le_of_ble_eq_true rfl) (Nat.le_of_ble_eq_true rfl) (Nat.le_of_ble_eq_true rfl) (fun r w hp => ?_) (fun _ _ _ z => z.elim)
            obtain ⟨o3542, rfl, rfl, bo3542, ht3543⟩ := hp
            change G _ _ _ _ _ _ _ (.int (-1) :: _) _ _ _
            refine G_ws (ws' := [(q2843, .inr (5, [.ref q2848, .ref q2849, .ref q2850, .ref q2851, .ref q2852, .ref q2853, .ref q2854, .ref q2855, .ref q2856, .int p2865, .int p2866, .int p2867])), (q2848, .inl (I .int, 40, .inl f2872)), (q2849, .inl (I .int, 40, .inl f2873)), (q2850, .inl (I .int, 40, .inl f2874)), (q2851, .inl (I .int, 200, .inl f2875)), (q2852, .inl (I .int, 200, .inl f2876)), (q2853, .inl (I .int, 200, .inl f2877)), (q2854, .inl (I .int, 200, .inl f2878)), (q2855, .inl (I .int, 200, .inl f2879)), (q2856, .inl (I .int, 200, .inl f2880)), (q2842, .inr (12, [.ref q2844, .ref q2845, .ref q2846, .ref q2847, .int p2858, .int p2859, .int p2860, .int p2861, .int p2862, .int p2863, .int o3542])), (q2844, .inl (I .int, 2048, .inl f2868)), (q2845, .inl (I .int, 100, .inl f2869)), (q2846, .inl (I .int, 100, .inl f2870)), (q2847, .inl (I .int, 512, .inl f2871))]) (cs' := 0) (sl' := 0) rfl rfl rfl ?_
            refine G_sub (ws' := [(q2842, .inr (12, [.ref q2844, .ref q2845, .ref q2846, .ref q2847, .int p2858, .int p2859, .int p2860, .int p2861, .int p2862, .int p2863, .int o3542])), (q2843, .inr (5, [.ref q2848, .ref q2849, .ref q2850, .ref q2851, .ref q2852, .ref q2853, .ref q2854, .ref q2855, .ref q2856, .int p2865, .int p2866, .int p2867])), (q2844, .inl (I .int, 2048, .inl f2868)), (q2845, .inl (I .int, 100, .inl f2869)), (q2846, .inl (I .int, 100, .inl f2870)), (q2847, .inl (I .int, 512, .inl f2871)), (q2848, .inl (I .int, 40, .inl f2872)), (q2849, .inl (I .int, 40, .inl f2873)), (q2850, .inl (I .int, 40, .inl f2874)), (q2851, .inl (I .int, 200, .inl f2875)), (q2852, .inl (I .int, 200, .inl f2876)), (q2853, .inl (I .int, 200, .inl f2877)), (q2854, .inl (I .int, 200, .inl f2878)), (q2855, .inl (I .int, 200, .inl f2879)), (q2856, .inl (I .int, 200, .inl f2880))]) [10, 0, 11, 12, 13, 14, 1, 2, 3, 4, 5, 6, 7, 8, 9] rfl rfl ?_
            exact G_iret d_cX7_step_276 rfl (Nat.le_of_ble_eq_true rfl) (Nat.le_of_ble_eq_true rfl) ⟨(-1), f2869, p2863, p2861, o3542, f2871, f2870, p2859, p2860, rfl, rfl, (gB_w (gBl (show Int32.toInt (-1) = (-1) by decide)) (by decide) (by decide)), (gF_any f2869), bp2863, bp2861, bo3542, (gF_any f2871), (gF_any f2870), bp2859, bp2860, (fun R c1 c2 c3 c4 c5 c6 c7 c8 c9 c10 c11 c12 c13 c14 c15 c16 c17 c18 c19 c20 c21 c22 c23 c24 c25 c26 c27 c28 c29 c30 c31 c32 c33 c34 c35 c36 c37 c38 => c34 z2882 z2883 z2884 z2916 z3507 z3508 o3542 hz2882 bz2882 hz2883 hz2884 r2920 ehs3433 ehs3438 ehs3446 ehs3457 ehs3479 ehs3484 ehs3490 ehs3504 hz3507 hz3508 r3510 r3527 r3532 r3541 ht3543)⟩
    · have bz3507' : gB z3507 0 2147483647 := ⟨by omega, by omega⟩
      have bz3507'' : gB z3507 100 2147483647 := ⟨by omega, by omega⟩
      change G _ _ _ _ _ _ _ (.int z3508 :: _) _ _ _
      refine G_ws (ws' := [(q2843, .inr (5, [.ref q2848, .ref q2849, .ref q2850, .ref q2851, .ref q2852, .ref q2853, .ref q2854, .ref q2855, .ref q2856, .int p2865, .int p2866, .int p2867])), (q2848, .inl (I .int, 40, .inl f2872)), (q2849, .inl (I .int, 40, .inl f2873)), (q2850, .inl (I .int, 40, .inl f2874)), (q2851, .inl (I .int, 200, .inl f2875)), (q2852, .inl (I .int, 200, .inl f2876)), (q2853, .inl (I .int, 200, .inl f2877)), (q2854, .inl (I .int, 200, .inl f2878)), (q2855, .inl (I .int, 200, .inl f2879)), (q2856, .inl (I .int, 200, .inl f2880)), (q2842, .inr (12, [.ref q2844, .ref q2845, .ref q2846, .ref q2847, .int p2858, .int p2859, .int p2860, .int p2861, .int p2862, .int p2863, .int p2864])), (q2844, .inl (I .int, 2048, .inl f2868)), (q2845, .inl (I .int, 100, .inl f2869)), (q2846, .inl (I .int, 100, .inl f2870)), (q2847, .inl (I .int, 512, .inl f2871))]) (cs' := 0) (sl' := 0) rfl rfl rfl ?_
      refine G_istore (L' := [(5, .int z3508), (4, .int z2916), (3, .int z2882), (0, .ref q2842), (1, .ref q2843), (2, .int p2857)]) d_cX7_step_254 (Nat.le_of_ble_eq_true rfl) rfl ?_
      refine G_iload 0 d_cX7_step_256 rfl ?_
      refine G_if_ne 277 d_cX7_step_258 (by decide +kernel) (fun hc3544 => ?_) (fun hc3544 => ?_)
      · have r3545 : z3508.toInt ≠ 0 := gj_neq hc3544 (show Int32.toInt 0 = 0 by decide)
        refine G_aload_n 3 d_cX7_step_277 rfl ?_
        refine G_getf 10 1 d_cX7_step_278 rfl (gk_X7 D I) (Nat.le_of_ble_eq_true rfl) w_2_161 rfl ?_
        refine G_aload_n 4 d_cX7_step_281 rfl ?_
        refine G_getfN 0 4 d_cX7_step_282 rfl (gk_X0 D I) (Nat.le_of_ble_eq_true rfl) (fun _ _ _ h => gn_w 20 rfl h) rfl ?_
        refine G_iload_n 5 d_cX7_step_285 rfl ?_
        refine G_iald 5 0 d_cX7_step_286 rfl rfl (gB_in bp2857 (by decide) (by decide)) (G_nam fun z3546 hz3546 => ?_)
        have bz3546 : gB z3546 (-2147483648) 2147483647 := gB_any z3546
        refine G_iload_n 2 d_cX7_step_287 rfl ?_
        refine G_iload 1 d_cX7_step_288 rfl ?_
        refine G_iload 0 d_cX7_step_290 rfl ?_
        refine G_callS (As := [.int z2882, .int z2916, .int z3508]) (wr := [(q2843, .inr (5, [.ref q2848, .ref q2849, .ref q2850, .ref q2851, .ref q2852, .ref q2853, .ref q2854, .ref q2855, .ref q2856, .int p2865, .int p2866, .int p2867])), (q2848, .inl (I .int, 40, .inl f2872)), (q2849, .inl (I .int, 40, .inl f2873)), (q2850, .inl (I .int, 40, .inl f2874)), (q2851, .inl (I .int, 200, .inl f2875)), (q2852, .inl (I .int, 200, .inl f2876)), (q2853, .inl (I .int, 200, .inl f2877)), (q2854, .inl (I .int, 200, .inl f2878)), (q2855, .inl (I .int, 200, .inl f2879)), (q2856, .inl (I .int, 200, .inl f2880)), (q2842, .inr (12, [.ref q2844, .ref q2845, .ref q2846, .ref q2847, .int p2858, .int p2859, .int p2860, .int p2861, .int p2862, .int p2863, .int p2864])), (q2844, .inl (I .int, 2048, .inl f2868)), (q2845, .inl (I .int, 100, .inl f2869)), (q2846, .inl (I .int, 100, .inl f2870)), (q2847, .inl (I .int, 512, .inl f2871))]) (gV_ok D I) (ct_3156_Machine_calculate l hl0 D I z2882 z2916 z3508 ) d_cX7_step_292 ⟨w_6_105, w_1_12, w_6_107, by decide, rfl, (Nat.le_of_ble_eq_true rfl), (Nat.le_of_ble_eq_true rfl)⟩ w_6_106 [] [0, 1, 2, 3, 4, 5, 6, 7, 8, 9, 10, 11, 12, 13, 14] rfl rfl rfl rfl (by decide) (Nat.le_of_ble_eq_true rfl) (Nat.le_of_ble_eq_true rfl) (Nat.le_of_ble_eq_true rfl) (fun r w hp => ?_) (fun _ _ _ z => z.elim)
        obtain ⟨o3547, rfl, rfl, bo3547, ht3548⟩ := hp
        change G _ _ _ _ _ _ _ (.int o3547 :: _) _ _ _
        refine G_ws (ws' := [(q2843, .inr (5, [.ref q2848, .ref q2849, .ref q2850, .ref q2851, .ref q2852, .ref q2853, .ref q2854, .ref q2855, .ref q2856, .int p2865, .int p2866, .int p2867])), (q2848, .inl (I .int, 40, .inl f2872)), (q2849, .inl (I .int, 40, .inl f2873)), (q2850, .inl (I .int, 40, .inl f2874)), (q2851, .inl (I .int, 200, .inl f2875)), (q2852, .inl (I .int, 200, .inl f2876)), (q2853, .inl (I .int, 200, .inl f2877)), (q2854, .inl (I .int, 200, .inl f2878)), (q2855, .inl (I .int, 200, .inl f2879)), (q2856, .inl (I .int, 200, .inl f2880)), (q2842, .inr (12, [.ref q2844, .ref q2845, .ref q2846, .ref q2847, .int p2858, .int p2859, .int p2860, .int p2861, .int p2862, .int p2863, .int p2864])), (q2844, .inl (I .int, 2048, .inl f2868)), (q2845, .inl (I .int, 100, .inl f2869)), (q2846, .inl (I .int, 100, .inl f2870)), (q2847, .inl (I .int, 512, .inl f2871))]) (cs' := 0) (sl' := 0) rfl rfl rfl ?_
        refine G_callS (As := [.ref q2845, .int z3546, .int o3547]) (wr := [(q2843, .inr (5, [.ref q2848, .ref q2849, .ref q2850, .ref q2851, .ref q2852, .ref q2853, .ref q2854, .ref q2855, .ref q2856, .int p2865, .int p2866, .int p2867])), (q2848, .inl (I .int, 40, .inl f2872)), (q2849, .inl (I .int, 40, .inl f2873)), (q2850, .inl (I .int, 40, .inl f2874)), (q2851, .inl (I .int, 200, .inl f2875)), (q2852, .inl (I .int, 200, .inl f2876)), (q2853, .inl (I .int, 200, .inl f2877)), (q2854, .inl (I .int, 200, .inl f2878)), (q2855, .inl (I .int, 200, .inl f2879)), (q2856, .inl (I .int, 200, .inl f2880)), (q2842, .inr (12, [.ref q2844, .ref q2845, .ref q2846, .ref q2847, .int p2858, .int p2859, .int p2860, .int p2861, .int p2862, .int p2863, .int p2864])), (q2844, .inl (I .int, 2048, .inl f2868)), (q2846, .inl (I .int, 100, .inl f2870)), (q2847, .inl (I .int, 512, .inl f2871))]) (gV_ok D I) (ct_2927_Machine_put l hl0 D I q2845 z3546 o3547 f2869 ) d_cX7_step_295 ⟨w_6_94, w_1_12, w_6_96, by decide, rfl, (Nat.le_of_ble_eq_true rfl), (Nat.le_of_ble_eq_true rfl)⟩ w_6_95 [12] [0, 1, 2, 3, 4, 5, 6, 7, 8, 9, 10, 11, 13, 14] rfl rfl rfl rfl (by decide) (Nat.le_of_ble_eq_true rfl) (Nat.le_of_ble_eq_true rfl) (Nat.le_of_ble_eq_true rfl) (fun r w hp => ?_) (fun _ _ _ z => z.elim)
        obtain ⟨f3549, rfl, rfl, bf3549, ht3550⟩ := hp
        change G _ _ _ _ _ _ _ _ _ _ _
        refine G_ws (ws' := [(q2843, .inr (5, [.ref q2848, .ref q2849, .ref q2850, .ref q2851, .ref q2852, .ref q2853, .ref q2854, .ref q2855, .ref q2856, .int p2865, .int p2866, .int p2867])), (q2848, .inl (I .int, 40, .inl f2872)), (q2849, .inl (I .int, 40, .inl f2873)), (q2850, .inl (I .int, 40, .inl f2874)), (q2851, .inl (I .int, 200, .inl f2875)), (q2852, .inl (I .int, 200, .inl f2876)), (q2853, .inl (I .int, 200, .inl f2877)), (q2854, .inl (I .int, 200, .inl f2878)), (q2855, .inl (I .int, 200, .inl f2879)), (q2856, .inl (I .int, 200, .inl f2880)), (q2842, .inr (12, [.ref q2844, .ref q2845, .ref q2846, .ref q2847, .int p2858, .int p2859, .int p2860, .int p2861, .int p2862, .int p2863, .int p2864])), (q2844, .inl (I .int, 2048, .inl f2868)), (q2846, .inl (I .int, 100, .inl f2870)), (q2847, .inl (I .int, 512, .inl f2871)), (q2845, .inl (I .int, 100, .inl f3549))]) (cs' := 0) (sl' := 0) rfl rfl rfl ?_
        refine G_iload_n 5 d_cX7_step_298 rfl ?_
        refine G_iconst 1 d_cX7_step_299 (by decide +kernel) ?_
        refine G_iadd d_cX7_step_300 (G_nam fun z3551 hz3551 => ?_)
        have ez3551 : z3551.toInt = p2857.toInt + 1 := by rw [gI_add hz3551 bp2857 (gBl (show Int32.toInt 1 = 1 by decide)) (by decide) (by decide), show Int32.toInt 1 = 1 from by decide]
        have bz3551 : gB z3551 1 200 := gB_add (gI_add hz3551 bp2857 (gBl (show Int32.toInt 1 = 1 by decide)) (by decide) (by decide)) bp2857 (gBl (show Int32.toInt 1 = 1 by decide)) (by decide) (by decide)
        refine G_sub (ws' := [(q2842, .inr (12, [.ref q2844, .ref q2845, .ref q2846, .ref q2847, .int p2858, .int p2859, .int p2860, .int p2861, .int p2862, .int p2863, .int p2864])), (q2843, .inr (5, [.ref q2848, .ref q2849, .ref q2850, .ref q2851, .ref q2852, .ref q2853, .ref q2854, .ref q2855, .ref q2856, .int p2865, .int p2866, .int p2867])), (q2844, .inl (I .int, 2048, .inl f2868)), (q2845, .inl (I .int, 100, .inl f3549)), (q2846, .inl (I .int, 100, .inl f2870)), (q2847, .inl (I .int, 512, .inl f2871)), (q2848, .inl (I .int, 40, .inl f2872)), (q2849, .inl (I .int, 40, .inl f2873)), (q2850, .inl (I .int, 40, .inl f2874)), (q2851, .inl (I .int, 200, .inl f2875)), (q2852, .inl (I .int, 200, .inl f2876)), (q2853, .inl (I .int, 200, .inl f2877)), (q2854, .inl (I .int, 200, .inl f2878)), (q2855, .inl (I .int, 200, .inl f2879)), (q2856, .inl (I .int, 200, .inl f2880))]) [10, 0, 11, 14, 12, 13, 1, 2, 3, 4, 5, 6, 7, 8, 9] rfl rfl ?_
        exact G_iret d_cX7_step_301 rfl (Nat.le_of_ble_eq_true rfl) (Nat.le_of_ble_eq_true rfl) ⟨z3551, f3549, p2863, p2861, p2864, f2871, f2870, p2859, p2860, rfl, rfl, (gB_w bz3551 (by decide) (by decide)), bf3549, bp2863, bp2861, bp2864, (gF_any f2871), (gF_any f2870), bp2859, bp2860, (fun R c1 c2 c3 c4 c5 c6 c7 c8 c9 c10 c11 c12 c13 c14 c15 c16 c17 c18 c19 c20 c21 c22 c23 c24 c25 c26 c27 c28 c29 c30 c31 c32 c33 c34 c35 c36 c37 c38 => c31 z2882 z2883 z2884 z2916 z3507 z3508 z3546 o3547 f3549 z3551 hz2882 bz2882 hz2883 hz2884 r2920 ehs3433 ehs3438 ehs3446 ehs3457 ehs3479 ehs3484 ehs3490 ehs3504 hz3507 hz3508 r3513 r3545 hz3546 ht3548 ht3550 ez3551)⟩
      · have r3552 : z3508.toInt = 0 := gj_eq hc3544 (show Int32.toInt 0 = 0 by decide)
        have bz3508' : gB z3508 0 0 := ⟨by omega, by omega⟩
        refine G_iload_n 2 d_cX7_step_261 rfl ?_
        refine G_iconst 3 d_cX7_step_262 (by decide +kernel) ?_
        refine G_icmp_eq 271 d_cX7_step_263 (by decide +kernel) (fun hc3553 => ?_) (fun hc3553 => ?_)
        · have r3554 : z2882.toInt = 3 := gj_eq hc3553 (show Int32.toInt 3 = 3 by decide)
          have bz2882' : gB z2882 3 3 := ⟨by omega, by omega⟩
          refine G_aload_n 3 d_cX7_step_271 rfl ?_
          refine G_iconst 1 d_cX7_step_272 (by decide +kernel) ?_
          refine G_callV (As := [.int 1]) (wr := [(q2843, .inr (5, [.ref q2848, .ref q2849, .ref q2850, .ref q2851, .ref q2852, .ref q2853, .ref q2854, .ref q2855, .ref q2856, .int p2865, .int p2866, .int p2867])), (q2848, .inl (I .int, 40, .inl f2872)), (q2849, .inl (I .int, 40, .inl f2873)), (q2850, .inl (I .int, 40, .inl f2874)), (q2851, .inl (I .int, 200, .inl f2875)), (q2852, .inl (I .int, 200, .inl f2876)), (q2853, .inl (I .int, 200, .inl f2877)), (q2854, .inl (I .int, 200, .inl f2878)), (q2855, .inl (I .int, 200, .inl f2879)), (q2856, .inl (I .int, 200, .inl f2880))]) (gV_ok D I) (ct_2837_Machine_halt l hl0 D I q2842 q2844 q2845 q2846 q2847 1 p2858 p2859 p2860 p2861 p2862 p2863 p2864 f2868 f2869 f2870 f2871 bp2858 bp2859 bp2861 bp2863) d_cX7_step_273 ⟨w_6_86, w_1_12, w_6_89, by decide, rfl, (Nat.le_of_ble_eq_true rfl), (Nat.le_of_ble_eq_true rfl)⟩ w_6_88 w_p_60 10 rfl rfl [10, 11, 12, 13, 14] [0, 1, 2, 3, 4, 5, 6, 7, 8, 9] rfl rfl rfl rfl (by decide) (Nat.le_of_ble_eq_true rfl) (Nat.le_of_ble_eq_true rfl) (Nat.le_of_ble_eq_true rfl) (fun r w hp => ?_) (fun _ _ _ z => z.elim)
          obtain ⟨o3555, rfl, rfl, bo3555, ht3556⟩ := hp
          change G _ _ _ _ _ _ _ (.int (-1) :: _) _ _ _
          refine G_ws (ws' := [(q2843, .inr (5, [.ref q2848, .ref q2849, .ref q2850, .ref q2851, .ref q2852, .ref q2853, .ref q2854, .ref q2855, .ref q2856, .int p2865, .int p2866, .int p2867])), (q2848, .inl (I .int, 40, .inl f2872)), (q2849, .inl (I .int, 40, .inl f2873)), (q2850, .inl (I .int, 40, .inl f2874)), (q2851, .inl (I .int, 200, .inl f2875)), (q2852, .inl (I .int, 200, .inl f2876)), (q2853, .inl (I .int, 200, .inl f2877)), (q2854, .inl (I .int, 200, .inl f2878)), (q2855, .inl (I .int, 200, .inl f2879)), (q2856, .inl (I .int, 200, .inl f2880)), (q2842, .inr (12, [.ref q2844, .ref q2845, .ref q2846, .ref q2847, .int p2858, .int p2859, .int p2860, .int p2861, .int p2862, .int p2863, .int o3555])), (q2844, .inl (I .int, 2048, .inl f2868)), (q2845, .inl (I .int, 100, .inl f2869)), (q2846, .inl (I .int, 100, .inl f2870)), (q2847, .inl (I .int, 512, .inl f2871))]) (cs' := 0) (sl' := 0) rfl rfl rfl ?_
          refine G_sub (ws' := [(q2842, .inr (12, [.ref q2844, .ref q2845, .ref q2846, .ref q2847, .int p2858, .int p2859, .int p2860, .int p2861, .int p2862, .int p2863, .int o3555])), (q2843, .inr (5, [.ref q2848, .ref q2849, .ref q2850, .ref q2851, .ref q2852, .ref q2853, .ref q2854, .ref q2855, .ref q2856, .int p2865, .int p2866, .int p2867])), (q2844, .inl (I .int, 2048, .inl f2868)), (q2845, .inl (I .int, 100, .inl f2869)), (q2846, .inl (I .int, 100, .inl f2870)), (q2847, .inl (I .int, 512, .inl f2871)), (q2848, .inl (I .int, 40, .inl f2872)), (q2849, .inl (I .int, 40, .inl f2873)), (q2850, .inl (I .int, 40, .inl f2874)), (q2851, .inl (I .int, 200, .inl f2875)), (q2852, .inl (I .int, 200, .inl f2876)), (q2853, .inl (I .int, 200, .inl f2877)), (q2854, .inl (I .int, 200, .inl f2878)), (q2855, .inl (I .int, 200, .inl f2879)), (q2856, .inl (I .int, 200, .inl f2880))]) [10, 0, 11, 12, 13, 14, 1, 2, 3, 4, 5, 6, 7, 8, 9] rfl rfl ?_
          exact G_iret d_cX7_step_276 rfl (Nat.le_of_ble_eq_true rfl) (Nat.le_of_ble_eq_true rfl) ⟨(-1), f2869, p2863, p2861, o3555, f2871, f2870, p2859, p2860, rfl, rfl, (gB_w (gBl (show Int32.toInt (-1) = (-1) by decide)) (by decide) (by decide)), (gF_any f2869), bp2863, bp2861, bo3555, (gF_any f2871), (gF_any f2870), bp2859, bp2860, (fun R c1 c2 c3 c4 c5 c6 c7 c8 c9 c10 c11 c12 c13 c14 c15 c16 c17 c18 c19 c20 c21 c22 c23 c24 c25 c26 c27 c28 c29 c30 c31 c32 c33 c34 c35 c36 c37 c38 => c32 z2882 z2883 z2884 z2916 z3507 z3508 o3555 hz2882 bz2882 hz2883 hz2884 r2920 ehs3433 ehs3438 ehs3446 ehs3457 ehs3479 ehs3484 ehs3490 ehs3504 hz3507 hz3508 r3513 r3552 r3554 ht3556)⟩
        · have r3557 : z2882.toInt ≠ 3 := gj_neq hc3553 (show Int32.toInt 3 = 3 by decide)
          refine G_iload_n 2 d_cX7_step_266 rfl ?_
          refine G_iconst 4 d_cX7_step_267 (by decide +kernel) ?_
          refine G_icmp_ne 277 d_cX7_step_268 (by decide +kernel) (fun hc3558 => ?_) (fun hc3558 => ?_)
          · have r3559 : z2882.toInt ≠ 4 := gj_neq hc3558 (show Int32.toInt 4 = 4 by decide)
            refine G_aload_n 3 d_cX7_step_277 rfl ?_
            refine G_getf 10 1 d_cX7_step_278 rfl (gk_X7 D I) (Nat.le_of_ble_eq_true rfl) w_2_161 rfl ?_
            refine G_aload_n 4 d_cX7_step_281 rfl ?_
            refine G_getfN 0 4 d_cX7_step_282 rfl (gk_X0 D I) (Nat.le_of_ble_eq_true rfl) (fun _ _ _ h => gn_w 20 rfl h) rfl ?_
            refine G_iload_n 5 d_cX7_step_285 rfl ?_
            refine G_iald 5 0 d_cX7_step_286 rfl rfl (gB_in bp2857 (by decide) (by decide)) (G_nam fun z3560 hz3560 => ?_)
            have bz3560 : gB z3560 (-2147483648) 2147483647 := gB_any z3560
            refine G_iload_n 2 d_cX7_step_287 rfl ?_
            refine G_iload 1 d_cX7_step_288 rfl ?_
            refine G_iload 0 d_cX7_step_290 rfl ?_
            refine G_callS (As := [.int z2882, .int z2916, .int z3508]) (wr := [(q2843, .inr (5, [.ref q2848, .ref q2849, .ref q2850, .ref q2851, .ref q2852, .ref q2853, .ref q2854, .ref q2855, .ref q2856, .int p2865, .int p2866, .int p2867])), (q2848, .inl (I .int, 40, .inl f2872)), (q2849, .inl (I .int, 40, .inl f2873)), (q2850, .inl (I .int, 40, .inl f2874)), (q2851, .inl (I .int, 200, .inl f2875)), (q2852, .inl (I .int, 200, .inl f2876)), (q2853, .inl (I .int, 200, .inl f2877)), (q2854, .inl (I .int, 200, .inl f2878)), (q2855, .inl (I .int, 200, .inl f2879)), (q2856, .inl (I .int, 200, .inl f2880)), (q2842, .inr (12, [.ref q2844, .ref q2845, .ref q2846, .ref q2847, .int p2858, .int p2859, .int p2860, .int p2861, .int p2862, .int p2863, .int p2864])), (q2844, .inl (I .int, 2048, .inl f2868)), (q2845, .inl (I .int, 100, .inl f2869)), (q2846, .inl (I .int, 100, .inl f2870)), (q2847, .inl (I .int, 512, .inl f2871))]) (gV_ok D I) (ct_3156_Machine_calculate l hl0 D I z2882 z2916 z3508 ) d_cX7_step_292 ⟨w_6_105, w_1_12, w_6_107, by decide, rfl, (Nat.le_of_ble_eq_true rfl), (Nat.le_of_ble_eq_true rfl)⟩ w_6_106 [] [0, 1, 2, 3, 4, 5, 6, 7, 8, 9, 10, 11, 12, 13, 14] rfl rfl rfl rfl (by decide) (Nat.le_of_ble_eq_true rfl) (Nat.le_of_ble_eq_true rfl) (Nat.le_of_ble_eq_true rfl) (fun r w hp => ?_) (fun _ _ _ z => z.elim)
            obtain ⟨o3561, rfl, rfl, bo3561, ht3562⟩ := hp
            change G _ _ _ _ _ _ _ (.int o3561 :: _) _ _ _
            refine G_ws (ws' := [(q2843, .inr (5, [.ref q2848, .ref q2849, .ref q2850, .ref q2851, .ref q2852, .ref q2853, .ref q2854, .ref q2855, .ref q2856, .int p2865, .int p2866, .int p2867])), (q2848, .inl (I .int, 40, .inl f2872)), (q2849, .inl (I .int, 40, .inl f2873)), (q2850, .inl (I .int, 40, .inl f2874)), (q2851, .inl (I .int, 200, .inl f2875)), (q2852, .inl (I .int, 200, .inl f2876)), (q2853, .inl (I .int, 200, .inl f2877)), (q2854, .inl (I .int, 200, .inl f2878)), (q2855, .inl (I .int, 200, .inl f2879)), (q2856, .inl (I .int, 200, .inl f2880)), (q2842, .inr (12, [.ref q2844, .ref q2845, .ref q2846, .ref q2847, .int p2858, .int p2859, .int p2860, .int p2861, .int p2862, .int p2863, .int p2864])), (q2844, .inl (I .int, 2048, .inl f2868)), (q2845, .inl (I .int, 100, .inl f2869)), (q2846, .inl (I .int, 100, .inl f2870)), (q2847, .inl (I .int, 512, .inl f2871))]) (cs' := 0) (sl' := 0) rfl rfl rfl ?_
            refine G_callS (As := [.ref q2845, .int z3560, .int o3561]) (wr := [(q2843, .inr (5, [.ref q2848, .ref q2849, .ref q2850, .ref q2851, .ref q2852, .ref q2853, .ref q2854, .ref q2855, .ref q2856, .int p2865, .int p2866, .int p2867])), (q2848, .inl (I .int, 40, .inl f2872)), (q2849, .inl (I .int, 40, .inl f2873)), (q2850, .inl (I .int, 40, .inl f2874)), (q2851, .inl (I .int, 200, .inl f2875)), (q2852, .inl (I .int, 200, .inl f2876)), (q2853, .inl (I .int, 200, .inl f2877)), (q2854, .inl (I .int, 200, .inl f2878)), (q2855, .inl (I .int, 200, .inl f2879)), (q2856, .inl (I .int, 200, .inl f2880)), (q2842, .inr (12, [.ref q2844, .ref q2845, .ref q2846, .ref q2847, .int p2858, .int p2859, .int p2860, .int p2861, .int p2862, .int p2863, .int p2864])), (q2844, .inl (I .int, 2048, .inl f2868)), (q2846, .inl (I .int, 100, .inl f2870)), (q2847, .inl (I .int, 512, .inl f2871))]) (gV_ok D I) (ct_2927_Machine_put l hl0 D I q2845 z3560 o3561 f2869 ) d_cX7_step_295 ⟨w_6_94, w_1_12, w_6_96, by decide, rfl, (Nat.le_of_ble_eq_true rfl), (Nat.le_of_ble_eq_true rfl)⟩ w_6_95 [12] [0, 1, 2, 3, 4, 5, 6, 7, 8, 9, 10, 11, 13, 14] rfl rfl rfl rfl (by decide) (Nat.le_of_ble_eq_true rfl) (Nat.le_of_ble_eq_true rfl) (Nat.le_of_ble_eq_true rfl) (fun r w hp => ?_) (fun _ _ _ z => z.elim)
            obtain ⟨f3563, rfl, rfl, bf3563, ht3564⟩ := hp
            change G _ _ _ _ _ _ _ _ _ _ _
            refine G_ws (ws' := [(q2843, .inr (5, [.ref q2848, .ref q2849, .ref q2850, .ref q2851, .ref q2852, .ref q2853, .ref q2854, .ref q2855, .ref q2856, .int p2865, .int p2866, .int p2867])), (q2848, .inl (I .int, 40, .inl f2872)), (q2849, .inl (I .int, 40, .inl f2873)), (q2850, .inl (I .int, 40, .inl f2874)), (q2851, .inl (I .int, 200, .inl f2875)), (q2852, .inl (I .int, 200, .inl f2876)), (q2853, .inl (I .int, 200, .inl f2877)), (q2854, .inl (I .int, 200, .inl f2878)), (q2855, .inl (I .int, 200, .inl f2879)), (q2856, .inl (I .int, 200, .inl f2880)), (q2842, .inr (12, [.ref q2844, .ref q2845, .ref q2846, .ref q2847, .int p2858, .int p2859, .int p2860, .int p2861, .int p2862, .int p2863, .int p2864])), (q2844, .inl (I .int, 2048, .inl f2868)), (q2846, .inl (I .int, 100, .inl f2870)), (q2847, .inl (I .int, 512, .inl f2871)), (q2845, .inl (I .int, 100, .inl f3563))]) (cs' := 0) (sl' := 0) rfl rfl rfl ?_
            refine G_iload_n 5 d_cX7_step_298 rfl ?_
            refine G_iconst 1 d_cX7_step_299 (by decide +kernel) ?_
            refine G_iadd d_cX7_step_300 (G_nam fun z3565 hz3565 => ?_)
            have ez3565 : z3565.toInt = p2857.toInt + 1 := by rw [gI_add hz3565 bp2857 (gBl (show Int32.toInt 1 = 1 by decide)) (by decide) (by decide), show Int32.toInt 1 = 1 from by decide]
            have bz3565 : gB z3565 1 200 := gB_add (gI_add hz3565 bp2857 (gBl (show Int32.toInt 1 = 1 by decide)) (by decide) (by decide)) bp2857 (gBl (show Int32.toInt 1 = 1 by decide)) (by decide) (by decide)
            refine G_sub (ws' := [(q2842, .inr (12, [.ref q2844, .ref q2845, .ref q2846, .ref q2847, .int p2858, .int p2859, .int p2860, .int p2861, .int p2862, .int p2863, .int p2864])), (q2843, .inr (5, [.ref q2848, .ref q2849, .ref q2850, .ref q2851, .ref q2852, .ref q2853, .ref q2854, .ref q2855, .ref q2856, .int p2865, .int p2866, .int p2867])), (q2844, .inl (I .int, 2048, .inl f2868)), (q2845, .inl (I .int, 100, .inl f3563)), (q2846, .inl (I .int, 100, .inl f2870)), (q2847, .inl (I .int, 512, .inl f2871)), (q2848, .inl (I .int, 40, .inl f2872)), (q2849, .inl (I .int, 40, .inl f2873)), (q2850, .inl (I .int, 40, .inl f2874)), (q2851, .inl (I .int, 200, .inl f2875)), (q2852, .inl (I .int, 200, .inl f2876)), (q2853, .inl (I .int, 200, .inl f2877)), (q2854, .inl (I .int, 200, .inl f2878)), (q2855, .inl (I .int, 200, .inl f2879)), (q2856, .inl (I .int, 200, .inl f2880))]) [10, 0, 11, 14, 12, 13, 1, 2, 3, 4, 5, 6, 7, 8, 9] rfl rfl ?_
            exact G_iret d_cX7_step_301 rfl (Nat.le_of_ble_eq_true rfl) (Nat.le_of_ble_eq_true rfl) ⟨z3565, f3563, p2863, p2861, p2864, f2871, f2870, p2859, p2860, rfl, rfl, (gB_w bz3565 (by decide) (by decide)), bf3563, bp2863, bp2861, bp2864, (gF_any f2871), (gF_any f2870), bp2859, bp2860, (fun R c1 c2 c3 c4 c5 c6 c7 c8 c9 c10 c11 c12 c13 c14 c15 c16 c17 c18 c19 c20 c21 c22 c23 c24 c25 c26 c27 c28 c29 c30 c31 c32 c33 c34 c35 c36 c37 c38 => c33 z2882 z2883 z2884 z2916 z3507 z3508 z3560 o3561 f3563 z3565 hz2882 bz2882 hz2883 hz2884 r2920 ehs3433 ehs3438 ehs3446 ehs3457 ehs3479 ehs3484 ehs3490 ehs3504 hz3507 hz3508 r3513 r3552 r3557 r3559 hz3560 ht3562 ht3564 ez3565)⟩
          · have r3566 : z2882.toInt = 4 := gj_eq hc3558 (show Int32.toInt 4 = 4 by decide)
            have bz2882' : gB z2882 4 4 := ⟨by omega, by omega⟩
            refine G_aload_n 3 d_cX7_step_271 rfl ?_
            refine G_iconst 1 d_cX7_step_272 (by decide +kernel) ?_
            refine G_callV (As := [.int 1]) (wr := [(q2843, .inr (5, [.ref q2848, .ref q2849, .ref q2850, .ref q2851, .ref q2852, .ref q2853, .ref q2854, .ref q2855, .ref q2856, .int p2865, .int p2866, .int p2867])), (q2848, .inl (I .int, 40, .inl f2872)), (q2849, .inl (I .int, 40, .inl f2873)), (q2850, .inl (I .int, 40, .inl f2874)), (q2851, .inl (I .int, 200, .inl f2875)), (q2852, .inl (I .int, 200, .inl f2876)), (q2853, .inl (I .int, 200, .inl f2877)), (q2854, .inl (I .int, 200, .inl f2878)), (q2855, .inl (I .int, 200, .inl f2879)), (q2856, .inl (I .int, 200, .inl f2880))]) (gV_ok D I) (ct_2837_Machine_halt l hl0 D I q2842 q2844 q2845 q2846 q2847 1 p2858 p2859 p2860 p2861 p2862 p2863 p2864 f2868 f2869 f2870 f2871 bp2858 bp2859 bp2861 bp2863) d_cX7_step_273 ⟨w_6_86, w_1_12, w_6_89, by decide, rfl, (Nat.le_of_ble_eq_true rfl), (Nat.le_of_ble_eq_true rfl)⟩ w_6_88 w_p_60 10 rfl rfl [10, 11, 12, 13, 14] [0, 1, 2, 3, 4, 5, 6, 7, 8, 9] rfl rfl rfl rfl (by decide) (Nat.le_of_ble_eq_true rfl) (Nat.le_of_ble_eq_true rfl) (Nat.le_of_ble_eq_true rfl) (fun r w hp => ?_) (fun _ _ _ z => z.elim)
            obtain ⟨o3567, rfl, rfl, bo3567, ht3568⟩ := hp
            change G _ _ _ _ _ _ _ (.int (-1) :: _) _ _ _
            refine G_ws (ws' := [(q2843, .inr (5, [.ref q2848, .ref q2849, .ref q2850, .ref q2851, .ref q2852, .ref q2853, .ref q2854, .ref q2855, .ref q2856, .int p2865, .int p2866, .int p2867])), (q2848, .inl (I .int, 40, .inl f2872)), (q2849, .inl (I .int, 40, .inl f2873)), (q2850, .inl (I .int, 40, .inl f2874)), (q2851, .inl (I .int, 200, .inl f2875)), (q2852, .inl (I .int, 200, .inl f2876)), (q2853, .inl (I .int, 200, .inl f2877)), (q2854, .inl (I .int, 200, .inl f2878)), (q2855, .inl (I .int, 200, .inl f2879)), (q2856, .inl (I .int, 200, .inl f2880)), (q2842, .inr (12, [.ref q2844, .ref q2845, .ref q2846, .ref q2847, .int p2858, .int p2859, .int p2860, .int p2861, .int p2862, .int p2863, .int o3567])), (q2844, .inl (I .int, 2048, .inl f2868)), (q2845, .inl (I .int, 100, .inl f2869)), (q2846, .inl (I .int, 100, .inl f2870)), (q2847, .inl (I .int, 512, .inl f2871))]) (cs' := 0) (sl' := 0) rfl rfl rfl ?_
            refine G_sub (ws' := [(q2842, .inr (12, [.ref q2844, .ref q2845, .ref q2846, .ref q2847, .int p2858, .int p2859, .int p2860, .int p2861, .int p2862, .int p2863, .int o3567])), (q2843, .inr (5, [.ref q2848, .ref q2849, .ref q2850, .ref q2851, .ref q2852, .ref q2853, .ref q2854, .ref q2855, .ref q2856, .int p2865, .int p2866, .int p2867])), (q2844, .inl (I .int, 2048, .inl f2868)), (q2845, .inl (I .int, 100, .inl f2869)), (q2846, .inl (I .int, 100, .inl f2870)), (q2847, .inl (I .int, 512, .inl f2871)), (q2848, .inl (I .int, 40, .inl f2872)), (q2849, .inl (I .int, 40, .inl f2873)), (q2850, .inl (I .int, 40, .inl f2874)), (q2851, .inl (I .int, 200, .inl f2875)), (q2852, .inl (I .int, 200, .inl f2876)), (q2853, .inl (I .int, 200, .inl f2877)), (q2854, .inl (I .int, 200, .inl f2878)), (q2855, .inl (I .int, 200, .inl f2879)), (q2856, .inl (I .int, 200, .inl f2880))]) [10, 0, 11, 12, 13, 14, 1, 2, 3, 4, 5, 6, 7, 8, 9] rfl rfl ?_
            exact G_iret d_cX7_step_276 rfl (Nat.le_of_ble_eq_true rfl) (Nat.le_of_ble_eq_true rfl) ⟨(-1), f2869, p2863, p2861, o3567, f2871, f2870, p2859, p2860, rfl, rfl, (gB_w (gBl (show Int32.toInt (-1) = (-1) by decide)) (by decide) (by decide)), (gF_any f2869), bp2863, bp2861, bo3567, (gF_any f2871), (gF_any f2870), bp2859, bp2860, (fun R c1 c2 c3 c4 c5 c6 c7 c8 c9 c10 c11 c12 c13 c14 c15 c16 c17 c18 c19 c20 c21 c22 c23 c24 c25 c26 c27 c28 c29 c30 c31 c32 c33 c34 c35 c36 c37 c38 => c34 z2882 z2883 z2884 z2916 z3507 z3508 o3567 hz2882 bz2882 hz2883 hz2884 r2920 ehs3433 ehs3438 ehs3446 ehs3457 ehs3479 ehs3484 ehs3490 ehs3504 hz3507 hz3508 r3513 r3552 r3557 r3566 ht3568)⟩
    · have bz3507' : gB z3507 0 2147483647 := ⟨by omega, by omega⟩
      have bz3507'' : gB z3507 0 99 := ⟨by omega, by omega⟩
      change G _ _ _ _ _ _ _ (.int z3514 :: _) _ _ _
      refine G_ws (ws' := [(q2843, .inr (5, [.ref q2848, .ref q2849, .ref q2850, .ref q2851, .ref q2852, .ref q2853, .ref q2854, .ref q2855, .ref q2856, .int p2865, .int p2866, .int p2867])), (q2848, .inl (I .int, 40, .inl f2872)), (q2849, .inl (I .int, 40, .inl f2873)), (q2850, .inl (I .int, 40, .inl f2874)), (q2851, .inl (I .int, 200, .inl f2875)), (q2852, .inl (I .int, 200, .inl f2876)), (q2853, .inl (I .int, 200, .inl f2877)), (q2854, .inl (I .int, 200, .inl f2878)), (q2855, .inl (I .int, 200, .inl f2879)), (q2856, .inl (I .int, 200, .inl f2880)), (q2842, .inr (12, [.ref q2844, .ref q2845, .ref q2846, .ref q2847, .int p2858, .int p2859, .int p2860, .int p2861, .int p2862, .int p2863, .int p2864])), (q2844, .inl (I .int, 2048, .inl f2868)), (q2845, .inl (I .int, 100, .inl f2869)), (q2846, .inl (I .int, 100, .inl f2870)), (q2847, .inl (I .int, 512, .inl f2871))]) (cs' := 0) (sl' := 0) rfl rfl rfl ?_
      refine G_istore (L' := [(5, .int z3514), (4, .int z2916), (3, .int z2882), (0, .ref q2842), (1, .ref q2843), (2, .int p2857)]) d_cX7_step_254 (Nat.le_of_ble_eq_true rfl) rfl ?_
      refine G_iload 0 d_cX7_step_256 rfl ?_
      refine G_if_ne 277 d_cX7_step_258 (by decide +kernel) (fun hc3569 => ?_) (fun hc3569 => ?_)
      · have r3570 : z3514.toInt ≠ 0 := gj_neq hc3569 (show Int32.toInt 0 = 0 by decide)
        refine G_aload_n 3 d_cX7_step_277 rfl ?_
        refine G_getf 10 1 d_cX7_step_278 rfl (gk_X7 D I) (Nat.le_of_ble_eq_true rfl) w_2_161 rfl ?_
        refine G_aload_n 4 d_cX7_step_281 rfl ?_
        refine G_getfN 0 4 d_cX7_step_282 rfl (gk_X0 D I) (Nat.le_of_ble_eq_true rfl) (fun _ _ _ h => gn_w 20 rfl h) rfl ?_
        refine G_iload_n 5 d_cX7_step_285 rfl ?_
        refine G_iald 5 0 d_cX7_step_286 rfl rfl (gB_in bp2857 (by decide) (by decide)) (G_nam fun z3571 hz3571 => ?_)
        have bz3571 : gB z3571 (-2147483648) 2147483647 := gB_any z3571
        refine G_iload_n 2 d_cX7_step_287 rfl ?_
        refine G_iload 1 d_cX7_step_288 rfl ?_
        refine G_iload 0 d_cX7_step_290 rfl ?_
        refine G_callS (As := [.int z2882, .int z2916, .int z3514]) (wr := [(q2843, .inr (5, [.ref q2848, .ref q2849, .ref q2850, .ref q2851, .ref q2852, .ref q2853, .ref q2854, .ref q2855, .ref q2856, .int p2865, .int p2866, .int p2867])), (q2848, .inl (I .int, 40, .inl f2872)), (q2849, .inl (I .int, 40, .inl f2873)), (q2850, .inl (I .int, 40, .inl f2874)), (q2851, .inl (I .int, 200, .inl f2875)), (q2852, .inl (I .int, 200, .inl f2876)), (q2853, .inl (I .int, 200, .inl f2877)), (q2854, .inl (I .int, 200, .inl f2878)), (q2855, .inl (I .int, 200, .inl f2879)), (q2856, .inl (I .int, 200, .inl f2880)), (q2842, .inr (12, [.ref q2844, .ref q2845, .ref q2846, .ref q2847, .int p2858, .int p2859, .int p2860, .int p2861, .int p2862, .int p2863, .int p2864])), (q2844, .inl (I .int, 2048, .inl f2868)), (q2845, .inl (I .int, 100, .inl f2869)), (q2846, .inl (I .int, 100, .inl f2870)), (q2847, .inl (I .int, 512, .inl f2871))]) (gV_ok D I) (ct_3156_Machine_calculate l hl0 D I z2882 z2916 z3514 ) d_cX7_step_292 ⟨w_6_105, w_1_12, w_6_107, by decide, rfl, (Nat.le_of_ble_eq_true rfl), (Nat.le_of_ble_eq_true rfl)⟩ w_6_106 [] [0, 1, 2, 3, 4, 5, 6, 7, 8, 9, 10, 11, 12, 13, 14] rfl rfl rfl rfl (by decide) (Nat.le_of_ble_eq_true rfl) (Nat.le_of_ble_eq_true rfl) (Nat.le_of_ble_eq_true rfl) (fun r w hp => ?_) (fun _ _ _ z => z.elim)
        obtain ⟨o3572, rfl, rfl, bo3572, ht3573⟩ := hp
        change G _ _ _ _ _ _ _ (.int o3572 :: _) _ _ _
        refine G_ws (ws' := [(q2843, .inr (5, [.ref q2848, .ref q2849, .ref q2850, .ref q2851, .ref q2852, .ref q2853, .ref q2854, .ref q2855, .ref q2856, .int p2865, .int p2866, .int p2867])), (q2848, .inl (I .int, 40, .inl f2872)), (q2849, .inl (I .int, 40, .inl f2873)), (q2850, .inl (I .int, 40, .inl f2874)), (q2851, .inl (I .int, 200, .inl f2875)), (q2852, .inl (I .int, 200, .inl f2876)), (q2853, .inl (I .int, 200, .inl f2877)), (q2854, .inl (I .int, 200, .inl f2878)), (q2855, .inl (I .int, 200, .inl f2879)), (q2856, .inl (I .int, 200, .inl f2880)), (q2842, .inr (12, [.ref q2844, .ref q2845, .ref q2846, .ref q2847, .int p2858, .int p2859, .int p2860, .int p2861, .int p2862, .int p2863, .int p2864])), (q2844, .inl (I .int, 2048, .inl f2868)), (q2845, .inl (I .int, 100, .inl f2869)), (q2846, .inl (I .int, 100, .inl f2870)), (q2847, .inl (I .int, 512, .inl f2871))]) (cs' := 0) (sl' := 0) rfl rfl rfl ?_
        refine G_callS (As := [.ref q2845, .int z3571, .int o3572]) (wr := [(q2843, .inr (5, [.ref q2848, .ref q2849, .ref q2850, .ref q2851, .ref q2852, .ref q2853, .ref q2854, .ref q2855, .ref q2856, .int p2865, .int p2866, .int p2867])), (q2848, .inl (I .int, 40, .inl f2872)), (q2849, .inl (I .int, 40, .inl f2873)), (q2850, .inl (I .int, 40, .inl f2874)), (q2851, .inl (I .int, 200, .inl f2875)), (q2852, .inl (I .int, 200, .inl f2876)), (q2853, .inl (I .int, 200, .inl f2877)), (q2854, .inl (I .int, 200, .inl f2878)), (q2855, .inl (I .int, 200, .inl f2879)), (q2856, .inl (I .int, 200, .inl f2880)), (q2842, .inr (12, [.ref q2844, .ref q2845, .ref q2846, .ref q2847, .int p2858, .int p2859, .int p2860, .int p2861, .int p2862, .int p2863, .int p2864])), (q2844, .inl (I .int, 2048, .inl f2868)), (q2846, .inl (I .int, 100, .inl f2870)), (q2847, .inl (I .int, 512, .inl f2871))]) (gV_ok D I) (ct_2927_Machine_put l hl0 D I q2845 z3571 o3572 f2869 ) d_cX7_step_295 ⟨w_6_94, w_1_12, w_6_96, by decide, rfl, (Nat.le_of_ble_eq_true rfl), (Nat.le_of_ble_eq_true rfl)⟩ w_6_95 [12] [0, 1, 2, 3, 4, 5, 6, 7, 8, 9, 10, 11, 13, 14] rfl rfl rfl rfl (by decide) (Nat.le_of_ble_eq_true rfl) (Nat.le_of_ble_eq_true rfl) (Nat.le_of_ble_eq_true rfl) (fun r w hp => ?_) (fun _ _ _ z => z.elim)
        obtain ⟨f3574, rfl, rfl, bf3574, ht3575⟩ := hp
        change G _ _ _ _ _ _ _ _ _ _ _
        refine G_ws (ws' := [(q2843, .inr (5, [.ref q2848, .ref q2849, .ref q2850, .ref q2851, .ref q2852, .ref q2853, .ref q2854, .ref q2855, .ref q2856, .int p2865, .int p2866, .int p2867])), (q2848, .inl (I .int, 40, .inl f2872)), (q2849, .inl (I .int, 40, .inl f2873)), (q2850, .inl (I .int, 40, .inl f2874)), (q2851, .inl (I .int, 200, .inl f2875)), (q2852, .inl (I .int, 200, .inl f2876)), (q2853, .inl (I .int, 200, .inl f2877)), (q2854, .inl (I .int, 200, .inl f2878)), (q2855, .inl (I .int, 200, .inl f2879)), (q2856, .inl (I .int, 200, .inl f2880)), (q2842, .inr (12, [.ref q2844, .ref q2845, .ref q2846, .ref q2847, .int p2858, .int p2859, .int p2860, .int p2861, .int p2862, .int p2863, .int p2864])), (q2844, .inl (I .int, 2048, .inl f2868)), (q2846, .inl (I .int, 100, .inl f2870)), (q2847, .inl (I .int, 512, .inl f2871)), (q2845, .inl (I .int, 100, .inl f3574))]) (cs' := 0) (sl' := 0) rfl rfl rfl ?_
        refine G_iload_n 5 d_cX7_step_298 rfl ?_
        refine G_iconst 1 d_cX7_step_299 (by decide +kernel) ?_
        refine G_iadd d_cX7_step_300 (G_nam fun z3576 hz3576 => ?_)
        have ez3576 : z3576.toInt = p2857.toInt + 1 := by rw [gI_add hz3576 bp2857 (gBl (show Int32.toInt 1 = 1 by decide)) (by decide) (by decide), show Int32.toInt 1 = 1 from by decide]
        have bz3576 : gB z3576 1 200 := gB_add (gI_add hz3576 bp2857 (gBl (show Int32.toInt 1 = 1 by decide)) (by decide) (by decide)) bp2857 (gBl (show Int32.toInt 1 = 1 by decide)) (by decide) (by decide)
        refine G_sub (ws' := [(q2842, .inr (12, [.ref q2844, .ref q2845, .ref q2846, .ref q2847, .int p2858, .int p2859, .int p2860, .int p2861, .int p2862, .int p2863, .int p2864])), (q2843, .inr (5, [.ref q2848, .ref q2849, .ref q2850, .ref q2851, .ref q2852, .ref q2853, .ref q2854, .ref q2855, .ref q2856, .int p2865, .int p2866, .int p2867])), (q2844, .inl (I .int, 2048, .inl f2868)), (q2845, .inl (I .int, 100, .inl f3574)), (q2846, .inl (I .int, 100, .inl f2870)), (q2847, .inl (I .int, 512, .inl f2871)), (q2848, .inl (I .int, 40, .inl f2872)), (q2849, .inl (I .int, 40, .inl f2873)), (q2850, .inl (I .int, 40, .inl f2874)), (q2851, .inl (I .int, 200, .inl f2875)), (q2852, .inl (I .int, 200, .inl f2876)), (q2853, .inl (I .int, 200, .inl f2877)), (q2854, .inl (I .int, 200, .inl f2878)), (q2855, .inl (I .int, 200, .inl f2879)), (q2856, .inl (I .int, 200, .inl f2880))]) [10, 0, 11, 14, 12, 13, 1, 2, 3, 4, 5, 6, 7, 8, 9] rfl rfl ?_
        exact G_iret d_cX7_step_301 rfl (Nat.le_of_ble_eq_true rfl) (Nat.le_of_ble_eq_true rfl) ⟨z3576, f3574, p2863, p2861, p2864, f2871, f2870, p2859, p2860, rfl, rfl, (gB_w bz3576 (by decide) (by decide)), bf3574, bp2863, bp2861, bp2864, (gF_any f2871), (gF_any f2870), bp2859, bp2860, (fun R c1 c2 c3 c4 c5 c6 c7 c8 c9 c10 c11 c12 c13 c14 c15 c16 c17 c18 c19 c20 c21 c22 c23 c24 c25 c26 c27 c28 c29 c30 c31 c32 c33 c34 c35 c36 c37 c38 => c35 z2882 z2883 z2884 z2916 z3507 z3508 z3514 z3571 o3572 f3574 z3576 hz2882 bz2882 hz2883 hz2884 r2920 ehs3433 ehs3438 ehs3446 ehs3457 ehs3479 ehs3484 ehs3490 ehs3504 hz3507 hz3508 r3518 r3570 hz3571 ht3573 ht3575 ez3576)⟩
      · have r3577 : z3514.toInt = 0 := gj_eq hc3569 (show Int32.toInt 0 = 0 by decide)
        have r3517' : gB z3514 0 0 := ⟨by omega, by omega⟩
        refine G_iload_n 2 d_cX7_step_261 rfl ?_
        refine G_iconst 3 d_cX7_step_262 (by decide +kernel) ?_
        refine G_icmp_eq 271 d_cX7_step_263 (by decide +kernel) (fun hc3578 => ?_) (fun hc3578 => ?_)
        · have r3579 : z2882.toInt = 3 := gj_eq hc3578 (show Int32.toInt 3 = 3 by decide)
          have bz2882' : gB z2882 3 3 := ⟨by omega, by omega⟩
          refine G_aload_n 3 d_cX7_step_271 rfl ?_
          refine G_iconst 1 d_cX7_step_272 (by decide +kernel) ?_
          refine G_callV (As := [.int 1]) (wr := [(q2843, .inr (5, [.ref q2848, .ref q2849, .ref q2850, .ref q2851, .ref q2852, .ref q2853, .ref q2854, .ref q2855, .ref q2856, .int p2865, .int p2866, .int p2867])), (q2848, .inl (I .int, 40, .inl f2872)), (q2849, .inl (I .int, 40, .inl f2873)), (q2850, .inl (I .int, 40, .inl f2874)), (q2851, .inl (I .int, 200, .inl f2875)), (q2852, .inl (I .int, 200, .inl f2876)), (q2853, .inl (I .int, 200, .inl f2877)), (q2854, .inl (I .int, 200, .inl f2878)), (q2855, .inl (I .int, 200, .inl f2879)), (q2856, .inl (I .int, 200, .inl f2880))]) (gV_ok D I) (ct_2837_Machine_halt l hl0 D I q2842 q2844 q2845 q2846 q2847 1 p2858 p2859 p2860 p2861 p2862 p2863 p2864 f2868 f2869 f2870 f2871 bp2858 bp2859 bp2861 bp2863) d_cX7_step_273 ⟨w_6_86, w_1_12, w_6_89, by decide, rfl, (Nat.le_of_ble_eq_true rfl), (Nat.le_of_ble_eq_true rfl)⟩ w_6_88 w_p_60 10 rfl rfl [10, 11, 12, 13, 14] [0, 1, 2, 3, 4, 5, 6, 7, 8, 9] rfl rfl rfl rfl (by decide) (Nat.le_of_ble_eq_true rfl) (Nat.le_of_ble_eq_true rfl) (Nat.le_of_ble_eq_true rfl) (fun r w hp => ?_) (fun _ _ _ z => z.elim)
          obtain ⟨o3580, rfl, rfl, bo3580, ht3581⟩ := hp
          change G _ _ _ _ _ _ _ (.int (-1) :: _) _ _ _
          refine G_ws (ws' := [(q2843, .inr (5, [.ref q2848, .ref q2849, .ref q2850, .ref q2851, .ref q2852, .ref q2853, .ref q2854, .ref q2855, .ref q2856, .int p2865, .int p2866, .int p2867])), (q2848, .inl (I .int, 40, .inl f2872)), (q2849, .inl (I .int, 40, .inl f2873)), (q2850, .inl (I .int, 40, .inl f2874)), (q2851, .inl (I .int, 200, .inl f2875)), (q2852, .inl (I .int, 200, .inl f2876)), (q2853, .inl (I .int, 200, .inl f2877)), (q2854, .inl (I .int, 200, .inl f2878)), (q2855, .inl (I .int, 200, .inl f2879)), (q2856, .inl (I .int, 200, .inl f2880)), (q2842, .inr (12, [.ref q2844, .ref q2845, .ref q2846, .ref q2847, .int p2858, .int p2859, .int p2860, .int p2861, .int p2862, .int p2863, .int o3580])), (q2844, .inl (I .int, 2048, .inl f2868)), (q2845, .inl (I .int, 100, .inl f2869)), (q2846, .inl (I .int, 100, .inl f2870)), (q2847, .inl (I .int, 512, .inl f2871))]) (cs' := 0) (sl' := 0) rfl rfl rfl ?_
          refine G_sub (ws' := [(q2842, .inr (12, [.ref q2844, .ref q2845, .ref q2846, .ref q2847, .int p2858, .int p2859, .int p2860, .int p2861, .int p2862, .int p2863, .int o3580])), (q2843, .inr (5, [.ref q2848, .ref q2849, .ref q2850, .ref q2851, .ref q2852, .ref q2853, .ref q2854, .ref q2855, .ref q2856, .int p2865, .int p2866, .int p2867])), (q2844, .inl (I .int, 2048, .inl f2868)), (q2845, .inl (I .int, 100, .inl f2869)), (q2846, .inl (I .int, 100, .inl f2870)), (q2847, .inl (I .int, 512, .inl f2871)), (q2848, .inl (I .int, 40, .inl f2872)), (q2849, .inl (I .int, 40, .inl f2873)), (q2850, .inl (I .int, 40, .inl f2874)), (q2851, .inl (I .int, 200, .inl f2875)), (q2852, .inl (I .int, 200, .inl f2876)), (q2853, .inl (I .int, 200, .inl f2877)), (q2854, .inl (I .int, 200, .inl f2878)), (q2855, .inl (I .int, 200, .inl f2879)), (q2856, .inl (I .int, 200, .inl f2880))]) [10, 0, 11, 12, 13, 14, 1, 2, 3, 4, 5, 6, 7, 8, 9] rfl rfl ?_
          exact G_iret d_cX7_step_276 rfl (Nat.le_of_ble_eq_true rfl) (Nat.le_of_ble_eq_true rfl) ⟨(-1), f2869, p2863, p2861, o3580, f2871, f2870, p2859, p2860, rfl, rfl, (gB_w (gBl (show Int32.toInt (-1) = (-1) by decide)) (by decide) (by decide)), (gF_any f2869), bp2863, bp2861, bo3580, (gF_any f2871), (gF_any f2870), bp2859, bp2860, (fun R c1 c2 c3 c4 c5 c6 c7 c8 c9 c10 c11 c12 c13 c14 c15 c16 c17 c18 c19 c20 c21 c22 c23 c24 c25 c26 c27 c28 c29 c30 c31 c32 c33 c34 c35 c36 c37 c38 => c36 z2882 z2883 z2884 z2916 z3507 z3508 z3514 o3580 hz2882 bz2882 hz2883 hz2884 r2920 ehs3433 ehs3438 ehs3446 ehs3457 ehs3479 ehs3484 ehs3490 ehs3504 hz3507 hz3508 r3518 r3577 r3579 ht3581)⟩
        · have r3582 : z2882.toInt ≠ 3 := gj_neq hc3578 (show Int32.toInt 3 = 3 by decide)
          refine G_iload_n 2 d_cX7_step_266 rfl ?_
          refine G_iconst 4 d_cX7_step_267 (by decide +kernel) ?_
          refine G_icmp_ne 277 d_cX7_step_268 (by decide +kernel) (fun hc3583 => ?_) (fun hc3583 => ?_)
          · have r3584 : z2882.toInt ≠ 4 := gj_neq hc3583 (show Int32.toInt 4 = 4 by decide)
            refine G_aload_n 3 d_cX7_step_277 rfl ?_
            refine G_getf 10 1 d_cX7_step_278 rfl (gk_X7 D I) (Nat.le_of_ble_eq_true rfl) w_2_161 rfl ?_
            refine G_aload_n 4 d_cX7_step_281 rfl ?_
            refine G_getfN 0 4 d_cX7_step_282 rfl (gk_X0 D I) (Nat.le_of_ble_eq_true rfl) (fun _ _ _ h => gn_w 20 rfl h) rfl ?_
            refine G_iload_n 5 d_cX7_step_285 rfl ?_
            refine G_iald 5 0 d_cX7_step_286 rfl rfl (gB_in bp2857 (by decide) (by decide)) (G_nam fun z3585 hz3585 => ?_)
            have bz3585 : gB z3585 (-2147483648) 2147483647 := gB_any z3585
            refine G_iload_n 2 d_cX7_step_287 rfl ?_
            refine G_iload 1 d_cX7_step_288 rfl ?_
            refine G_iload 0 d_cX7_step_290 rfl ?_
            refine G_callS (As := [.int z2882, .int z2916, .int z3514]) (wr := [(q2843, .inr (5, [.ref q2848, .ref q2849, .ref q2850, .ref q2851, .ref q2852, .ref q2853, .ref q2854, .ref q2855, .ref q2856, .int p2865, .int p2866, .int p2867])), (q2848, .inl (I .int, 40, .inl f2872)), (q2849, .inl (I .int, 40, .inl f2873)), (q2850, .inl (I .int, 40, .inl f2874)), (q2851, .inl (I .int, 200, .inl f2875)), (q2852, .inl (I .int, 200, .inl f2876)), (q2853, .inl (I .int, 200, .inl f2877)), (q2854, .inl (I .int, 200, .inl f2878)), (q2855, .inl (I .int, 200, .inl f2879)), (q2856, .inl (I .int, 200, .inl f2880)), (q2842, .inr (12, [.ref q2844, .ref q2845, .ref q2846, .ref q2847, .int p2858, .int p2859, .int p2860, .int p2861, .int p2862, .int p2863, .int p2864])), (q2844, .inl (I .int, 2048, .inl f2868)), (q2845, .inl (I .int, 100, .inl f2869)), (q2846, .inl (I .int, 100, .inl f2870)), (q2847, .inl (I .int, 512, .inl f2871))]) (gV_ok D I) (ct_3156_Machine_calculate l hl0 D I z2882 z2916 z3514 ) d_cX7_step_292 ⟨w_6_105, w_1_12, w_6_107, by decide, rfl, (Nat.le_of_ble_eq_true rfl), (Nat.le_of_ble_eq_true rfl)⟩ w_6_106 [] [0, 1, 2, 3, 4, 5, 6, 7, 8, 9, 10, 11, 12, 13, 14] rfl rfl rfl rfl (by decide) (Nat.le_of_ble_eq_true rfl) (Nat.le_of_ble_eq_true rfl) (Nat.le_of_ble_eq_true rfl) (fun r w hp => ?_) (fun _ _ _ z => z.elim)
            obtain ⟨o3586, rfl, rfl, bo3586, ht3587⟩ := hp
            change G _ _ _ _ _ _ _ (.int o3586 :: _) _ _ _
            refine G_ws (ws' := [(q2843, .inr (5, [.ref q2848, .ref q2849, .ref q2850, .ref q2851, .ref q2852, .ref q2853, .ref q2854, .ref q2855, .ref q2856, .int p2865, .int p2866, .int p2867])), (q2848, .inl (I .int, 40, .inl f2872)), (q2849, .inl (I .int, 40, .inl f2873)), (q2850, .inl (I .int, 40, .inl f2874)), (q2851, .inl (I .int, 200, .inl f2875)), (q2852, .inl (I .int, 200, .inl f2876)), (q2853, .inl (I .int, 200, .inl f2877)), (q2854, .inl (I .int, 200, .inl f2878)), (q2855, .inl (I .int, 200, .inl f2879)), (q2856, .inl (I .int, 200, .inl f2880)), (q2842, .inr (12, [.ref q2844, .ref q2845, .ref q2846, .ref q2847, .int p2858, .int p2859, .int p2860, .int p2861, .int p2862, .int p2863, .int p2864])), (q2844, .inl (I .int, 2048, .inl f2868)), (q2845, .inl (I .int, 100, .inl f2869)), (q2846, .inl (I .int, 100, .inl f2870)), (q2847, .inl (I .int, 512, .inl f2871))]) (cs' := 0) (sl' := 0) rfl rfl rfl ?_
            refine G_callS (As := [.ref q2845, .int z3585, .int o3586]) (wr := [(q2843, .inr (5, [.ref q2848, .ref q2849, .ref q2850, .ref q2851, .ref q2852, .ref q2853, .ref q2854, .ref q2855, .ref q2856, .int p2865, .int p2866, .int p2867])), (q2848, .inl (I .int, 40, .inl f2872)), (q2849, .inl (I .int, 40, .inl f2873)), (q2850, .inl (I .int, 40, .inl f2874)), (q2851, .inl (I .int, 200, .inl f2875)), (q2852, .inl (I .int, 200, .inl f2876)), (q2853, .inl (I .int, 200, .inl f2877)), (q2854, .inl (I .int, 200, .inl f2878)), (q2855, .inl (I .int, 200, .inl f2879)), (q2856, .inl (I .int, 200, .inl f2880)), (q2842, .inr (12, [.ref q2844, .ref q2845, .ref q2846, .ref q2847, .int p2858, .int p2859, .int p2860, .int p2861, .int p2862, .int p2863, .int p2864])), (q2844, .inl (I .int, 2048, .inl f2868)), (q2846, .inl (I .int, 100, .inl f2870)), (q2847, .inl (I .int, 512, .inl f2871))]) (gV_ok D I) (ct_2927_Machine_put l hl0 D I q2845 z3585 o3586 f2869 ) d_cX7_step_295 ⟨w_6_94, w_1_12, w_6_96, by decide, rfl, (Nat.le_of_ble_eq_true rfl), (Nat.le_of_ble_eq_true rfl)⟩ w_6_95 [12] [0, 1, 2, 3, 4, 5, 6, 7, 8, 9, 10, 11, 13, 14] rfl rfl rfl rfl (by decide) (Nat.le_of_ble_eq_true rfl) (Nat.le_of_ble_eq_true rfl) (Nat.le_of_ble_eq_true rfl) (fun r w hp => ?_) (fun _ _ _ z => z.elim)
            obtain ⟨f3588, rfl, rfl, bf3588, ht3589⟩ := hp
            change G _ _ _ _ _ _ _ _ _ _ _
            refine G_ws (ws' := [(q2843, .inr (5, [.ref q2848, .ref q2849, .ref q2850, .ref q2851, .ref q2852, .ref q2853, .ref q2854, .ref q2855, .ref q2856, .int p2865, .int p2866, .int p2867])), (q2848, .inl (I .int, 40, .inl f2872)), (q2849, .inl (I .int, 40, .inl f2873)), (q2850, .inl (I .int, 40, .inl f2874)), (q2851, .inl (I .int, 200, .inl f2875)), (q2852, .inl (I .int, 200, .inl f2876)), (q2853, .inl (I .int, 200, .inl f2877)), (q2854, .inl (I .int, 200, .inl f2878)), (q2855, .inl (I .int, 200, .inl f2879)), (q2856, .inl (I .int, 200, .inl f2880)), (q2842, .inr (12, [.ref q2844, .ref q2845, .ref q2846, .ref q2847, .int p2858, .int p2859, .int p2860, .int p2861, .int p2862, .int p2863, .int p2864])), (q2844, .inl (I .int, 2048, .inl f2868)), (q2846, .inl (I .int, 100, .inl f2870)), (q2847, .inl (I .int, 512, .inl f2871)), (q2845, .inl (I .int, 100, .inl f3588))]) (cs' := 0) (sl' := 0) rfl rfl rfl ?_
            refine G_iload_n 5 d_cX7_step_298 rfl ?_
            refine G_iconst 1 d_cX7_step_299 (by decide +kernel) ?_
            refine G_iadd d_cX7_step_300 (G_nam fun z3590 hz3590 => ?_)
            have ez3590 : z3590.toInt = p2857.toInt + 1 := by rw [gI_add hz3590 bp2857 (gBl (show Int32.toInt 1 = 1 by decide)) (by decide) (by decide), show Int32.toInt 1 = 1 from by decide]
            have bz3590 : gB z3590 1 200 := gB_add (gI_add hz3590 bp2857 (gBl (show Int32.toInt 1 = 1 by decide)) (by decide) (by decide)) bp2857 (gBl (show Int32.toInt 1 = 1 by decide)) (by decide) (by decide)
            refine G_sub (ws' := [(q2842, .inr (12, [.ref q2844, .ref q2845, .ref q2846, .ref q2847, .int p2858, .int p2859, .int p2860, .int p2861, .int p2862, .int p2863, .int p2864])), (q2843, .inr (5, [.ref q2848, .ref q2849, .ref q2850, .ref q2851, .ref q2852, .ref q2853, .ref q2854, .ref q2855, .ref q2856, .int p2865, .int p2866, .int p2867])), (q2844, .inl (I .int, 2048, .inl f2868)), (q2845, .inl (I .int, 100, .inl f3588)), (q2846, .inl (I .int, 100, .inl f2870)), (q2847, .inl (I .int, 512, .inl f2871)), (q2848, .inl (I .int, 40, .inl f2872)), (q2849, .inl (I .int, 40, .inl f2873)), (q2850, .inl (I .int, 40, .inl f2874)), (q2851, .inl (I .int, 200, .inl f2875)), (q2852, .inl (I .int, 200, .inl f2876)), (q2853, .inl (I .int, 200, .inl f2877)), (q2854, .inl (I .int, 200, .inl f2878)), (q2855, .inl (I .int, 200, .inl f2879)), (q2856, .inl (I .int, 200, .inl f2880))]) [10, 0, 11, 14, 12, 13, 1, 2, 3, 4, 5, 6, 7, 8, 9] rfl rfl ?_
            exact G_iret d_cX7_step_301 rfl (Nat.le_of_ble_eq_true rfl) (Nat.le_of_ble_eq_true rfl) ⟨z3590, f3588, p2863, p2861, p2864, f2871, f2870, p2859, p2860, rfl, rfl, (gB_w bz3590 (by decide) (by decide)), bf3588, bp2863, bp2861, bp2864, (gF_any f2871), (gF_any f2870), bp2859, bp2860, (fun R c1 c2 c3 c4 c5 c6 c7 c8 c9 c10 c11 c12 c13 c14 c15 c16 c17 c18 c19 c20 c21 c22 c23 c24 c25 c26 c27 c28 c29 c30 c31 c32 c33 c34 c35 c36 c37 c38 => c37 z2882 z2883 z2884 z2916 z3507 z3508 z3514 z3585 o3586 f3588 z3590 hz2882 bz2882 hz2883 hz2884 r2920 ehs3433 ehs3438 ehs3446 ehs3457 ehs3479 ehs3484 ehs3490 ehs3504 hz3507 hz3508 r3518 r3577 r3582 r3584 hz3585 ht3587 ht3589 ez3590)⟩
          · have r3591 : z2882.toInt = 4 := gj_eq hc3583 (show Int32.toInt 4 = 4 by decide)
            have bz2882' : gB z2882 4 4 := ⟨by omega, by omega⟩
            refine G_aload_n 3 d_cX7_step_271 rfl ?_
            refine G_iconst 1 d_cX7_step_272 (by decide +kernel) ?_
            refine G_callV (As := [.int 1]) (wr := [(q2843, .inr (5, [.ref q2848, .ref q2849, .ref q2850, .ref q2851, .ref q2852, .ref q2853, .ref q2854, .ref q2855, .ref q2856, .int p2865, .int p2866, .int p2867])), (q2848, .inl (I .int, 40, .inl f2872)), (q2849, .inl (I .int, 40, .inl f2873)), (q2850, .inl (I .int, 40, .inl f2874)), (q2851, .inl (I .int, 200, .inl f2875)), (q2852, .inl (I .int, 200, .inl f2876)), (q2853, .inl (I .int, 200, .inl f2877)), (q2854, .inl (I .int, 200, .inl f2878)), (q2855, .inl (I .int, 200, .inl f2879)), (q2856, .inl (I .int, 200, .inl f2880))]) (gV_ok D I) (ct_2837_Machine_halt l hl0 D I q2842 q2844 q2845 q2846 q2847 1 p2858 p2859 p2860 p2861 p2862 p2863 p2864 f2868 f2869 f2870 f2871 bp2858 bp2859 bp2861 bp2863) d_cX7_step_273 ⟨w_6_86, w_1_12, w_6_89, by decide, rfl, (Nat.le_of_ble_eq_true rfl), (Nat.le_of_ble_eq_true rfl)⟩ w_6_88 w_p_60 10 rfl rfl [10, 11, 12, 13, 14] [0, 1, 2, 3, 4, 5, 6, 7, 8, 9] rfl rfl rfl rfl (by decide) (Nat.le_of_ble_eq_true rfl) (Nat.le_of_ble_eq_true rfl) (Nat.le_of_ble_eq_true rfl) (fun r w hp => ?_) (fun _ _ _ z => z.elim)
            obtain ⟨o3592, rfl, rfl, bo3592, ht3593⟩ := hp
            change G _ _ _ _ _ _ _ (.int (-1) :: _) _ _ _
            refine G_ws (ws' := [(q2843, .inr (5, [.ref q2848, .ref q2849, .ref q2850, .ref q2851, .ref q2852, .ref q2853, .ref q2854, .ref q2855, .ref q2856, .int p2865, .int p2866, .int p2867])), (q2848, .inl (I .int, 40, .inl f2872)), (q2849, .inl (I .int, 40, .inl f2873)), (q2850, .inl (I .int, 40, .inl f2874)), (q2851, .inl (I .int, 200, .inl f2875)), (q2852, .inl (I .int, 200, .inl f2876)), (q2853, .inl (I .int, 200, .inl f2877)), (q2854, .inl (I .int, 200, .inl f2878)), (q2855, .inl (I .int, 200, .inl f2879)), (q2856, .inl (I .int, 200, .inl f2880)), (q2842, .inr (12, [.ref q2844, .ref q2845, .ref q2846, .ref q2847, .int p2858, .int p2859, .int p2860, .int p2861, .int p2862, .int p2863, .int o3592])), (q2844, .inl (I .int, 2048, .inl f2868)), (q2845, .inl (I .int, 100, .inl f2869)), (q2846, .inl (I .int, 100, .inl f2870)), (q2847, .inl (I .int, 512, .inl f2871))]) (cs' := 0) (sl' := 0) rfl rfl rfl ?_
            refine G_sub (ws' := [(q2842, .inr (12, [.ref q2844, .ref q2845, .ref q2846, .ref q2847, .int p2858, .int p2859, .int p2860, .int p2861, .int p2862, .int p2863, .int o3592])), (q2843, .inr (5, [.ref q2848, .ref q2849, .ref q2850, .ref q2851, .ref q2852, .ref q2853, .ref q2854, .ref q2855, .ref q2856, .int p2865, .int p2866, .int p2867])), (q2844, .inl (I .int, 2048, .inl f2868)), (q2845, .inl (I .int, 100, .inl f2869)), (q2846, .inl (I .int, 100, .inl f2870)), (q2847, .inl (I .int, 512, .inl f2871)), (q2848, .inl (I .int, 40, .inl f2872)), (q2849, .inl (I .int, 40, .inl f2873)), (q2850, .inl (I .int, 40, .inl f2874)), (q2851, .inl (I .int, 200, .inl f2875)), (q2852, .inl (I .int, 200, .inl f2876)), (q2853, .inl (I .int, 200, .inl f2877)), (q2854, .inl (I .int, 200, .inl f2878)), (q2855, .inl (I .int, 200, .inl f2879)), (q2856, .inl (I .int, 200, .inl f2880))]) [10, 0, 11, 12, 13, 14, 1, 2, 3, 4, 5, 6, 7, 8, 9] rfl rfl ?_
            exact G_iret d_cX7_step_276 rfl (Nat.le_of_ble_eq_true rfl) (Nat.le_of_ble_eq_true rfl) ⟨(-1), f2869, p2863, p2861, o3592, f2871, f2870, p2859, p2860, rfl, rfl, (gB_w (gBl (show Int32.toInt (-1) = (-1) by decide)) (by decide) (by decide)), (gF_any f2869), bp2863, bp2861, bo3592, (gF_any f2871), (gF_any f2870), bp2859, bp2860, (fun R c1 c2 c3 c4 c5 c6 c7 c8 c9 c10 c11 c12 c13 c14 c15 c16 c17 c18 c19 c20 c21 c22 c23 c24 c25 c26 c27 c28 c29 c30 c31 c32 c33 c34 c35 c36 c37 c38 => c38 z2882 z2883 z2884 z2916 z3507 z3508 z3514 o3592 hz2882 bz2882 hz2883 hz2884 r2920 ehs3433 ehs3438 ehs3446 ehs3457 ehs3479 ehs3484 ehs3490 ehs3504 hz3507 hz3508 r3518 r3577 r3582 r3591 ht3593)⟩
/- tl_Machine_perform_49: l3, Machine_steps, Machine_ending, Machine_block, Machine_answer, Machine_showCount, Machine_taken, Machine_shows, Machine_registers, Machine_slots; out: Machine_block, Machine_answer, Machine_showCount, Machine_steps, Machine_taken, Machine_ending, Machine_shows, Machine_registers, Machine_slots -/
def tl_Machine_perform_49 (a2 : Int32) (Code_lines : Int32) (Machine_givens : Int32) (Code_blocks : Int32) (Machine_given : Nat → Int32) (Code_first : Nat → Int32) (Code_firstGoal : Nat → Int32) (Code_secondGoal : Nat → Int32) (Code_op : Nat → Int32) (Code_set : Nat → Int32) (Code_left : Nat → Int32) (Code_leftNumber : Nat → Int32) (Code_right : Nat → Int32) (Code_rightNumber : Nat → Int32) (s1 : Int32) (s2 : Int32) (s3 : Int32) (s4 : Int32) (s5 : Int32) (s6 : Int32) (s7 : Int32) (s8 : Nat → Int32) (s9 : Nat → Int32) (s10 : Nat → Int32) (k : Nat) (e1 : Int32) (e2 : Int32) (e3 : Int32) (e4 : Int32) (e5 : Int32) (e6 : Int32) (e7 : Nat → Int32) (e8 : Nat → Int32) (e9 : Nat → Int32) : Prop := ∀ R : (Int32) → (Int32) → (Int32) → (Int32) → (Int32) → (Int32) → (Int32) → (Nat → Int32) → (Nat → Int32) → (Nat → Int32) → Nat → (Int32) → (Int32) → (Int32) → (Int32) → (Int32) → (Int32) → (Nat → Int32) → (Nat → Int32) → (Nat → Int32) → Prop,
  (∀ (l3_1 : Int32) (Machine_steps_1 : Int32) (Machine_ending_1 : Int32) (Machine_block_1 : Int32) (Machine_answer_1 : Int32) (Machine_showCount_1 : Int32) (Machine_taken_1 : Int32) (Machine_shows_1 : Nat → Int32) (Machine_registers_1 : Nat → Int32) (Machine_slots_1 : Nat → Int32), gB l3_1 (-1) 200 → gB Machine_steps_1 0 100000 → gB Machine_block_1 0 39 → gB Machine_showCount_1 0 512 → gB Machine_taken_1 0 2048 → a2.toInt ≤ Machine_steps_1.toInt → R l3_1 Machine_steps_1 Machine_ending_1 Machine_block_1 Machine_answer_1 Machine_showCount_1 Machine_taken_1 Machine_shows_1 Machine_registers_1 Machine_slots_1 106 Machine_block_1 Machine_answer_1 Machine_showCount_1 Machine_steps_1 Machine_taken_1 Machine_ending_1 Machine_shows_1 Machine_registers_1 Machine_slots_1) →
  (∀ (l3_1 : Int32) (Machine_steps_1 : Int32) (Machine_ending_1 : Int32) (Machine_block_1 : Int32) (Machine_answer_1 : Int32) (Machine_showCount_1 : Int32) (Machine_taken_1 : Int32) (Machine_shows_1 : Nat → Int32) (Machine_registers_1 : Nat → Int32) (Machine_slots_1 : Nat → Int32), gB l3_1 (-1) 200 → gB Machine_steps_1 0 100000 → gB Machine_block_1 0 39 → gB Machine_showCount_1 0 512 → gB Machine_taken_1 0 2048 → Machine_steps_1.toInt < a2.toInt → Machine_ending_1.toInt ≠ (-2) → R l3_1 Machine_steps_1 Machine_ending_1 Machine_block_1 Machine_answer_1 Machine_showCount_1 Machine_taken_1 Machine_shows_1 Machine_registers_1 Machine_slots_1 106 Machine_block_1 Machine_answer_1 Machine_showCount_1 Machine_steps_1 Machine_taken_1 Machine_ending_1 Machine_shows_1 Machine_registers_1 Machine_slots_1) →
  (∀ (l3_1 : Int32) (Machine_steps_1 : Int32) (Machine_ending_1 : Int32) (Machine_block_1 : Int32) (Machine_answer_1 : Int32) (Machine_showCount_1 : Int32) (Machine_taken_1 : Int32) (Machine_shows_1 : Nat → Int32) (Machine_registers_1 : Nat → Int32) (Machine_slots_1 : Nat → Int32) (x1 : Int32) (x2 : Int32) (k : Nat) (e1 : Int32) (e2 : Int32) (e3 : Int32) (e4 : Int32) (e5 : Int32) (e6 : Int32) (e7 : Nat → Int32) (e8 : Nat → Int32) (e9 : Nat → Int32), gB l3_1 (-1) 200 → gB Machine_steps_1 0 100000 → gB Machine_block_1 0 39 → gB Machine_showCount_1 0 512 → gB Machine_taken_1 0 2048 → Machine_steps_1.toInt < a2.toInt → Machine_ending_1.toInt = (-2) → l3_1.toInt < 0 → tr_Machine_halt (4 : Int32) x1 → x2.toInt = Machine_steps_1.toInt + 1 → R (-1 : Int32) x2 x1 Machine_block_1 Machine_answer_1 Machine_showCount_1 Machine_taken_1 Machine_shows_1 Machine_registers_1 Machine_slots_1 k e1 e2 e3 e4 e5 e6 e7 e8 e9 → R l3_1 Machine_steps_1 Machine_ending_1 Machine_block_1 Machine_answer_1 Machine_showCount_1 Machine_taken_1 Machine_shows_1 Machine_registers_1 Machine_slots_1 k e1 e2 e3 e4 e5 e6 e7 e8 e9) →
  (∀ (l3_1 : Int32) (Machine_steps_1 : Int32) (Machine_ending_1 : Int32) (Machine_block_1 : Int32) (Machine_answer_1 : Int32) (Machine_showCount_1 : Int32) (Machine_taken_1 : Int32) (Machine_shows_1 : Nat → Int32) (Machine_registers_1 : Nat → Int32) (Machine_slots_1 : Nat → Int32) (x1 : Int32) (x2 : Int32) (k : Nat) (e1 : Int32) (e2 : Int32) (e3 : Int32) (e4 : Int32) (e5 : Int32) (e6 : Int32) (e7 : Nat → Int32) (e8 : Nat → Int32) (e9 : Nat → Int32), gB l3_1 (-1) 200 → gB Machine_steps_1 0 100000 → gB Machine_block_1 0 39 → gB Machine_showCount_1 0 512 → gB Machine_taken_1 0 2048 → Machine_steps_1.toInt < a2.toInt → Machine_ending_1.toInt = (-2) → 0 ≤ l3_1.toInt → Code_lines.toInt ≤ l3_1.toInt → tr_Machine_halt (4 : Int32) x1 → x2.toInt = Machine_steps_1.toInt + 1 → R (-1 : Int32) x2 x1 Machine_block_1 Machine_answer_1 Machine_showCount_1 Machine_taken_1 Machine_shows_1 Machine_registers_1 Machine_slots_1 k e1 e2 e3 e4 e5 e6 e7 e8 e9 → R l3_1 Machine_steps_1 Machine_ending_1 Machine_block_1 Machine_answer_1 Machine_showCount_1 Machine_taken_1 Machine_shows_1 Machine_registers_1 Machine_slots_1 k e1 e2 e3 e4 e5 e6 e7 e8 e9) →
  (∀ (l3_1 : Int32) (Machine_steps_1 : Int32) (Machine_ending_1 : Int32) (Machine_block_1 : Int32) (Machine_answer_1 : Int32) (Machine_showCount_1 : Int32) (Machine_taken_1 : Int32) (Machine_shows_1 : Nat → Int32) (Machine_registers_1 : Nat → Int32) (Machine_slots_1 : Nat → Int32) (x1 : Int32) (x2 : Nat → Int32) (x3 : Int32) (x4 : Int32) (x5 : Int32) (x6 : Nat → Int32) (x7 : Nat → Int32) (x8 : Int32) (x9 : Int32) (x10 : Int32) (k : Nat) (e1 : Int32) (e2 : Int32) (e3 : Int32) (e4 : Int32) (e5 : Int32) (e6 : Int32) (e7 : Nat → Int32) (e8 : Nat → Int32) (e9 : Nat → Int32), gB l3_1 (-1) 200 → gB Machine_steps_1 0 100000 → gB Machine_block_1 0 39 → gB Machine_showCount_1 0 512 → gB Machine_taken_1 0 2048 → Machine_steps_1.toInt < a2.toInt → Machine_ending_1.toInt = (-2) → 0 ≤ l3_1.toInt → l3_1.toInt < Code_lines.toInt → gB x1 (-1) 200 → gB x3 0 2048 → gB x4 0 512 → gB x8 0 39 → tr_Machine_step l3_1 Machine_givens Machine_block_1 Machine_answer_1 Machine_showCount_1 Machine_taken_1 Machine_ending_1 Code_blocks Machine_given Machine_registers_1 Machine_slots_1 Machine_shows_1 Code_first Code_firstGoal Code_secondGoal Code_op Code_set Code_left Code_leftNumber Code_right Code_rightNumber x1 x2 x3 x4 x5 x6 x7 x8 x9 → x10.toInt = Machine_steps_1.toInt + 1 → R x1 x10 x5 x8 x9 x4 x3 x6 x2 x7 k e1 e2 e3 e4 e5 e6 e7 e8 e9 → R l3_1 Machine_steps_1 Machine_ending_1 Machine_block_1 Machine_answer_1 Machine_showCount_1 Machine_taken_1 Machine_shows_1 Machine_registers_1 Machine_slots_1 k e1 e2 e3 e4 e5 e6 e7 e8 e9) →
  R s1 s2 s3 s4 s5 s6 s7 s8 s9 s10 k e1 e2 e3 e4 e5 e6 e7 e8 e9
/- tr_Machine_perform: Machine_block, Machine_answer, Machine_showCount, Machine_steps, Machine_taken, Machine_ending, Machine_registers, Machine_slots, Machine_shows -/
def tr_Machine_perform (a2 : Int32) (Machine_givens : Int32) (Code_blocks : Int32) (Code_lines : Int32) (Machine_given : Nat → Int32) (Machine_registers : Nat → Int32) (Machine_slots : Nat → Int32) (Machine_shows : Nat → Int32) (Code_first : Nat → Int32) (Code_firstGoal : Nat → Int32) (Code_secondGoal : Nat → Int32) (Code_op : Nat → Int32) (Code_set : Nat → Int32) (Code_left : Nat → Int32) (Code_leftNumber : Nat → Int32) (Code_right : Nat → Int32) (Code_rightNumber : Nat → Int32) (o1 : Int32) (o2 : Int32) (o3 : Int32) (o4 : Int32) (o5 : Int32) (o6 : Int32) (o7 : Nat → Int32) (o8 : Nat → Int32) (o9 : Nat → Int32) : Prop := ∀ R : (Int32) → (Int32) → (Int32) → (Int32) → (Int32) → (Int32) → (Nat → Int32) → (Nat → Int32) → (Nat → Int32) → Prop,
  (∀ (x1 : Nat → Int32) (x2 : Nat → Int32) (x3 : Int32) (x4 : Int32) (x5 : Int32) (x6 : Int32) (x7 : Int32) (x8 : Int32) (x9 : Nat → Int32) (x10 : Nat → Int32) (x11 : Nat → Int32), tr_Arrays_fill3 (0 : Int32) Machine_registers x1 → tr_Arrays_fill3 (0 : Int32) Machine_slots x2 → tl_Machine_perform_49 a2 Code_lines Machine_givens Code_blocks Machine_given Code_first Code_firstGoal Code_secondGoal Code_op Code_set Code_left Code_leftNumber Code_right Code_rightNumber (0 : Int32) (0 : Int32) (-2 : Int32) (0 : Int32) (0 : Int32) (0 : Int32) (0 : Int32) Machine_shows x1 x2 106 x3 x4 x5 x6 x7 x8 x9 x10 x11 → x8.toInt ≠ (-2) → R x3 x4 x5 x6 x7 x8 x10 x11 x9) →
  (∀ (x1 : Nat → Int32) (x2 : Nat → Int32) (x3 : Int32) (x4 : Int32) (x5 : Int32) (x6 : Int32) (x7 : Int32) (x8 : Int32) (x9 : Nat → Int32) (x10 : Nat → Int32) (x11 : Nat → Int32), tr_Arrays_fill3 (0 : Int32) Machine_registers x1 → tr_Arrays_fill3 (0 : Int32) Machine_slots x2 → tl_Machine_perform_49 a2 Code_lines Machine_givens Code_blocks Machine_given Code_first Code_firstGoal Code_secondGoal Code_op Code_set Code_left Code_leftNumber Code_right Code_rightNumber (0 : Int32) (0 : Int32) (-2 : Int32) (0 : Int32) (0 : Int32) (0 : Int32) (0 : Int32) Machine_shows x1 x2 106 x3 x4 x5 x6 x7 x8 x9 x10 x11 → x8.toInt = (-2) → R x3 x4 x5 x6 x7 (4 : Int32) x10 x11 x9) →
  R o1 o2 o3 o4 o5 o6 o7 o8 o9
end
